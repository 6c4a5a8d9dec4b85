section
-- ===== PART A: goes FIRST, ahead of the names: the tables' words, and 'selects' of the private methods out of them =====
/-- a private method of a class that the tables say can be made, by its rows of tables_1 -/
def lw_okq (q : MethodName × Nat) : Prop := (q.1.cls ≠ "java/lang/invoke/MethodHandle" ∧ q.1.cls ≠ "java/lang/invoke/VarHandle") ∧ Cond.instantiable q.1.cls q.2 ∈ tables_1 ∧ Cond.privateMethod q.1 ∈ tables_1 ∧ Cond.instanceMethod q.1 ∈ tables_1
theorem lw_p0 : lw_okq (⟨"NestedDeeds", "link", "(IIII)I"⟩, 13) := ⟨⟨by decide +kernel, by decide +kernel⟩, List.mem_of_getElem? (i := 18) (by decide +kernel), List.mem_of_getElem? (i := 407) (by decide +kernel), List.mem_of_getElem? (i := 408) (by decide +kernel)⟩
theorem lw_p1 : lw_okq (⟨"NestedDeeds$Walker", "visit", "(II)Z"⟩, 14) := ⟨⟨by decide +kernel, by decide +kernel⟩, List.mem_of_getElem? (i := 269) (by decide +kernel), List.mem_of_getElem? (i := 445) (by decide +kernel), List.mem_of_getElem? (i := 446) (by decide +kernel)⟩
theorem lw_p2 : lw_okq (⟨"NestedDeeds$Walker", "halt", "(I)Z"⟩, 14) := ⟨⟨by decide +kernel, by decide +kernel⟩, List.mem_of_getElem? (i := 269) (by decide +kernel), List.mem_of_getElem? (i := 449) (by decide +kernel), List.mem_of_getElem? (i := 450) (by decide +kernel)⟩
theorem lw_p3 : lw_okq (⟨"NestedDeeds$Copying", "sortParts", "(II)V"⟩, 10) := ⟨⟨by decide +kernel, by decide +kernel⟩, List.mem_of_getElem? (i := 234) (by decide +kernel), List.mem_of_getElem? (i := 464) (by decide +kernel), List.mem_of_getElem? (i := 465) (by decide +kernel)⟩
theorem lw_p4 : lw_okq (⟨"NestedDeeds$Walker", "byStack", "(I)V"⟩, 14) := ⟨⟨by decide +kernel, by decide +kernel⟩, List.mem_of_getElem? (i := 269) (by decide +kernel), List.mem_of_getElem? (i := 503) (by decide +kernel), List.mem_of_getElem? (i := 504) (by decide +kernel)⟩
theorem lw_p5 : lw_okq (⟨"NestedDeeds$Walker", "nextPart", "(I)I"⟩, 14) := ⟨⟨by decide +kernel, by decide +kernel⟩, List.mem_of_getElem? (i := 269) (by decide +kernel), List.mem_of_getElem? (i := 508) (by decide +kernel), List.mem_of_getElem? (i := 509) (by decide +kernel)⟩
theorem lw_p6 : lw_okq (⟨"NestedDeeds$Weighing", "placeOfChoice", "(III)I"⟩, 4) := ⟨⟨by decide +kernel, by decide +kernel⟩, List.mem_of_getElem? (i := 168) (by decide +kernel), List.mem_of_getElem? (i := 530) (by decide +kernel), List.mem_of_getElem? (i := 531) (by decide +kernel)⟩
theorem lw_p7 : lw_okq (⟨"NestedDeeds$Weighing", "takeUpLike", "(IIJ)V"⟩, 4) := ⟨⟨by decide +kernel, by decide +kernel⟩, List.mem_of_getElem? (i := 168) (by decide +kernel), List.mem_of_getElem? (i := 594) (by decide +kernel), List.mem_of_getElem? (i := 595) (by decide +kernel)⟩
theorem lw_p8 : lw_okq (⟨"NestedDeeds$Walker", "bySteps", "()V"⟩, 14) := ⟨⟨by decide +kernel, by decide +kernel⟩, List.mem_of_getElem? (i := 269) (by decide +kernel), List.mem_of_getElem? (i := 603) (by decide +kernel), List.mem_of_getElem? (i := 604) (by decide +kernel)⟩
theorem lw_p9 : lw_okq (⟨"NestedDeeds$Walker", "take", "(I)I"⟩, 14) := ⟨⟨by decide +kernel, by decide +kernel⟩, List.mem_of_getElem? (i := 269) (by decide +kernel), List.mem_of_getElem? (i := 607) (by decide +kernel), List.mem_of_getElem? (i := 608) (by decide +kernel)⟩
theorem lw_p10 : lw_okq (⟨"NestedDeeds$Walker", "byCalls", "(II)V"⟩, 14) := ⟨⟨by decide +kernel, by decide +kernel⟩, List.mem_of_getElem? (i := 269) (by decide +kernel), List.mem_of_getElem? (i := 614) (by decide +kernel), List.mem_of_getElem? (i := 615) (by decide +kernel)⟩
theorem lw_p11 : lw_okq (⟨"NestedDeeds", "remake", "(IIZ)I"⟩, 13) := ⟨⟨by decide +kernel, by decide +kernel⟩, List.mem_of_getElem? (i := 18) (by decide +kernel), List.mem_of_getElem? (i := 673) (by decide +kernel), List.mem_of_getElem? (i := 674) (by decide +kernel)⟩
theorem lw_p12 : lw_okq (⟨"NestedDeeds$Copying", "reckonMarks", "(I)V"⟩, 10) := ⟨⟨by decide +kernel, by decide +kernel⟩, List.mem_of_getElem? (i := 234) (by decide +kernel), List.mem_of_getElem? (i := 687) (by decide +kernel), List.mem_of_getElem? (i := 688) (by decide +kernel)⟩
theorem lw_p13 : lw_okq (⟨"NestedDeeds$Reader", "scanKind", "()Z"⟩, 11) := ⟨⟨by decide +kernel, by decide +kernel⟩, List.mem_of_getElem? (i := 93) (by decide +kernel), List.mem_of_getElem? (i := 731) (by decide +kernel), List.mem_of_getElem? (i := 732) (by decide +kernel)⟩
theorem lw_p14 : lw_okq (⟨"NestedDeeds$Reader", "scanNumber", "()Z"⟩, 11) := ⟨⟨by decide +kernel, by decide +kernel⟩, List.mem_of_getElem? (i := 93) (by decide +kernel), List.mem_of_getElem? (i := 737) (by decide +kernel), List.mem_of_getElem? (i := 738) (by decide +kernel)⟩
theorem lw_p15 : lw_okq (⟨"NestedDeeds$Reader", "scanFigures", "()J"⟩, 11) := ⟨⟨by decide +kernel, by decide +kernel⟩, List.mem_of_getElem? (i := 93) (by decide +kernel), List.mem_of_getElem? (i := 744) (by decide +kernel), List.mem_of_getElem? (i := 745) (by decide +kernel)⟩
def lw_privs_1 : List (MethodName × Nat) := [(⟨"NestedDeeds", "link", "(IIII)I"⟩, 13), (⟨"NestedDeeds$Walker", "visit", "(II)Z"⟩, 14), (⟨"NestedDeeds$Walker", "halt", "(I)Z"⟩, 14), (⟨"NestedDeeds$Copying", "sortParts", "(II)V"⟩, 10), (⟨"NestedDeeds$Walker", "byStack", "(I)V"⟩, 14), (⟨"NestedDeeds$Walker", "nextPart", "(I)I"⟩, 14), (⟨"NestedDeeds$Weighing", "placeOfChoice", "(III)I"⟩, 4), (⟨"NestedDeeds$Weighing", "takeUpLike", "(IIJ)V"⟩, 4), (⟨"NestedDeeds$Walker", "bySteps", "()V"⟩, 14), (⟨"NestedDeeds$Walker", "take", "(I)I"⟩, 14), (⟨"NestedDeeds$Walker", "byCalls", "(II)V"⟩, 14), (⟨"NestedDeeds", "remake", "(IIZ)I"⟩, 13), (⟨"NestedDeeds$Copying", "reckonMarks", "(I)V"⟩, 10), (⟨"NestedDeeds$Reader", "scanKind", "()Z"⟩, 11), (⟨"NestedDeeds$Reader", "scanNumber", "()Z"⟩, 11), (⟨"NestedDeeds$Reader", "scanFigures", "()J"⟩, 11)]
theorem lw_r1 : ∀ q ∈ lw_privs_1, lw_okq q := List.forall_mem_cons.mpr ⟨lw_p0, List.forall_mem_cons.mpr ⟨lw_p1, List.forall_mem_cons.mpr ⟨lw_p2, List.forall_mem_cons.mpr ⟨lw_p3, List.forall_mem_cons.mpr ⟨lw_p4, List.forall_mem_cons.mpr ⟨lw_p5, List.forall_mem_cons.mpr ⟨lw_p6, List.forall_mem_cons.mpr ⟨lw_p7, List.forall_mem_cons.mpr ⟨lw_p8, List.forall_mem_cons.mpr ⟨lw_p9, List.forall_mem_cons.mpr ⟨lw_p10, List.forall_mem_cons.mpr ⟨lw_p11, List.forall_mem_cons.mpr ⟨lw_p12, List.forall_mem_cons.mpr ⟨lw_p13, List.forall_mem_cons.mpr ⟨lw_p14, List.forall_mem_cons.mpr ⟨lw_p15, fun _ h => absurd h List.not_mem_nil⟩⟩⟩⟩⟩⟩⟩⟩⟩⟩⟩⟩⟩⟩⟩⟩
theorem lw_p16 : lw_okq (⟨"NestedDeeds$Reader", "openDeed", "()V"⟩, 11) := ⟨⟨by decide +kernel, by decide +kernel⟩, List.mem_of_getElem? (i := 93) (by decide +kernel), List.mem_of_getElem? (i := 754) (by decide +kernel), List.mem_of_getElem? (i := 755) (by decide +kernel)⟩
theorem lw_p17 : lw_okq (⟨"NestedDeeds$Reader", "finishDeed", "(III)V"⟩, 11) := ⟨⟨by decide +kernel, by decide +kernel⟩, List.mem_of_getElem? (i := 93) (by decide +kernel), List.mem_of_getElem? (i := 758) (by decide +kernel), List.mem_of_getElem? (i := 759) (by decide +kernel)⟩
theorem lw_p18 : lw_okq (⟨"NestedDeeds$Reader", "closeDeeds", "()V"⟩, 11) := ⟨⟨by decide +kernel, by decide +kernel⟩, List.mem_of_getElem? (i := 93) (by decide +kernel), List.mem_of_getElem? (i := 763) (by decide +kernel), List.mem_of_getElem? (i := 764) (by decide +kernel)⟩
theorem lw_p19 : lw_okq (⟨"NestedDeedsModel", "add", "(II)I"⟩, 41) := ⟨⟨by decide +kernel, by decide +kernel⟩, List.mem_of_getElem? (i := 776) (by decide +kernel), List.mem_of_getElem? (i := 913) (by decide +kernel), List.mem_of_getElem? (i := 914) (by decide +kernel)⟩
theorem lw_p20 : lw_okq (⟨"NestedDeedsModel", "isDeed", "(I)Z"⟩, 41) := ⟨⟨by decide +kernel, by decide +kernel⟩, List.mem_of_getElem? (i := 776) (by decide +kernel), List.mem_of_getElem? (i := 921) (by decide +kernel), List.mem_of_getElem? (i := 922) (by decide +kernel)⟩
theorem lw_p21 : lw_okq (⟨"NestedDeedsModel", "addPart", "(II)I"⟩, 41) := ⟨⟨by decide +kernel, by decide +kernel⟩, List.mem_of_getElem? (i := 776) (by decide +kernel), List.mem_of_getElem? (i := 925) (by decide +kernel), List.mem_of_getElem? (i := 926) (by decide +kernel)⟩
theorem lw_p22 : lw_okq (⟨"NestedDeedsModel", "partAt", "(II)I"⟩, 41) := ⟨⟨by decide +kernel, by decide +kernel⟩, List.mem_of_getElem? (i := 776) (by decide +kernel), List.mem_of_getElem? (i := 950) (by decide +kernel), List.mem_of_getElem? (i := 951) (by decide +kernel)⟩
theorem lw_p23 : lw_okq (⟨"NestedDeedsModel", "bad", "()I"⟩, 41) := ⟨⟨by decide +kernel, by decide +kernel⟩, List.mem_of_getElem? (i := 776) (by decide +kernel), List.mem_of_getElem? (i := 958) (by decide +kernel), List.mem_of_getElem? (i := 959) (by decide +kernel)⟩
theorem lw_p24 : lw_okq (⟨"NestedDeedsModel", "walkAll", "(I)I"⟩, 41) := ⟨⟨by decide +kernel, by decide +kernel⟩, List.mem_of_getElem? (i := 776) (by decide +kernel), List.mem_of_getElem? (i := 962) (by decide +kernel), List.mem_of_getElem? (i := 963) (by decide +kernel)⟩
theorem lw_p25 : lw_okq (⟨"NestedDeedsModel", "walk", "(IZZII)I"⟩, 41) := ⟨⟨by decide +kernel, by decide +kernel⟩, List.mem_of_getElem? (i := 776) (by decide +kernel), List.mem_of_getElem? (i := 966) (by decide +kernel), List.mem_of_getElem? (i := 967) (by decide +kernel)⟩
theorem lw_p26 : lw_okq (⟨"NestedDeedsModel", "begin", "()V"⟩, 41) := ⟨⟨by decide +kernel, by decide +kernel⟩, List.mem_of_getElem? (i := 776) (by decide +kernel), List.mem_of_getElem? (i := 970) (by decide +kernel), List.mem_of_getElem? (i := 971) (by decide +kernel)⟩
theorem lw_p27 : lw_okq (⟨"NestedDeedsModel", "visit", "(II)Z"⟩, 41) := ⟨⟨by decide +kernel, by decide +kernel⟩, List.mem_of_getElem? (i := 776) (by decide +kernel), List.mem_of_getElem? (i := 974) (by decide +kernel), List.mem_of_getElem? (i := 975) (by decide +kernel)⟩
theorem lw_p28 : lw_okq (⟨"NestedDeedsModel", "nextFrom", "(Z)I"⟩, 41) := ⟨⟨by decide +kernel, by decide +kernel⟩, List.mem_of_getElem? (i := 776) (by decide +kernel), List.mem_of_getElem? (i := 978) (by decide +kernel), List.mem_of_getElem? (i := 979) (by decide +kernel)⟩
theorem lw_p29 : lw_okq (⟨"NestedDeedsModel", "lookedAt", "(I)I"⟩, 41) := ⟨⟨by decide +kernel, by decide +kernel⟩, List.mem_of_getElem? (i := 776) (by decide +kernel), List.mem_of_getElem? (i := 982) (by decide +kernel), List.mem_of_getElem? (i := 983) (by decide +kernel)⟩
theorem lw_p30 : lw_okq (⟨"NestedDeedsModel", "chosen", "(I)I"⟩, 41) := ⟨⟨by decide +kernel, by decide +kernel⟩, List.mem_of_getElem? (i := 776) (by decide +kernel), List.mem_of_getElem? (i := 986) (by decide +kernel), List.mem_of_getElem? (i := 987) (by decide +kernel)⟩
theorem lw_p31 : lw_okq (⟨"NestedDeedsModel", "ended", "()I"⟩, 41) := ⟨⟨by decide +kernel, by decide +kernel⟩, List.mem_of_getElem? (i := 776) (by decide +kernel), List.mem_of_getElem? (i := 990) (by decide +kernel), List.mem_of_getElem? (i := 991) (by decide +kernel)⟩
def lw_privs_2 : List (MethodName × Nat) := [(⟨"NestedDeeds$Reader", "openDeed", "()V"⟩, 11), (⟨"NestedDeeds$Reader", "finishDeed", "(III)V"⟩, 11), (⟨"NestedDeeds$Reader", "closeDeeds", "()V"⟩, 11), (⟨"NestedDeedsModel", "add", "(II)I"⟩, 41), (⟨"NestedDeedsModel", "isDeed", "(I)Z"⟩, 41), (⟨"NestedDeedsModel", "addPart", "(II)I"⟩, 41), (⟨"NestedDeedsModel", "partAt", "(II)I"⟩, 41), (⟨"NestedDeedsModel", "bad", "()I"⟩, 41), (⟨"NestedDeedsModel", "walkAll", "(I)I"⟩, 41), (⟨"NestedDeedsModel", "walk", "(IZZII)I"⟩, 41), (⟨"NestedDeedsModel", "begin", "()V"⟩, 41), (⟨"NestedDeedsModel", "visit", "(II)Z"⟩, 41), (⟨"NestedDeedsModel", "nextFrom", "(Z)I"⟩, 41), (⟨"NestedDeedsModel", "lookedAt", "(I)I"⟩, 41), (⟨"NestedDeedsModel", "chosen", "(I)I"⟩, 41), (⟨"NestedDeedsModel", "ended", "()I"⟩, 41)]
theorem lw_r2 : ∀ q ∈ lw_privs_2, lw_okq q := List.forall_mem_cons.mpr ⟨lw_p16, List.forall_mem_cons.mpr ⟨lw_p17, List.forall_mem_cons.mpr ⟨lw_p18, List.forall_mem_cons.mpr ⟨lw_p19, List.forall_mem_cons.mpr ⟨lw_p20, List.forall_mem_cons.mpr ⟨lw_p21, List.forall_mem_cons.mpr ⟨lw_p22, List.forall_mem_cons.mpr ⟨lw_p23, List.forall_mem_cons.mpr ⟨lw_p24, List.forall_mem_cons.mpr ⟨lw_p25, List.forall_mem_cons.mpr ⟨lw_p26, List.forall_mem_cons.mpr ⟨lw_p27, List.forall_mem_cons.mpr ⟨lw_p28, List.forall_mem_cons.mpr ⟨lw_p29, List.forall_mem_cons.mpr ⟨lw_p30, List.forall_mem_cons.mpr ⟨lw_p31, fun _ h => absurd h List.not_mem_nil⟩⟩⟩⟩⟩⟩⟩⟩⟩⟩⟩⟩⟩⟩⟩⟩
theorem lw_p32 : lw_okq (⟨"NestedDeedsModel", "workOut", "(I)V"⟩, 41) := ⟨⟨by decide +kernel, by decide +kernel⟩, List.mem_of_getElem? (i := 776) (by decide +kernel), List.mem_of_getElem? (i := 1002) (by decide +kernel), List.mem_of_getElem? (i := 1003) (by decide +kernel)⟩
theorem lw_p33 : lw_okq (⟨"NestedDeedsModel", "worthIn", "(I)J"⟩, 41) := ⟨⟨by decide +kernel, by decide +kernel⟩, List.mem_of_getElem? (i := 776) (by decide +kernel), List.mem_of_getElem? (i := 1006) (by decide +kernel), List.mem_of_getElem? (i := 1007) (by decide +kernel)⟩
theorem lw_p34 : lw_okq (⟨"NestedDeedsModel", "byAll", "(I)J"⟩, 41) := ⟨⟨by decide +kernel, by decide +kernel⟩, List.mem_of_getElem? (i := 776) (by decide +kernel), List.mem_of_getElem? (i := 1010) (by decide +kernel), List.mem_of_getElem? (i := 1011) (by decide +kernel)⟩
theorem lw_p35 : lw_okq (⟨"NestedDeedsModel", "markIn", "(I)J"⟩, 41) := ⟨⟨by decide +kernel, by decide +kernel⟩, List.mem_of_getElem? (i := 776) (by decide +kernel), List.mem_of_getElem? (i := 1017) (by decide +kernel), List.mem_of_getElem? (i := 1018) (by decide +kernel)⟩
theorem lw_p36 : lw_okq (⟨"NestedDeedsModel", "differ", "(II)Z"⟩, 41) := ⟨⟨by decide +kernel, by decide +kernel⟩, List.mem_of_getElem? (i := 776) (by decide +kernel), List.mem_of_getElem? (i := 1032) (by decide +kernel), List.mem_of_getElem? (i := 1033) (by decide +kernel)⟩
theorem lw_p37 : lw_okq (⟨"NestedDeedsModel", "putDeed", "(I)V"⟩, 41) := ⟨⟨by decide +kernel, by decide +kernel⟩, List.mem_of_getElem? (i := 776) (by decide +kernel), List.mem_of_getElem? (i := 1040) (by decide +kernel), List.mem_of_getElem? (i := 1041) (by decide +kernel)⟩
theorem lw_p38 : lw_okq (⟨"NestedDeedsModel", "put", "(I)V"⟩, 41) := ⟨⟨by decide +kernel, by decide +kernel⟩, List.mem_of_getElem? (i := 776) (by decide +kernel), List.mem_of_getElem? (i := 1044) (by decide +kernel), List.mem_of_getElem? (i := 1045) (by decide +kernel)⟩
theorem lw_p39 : lw_okq (⟨"NestedDeedsModel", "anew", "(IZIZ)I"⟩, 41) := ⟨⟨by decide +kernel, by decide +kernel⟩, List.mem_of_getElem? (i := 776) (by decide +kernel), List.mem_of_getElem? (i := 1062) (by decide +kernel), List.mem_of_getElem? (i := 1063) (by decide +kernel)⟩
theorem lw_p40 : lw_okq (⟨"NestedDeedsModel", "build", "(ZIZ)I"⟩, 41) := ⟨⟨by decide +kernel, by decide +kernel⟩, List.mem_of_getElem? (i := 776) (by decide +kernel), List.mem_of_getElem? (i := 1066) (by decide +kernel), List.mem_of_getElem? (i := 1067) (by decide +kernel)⟩
theorem lw_p41 : lw_okq (⟨"NestedDeedsModel", "plant", "(IIJIZ)V"⟩, 41) := ⟨⟨by decide +kernel, by decide +kernel⟩, List.mem_of_getElem? (i := 776) (by decide +kernel), List.mem_of_getElem? (i := 1071) (by decide +kernel), List.mem_of_getElem? (i := 1072) (by decide +kernel)⟩
theorem lw_p42 : lw_okq (⟨"NestedDeedsModel", "grow", "()I"⟩, 41) := ⟨⟨by decide +kernel, by decide +kernel⟩, List.mem_of_getElem? (i := 776) (by decide +kernel), List.mem_of_getElem? (i := 1075) (by decide +kernel), List.mem_of_getElem? (i := 1076) (by decide +kernel)⟩
theorem lw_p43 : lw_okq (⟨"NestedDeedsModel", "readOne", "(I)V"⟩, 41) := ⟨⟨by decide +kernel, by decide +kernel⟩, List.mem_of_getElem? (i := 776) (by decide +kernel), List.mem_of_getElem? (i := 1104) (by decide +kernel), List.mem_of_getElem? (i := 1105) (by decide +kernel)⟩
theorem lw_p44 : lw_okq (⟨"NestedDeedsModel", "now", "()I"⟩, 41) := ⟨⟨by decide +kernel, by decide +kernel⟩, List.mem_of_getElem? (i := 776) (by decide +kernel), List.mem_of_getElem? (i := 1108) (by decide +kernel), List.mem_of_getElem? (i := 1109) (by decide +kernel)⟩
theorem lw_p45 : lw_okq (⟨"NestedDeedsModel", "figures", "()I"⟩, 41) := ⟨⟨by decide +kernel, by decide +kernel⟩, List.mem_of_getElem? (i := 776) (by decide +kernel), List.mem_of_getElem? (i := 1112) (by decide +kernel), List.mem_of_getElem? (i := 1113) (by decide +kernel)⟩
theorem lw_p46 : lw_okq (⟨"NestedDeedsModel", "isFigure", "()Z"⟩, 41) := ⟨⟨by decide +kernel, by decide +kernel⟩, List.mem_of_getElem? (i := 776) (by decide +kernel), List.mem_of_getElem? (i := 1116) (by decide +kernel), List.mem_of_getElem? (i := 1117) (by decide +kernel)⟩
def lw_privs_3 : List (MethodName × Nat) := [(⟨"NestedDeedsModel", "workOut", "(I)V"⟩, 41), (⟨"NestedDeedsModel", "worthIn", "(I)J"⟩, 41), (⟨"NestedDeedsModel", "byAll", "(I)J"⟩, 41), (⟨"NestedDeedsModel", "markIn", "(I)J"⟩, 41), (⟨"NestedDeedsModel", "differ", "(II)Z"⟩, 41), (⟨"NestedDeedsModel", "putDeed", "(I)V"⟩, 41), (⟨"NestedDeedsModel", "put", "(I)V"⟩, 41), (⟨"NestedDeedsModel", "anew", "(IZIZ)I"⟩, 41), (⟨"NestedDeedsModel", "build", "(ZIZ)I"⟩, 41), (⟨"NestedDeedsModel", "plant", "(IIJIZ)V"⟩, 41), (⟨"NestedDeedsModel", "grow", "()I"⟩, 41), (⟨"NestedDeedsModel", "readOne", "(I)V"⟩, 41), (⟨"NestedDeedsModel", "now", "()I"⟩, 41), (⟨"NestedDeedsModel", "figures", "()I"⟩, 41), (⟨"NestedDeedsModel", "isFigure", "()Z"⟩, 41)]
theorem lw_r3 : ∀ q ∈ lw_privs_3, lw_okq q := List.forall_mem_cons.mpr ⟨lw_p32, List.forall_mem_cons.mpr ⟨lw_p33, List.forall_mem_cons.mpr ⟨lw_p34, List.forall_mem_cons.mpr ⟨lw_p35, List.forall_mem_cons.mpr ⟨lw_p36, List.forall_mem_cons.mpr ⟨lw_p37, List.forall_mem_cons.mpr ⟨lw_p38, List.forall_mem_cons.mpr ⟨lw_p39, List.forall_mem_cons.mpr ⟨lw_p40, List.forall_mem_cons.mpr ⟨lw_p41, List.forall_mem_cons.mpr ⟨lw_p42, List.forall_mem_cons.mpr ⟨lw_p43, List.forall_mem_cons.mpr ⟨lw_p44, List.forall_mem_cons.mpr ⟨lw_p45, List.forall_mem_cons.mpr ⟨lw_p46, fun _ h => absurd h List.not_mem_nil⟩⟩⟩⟩⟩⟩⟩⟩⟩⟩⟩⟩⟩⟩⟩
def lw_privs : List (MethodName × Nat) := lw_privs_1 ++ (lw_privs_2 ++ (lw_privs_3))
def lw_tbl : List Cond := k2_sels lw_privs ++ tables_1
theorem lw_privs_ok : ∀ q ∈ lw_privs, lw_okq q := by
  show ∀ q ∈ lw_privs_1 ++ (lw_privs_2 ++ (lw_privs_3)), lw_okq q
  exact List.forall_mem_append.mpr ⟨lw_r1, List.forall_mem_append.mpr ⟨lw_r2, lw_r3⟩⟩
end
section
def RX0 : String := "NestedDeeds$Comparing"
def TX0 : u_T := fun k => match k with
  | 0 => ("NestedDeeds$Task", "deeds", "LNestedDeeds$Deeds;", true)
  | 1 => ("NestedDeeds$Task", "over", "Z", false)
  | _ => ("NestedDeeds$Comparing", "otherAt", "[I", true)
def tyX0 : Nat → FieldType := fun k => match k with
  | 0 => .object "NestedDeeds$Deeds"
  | 1 => .boolean
  | _ => .array .int
theorem nmX0 : ∀ a, a < 3 → ∀ b, b < 3 → a ≠ b → (TX0 a).2.1 ≠ (TX0 b).2.1 := by decide +kernel
theorem tyX0_ok : ∀ k, k < 3 → parseFieldDescriptor (TX0 k).2.2.1 = some (tyX0 k) := by decide +kernel
abbrev cX0_init : ByteArray := prog_2_method_1_code
def yX0_init : MethodName := ⟨RX0, "<init>", "(LNestedDeeds$Deeds;)V"⟩
abbrev cX0_begin : ByteArray := prog_2_method_2_code
def yX0_begin : MethodName := ⟨RX0, "begin", "(I)V"⟩
abbrev cX0_enter : ByteArray := prog_2_method_3_code
def yX0_enter : MethodName := ⟨RX0, "enter", "(II)V"⟩
abbrev cX0_choose : ByteArray := prog_2_method_4_code
def yX0_choose : MethodName := ⟨RX0, "choose", "(III)I"⟩
def RX1 : String := "NestedDeeds$Copying"
def TX1 : u_T := fun k => match k with
  | 0 => ("NestedDeeds$Task", "deeds", "LNestedDeeds$Deeds;", true)
  | 1 => ("NestedDeeds$Task", "over", "Z", false)
  | 2 => ("NestedDeeds$Copying", "keptAt", "[Z", true)
  | 3 => ("NestedDeeds$Copying", "keptPartsAt", "[I", true)
  | 4 => ("NestedDeeds$Copying", "mark", "[J", true)
  | 5 => ("NestedDeeds$Copying", "sorted", "[I", true)
  | 6 => ("NestedDeeds$Copying", "most", "I", false)
  | 7 => ("NestedDeeds$Copying", "making", "Z", false)
  | 8 => ("NestedDeeds$Copying", "sorting", "Z", false)
  | _ => ("NestedDeeds$Copying", "kept", "I", false)
def tyX1 : Nat → FieldType := fun k => match k with
  | 0 => .object "NestedDeeds$Deeds"
  | 1 => .boolean
  | 2 => .array .boolean
  | 3 => .array .int
  | 4 => .array .long
  | 5 => .array .int
  | 6 => .int
  | 7 => .boolean
  | 8 => .boolean
  | _ => .int
theorem nmX1 : ∀ a, a < 10 → ∀ b, b < 10 → a ≠ b → (TX1 a).2.1 ≠ (TX1 b).2.1 := by decide +kernel
theorem tyX1_ok : ∀ k, k < 10 → parseFieldDescriptor (TX1 k).2.2.1 = some (tyX1 k) := by decide +kernel
abbrev cX1_init : ByteArray := prog_3_method_1_code
def yX1_init : MethodName := ⟨RX1, "<init>", "(LNestedDeeds$Deeds;)V"⟩
abbrev cX1_beginCounting : ByteArray := prog_3_method_2_code
def yX1_beginCounting : MethodName := ⟨RX1, "beginCounting", "(I)V"⟩
abbrev cX1_beginMaking : ByteArray := prog_3_method_3_code
def yX1_beginMaking : MethodName := ⟨RX1, "beginMaking", "(IZ)V"⟩
abbrev cX1_reckonMarks : ByteArray := prog_3_method_4_code
def yX1_reckonMarks : MethodName := ⟨RX1, "reckonMarks", "(I)V"⟩
abbrev cX1_enter : ByteArray := prog_3_method_5_code
def yX1_enter : MethodName := ⟨RX1, "enter", "(II)V"⟩
abbrev cX1_sortParts : ByteArray := prog_3_method_6_code
def yX1_sortParts : MethodName := ⟨RX1, "sortParts", "(II)V"⟩
abbrev cX1_choose : ByteArray := prog_3_method_7_code
def yX1_choose : MethodName := ⟨RX1, "choose", "(III)I"⟩
abbrev cX1_takeUp : ByteArray := prog_3_method_8_code
def yX1_takeUp : MethodName := ⟨RX1, "takeUp", "(III)V"⟩
abbrev cX1_leave : ByteArray := prog_3_method_9_code
def yX1_leave : MethodName := ⟨RX1, "leave", "(II)V"⟩
def RX2 : String := "NestedDeeds$Deeds"
def TX2 : u_T := fun k => match k with
  | 0 => ("NestedDeeds$Deeds", "kind", "[I", true)
  | 1 => ("NestedDeeds$Deeds", "number", "[I", true)
  | 2 => ("NestedDeeds$Deeds", "start", "[I", true)
  | 3 => ("NestedDeeds$Deeds", "parts", "[I", true)
  | 4 => ("NestedDeeds$Deeds", "loose", "[I", true)
  | 5 => ("NestedDeeds$Deeds", "looseCount", "I", false)
  | _ => ("NestedDeeds$Deeds", "made", "I", false)
def tyX2 : Nat → FieldType := fun k => match k with
  | 0 => .array .int
  | 1 => .array .int
  | 2 => .array .int
  | 3 => .array .int
  | 4 => .array .int
  | 5 => .int
  | _ => .int
theorem nmX2 : ∀ a, a < 7 → ∀ b, b < 7 → a ≠ b → (TX2 a).2.1 ≠ (TX2 b).2.1 := by decide +kernel
theorem tyX2_ok : ∀ k, k < 7 → parseFieldDescriptor (TX2 k).2.2.1 = some (tyX2 k) := by decide +kernel
abbrev cX2_init : ByteArray := prog_4_method_1_code
def yX2_init : MethodName := ⟨RX2, "<init>", "()V"⟩
abbrev cX2_has : ByteArray := prog_4_method_2_code
def yX2_has : MethodName := ⟨RX2, "has", "(I)Z"⟩
abbrev cX2_hasRoom : ByteArray := prog_4_method_3_code
def yX2_hasRoom : MethodName := ⟨RX2, "hasRoom", "(II)Z"⟩
abbrev cX2_allParts : ByteArray := prog_4_method_4_code
def yX2_allParts : MethodName := ⟨RX2, "allParts", "()I"⟩
abbrev cX2_partsOf : ByteArray := prog_4_method_5_code
def yX2_partsOf : MethodName := ⟨RX2, "partsOf", "(I)I"⟩
abbrev cX2_partAt : ByteArray := prog_4_method_6_code
def yX2_partAt : MethodName := ⟨RX2, "partAt", "(II)I"⟩
abbrev cX2_add : ByteArray := prog_4_method_7_code
def yX2_add : MethodName := ⟨RX2, "add", "(II)I"⟩
abbrev cX2_addPart : ByteArray := prog_4_method_8_code
def yX2_addPart : MethodName := ⟨RX2, "addPart", "(II)V"⟩
abbrev cX2_bind : ByteArray := prog_4_method_9_code
def yX2_bind : MethodName := ⟨RX2, "bind", "(III)V"⟩
abbrev cX2_takeBound : ByteArray := prog_4_method_10_code
def yX2_takeBound : MethodName := ⟨RX2, "takeBound", "()I"⟩
def RX3 : String := "NestedDeeds$Finding"
def TX3 : u_T := fun k => match k with
  | 0 => ("NestedDeeds$Task", "deeds", "LNestedDeeds$Deeds;", true)
  | 1 => ("NestedDeeds$Task", "over", "Z", false)
  | 2 => ("NestedDeeds$Finding", "kind", "I", false)
  | _ => ("NestedDeeds$Finding", "number", "I", false)
def tyX3 : Nat → FieldType := fun k => match k with
  | 0 => .object "NestedDeeds$Deeds"
  | 1 => .boolean
  | 2 => .int
  | _ => .int
theorem nmX3 : ∀ a, a < 4 → ∀ b, b < 4 → a ≠ b → (TX3 a).2.1 ≠ (TX3 b).2.1 := by decide +kernel
theorem tyX3_ok : ∀ k, k < 4 → parseFieldDescriptor (TX3 k).2.2.1 = some (tyX3 k) := by decide +kernel
abbrev cX3_init : ByteArray := prog_5_method_1_code
def yX3_init : MethodName := ⟨RX3, "<init>", "(LNestedDeeds$Deeds;)V"⟩
abbrev cX3_begin : ByteArray := prog_5_method_2_code
def yX3_begin : MethodName := ⟨RX3, "begin", "(II)V"⟩
abbrev cX3_enter : ByteArray := prog_5_method_3_code
def yX3_enter : MethodName := ⟨RX3, "enter", "(II)V"⟩
def RX4 : String := "NestedDeeds$Marking"
def TX4 : u_T := fun k => match k with
  | 0 => ("NestedDeeds$Task", "deeds", "LNestedDeeds$Deeds;", true)
  | 1 => ("NestedDeeds$Task", "over", "Z", false)
  | _ => ("NestedDeeds$Marking", "markAt", "[J", true)
def tyX4 : Nat → FieldType := fun k => match k with
  | 0 => .object "NestedDeeds$Deeds"
  | 1 => .boolean
  | _ => .array .long
theorem nmX4 : ∀ a, a < 3 → ∀ b, b < 3 → a ≠ b → (TX4 a).2.1 ≠ (TX4 b).2.1 := by decide +kernel
theorem tyX4_ok : ∀ k, k < 3 → parseFieldDescriptor (TX4 k).2.2.1 = some (tyX4 k) := by decide +kernel
abbrev cX4_init : ByteArray := prog_6_method_1_code
def yX4_init : MethodName := ⟨RX4, "<init>", "(LNestedDeeds$Deeds;[J)V"⟩
abbrev cX4_begun : ByteArray := prog_6_method_2_code
def yX4_begun : MethodName := ⟨RX4, "begun", "(II)J"⟩
abbrev cX4_with : ByteArray := prog_6_method_3_code
def yX4_with : MethodName := ⟨RX4, "with", "(JJ)J"⟩
abbrev cX4_ended : ByteArray := prog_6_method_4_code
def yX4_ended : MethodName := ⟨RX4, "ended", "(J)J"⟩
abbrev cX4_enter : ByteArray := prog_6_method_5_code
def yX4_enter : MethodName := ⟨RX4, "enter", "(II)V"⟩
abbrev cX4_takeUp : ByteArray := prog_6_method_6_code
def yX4_takeUp : MethodName := ⟨RX4, "takeUp", "(III)V"⟩
abbrev cX4_leave : ByteArray := prog_6_method_7_code
def yX4_leave : MethodName := ⟨RX4, "leave", "(II)V"⟩
def RX5 : String := "NestedDeeds$Paper"
def TX5 : u_T := fun k => match k with
  | 0 => ("NestedDeeds$Paper", "bytes", "[B", true)
  | 1 => ("NestedDeeds$Paper", "length", "I", false)
  | _ => ("NestedDeeds$Paper", "overfull", "Z", false)
def tyX5 : Nat → FieldType := fun k => match k with
  | 0 => .array .byte
  | 1 => .int
  | _ => .boolean
theorem nmX5 : ∀ a, a < 3 → ∀ b, b < 3 → a ≠ b → (TX5 a).2.1 ≠ (TX5 b).2.1 := by decide +kernel
theorem tyX5_ok : ∀ k, k < 3 → parseFieldDescriptor (TX5 k).2.2.1 = some (tyX5 k) := by decide +kernel
abbrev cX5_init : ByteArray := prog_7_method_1_code
def yX5_init : MethodName := ⟨RX5, "<init>", "()V"⟩
abbrev cX5_clear : ByteArray := prog_7_method_2_code
def yX5_clear : MethodName := ⟨RX5, "clear", "()V"⟩
abbrev cX5_at : ByteArray := prog_7_method_3_code
def yX5_at : MethodName := ⟨RX5, "at", "(I)I"⟩
abbrev cX5_add : ByteArray := prog_7_method_4_code
def yX5_add : MethodName := ⟨RX5, "add", "(I)V"⟩
abbrev cX5_addFigures : ByteArray := prog_7_method_5_code
def yX5_addFigures : MethodName := ⟨RX5, "addFigures", "(I)V"⟩
abbrev cX5_become : ByteArray := prog_7_method_6_code
def yX5_become : MethodName := ⟨RX5, "become", "(LNestedDeeds$Paper;)V"⟩
def RX6 : String := "NestedDeeds$Reader"
def TX6 : u_T := fun k => match k with
  | 0 => ("NestedDeeds$Reader", "deeds", "LNestedDeeds$Deeds;", true)
  | 1 => ("NestedDeeds$Reader", "paper", "LNestedDeeds$Paper;", true)
  | 2 => ("NestedDeeds$Reader", "openKind", "[I", true)
  | 3 => ("NestedDeeds$Reader", "openNumber", "[I", true)
  | 4 => ("NestedDeeds$Reader", "openParts", "[I", true)
  | 5 => ("NestedDeeds$Reader", "open", "I", false)
  | 6 => ("NestedDeeds$Reader", "at", "I", false)
  | 7 => ("NestedDeeds$Reader", "kind", "I", false)
  | 8 => ("NestedDeeds$Reader", "number", "I", false)
  | 9 => ("NestedDeeds$Reader", "making", "Z", false)
  | _ => ("NestedDeeds$Reader", "whole", "I", false)
def tyX6 : Nat → FieldType := fun k => match k with
  | 0 => .object "NestedDeeds$Deeds"
  | 1 => .object "NestedDeeds$Paper"
  | 2 => .array .int
  | 3 => .array .int
  | 4 => .array .int
  | 5 => .int
  | 6 => .int
  | 7 => .int
  | 8 => .int
  | 9 => .boolean
  | _ => .int
theorem nmX6 : ∀ a, a < 11 → ∀ b, b < 11 → a ≠ b → (TX6 a).2.1 ≠ (TX6 b).2.1 := by decide +kernel
theorem tyX6_ok : ∀ k, k < 11 → parseFieldDescriptor (TX6 k).2.2.1 = some (tyX6 k) := by decide +kernel
abbrev cX6_init : ByteArray := prog_8_method_1_code
def yX6_init : MethodName := ⟨RX6, "<init>", "(LNestedDeeds$Deeds;LNestedDeeds$Paper;)V"⟩
abbrev cX6_scan : ByteArray := prog_8_method_2_code
def yX6_scan : MethodName := ⟨RX6, "scan", "(Z)I"⟩
abbrev cX6_scanKind : ByteArray := prog_8_method_3_code
def yX6_scanKind : MethodName := ⟨RX6, "scanKind", "()Z"⟩
abbrev cX6_scanNumber : ByteArray := prog_8_method_4_code
def yX6_scanNumber : MethodName := ⟨RX6, "scanNumber", "()Z"⟩
abbrev cX6_scanFigures : ByteArray := prog_8_method_5_code
def yX6_scanFigures : MethodName := ⟨RX6, "scanFigures", "()J"⟩
abbrev cX6_isFigure : ByteArray := prog_8_method_6_code
def yX6_isFigure : MethodName := ⟨RX6, "isFigure", "(I)Z"⟩
abbrev cX6_openDeed : ByteArray := prog_8_method_7_code
def yX6_openDeed : MethodName := ⟨RX6, "openDeed", "()V"⟩
abbrev cX6_closeDeeds : ByteArray := prog_8_method_8_code
def yX6_closeDeeds : MethodName := ⟨RX6, "closeDeeds", "()V"⟩
abbrev cX6_finishDeed : ByteArray := prog_8_method_9_code
def yX6_finishDeed : MethodName := ⟨RX6, "finishDeed", "(III)V"⟩
def RX7 : String := "NestedDeeds$Task"
def TX7 : u_T := fun k => match k with
  | 0 => ("NestedDeeds$Task", "deeds", "LNestedDeeds$Deeds;", true)
  | _ => ("NestedDeeds$Task", "over", "Z", false)
def tyX7 : Nat → FieldType := fun k => match k with
  | 0 => .object "NestedDeeds$Deeds"
  | _ => .boolean
theorem nmX7 : ∀ a, a < 2 → ∀ b, b < 2 → a ≠ b → (TX7 a).2.1 ≠ (TX7 b).2.1 := by decide +kernel
theorem tyX7_ok : ∀ k, k < 2 → parseFieldDescriptor (TX7 k).2.2.1 = some (tyX7 k) := by decide +kernel
abbrev cX7_init : ByteArray := prog_9_method_1_code
def yX7_init : MethodName := ⟨RX7, "<init>", "(LNestedDeeds$Deeds;)V"⟩
abbrev cX7_enter : ByteArray := prog_9_method_2_code
def yX7_enter : MethodName := ⟨RX7, "enter", "(II)V"⟩
abbrev cX7_choose : ByteArray := prog_9_method_3_code
def yX7_choose : MethodName := ⟨RX7, "choose", "(III)I"⟩
abbrev cX7_takeUp : ByteArray := prog_9_method_4_code
def yX7_takeUp : MethodName := ⟨RX7, "takeUp", "(III)V"⟩
abbrev cX7_leave : ByteArray := prog_9_method_5_code
def yX7_leave : MethodName := ⟨RX7, "leave", "(II)V"⟩
def RX8 : String := "NestedDeeds$Walker"
def TX8 : u_T := fun k => match k with
  | 0 => ("NestedDeeds$Walker", "deeds", "LNestedDeeds$Deeds;", true)
  | 1 => ("NestedDeeds$Walker", "deedAt", "[I", true)
  | 2 => ("NestedDeeds$Walker", "turnAt", "[I", true)
  | 3 => ("NestedDeeds$Walker", "width", "[I", true)
  | 4 => ("NestedDeeds$Walker", "way", "I", false)
  | 5 => ("NestedDeeds$Walker", "meter", "I", false)
  | 6 => ("NestedDeeds$Walker", "outcome", "I", false)
  | 7 => ("NestedDeeds$Walker", "visited", "I", false)
  | 8 => ("NestedDeeds$Walker", "deepest", "I", false)
  | 9 => ("NestedDeeds$Walker", "calls", "I", false)
  | 10 => ("NestedDeeds$Walker", "task", "LNestedDeeds$Task;", false)
  | 11 => ("NestedDeeds$Walker", "bottom", "I", false)
  | 12 => ("NestedDeeds$Walker", "level", "I", false)
  | _ => ("NestedDeeds$Walker", "coming", "I", false)
def tyX8 : Nat → FieldType := fun k => match k with
  | 0 => .object "NestedDeeds$Deeds"
  | 1 => .array .int
  | 2 => .array .int
  | 3 => .array .int
  | 4 => .int
  | 5 => .int
  | 6 => .int
  | 7 => .int
  | 8 => .int
  | 9 => .int
  | 10 => .object "NestedDeeds$Task"
  | 11 => .int
  | 12 => .int
  | _ => .int
theorem nmX8 : ∀ a, a < 14 → ∀ b, b < 14 → a ≠ b → (TX8 a).2.1 ≠ (TX8 b).2.1 := by decide +kernel
theorem tyX8_ok : ∀ k, k < 14 → parseFieldDescriptor (TX8 k).2.2.1 = some (tyX8 k) := by decide +kernel
abbrev cX8_init : ByteArray := prog_10_method_1_code
def yX8_init : MethodName := ⟨RX8, "<init>", "(LNestedDeeds$Deeds;LNestedDeeds$Task;)V"⟩
abbrev cX8_refuse : ByteArray := prog_10_method_2_code
def yX8_refuse : MethodName := ⟨RX8, "refuse", "()I"⟩
abbrev cX8_go : ByteArray := prog_10_method_3_code
def yX8_go : MethodName := ⟨RX8, "go", "(LNestedDeeds$Task;I)I"⟩
abbrev cX8_widestDepth : ByteArray := prog_10_method_4_code
def yX8_widestDepth : MethodName := ⟨RX8, "widestDepth", "()I"⟩
abbrev cX8_visit : ByteArray := prog_10_method_5_code
def yX8_visit : MethodName := ⟨RX8, "visit", "(II)Z"⟩
abbrev cX8_halt : ByteArray := prog_10_method_6_code
def yX8_halt : MethodName := ⟨RX8, "halt", "(I)Z"⟩
abbrev cX8_nextPart : ByteArray := prog_10_method_7_code
def yX8_nextPart : MethodName := ⟨RX8, "nextPart", "(I)I"⟩
abbrev cX8_byCalls : ByteArray := prog_10_method_8_code
def yX8_byCalls : MethodName := ⟨RX8, "byCalls", "(II)V"⟩
abbrev cX8_byStack : ByteArray := prog_10_method_9_code
def yX8_byStack : MethodName := ⟨RX8, "byStack", "(I)V"⟩
abbrev cX8_bySteps : ByteArray := prog_10_method_10_code
def yX8_bySteps : MethodName := ⟨RX8, "bySteps", "()V"⟩
abbrev cX8_take : ByteArray := prog_10_method_11_code
def yX8_take : MethodName := ⟨RX8, "take", "(I)I"⟩
def RX9 : String := "NestedDeeds$Weighing"
def TX9 : u_T := fun k => match k with
  | 0 => ("NestedDeeds$Task", "deeds", "LNestedDeeds$Deeds;", true)
  | 1 => ("NestedDeeds$Task", "over", "Z", false)
  | 2 => ("NestedDeeds$Weighing", "worthAt", "[J", true)
  | _ => ("NestedDeeds$Weighing", "firstAt", "[J", true)
def tyX9 : Nat → FieldType := fun k => match k with
  | 0 => .object "NestedDeeds$Deeds"
  | 1 => .boolean
  | 2 => .array .long
  | _ => .array .long
theorem nmX9 : ∀ a, a < 4 → ∀ b, b < 4 → a ≠ b → (TX9 a).2.1 ≠ (TX9 b).2.1 := by decide +kernel
theorem tyX9_ok : ∀ k, k < 4 → parseFieldDescriptor (TX9 k).2.2.1 = some (tyX9 k) := by decide +kernel
abbrev cX9_init : ByteArray := prog_11_method_1_code
def yX9_init : MethodName := ⟨RX9, "<init>", "(LNestedDeeds$Deeds;[J)V"⟩
abbrev cX9_enter : ByteArray := prog_11_method_2_code
def yX9_enter : MethodName := ⟨RX9, "enter", "(II)V"⟩
abbrev cX9_choose : ByteArray := prog_11_method_3_code
def yX9_choose : MethodName := ⟨RX9, "choose", "(III)I"⟩
abbrev cX9_placeOfChoice : ByteArray := prog_11_method_4_code
def yX9_placeOfChoice : MethodName := ⟨RX9, "placeOfChoice", "(III)I"⟩
abbrev cX9_takeUp : ByteArray := prog_11_method_5_code
def yX9_takeUp : MethodName := ⟨RX9, "takeUp", "(III)V"⟩
abbrev cX9_takeUpLike : ByteArray := prog_11_method_6_code
def yX9_takeUpLike : MethodName := ⟨RX9, "takeUpLike", "(IIJ)V"⟩
def RX10 : String := "NestedDeeds$Writing"
def TX10 : u_T := fun k => match k with
  | 0 => ("NestedDeeds$Task", "deeds", "LNestedDeeds$Deeds;", true)
  | 1 => ("NestedDeeds$Task", "over", "Z", false)
  | _ => ("NestedDeeds$Writing", "draft", "LNestedDeeds$Paper;", true)
def tyX10 : Nat → FieldType := fun k => match k with
  | 0 => .object "NestedDeeds$Deeds"
  | 1 => .boolean
  | _ => .object "NestedDeeds$Paper"
theorem nmX10 : ∀ a, a < 3 → ∀ b, b < 3 → a ≠ b → (TX10 a).2.1 ≠ (TX10 b).2.1 := by decide +kernel
theorem tyX10_ok : ∀ k, k < 3 → parseFieldDescriptor (TX10 k).2.2.1 = some (tyX10 k) := by decide +kernel
abbrev cX10_init : ByteArray := prog_12_method_1_code
def yX10_init : MethodName := ⟨RX10, "<init>", "(LNestedDeeds$Deeds;LNestedDeeds$Paper;)V"⟩
abbrev cX10_enter : ByteArray := prog_12_method_2_code
def yX10_enter : MethodName := ⟨RX10, "enter", "(II)V"⟩
abbrev cX10_choose : ByteArray := prog_12_method_3_code
def yX10_choose : MethodName := ⟨RX10, "choose", "(III)I"⟩
abbrev cX10_leave : ByteArray := prog_12_method_4_code
def yX10_leave : MethodName := ⟨RX10, "leave", "(II)V"⟩
def RX11 : String := "NestedDeeds"
def TX11 : u_T := fun k => match k with
  | 0 => ("NestedDeeds", "deeds", "LNestedDeeds$Deeds;", true)
  | 1 => ("NestedDeeds", "paper", "LNestedDeeds$Paper;", true)
  | 2 => ("NestedDeeds", "draft", "LNestedDeeds$Paper;", true)
  | 3 => ("NestedDeeds", "reader", "LNestedDeeds$Reader;", true)
  | 4 => ("NestedDeeds", "walker", "LNestedDeeds$Walker;", true)
  | 5 => ("NestedDeeds", "reckoned", "[J", true)
  | 6 => ("NestedDeeds", "visiting", "LNestedDeeds$Task;", true)
  | 7 => ("NestedDeeds", "weighing", "LNestedDeeds$Weighing;", true)
  | 8 => ("NestedDeeds", "marking", "LNestedDeeds$Marking;", true)
  | 9 => ("NestedDeeds", "comparing", "LNestedDeeds$Comparing;", true)
  | 10 => ("NestedDeeds", "writing", "LNestedDeeds$Writing;", true)
  | 11 => ("NestedDeeds", "finding", "LNestedDeeds$Finding;", true)
  | _ => ("NestedDeeds", "copying", "LNestedDeeds$Copying;", true)
def tyX11 : Nat → FieldType := fun k => match k with
  | 0 => .object "NestedDeeds$Deeds"
  | 1 => .object "NestedDeeds$Paper"
  | 2 => .object "NestedDeeds$Paper"
  | 3 => .object "NestedDeeds$Reader"
  | 4 => .object "NestedDeeds$Walker"
  | 5 => .array .long
  | 6 => .object "NestedDeeds$Task"
  | 7 => .object "NestedDeeds$Weighing"
  | 8 => .object "NestedDeeds$Marking"
  | 9 => .object "NestedDeeds$Comparing"
  | 10 => .object "NestedDeeds$Writing"
  | 11 => .object "NestedDeeds$Finding"
  | _ => .object "NestedDeeds$Copying"
theorem nmX11 : ∀ a, a < 13 → ∀ b, b < 13 → a ≠ b → (TX11 a).2.1 ≠ (TX11 b).2.1 := by decide +kernel
theorem tyX11_ok : ∀ k, k < 13 → parseFieldDescriptor (TX11 k).2.2.1 = some (tyX11 k) := by decide +kernel
abbrev cX11_init : ByteArray := prog_1_method_1_code
def yX11_init : MethodName := ⟨RX11, "<init>", "()V"⟩
abbrev cX11_deed : ByteArray := prog_1_method_2_code
def yX11_deed : MethodName := ⟨RX11, "deed", "(II)I"⟩
abbrev cX11_enclose : ByteArray := prog_1_method_3_code
def yX11_enclose : MethodName := ⟨RX11, "enclose", "(II)I"⟩
abbrev cX11_chain : ByteArray := prog_1_method_4_code
def yX11_chain : MethodName := ⟨RX11, "chain", "(IIIII)I"⟩
abbrev cX11_link : ByteArray := prog_1_method_5_code
def yX11_link : MethodName := ⟨RX11, "link", "(IIII)I"⟩
abbrev cX11_way : ByteArray := prog_1_method_6_code
def yX11_way : MethodName := ⟨RX11, "way", "(I)I"⟩
abbrev cX11_meter : ByteArray := prog_1_method_7_code
def yX11_meter : MethodName := ⟨RX11, "meter", "(I)I"⟩
abbrev cX11_of : ByteArray := prog_1_method_8_code
def yX11_of : MethodName := ⟨RX11, "of", "(II)I"⟩
abbrev cX11_part : ByteArray := prog_1_method_9_code
def yX11_part : MethodName := ⟨RX11, "part", "(II)I"⟩
abbrev cX11_size : ByteArray := prog_1_method_10_code
def yX11_size : MethodName := ⟨RX11, "size", "(I)I"⟩
abbrev cX11_depth : ByteArray := prog_1_method_11_code
def yX11_depth : MethodName := ⟨RX11, "depth", "(I)I"⟩
abbrev cX11_worth : ByteArray := prog_1_method_12_code
def yX11_worth : MethodName := ⟨RX11, "worth", "(I)J"⟩
abbrev cX11_mark : ByteArray := prog_1_method_13_code
def yX11_mark : MethodName := ⟨RX11, "mark", "(I)J"⟩
abbrev cX11_alike : ByteArray := prog_1_method_14_code
def yX11_alike : MethodName := ⟨RX11, "alike", "(II)I"⟩
abbrev cX11_write : ByteArray := prog_1_method_15_code
def yX11_write : MethodName := ⟨RX11, "write", "(I)I"⟩
abbrev cX11_find : ByteArray := prog_1_method_16_code
def yX11_find : MethodName := ⟨RX11, "find", "(III)I"⟩
abbrev cX11_widest : ByteArray := prog_1_method_17_code
def yX11_widest : MethodName := ⟨RX11, "widest", "(II)I"⟩
abbrev cX11_copy : ByteArray := prog_1_method_18_code
def yX11_copy : MethodName := ⟨RX11, "copy", "(I)I"⟩
abbrev cX11_thin : ByteArray := prog_1_method_19_code
def yX11_thin : MethodName := ⟨RX11, "thin", "(II)I"⟩
abbrev cX11_order : ByteArray := prog_1_method_20_code
def yX11_order : MethodName := ⟨RX11, "order", "(I)I"⟩
abbrev cX11_remake : ByteArray := prog_1_method_21_code
def yX11_remake : MethodName := ⟨RX11, "remake", "(IIZ)I"⟩
abbrev cX11_feed : ByteArray := prog_1_method_22_code
def yX11_feed : MethodName := ⟨RX11, "feed", "(JI)I"⟩
abbrev cX11_tear : ByteArray := prog_1_method_23_code
def yX11_tear : MethodName := ⟨RX11, "tear", "()I"⟩
abbrev cX11_byteAt : ByteArray := prog_1_method_24_code
def yX11_byteAt : MethodName := ⟨RX11, "byteAt", "(I)I"⟩
abbrev cX11_read : ByteArray := prog_1_method_25_code
def yX11_read : MethodName := ⟨RX11, "read", "()I"⟩
abbrev cX11_answer : ByteArray := prog_1_method_26_code
def yX11_answer : MethodName := ⟨RX11, "answer", "()I"⟩
abbrev cX11_count : ByteArray := prog_1_method_27_code
def yX11_count : MethodName := ⟨RX11, "count", "(I)I"⟩
abbrev cX11_isKind : ByteArray := prog_1_method_28_code
def yX11_isKind : MethodName := ⟨RX11, "isKind", "(I)Z"⟩
def RX12 : String := "NestedDeedsModel"
def TX12 : u_T := fun k => match k with
  | 0 => ("NestedDeedsModel", "deeds", "I", false)
  | 1 => ("NestedDeedsModel", "kind", "[I", true)
  | 2 => ("NestedDeedsModel", "number", "[I", true)
  | 3 => ("NestedDeedsModel", "partMany", "[I", true)
  | 4 => ("NestedDeedsModel", "firstPart", "[I", true)
  | 5 => ("NestedDeedsModel", "lastPart", "[I", true)
  | 6 => ("NestedDeedsModel", "parts", "I", false)
  | 7 => ("NestedDeedsModel", "partOf", "[I", true)
  | 8 => ("NestedDeedsModel", "nextPart", "[I", true)
  | 9 => ("NestedDeedsModel", "way", "I", false)
  | 10 => ("NestedDeedsModel", "meter", "I", false)
  | 11 => ("NestedDeedsModel", "paper", "[I", true)
  | 12 => ("NestedDeedsModel", "paperSize", "I", false)
  | 13 => ("NestedDeedsModel", "answer", "I", false)
  | 14 => ("NestedDeedsModel", "toldVisited", "I", false)
  | 15 => ("NestedDeedsModel", "toldCalls", "I", false)
  | 16 => ("NestedDeedsModel", "worths", "[J", true)
  | 17 => ("NestedDeedsModel", "marks", "[J", true)
  | 18 => ("NestedDeedsModel", "depth", "I", false)
  | 19 => ("NestedDeedsModel", "visited", "I", false)
  | 20 => ("NestedDeedsModel", "deepest", "I", false)
  | 21 => ("NestedDeedsModel", "pile", "[I", true)
  | 22 => ("NestedDeedsModel", "other", "[I", true)
  | 23 => ("NestedDeedsModel", "begun", "[I", true)
  | 24 => ("NestedDeedsModel", "visitDeed", "[I", true)
  | 25 => ("NestedDeedsModel", "visitDepth", "[I", true)
  | 26 => ("NestedDeedsModel", "sheet", "[I", true)
  | 27 => ("NestedDeedsModel", "sheetSize", "I", false)
  | 28 => ("NestedDeedsModel", "isOver", "Z", false)
  | 29 => ("NestedDeedsModel", "wide", "[I", true)
  | 30 => ("NestedDeedsModel", "nodes", "I", false)
  | 31 => ("NestedDeedsModel", "nodeKind", "[I", true)
  | 32 => ("NestedDeedsModel", "nodeNumber", "[I", true)
  | 33 => ("NestedDeedsModel", "nodeMark", "[J", true)
  | 34 => ("NestedDeedsModel", "child", "[I", true)
  | 35 => ("NestedDeedsModel", "sibling", "[I", true)
  | 36 => ("NestedDeedsModel", "parent", "[I", true)
  | 37 => ("NestedDeedsModel", "made", "[I", true)
  | 38 => ("NestedDeedsModel", "open", "[I", true)
  | 39 => ("NestedDeedsModel", "place", "I", false)
  | _ => ("NestedDeedsModel", "wrong", "I", false)
def tyX12 : Nat → FieldType := fun k => match k with
  | 0 => .int
  | 1 => .array .int
  | 2 => .array .int
  | 3 => .array .int
  | 4 => .array .int
  | 5 => .array .int
  | 6 => .int
  | 7 => .array .int
  | 8 => .array .int
  | 9 => .int
  | 10 => .int
  | 11 => .array .int
  | 12 => .int
  | 13 => .int
  | 14 => .int
  | 15 => .int
  | 16 => .array .long
  | 17 => .array .long
  | 18 => .int
  | 19 => .int
  | 20 => .int
  | 21 => .array .int
  | 22 => .array .int
  | 23 => .array .int
  | 24 => .array .int
  | 25 => .array .int
  | 26 => .array .int
  | 27 => .int
  | 28 => .boolean
  | 29 => .array .int
  | 30 => .int
  | 31 => .array .int
  | 32 => .array .int
  | 33 => .array .long
  | 34 => .array .int
  | 35 => .array .int
  | 36 => .array .int
  | 37 => .array .int
  | 38 => .array .int
  | 39 => .int
  | _ => .int
theorem nmX12 : ∀ a, a < 41 → ∀ b, b < 41 → a ≠ b → (TX12 a).2.1 ≠ (TX12 b).2.1 := by decide +kernel
theorem tyX12_ok : ∀ k, k < 41 → parseFieldDescriptor (TX12 k).2.2.1 = some (tyX12 k) := by decide +kernel
abbrev cX12_init : ByteArray := prog_14_method_1_code
def yX12_init : MethodName := ⟨RX12, "<init>", "()V"⟩
abbrev cX12_in : ByteArray := prog_14_method_2_code
def yX12_in : MethodName := ⟨RX12, "in", "(III)Z"⟩
abbrev cX12_isDeed : ByteArray := prog_14_method_3_code
def yX12_isDeed : MethodName := ⟨RX12, "isDeed", "(I)Z"⟩
abbrev cX12_add : ByteArray := prog_14_method_4_code
def yX12_add : MethodName := ⟨RX12, "add", "(II)I"⟩
abbrev cX12_addPart : ByteArray := prog_14_method_5_code
def yX12_addPart : MethodName := ⟨RX12, "addPart", "(II)I"⟩
abbrev cX12_deed : ByteArray := prog_14_method_6_code
def yX12_deed : MethodName := ⟨RX12, "deed", "(II)I"⟩
abbrev cX12_enclose : ByteArray := prog_14_method_7_code
def yX12_enclose : MethodName := ⟨RX12, "enclose", "(II)I"⟩
abbrev cX12_chain : ByteArray := prog_14_method_8_code
def yX12_chain : MethodName := ⟨RX12, "chain", "(IIIII)I"⟩
abbrev cX12_way : ByteArray := prog_14_method_9_code
def yX12_way : MethodName := ⟨RX12, "way", "(I)I"⟩
abbrev cX12_meter : ByteArray := prog_14_method_10_code
def yX12_meter : MethodName := ⟨RX12, "meter", "(I)I"⟩
abbrev cX12_of : ByteArray := prog_14_method_11_code
def yX12_of : MethodName := ⟨RX12, "of", "(II)I"⟩
abbrev cX12_partAt : ByteArray := prog_14_method_12_code
def yX12_partAt : MethodName := ⟨RX12, "partAt", "(II)I"⟩
abbrev cX12_part : ByteArray := prog_14_method_13_code
def yX12_part : MethodName := ⟨RX12, "part", "(II)I"⟩
abbrev cX12_turned : ByteArray := prog_14_method_14_code
def yX12_turned : MethodName := ⟨RX12, "turned", "(JI)J"⟩
abbrev cX12_byAll : ByteArray := prog_14_method_15_code
def yX12_byAll : MethodName := ⟨RX12, "byAll", "(I)J"⟩
abbrev cX12_chosen : ByteArray := prog_14_method_16_code
def yX12_chosen : MethodName := ⟨RX12, "chosen", "(I)I"⟩
abbrev cX12_lookedAt : ByteArray := prog_14_method_17_code
def yX12_lookedAt : MethodName := ⟨RX12, "lookedAt", "(I)I"⟩
abbrev cX12_worthIn : ByteArray := prog_14_method_18_code
def yX12_worthIn : MethodName := ⟨RX12, "worthIn", "(I)J"⟩
abbrev cX12_markIn : ByteArray := prog_14_method_19_code
def yX12_markIn : MethodName := ⟨RX12, "markIn", "(I)J"⟩
abbrev cX12_workOut : ByteArray := prog_14_method_20_code
def yX12_workOut : MethodName := ⟨RX12, "workOut", "(I)V"⟩
abbrev cX12_begin : ByteArray := prog_14_method_21_code
def yX12_begin : MethodName := ⟨RX12, "begin", "()V"⟩
abbrev cX12_visit : ByteArray := prog_14_method_22_code
def yX12_visit : MethodName := ⟨RX12, "visit", "(II)Z"⟩
abbrev cX12_ended : ByteArray := prog_14_method_23_code
def yX12_ended : MethodName := ⟨RX12, "ended", "()I"⟩
abbrev cX12_bad : ByteArray := prog_14_method_24_code
def yX12_bad : MethodName := ⟨RX12, "bad", "()I"⟩
abbrev cX12_nextFrom : ByteArray := prog_14_method_25_code
def yX12_nextFrom : MethodName := ⟨RX12, "nextFrom", "(Z)I"⟩
abbrev cX12_walk : ByteArray := prog_14_method_26_code
def yX12_walk : MethodName := ⟨RX12, "walk", "(IZZII)I"⟩
abbrev cX12_walkAll : ByteArray := prog_14_method_27_code
def yX12_walkAll : MethodName := ⟨RX12, "walkAll", "(I)I"⟩
abbrev cX12_size : ByteArray := prog_14_method_28_code
def yX12_size : MethodName := ⟨RX12, "size", "(I)I"⟩
abbrev cX12_depth : ByteArray := prog_14_method_29_code
def yX12_depth : MethodName := ⟨RX12, "depth", "(I)I"⟩
abbrev cX12_worth : ByteArray := prog_14_method_30_code
def yX12_worth : MethodName := ⟨RX12, "worth", "(I)J"⟩
abbrev cX12_mark : ByteArray := prog_14_method_31_code
def yX12_mark : MethodName := ⟨RX12, "mark", "(I)J"⟩
abbrev cX12_differ : ByteArray := prog_14_method_32_code
def yX12_differ : MethodName := ⟨RX12, "differ", "(II)Z"⟩
abbrev cX12_alike : ByteArray := prog_14_method_33_code
def yX12_alike : MethodName := ⟨RX12, "alike", "(II)I"⟩
abbrev cX12_put : ByteArray := prog_14_method_34_code
def yX12_put : MethodName := ⟨RX12, "put", "(I)V"⟩
abbrev cX12_putDeed : ByteArray := prog_14_method_35_code
def yX12_putDeed : MethodName := ⟨RX12, "putDeed", "(I)V"⟩
abbrev cX12_write : ByteArray := prog_14_method_36_code
def yX12_write : MethodName := ⟨RX12, "write", "(I)I"⟩
abbrev cX12_find : ByteArray := prog_14_method_37_code
def yX12_find : MethodName := ⟨RX12, "find", "(III)I"⟩
abbrev cX12_widest : ByteArray := prog_14_method_38_code
def yX12_widest : MethodName := ⟨RX12, "widest", "(II)I"⟩
abbrev cX12_plant : ByteArray := prog_14_method_39_code
def yX12_plant : MethodName := ⟨RX12, "plant", "(IIJIZ)V"⟩
abbrev cX12_grow : ByteArray := prog_14_method_40_code
def yX12_grow : MethodName := ⟨RX12, "grow", "()I"⟩
abbrev cX12_build : ByteArray := prog_14_method_41_code
def yX12_build : MethodName := ⟨RX12, "build", "(ZIZ)I"⟩
abbrev cX12_anew : ByteArray := prog_14_method_42_code
def yX12_anew : MethodName := ⟨RX12, "anew", "(IZIZ)I"⟩
abbrev cX12_copy : ByteArray := prog_14_method_43_code
def yX12_copy : MethodName := ⟨RX12, "copy", "(I)I"⟩
abbrev cX12_thin : ByteArray := prog_14_method_44_code
def yX12_thin : MethodName := ⟨RX12, "thin", "(II)I"⟩
abbrev cX12_order : ByteArray := prog_14_method_45_code
def yX12_order : MethodName := ⟨RX12, "order", "(I)I"⟩
abbrev cX12_feed : ByteArray := prog_14_method_46_code
def yX12_feed : MethodName := ⟨RX12, "feed", "(JI)I"⟩
abbrev cX12_tear : ByteArray := prog_14_method_47_code
def yX12_tear : MethodName := ⟨RX12, "tear", "()I"⟩
abbrev cX12_byteAt : ByteArray := prog_14_method_48_code
def yX12_byteAt : MethodName := ⟨RX12, "byteAt", "(I)I"⟩
abbrev cX12_now : ByteArray := prog_14_method_49_code
def yX12_now : MethodName := ⟨RX12, "now", "()I"⟩
abbrev cX12_isFigure : ByteArray := prog_14_method_50_code
def yX12_isFigure : MethodName := ⟨RX12, "isFigure", "()Z"⟩
abbrev cX12_figures : ByteArray := prog_14_method_51_code
def yX12_figures : MethodName := ⟨RX12, "figures", "()I"⟩
abbrev cX12_readOne : ByteArray := prog_14_method_52_code
def yX12_readOne : MethodName := ⟨RX12, "readOne", "(I)V"⟩
abbrev cX12_read : ByteArray := prog_14_method_53_code
def yX12_read : MethodName := ⟨RX12, "read", "()I"⟩
abbrev cX12_answer : ByteArray := prog_14_method_54_code
def yX12_answer : MethodName := ⟨RX12, "answer", "()I"⟩
abbrev cX12_count : ByteArray := prog_14_method_55_code
def yX12_count : MethodName := ⟨RX12, "count", "(I)I"⟩
def RL : String := "NestedDeedsLaw"
abbrev cL_law : ByteArray := code
def yL_law : MethodName := ⟨RL, "law", "([I)Z"⟩
abbrev vwCl : List vw_C := [(RX0, TX0, 3), (RX1, TX1, 10), (RX2, TX2, 7), (RX3, TX3, 4), (RX4, TX4, 3), (RX5, TX5, 3), (RX6, TX6, 11), (RX7, TX7, 2), (RX8, TX8, 14), (RX9, TX9, 4), (RX10, TX10, 3), (RX11, TX11, 13), (RX12, TX12, 41)]
abbrev c_jabs : ByteArray := prog_16_method_61_code
def y_jabs : MethodName := ⟨"java/lang/Math", "abs", "(J)J"⟩
abbrev c_jfmod : ByteArray := prog_16_method_52_code
def y_jfmod : MethodName := ⟨"java/lang/Math", "floorMod", "(JJ)J"⟩
abbrev c_jmaxl : ByteArray := prog_16_method_66_code
def y_jmaxl : MethodName := ⟨"java/lang/Math", "max", "(JJ)J"⟩
abbrev c_jminl : ByteArray := prog_16_method_70_code
def y_jminl : MethodName := ⟨"java/lang/Math", "min", "(JJ)J"⟩
abbrev c_jmin : ByteArray := prog_16_method_69_code
def y_jmin : MethodName := ⟨"java/lang/Math", "min", "(II)I"⟩
abbrev c_jrot : ByteArray := prog_15_method_51_code
def y_jrot : MethodName := ⟨"java/lang/Long", "rotateLeft", "(JI)J"⟩
/-- the tables' words that a call hands on -/
def tb : List Cond := lw_tbl.filter goodWord
theorem tb_mem {w : Cond} (h : w ∈ lw_tbl) (hg : goodWord w = true) : w ∈ tb := List.mem_filter.mpr ⟨h, hg⟩
theorem tb_in {w : Cond} (h : w ∈ tb) : w ∈ lw_tbl := (List.mem_filter.mp h).1
theorem tb_good {w : Cond} (h : w ∈ tb) : (w.onTables && w.keeps) = true ∨ ∃ ty, w = .arrayClass ty := good_of_word (List.mem_filter.mp h).2
theorem tb_ws {ws : List Cond} (ps : List Nat) (hp : ws = ps.filterMap (fun i => lw_tbl[i]?)) (h : ws.all goodWord = true) : ∀ w ∈ ws, w ∈ tb := by
  intro w hw
  have h1 := List.all_eq_true.mp h w hw
  rw [hp] at hw
  obtain ⟨i, -, hi⟩ := List.mem_filterMap.mp hw
  exact tb_mem (List.mem_of_getElem? hi) h1
set_option maxRecDepth 20000 in
theorem inX0 : ∀ w ∈ u_ws RX0 TX0 3, w ∈ tb := tb_ws [250, 251, 248] (by decide +kernel) (by decide +kernel)
set_option maxRecDepth 20000 in
theorem inX1 : ∀ w ∈ u_ws RX1 TX1 10, w ∈ tb := tb_ws [311, 312, 295, 297, 299, 301, 303, 305, 307, 309] (by decide +kernel) (by decide +kernel)
set_option maxRecDepth 20000 in
theorem inX2 : ∀ w ∈ u_ws RX2 TX2 7, w ∈ tb := tb_ws [102, 104, 106, 108, 110, 112, 114] (by decide +kernel) (by decide +kernel)
set_option maxRecDepth 20000 in
theorem inX3 : ∀ w ∈ u_ws RX3 TX3 4, w ∈ tb := tb_ws [277, 278, 273, 275] (by decide +kernel) (by decide +kernel)
set_option maxRecDepth 20000 in
theorem inX4 : ∀ w ∈ u_ws RX4 TX4 3, w ∈ tb := tb_ws [238, 239, 236] (by decide +kernel) (by decide +kernel)
set_option maxRecDepth 20000 in
theorem inX5 : ∀ w ∈ u_ws RX5 TX5 3, w ∈ tb := tb_ws [131, 133, 135] (by decide +kernel) (by decide +kernel)
set_option maxRecDepth 20000 in
theorem inX6 : ∀ w ∈ u_ws RX6 TX6 11, w ∈ tb := tb_ws [157, 159, 161, 163, 165, 167, 169, 171, 173, 175, 177] (by decide +kernel) (by decide +kernel)
set_option maxRecDepth 20000 in
theorem inX7 : ∀ w ∈ u_ws RX7 TX7 2, w ∈ tb := tb_ws [208, 210] (by decide +kernel) (by decide +kernel)
set_option maxRecDepth 20000 in
theorem inX8 : ∀ w ∈ u_ws RX8 TX8 14, w ∈ tb := tb_ws [342, 344, 346, 348, 350, 352, 354, 356, 358, 360, 362, 364, 366, 368] (by decide +kernel) (by decide +kernel)
set_option maxRecDepth 20000 in
theorem inX9 : ∀ w ∈ u_ws RX9 TX9 4, w ∈ tb := tb_ws [226, 227, 222, 224] (by decide +kernel) (by decide +kernel)
set_option maxRecDepth 20000 in
theorem inX10 : ∀ w ∈ u_ws RX10 TX10 3, w ∈ tb := tb_ws [262, 263, 260] (by decide +kernel) (by decide +kernel)
set_option maxRecDepth 20000 in
theorem inX11 : ∀ w ∈ u_ws RX11 TX11 13, w ∈ tb := tb_ws [384, 386, 388, 390, 392, 394, 396, 398, 400, 402, 404, 406, 408] (by decide +kernel) (by decide +kernel)
set_option maxRecDepth 20000 in
theorem inX12 : ∀ w ∈ u_ws RX12 TX12 41, w ∈ tb := tb_ws [869, 871, 873, 875, 877, 879, 881, 883, 885, 887, 889, 891, 893, 895, 897, 899, 901, 903, 905, 907, 909, 911, 913, 915, 917, 919, 921, 923, 925, 927, 929, 931, 933, 935, 937, 939, 941, 943, 945, 947, 949] (by decide +kernel) (by decide +kernel)
end
section
theorem dX0_init_0 : decode cX0_init 0 = .ok (.aload_n 0, 1) := by decide +kernel
theorem dX0_init_1 : decode cX0_init 1 = .ok (.aload_n 1, 1) := by decide +kernel
theorem dX0_init_2 : decode cX0_init 2 = .ok (.invokespecial 3, 3) := by decide +kernel
theorem dX0_init_5 : decode cX0_init 5 = .ok (.aload_n 0, 1) := by decide +kernel
theorem dX0_init_6 : decode cX0_init 6 = .ok (.sipush 1502, 3) := by decide +kernel
theorem dX0_init_9 : decode cX0_init 9 = .ok (.newarray .int, 2) := by decide +kernel
theorem dX0_init_11 : decode cX0_init 11 = .ok (.putfield 9, 3) := by decide +kernel
theorem dX0_init_14 : decode cX0_init 14 = .ok (.return_, 1) := by decide +kernel
theorem dX0_begin_0 : decode cX0_begin 0 = .ok (.aload_n 0, 1) := by decide +kernel
theorem dX0_begin_1 : decode cX0_begin 1 = .ok (.getfield 9, 3) := by decide +kernel
theorem dX0_begin_4 : decode cX0_begin 4 = .ok (.iconst 1, 1) := by decide +kernel
theorem dX0_begin_5 : decode cX0_begin 5 = .ok (.iload_n 1, 1) := by decide +kernel
theorem dX0_begin_6 : decode cX0_begin 6 = .ok (.iastore, 1) := by decide +kernel
theorem dX0_begin_7 : decode cX0_begin 7 = .ok (.return_, 1) := by decide +kernel
theorem dX0_enter_0 : decode cX0_enter 0 = .ok (.aload_n 0, 1) := by decide +kernel
theorem dX0_enter_1 : decode cX0_enter 1 = .ok (.getfield 9, 3) := by decide +kernel
theorem dX0_enter_4 : decode cX0_enter 4 = .ok (.iload_n 1, 1) := by decide +kernel
theorem dX0_enter_5 : decode cX0_enter 5 = .ok (.iaload, 1) := by decide +kernel
theorem dX0_enter_6 : decode cX0_enter 6 = .ok (.istore_n 3, 1) := by decide +kernel
theorem dX0_enter_7 : decode cX0_enter 7 = .ok (.aload_n 0, 1) := by decide +kernel
theorem dX0_enter_8 : decode cX0_enter 8 = .ok (.aload_n 0, 1) := by decide +kernel
theorem dX0_enter_9 : decode cX0_enter 9 = .ok (.getfield 15, 3) := by decide +kernel
theorem dX0_enter_12 : decode cX0_enter 12 = .ok (.getfield 19, 3) := by decide +kernel
theorem dX0_enter_15 : decode cX0_enter 15 = .ok (.iload_n 2, 1) := by decide +kernel
theorem dX0_enter_16 : decode cX0_enter 16 = .ok (.iaload, 1) := by decide +kernel
theorem dX0_enter_17 : decode cX0_enter 17 = .ok (.aload_n 0, 1) := by decide +kernel
theorem dX0_enter_18 : decode cX0_enter 18 = .ok (.getfield 15, 3) := by decide +kernel
theorem dX0_enter_21 : decode cX0_enter 21 = .ok (.getfield 19, 3) := by decide +kernel
theorem dX0_enter_24 : decode cX0_enter 24 = .ok (.iload_n 3, 1) := by decide +kernel
theorem dX0_enter_25 : decode cX0_enter 25 = .ok (.iaload, 1) := by decide +kernel
theorem dX0_enter_26 : decode cX0_enter 26 = .ok (.if_icmp .ne 43, 3) := by decide +kernel
theorem dX0_enter_29 : decode cX0_enter 29 = .ok (.aload_n 0, 1) := by decide +kernel
theorem dX0_enter_30 : decode cX0_enter 30 = .ok (.getfield 15, 3) := by decide +kernel
theorem dX0_enter_33 : decode cX0_enter 33 = .ok (.getfield 24, 3) := by decide +kernel
theorem dX0_enter_36 : decode cX0_enter 36 = .ok (.iload_n 2, 1) := by decide +kernel
theorem dX0_enter_37 : decode cX0_enter 37 = .ok (.iaload, 1) := by decide +kernel
theorem dX0_enter_38 : decode cX0_enter 38 = .ok (.aload_n 0, 1) := by decide +kernel
theorem dX0_enter_39 : decode cX0_enter 39 = .ok (.getfield 15, 3) := by decide +kernel
theorem dX0_enter_42 : decode cX0_enter 42 = .ok (.getfield 24, 3) := by decide +kernel
theorem dX0_enter_45 : decode cX0_enter 45 = .ok (.iload_n 3, 1) := by decide +kernel
theorem dX0_enter_46 : decode cX0_enter 46 = .ok (.iaload, 1) := by decide +kernel
theorem dX0_enter_47 : decode cX0_enter 47 = .ok (.if_icmp .ne 22, 3) := by decide +kernel
theorem dX0_enter_50 : decode cX0_enter 50 = .ok (.aload_n 0, 1) := by decide +kernel
theorem dX0_enter_51 : decode cX0_enter 51 = .ok (.getfield 15, 3) := by decide +kernel
theorem dX0_enter_54 : decode cX0_enter 54 = .ok (.iload_n 2, 1) := by decide +kernel
theorem dX0_enter_55 : decode cX0_enter 55 = .ok (.invokevirtual 27, 3) := by decide +kernel
theorem dX0_enter_58 : decode cX0_enter 58 = .ok (.aload_n 0, 1) := by decide +kernel
theorem dX0_enter_59 : decode cX0_enter 59 = .ok (.getfield 15, 3) := by decide +kernel
theorem dX0_enter_62 : decode cX0_enter 62 = .ok (.iload_n 3, 1) := by decide +kernel
theorem dX0_enter_63 : decode cX0_enter 63 = .ok (.invokevirtual 27, 3) := by decide +kernel
theorem dX0_enter_66 : decode cX0_enter 66 = .ok (.if_icmp .eq 7, 3) := by decide +kernel
theorem dX0_enter_69 : decode cX0_enter 69 = .ok (.iconst 1, 1) := by decide +kernel
theorem dX0_enter_70 : decode cX0_enter 70 = .ok (.goto 4, 3) := by decide +kernel
theorem dX0_enter_73 : decode cX0_enter 73 = .ok (.iconst 0, 1) := by decide +kernel
theorem dX0_enter_74 : decode cX0_enter 74 = .ok (.putfield 31, 3) := by decide +kernel
theorem dX0_enter_77 : decode cX0_enter 77 = .ok (.return_, 1) := by decide +kernel
theorem dX0_choose_0 : decode cX0_choose 0 = .ok (.aload_n 0, 1) := by decide +kernel
theorem dX0_choose_1 : decode cX0_choose 1 = .ok (.getfield 9, 3) := by decide +kernel
theorem dX0_choose_4 : decode cX0_choose 4 = .ok (.iload_n 1, 1) := by decide +kernel
theorem dX0_choose_5 : decode cX0_choose 5 = .ok (.iaload, 1) := by decide +kernel
theorem dX0_choose_6 : decode cX0_choose 6 = .ok (.istore 4, 2) := by decide +kernel
theorem dX0_choose_8 : decode cX0_choose 8 = .ok (.iload 4, 2) := by decide +kernel
theorem dX0_choose_10 : decode cX0_choose 10 = .ok (.iload_n 2, 1) := by decide +kernel
theorem dX0_choose_11 : decode cX0_choose 11 = .ok (.if_icmp .ne 5, 3) := by decide +kernel
theorem dX0_choose_14 : decode cX0_choose 14 = .ok (.iconst (-1), 1) := by decide +kernel
theorem dX0_choose_15 : decode cX0_choose 15 = .ok (.ireturn, 1) := by decide +kernel
theorem dX0_choose_16 : decode cX0_choose 16 = .ok (.aload_n 0, 1) := by decide +kernel
theorem dX0_choose_17 : decode cX0_choose 17 = .ok (.getfield 9, 3) := by decide +kernel
theorem dX0_choose_20 : decode cX0_choose 20 = .ok (.iload_n 1, 1) := by decide +kernel
theorem dX0_choose_21 : decode cX0_choose 21 = .ok (.iconst 1, 1) := by decide +kernel
theorem dX0_choose_22 : decode cX0_choose 22 = .ok (.iadd, 1) := by decide +kernel
theorem dX0_choose_23 : decode cX0_choose 23 = .ok (.aload_n 0, 1) := by decide +kernel
theorem dX0_choose_24 : decode cX0_choose 24 = .ok (.getfield 15, 3) := by decide +kernel
theorem dX0_choose_27 : decode cX0_choose 27 = .ok (.iload 4, 2) := by decide +kernel
theorem dX0_choose_29 : decode cX0_choose 29 = .ok (.iload_n 3, 1) := by decide +kernel
theorem dX0_choose_30 : decode cX0_choose 30 = .ok (.invokevirtual 35, 3) := by decide +kernel
theorem dX0_choose_33 : decode cX0_choose 33 = .ok (.iastore, 1) := by decide +kernel
theorem dX0_choose_34 : decode cX0_choose 34 = .ok (.aload_n 0, 1) := by decide +kernel
theorem dX0_choose_35 : decode cX0_choose 35 = .ok (.getfield 15, 3) := by decide +kernel
theorem dX0_choose_38 : decode cX0_choose 38 = .ok (.iload_n 2, 1) := by decide +kernel
theorem dX0_choose_39 : decode cX0_choose 39 = .ok (.iload_n 3, 1) := by decide +kernel
theorem dX0_choose_40 : decode cX0_choose 40 = .ok (.invokevirtual 35, 3) := by decide +kernel
theorem dX0_choose_43 : decode cX0_choose 43 = .ok (.ireturn, 1) := by decide +kernel
theorem dX1_init_0 : decode cX1_init 0 = .ok (.aload_n 0, 1) := by decide +kernel
theorem dX1_init_1 : decode cX1_init 1 = .ok (.aload_n 1, 1) := by decide +kernel
theorem dX1_init_2 : decode cX1_init 2 = .ok (.invokespecial 3, 3) := by decide +kernel
theorem dX1_init_5 : decode cX1_init 5 = .ok (.aload_n 0, 1) := by decide +kernel
theorem dX1_init_6 : decode cX1_init 6 = .ok (.sipush 1502, 3) := by decide +kernel
theorem dX1_init_9 : decode cX1_init 9 = .ok (.newarray .boolean, 2) := by decide +kernel
theorem dX1_init_11 : decode cX1_init 11 = .ok (.putfield 9, 3) := by decide +kernel
theorem dX1_init_14 : decode cX1_init 14 = .ok (.aload_n 0, 1) := by decide +kernel
theorem dX1_init_15 : decode cX1_init 15 = .ok (.sipush 1502, 3) := by decide +kernel
theorem dX1_init_18 : decode cX1_init 18 = .ok (.newarray .int, 2) := by decide +kernel
theorem dX1_init_20 : decode cX1_init 20 = .ok (.putfield 15, 3) := by decide +kernel
theorem dX1_init_23 : decode cX1_init 23 = .ok (.aload_n 0, 1) := by decide +kernel
theorem dX1_init_24 : decode cX1_init 24 = .ok (.sipush 1500, 3) := by decide +kernel
theorem dX1_init_27 : decode cX1_init 27 = .ok (.newarray .long, 2) := by decide +kernel
theorem dX1_init_29 : decode cX1_init 29 = .ok (.putfield 19, 3) := by decide +kernel
theorem dX1_init_32 : decode cX1_init 32 = .ok (.aload_n 0, 1) := by decide +kernel
theorem dX1_init_33 : decode cX1_init 33 = .ok (.sipush 4000, 3) := by decide +kernel
theorem dX1_init_36 : decode cX1_init 36 = .ok (.newarray .int, 2) := by decide +kernel
theorem dX1_init_38 : decode cX1_init 38 = .ok (.putfield 23, 3) := by decide +kernel
theorem dX1_init_41 : decode cX1_init 41 = .ok (.return_, 1) := by decide +kernel
theorem dX1_beginCounting_0 : decode cX1_beginCounting 0 = .ok (.aload_n 0, 1) := by decide +kernel
theorem dX1_beginCounting_1 : decode cX1_beginCounting 1 = .ok (.iload_n 1, 1) := by decide +kernel
theorem dX1_beginCounting_2 : decode cX1_beginCounting 2 = .ok (.putfield 26, 3) := by decide +kernel
theorem dX1_beginCounting_5 : decode cX1_beginCounting 5 = .ok (.aload_n 0, 1) := by decide +kernel
theorem dX1_beginCounting_6 : decode cX1_beginCounting 6 = .ok (.iconst 0, 1) := by decide +kernel
theorem dX1_beginCounting_7 : decode cX1_beginCounting 7 = .ok (.putfield 30, 3) := by decide +kernel
theorem dX1_beginCounting_10 : decode cX1_beginCounting 10 = .ok (.aload_n 0, 1) := by decide +kernel
theorem dX1_beginCounting_11 : decode cX1_beginCounting 11 = .ok (.iconst 0, 1) := by decide +kernel
theorem dX1_beginCounting_12 : decode cX1_beginCounting 12 = .ok (.putfield 34, 3) := by decide +kernel
theorem dX1_beginCounting_15 : decode cX1_beginCounting 15 = .ok (.aload_n 0, 1) := by decide +kernel
theorem dX1_beginCounting_16 : decode cX1_beginCounting 16 = .ok (.iconst 0, 1) := by decide +kernel
theorem dX1_beginCounting_17 : decode cX1_beginCounting 17 = .ok (.putfield 37, 3) := by decide +kernel
theorem dX1_beginCounting_20 : decode cX1_beginCounting 20 = .ok (.return_, 1) := by decide +kernel
theorem dX1_beginMaking_0 : decode cX1_beginMaking 0 = .ok (.aload_n 0, 1) := by decide +kernel
theorem dX1_beginMaking_1 : decode cX1_beginMaking 1 = .ok (.iconst 1, 1) := by decide +kernel
theorem dX1_beginMaking_2 : decode cX1_beginMaking 2 = .ok (.putfield 30, 3) := by decide +kernel
theorem dX1_beginMaking_5 : decode cX1_beginMaking 5 = .ok (.aload_n 0, 1) := by decide +kernel
theorem dX1_beginMaking_6 : decode cX1_beginMaking 6 = .ok (.iload_n 2, 1) := by decide +kernel
theorem dX1_beginMaking_7 : decode cX1_beginMaking 7 = .ok (.putfield 34, 3) := by decide +kernel
theorem dX1_beginMaking_10 : decode cX1_beginMaking 10 = .ok (.iload_n 2, 1) := by decide +kernel
theorem dX1_beginMaking_11 : decode cX1_beginMaking 11 = .ok (.ifCond .eq 31, 3) := by decide +kernel
theorem dX1_beginMaking_14 : decode cX1_beginMaking 14 = .ok (.aload_n 0, 1) := by decide +kernel
theorem dX1_beginMaking_15 : decode cX1_beginMaking 15 = .ok (.getfield 40, 3) := by decide +kernel
theorem dX1_beginMaking_18 : decode cX1_beginMaking 18 = .ok (.getfield 44, 3) := by decide +kernel
theorem dX1_beginMaking_21 : decode cX1_beginMaking 21 = .ok (.iconst 0, 1) := by decide +kernel
theorem dX1_beginMaking_22 : decode cX1_beginMaking 22 = .ok (.aload_n 0, 1) := by decide +kernel
theorem dX1_beginMaking_23 : decode cX1_beginMaking 23 = .ok (.getfield 23, 3) := by decide +kernel
theorem dX1_beginMaking_26 : decode cX1_beginMaking 26 = .ok (.iconst 0, 1) := by decide +kernel
theorem dX1_beginMaking_27 : decode cX1_beginMaking 27 = .ok (.aload_n 0, 1) := by decide +kernel
theorem dX1_beginMaking_28 : decode cX1_beginMaking 28 = .ok (.getfield 40, 3) := by decide +kernel
theorem dX1_beginMaking_31 : decode cX1_beginMaking 31 = .ok (.invokevirtual 49, 3) := by decide +kernel
theorem dX1_beginMaking_34 : decode cX1_beginMaking 34 = .ok (.invokestatic 53, 3) := by decide +kernel
theorem dX1_beginMaking_37 : decode cX1_beginMaking 37 = .ok (.aload_n 0, 1) := by decide +kernel
theorem dX1_beginMaking_38 : decode cX1_beginMaking 38 = .ok (.iload_n 1, 1) := by decide +kernel
theorem dX1_beginMaking_39 : decode cX1_beginMaking 39 = .ok (.invokevirtual 59, 3) := by decide +kernel
theorem dX1_beginMaking_42 : decode cX1_beginMaking 42 = .ok (.return_, 1) := by decide +kernel
theorem dX1_reckonMarks_0 : decode cX1_reckonMarks 0 = .ok (.iconst 0, 1) := by decide +kernel
theorem dX1_reckonMarks_1 : decode cX1_reckonMarks 1 = .ok (.istore_n 2, 1) := by decide +kernel
theorem dX1_reckonMarks_2 : decode cX1_reckonMarks 2 = .ok (.iload_n 2, 1) := by decide +kernel
theorem dX1_reckonMarks_3 : decode cX1_reckonMarks 3 = .ok (.iload_n 1, 1) := by decide +kernel
theorem dX1_reckonMarks_4 : decode cX1_reckonMarks 4 = .ok (.if_icmp .gt 94, 3) := by decide +kernel
theorem dX1_reckonMarks_7 : decode cX1_reckonMarks 7 = .ok (.aload_n 0, 1) := by decide +kernel
theorem dX1_reckonMarks_8 : decode cX1_reckonMarks 8 = .ok (.getfield 40, 3) := by decide +kernel
theorem dX1_reckonMarks_11 : decode cX1_reckonMarks 11 = .ok (.getfield 63, 3) := by decide +kernel
theorem dX1_reckonMarks_14 : decode cX1_reckonMarks 14 = .ok (.iload_n 2, 1) := by decide +kernel
theorem dX1_reckonMarks_15 : decode cX1_reckonMarks 15 = .ok (.iaload, 1) := by decide +kernel
theorem dX1_reckonMarks_16 : decode cX1_reckonMarks 16 = .ok (.aload_n 0, 1) := by decide +kernel
theorem dX1_reckonMarks_17 : decode cX1_reckonMarks 17 = .ok (.getfield 40, 3) := by decide +kernel
theorem dX1_reckonMarks_20 : decode cX1_reckonMarks 20 = .ok (.getfield 66, 3) := by decide +kernel
theorem dX1_reckonMarks_23 : decode cX1_reckonMarks 23 = .ok (.iload_n 2, 1) := by decide +kernel
theorem dX1_reckonMarks_24 : decode cX1_reckonMarks 24 = .ok (.iaload, 1) := by decide +kernel
theorem dX1_reckonMarks_25 : decode cX1_reckonMarks 25 = .ok (.invokestatic 69, 3) := by decide +kernel
theorem dX1_reckonMarks_28 : decode cX1_reckonMarks 28 = .ok (.lstore_n 3, 1) := by decide +kernel
theorem dX1_reckonMarks_29 : decode cX1_reckonMarks 29 = .ok (.aload_n 0, 1) := by decide +kernel
theorem dX1_reckonMarks_30 : decode cX1_reckonMarks 30 = .ok (.getfield 40, 3) := by decide +kernel
theorem dX1_reckonMarks_33 : decode cX1_reckonMarks 33 = .ok (.getfield 75, 3) := by decide +kernel
theorem dX1_reckonMarks_36 : decode cX1_reckonMarks 36 = .ok (.iload_n 2, 1) := by decide +kernel
theorem dX1_reckonMarks_37 : decode cX1_reckonMarks 37 = .ok (.iaload, 1) := by decide +kernel
theorem dX1_reckonMarks_38 : decode cX1_reckonMarks 38 = .ok (.istore 5, 2) := by decide +kernel
theorem dX1_reckonMarks_40 : decode cX1_reckonMarks 40 = .ok (.iload 5, 2) := by decide +kernel
theorem dX1_reckonMarks_42 : decode cX1_reckonMarks 42 = .ok (.aload_n 0, 1) := by decide +kernel
theorem dX1_reckonMarks_43 : decode cX1_reckonMarks 43 = .ok (.getfield 40, 3) := by decide +kernel
theorem dX1_reckonMarks_46 : decode cX1_reckonMarks 46 = .ok (.getfield 75, 3) := by decide +kernel
theorem dX1_reckonMarks_49 : decode cX1_reckonMarks 49 = .ok (.iload_n 2, 1) := by decide +kernel
theorem dX1_reckonMarks_50 : decode cX1_reckonMarks 50 = .ok (.iconst 1, 1) := by decide +kernel
theorem dX1_reckonMarks_51 : decode cX1_reckonMarks 51 = .ok (.iadd, 1) := by decide +kernel
theorem dX1_reckonMarks_52 : decode cX1_reckonMarks 52 = .ok (.iaload, 1) := by decide +kernel
theorem dX1_reckonMarks_53 : decode cX1_reckonMarks 53 = .ok (.if_icmp .ge 29, 3) := by decide +kernel
theorem dX1_reckonMarks_56 : decode cX1_reckonMarks 56 = .ok (.lload_n 3, 1) := by decide +kernel
theorem dX1_reckonMarks_57 : decode cX1_reckonMarks 57 = .ok (.aload_n 0, 1) := by decide +kernel
theorem dX1_reckonMarks_58 : decode cX1_reckonMarks 58 = .ok (.getfield 19, 3) := by decide +kernel
theorem dX1_reckonMarks_61 : decode cX1_reckonMarks 61 = .ok (.aload_n 0, 1) := by decide +kernel
theorem dX1_reckonMarks_62 : decode cX1_reckonMarks 62 = .ok (.getfield 40, 3) := by decide +kernel
theorem dX1_reckonMarks_65 : decode cX1_reckonMarks 65 = .ok (.getfield 44, 3) := by decide +kernel
theorem dX1_reckonMarks_68 : decode cX1_reckonMarks 68 = .ok (.iload 5, 2) := by decide +kernel
theorem dX1_reckonMarks_70 : decode cX1_reckonMarks 70 = .ok (.iaload, 1) := by decide +kernel
theorem dX1_reckonMarks_71 : decode cX1_reckonMarks 71 = .ok (.laload, 1) := by decide +kernel
theorem dX1_reckonMarks_72 : decode cX1_reckonMarks 72 = .ok (.invokestatic 78, 3) := by decide +kernel
theorem dX1_reckonMarks_75 : decode cX1_reckonMarks 75 = .ok (.lstore_n 3, 1) := by decide +kernel
theorem dX1_reckonMarks_76 : decode cX1_reckonMarks 76 = .ok (.iinc 5 1, 3) := by decide +kernel
theorem dX1_reckonMarks_79 : decode cX1_reckonMarks 79 = .ok (.goto (-39), 3) := by decide +kernel
theorem dX1_reckonMarks_82 : decode cX1_reckonMarks 82 = .ok (.aload_n 0, 1) := by decide +kernel
theorem dX1_reckonMarks_83 : decode cX1_reckonMarks 83 = .ok (.getfield 19, 3) := by decide +kernel
theorem dX1_reckonMarks_86 : decode cX1_reckonMarks 86 = .ok (.iload_n 2, 1) := by decide +kernel
theorem dX1_reckonMarks_87 : decode cX1_reckonMarks 87 = .ok (.lload_n 3, 1) := by decide +kernel
theorem dX1_reckonMarks_88 : decode cX1_reckonMarks 88 = .ok (.invokestatic 82, 3) := by decide +kernel
theorem dX1_reckonMarks_91 : decode cX1_reckonMarks 91 = .ok (.lastore, 1) := by decide +kernel
theorem dX1_reckonMarks_92 : decode cX1_reckonMarks 92 = .ok (.iinc 2 1, 3) := by decide +kernel
theorem dX1_reckonMarks_95 : decode cX1_reckonMarks 95 = .ok (.goto (-93), 3) := by decide +kernel
theorem dX1_reckonMarks_98 : decode cX1_reckonMarks 98 = .ok (.return_, 1) := by decide +kernel
theorem dX1_enter_0 : decode cX1_enter 0 = .ok (.aload_n 0, 1) := by decide +kernel
theorem dX1_enter_1 : decode cX1_enter 1 = .ok (.getfield 40, 3) := by decide +kernel
theorem dX1_enter_4 : decode cX1_enter 4 = .ok (.getfield 63, 3) := by decide +kernel
theorem dX1_enter_7 : decode cX1_enter 7 = .ok (.iload_n 2, 1) := by decide +kernel
theorem dX1_enter_8 : decode cX1_enter 8 = .ok (.iaload, 1) := by decide +kernel
theorem dX1_enter_9 : decode cX1_enter 9 = .ok (.ifCond .ne 23, 3) := by decide +kernel
theorem dX1_enter_12 : decode cX1_enter 12 = .ok (.aload_n 0, 1) := by decide +kernel
theorem dX1_enter_13 : decode cX1_enter 13 = .ok (.getfield 40, 3) := by decide +kernel
theorem dX1_enter_16 : decode cX1_enter 16 = .ok (.getfield 66, 3) := by decide +kernel
theorem dX1_enter_19 : decode cX1_enter 19 = .ok (.iload_n 2, 1) := by decide +kernel
theorem dX1_enter_20 : decode cX1_enter 20 = .ok (.iaload, 1) := by decide +kernel
theorem dX1_enter_21 : decode cX1_enter 21 = .ok (.aload_n 0, 1) := by decide +kernel
theorem dX1_enter_22 : decode cX1_enter 22 = .ok (.getfield 26, 3) := by decide +kernel
theorem dX1_enter_25 : decode cX1_enter 25 = .ok (.if_icmp .le 7, 3) := by decide +kernel
theorem dX1_enter_28 : decode cX1_enter 28 = .ok (.iconst 1, 1) := by decide +kernel
theorem dX1_enter_29 : decode cX1_enter 29 = .ok (.goto 4, 3) := by decide +kernel
theorem dX1_enter_32 : decode cX1_enter 32 = .ok (.iconst 0, 1) := by decide +kernel
theorem dX1_enter_33 : decode cX1_enter 33 = .ok (.istore_n 3, 1) := by decide +kernel
theorem dX1_enter_34 : decode cX1_enter 34 = .ok (.aload_n 0, 1) := by decide +kernel
theorem dX1_enter_35 : decode cX1_enter 35 = .ok (.getfield 9, 3) := by decide +kernel
theorem dX1_enter_38 : decode cX1_enter 38 = .ok (.iload_n 1, 1) := by decide +kernel
theorem dX1_enter_39 : decode cX1_enter 39 = .ok (.iload_n 1, 1) := by decide +kernel
theorem dX1_enter_40 : decode cX1_enter 40 = .ok (.iconst 1, 1) := by decide +kernel
theorem dX1_enter_41 : decode cX1_enter 41 = .ok (.if_icmp .eq 18, 3) := by decide +kernel
theorem dX1_enter_44 : decode cX1_enter 44 = .ok (.aload_n 0, 1) := by decide +kernel
theorem dX1_enter_45 : decode cX1_enter 45 = .ok (.getfield 9, 3) := by decide +kernel
theorem dX1_enter_48 : decode cX1_enter 48 = .ok (.iload_n 1, 1) := by decide +kernel
theorem dX1_enter_49 : decode cX1_enter 49 = .ok (.iconst 1, 1) := by decide +kernel
theorem dX1_enter_50 : decode cX1_enter 50 = .ok (.isub, 1) := by decide +kernel
theorem dX1_enter_51 : decode cX1_enter 51 = .ok (.baload, 1) := by decide +kernel
theorem dX1_enter_52 : decode cX1_enter 52 = .ok (.ifCond .eq 11, 3) := by decide +kernel
theorem dX1_enter_55 : decode cX1_enter 55 = .ok (.iload_n 3, 1) := by decide +kernel
theorem dX1_enter_56 : decode cX1_enter 56 = .ok (.ifCond .ne 7, 3) := by decide +kernel
theorem dX1_enter_59 : decode cX1_enter 59 = .ok (.iconst 1, 1) := by decide +kernel
theorem dX1_enter_60 : decode cX1_enter 60 = .ok (.goto 4, 3) := by decide +kernel
theorem dX1_enter_63 : decode cX1_enter 63 = .ok (.iconst 0, 1) := by decide +kernel
theorem dX1_enter_64 : decode cX1_enter 64 = .ok (.bastore, 1) := by decide +kernel
theorem dX1_enter_65 : decode cX1_enter 65 = .ok (.aload_n 0, 1) := by decide +kernel
theorem dX1_enter_66 : decode cX1_enter 66 = .ok (.getfield 15, 3) := by decide +kernel
theorem dX1_enter_69 : decode cX1_enter 69 = .ok (.iload_n 1, 1) := by decide +kernel
theorem dX1_enter_70 : decode cX1_enter 70 = .ok (.iconst 0, 1) := by decide +kernel
theorem dX1_enter_71 : decode cX1_enter 71 = .ok (.iastore, 1) := by decide +kernel
theorem dX1_enter_72 : decode cX1_enter 72 = .ok (.aload_n 0, 1) := by decide +kernel
theorem dX1_enter_73 : decode cX1_enter 73 = .ok (.getfield 9, 3) := by decide +kernel
theorem dX1_enter_76 : decode cX1_enter 76 = .ok (.iload_n 1, 1) := by decide +kernel
theorem dX1_enter_77 : decode cX1_enter 77 = .ok (.baload, 1) := by decide +kernel
theorem dX1_enter_78 : decode cX1_enter 78 = .ok (.ifCond .eq 13, 3) := by decide +kernel
theorem dX1_enter_81 : decode cX1_enter 81 = .ok (.aload_n 0, 1) := by decide +kernel
theorem dX1_enter_82 : decode cX1_enter 82 = .ok (.dup, 1) := by decide +kernel
theorem dX1_enter_83 : decode cX1_enter 83 = .ok (.getfield 37, 3) := by decide +kernel
theorem dX1_enter_86 : decode cX1_enter 86 = .ok (.iconst 1, 1) := by decide +kernel
theorem dX1_enter_87 : decode cX1_enter 87 = .ok (.iadd, 1) := by decide +kernel
theorem dX1_enter_88 : decode cX1_enter 88 = .ok (.putfield 37, 3) := by decide +kernel
theorem dX1_enter_91 : decode cX1_enter 91 = .ok (.aload_n 0, 1) := by decide +kernel
theorem dX1_enter_92 : decode cX1_enter 92 = .ok (.getfield 34, 3) := by decide +kernel
theorem dX1_enter_95 : decode cX1_enter 95 = .ok (.ifCond .eq 27, 3) := by decide +kernel
theorem dX1_enter_98 : decode cX1_enter 98 = .ok (.aload_n 0, 1) := by decide +kernel
theorem dX1_enter_99 : decode cX1_enter 99 = .ok (.aload_n 0, 1) := by decide +kernel
theorem dX1_enter_100 : decode cX1_enter 100 = .ok (.getfield 40, 3) := by decide +kernel
theorem dX1_enter_103 : decode cX1_enter 103 = .ok (.getfield 75, 3) := by decide +kernel
theorem dX1_enter_106 : decode cX1_enter 106 = .ok (.iload_n 2, 1) := by decide +kernel
theorem dX1_enter_107 : decode cX1_enter 107 = .ok (.iaload, 1) := by decide +kernel
theorem dX1_enter_108 : decode cX1_enter 108 = .ok (.aload_n 0, 1) := by decide +kernel
theorem dX1_enter_109 : decode cX1_enter 109 = .ok (.getfield 40, 3) := by decide +kernel
theorem dX1_enter_112 : decode cX1_enter 112 = .ok (.getfield 75, 3) := by decide +kernel
theorem dX1_enter_115 : decode cX1_enter 115 = .ok (.iload_n 2, 1) := by decide +kernel
theorem dX1_enter_116 : decode cX1_enter 116 = .ok (.iconst 1, 1) := by decide +kernel
theorem dX1_enter_117 : decode cX1_enter 117 = .ok (.iadd, 1) := by decide +kernel
theorem dX1_enter_118 : decode cX1_enter 118 = .ok (.iaload, 1) := by decide +kernel
theorem dX1_enter_119 : decode cX1_enter 119 = .ok (.invokevirtual 86, 3) := by decide +kernel
theorem dX1_enter_122 : decode cX1_enter 122 = .ok (.return_, 1) := by decide +kernel
theorem dX1_sortParts_0 : decode cX1_sortParts 0 = .ok (.iload_n 1, 1) := by decide +kernel
theorem dX1_sortParts_1 : decode cX1_sortParts 1 = .ok (.iconst 1, 1) := by decide +kernel
theorem dX1_sortParts_2 : decode cX1_sortParts 2 = .ok (.iadd, 1) := by decide +kernel
theorem dX1_sortParts_3 : decode cX1_sortParts 3 = .ok (.istore_n 3, 1) := by decide +kernel
theorem dX1_sortParts_4 : decode cX1_sortParts 4 = .ok (.iload_n 3, 1) := by decide +kernel
theorem dX1_sortParts_5 : decode cX1_sortParts 5 = .ok (.iload_n 2, 1) := by decide +kernel
theorem dX1_sortParts_6 : decode cX1_sortParts 6 = .ok (.if_icmp .ge 82, 3) := by decide +kernel
theorem dX1_sortParts_9 : decode cX1_sortParts 9 = .ok (.aload_n 0, 1) := by decide +kernel
theorem dX1_sortParts_10 : decode cX1_sortParts 10 = .ok (.getfield 23, 3) := by decide +kernel
theorem dX1_sortParts_13 : decode cX1_sortParts 13 = .ok (.iload_n 3, 1) := by decide +kernel
theorem dX1_sortParts_14 : decode cX1_sortParts 14 = .ok (.iaload, 1) := by decide +kernel
theorem dX1_sortParts_15 : decode cX1_sortParts 15 = .ok (.istore 4, 2) := by decide +kernel
theorem dX1_sortParts_17 : decode cX1_sortParts 17 = .ok (.iload_n 3, 1) := by decide +kernel
theorem dX1_sortParts_18 : decode cX1_sortParts 18 = .ok (.istore 5, 2) := by decide +kernel
theorem dX1_sortParts_20 : decode cX1_sortParts 20 = .ok (.iload 5, 2) := by decide +kernel
theorem dX1_sortParts_22 : decode cX1_sortParts 22 = .ok (.iload_n 1, 1) := by decide +kernel
theorem dX1_sortParts_23 : decode cX1_sortParts 23 = .ok (.if_icmp .le 50, 3) := by decide +kernel
theorem dX1_sortParts_26 : decode cX1_sortParts 26 = .ok (.aload_n 0, 1) := by decide +kernel
theorem dX1_sortParts_27 : decode cX1_sortParts 27 = .ok (.getfield 19, 3) := by decide +kernel
theorem dX1_sortParts_30 : decode cX1_sortParts 30 = .ok (.aload_n 0, 1) := by decide +kernel
theorem dX1_sortParts_31 : decode cX1_sortParts 31 = .ok (.getfield 23, 3) := by decide +kernel
theorem dX1_sortParts_34 : decode cX1_sortParts 34 = .ok (.iload 5, 2) := by decide +kernel
theorem dX1_sortParts_36 : decode cX1_sortParts 36 = .ok (.iconst 1, 1) := by decide +kernel
theorem dX1_sortParts_37 : decode cX1_sortParts 37 = .ok (.isub, 1) := by decide +kernel
theorem dX1_sortParts_38 : decode cX1_sortParts 38 = .ok (.iaload, 1) := by decide +kernel
theorem dX1_sortParts_39 : decode cX1_sortParts 39 = .ok (.laload, 1) := by decide +kernel
theorem dX1_sortParts_40 : decode cX1_sortParts 40 = .ok (.aload_n 0, 1) := by decide +kernel
theorem dX1_sortParts_41 : decode cX1_sortParts 41 = .ok (.getfield 19, 3) := by decide +kernel
theorem dX1_sortParts_44 : decode cX1_sortParts 44 = .ok (.iload 4, 2) := by decide +kernel
theorem dX1_sortParts_46 : decode cX1_sortParts 46 = .ok (.laload, 1) := by decide +kernel
theorem dX1_sortParts_47 : decode cX1_sortParts 47 = .ok (.lcmp, 1) := by decide +kernel
theorem dX1_sortParts_48 : decode cX1_sortParts 48 = .ok (.ifCond .le 25, 3) := by decide +kernel
theorem dX1_sortParts_51 : decode cX1_sortParts 51 = .ok (.aload_n 0, 1) := by decide +kernel
theorem dX1_sortParts_52 : decode cX1_sortParts 52 = .ok (.getfield 23, 3) := by decide +kernel
theorem dX1_sortParts_55 : decode cX1_sortParts 55 = .ok (.iload 5, 2) := by decide +kernel
theorem dX1_sortParts_57 : decode cX1_sortParts 57 = .ok (.aload_n 0, 1) := by decide +kernel
theorem dX1_sortParts_58 : decode cX1_sortParts 58 = .ok (.getfield 23, 3) := by decide +kernel
theorem dX1_sortParts_61 : decode cX1_sortParts 61 = .ok (.iload 5, 2) := by decide +kernel
theorem dX1_sortParts_63 : decode cX1_sortParts 63 = .ok (.iconst 1, 1) := by decide +kernel
theorem dX1_sortParts_64 : decode cX1_sortParts 64 = .ok (.isub, 1) := by decide +kernel
theorem dX1_sortParts_65 : decode cX1_sortParts 65 = .ok (.iaload, 1) := by decide +kernel
theorem dX1_sortParts_66 : decode cX1_sortParts 66 = .ok (.iastore, 1) := by decide +kernel
theorem dX1_sortParts_67 : decode cX1_sortParts 67 = .ok (.iinc 5 (-1), 3) := by decide +kernel
theorem dX1_sortParts_70 : decode cX1_sortParts 70 = .ok (.goto (-50), 3) := by decide +kernel
theorem dX1_sortParts_73 : decode cX1_sortParts 73 = .ok (.aload_n 0, 1) := by decide +kernel
theorem dX1_sortParts_74 : decode cX1_sortParts 74 = .ok (.getfield 23, 3) := by decide +kernel
theorem dX1_sortParts_77 : decode cX1_sortParts 77 = .ok (.iload 5, 2) := by decide +kernel
theorem dX1_sortParts_79 : decode cX1_sortParts 79 = .ok (.iload 4, 2) := by decide +kernel
theorem dX1_sortParts_81 : decode cX1_sortParts 81 = .ok (.iastore, 1) := by decide +kernel
theorem dX1_sortParts_82 : decode cX1_sortParts 82 = .ok (.iinc 3 1, 3) := by decide +kernel
theorem dX1_sortParts_85 : decode cX1_sortParts 85 = .ok (.goto (-81), 3) := by decide +kernel
theorem dX1_sortParts_88 : decode cX1_sortParts 88 = .ok (.return_, 1) := by decide +kernel
theorem dX1_choose_0 : decode cX1_choose 0 = .ok (.aload_n 0, 1) := by decide +kernel
theorem dX1_choose_1 : decode cX1_choose 1 = .ok (.getfield 34, 3) := by decide +kernel
theorem dX1_choose_4 : decode cX1_choose 4 = .ok (.ifCond .eq 22, 3) := by decide +kernel
theorem dX1_choose_7 : decode cX1_choose 7 = .ok (.aload_n 0, 1) := by decide +kernel
theorem dX1_choose_8 : decode cX1_choose 8 = .ok (.getfield 23, 3) := by decide +kernel
theorem dX1_choose_11 : decode cX1_choose 11 = .ok (.aload_n 0, 1) := by decide +kernel
theorem dX1_choose_12 : decode cX1_choose 12 = .ok (.getfield 40, 3) := by decide +kernel
theorem dX1_choose_15 : decode cX1_choose 15 = .ok (.getfield 75, 3) := by decide +kernel
theorem dX1_choose_18 : decode cX1_choose 18 = .ok (.iload_n 2, 1) := by decide +kernel
theorem dX1_choose_19 : decode cX1_choose 19 = .ok (.iaload, 1) := by decide +kernel
theorem dX1_choose_20 : decode cX1_choose 20 = .ok (.iload_n 3, 1) := by decide +kernel
theorem dX1_choose_21 : decode cX1_choose 21 = .ok (.iadd, 1) := by decide +kernel
theorem dX1_choose_22 : decode cX1_choose 22 = .ok (.iaload, 1) := by decide +kernel
theorem dX1_choose_23 : decode cX1_choose 23 = .ok (.goto 12, 3) := by decide +kernel
theorem dX1_choose_26 : decode cX1_choose 26 = .ok (.aload_n 0, 1) := by decide +kernel
theorem dX1_choose_27 : decode cX1_choose 27 = .ok (.getfield 40, 3) := by decide +kernel
theorem dX1_choose_30 : decode cX1_choose 30 = .ok (.iload_n 2, 1) := by decide +kernel
theorem dX1_choose_31 : decode cX1_choose 31 = .ok (.iload_n 3, 1) := by decide +kernel
theorem dX1_choose_32 : decode cX1_choose 32 = .ok (.invokevirtual 90, 3) := by decide +kernel
theorem dX1_choose_35 : decode cX1_choose 35 = .ok (.ireturn, 1) := by decide +kernel
theorem dX1_takeUp_0 : decode cX1_takeUp 0 = .ok (.aload_n 0, 1) := by decide +kernel
theorem dX1_takeUp_1 : decode cX1_takeUp 1 = .ok (.getfield 9, 3) := by decide +kernel
theorem dX1_takeUp_4 : decode cX1_takeUp 4 = .ok (.iload_n 1, 1) := by decide +kernel
theorem dX1_takeUp_5 : decode cX1_takeUp 5 = .ok (.iconst 1, 1) := by decide +kernel
theorem dX1_takeUp_6 : decode cX1_takeUp 6 = .ok (.iadd, 1) := by decide +kernel
theorem dX1_takeUp_7 : decode cX1_takeUp 7 = .ok (.baload, 1) := by decide +kernel
theorem dX1_takeUp_8 : decode cX1_takeUp 8 = .ok (.ifCond .eq 13, 3) := by decide +kernel
theorem dX1_takeUp_11 : decode cX1_takeUp 11 = .ok (.aload_n 0, 1) := by decide +kernel
theorem dX1_takeUp_12 : decode cX1_takeUp 12 = .ok (.getfield 15, 3) := by decide +kernel
theorem dX1_takeUp_15 : decode cX1_takeUp 15 = .ok (.iload_n 1, 1) := by decide +kernel
theorem dX1_takeUp_16 : decode cX1_takeUp 16 = .ok (.dup2, 1) := by decide +kernel
theorem dX1_takeUp_17 : decode cX1_takeUp 17 = .ok (.iaload, 1) := by decide +kernel
theorem dX1_takeUp_18 : decode cX1_takeUp 18 = .ok (.iconst 1, 1) := by decide +kernel
theorem dX1_takeUp_19 : decode cX1_takeUp 19 = .ok (.iadd, 1) := by decide +kernel
theorem dX1_takeUp_20 : decode cX1_takeUp 20 = .ok (.iastore, 1) := by decide +kernel
theorem dX1_takeUp_21 : decode cX1_takeUp 21 = .ok (.return_, 1) := by decide +kernel
theorem dX1_leave_0 : decode cX1_leave 0 = .ok (.aload_n 0, 1) := by decide +kernel
theorem dX1_leave_1 : decode cX1_leave 1 = .ok (.getfield 30, 3) := by decide +kernel
theorem dX1_leave_4 : decode cX1_leave 4 = .ok (.ifCond .eq 43, 3) := by decide +kernel
theorem dX1_leave_7 : decode cX1_leave 7 = .ok (.aload_n 0, 1) := by decide +kernel
theorem dX1_leave_8 : decode cX1_leave 8 = .ok (.getfield 9, 3) := by decide +kernel
theorem dX1_leave_11 : decode cX1_leave 11 = .ok (.iload_n 1, 1) := by decide +kernel
theorem dX1_leave_12 : decode cX1_leave 12 = .ok (.baload, 1) := by decide +kernel
theorem dX1_leave_13 : decode cX1_leave 13 = .ok (.ifCond .eq 34, 3) := by decide +kernel
theorem dX1_leave_16 : decode cX1_leave 16 = .ok (.aload_n 0, 1) := by decide +kernel
theorem dX1_leave_17 : decode cX1_leave 17 = .ok (.getfield 40, 3) := by decide +kernel
theorem dX1_leave_20 : decode cX1_leave 20 = .ok (.aload_n 0, 1) := by decide +kernel
theorem dX1_leave_21 : decode cX1_leave 21 = .ok (.getfield 40, 3) := by decide +kernel
theorem dX1_leave_24 : decode cX1_leave 24 = .ok (.getfield 63, 3) := by decide +kernel
theorem dX1_leave_27 : decode cX1_leave 27 = .ok (.iload_n 2, 1) := by decide +kernel
theorem dX1_leave_28 : decode cX1_leave 28 = .ok (.iaload, 1) := by decide +kernel
theorem dX1_leave_29 : decode cX1_leave 29 = .ok (.aload_n 0, 1) := by decide +kernel
theorem dX1_leave_30 : decode cX1_leave 30 = .ok (.getfield 40, 3) := by decide +kernel
theorem dX1_leave_33 : decode cX1_leave 33 = .ok (.getfield 66, 3) := by decide +kernel
theorem dX1_leave_36 : decode cX1_leave 36 = .ok (.iload_n 2, 1) := by decide +kernel
theorem dX1_leave_37 : decode cX1_leave 37 = .ok (.iaload, 1) := by decide +kernel
theorem dX1_leave_38 : decode cX1_leave 38 = .ok (.aload_n 0, 1) := by decide +kernel
theorem dX1_leave_39 : decode cX1_leave 39 = .ok (.getfield 15, 3) := by decide +kernel
theorem dX1_leave_42 : decode cX1_leave 42 = .ok (.iload_n 1, 1) := by decide +kernel
theorem dX1_leave_43 : decode cX1_leave 43 = .ok (.iaload, 1) := by decide +kernel
theorem dX1_leave_44 : decode cX1_leave 44 = .ok (.invokevirtual 94, 3) := by decide +kernel
theorem dX1_leave_47 : decode cX1_leave 47 = .ok (.return_, 1) := by decide +kernel
theorem dX2_init_0 : decode cX2_init 0 = .ok (.aload_n 0, 1) := by decide +kernel
theorem dX2_init_1 : decode cX2_init 1 = .ok (.invokespecial 3, 3) := by decide +kernel
theorem dX2_init_4 : decode cX2_init 4 = .ok (.aload_n 0, 1) := by decide +kernel
theorem dX2_init_5 : decode cX2_init 5 = .ok (.sipush 1500, 3) := by decide +kernel
theorem dX2_init_8 : decode cX2_init 8 = .ok (.newarray .int, 2) := by decide +kernel
theorem dX2_init_10 : decode cX2_init 10 = .ok (.putfield 9, 3) := by decide +kernel
theorem dX2_init_13 : decode cX2_init 13 = .ok (.aload_n 0, 1) := by decide +kernel
theorem dX2_init_14 : decode cX2_init 14 = .ok (.sipush 1500, 3) := by decide +kernel
theorem dX2_init_17 : decode cX2_init 17 = .ok (.newarray .int, 2) := by decide +kernel
theorem dX2_init_19 : decode cX2_init 19 = .ok (.putfield 15, 3) := by decide +kernel
theorem dX2_init_22 : decode cX2_init 22 = .ok (.aload_n 0, 1) := by decide +kernel
theorem dX2_init_23 : decode cX2_init 23 = .ok (.sipush 1501, 3) := by decide +kernel
theorem dX2_init_26 : decode cX2_init 26 = .ok (.newarray .int, 2) := by decide +kernel
theorem dX2_init_28 : decode cX2_init 28 = .ok (.putfield 18, 3) := by decide +kernel
theorem dX2_init_31 : decode cX2_init 31 = .ok (.aload_n 0, 1) := by decide +kernel
theorem dX2_init_32 : decode cX2_init 32 = .ok (.sipush 4000, 3) := by decide +kernel
theorem dX2_init_35 : decode cX2_init 35 = .ok (.newarray .int, 2) := by decide +kernel
theorem dX2_init_37 : decode cX2_init 37 = .ok (.putfield 21, 3) := by decide +kernel
theorem dX2_init_40 : decode cX2_init 40 = .ok (.aload_n 0, 1) := by decide +kernel
theorem dX2_init_41 : decode cX2_init 41 = .ok (.sipush 1500, 3) := by decide +kernel
theorem dX2_init_44 : decode cX2_init 44 = .ok (.newarray .int, 2) := by decide +kernel
theorem dX2_init_46 : decode cX2_init 46 = .ok (.putfield 24, 3) := by decide +kernel
theorem dX2_init_49 : decode cX2_init 49 = .ok (.return_, 1) := by decide +kernel
theorem dX2_has_0 : decode cX2_has 0 = .ok (.iload_n 1, 1) := by decide +kernel
theorem dX2_has_1 : decode cX2_has 1 = .ok (.ifCond .lt 15, 3) := by decide +kernel
theorem dX2_has_4 : decode cX2_has 4 = .ok (.iload_n 1, 1) := by decide +kernel
theorem dX2_has_5 : decode cX2_has 5 = .ok (.aload_n 0, 1) := by decide +kernel
theorem dX2_has_6 : decode cX2_has 6 = .ok (.getfield 27, 3) := by decide +kernel
theorem dX2_has_9 : decode cX2_has 9 = .ok (.if_icmp .ge 7, 3) := by decide +kernel
theorem dX2_has_12 : decode cX2_has 12 = .ok (.iconst 1, 1) := by decide +kernel
theorem dX2_has_13 : decode cX2_has 13 = .ok (.goto 4, 3) := by decide +kernel
theorem dX2_has_16 : decode cX2_has 16 = .ok (.iconst 0, 1) := by decide +kernel
theorem dX2_has_17 : decode cX2_has 17 = .ok (.ireturn, 1) := by decide +kernel
theorem dX2_hasRoom_0 : decode cX2_hasRoom 0 = .ok (.aload_n 0, 1) := by decide +kernel
theorem dX2_hasRoom_1 : decode cX2_hasRoom 1 = .ok (.getfield 27, 3) := by decide +kernel
theorem dX2_hasRoom_4 : decode cX2_hasRoom 4 = .ok (.iload_n 1, 1) := by decide +kernel
theorem dX2_hasRoom_5 : decode cX2_hasRoom 5 = .ok (.iadd, 1) := by decide +kernel
theorem dX2_hasRoom_6 : decode cX2_hasRoom 6 = .ok (.sipush 1500, 3) := by decide +kernel
theorem dX2_hasRoom_9 : decode cX2_hasRoom 9 = .ok (.if_icmp .gt 19, 3) := by decide +kernel
theorem dX2_hasRoom_12 : decode cX2_hasRoom 12 = .ok (.aload_n 0, 1) := by decide +kernel
theorem dX2_hasRoom_13 : decode cX2_hasRoom 13 = .ok (.invokevirtual 31, 3) := by decide +kernel
theorem dX2_hasRoom_16 : decode cX2_hasRoom 16 = .ok (.iload_n 2, 1) := by decide +kernel
theorem dX2_hasRoom_17 : decode cX2_hasRoom 17 = .ok (.iadd, 1) := by decide +kernel
theorem dX2_hasRoom_18 : decode cX2_hasRoom 18 = .ok (.sipush 4000, 3) := by decide +kernel
theorem dX2_hasRoom_21 : decode cX2_hasRoom 21 = .ok (.if_icmp .gt 7, 3) := by decide +kernel
theorem dX2_hasRoom_24 : decode cX2_hasRoom 24 = .ok (.iconst 1, 1) := by decide +kernel
theorem dX2_hasRoom_25 : decode cX2_hasRoom 25 = .ok (.goto 4, 3) := by decide +kernel
theorem dX2_hasRoom_28 : decode cX2_hasRoom 28 = .ok (.iconst 0, 1) := by decide +kernel
theorem dX2_hasRoom_29 : decode cX2_hasRoom 29 = .ok (.ireturn, 1) := by decide +kernel
theorem dX2_allParts_0 : decode cX2_allParts 0 = .ok (.aload_n 0, 1) := by decide +kernel
theorem dX2_allParts_1 : decode cX2_allParts 1 = .ok (.getfield 18, 3) := by decide +kernel
theorem dX2_allParts_4 : decode cX2_allParts 4 = .ok (.aload_n 0, 1) := by decide +kernel
theorem dX2_allParts_5 : decode cX2_allParts 5 = .ok (.getfield 27, 3) := by decide +kernel
theorem dX2_allParts_8 : decode cX2_allParts 8 = .ok (.iaload, 1) := by decide +kernel
theorem dX2_allParts_9 : decode cX2_allParts 9 = .ok (.ireturn, 1) := by decide +kernel
theorem dX2_partsOf_0 : decode cX2_partsOf 0 = .ok (.aload_n 0, 1) := by decide +kernel
theorem dX2_partsOf_1 : decode cX2_partsOf 1 = .ok (.getfield 18, 3) := by decide +kernel
theorem dX2_partsOf_4 : decode cX2_partsOf 4 = .ok (.iload_n 1, 1) := by decide +kernel
theorem dX2_partsOf_5 : decode cX2_partsOf 5 = .ok (.iconst 1, 1) := by decide +kernel
theorem dX2_partsOf_6 : decode cX2_partsOf 6 = .ok (.iadd, 1) := by decide +kernel
theorem dX2_partsOf_7 : decode cX2_partsOf 7 = .ok (.iaload, 1) := by decide +kernel
theorem dX2_partsOf_8 : decode cX2_partsOf 8 = .ok (.aload_n 0, 1) := by decide +kernel
theorem dX2_partsOf_9 : decode cX2_partsOf 9 = .ok (.getfield 18, 3) := by decide +kernel
theorem dX2_partsOf_12 : decode cX2_partsOf 12 = .ok (.iload_n 1, 1) := by decide +kernel
theorem dX2_partsOf_13 : decode cX2_partsOf 13 = .ok (.iaload, 1) := by decide +kernel
theorem dX2_partsOf_14 : decode cX2_partsOf 14 = .ok (.isub, 1) := by decide +kernel
theorem dX2_partsOf_15 : decode cX2_partsOf 15 = .ok (.ireturn, 1) := by decide +kernel
theorem dX2_partAt_0 : decode cX2_partAt 0 = .ok (.iload_n 2, 1) := by decide +kernel
theorem dX2_partAt_1 : decode cX2_partAt 1 = .ok (.ifCond .lt 38, 3) := by decide +kernel
theorem dX2_partAt_4 : decode cX2_partAt 4 = .ok (.iload_n 2, 1) := by decide +kernel
theorem dX2_partAt_5 : decode cX2_partAt 5 = .ok (.aload_n 0, 1) := by decide +kernel
theorem dX2_partAt_6 : decode cX2_partAt 6 = .ok (.getfield 18, 3) := by decide +kernel
theorem dX2_partAt_9 : decode cX2_partAt 9 = .ok (.iload_n 1, 1) := by decide +kernel
theorem dX2_partAt_10 : decode cX2_partAt 10 = .ok (.iconst 1, 1) := by decide +kernel
theorem dX2_partAt_11 : decode cX2_partAt 11 = .ok (.iadd, 1) := by decide +kernel
theorem dX2_partAt_12 : decode cX2_partAt 12 = .ok (.iaload, 1) := by decide +kernel
theorem dX2_partAt_13 : decode cX2_partAt 13 = .ok (.aload_n 0, 1) := by decide +kernel
theorem dX2_partAt_14 : decode cX2_partAt 14 = .ok (.getfield 18, 3) := by decide +kernel
theorem dX2_partAt_17 : decode cX2_partAt 17 = .ok (.iload_n 1, 1) := by decide +kernel
theorem dX2_partAt_18 : decode cX2_partAt 18 = .ok (.iaload, 1) := by decide +kernel
theorem dX2_partAt_19 : decode cX2_partAt 19 = .ok (.isub, 1) := by decide +kernel
theorem dX2_partAt_20 : decode cX2_partAt 20 = .ok (.if_icmp .ge 19, 3) := by decide +kernel
theorem dX2_partAt_23 : decode cX2_partAt 23 = .ok (.aload_n 0, 1) := by decide +kernel
theorem dX2_partAt_24 : decode cX2_partAt 24 = .ok (.getfield 21, 3) := by decide +kernel
theorem dX2_partAt_27 : decode cX2_partAt 27 = .ok (.aload_n 0, 1) := by decide +kernel
theorem dX2_partAt_28 : decode cX2_partAt 28 = .ok (.getfield 18, 3) := by decide +kernel
theorem dX2_partAt_31 : decode cX2_partAt 31 = .ok (.iload_n 1, 1) := by decide +kernel
theorem dX2_partAt_32 : decode cX2_partAt 32 = .ok (.iaload, 1) := by decide +kernel
theorem dX2_partAt_33 : decode cX2_partAt 33 = .ok (.iload_n 2, 1) := by decide +kernel
theorem dX2_partAt_34 : decode cX2_partAt 34 = .ok (.iadd, 1) := by decide +kernel
theorem dX2_partAt_35 : decode cX2_partAt 35 = .ok (.iaload, 1) := by decide +kernel
theorem dX2_partAt_36 : decode cX2_partAt 36 = .ok (.goto 4, 3) := by decide +kernel
theorem dX2_partAt_39 : decode cX2_partAt 39 = .ok (.iconst (-1), 1) := by decide +kernel
theorem dX2_partAt_40 : decode cX2_partAt 40 = .ok (.ireturn, 1) := by decide +kernel
theorem dX2_add_0 : decode cX2_add 0 = .ok (.aload_n 0, 1) := by decide +kernel
theorem dX2_add_1 : decode cX2_add 1 = .ok (.getfield 27, 3) := by decide +kernel
theorem dX2_add_4 : decode cX2_add 4 = .ok (.istore_n 3, 1) := by decide +kernel
theorem dX2_add_5 : decode cX2_add 5 = .ok (.aload_n 0, 1) := by decide +kernel
theorem dX2_add_6 : decode cX2_add 6 = .ok (.getfield 9, 3) := by decide +kernel
theorem dX2_add_9 : decode cX2_add 9 = .ok (.iload_n 3, 1) := by decide +kernel
theorem dX2_add_10 : decode cX2_add 10 = .ok (.iload_n 1, 1) := by decide +kernel
theorem dX2_add_11 : decode cX2_add 11 = .ok (.iastore, 1) := by decide +kernel
theorem dX2_add_12 : decode cX2_add 12 = .ok (.aload_n 0, 1) := by decide +kernel
theorem dX2_add_13 : decode cX2_add 13 = .ok (.getfield 15, 3) := by decide +kernel
theorem dX2_add_16 : decode cX2_add 16 = .ok (.iload_n 3, 1) := by decide +kernel
theorem dX2_add_17 : decode cX2_add 17 = .ok (.iload_n 2, 1) := by decide +kernel
theorem dX2_add_18 : decode cX2_add 18 = .ok (.iastore, 1) := by decide +kernel
theorem dX2_add_19 : decode cX2_add 19 = .ok (.aload_n 0, 1) := by decide +kernel
theorem dX2_add_20 : decode cX2_add 20 = .ok (.getfield 18, 3) := by decide +kernel
theorem dX2_add_23 : decode cX2_add 23 = .ok (.iload_n 3, 1) := by decide +kernel
theorem dX2_add_24 : decode cX2_add 24 = .ok (.iconst 1, 1) := by decide +kernel
theorem dX2_add_25 : decode cX2_add 25 = .ok (.iadd, 1) := by decide +kernel
theorem dX2_add_26 : decode cX2_add 26 = .ok (.aload_n 0, 1) := by decide +kernel
theorem dX2_add_27 : decode cX2_add 27 = .ok (.getfield 18, 3) := by decide +kernel
theorem dX2_add_30 : decode cX2_add 30 = .ok (.iload_n 3, 1) := by decide +kernel
theorem dX2_add_31 : decode cX2_add 31 = .ok (.iaload, 1) := by decide +kernel
theorem dX2_add_32 : decode cX2_add 32 = .ok (.iastore, 1) := by decide +kernel
theorem dX2_add_33 : decode cX2_add 33 = .ok (.aload_n 0, 1) := by decide +kernel
theorem dX2_add_34 : decode cX2_add 34 = .ok (.dup, 1) := by decide +kernel
theorem dX2_add_35 : decode cX2_add 35 = .ok (.getfield 27, 3) := by decide +kernel
theorem dX2_add_38 : decode cX2_add 38 = .ok (.iconst 1, 1) := by decide +kernel
theorem dX2_add_39 : decode cX2_add 39 = .ok (.iadd, 1) := by decide +kernel
theorem dX2_add_40 : decode cX2_add 40 = .ok (.putfield 27, 3) := by decide +kernel
theorem dX2_add_43 : decode cX2_add 43 = .ok (.iload_n 3, 1) := by decide +kernel
theorem dX2_add_44 : decode cX2_add 44 = .ok (.ireturn, 1) := by decide +kernel
theorem dX2_addPart_0 : decode cX2_addPart 0 = .ok (.aload_n 0, 1) := by decide +kernel
theorem dX2_addPart_1 : decode cX2_addPart 1 = .ok (.getfield 18, 3) := by decide +kernel
theorem dX2_addPart_4 : decode cX2_addPart 4 = .ok (.iload_n 1, 1) := by decide +kernel
theorem dX2_addPart_5 : decode cX2_addPart 5 = .ok (.iconst 1, 1) := by decide +kernel
theorem dX2_addPart_6 : decode cX2_addPart 6 = .ok (.iadd, 1) := by decide +kernel
theorem dX2_addPart_7 : decode cX2_addPart 7 = .ok (.iaload, 1) := by decide +kernel
theorem dX2_addPart_8 : decode cX2_addPart 8 = .ok (.istore_n 3, 1) := by decide +kernel
theorem dX2_addPart_9 : decode cX2_addPart 9 = .ok (.aload_n 0, 1) := by decide +kernel
theorem dX2_addPart_10 : decode cX2_addPart 10 = .ok (.getfield 21, 3) := by decide +kernel
theorem dX2_addPart_13 : decode cX2_addPart 13 = .ok (.iload_n 3, 1) := by decide +kernel
theorem dX2_addPart_14 : decode cX2_addPart 14 = .ok (.aload_n 0, 1) := by decide +kernel
theorem dX2_addPart_15 : decode cX2_addPart 15 = .ok (.getfield 21, 3) := by decide +kernel
theorem dX2_addPart_18 : decode cX2_addPart 18 = .ok (.iload_n 3, 1) := by decide +kernel
theorem dX2_addPart_19 : decode cX2_addPart 19 = .ok (.iconst 1, 1) := by decide +kernel
theorem dX2_addPart_20 : decode cX2_addPart 20 = .ok (.iadd, 1) := by decide +kernel
theorem dX2_addPart_21 : decode cX2_addPart 21 = .ok (.aload_n 0, 1) := by decide +kernel
theorem dX2_addPart_22 : decode cX2_addPart 22 = .ok (.invokevirtual 31, 3) := by decide +kernel
theorem dX2_addPart_25 : decode cX2_addPart 25 = .ok (.iload_n 3, 1) := by decide +kernel
theorem dX2_addPart_26 : decode cX2_addPart 26 = .ok (.isub, 1) := by decide +kernel
theorem dX2_addPart_27 : decode cX2_addPart 27 = .ok (.invokestatic 35, 3) := by decide +kernel
theorem dX2_addPart_30 : decode cX2_addPart 30 = .ok (.aload_n 0, 1) := by decide +kernel
theorem dX2_addPart_31 : decode cX2_addPart 31 = .ok (.getfield 21, 3) := by decide +kernel
theorem dX2_addPart_34 : decode cX2_addPart 34 = .ok (.iload_n 3, 1) := by decide +kernel
theorem dX2_addPart_35 : decode cX2_addPart 35 = .ok (.iload_n 2, 1) := by decide +kernel
theorem dX2_addPart_36 : decode cX2_addPart 36 = .ok (.iastore, 1) := by decide +kernel
theorem dX2_addPart_37 : decode cX2_addPart 37 = .ok (.iload_n 1, 1) := by decide +kernel
theorem dX2_addPart_38 : decode cX2_addPart 38 = .ok (.iconst 1, 1) := by decide +kernel
theorem dX2_addPart_39 : decode cX2_addPart 39 = .ok (.iadd, 1) := by decide +kernel
theorem dX2_addPart_40 : decode cX2_addPart 40 = .ok (.istore 4, 2) := by decide +kernel
theorem dX2_addPart_42 : decode cX2_addPart 42 = .ok (.iload 4, 2) := by decide +kernel
theorem dX2_addPart_44 : decode cX2_addPart 44 = .ok (.aload_n 0, 1) := by decide +kernel
theorem dX2_addPart_45 : decode cX2_addPart 45 = .ok (.getfield 27, 3) := by decide +kernel
theorem dX2_addPart_48 : decode cX2_addPart 48 = .ok (.if_icmp .gt 20, 3) := by decide +kernel
theorem dX2_addPart_51 : decode cX2_addPart 51 = .ok (.aload_n 0, 1) := by decide +kernel
theorem dX2_addPart_52 : decode cX2_addPart 52 = .ok (.getfield 18, 3) := by decide +kernel
theorem dX2_addPart_55 : decode cX2_addPart 55 = .ok (.iload 4, 2) := by decide +kernel
theorem dX2_addPart_57 : decode cX2_addPart 57 = .ok (.dup2, 1) := by decide +kernel
theorem dX2_addPart_58 : decode cX2_addPart 58 = .ok (.iaload, 1) := by decide +kernel
theorem dX2_addPart_59 : decode cX2_addPart 59 = .ok (.iconst 1, 1) := by decide +kernel
theorem dX2_addPart_60 : decode cX2_addPart 60 = .ok (.iadd, 1) := by decide +kernel
theorem dX2_addPart_61 : decode cX2_addPart 61 = .ok (.iastore, 1) := by decide +kernel
theorem dX2_addPart_62 : decode cX2_addPart 62 = .ok (.iinc 4 1, 3) := by decide +kernel
theorem dX2_addPart_65 : decode cX2_addPart 65 = .ok (.goto (-23), 3) := by decide +kernel
theorem dX2_addPart_68 : decode cX2_addPart 68 = .ok (.return_, 1) := by decide +kernel
theorem dX2_bind_0 : decode cX2_bind 0 = .ok (.aload_n 0, 1) := by decide +kernel
theorem dX2_bind_1 : decode cX2_bind 1 = .ok (.iload_n 1, 1) := by decide +kernel
theorem dX2_bind_2 : decode cX2_bind 2 = .ok (.iload_n 2, 1) := by decide +kernel
theorem dX2_bind_3 : decode cX2_bind 3 = .ok (.invokevirtual 41, 3) := by decide +kernel
theorem dX2_bind_6 : decode cX2_bind 6 = .ok (.istore 4, 2) := by decide +kernel
theorem dX2_bind_8 : decode cX2_bind 8 = .ok (.aload_n 0, 1) := by decide +kernel
theorem dX2_bind_9 : decode cX2_bind 9 = .ok (.getfield 45, 3) := by decide +kernel
theorem dX2_bind_12 : decode cX2_bind 12 = .ok (.iload_n 3, 1) := by decide +kernel
theorem dX2_bind_13 : decode cX2_bind 13 = .ok (.isub, 1) := by decide +kernel
theorem dX2_bind_14 : decode cX2_bind 14 = .ok (.istore 5, 2) := by decide +kernel
theorem dX2_bind_16 : decode cX2_bind 16 = .ok (.aload_n 0, 1) := by decide +kernel
theorem dX2_bind_17 : decode cX2_bind 17 = .ok (.getfield 24, 3) := by decide +kernel
theorem dX2_bind_20 : decode cX2_bind 20 = .ok (.iload 5, 2) := by decide +kernel
theorem dX2_bind_22 : decode cX2_bind 22 = .ok (.aload_n 0, 1) := by decide +kernel
theorem dX2_bind_23 : decode cX2_bind 23 = .ok (.getfield 21, 3) := by decide +kernel
theorem dX2_bind_26 : decode cX2_bind 26 = .ok (.aload_n 0, 1) := by decide +kernel
theorem dX2_bind_27 : decode cX2_bind 27 = .ok (.getfield 18, 3) := by decide +kernel
theorem dX2_bind_30 : decode cX2_bind 30 = .ok (.iload 4, 2) := by decide +kernel
theorem dX2_bind_32 : decode cX2_bind 32 = .ok (.iaload, 1) := by decide +kernel
theorem dX2_bind_33 : decode cX2_bind 33 = .ok (.iload_n 3, 1) := by decide +kernel
theorem dX2_bind_34 : decode cX2_bind 34 = .ok (.invokestatic 35, 3) := by decide +kernel
theorem dX2_bind_37 : decode cX2_bind 37 = .ok (.aload_n 0, 1) := by decide +kernel
theorem dX2_bind_38 : decode cX2_bind 38 = .ok (.getfield 18, 3) := by decide +kernel
theorem dX2_bind_41 : decode cX2_bind 41 = .ok (.iload 4, 2) := by decide +kernel
theorem dX2_bind_43 : decode cX2_bind 43 = .ok (.iconst 1, 1) := by decide +kernel
theorem dX2_bind_44 : decode cX2_bind 44 = .ok (.iadd, 1) := by decide +kernel
theorem dX2_bind_45 : decode cX2_bind 45 = .ok (.dup2, 1) := by decide +kernel
theorem dX2_bind_46 : decode cX2_bind 46 = .ok (.iaload, 1) := by decide +kernel
theorem dX2_bind_47 : decode cX2_bind 47 = .ok (.iload_n 3, 1) := by decide +kernel
theorem dX2_bind_48 : decode cX2_bind 48 = .ok (.iadd, 1) := by decide +kernel
theorem dX2_bind_49 : decode cX2_bind 49 = .ok (.iastore, 1) := by decide +kernel
theorem dX2_bind_50 : decode cX2_bind 50 = .ok (.aload_n 0, 1) := by decide +kernel
theorem dX2_bind_51 : decode cX2_bind 51 = .ok (.getfield 24, 3) := by decide +kernel
theorem dX2_bind_54 : decode cX2_bind 54 = .ok (.iload 5, 2) := by decide +kernel
theorem dX2_bind_56 : decode cX2_bind 56 = .ok (.iload 4, 2) := by decide +kernel
theorem dX2_bind_58 : decode cX2_bind 58 = .ok (.iastore, 1) := by decide +kernel
theorem dX2_bind_59 : decode cX2_bind 59 = .ok (.aload_n 0, 1) := by decide +kernel
theorem dX2_bind_60 : decode cX2_bind 60 = .ok (.iload 5, 2) := by decide +kernel
theorem dX2_bind_62 : decode cX2_bind 62 = .ok (.iconst 1, 1) := by decide +kernel
theorem dX2_bind_63 : decode cX2_bind 63 = .ok (.iadd, 1) := by decide +kernel
theorem dX2_bind_64 : decode cX2_bind 64 = .ok (.putfield 45, 3) := by decide +kernel
theorem dX2_bind_67 : decode cX2_bind 67 = .ok (.return_, 1) := by decide +kernel
theorem dX2_takeBound_0 : decode cX2_takeBound 0 = .ok (.aload_n 0, 1) := by decide +kernel
theorem dX2_takeBound_1 : decode cX2_takeBound 1 = .ok (.iconst 0, 1) := by decide +kernel
theorem dX2_takeBound_2 : decode cX2_takeBound 2 = .ok (.putfield 45, 3) := by decide +kernel
theorem dX2_takeBound_5 : decode cX2_takeBound 5 = .ok (.aload_n 0, 1) := by decide +kernel
theorem dX2_takeBound_6 : decode cX2_takeBound 6 = .ok (.getfield 24, 3) := by decide +kernel
theorem dX2_takeBound_9 : decode cX2_takeBound 9 = .ok (.iconst 0, 1) := by decide +kernel
theorem dX2_takeBound_10 : decode cX2_takeBound 10 = .ok (.iaload, 1) := by decide +kernel
theorem dX2_takeBound_11 : decode cX2_takeBound 11 = .ok (.ireturn, 1) := by decide +kernel
theorem dX3_init_0 : decode cX3_init 0 = .ok (.aload_n 0, 1) := by decide +kernel
theorem dX3_init_1 : decode cX3_init 1 = .ok (.aload_n 1, 1) := by decide +kernel
theorem dX3_init_2 : decode cX3_init 2 = .ok (.invokespecial 1, 3) := by decide +kernel
theorem dX3_init_5 : decode cX3_init 5 = .ok (.return_, 1) := by decide +kernel
theorem dX3_begin_0 : decode cX3_begin 0 = .ok (.aload_n 0, 1) := by decide +kernel
theorem dX3_begin_1 : decode cX3_begin 1 = .ok (.iload_n 1, 1) := by decide +kernel
theorem dX3_begin_2 : decode cX3_begin 2 = .ok (.putfield 7, 3) := by decide +kernel
theorem dX3_begin_5 : decode cX3_begin 5 = .ok (.aload_n 0, 1) := by decide +kernel
theorem dX3_begin_6 : decode cX3_begin 6 = .ok (.iload_n 2, 1) := by decide +kernel
theorem dX3_begin_7 : decode cX3_begin 7 = .ok (.putfield 13, 3) := by decide +kernel
theorem dX3_begin_10 : decode cX3_begin 10 = .ok (.return_, 1) := by decide +kernel
theorem dX3_enter_0 : decode cX3_enter 0 = .ok (.aload_n 0, 1) := by decide +kernel
theorem dX3_enter_1 : decode cX3_enter 1 = .ok (.aload_n 0, 1) := by decide +kernel
theorem dX3_enter_2 : decode cX3_enter 2 = .ok (.getfield 16, 3) := by decide +kernel
theorem dX3_enter_5 : decode cX3_enter 5 = .ok (.getfield 20, 3) := by decide +kernel
theorem dX3_enter_8 : decode cX3_enter 8 = .ok (.iload_n 2, 1) := by decide +kernel
theorem dX3_enter_9 : decode cX3_enter 9 = .ok (.iaload, 1) := by decide +kernel
theorem dX3_enter_10 : decode cX3_enter 10 = .ok (.aload_n 0, 1) := by decide +kernel
theorem dX3_enter_11 : decode cX3_enter 11 = .ok (.getfield 7, 3) := by decide +kernel
theorem dX3_enter_14 : decode cX3_enter 14 = .ok (.if_icmp .ne 23, 3) := by decide +kernel
theorem dX3_enter_17 : decode cX3_enter 17 = .ok (.aload_n 0, 1) := by decide +kernel
theorem dX3_enter_18 : decode cX3_enter 18 = .ok (.getfield 16, 3) := by decide +kernel
theorem dX3_enter_21 : decode cX3_enter 21 = .ok (.getfield 25, 3) := by decide +kernel
theorem dX3_enter_24 : decode cX3_enter 24 = .ok (.iload_n 2, 1) := by decide +kernel
theorem dX3_enter_25 : decode cX3_enter 25 = .ok (.iaload, 1) := by decide +kernel
theorem dX3_enter_26 : decode cX3_enter 26 = .ok (.aload_n 0, 1) := by decide +kernel
theorem dX3_enter_27 : decode cX3_enter 27 = .ok (.getfield 13, 3) := by decide +kernel
theorem dX3_enter_30 : decode cX3_enter 30 = .ok (.if_icmp .ne 7, 3) := by decide +kernel
theorem dX3_enter_33 : decode cX3_enter 33 = .ok (.iconst 1, 1) := by decide +kernel
theorem dX3_enter_34 : decode cX3_enter 34 = .ok (.goto 4, 3) := by decide +kernel
theorem dX3_enter_37 : decode cX3_enter 37 = .ok (.iconst 0, 1) := by decide +kernel
theorem dX3_enter_38 : decode cX3_enter 38 = .ok (.putfield 27, 3) := by decide +kernel
theorem dX3_enter_41 : decode cX3_enter 41 = .ok (.return_, 1) := by decide +kernel
theorem dX4_init_0 : decode cX4_init 0 = .ok (.aload_n 0, 1) := by decide +kernel
theorem dX4_init_1 : decode cX4_init 1 = .ok (.aload_n 1, 1) := by decide +kernel
theorem dX4_init_2 : decode cX4_init 2 = .ok (.invokespecial 1, 3) := by decide +kernel
theorem dX4_init_5 : decode cX4_init 5 = .ok (.aload_n 0, 1) := by decide +kernel
theorem dX4_init_6 : decode cX4_init 6 = .ok (.aload_n 2, 1) := by decide +kernel
theorem dX4_init_7 : decode cX4_init 7 = .ok (.putfield 7, 3) := by decide +kernel
theorem dX4_init_10 : decode cX4_init 10 = .ok (.return_, 1) := by decide +kernel
theorem dX4_begun_0 : decode cX4_begun 0 = .ok (.ldc2_w 13, 3) := by decide +kernel
theorem dX4_begun_3 : decode cX4_begun 3 = .ok (.iload_n 0, 1) := by decide +kernel
theorem dX4_begun_4 : decode cX4_begun 4 = .ok (.i2l, 1) := by decide +kernel
theorem dX4_begun_5 : decode cX4_begun 5 = .ok (.ladd, 1) := by decide +kernel
theorem dX4_begun_6 : decode cX4_begun 6 = .ok (.ldc2_w 15, 3) := by decide +kernel
theorem dX4_begun_9 : decode cX4_begun 9 = .ok (.lmul, 1) := by decide +kernel
theorem dX4_begun_10 : decode cX4_begun 10 = .ok (.iload_n 1, 1) := by decide +kernel
theorem dX4_begun_11 : decode cX4_begun 11 = .ok (.i2l, 1) := by decide +kernel
theorem dX4_begun_12 : decode cX4_begun 12 = .ok (.ladd, 1) := by decide +kernel
theorem dX4_begun_13 : decode cX4_begun 13 = .ok (.lreturn, 1) := by decide +kernel
theorem dX4_with_0 : decode cX4_with 0 = .ok (.lload_n 0, 1) := by decide +kernel
theorem dX4_with_1 : decode cX4_with 1 = .ok (.ldc2_w 17, 3) := by decide +kernel
theorem dX4_with_4 : decode cX4_with 4 = .ok (.lmul, 1) := by decide +kernel
theorem dX4_with_5 : decode cX4_with 5 = .ok (.lload_n 2, 1) := by decide +kernel
theorem dX4_with_6 : decode cX4_with 6 = .ok (.lxor, 1) := by decide +kernel
theorem dX4_with_7 : decode cX4_with 7 = .ok (.lreturn, 1) := by decide +kernel
theorem dX4_ended_0 : decode cX4_ended 0 = .ok (.lload_n 0, 1) := by decide +kernel
theorem dX4_ended_1 : decode cX4_ended 1 = .ok (.lload_n 0, 1) := by decide +kernel
theorem dX4_ended_2 : decode cX4_ended 2 = .ok (.bipush 29, 2) := by decide +kernel
theorem dX4_ended_4 : decode cX4_ended 4 = .ok (.lushr, 1) := by decide +kernel
theorem dX4_ended_5 : decode cX4_ended 5 = .ok (.lxor, 1) := by decide +kernel
theorem dX4_ended_6 : decode cX4_ended 6 = .ok (.lreturn, 1) := by decide +kernel
theorem dX4_enter_0 : decode cX4_enter 0 = .ok (.aload_n 0, 1) := by decide +kernel
theorem dX4_enter_1 : decode cX4_enter 1 = .ok (.getfield 7, 3) := by decide +kernel
theorem dX4_enter_4 : decode cX4_enter 4 = .ok (.iload_n 1, 1) := by decide +kernel
theorem dX4_enter_5 : decode cX4_enter 5 = .ok (.aload_n 0, 1) := by decide +kernel
theorem dX4_enter_6 : decode cX4_enter 6 = .ok (.getfield 19, 3) := by decide +kernel
theorem dX4_enter_9 : decode cX4_enter 9 = .ok (.getfield 23, 3) := by decide +kernel
theorem dX4_enter_12 : decode cX4_enter 12 = .ok (.iload_n 2, 1) := by decide +kernel
theorem dX4_enter_13 : decode cX4_enter 13 = .ok (.iaload, 1) := by decide +kernel
theorem dX4_enter_14 : decode cX4_enter 14 = .ok (.aload_n 0, 1) := by decide +kernel
theorem dX4_enter_15 : decode cX4_enter 15 = .ok (.getfield 19, 3) := by decide +kernel
theorem dX4_enter_18 : decode cX4_enter 18 = .ok (.getfield 29, 3) := by decide +kernel
theorem dX4_enter_21 : decode cX4_enter 21 = .ok (.iload_n 2, 1) := by decide +kernel
theorem dX4_enter_22 : decode cX4_enter 22 = .ok (.iaload, 1) := by decide +kernel
theorem dX4_enter_23 : decode cX4_enter 23 = .ok (.invokestatic 32, 3) := by decide +kernel
theorem dX4_enter_26 : decode cX4_enter 26 = .ok (.lastore, 1) := by decide +kernel
theorem dX4_enter_27 : decode cX4_enter 27 = .ok (.return_, 1) := by decide +kernel
theorem dX4_takeUp_0 : decode cX4_takeUp 0 = .ok (.aload_n 0, 1) := by decide +kernel
theorem dX4_takeUp_1 : decode cX4_takeUp 1 = .ok (.getfield 7, 3) := by decide +kernel
theorem dX4_takeUp_4 : decode cX4_takeUp 4 = .ok (.iload_n 1, 1) := by decide +kernel
theorem dX4_takeUp_5 : decode cX4_takeUp 5 = .ok (.aload_n 0, 1) := by decide +kernel
theorem dX4_takeUp_6 : decode cX4_takeUp 6 = .ok (.getfield 7, 3) := by decide +kernel
theorem dX4_takeUp_9 : decode cX4_takeUp 9 = .ok (.iload_n 1, 1) := by decide +kernel
theorem dX4_takeUp_10 : decode cX4_takeUp 10 = .ok (.laload, 1) := by decide +kernel
theorem dX4_takeUp_11 : decode cX4_takeUp 11 = .ok (.aload_n 0, 1) := by decide +kernel
theorem dX4_takeUp_12 : decode cX4_takeUp 12 = .ok (.getfield 7, 3) := by decide +kernel
theorem dX4_takeUp_15 : decode cX4_takeUp 15 = .ok (.iload_n 1, 1) := by decide +kernel
theorem dX4_takeUp_16 : decode cX4_takeUp 16 = .ok (.iconst 1, 1) := by decide +kernel
theorem dX4_takeUp_17 : decode cX4_takeUp 17 = .ok (.iadd, 1) := by decide +kernel
theorem dX4_takeUp_18 : decode cX4_takeUp 18 = .ok (.laload, 1) := by decide +kernel
theorem dX4_takeUp_19 : decode cX4_takeUp 19 = .ok (.invokestatic 36, 3) := by decide +kernel
theorem dX4_takeUp_22 : decode cX4_takeUp 22 = .ok (.lastore, 1) := by decide +kernel
theorem dX4_takeUp_23 : decode cX4_takeUp 23 = .ok (.return_, 1) := by decide +kernel
theorem dX4_leave_0 : decode cX4_leave 0 = .ok (.aload_n 0, 1) := by decide +kernel
theorem dX4_leave_1 : decode cX4_leave 1 = .ok (.getfield 7, 3) := by decide +kernel
theorem dX4_leave_4 : decode cX4_leave 4 = .ok (.iload_n 1, 1) := by decide +kernel
theorem dX4_leave_5 : decode cX4_leave 5 = .ok (.aload_n 0, 1) := by decide +kernel
theorem dX4_leave_6 : decode cX4_leave 6 = .ok (.getfield 7, 3) := by decide +kernel
theorem dX4_leave_9 : decode cX4_leave 9 = .ok (.iload_n 1, 1) := by decide +kernel
theorem dX4_leave_10 : decode cX4_leave 10 = .ok (.laload, 1) := by decide +kernel
theorem dX4_leave_11 : decode cX4_leave 11 = .ok (.invokestatic 40, 3) := by decide +kernel
theorem dX4_leave_14 : decode cX4_leave 14 = .ok (.lastore, 1) := by decide +kernel
theorem dX4_leave_15 : decode cX4_leave 15 = .ok (.return_, 1) := by decide +kernel
theorem dX5_init_0 : decode cX5_init 0 = .ok (.aload_n 0, 1) := by decide +kernel
theorem dX5_init_1 : decode cX5_init 1 = .ok (.invokespecial 3, 3) := by decide +kernel
theorem dX5_init_4 : decode cX5_init 4 = .ok (.aload_n 0, 1) := by decide +kernel
theorem dX5_init_5 : decode cX5_init 5 = .ok (.sipush 6000, 3) := by decide +kernel
theorem dX5_init_8 : decode cX5_init 8 = .ok (.newarray .byte, 2) := by decide +kernel
theorem dX5_init_10 : decode cX5_init 10 = .ok (.putfield 9, 3) := by decide +kernel
theorem dX5_init_13 : decode cX5_init 13 = .ok (.return_, 1) := by decide +kernel
theorem dX5_clear_0 : decode cX5_clear 0 = .ok (.aload_n 0, 1) := by decide +kernel
theorem dX5_clear_1 : decode cX5_clear 1 = .ok (.iconst 0, 1) := by decide +kernel
theorem dX5_clear_2 : decode cX5_clear 2 = .ok (.putfield 15, 3) := by decide +kernel
theorem dX5_clear_5 : decode cX5_clear 5 = .ok (.aload_n 0, 1) := by decide +kernel
theorem dX5_clear_6 : decode cX5_clear 6 = .ok (.iconst 0, 1) := by decide +kernel
theorem dX5_clear_7 : decode cX5_clear 7 = .ok (.putfield 19, 3) := by decide +kernel
theorem dX5_clear_10 : decode cX5_clear 10 = .ok (.return_, 1) := by decide +kernel
theorem dX5_at_0 : decode cX5_at 0 = .ok (.iload_n 1, 1) := by decide +kernel
theorem dX5_at_1 : decode cX5_at 1 = .ok (.ifCond .lt 24, 3) := by decide +kernel
theorem dX5_at_4 : decode cX5_at 4 = .ok (.iload_n 1, 1) := by decide +kernel
theorem dX5_at_5 : decode cX5_at 5 = .ok (.aload_n 0, 1) := by decide +kernel
theorem dX5_at_6 : decode cX5_at 6 = .ok (.getfield 15, 3) := by decide +kernel
theorem dX5_at_9 : decode cX5_at 9 = .ok (.if_icmp .ge 16, 3) := by decide +kernel
theorem dX5_at_12 : decode cX5_at 12 = .ok (.aload_n 0, 1) := by decide +kernel
theorem dX5_at_13 : decode cX5_at 13 = .ok (.getfield 9, 3) := by decide +kernel
theorem dX5_at_16 : decode cX5_at 16 = .ok (.iload_n 1, 1) := by decide +kernel
theorem dX5_at_17 : decode cX5_at 17 = .ok (.baload, 1) := by decide +kernel
theorem dX5_at_18 : decode cX5_at 18 = .ok (.sipush 255, 3) := by decide +kernel
theorem dX5_at_21 : decode cX5_at 21 = .ok (.iand, 1) := by decide +kernel
theorem dX5_at_22 : decode cX5_at 22 = .ok (.goto 4, 3) := by decide +kernel
theorem dX5_at_25 : decode cX5_at 25 = .ok (.iconst (-1), 1) := by decide +kernel
theorem dX5_at_26 : decode cX5_at 26 = .ok (.ireturn, 1) := by decide +kernel
theorem dX5_add_0 : decode cX5_add 0 = .ok (.aload_n 0, 1) := by decide +kernel
theorem dX5_add_1 : decode cX5_add 1 = .ok (.getfield 15, 3) := by decide +kernel
theorem dX5_add_4 : decode cX5_add 4 = .ok (.sipush 6000, 3) := by decide +kernel
theorem dX5_add_7 : decode cX5_add 7 = .ok (.if_icmp .ne 9, 3) := by decide +kernel
theorem dX5_add_10 : decode cX5_add 10 = .ok (.aload_n 0, 1) := by decide +kernel
theorem dX5_add_11 : decode cX5_add 11 = .ok (.iconst 1, 1) := by decide +kernel
theorem dX5_add_12 : decode cX5_add 12 = .ok (.putfield 19, 3) := by decide +kernel
theorem dX5_add_15 : decode cX5_add 15 = .ok (.return_, 1) := by decide +kernel
theorem dX5_add_16 : decode cX5_add 16 = .ok (.aload_n 0, 1) := by decide +kernel
theorem dX5_add_17 : decode cX5_add 17 = .ok (.getfield 9, 3) := by decide +kernel
theorem dX5_add_20 : decode cX5_add 20 = .ok (.aload_n 0, 1) := by decide +kernel
theorem dX5_add_21 : decode cX5_add 21 = .ok (.getfield 15, 3) := by decide +kernel
theorem dX5_add_24 : decode cX5_add 24 = .ok (.iload_n 1, 1) := by decide +kernel
theorem dX5_add_25 : decode cX5_add 25 = .ok (.i2b, 1) := by decide +kernel
theorem dX5_add_26 : decode cX5_add 26 = .ok (.bastore, 1) := by decide +kernel
theorem dX5_add_27 : decode cX5_add 27 = .ok (.aload_n 0, 1) := by decide +kernel
theorem dX5_add_28 : decode cX5_add 28 = .ok (.dup, 1) := by decide +kernel
theorem dX5_add_29 : decode cX5_add 29 = .ok (.getfield 15, 3) := by decide +kernel
theorem dX5_add_32 : decode cX5_add 32 = .ok (.iconst 1, 1) := by decide +kernel
theorem dX5_add_33 : decode cX5_add 33 = .ok (.iadd, 1) := by decide +kernel
theorem dX5_add_34 : decode cX5_add 34 = .ok (.putfield 15, 3) := by decide +kernel
theorem dX5_add_37 : decode cX5_add 37 = .ok (.return_, 1) := by decide +kernel
theorem dX5_addFigures_0 : decode cX5_addFigures 0 = .ok (.iload_n 1, 1) := by decide +kernel
theorem dX5_addFigures_1 : decode cX5_addFigures 1 = .ok (.i2l, 1) := by decide +kernel
theorem dX5_addFigures_2 : decode cX5_addFigures 2 = .ok (.invokestatic 23, 3) := by decide +kernel
theorem dX5_addFigures_5 : decode cX5_addFigures 5 = .ok (.lstore_n 2, 1) := by decide +kernel
theorem dX5_addFigures_6 : decode cX5_addFigures 6 = .ok (.iload_n 1, 1) := by decide +kernel
theorem dX5_addFigures_7 : decode cX5_addFigures 7 = .ok (.ifCond .ge 9, 3) := by decide +kernel
theorem dX5_addFigures_10 : decode cX5_addFigures 10 = .ok (.aload_n 0, 1) := by decide +kernel
theorem dX5_addFigures_11 : decode cX5_addFigures 11 = .ok (.bipush 45, 2) := by decide +kernel
theorem dX5_addFigures_13 : decode cX5_addFigures 13 = .ok (.invokevirtual 29, 3) := by decide +kernel
theorem dX5_addFigures_16 : decode cX5_addFigures 16 = .ok (.lconst 1, 1) := by decide +kernel
theorem dX5_addFigures_17 : decode cX5_addFigures 17 = .ok (.lstore 4, 2) := by decide +kernel
theorem dX5_addFigures_19 : decode cX5_addFigures 19 = .ok (.iconst 1, 1) := by decide +kernel
theorem dX5_addFigures_20 : decode cX5_addFigures 20 = .ok (.istore 6, 2) := by decide +kernel
theorem dX5_addFigures_22 : decode cX5_addFigures 22 = .ok (.iload 6, 2) := by decide +kernel
theorem dX5_addFigures_24 : decode cX5_addFigures 24 = .ok (.bipush 10, 2) := by decide +kernel
theorem dX5_addFigures_26 : decode cX5_addFigures 26 = .ok (.if_icmp .ge 28, 3) := by decide +kernel
theorem dX5_addFigures_29 : decode cX5_addFigures 29 = .ok (.lload_n 2, 1) := by decide +kernel
theorem dX5_addFigures_30 : decode cX5_addFigures 30 = .ok (.lload 4, 2) := by decide +kernel
theorem dX5_addFigures_32 : decode cX5_addFigures 32 = .ok (.ldiv, 1) := by decide +kernel
theorem dX5_addFigures_33 : decode cX5_addFigures 33 = .ok (.ldc2_w 33, 3) := by decide +kernel
theorem dX5_addFigures_36 : decode cX5_addFigures 36 = .ok (.lcmp, 1) := by decide +kernel
theorem dX5_addFigures_37 : decode cX5_addFigures 37 = .ok (.ifCond .le 17, 3) := by decide +kernel
theorem dX5_addFigures_40 : decode cX5_addFigures 40 = .ok (.lload 4, 2) := by decide +kernel
theorem dX5_addFigures_42 : decode cX5_addFigures 42 = .ok (.ldc2_w 35, 3) := by decide +kernel
theorem dX5_addFigures_45 : decode cX5_addFigures 45 = .ok (.lmul, 1) := by decide +kernel
theorem dX5_addFigures_46 : decode cX5_addFigures 46 = .ok (.lstore 4, 2) := by decide +kernel
theorem dX5_addFigures_48 : decode cX5_addFigures 48 = .ok (.iinc 6 1, 3) := by decide +kernel
theorem dX5_addFigures_51 : decode cX5_addFigures 51 = .ok (.goto (-29), 3) := by decide +kernel
theorem dX5_addFigures_54 : decode cX5_addFigures 54 = .ok (.iconst 0, 1) := by decide +kernel
theorem dX5_addFigures_55 : decode cX5_addFigures 55 = .ok (.istore 6, 2) := by decide +kernel
theorem dX5_addFigures_57 : decode cX5_addFigures 57 = .ok (.iload 6, 2) := by decide +kernel
theorem dX5_addFigures_59 : decode cX5_addFigures 59 = .ok (.bipush 10, 2) := by decide +kernel
theorem dX5_addFigures_61 : decode cX5_addFigures 61 = .ok (.if_icmp .ge 42, 3) := by decide +kernel
theorem dX5_addFigures_64 : decode cX5_addFigures 64 = .ok (.lload 4, 2) := by decide +kernel
theorem dX5_addFigures_66 : decode cX5_addFigures 66 = .ok (.lconst 0, 1) := by decide +kernel
theorem dX5_addFigures_67 : decode cX5_addFigures 67 = .ok (.lcmp, 1) := by decide +kernel
theorem dX5_addFigures_68 : decode cX5_addFigures 68 = .ok (.ifCond .le 35, 3) := by decide +kernel
theorem dX5_addFigures_71 : decode cX5_addFigures 71 = .ok (.aload_n 0, 1) := by decide +kernel
theorem dX5_addFigures_72 : decode cX5_addFigures 72 = .ok (.ldc2_w 37, 3) := by decide +kernel
theorem dX5_addFigures_75 : decode cX5_addFigures 75 = .ok (.lload_n 2, 1) := by decide +kernel
theorem dX5_addFigures_76 : decode cX5_addFigures 76 = .ok (.lload 4, 2) := by decide +kernel
theorem dX5_addFigures_78 : decode cX5_addFigures 78 = .ok (.ldiv, 1) := by decide +kernel
theorem dX5_addFigures_79 : decode cX5_addFigures 79 = .ok (.ladd, 1) := by decide +kernel
theorem dX5_addFigures_80 : decode cX5_addFigures 80 = .ok (.l2i, 1) := by decide +kernel
theorem dX5_addFigures_81 : decode cX5_addFigures 81 = .ok (.invokevirtual 29, 3) := by decide +kernel
theorem dX5_addFigures_84 : decode cX5_addFigures 84 = .ok (.lload_n 2, 1) := by decide +kernel
theorem dX5_addFigures_85 : decode cX5_addFigures 85 = .ok (.lload 4, 2) := by decide +kernel
theorem dX5_addFigures_87 : decode cX5_addFigures 87 = .ok (.lrem, 1) := by decide +kernel
theorem dX5_addFigures_88 : decode cX5_addFigures 88 = .ok (.lstore_n 2, 1) := by decide +kernel
theorem dX5_addFigures_89 : decode cX5_addFigures 89 = .ok (.lload 4, 2) := by decide +kernel
theorem dX5_addFigures_91 : decode cX5_addFigures 91 = .ok (.ldc2_w 35, 3) := by decide +kernel
theorem dX5_addFigures_94 : decode cX5_addFigures 94 = .ok (.ldiv, 1) := by decide +kernel
theorem dX5_addFigures_95 : decode cX5_addFigures 95 = .ok (.lstore 4, 2) := by decide +kernel
theorem dX5_addFigures_97 : decode cX5_addFigures 97 = .ok (.iinc 6 1, 3) := by decide +kernel
theorem dX5_addFigures_100 : decode cX5_addFigures 100 = .ok (.goto (-43), 3) := by decide +kernel
theorem dX5_addFigures_103 : decode cX5_addFigures 103 = .ok (.return_, 1) := by decide +kernel
theorem dX5_become_0 : decode cX5_become 0 = .ok (.aload_n 1, 1) := by decide +kernel
theorem dX5_become_1 : decode cX5_become 1 = .ok (.getfield 9, 3) := by decide +kernel
theorem dX5_become_4 : decode cX5_become 4 = .ok (.iconst 0, 1) := by decide +kernel
theorem dX5_become_5 : decode cX5_become 5 = .ok (.aload_n 0, 1) := by decide +kernel
theorem dX5_become_6 : decode cX5_become 6 = .ok (.getfield 9, 3) := by decide +kernel
theorem dX5_become_9 : decode cX5_become 9 = .ok (.iconst 0, 1) := by decide +kernel
theorem dX5_become_10 : decode cX5_become 10 = .ok (.aload_n 1, 1) := by decide +kernel
theorem dX5_become_11 : decode cX5_become 11 = .ok (.getfield 15, 3) := by decide +kernel
theorem dX5_become_14 : decode cX5_become 14 = .ok (.invokestatic 39, 3) := by decide +kernel
theorem dX5_become_17 : decode cX5_become 17 = .ok (.aload_n 0, 1) := by decide +kernel
theorem dX5_become_18 : decode cX5_become 18 = .ok (.aload_n 1, 1) := by decide +kernel
theorem dX5_become_19 : decode cX5_become 19 = .ok (.getfield 15, 3) := by decide +kernel
theorem dX5_become_22 : decode cX5_become 22 = .ok (.putfield 15, 3) := by decide +kernel
theorem dX5_become_25 : decode cX5_become 25 = .ok (.return_, 1) := by decide +kernel
theorem dX6_init_0 : decode cX6_init 0 = .ok (.aload_n 0, 1) := by decide +kernel
theorem dX6_init_1 : decode cX6_init 1 = .ok (.invokespecial 3, 3) := by decide +kernel
theorem dX6_init_4 : decode cX6_init 4 = .ok (.aload_n 0, 1) := by decide +kernel
theorem dX6_init_5 : decode cX6_init 5 = .ok (.sipush 2001, 3) := by decide +kernel
theorem dX6_init_8 : decode cX6_init 8 = .ok (.newarray .int, 2) := by decide +kernel
theorem dX6_init_10 : decode cX6_init 10 = .ok (.putfield 11, 3) := by decide +kernel
theorem dX6_init_13 : decode cX6_init 13 = .ok (.aload_n 0, 1) := by decide +kernel
theorem dX6_init_14 : decode cX6_init 14 = .ok (.sipush 2001, 3) := by decide +kernel
theorem dX6_init_17 : decode cX6_init 17 = .ok (.newarray .int, 2) := by decide +kernel
theorem dX6_init_19 : decode cX6_init 19 = .ok (.putfield 15, 3) := by decide +kernel
theorem dX6_init_22 : decode cX6_init 22 = .ok (.aload_n 0, 1) := by decide +kernel
theorem dX6_init_23 : decode cX6_init 23 = .ok (.sipush 2001, 3) := by decide +kernel
theorem dX6_init_26 : decode cX6_init 26 = .ok (.newarray .int, 2) := by decide +kernel
theorem dX6_init_28 : decode cX6_init 28 = .ok (.putfield 18, 3) := by decide +kernel
theorem dX6_init_31 : decode cX6_init 31 = .ok (.aload_n 0, 1) := by decide +kernel
theorem dX6_init_32 : decode cX6_init 32 = .ok (.aload_n 1, 1) := by decide +kernel
theorem dX6_init_33 : decode cX6_init 33 = .ok (.putfield 21, 3) := by decide +kernel
theorem dX6_init_36 : decode cX6_init 36 = .ok (.aload_n 0, 1) := by decide +kernel
theorem dX6_init_37 : decode cX6_init 37 = .ok (.aload_n 2, 1) := by decide +kernel
theorem dX6_init_38 : decode cX6_init 38 = .ok (.putfield 25, 3) := by decide +kernel
theorem dX6_init_41 : decode cX6_init 41 = .ok (.return_, 1) := by decide +kernel
theorem dX6_scan_0 : decode cX6_scan 0 = .ok (.aload_n 0, 1) := by decide +kernel
theorem dX6_scan_1 : decode cX6_scan 1 = .ok (.iload_n 1, 1) := by decide +kernel
theorem dX6_scan_2 : decode cX6_scan 2 = .ok (.putfield 29, 3) := by decide +kernel
theorem dX6_scan_5 : decode cX6_scan 5 = .ok (.aload_n 0, 1) := by decide +kernel
theorem dX6_scan_6 : decode cX6_scan 6 = .ok (.iconst 0, 1) := by decide +kernel
theorem dX6_scan_7 : decode cX6_scan 7 = .ok (.putfield 33, 3) := by decide +kernel
theorem dX6_scan_10 : decode cX6_scan 10 = .ok (.aload_n 0, 1) := by decide +kernel
theorem dX6_scan_11 : decode cX6_scan 11 = .ok (.iconst 0, 1) := by decide +kernel
theorem dX6_scan_12 : decode cX6_scan 12 = .ok (.putfield 37, 3) := by decide +kernel
theorem dX6_scan_15 : decode cX6_scan 15 = .ok (.aload_n 0, 1) := by decide +kernel
theorem dX6_scan_16 : decode cX6_scan 16 = .ok (.iconst 0, 1) := by decide +kernel
theorem dX6_scan_17 : decode cX6_scan 17 = .ok (.putfield 40, 3) := by decide +kernel
theorem dX6_scan_20 : decode cX6_scan 20 = .ok (.iconst 0, 1) := by decide +kernel
theorem dX6_scan_21 : decode cX6_scan 21 = .ok (.istore_n 2, 1) := by decide +kernel
theorem dX6_scan_22 : decode cX6_scan 22 = .ok (.iload_n 2, 1) := by decide +kernel
theorem dX6_scan_23 : decode cX6_scan 23 = .ok (.sipush 6000, 3) := by decide +kernel
theorem dX6_scan_26 : decode cX6_scan 26 = .ok (.if_icmp .gt 139, 3) := by decide +kernel
theorem dX6_scan_29 : decode cX6_scan 29 = .ok (.aload_n 0, 1) := by decide +kernel
theorem dX6_scan_30 : decode cX6_scan 30 = .ok (.invokevirtual 43, 3) := by decide +kernel
theorem dX6_scan_33 : decode cX6_scan 33 = .ok (.ifCond .eq 10, 3) := by decide +kernel
theorem dX6_scan_36 : decode cX6_scan 36 = .ok (.aload_n 0, 1) := by decide +kernel
theorem dX6_scan_37 : decode cX6_scan 37 = .ok (.invokevirtual 47, 3) := by decide +kernel
theorem dX6_scan_40 : decode cX6_scan 40 = .ok (.ifCond .ne 8, 3) := by decide +kernel
theorem dX6_scan_43 : decode cX6_scan 43 = .ok (.aload_n 0, 1) := by decide +kernel
theorem dX6_scan_44 : decode cX6_scan 44 = .ok (.getfield 37, 3) := by decide +kernel
theorem dX6_scan_47 : decode cX6_scan 47 = .ok (.ireturn, 1) := by decide +kernel
theorem dX6_scan_48 : decode cX6_scan 48 = .ok (.aload_n 0, 1) := by decide +kernel
theorem dX6_scan_49 : decode cX6_scan 49 = .ok (.getfield 25, 3) := by decide +kernel
theorem dX6_scan_52 : decode cX6_scan 52 = .ok (.aload_n 0, 1) := by decide +kernel
theorem dX6_scan_53 : decode cX6_scan 53 = .ok (.getfield 37, 3) := by decide +kernel
theorem dX6_scan_56 : decode cX6_scan 56 = .ok (.invokevirtual 50, 3) := by decide +kernel
theorem dX6_scan_59 : decode cX6_scan 59 = .ok (.bipush 40, 2) := by decide +kernel
theorem dX6_scan_61 : decode cX6_scan 61 = .ok (.if_icmp .ne 20, 3) := by decide +kernel
theorem dX6_scan_64 : decode cX6_scan 64 = .ok (.aload_n 0, 1) := by decide +kernel
theorem dX6_scan_65 : decode cX6_scan 65 = .ok (.getfield 33, 3) := by decide +kernel
theorem dX6_scan_68 : decode cX6_scan 68 = .ok (.sipush 2001, 3) := by decide +kernel
theorem dX6_scan_71 : decode cX6_scan 71 = .ok (.if_icmp .ge 10, 3) := by decide +kernel
theorem dX6_scan_74 : decode cX6_scan 74 = .ok (.aload_n 0, 1) := by decide +kernel
theorem dX6_scan_75 : decode cX6_scan 75 = .ok (.invokevirtual 55, 3) := by decide +kernel
theorem dX6_scan_78 : decode cX6_scan 78 = .ok (.goto 81, 3) := by decide +kernel
theorem dX6_scan_81 : decode cX6_scan 81 = .ok (.aload_n 0, 1) := by decide +kernel
theorem dX6_scan_82 : decode cX6_scan 82 = .ok (.aload_n 0, 1) := by decide +kernel
theorem dX6_scan_83 : decode cX6_scan 83 = .ok (.getfield 58, 3) := by decide +kernel
theorem dX6_scan_86 : decode cX6_scan 86 = .ok (.aload_n 0, 1) := by decide +kernel
theorem dX6_scan_87 : decode cX6_scan 87 = .ok (.getfield 61, 3) := by decide +kernel
theorem dX6_scan_90 : decode cX6_scan 90 = .ok (.iconst 0, 1) := by decide +kernel
theorem dX6_scan_91 : decode cX6_scan 91 = .ok (.invokevirtual 64, 3) := by decide +kernel
theorem dX6_scan_94 : decode cX6_scan 94 = .ok (.aload_n 0, 1) := by decide +kernel
theorem dX6_scan_95 : decode cX6_scan 95 = .ok (.invokevirtual 68, 3) := by decide +kernel
theorem dX6_scan_98 : decode cX6_scan 98 = .ok (.aload_n 0, 1) := by decide +kernel
theorem dX6_scan_99 : decode cX6_scan 99 = .ok (.getfield 33, 3) := by decide +kernel
theorem dX6_scan_102 : decode cX6_scan 102 = .ok (.ifCond .ne 26, 3) := by decide +kernel
theorem dX6_scan_105 : decode cX6_scan 105 = .ok (.aload_n 0, 1) := by decide +kernel
theorem dX6_scan_106 : decode cX6_scan 106 = .ok (.getfield 37, 3) := by decide +kernel
theorem dX6_scan_109 : decode cX6_scan 109 = .ok (.aload_n 0, 1) := by decide +kernel
theorem dX6_scan_110 : decode cX6_scan 110 = .ok (.getfield 25, 3) := by decide +kernel
theorem dX6_scan_113 : decode cX6_scan 113 = .ok (.getfield 71, 3) := by decide +kernel
theorem dX6_scan_116 : decode cX6_scan 116 = .ok (.if_icmp .ne 7, 3) := by decide +kernel
theorem dX6_scan_119 : decode cX6_scan 119 = .ok (.iconst (-1), 1) := by decide +kernel
theorem dX6_scan_120 : decode cX6_scan 120 = .ok (.goto 7, 3) := by decide +kernel
theorem dX6_scan_123 : decode cX6_scan 123 = .ok (.aload_n 0, 1) := by decide +kernel
theorem dX6_scan_124 : decode cX6_scan 124 = .ok (.getfield 37, 3) := by decide +kernel
theorem dX6_scan_127 : decode cX6_scan 127 = .ok (.ireturn, 1) := by decide +kernel
theorem dX6_scan_128 : decode cX6_scan 128 = .ok (.aload_n 0, 1) := by decide +kernel
theorem dX6_scan_129 : decode cX6_scan 129 = .ok (.getfield 25, 3) := by decide +kernel
theorem dX6_scan_132 : decode cX6_scan 132 = .ok (.aload_n 0, 1) := by decide +kernel
theorem dX6_scan_133 : decode cX6_scan 133 = .ok (.getfield 37, 3) := by decide +kernel
theorem dX6_scan_136 : decode cX6_scan 136 = .ok (.invokevirtual 50, 3) := by decide +kernel
theorem dX6_scan_139 : decode cX6_scan 139 = .ok (.bipush 44, 2) := by decide +kernel
theorem dX6_scan_141 : decode cX6_scan 141 = .ok (.if_icmp .eq 8, 3) := by decide +kernel
theorem dX6_scan_144 : decode cX6_scan 144 = .ok (.aload_n 0, 1) := by decide +kernel
theorem dX6_scan_145 : decode cX6_scan 145 = .ok (.getfield 37, 3) := by decide +kernel
theorem dX6_scan_148 : decode cX6_scan 148 = .ok (.ireturn, 1) := by decide +kernel
theorem dX6_scan_149 : decode cX6_scan 149 = .ok (.aload_n 0, 1) := by decide +kernel
theorem dX6_scan_150 : decode cX6_scan 150 = .ok (.dup, 1) := by decide +kernel
theorem dX6_scan_151 : decode cX6_scan 151 = .ok (.getfield 37, 3) := by decide +kernel
theorem dX6_scan_154 : decode cX6_scan 154 = .ok (.iconst 1, 1) := by decide +kernel
theorem dX6_scan_155 : decode cX6_scan 155 = .ok (.iadd, 1) := by decide +kernel
theorem dX6_scan_156 : decode cX6_scan 156 = .ok (.putfield 37, 3) := by decide +kernel
theorem dX6_scan_159 : decode cX6_scan 159 = .ok (.iinc 2 1, 3) := by decide +kernel
theorem dX6_scan_162 : decode cX6_scan 162 = .ok (.goto (-140), 3) := by decide +kernel
theorem dX6_scan_165 : decode cX6_scan 165 = .ok (.aload_n 0, 1) := by decide +kernel
theorem dX6_scan_166 : decode cX6_scan 166 = .ok (.getfield 37, 3) := by decide +kernel
theorem dX6_scan_169 : decode cX6_scan 169 = .ok (.ireturn, 1) := by decide +kernel
theorem dX6_scanKind_0 : decode cX6_scanKind 0 = .ok (.aload_n 0, 1) := by decide +kernel
theorem dX6_scanKind_1 : decode cX6_scanKind 1 = .ok (.aload_n 0, 1) := by decide +kernel
theorem dX6_scanKind_2 : decode cX6_scanKind 2 = .ok (.getfield 25, 3) := by decide +kernel
theorem dX6_scanKind_5 : decode cX6_scanKind 5 = .ok (.aload_n 0, 1) := by decide +kernel
theorem dX6_scanKind_6 : decode cX6_scanKind 6 = .ok (.getfield 37, 3) := by decide +kernel
theorem dX6_scanKind_9 : decode cX6_scanKind 9 = .ok (.invokevirtual 50, 3) := by decide +kernel
theorem dX6_scanKind_12 : decode cX6_scanKind 12 = .ok (.bipush 97, 2) := by decide +kernel
theorem dX6_scanKind_14 : decode cX6_scanKind 14 = .ok (.isub, 1) := by decide +kernel
theorem dX6_scanKind_15 : decode cX6_scanKind 15 = .ok (.putfield 58, 3) := by decide +kernel
theorem dX6_scanKind_18 : decode cX6_scanKind 18 = .ok (.aload_n 0, 1) := by decide +kernel
theorem dX6_scanKind_19 : decode cX6_scanKind 19 = .ok (.getfield 58, 3) := by decide +kernel
theorem dX6_scanKind_22 : decode cX6_scanKind 22 = .ok (.invokestatic 74, 3) := by decide +kernel
theorem dX6_scanKind_25 : decode cX6_scanKind 25 = .ok (.ifCond .ne 5, 3) := by decide +kernel
theorem dX6_scanKind_28 : decode cX6_scanKind 28 = .ok (.iconst 0, 1) := by decide +kernel
theorem dX6_scanKind_29 : decode cX6_scanKind 29 = .ok (.ireturn, 1) := by decide +kernel
theorem dX6_scanKind_30 : decode cX6_scanKind 30 = .ok (.aload_n 0, 1) := by decide +kernel
theorem dX6_scanKind_31 : decode cX6_scanKind 31 = .ok (.dup, 1) := by decide +kernel
theorem dX6_scanKind_32 : decode cX6_scanKind 32 = .ok (.getfield 37, 3) := by decide +kernel
theorem dX6_scanKind_35 : decode cX6_scanKind 35 = .ok (.iconst 1, 1) := by decide +kernel
theorem dX6_scanKind_36 : decode cX6_scanKind 36 = .ok (.iadd, 1) := by decide +kernel
theorem dX6_scanKind_37 : decode cX6_scanKind 37 = .ok (.putfield 37, 3) := by decide +kernel
theorem dX6_scanKind_40 : decode cX6_scanKind 40 = .ok (.iconst 1, 1) := by decide +kernel
theorem dX6_scanKind_41 : decode cX6_scanKind 41 = .ok (.ireturn, 1) := by decide +kernel
theorem dX6_scanNumber_0 : decode cX6_scanNumber 0 = .ok (.aload_n 0, 1) := by decide +kernel
theorem dX6_scanNumber_1 : decode cX6_scanNumber 1 = .ok (.getfield 37, 3) := by decide +kernel
theorem dX6_scanNumber_4 : decode cX6_scanNumber 4 = .ok (.istore_n 1, 1) := by decide +kernel
theorem dX6_scanNumber_5 : decode cX6_scanNumber 5 = .ok (.aload_n 0, 1) := by decide +kernel
theorem dX6_scanNumber_6 : decode cX6_scanNumber 6 = .ok (.getfield 25, 3) := by decide +kernel
theorem dX6_scanNumber_9 : decode cX6_scanNumber 9 = .ok (.aload_n 0, 1) := by decide +kernel
theorem dX6_scanNumber_10 : decode cX6_scanNumber 10 = .ok (.getfield 37, 3) := by decide +kernel
theorem dX6_scanNumber_13 : decode cX6_scanNumber 13 = .ok (.invokevirtual 50, 3) := by decide +kernel
theorem dX6_scanNumber_16 : decode cX6_scanNumber 16 = .ok (.bipush 45, 2) := by decide +kernel
theorem dX6_scanNumber_18 : decode cX6_scanNumber 18 = .ok (.if_icmp .ne 7, 3) := by decide +kernel
theorem dX6_scanNumber_21 : decode cX6_scanNumber 21 = .ok (.iconst 1, 1) := by decide +kernel
theorem dX6_scanNumber_22 : decode cX6_scanNumber 22 = .ok (.goto 4, 3) := by decide +kernel
theorem dX6_scanNumber_25 : decode cX6_scanNumber 25 = .ok (.iconst 0, 1) := by decide +kernel
theorem dX6_scanNumber_26 : decode cX6_scanNumber 26 = .ok (.istore_n 2, 1) := by decide +kernel
theorem dX6_scanNumber_27 : decode cX6_scanNumber 27 = .ok (.iload_n 2, 1) := by decide +kernel
theorem dX6_scanNumber_28 : decode cX6_scanNumber 28 = .ok (.ifCond .eq 13, 3) := by decide +kernel
theorem dX6_scanNumber_31 : decode cX6_scanNumber 31 = .ok (.aload_n 0, 1) := by decide +kernel
theorem dX6_scanNumber_32 : decode cX6_scanNumber 32 = .ok (.dup, 1) := by decide +kernel
theorem dX6_scanNumber_33 : decode cX6_scanNumber 33 = .ok (.getfield 37, 3) := by decide +kernel
theorem dX6_scanNumber_36 : decode cX6_scanNumber 36 = .ok (.iconst 1, 1) := by decide +kernel
theorem dX6_scanNumber_37 : decode cX6_scanNumber 37 = .ok (.iadd, 1) := by decide +kernel
theorem dX6_scanNumber_38 : decode cX6_scanNumber 38 = .ok (.putfield 37, 3) := by decide +kernel
theorem dX6_scanNumber_41 : decode cX6_scanNumber 41 = .ok (.aload_n 0, 1) := by decide +kernel
theorem dX6_scanNumber_42 : decode cX6_scanNumber 42 = .ok (.getfield 25, 3) := by decide +kernel
theorem dX6_scanNumber_45 : decode cX6_scanNumber 45 = .ok (.aload_n 0, 1) := by decide +kernel
theorem dX6_scanNumber_46 : decode cX6_scanNumber 46 = .ok (.getfield 37, 3) := by decide +kernel
theorem dX6_scanNumber_49 : decode cX6_scanNumber 49 = .ok (.invokevirtual 50, 3) := by decide +kernel
theorem dX6_scanNumber_52 : decode cX6_scanNumber 52 = .ok (.invokestatic 78, 3) := by decide +kernel
theorem dX6_scanNumber_55 : decode cX6_scanNumber 55 = .ok (.ifCond .eq 23, 3) := by decide +kernel
theorem dX6_scanNumber_58 : decode cX6_scanNumber 58 = .ok (.iload_n 2, 1) := by decide +kernel
theorem dX6_scanNumber_59 : decode cX6_scanNumber 59 = .ok (.ifCond .eq 21, 3) := by decide +kernel
theorem dX6_scanNumber_62 : decode cX6_scanNumber 62 = .ok (.aload_n 0, 1) := by decide +kernel
theorem dX6_scanNumber_63 : decode cX6_scanNumber 63 = .ok (.getfield 25, 3) := by decide +kernel
theorem dX6_scanNumber_66 : decode cX6_scanNumber 66 = .ok (.aload_n 0, 1) := by decide +kernel
theorem dX6_scanNumber_67 : decode cX6_scanNumber 67 = .ok (.getfield 37, 3) := by decide +kernel
theorem dX6_scanNumber_70 : decode cX6_scanNumber 70 = .ok (.invokevirtual 50, 3) := by decide +kernel
theorem dX6_scanNumber_73 : decode cX6_scanNumber 73 = .ok (.bipush 48, 2) := by decide +kernel
theorem dX6_scanNumber_75 : decode cX6_scanNumber 75 = .ok (.if_icmp .ne 5, 3) := by decide +kernel
theorem dX6_scanNumber_78 : decode cX6_scanNumber 78 = .ok (.iconst 0, 1) := by decide +kernel
theorem dX6_scanNumber_79 : decode cX6_scanNumber 79 = .ok (.ireturn, 1) := by decide +kernel
theorem dX6_scanNumber_80 : decode cX6_scanNumber 80 = .ok (.aload_n 0, 1) := by decide +kernel
theorem dX6_scanNumber_81 : decode cX6_scanNumber 81 = .ok (.invokevirtual 81, 3) := by decide +kernel
theorem dX6_scanNumber_84 : decode cX6_scanNumber 84 = .ok (.lstore_n 3, 1) := by decide +kernel
theorem dX6_scanNumber_85 : decode cX6_scanNumber 85 = .ok (.iload_n 2, 1) := by decide +kernel
theorem dX6_scanNumber_86 : decode cX6_scanNumber 86 = .ok (.ifCond .eq 8, 3) := by decide +kernel
theorem dX6_scanNumber_89 : decode cX6_scanNumber 89 = .ok (.lload_n 3, 1) := by decide +kernel
theorem dX6_scanNumber_90 : decode cX6_scanNumber 90 = .ok (.lneg, 1) := by decide +kernel
theorem dX6_scanNumber_91 : decode cX6_scanNumber 91 = .ok (.goto 4, 3) := by decide +kernel
theorem dX6_scanNumber_94 : decode cX6_scanNumber 94 = .ok (.lload_n 3, 1) := by decide +kernel
theorem dX6_scanNumber_95 : decode cX6_scanNumber 95 = .ok (.lstore 5, 2) := by decide +kernel
theorem dX6_scanNumber_97 : decode cX6_scanNumber 97 = .ok (.lload 5, 2) := by decide +kernel
theorem dX6_scanNumber_99 : decode cX6_scanNumber 99 = .ok (.ldc2_w 85, 3) := by decide +kernel
theorem dX6_scanNumber_102 : decode cX6_scanNumber 102 = .ok (.lcmp, 1) := by decide +kernel
theorem dX6_scanNumber_103 : decode cX6_scanNumber 103 = .ok (.ifCond .lt 12, 3) := by decide +kernel
theorem dX6_scanNumber_106 : decode cX6_scanNumber 106 = .ok (.lload 5, 2) := by decide +kernel
theorem dX6_scanNumber_108 : decode cX6_scanNumber 108 = .ok (.ldc2_w 87, 3) := by decide +kernel
theorem dX6_scanNumber_111 : decode cX6_scanNumber 111 = .ok (.lcmp, 1) := by decide +kernel
theorem dX6_scanNumber_112 : decode cX6_scanNumber 112 = .ok (.ifCond .le 10, 3) := by decide +kernel
theorem dX6_scanNumber_115 : decode cX6_scanNumber 115 = .ok (.aload_n 0, 1) := by decide +kernel
theorem dX6_scanNumber_116 : decode cX6_scanNumber 116 = .ok (.iload_n 1, 1) := by decide +kernel
theorem dX6_scanNumber_117 : decode cX6_scanNumber 117 = .ok (.putfield 37, 3) := by decide +kernel
theorem dX6_scanNumber_120 : decode cX6_scanNumber 120 = .ok (.iconst 0, 1) := by decide +kernel
theorem dX6_scanNumber_121 : decode cX6_scanNumber 121 = .ok (.ireturn, 1) := by decide +kernel
theorem dX6_scanNumber_122 : decode cX6_scanNumber 122 = .ok (.aload_n 0, 1) := by decide +kernel
theorem dX6_scanNumber_123 : decode cX6_scanNumber 123 = .ok (.lload 5, 2) := by decide +kernel
theorem dX6_scanNumber_125 : decode cX6_scanNumber 125 = .ok (.l2i, 1) := by decide +kernel
theorem dX6_scanNumber_126 : decode cX6_scanNumber 126 = .ok (.putfield 61, 3) := by decide +kernel
theorem dX6_scanNumber_129 : decode cX6_scanNumber 129 = .ok (.iconst 1, 1) := by decide +kernel
theorem dX6_scanNumber_130 : decode cX6_scanNumber 130 = .ok (.ireturn, 1) := by decide +kernel
theorem dX6_scanFigures_0 : decode cX6_scanFigures 0 = .ok (.aload_n 0, 1) := by decide +kernel
theorem dX6_scanFigures_1 : decode cX6_scanFigures 1 = .ok (.getfield 25, 3) := by decide +kernel
theorem dX6_scanFigures_4 : decode cX6_scanFigures 4 = .ok (.aload_n 0, 1) := by decide +kernel
theorem dX6_scanFigures_5 : decode cX6_scanFigures 5 = .ok (.getfield 37, 3) := by decide +kernel
theorem dX6_scanFigures_8 : decode cX6_scanFigures 8 = .ok (.invokevirtual 50, 3) := by decide +kernel
theorem dX6_scanFigures_11 : decode cX6_scanFigures 11 = .ok (.bipush 48, 2) := by decide +kernel
theorem dX6_scanFigures_13 : decode cX6_scanFigures 13 = .ok (.if_icmp .ne 15, 3) := by decide +kernel
theorem dX6_scanFigures_16 : decode cX6_scanFigures 16 = .ok (.aload_n 0, 1) := by decide +kernel
theorem dX6_scanFigures_17 : decode cX6_scanFigures 17 = .ok (.dup, 1) := by decide +kernel
theorem dX6_scanFigures_18 : decode cX6_scanFigures 18 = .ok (.getfield 37, 3) := by decide +kernel
theorem dX6_scanFigures_21 : decode cX6_scanFigures 21 = .ok (.iconst 1, 1) := by decide +kernel
theorem dX6_scanFigures_22 : decode cX6_scanFigures 22 = .ok (.iadd, 1) := by decide +kernel
theorem dX6_scanFigures_23 : decode cX6_scanFigures 23 = .ok (.putfield 37, 3) := by decide +kernel
theorem dX6_scanFigures_26 : decode cX6_scanFigures 26 = .ok (.lconst 0, 1) := by decide +kernel
theorem dX6_scanFigures_27 : decode cX6_scanFigures 27 = .ok (.lreturn, 1) := by decide +kernel
theorem dX6_scanFigures_28 : decode cX6_scanFigures 28 = .ok (.lconst 0, 1) := by decide +kernel
theorem dX6_scanFigures_29 : decode cX6_scanFigures 29 = .ok (.lstore_n 1, 1) := by decide +kernel
theorem dX6_scanFigures_30 : decode cX6_scanFigures 30 = .ok (.aload_n 0, 1) := by decide +kernel
theorem dX6_scanFigures_31 : decode cX6_scanFigures 31 = .ok (.getfield 37, 3) := by decide +kernel
theorem dX6_scanFigures_34 : decode cX6_scanFigures 34 = .ok (.aload_n 0, 1) := by decide +kernel
theorem dX6_scanFigures_35 : decode cX6_scanFigures 35 = .ok (.getfield 25, 3) := by decide +kernel
theorem dX6_scanFigures_38 : decode cX6_scanFigures 38 = .ok (.getfield 71, 3) := by decide +kernel
theorem dX6_scanFigures_41 : decode cX6_scanFigures 41 = .ok (.if_icmp .ge 62, 3) := by decide +kernel
theorem dX6_scanFigures_44 : decode cX6_scanFigures 44 = .ok (.aload_n 0, 1) := by decide +kernel
theorem dX6_scanFigures_45 : decode cX6_scanFigures 45 = .ok (.getfield 25, 3) := by decide +kernel
theorem dX6_scanFigures_48 : decode cX6_scanFigures 48 = .ok (.aload_n 0, 1) := by decide +kernel
theorem dX6_scanFigures_49 : decode cX6_scanFigures 49 = .ok (.getfield 37, 3) := by decide +kernel
theorem dX6_scanFigures_52 : decode cX6_scanFigures 52 = .ok (.invokevirtual 50, 3) := by decide +kernel
theorem dX6_scanFigures_55 : decode cX6_scanFigures 55 = .ok (.invokestatic 78, 3) := by decide +kernel
theorem dX6_scanFigures_58 : decode cX6_scanFigures 58 = .ok (.ifCond .eq 45, 3) := by decide +kernel
theorem dX6_scanFigures_61 : decode cX6_scanFigures 61 = .ok (.ldc2_w 89, 3) := by decide +kernel
theorem dX6_scanFigures_64 : decode cX6_scanFigures 64 = .ok (.lload_n 1, 1) := by decide +kernel
theorem dX6_scanFigures_65 : decode cX6_scanFigures 65 = .ok (.lmul, 1) := by decide +kernel
theorem dX6_scanFigures_66 : decode cX6_scanFigures 66 = .ok (.aload_n 0, 1) := by decide +kernel
theorem dX6_scanFigures_67 : decode cX6_scanFigures 67 = .ok (.getfield 25, 3) := by decide +kernel
theorem dX6_scanFigures_70 : decode cX6_scanFigures 70 = .ok (.aload_n 0, 1) := by decide +kernel
theorem dX6_scanFigures_71 : decode cX6_scanFigures 71 = .ok (.getfield 37, 3) := by decide +kernel
theorem dX6_scanFigures_74 : decode cX6_scanFigures 74 = .ok (.invokevirtual 50, 3) := by decide +kernel
theorem dX6_scanFigures_77 : decode cX6_scanFigures 77 = .ok (.i2l, 1) := by decide +kernel
theorem dX6_scanFigures_78 : decode cX6_scanFigures 78 = .ok (.ladd, 1) := by decide +kernel
theorem dX6_scanFigures_79 : decode cX6_scanFigures 79 = .ok (.ldc2_w 91, 3) := by decide +kernel
theorem dX6_scanFigures_82 : decode cX6_scanFigures 82 = .ok (.lsub, 1) := by decide +kernel
theorem dX6_scanFigures_83 : decode cX6_scanFigures 83 = .ok (.ldc2_w 93, 3) := by decide +kernel
theorem dX6_scanFigures_86 : decode cX6_scanFigures 86 = .ok (.invokestatic 95, 3) := by decide +kernel
theorem dX6_scanFigures_89 : decode cX6_scanFigures 89 = .ok (.lstore_n 1, 1) := by decide +kernel
theorem dX6_scanFigures_90 : decode cX6_scanFigures 90 = .ok (.aload_n 0, 1) := by decide +kernel
theorem dX6_scanFigures_91 : decode cX6_scanFigures 91 = .ok (.dup, 1) := by decide +kernel
theorem dX6_scanFigures_92 : decode cX6_scanFigures 92 = .ok (.getfield 37, 3) := by decide +kernel
theorem dX6_scanFigures_95 : decode cX6_scanFigures 95 = .ok (.iconst 1, 1) := by decide +kernel
theorem dX6_scanFigures_96 : decode cX6_scanFigures 96 = .ok (.iadd, 1) := by decide +kernel
theorem dX6_scanFigures_97 : decode cX6_scanFigures 97 = .ok (.putfield 37, 3) := by decide +kernel
theorem dX6_scanFigures_100 : decode cX6_scanFigures 100 = .ok (.goto (-70), 3) := by decide +kernel
theorem dX6_scanFigures_103 : decode cX6_scanFigures 103 = .ok (.lload_n 1, 1) := by decide +kernel
theorem dX6_scanFigures_104 : decode cX6_scanFigures 104 = .ok (.lreturn, 1) := by decide +kernel
theorem dX6_isFigure_0 : decode cX6_isFigure 0 = .ok (.iload_n 0, 1) := by decide +kernel
theorem dX6_isFigure_1 : decode cX6_isFigure 1 = .ok (.bipush 48, 2) := by decide +kernel
theorem dX6_isFigure_3 : decode cX6_isFigure 3 = .ok (.if_icmp .lt 13, 3) := by decide +kernel
theorem dX6_isFigure_6 : decode cX6_isFigure 6 = .ok (.iload_n 0, 1) := by decide +kernel
theorem dX6_isFigure_7 : decode cX6_isFigure 7 = .ok (.bipush 57, 2) := by decide +kernel
theorem dX6_isFigure_9 : decode cX6_isFigure 9 = .ok (.if_icmp .gt 7, 3) := by decide +kernel
theorem dX6_isFigure_12 : decode cX6_isFigure 12 = .ok (.iconst 1, 1) := by decide +kernel
theorem dX6_isFigure_13 : decode cX6_isFigure 13 = .ok (.goto 4, 3) := by decide +kernel
theorem dX6_isFigure_16 : decode cX6_isFigure 16 = .ok (.iconst 0, 1) := by decide +kernel
theorem dX6_isFigure_17 : decode cX6_isFigure 17 = .ok (.ireturn, 1) := by decide +kernel
theorem dX6_openDeed_0 : decode cX6_openDeed 0 = .ok (.aload_n 0, 1) := by decide +kernel
theorem dX6_openDeed_1 : decode cX6_openDeed 1 = .ok (.dup, 1) := by decide +kernel
theorem dX6_openDeed_2 : decode cX6_openDeed 2 = .ok (.getfield 37, 3) := by decide +kernel
theorem dX6_openDeed_5 : decode cX6_openDeed 5 = .ok (.iconst 1, 1) := by decide +kernel
theorem dX6_openDeed_6 : decode cX6_openDeed 6 = .ok (.iadd, 1) := by decide +kernel
theorem dX6_openDeed_7 : decode cX6_openDeed 7 = .ok (.putfield 37, 3) := by decide +kernel
theorem dX6_openDeed_10 : decode cX6_openDeed 10 = .ok (.aload_n 0, 1) := by decide +kernel
theorem dX6_openDeed_11 : decode cX6_openDeed 11 = .ok (.getfield 11, 3) := by decide +kernel
theorem dX6_openDeed_14 : decode cX6_openDeed 14 = .ok (.aload_n 0, 1) := by decide +kernel
theorem dX6_openDeed_15 : decode cX6_openDeed 15 = .ok (.getfield 33, 3) := by decide +kernel
theorem dX6_openDeed_18 : decode cX6_openDeed 18 = .ok (.aload_n 0, 1) := by decide +kernel
theorem dX6_openDeed_19 : decode cX6_openDeed 19 = .ok (.getfield 58, 3) := by decide +kernel
theorem dX6_openDeed_22 : decode cX6_openDeed 22 = .ok (.iastore, 1) := by decide +kernel
theorem dX6_openDeed_23 : decode cX6_openDeed 23 = .ok (.aload_n 0, 1) := by decide +kernel
theorem dX6_openDeed_24 : decode cX6_openDeed 24 = .ok (.getfield 15, 3) := by decide +kernel
theorem dX6_openDeed_27 : decode cX6_openDeed 27 = .ok (.aload_n 0, 1) := by decide +kernel
theorem dX6_openDeed_28 : decode cX6_openDeed 28 = .ok (.getfield 33, 3) := by decide +kernel
theorem dX6_openDeed_31 : decode cX6_openDeed 31 = .ok (.aload_n 0, 1) := by decide +kernel
theorem dX6_openDeed_32 : decode cX6_openDeed 32 = .ok (.getfield 61, 3) := by decide +kernel
theorem dX6_openDeed_35 : decode cX6_openDeed 35 = .ok (.iastore, 1) := by decide +kernel
theorem dX6_openDeed_36 : decode cX6_openDeed 36 = .ok (.aload_n 0, 1) := by decide +kernel
theorem dX6_openDeed_37 : decode cX6_openDeed 37 = .ok (.getfield 18, 3) := by decide +kernel
theorem dX6_openDeed_40 : decode cX6_openDeed 40 = .ok (.aload_n 0, 1) := by decide +kernel
theorem dX6_openDeed_41 : decode cX6_openDeed 41 = .ok (.getfield 33, 3) := by decide +kernel
theorem dX6_openDeed_44 : decode cX6_openDeed 44 = .ok (.iconst 0, 1) := by decide +kernel
theorem dX6_openDeed_45 : decode cX6_openDeed 45 = .ok (.iastore, 1) := by decide +kernel
theorem dX6_openDeed_46 : decode cX6_openDeed 46 = .ok (.aload_n 0, 1) := by decide +kernel
theorem dX6_openDeed_47 : decode cX6_openDeed 47 = .ok (.dup, 1) := by decide +kernel
theorem dX6_openDeed_48 : decode cX6_openDeed 48 = .ok (.getfield 33, 3) := by decide +kernel
theorem dX6_openDeed_51 : decode cX6_openDeed 51 = .ok (.iconst 1, 1) := by decide +kernel
theorem dX6_openDeed_52 : decode cX6_openDeed 52 = .ok (.iadd, 1) := by decide +kernel
theorem dX6_openDeed_53 : decode cX6_openDeed 53 = .ok (.putfield 33, 3) := by decide +kernel
theorem dX6_openDeed_56 : decode cX6_openDeed 56 = .ok (.return_, 1) := by decide +kernel
theorem dX6_closeDeeds_0 : decode cX6_closeDeeds 0 = .ok (.aload_n 0, 1) := by decide +kernel
theorem dX6_closeDeeds_1 : decode cX6_closeDeeds 1 = .ok (.getfield 33, 3) := by decide +kernel
theorem dX6_closeDeeds_4 : decode cX6_closeDeeds 4 = .ok (.ifCond .le 73, 3) := by decide +kernel
theorem dX6_closeDeeds_7 : decode cX6_closeDeeds 7 = .ok (.aload_n 0, 1) := by decide +kernel
theorem dX6_closeDeeds_8 : decode cX6_closeDeeds 8 = .ok (.getfield 25, 3) := by decide +kernel
theorem dX6_closeDeeds_11 : decode cX6_closeDeeds 11 = .ok (.aload_n 0, 1) := by decide +kernel
theorem dX6_closeDeeds_12 : decode cX6_closeDeeds 12 = .ok (.getfield 37, 3) := by decide +kernel
theorem dX6_closeDeeds_15 : decode cX6_closeDeeds 15 = .ok (.invokevirtual 50, 3) := by decide +kernel
theorem dX6_closeDeeds_18 : decode cX6_closeDeeds 18 = .ok (.bipush 41, 2) := by decide +kernel
theorem dX6_closeDeeds_20 : decode cX6_closeDeeds 20 = .ok (.if_icmp .ne 57, 3) := by decide +kernel
theorem dX6_closeDeeds_23 : decode cX6_closeDeeds 23 = .ok (.aload_n 0, 1) := by decide +kernel
theorem dX6_closeDeeds_24 : decode cX6_closeDeeds 24 = .ok (.dup, 1) := by decide +kernel
theorem dX6_closeDeeds_25 : decode cX6_closeDeeds 25 = .ok (.getfield 33, 3) := by decide +kernel
theorem dX6_closeDeeds_28 : decode cX6_closeDeeds 28 = .ok (.iconst 1, 1) := by decide +kernel
theorem dX6_closeDeeds_29 : decode cX6_closeDeeds 29 = .ok (.isub, 1) := by decide +kernel
theorem dX6_closeDeeds_30 : decode cX6_closeDeeds 30 = .ok (.putfield 33, 3) := by decide +kernel
theorem dX6_closeDeeds_33 : decode cX6_closeDeeds 33 = .ok (.aload_n 0, 1) := by decide +kernel
theorem dX6_closeDeeds_34 : decode cX6_closeDeeds 34 = .ok (.aload_n 0, 1) := by decide +kernel
theorem dX6_closeDeeds_35 : decode cX6_closeDeeds 35 = .ok (.getfield 11, 3) := by decide +kernel
theorem dX6_closeDeeds_38 : decode cX6_closeDeeds 38 = .ok (.aload_n 0, 1) := by decide +kernel
theorem dX6_closeDeeds_39 : decode cX6_closeDeeds 39 = .ok (.getfield 33, 3) := by decide +kernel
theorem dX6_closeDeeds_42 : decode cX6_closeDeeds 42 = .ok (.iaload, 1) := by decide +kernel
theorem dX6_closeDeeds_43 : decode cX6_closeDeeds 43 = .ok (.aload_n 0, 1) := by decide +kernel
theorem dX6_closeDeeds_44 : decode cX6_closeDeeds 44 = .ok (.getfield 15, 3) := by decide +kernel
theorem dX6_closeDeeds_47 : decode cX6_closeDeeds 47 = .ok (.aload_n 0, 1) := by decide +kernel
theorem dX6_closeDeeds_48 : decode cX6_closeDeeds 48 = .ok (.getfield 33, 3) := by decide +kernel
theorem dX6_closeDeeds_51 : decode cX6_closeDeeds 51 = .ok (.iaload, 1) := by decide +kernel
theorem dX6_closeDeeds_52 : decode cX6_closeDeeds 52 = .ok (.aload_n 0, 1) := by decide +kernel
theorem dX6_closeDeeds_53 : decode cX6_closeDeeds 53 = .ok (.getfield 18, 3) := by decide +kernel
theorem dX6_closeDeeds_56 : decode cX6_closeDeeds 56 = .ok (.aload_n 0, 1) := by decide +kernel
theorem dX6_closeDeeds_57 : decode cX6_closeDeeds 57 = .ok (.getfield 33, 3) := by decide +kernel
theorem dX6_closeDeeds_60 : decode cX6_closeDeeds 60 = .ok (.iaload, 1) := by decide +kernel
theorem dX6_closeDeeds_61 : decode cX6_closeDeeds 61 = .ok (.invokevirtual 64, 3) := by decide +kernel
theorem dX6_closeDeeds_64 : decode cX6_closeDeeds 64 = .ok (.aload_n 0, 1) := by decide +kernel
theorem dX6_closeDeeds_65 : decode cX6_closeDeeds 65 = .ok (.dup, 1) := by decide +kernel
theorem dX6_closeDeeds_66 : decode cX6_closeDeeds 66 = .ok (.getfield 37, 3) := by decide +kernel
theorem dX6_closeDeeds_69 : decode cX6_closeDeeds 69 = .ok (.iconst 1, 1) := by decide +kernel
theorem dX6_closeDeeds_70 : decode cX6_closeDeeds 70 = .ok (.iadd, 1) := by decide +kernel
theorem dX6_closeDeeds_71 : decode cX6_closeDeeds 71 = .ok (.putfield 37, 3) := by decide +kernel
theorem dX6_closeDeeds_74 : decode cX6_closeDeeds 74 = .ok (.goto (-74), 3) := by decide +kernel
theorem dX6_closeDeeds_77 : decode cX6_closeDeeds 77 = .ok (.return_, 1) := by decide +kernel
theorem dX6_finishDeed_0 : decode cX6_finishDeed 0 = .ok (.aload_n 0, 1) := by decide +kernel
theorem dX6_finishDeed_1 : decode cX6_finishDeed 1 = .ok (.dup, 1) := by decide +kernel
theorem dX6_finishDeed_2 : decode cX6_finishDeed 2 = .ok (.getfield 40, 3) := by decide +kernel
theorem dX6_finishDeed_5 : decode cX6_finishDeed 5 = .ok (.iconst 1, 1) := by decide +kernel
theorem dX6_finishDeed_6 : decode cX6_finishDeed 6 = .ok (.iadd, 1) := by decide +kernel
theorem dX6_finishDeed_7 : decode cX6_finishDeed 7 = .ok (.putfield 40, 3) := by decide +kernel
theorem dX6_finishDeed_10 : decode cX6_finishDeed 10 = .ok (.aload_n 0, 1) := by decide +kernel
theorem dX6_finishDeed_11 : decode cX6_finishDeed 11 = .ok (.getfield 33, 3) := by decide +kernel
theorem dX6_finishDeed_14 : decode cX6_finishDeed 14 = .ok (.ifCond .le 18, 3) := by decide +kernel
theorem dX6_finishDeed_17 : decode cX6_finishDeed 17 = .ok (.aload_n 0, 1) := by decide +kernel
theorem dX6_finishDeed_18 : decode cX6_finishDeed 18 = .ok (.getfield 18, 3) := by decide +kernel
theorem dX6_finishDeed_21 : decode cX6_finishDeed 21 = .ok (.aload_n 0, 1) := by decide +kernel
theorem dX6_finishDeed_22 : decode cX6_finishDeed 22 = .ok (.getfield 33, 3) := by decide +kernel
theorem dX6_finishDeed_25 : decode cX6_finishDeed 25 = .ok (.iconst 1, 1) := by decide +kernel
theorem dX6_finishDeed_26 : decode cX6_finishDeed 26 = .ok (.isub, 1) := by decide +kernel
theorem dX6_finishDeed_27 : decode cX6_finishDeed 27 = .ok (.dup2, 1) := by decide +kernel
theorem dX6_finishDeed_28 : decode cX6_finishDeed 28 = .ok (.iaload, 1) := by decide +kernel
theorem dX6_finishDeed_29 : decode cX6_finishDeed 29 = .ok (.iconst 1, 1) := by decide +kernel
theorem dX6_finishDeed_30 : decode cX6_finishDeed 30 = .ok (.iadd, 1) := by decide +kernel
theorem dX6_finishDeed_31 : decode cX6_finishDeed 31 = .ok (.iastore, 1) := by decide +kernel
theorem dX6_finishDeed_32 : decode cX6_finishDeed 32 = .ok (.aload_n 0, 1) := by decide +kernel
theorem dX6_finishDeed_33 : decode cX6_finishDeed 33 = .ok (.getfield 29, 3) := by decide +kernel
theorem dX6_finishDeed_36 : decode cX6_finishDeed 36 = .ok (.ifCond .eq 13, 3) := by decide +kernel
theorem dX6_finishDeed_39 : decode cX6_finishDeed 39 = .ok (.aload_n 0, 1) := by decide +kernel
theorem dX6_finishDeed_40 : decode cX6_finishDeed 40 = .ok (.getfield 21, 3) := by decide +kernel
theorem dX6_finishDeed_43 : decode cX6_finishDeed 43 = .ok (.iload_n 1, 1) := by decide +kernel
theorem dX6_finishDeed_44 : decode cX6_finishDeed 44 = .ok (.iload_n 2, 1) := by decide +kernel
theorem dX6_finishDeed_45 : decode cX6_finishDeed 45 = .ok (.iload_n 3, 1) := by decide +kernel
theorem dX6_finishDeed_46 : decode cX6_finishDeed 46 = .ok (.invokevirtual 101, 3) := by decide +kernel
theorem dX6_finishDeed_49 : decode cX6_finishDeed 49 = .ok (.return_, 1) := by decide +kernel
theorem dX7_init_0 : decode cX7_init 0 = .ok (.aload_n 0, 1) := by decide +kernel
theorem dX7_init_1 : decode cX7_init 1 = .ok (.invokespecial 1, 3) := by decide +kernel
theorem dX7_init_4 : decode cX7_init 4 = .ok (.aload_n 0, 1) := by decide +kernel
theorem dX7_init_5 : decode cX7_init 5 = .ok (.aload_n 1, 1) := by decide +kernel
theorem dX7_init_6 : decode cX7_init 6 = .ok (.putfield 7, 3) := by decide +kernel
theorem dX7_init_9 : decode cX7_init 9 = .ok (.return_, 1) := by decide +kernel
theorem dX7_enter_0 : decode cX7_enter 0 = .ok (.return_, 1) := by decide +kernel
theorem dX7_choose_0 : decode cX7_choose 0 = .ok (.aload_n 0, 1) := by decide +kernel
theorem dX7_choose_1 : decode cX7_choose 1 = .ok (.getfield 7, 3) := by decide +kernel
theorem dX7_choose_4 : decode cX7_choose 4 = .ok (.iload_n 2, 1) := by decide +kernel
theorem dX7_choose_5 : decode cX7_choose 5 = .ok (.iload_n 3, 1) := by decide +kernel
theorem dX7_choose_6 : decode cX7_choose 6 = .ok (.invokevirtual 13, 3) := by decide +kernel
theorem dX7_choose_9 : decode cX7_choose 9 = .ok (.ireturn, 1) := by decide +kernel
theorem dX7_takeUp_0 : decode cX7_takeUp 0 = .ok (.return_, 1) := by decide +kernel
theorem dX7_leave_0 : decode cX7_leave 0 = .ok (.return_, 1) := by decide +kernel
theorem dX8_init_0 : decode cX8_init 0 = .ok (.aload_n 0, 1) := by decide +kernel
theorem dX8_init_1 : decode cX8_init 1 = .ok (.invokespecial 3, 3) := by decide +kernel
theorem dX8_init_4 : decode cX8_init 4 = .ok (.aload_n 0, 1) := by decide +kernel
theorem dX8_init_5 : decode cX8_init 5 = .ok (.sipush 1502, 3) := by decide +kernel
theorem dX8_init_8 : decode cX8_init 8 = .ok (.newarray .int, 2) := by decide +kernel
theorem dX8_init_10 : decode cX8_init 10 = .ok (.putfield 9, 3) := by decide +kernel
theorem dX8_init_13 : decode cX8_init 13 = .ok (.aload_n 0, 1) := by decide +kernel
theorem dX8_init_14 : decode cX8_init 14 = .ok (.sipush 1502, 3) := by decide +kernel
theorem dX8_init_17 : decode cX8_init 17 = .ok (.newarray .int, 2) := by decide +kernel
theorem dX8_init_19 : decode cX8_init 19 = .ok (.putfield 15, 3) := by decide +kernel
theorem dX8_init_22 : decode cX8_init 22 = .ok (.aload_n 0, 1) := by decide +kernel
theorem dX8_init_23 : decode cX8_init 23 = .ok (.sipush 1502, 3) := by decide +kernel
theorem dX8_init_26 : decode cX8_init 26 = .ok (.newarray .int, 2) := by decide +kernel
theorem dX8_init_28 : decode cX8_init 28 = .ok (.putfield 18, 3) := by decide +kernel
theorem dX8_init_31 : decode cX8_init 31 = .ok (.aload_n 0, 1) := by decide +kernel
theorem dX8_init_32 : decode cX8_init 32 = .ok (.iconst 0, 1) := by decide +kernel
theorem dX8_init_33 : decode cX8_init 33 = .ok (.putfield 21, 3) := by decide +kernel
theorem dX8_init_36 : decode cX8_init 36 = .ok (.aload_n 0, 1) := by decide +kernel
theorem dX8_init_37 : decode cX8_init 37 = .ok (.bipush 100, 2) := by decide +kernel
theorem dX8_init_39 : decode cX8_init 39 = .ok (.putfield 25, 3) := by decide +kernel
theorem dX8_init_42 : decode cX8_init 42 = .ok (.aload_n 0, 1) := by decide +kernel
theorem dX8_init_43 : decode cX8_init 43 = .ok (.aload_n 1, 1) := by decide +kernel
theorem dX8_init_44 : decode cX8_init 44 = .ok (.putfield 28, 3) := by decide +kernel
theorem dX8_init_47 : decode cX8_init 47 = .ok (.aload_n 0, 1) := by decide +kernel
theorem dX8_init_48 : decode cX8_init 48 = .ok (.aload_n 2, 1) := by decide +kernel
theorem dX8_init_49 : decode cX8_init 49 = .ok (.putfield 32, 3) := by decide +kernel
theorem dX8_init_52 : decode cX8_init 52 = .ok (.return_, 1) := by decide +kernel
theorem dX8_refuse_0 : decode cX8_refuse 0 = .ok (.aload_n 0, 1) := by decide +kernel
theorem dX8_refuse_1 : decode cX8_refuse 1 = .ok (.bipush (-2), 2) := by decide +kernel
theorem dX8_refuse_3 : decode cX8_refuse 3 = .ok (.putfield 36, 3) := by decide +kernel
theorem dX8_refuse_6 : decode cX8_refuse 6 = .ok (.bipush (-2), 2) := by decide +kernel
theorem dX8_refuse_8 : decode cX8_refuse 8 = .ok (.ireturn, 1) := by decide +kernel
theorem dX8_go_0 : decode cX8_go 0 = .ok (.aload_n 0, 1) := by decide +kernel
theorem dX8_go_1 : decode cX8_go 1 = .ok (.getfield 28, 3) := by decide +kernel
theorem dX8_go_4 : decode cX8_go 4 = .ok (.iload_n 2, 1) := by decide +kernel
theorem dX8_go_5 : decode cX8_go 5 = .ok (.invokevirtual 39, 3) := by decide +kernel
theorem dX8_go_8 : decode cX8_go 8 = .ok (.ifCond .ne 8, 3) := by decide +kernel
theorem dX8_go_11 : decode cX8_go 11 = .ok (.aload_n 0, 1) := by decide +kernel
theorem dX8_go_12 : decode cX8_go 12 = .ok (.invokevirtual 45, 3) := by decide +kernel
theorem dX8_go_15 : decode cX8_go 15 = .ok (.ireturn, 1) := by decide +kernel
theorem dX8_go_16 : decode cX8_go 16 = .ok (.aload_n 0, 1) := by decide +kernel
theorem dX8_go_17 : decode cX8_go 17 = .ok (.aload_n 1, 1) := by decide +kernel
theorem dX8_go_18 : decode cX8_go 18 = .ok (.putfield 32, 3) := by decide +kernel
theorem dX8_go_21 : decode cX8_go 21 = .ok (.aload_n 0, 1) := by decide +kernel
theorem dX8_go_22 : decode cX8_go 22 = .ok (.getfield 32, 3) := by decide +kernel
theorem dX8_go_25 : decode cX8_go 25 = .ok (.iconst 0, 1) := by decide +kernel
theorem dX8_go_26 : decode cX8_go 26 = .ok (.putfield 49, 3) := by decide +kernel
theorem dX8_go_29 : decode cX8_go 29 = .ok (.aload_n 0, 1) := by decide +kernel
theorem dX8_go_30 : decode cX8_go 30 = .ok (.iconst 0, 1) := by decide +kernel
theorem dX8_go_31 : decode cX8_go 31 = .ok (.putfield 36, 3) := by decide +kernel
theorem dX8_go_34 : decode cX8_go 34 = .ok (.aload_n 0, 1) := by decide +kernel
theorem dX8_go_35 : decode cX8_go 35 = .ok (.iconst 0, 1) := by decide +kernel
theorem dX8_go_36 : decode cX8_go 36 = .ok (.putfield 55, 3) := by decide +kernel
theorem dX8_go_39 : decode cX8_go 39 = .ok (.aload_n 0, 1) := by decide +kernel
theorem dX8_go_40 : decode cX8_go 40 = .ok (.iconst 0, 1) := by decide +kernel
theorem dX8_go_41 : decode cX8_go 41 = .ok (.putfield 58, 3) := by decide +kernel
theorem dX8_go_44 : decode cX8_go 44 = .ok (.aload_n 0, 1) := by decide +kernel
theorem dX8_go_45 : decode cX8_go 45 = .ok (.aload_n 0, 1) := by decide +kernel
theorem dX8_go_46 : decode cX8_go 46 = .ok (.getfield 21, 3) := by decide +kernel
theorem dX8_go_49 : decode cX8_go 49 = .ok (.ifCond .ne 10, 3) := by decide +kernel
theorem dX8_go_52 : decode cX8_go 52 = .ok (.aload_n 0, 1) := by decide +kernel
theorem dX8_go_53 : decode cX8_go 53 = .ok (.getfield 25, 3) := by decide +kernel
theorem dX8_go_56 : decode cX8_go 56 = .ok (.goto 6, 3) := by decide +kernel
theorem dX8_go_59 : decode cX8_go 59 = .ok (.sipush 1500, 3) := by decide +kernel
theorem dX8_go_62 : decode cX8_go 62 = .ok (.putfield 61, 3) := by decide +kernel
theorem dX8_go_65 : decode cX8_go 65 = .ok (.aload_n 0, 1) := by decide +kernel
theorem dX8_go_66 : decode cX8_go 66 = .ok (.iconst 1, 1) := by decide +kernel
theorem dX8_go_67 : decode cX8_go 67 = .ok (.iload_n 2, 1) := by decide +kernel
theorem dX8_go_68 : decode cX8_go 68 = .ok (.invokevirtual 64, 3) := by decide +kernel
theorem dX8_go_71 : decode cX8_go 71 = .ok (.ifCond .eq 49, 3) := by decide +kernel
theorem dX8_go_74 : decode cX8_go 74 = .ok (.aload_n 0, 1) := by decide +kernel
theorem dX8_go_75 : decode cX8_go 75 = .ok (.getfield 21, 3) := by decide +kernel
theorem dX8_go_78 : decode cX8_go 78 = .ok (.iconst 1, 1) := by decide +kernel
theorem dX8_go_79 : decode cX8_go 79 = .ok (.if_icmp .ne 11, 3) := by decide +kernel
theorem dX8_go_82 : decode cX8_go 82 = .ok (.aload_n 0, 1) := by decide +kernel
theorem dX8_go_83 : decode cX8_go 83 = .ok (.iconst 1, 1) := by decide +kernel
theorem dX8_go_84 : decode cX8_go 84 = .ok (.invokevirtual 68, 3) := by decide +kernel
theorem dX8_go_87 : decode cX8_go 87 = .ok (.goto 33, 3) := by decide +kernel
theorem dX8_go_90 : decode cX8_go 90 = .ok (.aload_n 0, 1) := by decide +kernel
theorem dX8_go_91 : decode cX8_go 91 = .ok (.getfield 21, 3) := by decide +kernel
theorem dX8_go_94 : decode cX8_go 94 = .ok (.iconst 2, 1) := by decide +kernel
theorem dX8_go_95 : decode cX8_go 95 = .ok (.if_icmp .ne 10, 3) := by decide +kernel
theorem dX8_go_98 : decode cX8_go 98 = .ok (.aload_n 0, 1) := by decide +kernel
theorem dX8_go_99 : decode cX8_go 99 = .ok (.invokevirtual 72, 3) := by decide +kernel
theorem dX8_go_102 : decode cX8_go 102 = .ok (.goto 18, 3) := by decide +kernel
theorem dX8_go_105 : decode cX8_go 105 = .ok (.aload_n 0, 1) := by decide +kernel
theorem dX8_go_106 : decode cX8_go 106 = .ok (.iconst 1, 1) := by decide +kernel
theorem dX8_go_107 : decode cX8_go 107 = .ok (.aload_n 0, 1) := by decide +kernel
theorem dX8_go_108 : decode cX8_go 108 = .ok (.getfield 25, 3) := by decide +kernel
theorem dX8_go_111 : decode cX8_go 111 = .ok (.sipush 250, 3) := by decide +kernel
theorem dX8_go_114 : decode cX8_go 114 = .ok (.invokestatic 75, 3) := by decide +kernel
theorem dX8_go_117 : decode cX8_go 117 = .ok (.invokevirtual 81, 3) := by decide +kernel
theorem dX8_go_120 : decode cX8_go 120 = .ok (.aload_n 0, 1) := by decide +kernel
theorem dX8_go_121 : decode cX8_go 121 = .ok (.getfield 21, 3) := by decide +kernel
theorem dX8_go_124 : decode cX8_go 124 = .ok (.ifCond .eq 11, 3) := by decide +kernel
theorem dX8_go_127 : decode cX8_go 127 = .ok (.aload_n 0, 1) := by decide +kernel
theorem dX8_go_128 : decode cX8_go 128 = .ok (.getfield 21, 3) := by decide +kernel
theorem dX8_go_131 : decode cX8_go 131 = .ok (.iconst 3, 1) := by decide +kernel
theorem dX8_go_132 : decode cX8_go 132 = .ok (.if_icmp .ne 7, 3) := by decide +kernel
theorem dX8_go_135 : decode cX8_go 135 = .ok (.iconst 1, 1) := by decide +kernel
theorem dX8_go_136 : decode cX8_go 136 = .ok (.goto 4, 3) := by decide +kernel
theorem dX8_go_139 : decode cX8_go 139 = .ok (.iconst 0, 1) := by decide +kernel
theorem dX8_go_140 : decode cX8_go 140 = .ok (.istore_n 3, 1) := by decide +kernel
theorem dX8_go_141 : decode cX8_go 141 = .ok (.aload_n 0, 1) := by decide +kernel
theorem dX8_go_142 : decode cX8_go 142 = .ok (.iload_n 3, 1) := by decide +kernel
theorem dX8_go_143 : decode cX8_go 143 = .ok (.ifCond .eq 17, 3) := by decide +kernel
theorem dX8_go_146 : decode cX8_go 146 = .ok (.aload_n 0, 1) := by decide +kernel
theorem dX8_go_147 : decode cX8_go 147 = .ok (.getfield 58, 3) := by decide +kernel
theorem dX8_go_150 : decode cX8_go 150 = .ok (.aload_n 0, 1) := by decide +kernel
theorem dX8_go_151 : decode cX8_go 151 = .ok (.getfield 25, 3) := by decide +kernel
theorem dX8_go_154 : decode cX8_go 154 = .ok (.invokestatic 75, 3) := by decide +kernel
theorem dX8_go_157 : decode cX8_go 157 = .ok (.goto 4, 3) := by decide +kernel
theorem dX8_go_160 : decode cX8_go 160 = .ok (.iconst 0, 1) := by decide +kernel
theorem dX8_go_161 : decode cX8_go 161 = .ok (.putfield 85, 3) := by decide +kernel
theorem dX8_go_164 : decode cX8_go 164 = .ok (.aload_n 0, 1) := by decide +kernel
theorem dX8_go_165 : decode cX8_go 165 = .ok (.getfield 36, 3) := by decide +kernel
theorem dX8_go_168 : decode cX8_go 168 = .ok (.ireturn, 1) := by decide +kernel
theorem dX8_widestDepth_0 : decode cX8_widestDepth 0 = .ok (.iconst 1, 1) := by decide +kernel
theorem dX8_widestDepth_1 : decode cX8_widestDepth 1 = .ok (.istore_n 1, 1) := by decide +kernel
theorem dX8_widestDepth_2 : decode cX8_widestDepth 2 = .ok (.iconst 2, 1) := by decide +kernel
theorem dX8_widestDepth_3 : decode cX8_widestDepth 3 = .ok (.istore_n 2, 1) := by decide +kernel
theorem dX8_widestDepth_4 : decode cX8_widestDepth 4 = .ok (.iload_n 2, 1) := by decide +kernel
theorem dX8_widestDepth_5 : decode cX8_widestDepth 5 = .ok (.aload_n 0, 1) := by decide +kernel
theorem dX8_widestDepth_6 : decode cX8_widestDepth 6 = .ok (.getfield 58, 3) := by decide +kernel
theorem dX8_widestDepth_9 : decode cX8_widestDepth 9 = .ok (.if_icmp .gt 26, 3) := by decide +kernel
theorem dX8_widestDepth_12 : decode cX8_widestDepth 12 = .ok (.aload_n 0, 1) := by decide +kernel
theorem dX8_widestDepth_13 : decode cX8_widestDepth 13 = .ok (.getfield 18, 3) := by decide +kernel
theorem dX8_widestDepth_16 : decode cX8_widestDepth 16 = .ok (.iload_n 2, 1) := by decide +kernel
theorem dX8_widestDepth_17 : decode cX8_widestDepth 17 = .ok (.iaload, 1) := by decide +kernel
theorem dX8_widestDepth_18 : decode cX8_widestDepth 18 = .ok (.aload_n 0, 1) := by decide +kernel
theorem dX8_widestDepth_19 : decode cX8_widestDepth 19 = .ok (.getfield 18, 3) := by decide +kernel
theorem dX8_widestDepth_22 : decode cX8_widestDepth 22 = .ok (.iload_n 1, 1) := by decide +kernel
theorem dX8_widestDepth_23 : decode cX8_widestDepth 23 = .ok (.iaload, 1) := by decide +kernel
theorem dX8_widestDepth_24 : decode cX8_widestDepth 24 = .ok (.if_icmp .le 5, 3) := by decide +kernel
theorem dX8_widestDepth_27 : decode cX8_widestDepth 27 = .ok (.iload_n 2, 1) := by decide +kernel
theorem dX8_widestDepth_28 : decode cX8_widestDepth 28 = .ok (.istore_n 1, 1) := by decide +kernel
theorem dX8_widestDepth_29 : decode cX8_widestDepth 29 = .ok (.iinc 2 1, 3) := by decide +kernel
theorem dX8_widestDepth_32 : decode cX8_widestDepth 32 = .ok (.goto (-28), 3) := by decide +kernel
theorem dX8_widestDepth_35 : decode cX8_widestDepth 35 = .ok (.iload_n 1, 1) := by decide +kernel
theorem dX8_widestDepth_36 : decode cX8_widestDepth 36 = .ok (.ireturn, 1) := by decide +kernel
theorem dX8_visit_0 : decode cX8_visit 0 = .ok (.aload_n 0, 1) := by decide +kernel
theorem dX8_visit_1 : decode cX8_visit 1 = .ok (.getfield 55, 3) := by decide +kernel
theorem dX8_visit_4 : decode cX8_visit 4 = .ok (.sipush 20000, 3) := by decide +kernel
theorem dX8_visit_7 : decode cX8_visit 7 = .ok (.if_icmp .ne 10, 3) := by decide +kernel
theorem dX8_visit_10 : decode cX8_visit 10 = .ok (.aload_n 0, 1) := by decide +kernel
theorem dX8_visit_11 : decode cX8_visit 11 = .ok (.bipush (-5), 2) := by decide +kernel
theorem dX8_visit_13 : decode cX8_visit 13 = .ok (.invokevirtual 88, 3) := by decide +kernel
theorem dX8_visit_16 : decode cX8_visit 16 = .ok (.ireturn, 1) := by decide +kernel
theorem dX8_visit_17 : decode cX8_visit 17 = .ok (.iload_n 1, 1) := by decide +kernel
theorem dX8_visit_18 : decode cX8_visit 18 = .ok (.aload_n 0, 1) := by decide +kernel
theorem dX8_visit_19 : decode cX8_visit 19 = .ok (.getfield 61, 3) := by decide +kernel
theorem dX8_visit_22 : decode cX8_visit 22 = .ok (.if_icmp .le 10, 3) := by decide +kernel
theorem dX8_visit_25 : decode cX8_visit 25 = .ok (.aload_n 0, 1) := by decide +kernel
theorem dX8_visit_26 : decode cX8_visit 26 = .ok (.bipush (-6), 2) := by decide +kernel
theorem dX8_visit_28 : decode cX8_visit 28 = .ok (.invokevirtual 88, 3) := by decide +kernel
theorem dX8_visit_31 : decode cX8_visit 31 = .ok (.ireturn, 1) := by decide +kernel
theorem dX8_visit_32 : decode cX8_visit 32 = .ok (.aload_n 0, 1) := by decide +kernel
theorem dX8_visit_33 : decode cX8_visit 33 = .ok (.dup, 1) := by decide +kernel
theorem dX8_visit_34 : decode cX8_visit 34 = .ok (.getfield 55, 3) := by decide +kernel
theorem dX8_visit_37 : decode cX8_visit 37 = .ok (.iconst 1, 1) := by decide +kernel
theorem dX8_visit_38 : decode cX8_visit 38 = .ok (.iadd, 1) := by decide +kernel
theorem dX8_visit_39 : decode cX8_visit 39 = .ok (.putfield 55, 3) := by decide +kernel
theorem dX8_visit_42 : decode cX8_visit 42 = .ok (.iload_n 1, 1) := by decide +kernel
theorem dX8_visit_43 : decode cX8_visit 43 = .ok (.aload_n 0, 1) := by decide +kernel
theorem dX8_visit_44 : decode cX8_visit 44 = .ok (.getfield 58, 3) := by decide +kernel
theorem dX8_visit_47 : decode cX8_visit 47 = .ok (.if_icmp .le 15, 3) := by decide +kernel
theorem dX8_visit_50 : decode cX8_visit 50 = .ok (.aload_n 0, 1) := by decide +kernel
theorem dX8_visit_51 : decode cX8_visit 51 = .ok (.iload_n 1, 1) := by decide +kernel
theorem dX8_visit_52 : decode cX8_visit 52 = .ok (.putfield 58, 3) := by decide +kernel
theorem dX8_visit_55 : decode cX8_visit 55 = .ok (.aload_n 0, 1) := by decide +kernel
theorem dX8_visit_56 : decode cX8_visit 56 = .ok (.getfield 18, 3) := by decide +kernel
theorem dX8_visit_59 : decode cX8_visit 59 = .ok (.iload_n 1, 1) := by decide +kernel
theorem dX8_visit_60 : decode cX8_visit 60 = .ok (.iconst 0, 1) := by decide +kernel
theorem dX8_visit_61 : decode cX8_visit 61 = .ok (.iastore, 1) := by decide +kernel
theorem dX8_visit_62 : decode cX8_visit 62 = .ok (.aload_n 0, 1) := by decide +kernel
theorem dX8_visit_63 : decode cX8_visit 63 = .ok (.getfield 18, 3) := by decide +kernel
theorem dX8_visit_66 : decode cX8_visit 66 = .ok (.iload_n 1, 1) := by decide +kernel
theorem dX8_visit_67 : decode cX8_visit 67 = .ok (.dup2, 1) := by decide +kernel
theorem dX8_visit_68 : decode cX8_visit 68 = .ok (.iaload, 1) := by decide +kernel
theorem dX8_visit_69 : decode cX8_visit 69 = .ok (.iconst 1, 1) := by decide +kernel
theorem dX8_visit_70 : decode cX8_visit 70 = .ok (.iadd, 1) := by decide +kernel
theorem dX8_visit_71 : decode cX8_visit 71 = .ok (.iastore, 1) := by decide +kernel
theorem dX8_visit_72 : decode cX8_visit 72 = .ok (.aload_n 0, 1) := by decide +kernel
theorem dX8_visit_73 : decode cX8_visit 73 = .ok (.getfield 9, 3) := by decide +kernel
theorem dX8_visit_76 : decode cX8_visit 76 = .ok (.iload_n 1, 1) := by decide +kernel
theorem dX8_visit_77 : decode cX8_visit 77 = .ok (.iload_n 2, 1) := by decide +kernel
theorem dX8_visit_78 : decode cX8_visit 78 = .ok (.iastore, 1) := by decide +kernel
theorem dX8_visit_79 : decode cX8_visit 79 = .ok (.aload_n 0, 1) := by decide +kernel
theorem dX8_visit_80 : decode cX8_visit 80 = .ok (.getfield 15, 3) := by decide +kernel
theorem dX8_visit_83 : decode cX8_visit 83 = .ok (.iload_n 1, 1) := by decide +kernel
theorem dX8_visit_84 : decode cX8_visit 84 = .ok (.iconst 0, 1) := by decide +kernel
theorem dX8_visit_85 : decode cX8_visit 85 = .ok (.iastore, 1) := by decide +kernel
theorem dX8_visit_86 : decode cX8_visit 86 = .ok (.aload_n 0, 1) := by decide +kernel
theorem dX8_visit_87 : decode cX8_visit 87 = .ok (.getfield 32, 3) := by decide +kernel
theorem dX8_visit_90 : decode cX8_visit 90 = .ok (.iload_n 1, 1) := by decide +kernel
theorem dX8_visit_91 : decode cX8_visit 91 = .ok (.iload_n 2, 1) := by decide +kernel
theorem dX8_visit_92 : decode cX8_visit 92 = .ok (.invokevirtual 91, 3) := by decide +kernel
theorem dX8_visit_95 : decode cX8_visit 95 = .ok (.aload_n 0, 1) := by decide +kernel
theorem dX8_visit_96 : decode cX8_visit 96 = .ok (.getfield 32, 3) := by decide +kernel
theorem dX8_visit_99 : decode cX8_visit 99 = .ok (.getfield 49, 3) := by decide +kernel
theorem dX8_visit_102 : decode cX8_visit 102 = .ok (.ifCond .ne 7, 3) := by decide +kernel
theorem dX8_visit_105 : decode cX8_visit 105 = .ok (.iconst 1, 1) := by decide +kernel
theorem dX8_visit_106 : decode cX8_visit 106 = .ok (.goto 4, 3) := by decide +kernel
theorem dX8_visit_109 : decode cX8_visit 109 = .ok (.iconst 0, 1) := by decide +kernel
theorem dX8_visit_110 : decode cX8_visit 110 = .ok (.ireturn, 1) := by decide +kernel
theorem dX8_halt_0 : decode cX8_halt 0 = .ok (.aload_n 0, 1) := by decide +kernel
theorem dX8_halt_1 : decode cX8_halt 1 = .ok (.iload_n 1, 1) := by decide +kernel
theorem dX8_halt_2 : decode cX8_halt 2 = .ok (.putfield 36, 3) := by decide +kernel
theorem dX8_halt_5 : decode cX8_halt 5 = .ok (.aload_n 0, 1) := by decide +kernel
theorem dX8_halt_6 : decode cX8_halt 6 = .ok (.getfield 32, 3) := by decide +kernel
theorem dX8_halt_9 : decode cX8_halt 9 = .ok (.iconst 1, 1) := by decide +kernel
theorem dX8_halt_10 : decode cX8_halt 10 = .ok (.putfield 49, 3) := by decide +kernel
theorem dX8_halt_13 : decode cX8_halt 13 = .ok (.iconst 0, 1) := by decide +kernel
theorem dX8_halt_14 : decode cX8_halt 14 = .ok (.ireturn, 1) := by decide +kernel
theorem dX8_nextPart_0 : decode cX8_nextPart 0 = .ok (.aload_n 0, 1) := by decide +kernel
theorem dX8_nextPart_1 : decode cX8_nextPart 1 = .ok (.getfield 9, 3) := by decide +kernel
theorem dX8_nextPart_4 : decode cX8_nextPart 4 = .ok (.iload_n 1, 1) := by decide +kernel
theorem dX8_nextPart_5 : decode cX8_nextPart 5 = .ok (.iaload, 1) := by decide +kernel
theorem dX8_nextPart_6 : decode cX8_nextPart 6 = .ok (.istore_n 2, 1) := by decide +kernel
theorem dX8_nextPart_7 : decode cX8_nextPart 7 = .ok (.aload_n 0, 1) := by decide +kernel
theorem dX8_nextPart_8 : decode cX8_nextPart 8 = .ok (.getfield 15, 3) := by decide +kernel
theorem dX8_nextPart_11 : decode cX8_nextPart 11 = .ok (.iload_n 1, 1) := by decide +kernel
theorem dX8_nextPart_12 : decode cX8_nextPart 12 = .ok (.iaload, 1) := by decide +kernel
theorem dX8_nextPart_13 : decode cX8_nextPart 13 = .ok (.istore_n 3, 1) := by decide +kernel
theorem dX8_nextPart_14 : decode cX8_nextPart 14 = .ok (.iload_n 3, 1) := by decide +kernel
theorem dX8_nextPart_15 : decode cX8_nextPart 15 = .ok (.aload_n 0, 1) := by decide +kernel
theorem dX8_nextPart_16 : decode cX8_nextPart 16 = .ok (.getfield 28, 3) := by decide +kernel
theorem dX8_nextPart_19 : decode cX8_nextPart 19 = .ok (.iload_n 2, 1) := by decide +kernel
theorem dX8_nextPart_20 : decode cX8_nextPart 20 = .ok (.invokevirtual 94, 3) := by decide +kernel
theorem dX8_nextPart_23 : decode cX8_nextPart 23 = .ok (.if_icmp .lt 5, 3) := by decide +kernel
theorem dX8_nextPart_26 : decode cX8_nextPart 26 = .ok (.iconst (-1), 1) := by decide +kernel
theorem dX8_nextPart_27 : decode cX8_nextPart 27 = .ok (.ireturn, 1) := by decide +kernel
theorem dX8_nextPart_28 : decode cX8_nextPart 28 = .ok (.aload_n 0, 1) := by decide +kernel
theorem dX8_nextPart_29 : decode cX8_nextPart 29 = .ok (.getfield 15, 3) := by decide +kernel
theorem dX8_nextPart_32 : decode cX8_nextPart 32 = .ok (.iload_n 1, 1) := by decide +kernel
theorem dX8_nextPart_33 : decode cX8_nextPart 33 = .ok (.iload_n 3, 1) := by decide +kernel
theorem dX8_nextPart_34 : decode cX8_nextPart 34 = .ok (.iconst 1, 1) := by decide +kernel
theorem dX8_nextPart_35 : decode cX8_nextPart 35 = .ok (.iadd, 1) := by decide +kernel
theorem dX8_nextPart_36 : decode cX8_nextPart 36 = .ok (.iastore, 1) := by decide +kernel
theorem dX8_nextPart_37 : decode cX8_nextPart 37 = .ok (.aload_n 0, 1) := by decide +kernel
theorem dX8_nextPart_38 : decode cX8_nextPart 38 = .ok (.getfield 32, 3) := by decide +kernel
theorem dX8_nextPart_41 : decode cX8_nextPart 41 = .ok (.iload_n 1, 1) := by decide +kernel
theorem dX8_nextPart_42 : decode cX8_nextPart 42 = .ok (.iload_n 2, 1) := by decide +kernel
theorem dX8_nextPart_43 : decode cX8_nextPart 43 = .ok (.iload_n 3, 1) := by decide +kernel
theorem dX8_nextPart_44 : decode cX8_nextPart 44 = .ok (.invokevirtual 98, 3) := by decide +kernel
theorem dX8_nextPart_47 : decode cX8_nextPart 47 = .ok (.ireturn, 1) := by decide +kernel
theorem dX8_byCalls_0 : decode cX8_byCalls 0 = .ok (.iconst 0, 1) := by decide +kernel
theorem dX8_byCalls_1 : decode cX8_byCalls 1 = .ok (.istore_n 3, 1) := by decide +kernel
theorem dX8_byCalls_2 : decode cX8_byCalls 2 = .ok (.iload_n 3, 1) := by decide +kernel
theorem dX8_byCalls_3 : decode cX8_byCalls 3 = .ok (.sipush 4000, 3) := by decide +kernel
theorem dX8_byCalls_6 : decode cX8_byCalls 6 = .ok (.if_icmp .ge 94, 3) := by decide +kernel
theorem dX8_byCalls_9 : decode cX8_byCalls 9 = .ok (.aload_n 0, 1) := by decide +kernel
theorem dX8_byCalls_10 : decode cX8_byCalls 10 = .ok (.iload_n 1, 1) := by decide +kernel
theorem dX8_byCalls_11 : decode cX8_byCalls 11 = .ok (.invokevirtual 102, 3) := by decide +kernel
theorem dX8_byCalls_14 : decode cX8_byCalls 14 = .ok (.istore 4, 2) := by decide +kernel
theorem dX8_byCalls_16 : decode cX8_byCalls 16 = .ok (.iload 4, 2) := by decide +kernel
theorem dX8_byCalls_18 : decode cX8_byCalls 18 = .ok (.iconst (-1), 1) := by decide +kernel
theorem dX8_byCalls_19 : decode cX8_byCalls 19 = .ok (.if_icmp .ne 6, 3) := by decide +kernel
theorem dX8_byCalls_22 : decode cX8_byCalls 22 = .ok (.goto 78, 3) := by decide +kernel
theorem dX8_byCalls_25 : decode cX8_byCalls 25 = .ok (.aload_n 0, 1) := by decide +kernel
theorem dX8_byCalls_26 : decode cX8_byCalls 26 = .ok (.iload_n 1, 1) := by decide +kernel
theorem dX8_byCalls_27 : decode cX8_byCalls 27 = .ok (.iconst 1, 1) := by decide +kernel
theorem dX8_byCalls_28 : decode cX8_byCalls 28 = .ok (.iadd, 1) := by decide +kernel
theorem dX8_byCalls_29 : decode cX8_byCalls 29 = .ok (.iload 4, 2) := by decide +kernel
theorem dX8_byCalls_31 : decode cX8_byCalls 31 = .ok (.invokevirtual 64, 3) := by decide +kernel
theorem dX8_byCalls_34 : decode cX8_byCalls 34 = .ok (.ifCond .ne 4, 3) := by decide +kernel
theorem dX8_byCalls_37 : decode cX8_byCalls 37 = .ok (.return_, 1) := by decide +kernel
theorem dX8_byCalls_38 : decode cX8_byCalls 38 = .ok (.iload_n 1, 1) := by decide +kernel
theorem dX8_byCalls_39 : decode cX8_byCalls 39 = .ok (.iload_n 2, 1) := by decide +kernel
theorem dX8_byCalls_40 : decode cX8_byCalls 40 = .ok (.if_icmp .ge 14, 3) := by decide +kernel
theorem dX8_byCalls_43 : decode cX8_byCalls 43 = .ok (.aload_n 0, 1) := by decide +kernel
theorem dX8_byCalls_44 : decode cX8_byCalls 44 = .ok (.iload_n 1, 1) := by decide +kernel
theorem dX8_byCalls_45 : decode cX8_byCalls 45 = .ok (.iconst 1, 1) := by decide +kernel
theorem dX8_byCalls_46 : decode cX8_byCalls 46 = .ok (.iadd, 1) := by decide +kernel
theorem dX8_byCalls_47 : decode cX8_byCalls 47 = .ok (.iload_n 2, 1) := by decide +kernel
theorem dX8_byCalls_48 : decode cX8_byCalls 48 = .ok (.invokevirtual 81, 3) := by decide +kernel
theorem dX8_byCalls_51 : decode cX8_byCalls 51 = .ok (.goto 10, 3) := by decide +kernel
theorem dX8_byCalls_54 : decode cX8_byCalls 54 = .ok (.aload_n 0, 1) := by decide +kernel
theorem dX8_byCalls_55 : decode cX8_byCalls 55 = .ok (.iload_n 1, 1) := by decide +kernel
theorem dX8_byCalls_56 : decode cX8_byCalls 56 = .ok (.iconst 1, 1) := by decide +kernel
theorem dX8_byCalls_57 : decode cX8_byCalls 57 = .ok (.iadd, 1) := by decide +kernel
theorem dX8_byCalls_58 : decode cX8_byCalls 58 = .ok (.invokevirtual 68, 3) := by decide +kernel
theorem dX8_byCalls_61 : decode cX8_byCalls 61 = .ok (.aload_n 0, 1) := by decide +kernel
theorem dX8_byCalls_62 : decode cX8_byCalls 62 = .ok (.getfield 32, 3) := by decide +kernel
theorem dX8_byCalls_65 : decode cX8_byCalls 65 = .ok (.getfield 49, 3) := by decide +kernel
theorem dX8_byCalls_68 : decode cX8_byCalls 68 = .ok (.ifCond .eq 4, 3) := by decide +kernel
theorem dX8_byCalls_71 : decode cX8_byCalls 71 = .ok (.return_, 1) := by decide +kernel
theorem dX8_byCalls_72 : decode cX8_byCalls 72 = .ok (.aload_n 0, 1) := by decide +kernel
theorem dX8_byCalls_73 : decode cX8_byCalls 73 = .ok (.getfield 32, 3) := by decide +kernel
theorem dX8_byCalls_76 : decode cX8_byCalls 76 = .ok (.iload_n 1, 1) := by decide +kernel
theorem dX8_byCalls_77 : decode cX8_byCalls 77 = .ok (.aload_n 0, 1) := by decide +kernel
theorem dX8_byCalls_78 : decode cX8_byCalls 78 = .ok (.getfield 9, 3) := by decide +kernel
theorem dX8_byCalls_81 : decode cX8_byCalls 81 = .ok (.iload_n 1, 1) := by decide +kernel
theorem dX8_byCalls_82 : decode cX8_byCalls 82 = .ok (.iaload, 1) := by decide +kernel
theorem dX8_byCalls_83 : decode cX8_byCalls 83 = .ok (.aload_n 0, 1) := by decide +kernel
theorem dX8_byCalls_84 : decode cX8_byCalls 84 = .ok (.getfield 15, 3) := by decide +kernel
theorem dX8_byCalls_87 : decode cX8_byCalls 87 = .ok (.iload_n 1, 1) := by decide +kernel
theorem dX8_byCalls_88 : decode cX8_byCalls 88 = .ok (.iaload, 1) := by decide +kernel
theorem dX8_byCalls_89 : decode cX8_byCalls 89 = .ok (.iconst 1, 1) := by decide +kernel
theorem dX8_byCalls_90 : decode cX8_byCalls 90 = .ok (.isub, 1) := by decide +kernel
theorem dX8_byCalls_91 : decode cX8_byCalls 91 = .ok (.invokevirtual 105, 3) := by decide +kernel
theorem dX8_byCalls_94 : decode cX8_byCalls 94 = .ok (.iinc 3 1, 3) := by decide +kernel
theorem dX8_byCalls_97 : decode cX8_byCalls 97 = .ok (.goto (-95), 3) := by decide +kernel
theorem dX8_byCalls_100 : decode cX8_byCalls 100 = .ok (.aload_n 0, 1) := by decide +kernel
theorem dX8_byCalls_101 : decode cX8_byCalls 101 = .ok (.getfield 32, 3) := by decide +kernel
theorem dX8_byCalls_104 : decode cX8_byCalls 104 = .ok (.iload_n 1, 1) := by decide +kernel
theorem dX8_byCalls_105 : decode cX8_byCalls 105 = .ok (.aload_n 0, 1) := by decide +kernel
theorem dX8_byCalls_106 : decode cX8_byCalls 106 = .ok (.getfield 9, 3) := by decide +kernel
theorem dX8_byCalls_109 : decode cX8_byCalls 109 = .ok (.iload_n 1, 1) := by decide +kernel
theorem dX8_byCalls_110 : decode cX8_byCalls 110 = .ok (.iaload, 1) := by decide +kernel
theorem dX8_byCalls_111 : decode cX8_byCalls 111 = .ok (.invokevirtual 109, 3) := by decide +kernel
theorem dX8_byCalls_114 : decode cX8_byCalls 114 = .ok (.return_, 1) := by decide +kernel
theorem dX8_byStack_0 : decode cX8_byStack 0 = .ok (.iload_n 1, 1) := by decide +kernel
theorem dX8_byStack_1 : decode cX8_byStack 1 = .ok (.istore_n 2, 1) := by decide +kernel
theorem dX8_byStack_2 : decode cX8_byStack 2 = .ok (.iconst 0, 1) := by decide +kernel
theorem dX8_byStack_3 : decode cX8_byStack 3 = .ok (.istore_n 3, 1) := by decide +kernel
theorem dX8_byStack_4 : decode cX8_byStack 4 = .ok (.iload_n 3, 1) := by decide +kernel
theorem dX8_byStack_5 : decode cX8_byStack 5 = .ok (.ldc 112, 2) := by decide +kernel
theorem dX8_byStack_7 : decode cX8_byStack 7 = .ok (.if_icmp .ge 95, 3) := by decide +kernel
theorem dX8_byStack_10 : decode cX8_byStack 10 = .ok (.iload_n 2, 1) := by decide +kernel
theorem dX8_byStack_11 : decode cX8_byStack 11 = .ok (.iload_n 1, 1) := by decide +kernel
theorem dX8_byStack_12 : decode cX8_byStack 12 = .ok (.if_icmp .lt 90, 3) := by decide +kernel
theorem dX8_byStack_15 : decode cX8_byStack 15 = .ok (.aload_n 0, 1) := by decide +kernel
theorem dX8_byStack_16 : decode cX8_byStack 16 = .ok (.getfield 32, 3) := by decide +kernel
theorem dX8_byStack_19 : decode cX8_byStack 19 = .ok (.getfield 49, 3) := by decide +kernel
theorem dX8_byStack_22 : decode cX8_byStack 22 = .ok (.ifCond .ne 80, 3) := by decide +kernel
theorem dX8_byStack_25 : decode cX8_byStack 25 = .ok (.aload_n 0, 1) := by decide +kernel
theorem dX8_byStack_26 : decode cX8_byStack 26 = .ok (.iload_n 2, 1) := by decide +kernel
theorem dX8_byStack_27 : decode cX8_byStack 27 = .ok (.invokevirtual 102, 3) := by decide +kernel
theorem dX8_byStack_30 : decode cX8_byStack 30 = .ok (.istore 4, 2) := by decide +kernel
theorem dX8_byStack_32 : decode cX8_byStack 32 = .ok (.iload 4, 2) := by decide +kernel
theorem dX8_byStack_34 : decode cX8_byStack 34 = .ok (.iconst (-1), 1) := by decide +kernel
theorem dX8_byStack_35 : decode cX8_byStack 35 = .ok (.if_icmp .eq 17, 3) := by decide +kernel
theorem dX8_byStack_38 : decode cX8_byStack 38 = .ok (.iinc 2 1, 3) := by decide +kernel
theorem dX8_byStack_41 : decode cX8_byStack 41 = .ok (.aload_n 0, 1) := by decide +kernel
theorem dX8_byStack_42 : decode cX8_byStack 42 = .ok (.iload_n 2, 1) := by decide +kernel
theorem dX8_byStack_43 : decode cX8_byStack 43 = .ok (.iload 4, 2) := by decide +kernel
theorem dX8_byStack_45 : decode cX8_byStack 45 = .ok (.invokevirtual 64, 3) := by decide +kernel
theorem dX8_byStack_48 : decode cX8_byStack 48 = .ok (.pop, 1) := by decide +kernel
theorem dX8_byStack_49 : decode cX8_byStack 49 = .ok (.goto 47, 3) := by decide +kernel
theorem dX8_byStack_52 : decode cX8_byStack 52 = .ok (.aload_n 0, 1) := by decide +kernel
theorem dX8_byStack_53 : decode cX8_byStack 53 = .ok (.getfield 32, 3) := by decide +kernel
theorem dX8_byStack_56 : decode cX8_byStack 56 = .ok (.iload_n 2, 1) := by decide +kernel
theorem dX8_byStack_57 : decode cX8_byStack 57 = .ok (.aload_n 0, 1) := by decide +kernel
theorem dX8_byStack_58 : decode cX8_byStack 58 = .ok (.getfield 9, 3) := by decide +kernel
theorem dX8_byStack_61 : decode cX8_byStack 61 = .ok (.iload_n 2, 1) := by decide +kernel
theorem dX8_byStack_62 : decode cX8_byStack 62 = .ok (.iaload, 1) := by decide +kernel
theorem dX8_byStack_63 : decode cX8_byStack 63 = .ok (.invokevirtual 109, 3) := by decide +kernel
theorem dX8_byStack_66 : decode cX8_byStack 66 = .ok (.iinc 2 (-1), 3) := by decide +kernel
theorem dX8_byStack_69 : decode cX8_byStack 69 = .ok (.iload_n 2, 1) := by decide +kernel
theorem dX8_byStack_70 : decode cX8_byStack 70 = .ok (.iload_n 1, 1) := by decide +kernel
theorem dX8_byStack_71 : decode cX8_byStack 71 = .ok (.if_icmp .lt 25, 3) := by decide +kernel
theorem dX8_byStack_74 : decode cX8_byStack 74 = .ok (.aload_n 0, 1) := by decide +kernel
theorem dX8_byStack_75 : decode cX8_byStack 75 = .ok (.getfield 32, 3) := by decide +kernel
theorem dX8_byStack_78 : decode cX8_byStack 78 = .ok (.iload_n 2, 1) := by decide +kernel
theorem dX8_byStack_79 : decode cX8_byStack 79 = .ok (.aload_n 0, 1) := by decide +kernel
theorem dX8_byStack_80 : decode cX8_byStack 80 = .ok (.getfield 9, 3) := by decide +kernel
theorem dX8_byStack_83 : decode cX8_byStack 83 = .ok (.iload_n 2, 1) := by decide +kernel
theorem dX8_byStack_84 : decode cX8_byStack 84 = .ok (.iaload, 1) := by decide +kernel
theorem dX8_byStack_85 : decode cX8_byStack 85 = .ok (.aload_n 0, 1) := by decide +kernel
theorem dX8_byStack_86 : decode cX8_byStack 86 = .ok (.getfield 15, 3) := by decide +kernel
theorem dX8_byStack_89 : decode cX8_byStack 89 = .ok (.iload_n 2, 1) := by decide +kernel
theorem dX8_byStack_90 : decode cX8_byStack 90 = .ok (.iaload, 1) := by decide +kernel
theorem dX8_byStack_91 : decode cX8_byStack 91 = .ok (.iconst 1, 1) := by decide +kernel
theorem dX8_byStack_92 : decode cX8_byStack 92 = .ok (.isub, 1) := by decide +kernel
theorem dX8_byStack_93 : decode cX8_byStack 93 = .ok (.invokevirtual 105, 3) := by decide +kernel
theorem dX8_byStack_96 : decode cX8_byStack 96 = .ok (.iinc 3 1, 3) := by decide +kernel
theorem dX8_byStack_99 : decode cX8_byStack 99 = .ok (.goto (-95), 3) := by decide +kernel
theorem dX8_byStack_102 : decode cX8_byStack 102 = .ok (.return_, 1) := by decide +kernel
theorem dX8_bySteps_0 : decode cX8_bySteps 0 = .ok (.aload_n 0, 1) := by decide +kernel
theorem dX8_bySteps_1 : decode cX8_bySteps 1 = .ok (.iconst 1, 1) := by decide +kernel
theorem dX8_bySteps_2 : decode cX8_bySteps 2 = .ok (.putfield 113, 3) := by decide +kernel
theorem dX8_bySteps_5 : decode cX8_bySteps 5 = .ok (.iconst 0, 1) := by decide +kernel
theorem dX8_bySteps_6 : decode cX8_bySteps 6 = .ok (.istore_n 1, 1) := by decide +kernel
theorem dX8_bySteps_7 : decode cX8_bySteps 7 = .ok (.iconst 0, 1) := by decide +kernel
theorem dX8_bySteps_8 : decode cX8_bySteps 8 = .ok (.istore_n 2, 1) := by decide +kernel
theorem dX8_bySteps_9 : decode cX8_bySteps 9 = .ok (.iload_n 2, 1) := by decide +kernel
theorem dX8_bySteps_10 : decode cX8_bySteps 10 = .ok (.ldc 112, 2) := by decide +kernel
theorem dX8_bySteps_12 : decode cX8_bySteps 12 = .ok (.if_icmp .ge 30, 3) := by decide +kernel
theorem dX8_bySteps_15 : decode cX8_bySteps 15 = .ok (.iload_n 1, 1) := by decide +kernel
theorem dX8_bySteps_16 : decode cX8_bySteps 16 = .ok (.iconst 4, 1) := by decide +kernel
theorem dX8_bySteps_17 : decode cX8_bySteps 17 = .ok (.if_icmp .eq 25, 3) := by decide +kernel
theorem dX8_bySteps_20 : decode cX8_bySteps 20 = .ok (.aload_n 0, 1) := by decide +kernel
theorem dX8_bySteps_21 : decode cX8_bySteps 21 = .ok (.getfield 32, 3) := by decide +kernel
theorem dX8_bySteps_24 : decode cX8_bySteps 24 = .ok (.getfield 49, 3) := by decide +kernel
theorem dX8_bySteps_27 : decode cX8_bySteps 27 = .ok (.ifCond .ne 15, 3) := by decide +kernel
theorem dX8_bySteps_30 : decode cX8_bySteps 30 = .ok (.aload_n 0, 1) := by decide +kernel
theorem dX8_bySteps_31 : decode cX8_bySteps 31 = .ok (.iload_n 1, 1) := by decide +kernel
theorem dX8_bySteps_32 : decode cX8_bySteps 32 = .ok (.invokevirtual 116, 3) := by decide +kernel
theorem dX8_bySteps_35 : decode cX8_bySteps 35 = .ok (.istore_n 1, 1) := by decide +kernel
theorem dX8_bySteps_36 : decode cX8_bySteps 36 = .ok (.iinc 2 1, 3) := by decide +kernel
theorem dX8_bySteps_39 : decode cX8_bySteps 39 = .ok (.goto (-30), 3) := by decide +kernel
theorem dX8_bySteps_42 : decode cX8_bySteps 42 = .ok (.return_, 1) := by decide +kernel
theorem dX8_take_0 : decode cX8_take 0 = .ok (.iload_n 1, 1) := by decide +kernel
theorem dX8_take_1 : decode cX8_take 1 = .ok (.tableswitch 158 0 3 #[31, 57, 82, 125], 31) := by decide +kernel
theorem dX8_take_32 : decode cX8_take 32 = .ok (.aload_n 0, 1) := by decide +kernel
theorem dX8_take_33 : decode cX8_take 33 = .ok (.aload_n 0, 1) := by decide +kernel
theorem dX8_take_34 : decode cX8_take 34 = .ok (.aload_n 0, 1) := by decide +kernel
theorem dX8_take_35 : decode cX8_take 35 = .ok (.getfield 113, 3) := by decide +kernel
theorem dX8_take_38 : decode cX8_take 38 = .ok (.invokevirtual 102, 3) := by decide +kernel
theorem dX8_take_41 : decode cX8_take 41 = .ok (.putfield 119, 3) := by decide +kernel
theorem dX8_take_44 : decode cX8_take 44 = .ok (.aload_n 0, 1) := by decide +kernel
theorem dX8_take_45 : decode cX8_take 45 = .ok (.getfield 119, 3) := by decide +kernel
theorem dX8_take_48 : decode cX8_take 48 = .ok (.iconst (-1), 1) := by decide +kernel
theorem dX8_take_49 : decode cX8_take 49 = .ok (.if_icmp .ne 7, 3) := by decide +kernel
theorem dX8_take_52 : decode cX8_take 52 = .ok (.iconst 2, 1) := by decide +kernel
theorem dX8_take_53 : decode cX8_take 53 = .ok (.goto 4, 3) := by decide +kernel
theorem dX8_take_56 : decode cX8_take 56 = .ok (.iconst 1, 1) := by decide +kernel
theorem dX8_take_57 : decode cX8_take 57 = .ok (.ireturn, 1) := by decide +kernel
theorem dX8_take_58 : decode cX8_take 58 = .ok (.aload_n 0, 1) := by decide +kernel
theorem dX8_take_59 : decode cX8_take 59 = .ok (.dup, 1) := by decide +kernel
theorem dX8_take_60 : decode cX8_take 60 = .ok (.getfield 113, 3) := by decide +kernel
theorem dX8_take_63 : decode cX8_take 63 = .ok (.iconst 1, 1) := by decide +kernel
theorem dX8_take_64 : decode cX8_take 64 = .ok (.iadd, 1) := by decide +kernel
theorem dX8_take_65 : decode cX8_take 65 = .ok (.putfield 113, 3) := by decide +kernel
theorem dX8_take_68 : decode cX8_take 68 = .ok (.aload_n 0, 1) := by decide +kernel
theorem dX8_take_69 : decode cX8_take 69 = .ok (.aload_n 0, 1) := by decide +kernel
theorem dX8_take_70 : decode cX8_take 70 = .ok (.getfield 113, 3) := by decide +kernel
theorem dX8_take_73 : decode cX8_take 73 = .ok (.aload_n 0, 1) := by decide +kernel
theorem dX8_take_74 : decode cX8_take 74 = .ok (.getfield 119, 3) := by decide +kernel
theorem dX8_take_77 : decode cX8_take 77 = .ok (.invokevirtual 64, 3) := by decide +kernel
theorem dX8_take_80 : decode cX8_take 80 = .ok (.pop, 1) := by decide +kernel
theorem dX8_take_81 : decode cX8_take 81 = .ok (.iconst 0, 1) := by decide +kernel
theorem dX8_take_82 : decode cX8_take 82 = .ok (.ireturn, 1) := by decide +kernel
theorem dX8_take_83 : decode cX8_take 83 = .ok (.aload_n 0, 1) := by decide +kernel
theorem dX8_take_84 : decode cX8_take 84 = .ok (.getfield 32, 3) := by decide +kernel
theorem dX8_take_87 : decode cX8_take 87 = .ok (.aload_n 0, 1) := by decide +kernel
theorem dX8_take_88 : decode cX8_take 88 = .ok (.getfield 113, 3) := by decide +kernel
theorem dX8_take_91 : decode cX8_take 91 = .ok (.aload_n 0, 1) := by decide +kernel
theorem dX8_take_92 : decode cX8_take 92 = .ok (.getfield 9, 3) := by decide +kernel
theorem dX8_take_95 : decode cX8_take 95 = .ok (.aload_n 0, 1) := by decide +kernel
theorem dX8_take_96 : decode cX8_take 96 = .ok (.getfield 113, 3) := by decide +kernel
theorem dX8_take_99 : decode cX8_take 99 = .ok (.iaload, 1) := by decide +kernel
theorem dX8_take_100 : decode cX8_take 100 = .ok (.invokevirtual 109, 3) := by decide +kernel
theorem dX8_take_103 : decode cX8_take 103 = .ok (.aload_n 0, 1) := by decide +kernel
theorem dX8_take_104 : decode cX8_take 104 = .ok (.dup, 1) := by decide +kernel
theorem dX8_take_105 : decode cX8_take 105 = .ok (.getfield 113, 3) := by decide +kernel
theorem dX8_take_108 : decode cX8_take 108 = .ok (.iconst 1, 1) := by decide +kernel
theorem dX8_take_109 : decode cX8_take 109 = .ok (.isub, 1) := by decide +kernel
theorem dX8_take_110 : decode cX8_take 110 = .ok (.putfield 113, 3) := by decide +kernel
theorem dX8_take_113 : decode cX8_take 113 = .ok (.aload_n 0, 1) := by decide +kernel
theorem dX8_take_114 : decode cX8_take 114 = .ok (.getfield 113, 3) := by decide +kernel
theorem dX8_take_117 : decode cX8_take 117 = .ok (.ifCond .ne 7, 3) := by decide +kernel
theorem dX8_take_120 : decode cX8_take 120 = .ok (.iconst 4, 1) := by decide +kernel
theorem dX8_take_121 : decode cX8_take 121 = .ok (.goto 4, 3) := by decide +kernel
theorem dX8_take_124 : decode cX8_take 124 = .ok (.iconst 3, 1) := by decide +kernel
theorem dX8_take_125 : decode cX8_take 125 = .ok (.ireturn, 1) := by decide +kernel
theorem dX8_take_126 : decode cX8_take 126 = .ok (.aload_n 0, 1) := by decide +kernel
theorem dX8_take_127 : decode cX8_take 127 = .ok (.getfield 32, 3) := by decide +kernel
theorem dX8_take_130 : decode cX8_take 130 = .ok (.aload_n 0, 1) := by decide +kernel
theorem dX8_take_131 : decode cX8_take 131 = .ok (.getfield 113, 3) := by decide +kernel
theorem dX8_take_134 : decode cX8_take 134 = .ok (.aload_n 0, 1) := by decide +kernel
theorem dX8_take_135 : decode cX8_take 135 = .ok (.getfield 9, 3) := by decide +kernel
theorem dX8_take_138 : decode cX8_take 138 = .ok (.aload_n 0, 1) := by decide +kernel
theorem dX8_take_139 : decode cX8_take 139 = .ok (.getfield 113, 3) := by decide +kernel
theorem dX8_take_142 : decode cX8_take 142 = .ok (.iaload, 1) := by decide +kernel
theorem dX8_take_143 : decode cX8_take 143 = .ok (.aload_n 0, 1) := by decide +kernel
theorem dX8_take_144 : decode cX8_take 144 = .ok (.getfield 15, 3) := by decide +kernel
theorem dX8_take_147 : decode cX8_take 147 = .ok (.aload_n 0, 1) := by decide +kernel
theorem dX8_take_148 : decode cX8_take 148 = .ok (.getfield 113, 3) := by decide +kernel
theorem dX8_take_151 : decode cX8_take 151 = .ok (.iaload, 1) := by decide +kernel
theorem dX8_take_152 : decode cX8_take 152 = .ok (.iconst 1, 1) := by decide +kernel
theorem dX8_take_153 : decode cX8_take 153 = .ok (.isub, 1) := by decide +kernel
theorem dX8_take_154 : decode cX8_take 154 = .ok (.invokevirtual 105, 3) := by decide +kernel
theorem dX8_take_157 : decode cX8_take 157 = .ok (.iconst 0, 1) := by decide +kernel
theorem dX8_take_158 : decode cX8_take 158 = .ok (.ireturn, 1) := by decide +kernel
theorem dX8_take_159 : decode cX8_take 159 = .ok (.iconst 4, 1) := by decide +kernel
theorem dX8_take_160 : decode cX8_take 160 = .ok (.ireturn, 1) := by decide +kernel
theorem dX9_init_0 : decode cX9_init 0 = .ok (.aload_n 0, 1) := by decide +kernel
theorem dX9_init_1 : decode cX9_init 1 = .ok (.aload_n 1, 1) := by decide +kernel
theorem dX9_init_2 : decode cX9_init 2 = .ok (.invokespecial 3, 3) := by decide +kernel
theorem dX9_init_5 : decode cX9_init 5 = .ok (.aload_n 0, 1) := by decide +kernel
theorem dX9_init_6 : decode cX9_init 6 = .ok (.sipush 1502, 3) := by decide +kernel
theorem dX9_init_9 : decode cX9_init 9 = .ok (.newarray .long, 2) := by decide +kernel
theorem dX9_init_11 : decode cX9_init 11 = .ok (.putfield 9, 3) := by decide +kernel
theorem dX9_init_14 : decode cX9_init 14 = .ok (.aload_n 0, 1) := by decide +kernel
theorem dX9_init_15 : decode cX9_init 15 = .ok (.aload_n 2, 1) := by decide +kernel
theorem dX9_init_16 : decode cX9_init 16 = .ok (.putfield 15, 3) := by decide +kernel
theorem dX9_init_19 : decode cX9_init 19 = .ok (.return_, 1) := by decide +kernel
theorem dX9_enter_0 : decode cX9_enter 0 = .ok (.aload_n 0, 1) := by decide +kernel
theorem dX9_enter_1 : decode cX9_enter 1 = .ok (.getfield 18, 3) := by decide +kernel
theorem dX9_enter_4 : decode cX9_enter 4 = .ok (.getfield 22, 3) := by decide +kernel
theorem dX9_enter_7 : decode cX9_enter 7 = .ok (.iload_n 2, 1) := by decide +kernel
theorem dX9_enter_8 : decode cX9_enter 8 = .ok (.iaload, 1) := by decide +kernel
theorem dX9_enter_9 : decode cX9_enter 9 = .ok (.istore_n 3, 1) := by decide +kernel
theorem dX9_enter_10 : decode cX9_enter 10 = .ok (.aload_n 0, 1) := by decide +kernel
theorem dX9_enter_11 : decode cX9_enter 11 = .ok (.getfield 18, 3) := by decide +kernel
theorem dX9_enter_14 : decode cX9_enter 14 = .ok (.getfield 28, 3) := by decide +kernel
theorem dX9_enter_17 : decode cX9_enter 17 = .ok (.iload_n 2, 1) := by decide +kernel
theorem dX9_enter_18 : decode cX9_enter 18 = .ok (.iaload, 1) := by decide +kernel
theorem dX9_enter_19 : decode cX9_enter 19 = .ok (.lookupswitch 74 #[(6, 33), (9, 43), (11, 53)], 33) := by decide +kernel
theorem dX9_enter_52 : decode cX9_enter 52 = .ok (.aload_n 0, 1) := by decide +kernel
theorem dX9_enter_53 : decode cX9_enter 53 = .ok (.getfield 15, 3) := by decide +kernel
theorem dX9_enter_56 : decode cX9_enter 56 = .ok (.iload_n 1, 1) := by decide +kernel
theorem dX9_enter_57 : decode cX9_enter 57 = .ok (.lconst 0, 1) := by decide +kernel
theorem dX9_enter_58 : decode cX9_enter 58 = .ok (.lastore, 1) := by decide +kernel
theorem dX9_enter_59 : decode cX9_enter 59 = .ok (.goto 42, 3) := by decide +kernel
theorem dX9_enter_62 : decode cX9_enter 62 = .ok (.aload_n 0, 1) := by decide +kernel
theorem dX9_enter_63 : decode cX9_enter 63 = .ok (.getfield 15, 3) := by decide +kernel
theorem dX9_enter_66 : decode cX9_enter 66 = .ok (.iload_n 1, 1) := by decide +kernel
theorem dX9_enter_67 : decode cX9_enter 67 = .ok (.lconst 1, 1) := by decide +kernel
theorem dX9_enter_68 : decode cX9_enter 68 = .ok (.lastore, 1) := by decide +kernel
theorem dX9_enter_69 : decode cX9_enter 69 = .ok (.goto 32, 3) := by decide +kernel
theorem dX9_enter_72 : decode cX9_enter 72 = .ok (.aload_n 0, 1) := by decide +kernel
theorem dX9_enter_73 : decode cX9_enter 73 = .ok (.getfield 15, 3) := by decide +kernel
theorem dX9_enter_76 : decode cX9_enter 76 = .ok (.iload_n 1, 1) := by decide +kernel
theorem dX9_enter_77 : decode cX9_enter 77 = .ok (.iload_n 3, 1) := by decide +kernel
theorem dX9_enter_78 : decode cX9_enter 78 = .ok (.i2l, 1) := by decide +kernel
theorem dX9_enter_79 : decode cX9_enter 79 = .ok (.aload_n 0, 1) := by decide +kernel
theorem dX9_enter_80 : decode cX9_enter 80 = .ok (.getfield 18, 3) := by decide +kernel
theorem dX9_enter_83 : decode cX9_enter 83 = .ok (.iload_n 2, 1) := by decide +kernel
theorem dX9_enter_84 : decode cX9_enter 84 = .ok (.invokevirtual 31, 3) := by decide +kernel
theorem dX9_enter_87 : decode cX9_enter 87 = .ok (.i2l, 1) := by decide +kernel
theorem dX9_enter_88 : decode cX9_enter 88 = .ok (.ladd, 1) := by decide +kernel
theorem dX9_enter_89 : decode cX9_enter 89 = .ok (.lastore, 1) := by decide +kernel
theorem dX9_enter_90 : decode cX9_enter 90 = .ok (.goto 11, 3) := by decide +kernel
theorem dX9_enter_93 : decode cX9_enter 93 = .ok (.aload_n 0, 1) := by decide +kernel
theorem dX9_enter_94 : decode cX9_enter 94 = .ok (.getfield 15, 3) := by decide +kernel
theorem dX9_enter_97 : decode cX9_enter 97 = .ok (.iload_n 1, 1) := by decide +kernel
theorem dX9_enter_98 : decode cX9_enter 98 = .ok (.iload_n 3, 1) := by decide +kernel
theorem dX9_enter_99 : decode cX9_enter 99 = .ok (.i2l, 1) := by decide +kernel
theorem dX9_enter_100 : decode cX9_enter 100 = .ok (.lastore, 1) := by decide +kernel
theorem dX9_enter_101 : decode cX9_enter 101 = .ok (.return_, 1) := by decide +kernel
theorem dX9_choose_0 : decode cX9_choose 0 = .ok (.aload_n 0, 1) := by decide +kernel
theorem dX9_choose_1 : decode cX9_choose 1 = .ok (.getfield 18, 3) := by decide +kernel
theorem dX9_choose_4 : decode cX9_choose 4 = .ok (.getfield 28, 3) := by decide +kernel
theorem dX9_choose_7 : decode cX9_choose 7 = .ok (.iload_n 2, 1) := by decide +kernel
theorem dX9_choose_8 : decode cX9_choose 8 = .ok (.iaload, 1) := by decide +kernel
theorem dX9_choose_9 : decode cX9_choose 9 = .ok (.lookupswitch 84 #[(0, 35), (7, 37), (8, 53)], 35) := by decide +kernel
theorem dX9_choose_44 : decode cX9_choose 44 = .ok (.iconst (-1), 1) := by decide +kernel
theorem dX9_choose_45 : decode cX9_choose 45 = .ok (.ireturn, 1) := by decide +kernel
theorem dX9_choose_46 : decode cX9_choose 46 = .ok (.aload_n 0, 1) := by decide +kernel
theorem dX9_choose_47 : decode cX9_choose 47 = .ok (.getfield 18, 3) := by decide +kernel
theorem dX9_choose_50 : decode cX9_choose 50 = .ok (.iload_n 2, 1) := by decide +kernel
theorem dX9_choose_51 : decode cX9_choose 51 = .ok (.aload_n 0, 1) := by decide +kernel
theorem dX9_choose_52 : decode cX9_choose 52 = .ok (.iload_n 1, 1) := by decide +kernel
theorem dX9_choose_53 : decode cX9_choose 53 = .ok (.iload_n 2, 1) := by decide +kernel
theorem dX9_choose_54 : decode cX9_choose 54 = .ok (.iload_n 3, 1) := by decide +kernel
theorem dX9_choose_55 : decode cX9_choose 55 = .ok (.invokevirtual 35, 3) := by decide +kernel
theorem dX9_choose_58 : decode cX9_choose 58 = .ok (.invokevirtual 39, 3) := by decide +kernel
theorem dX9_choose_61 : decode cX9_choose 61 = .ok (.ireturn, 1) := by decide +kernel
theorem dX9_choose_62 : decode cX9_choose 62 = .ok (.iload_n 3, 1) := by decide +kernel
theorem dX9_choose_63 : decode cX9_choose 63 = .ok (.ifCond .le 20, 3) := by decide +kernel
theorem dX9_choose_66 : decode cX9_choose 66 = .ok (.aload_n 0, 1) := by decide +kernel
theorem dX9_choose_67 : decode cX9_choose 67 = .ok (.getfield 15, 3) := by decide +kernel
theorem dX9_choose_70 : decode cX9_choose 70 = .ok (.iload_n 1, 1) := by decide +kernel
theorem dX9_choose_71 : decode cX9_choose 71 = .ok (.iconst 1, 1) := by decide +kernel
theorem dX9_choose_72 : decode cX9_choose 72 = .ok (.iadd, 1) := by decide +kernel
theorem dX9_choose_73 : decode cX9_choose 73 = .ok (.laload, 1) := by decide +kernel
theorem dX9_choose_74 : decode cX9_choose 74 = .ok (.lconst 0, 1) := by decide +kernel
theorem dX9_choose_75 : decode cX9_choose 75 = .ok (.lcmp, 1) := by decide +kernel
theorem dX9_choose_76 : decode cX9_choose 76 = .ok (.ifCond .eq 7, 3) := by decide +kernel
theorem dX9_choose_79 : decode cX9_choose 79 = .ok (.iconst (-1), 1) := by decide +kernel
theorem dX9_choose_80 : decode cX9_choose 80 = .ok (.goto 12, 3) := by decide +kernel
theorem dX9_choose_83 : decode cX9_choose 83 = .ok (.aload_n 0, 1) := by decide +kernel
theorem dX9_choose_84 : decode cX9_choose 84 = .ok (.getfield 18, 3) := by decide +kernel
theorem dX9_choose_87 : decode cX9_choose 87 = .ok (.iload_n 2, 1) := by decide +kernel
theorem dX9_choose_88 : decode cX9_choose 88 = .ok (.iload_n 3, 1) := by decide +kernel
theorem dX9_choose_89 : decode cX9_choose 89 = .ok (.invokevirtual 39, 3) := by decide +kernel
theorem dX9_choose_92 : decode cX9_choose 92 = .ok (.ireturn, 1) := by decide +kernel
theorem dX9_choose_93 : decode cX9_choose 93 = .ok (.aload_n 0, 1) := by decide +kernel
theorem dX9_choose_94 : decode cX9_choose 94 = .ok (.getfield 18, 3) := by decide +kernel
theorem dX9_choose_97 : decode cX9_choose 97 = .ok (.iload_n 2, 1) := by decide +kernel
theorem dX9_choose_98 : decode cX9_choose 98 = .ok (.iload_n 3, 1) := by decide +kernel
theorem dX9_choose_99 : decode cX9_choose 99 = .ok (.invokevirtual 39, 3) := by decide +kernel
theorem dX9_choose_102 : decode cX9_choose 102 = .ok (.ireturn, 1) := by decide +kernel
theorem dX9_placeOfChoice_0 : decode cX9_placeOfChoice 0 = .ok (.iload_n 3, 1) := by decide +kernel
theorem dX9_placeOfChoice_1 : decode cX9_placeOfChoice 1 = .ok (.ifCond .ne 5, 3) := by decide +kernel
theorem dX9_placeOfChoice_4 : decode cX9_placeOfChoice 4 = .ok (.iconst 0, 1) := by decide +kernel
theorem dX9_placeOfChoice_5 : decode cX9_placeOfChoice 5 = .ok (.ireturn, 1) := by decide +kernel
theorem dX9_placeOfChoice_6 : decode cX9_placeOfChoice 6 = .ok (.aload_n 0, 1) := by decide +kernel
theorem dX9_placeOfChoice_7 : decode cX9_placeOfChoice 7 = .ok (.getfield 18, 3) := by decide +kernel
theorem dX9_placeOfChoice_10 : decode cX9_placeOfChoice 10 = .ok (.iload_n 2, 1) := by decide +kernel
theorem dX9_placeOfChoice_11 : decode cX9_placeOfChoice 11 = .ok (.invokevirtual 31, 3) := by decide +kernel
theorem dX9_placeOfChoice_14 : decode cX9_placeOfChoice 14 = .ok (.iconst 1, 1) := by decide +kernel
theorem dX9_placeOfChoice_15 : decode cX9_placeOfChoice 15 = .ok (.isub, 1) := by decide +kernel
theorem dX9_placeOfChoice_16 : decode cX9_placeOfChoice 16 = .ok (.i2l, 1) := by decide +kernel
theorem dX9_placeOfChoice_17 : decode cX9_placeOfChoice 17 = .ok (.lstore 4, 2) := by decide +kernel
theorem dX9_placeOfChoice_19 : decode cX9_placeOfChoice 19 = .ok (.iload_n 3, 1) := by decide +kernel
theorem dX9_placeOfChoice_20 : decode cX9_placeOfChoice 20 = .ok (.iconst 1, 1) := by decide +kernel
theorem dX9_placeOfChoice_21 : decode cX9_placeOfChoice 21 = .ok (.if_icmp .gt 10, 3) := by decide +kernel
theorem dX9_placeOfChoice_24 : decode cX9_placeOfChoice 24 = .ok (.lload 4, 2) := by decide +kernel
theorem dX9_placeOfChoice_26 : decode cX9_placeOfChoice 26 = .ok (.lconst 1, 1) := by decide +kernel
theorem dX9_placeOfChoice_27 : decode cX9_placeOfChoice 27 = .ok (.lcmp, 1) := by decide +kernel
theorem dX9_placeOfChoice_28 : decode cX9_placeOfChoice 28 = .ok (.ifCond .ge 5, 3) := by decide +kernel
theorem dX9_placeOfChoice_31 : decode cX9_placeOfChoice 31 = .ok (.iconst (-1), 1) := by decide +kernel
theorem dX9_placeOfChoice_32 : decode cX9_placeOfChoice 32 = .ok (.ireturn, 1) := by decide +kernel
theorem dX9_placeOfChoice_33 : decode cX9_placeOfChoice 33 = .ok (.iconst 1, 1) := by decide +kernel
theorem dX9_placeOfChoice_34 : decode cX9_placeOfChoice 34 = .ok (.aload_n 0, 1) := by decide +kernel
theorem dX9_placeOfChoice_35 : decode cX9_placeOfChoice 35 = .ok (.getfield 15, 3) := by decide +kernel
theorem dX9_placeOfChoice_38 : decode cX9_placeOfChoice 38 = .ok (.iload_n 1, 1) := by decide +kernel
theorem dX9_placeOfChoice_39 : decode cX9_placeOfChoice 39 = .ok (.laload, 1) := by decide +kernel
theorem dX9_placeOfChoice_40 : decode cX9_placeOfChoice 40 = .ok (.lload 4, 2) := by decide +kernel
theorem dX9_placeOfChoice_42 : decode cX9_placeOfChoice 42 = .ok (.invokestatic 43, 3) := by decide +kernel
theorem dX9_placeOfChoice_45 : decode cX9_placeOfChoice 45 = .ok (.l2i, 1) := by decide +kernel
theorem dX9_placeOfChoice_46 : decode cX9_placeOfChoice 46 = .ok (.iadd, 1) := by decide +kernel
theorem dX9_placeOfChoice_47 : decode cX9_placeOfChoice 47 = .ok (.ireturn, 1) := by decide +kernel
theorem dX9_takeUp_0 : decode cX9_takeUp 0 = .ok (.aload_n 0, 1) := by decide +kernel
theorem dX9_takeUp_1 : decode cX9_takeUp 1 = .ok (.getfield 15, 3) := by decide +kernel
theorem dX9_takeUp_4 : decode cX9_takeUp 4 = .ok (.iload_n 1, 1) := by decide +kernel
theorem dX9_takeUp_5 : decode cX9_takeUp 5 = .ok (.iconst 1, 1) := by decide +kernel
theorem dX9_takeUp_6 : decode cX9_takeUp 6 = .ok (.iadd, 1) := by decide +kernel
theorem dX9_takeUp_7 : decode cX9_takeUp 7 = .ok (.laload, 1) := by decide +kernel
theorem dX9_takeUp_8 : decode cX9_takeUp 8 = .ok (.lstore 4, 2) := by decide +kernel
theorem dX9_takeUp_10 : decode cX9_takeUp 10 = .ok (.aload_n 0, 1) := by decide +kernel
theorem dX9_takeUp_11 : decode cX9_takeUp 11 = .ok (.getfield 15, 3) := by decide +kernel
theorem dX9_takeUp_14 : decode cX9_takeUp 14 = .ok (.iload_n 1, 1) := by decide +kernel
theorem dX9_takeUp_15 : decode cX9_takeUp 15 = .ok (.laload, 1) := by decide +kernel
theorem dX9_takeUp_16 : decode cX9_takeUp 16 = .ok (.lstore 6, 2) := by decide +kernel
theorem dX9_takeUp_18 : decode cX9_takeUp 18 = .ok (.aload_n 0, 1) := by decide +kernel
theorem dX9_takeUp_19 : decode cX9_takeUp 19 = .ok (.getfield 18, 3) := by decide +kernel
theorem dX9_takeUp_22 : decode cX9_takeUp 22 = .ok (.getfield 28, 3) := by decide +kernel
theorem dX9_takeUp_25 : decode cX9_takeUp 25 = .ok (.iload_n 2, 1) := by decide +kernel
theorem dX9_takeUp_26 : decode cX9_takeUp 26 = .ok (.iaload, 1) := by decide +kernel
theorem dX9_takeUp_27 : decode cX9_takeUp 27 = .ok (.tableswitch 227 1 10 #[53, 67, 81, 104, 120, 136, 161, 172, 195, 206], 53) := by decide +kernel
theorem dX9_takeUp_80 : decode cX9_takeUp 80 = .ok (.aload_n 0, 1) := by decide +kernel
theorem dX9_takeUp_81 : decode cX9_takeUp 81 = .ok (.getfield 15, 3) := by decide +kernel
theorem dX9_takeUp_84 : decode cX9_takeUp 84 = .ok (.iload_n 1, 1) := by decide +kernel
theorem dX9_takeUp_85 : decode cX9_takeUp 85 = .ok (.lload 6, 2) := by decide +kernel
theorem dX9_takeUp_87 : decode cX9_takeUp 87 = .ok (.lload 4, 2) := by decide +kernel
theorem dX9_takeUp_89 : decode cX9_takeUp 89 = .ok (.ladd, 1) := by decide +kernel
theorem dX9_takeUp_90 : decode cX9_takeUp 90 = .ok (.lastore, 1) := by decide +kernel
theorem dX9_takeUp_91 : decode cX9_takeUp 91 = .ok (.goto 163, 3) := by decide +kernel
theorem dX9_takeUp_94 : decode cX9_takeUp 94 = .ok (.aload_n 0, 1) := by decide +kernel
theorem dX9_takeUp_95 : decode cX9_takeUp 95 = .ok (.getfield 15, 3) := by decide +kernel
theorem dX9_takeUp_98 : decode cX9_takeUp 98 = .ok (.iload_n 1, 1) := by decide +kernel
theorem dX9_takeUp_99 : decode cX9_takeUp 99 = .ok (.lload 6, 2) := by decide +kernel
theorem dX9_takeUp_101 : decode cX9_takeUp 101 = .ok (.lload 4, 2) := by decide +kernel
theorem dX9_takeUp_103 : decode cX9_takeUp 103 = .ok (.lmul, 1) := by decide +kernel
theorem dX9_takeUp_104 : decode cX9_takeUp 104 = .ok (.lastore, 1) := by decide +kernel
theorem dX9_takeUp_105 : decode cX9_takeUp 105 = .ok (.goto 149, 3) := by decide +kernel
theorem dX9_takeUp_108 : decode cX9_takeUp 108 = .ok (.aload_n 0, 1) := by decide +kernel
theorem dX9_takeUp_109 : decode cX9_takeUp 109 = .ok (.getfield 15, 3) := by decide +kernel
theorem dX9_takeUp_112 : decode cX9_takeUp 112 = .ok (.iload_n 1, 1) := by decide +kernel
theorem dX9_takeUp_113 : decode cX9_takeUp 113 = .ok (.iload_n 3, 1) := by decide +kernel
theorem dX9_takeUp_114 : decode cX9_takeUp 114 = .ok (.ifCond .ne 8, 3) := by decide +kernel
theorem dX9_takeUp_117 : decode cX9_takeUp 117 = .ok (.lload 4, 2) := by decide +kernel
theorem dX9_takeUp_119 : decode cX9_takeUp 119 = .ok (.goto 8, 3) := by decide +kernel
theorem dX9_takeUp_122 : decode cX9_takeUp 122 = .ok (.lload 6, 2) := by decide +kernel
theorem dX9_takeUp_124 : decode cX9_takeUp 124 = .ok (.lload 4, 2) := by decide +kernel
theorem dX9_takeUp_126 : decode cX9_takeUp 126 = .ok (.lsub, 1) := by decide +kernel
theorem dX9_takeUp_127 : decode cX9_takeUp 127 = .ok (.lastore, 1) := by decide +kernel
theorem dX9_takeUp_128 : decode cX9_takeUp 128 = .ok (.goto 126, 3) := by decide +kernel
theorem dX9_takeUp_131 : decode cX9_takeUp 131 = .ok (.aload_n 0, 1) := by decide +kernel
theorem dX9_takeUp_132 : decode cX9_takeUp 132 = .ok (.getfield 15, 3) := by decide +kernel
theorem dX9_takeUp_135 : decode cX9_takeUp 135 = .ok (.iload_n 1, 1) := by decide +kernel
theorem dX9_takeUp_136 : decode cX9_takeUp 136 = .ok (.lload 6, 2) := by decide +kernel
theorem dX9_takeUp_138 : decode cX9_takeUp 138 = .ok (.lload 4, 2) := by decide +kernel
theorem dX9_takeUp_140 : decode cX9_takeUp 140 = .ok (.invokestatic 49, 3) := by decide +kernel
theorem dX9_takeUp_143 : decode cX9_takeUp 143 = .ok (.lastore, 1) := by decide +kernel
theorem dX9_takeUp_144 : decode cX9_takeUp 144 = .ok (.goto 110, 3) := by decide +kernel
theorem dX9_takeUp_147 : decode cX9_takeUp 147 = .ok (.aload_n 0, 1) := by decide +kernel
theorem dX9_takeUp_148 : decode cX9_takeUp 148 = .ok (.getfield 15, 3) := by decide +kernel
theorem dX9_takeUp_151 : decode cX9_takeUp 151 = .ok (.iload_n 1, 1) := by decide +kernel
theorem dX9_takeUp_152 : decode cX9_takeUp 152 = .ok (.lload 6, 2) := by decide +kernel
theorem dX9_takeUp_154 : decode cX9_takeUp 154 = .ok (.lload 4, 2) := by decide +kernel
theorem dX9_takeUp_156 : decode cX9_takeUp 156 = .ok (.invokestatic 52, 3) := by decide +kernel
theorem dX9_takeUp_159 : decode cX9_takeUp 159 = .ok (.lastore, 1) := by decide +kernel
theorem dX9_takeUp_160 : decode cX9_takeUp 160 = .ok (.goto 94, 3) := by decide +kernel
theorem dX9_takeUp_163 : decode cX9_takeUp 163 = .ok (.aload_n 0, 1) := by decide +kernel
theorem dX9_takeUp_164 : decode cX9_takeUp 164 = .ok (.getfield 15, 3) := by decide +kernel
theorem dX9_takeUp_167 : decode cX9_takeUp 167 = .ok (.iload_n 1, 1) := by decide +kernel
theorem dX9_takeUp_168 : decode cX9_takeUp 168 = .ok (.lload 6, 2) := by decide +kernel
theorem dX9_takeUp_170 : decode cX9_takeUp 170 = .ok (.aload_n 0, 1) := by decide +kernel
theorem dX9_takeUp_171 : decode cX9_takeUp 171 = .ok (.getfield 18, 3) := by decide +kernel
theorem dX9_takeUp_174 : decode cX9_takeUp 174 = .ok (.getfield 22, 3) := by decide +kernel
theorem dX9_takeUp_177 : decode cX9_takeUp 177 = .ok (.iload_n 2, 1) := by decide +kernel
theorem dX9_takeUp_178 : decode cX9_takeUp 178 = .ok (.iaload, 1) := by decide +kernel
theorem dX9_takeUp_179 : decode cX9_takeUp 179 = .ok (.i2l, 1) := by decide +kernel
theorem dX9_takeUp_180 : decode cX9_takeUp 180 = .ok (.lmul, 1) := by decide +kernel
theorem dX9_takeUp_181 : decode cX9_takeUp 181 = .ok (.lload 4, 2) := by decide +kernel
theorem dX9_takeUp_183 : decode cX9_takeUp 183 = .ok (.ladd, 1) := by decide +kernel
theorem dX9_takeUp_184 : decode cX9_takeUp 184 = .ok (.lastore, 1) := by decide +kernel
theorem dX9_takeUp_185 : decode cX9_takeUp 185 = .ok (.goto 69, 3) := by decide +kernel
theorem dX9_takeUp_188 : decode cX9_takeUp 188 = .ok (.aload_n 0, 1) := by decide +kernel
theorem dX9_takeUp_189 : decode cX9_takeUp 189 = .ok (.getfield 15, 3) := by decide +kernel
theorem dX9_takeUp_192 : decode cX9_takeUp 192 = .ok (.iload_n 1, 1) := by decide +kernel
theorem dX9_takeUp_193 : decode cX9_takeUp 193 = .ok (.lload 4, 2) := by decide +kernel
theorem dX9_takeUp_195 : decode cX9_takeUp 195 = .ok (.lastore, 1) := by decide +kernel
theorem dX9_takeUp_196 : decode cX9_takeUp 196 = .ok (.goto 58, 3) := by decide +kernel
theorem dX9_takeUp_199 : decode cX9_takeUp 199 = .ok (.aload_n 0, 1) := by decide +kernel
theorem dX9_takeUp_200 : decode cX9_takeUp 200 = .ok (.getfield 15, 3) := by decide +kernel
theorem dX9_takeUp_203 : decode cX9_takeUp 203 = .ok (.iload_n 1, 1) := by decide +kernel
theorem dX9_takeUp_204 : decode cX9_takeUp 204 = .ok (.lload 4, 2) := by decide +kernel
theorem dX9_takeUp_206 : decode cX9_takeUp 206 = .ok (.lconst 0, 1) := by decide +kernel
theorem dX9_takeUp_207 : decode cX9_takeUp 207 = .ok (.lcmp, 1) := by decide +kernel
theorem dX9_takeUp_208 : decode cX9_takeUp 208 = .ok (.ifCond .eq 8, 3) := by decide +kernel
theorem dX9_takeUp_211 : decode cX9_takeUp 211 = .ok (.lload 4, 2) := by decide +kernel
theorem dX9_takeUp_213 : decode cX9_takeUp 213 = .ok (.goto 5, 3) := by decide +kernel
theorem dX9_takeUp_216 : decode cX9_takeUp 216 = .ok (.lload 6, 2) := by decide +kernel
theorem dX9_takeUp_218 : decode cX9_takeUp 218 = .ok (.lastore, 1) := by decide +kernel
theorem dX9_takeUp_219 : decode cX9_takeUp 219 = .ok (.goto 35, 3) := by decide +kernel
theorem dX9_takeUp_222 : decode cX9_takeUp 222 = .ok (.aload_n 0, 1) := by decide +kernel
theorem dX9_takeUp_223 : decode cX9_takeUp 223 = .ok (.iload_n 1, 1) := by decide +kernel
theorem dX9_takeUp_224 : decode cX9_takeUp 224 = .ok (.iload_n 3, 1) := by decide +kernel
theorem dX9_takeUp_225 : decode cX9_takeUp 225 = .ok (.lload 4, 2) := by decide +kernel
theorem dX9_takeUp_227 : decode cX9_takeUp 227 = .ok (.invokevirtual 55, 3) := by decide +kernel
theorem dX9_takeUp_230 : decode cX9_takeUp 230 = .ok (.goto 24, 3) := by decide +kernel
theorem dX9_takeUp_233 : decode cX9_takeUp 233 = .ok (.aload_n 0, 1) := by decide +kernel
theorem dX9_takeUp_234 : decode cX9_takeUp 234 = .ok (.getfield 15, 3) := by decide +kernel
theorem dX9_takeUp_237 : decode cX9_takeUp 237 = .ok (.iload_n 1, 1) := by decide +kernel
theorem dX9_takeUp_238 : decode cX9_takeUp 238 = .ok (.lload 6, 2) := by decide +kernel
theorem dX9_takeUp_240 : decode cX9_takeUp 240 = .ok (.lload 4, 2) := by decide +kernel
theorem dX9_takeUp_242 : decode cX9_takeUp 242 = .ok (.iload_n 3, 1) := by decide +kernel
theorem dX9_takeUp_243 : decode cX9_takeUp 243 = .ok (.bipush 64, 2) := by decide +kernel
theorem dX9_takeUp_245 : decode cX9_takeUp 245 = .ok (.irem, 1) := by decide +kernel
theorem dX9_takeUp_246 : decode cX9_takeUp 246 = .ok (.invokestatic 59, 3) := by decide +kernel
theorem dX9_takeUp_249 : decode cX9_takeUp 249 = .ok (.lxor, 1) := by decide +kernel
theorem dX9_takeUp_250 : decode cX9_takeUp 250 = .ok (.lastore, 1) := by decide +kernel
theorem dX9_takeUp_251 : decode cX9_takeUp 251 = .ok (.goto 3, 3) := by decide +kernel
theorem dX9_takeUp_254 : decode cX9_takeUp 254 = .ok (.return_, 1) := by decide +kernel
theorem dX9_takeUpLike_0 : decode cX9_takeUpLike 0 = .ok (.iload_n 2, 1) := by decide +kernel
theorem dX9_takeUpLike_1 : decode cX9_takeUpLike 1 = .ok (.ifCond .ne 13, 3) := by decide +kernel
theorem dX9_takeUpLike_4 : decode cX9_takeUpLike 4 = .ok (.aload_n 0, 1) := by decide +kernel
theorem dX9_takeUpLike_5 : decode cX9_takeUpLike 5 = .ok (.getfield 9, 3) := by decide +kernel
theorem dX9_takeUpLike_8 : decode cX9_takeUpLike 8 = .ok (.iload_n 1, 1) := by decide +kernel
theorem dX9_takeUpLike_9 : decode cX9_takeUpLike 9 = .ok (.lload_n 3, 1) := by decide +kernel
theorem dX9_takeUpLike_10 : decode cX9_takeUpLike 10 = .ok (.lastore, 1) := by decide +kernel
theorem dX9_takeUpLike_11 : decode cX9_takeUpLike 11 = .ok (.goto 21, 3) := by decide +kernel
theorem dX9_takeUpLike_14 : decode cX9_takeUpLike 14 = .ok (.aload_n 0, 1) := by decide +kernel
theorem dX9_takeUpLike_15 : decode cX9_takeUpLike 15 = .ok (.getfield 9, 3) := by decide +kernel
theorem dX9_takeUpLike_18 : decode cX9_takeUpLike 18 = .ok (.iload_n 1, 1) := by decide +kernel
theorem dX9_takeUpLike_19 : decode cX9_takeUpLike 19 = .ok (.laload, 1) := by decide +kernel
theorem dX9_takeUpLike_20 : decode cX9_takeUpLike 20 = .ok (.lload_n 3, 1) := by decide +kernel
theorem dX9_takeUpLike_21 : decode cX9_takeUpLike 21 = .ok (.lcmp, 1) := by decide +kernel
theorem dX9_takeUpLike_22 : decode cX9_takeUpLike 22 = .ok (.ifCond .eq 10, 3) := by decide +kernel
theorem dX9_takeUpLike_25 : decode cX9_takeUpLike 25 = .ok (.aload_n 0, 1) := by decide +kernel
theorem dX9_takeUpLike_26 : decode cX9_takeUpLike 26 = .ok (.getfield 15, 3) := by decide +kernel
theorem dX9_takeUpLike_29 : decode cX9_takeUpLike 29 = .ok (.iload_n 1, 1) := by decide +kernel
theorem dX9_takeUpLike_30 : decode cX9_takeUpLike 30 = .ok (.lconst 0, 1) := by decide +kernel
theorem dX9_takeUpLike_31 : decode cX9_takeUpLike 31 = .ok (.lastore, 1) := by decide +kernel
theorem dX9_takeUpLike_32 : decode cX9_takeUpLike 32 = .ok (.return_, 1) := by decide +kernel
theorem dX10_init_0 : decode cX10_init 0 = .ok (.aload_n 0, 1) := by decide +kernel
theorem dX10_init_1 : decode cX10_init 1 = .ok (.aload_n 1, 1) := by decide +kernel
theorem dX10_init_2 : decode cX10_init 2 = .ok (.invokespecial 3, 3) := by decide +kernel
theorem dX10_init_5 : decode cX10_init 5 = .ok (.aload_n 0, 1) := by decide +kernel
theorem dX10_init_6 : decode cX10_init 6 = .ok (.aload_n 2, 1) := by decide +kernel
theorem dX10_init_7 : decode cX10_init 7 = .ok (.putfield 9, 3) := by decide +kernel
theorem dX10_init_10 : decode cX10_init 10 = .ok (.return_, 1) := by decide +kernel
theorem dX10_enter_0 : decode cX10_enter 0 = .ok (.aload_n 0, 1) := by decide +kernel
theorem dX10_enter_1 : decode cX10_enter 1 = .ok (.getfield 9, 3) := by decide +kernel
theorem dX10_enter_4 : decode cX10_enter 4 = .ok (.bipush 97, 2) := by decide +kernel
theorem dX10_enter_6 : decode cX10_enter 6 = .ok (.aload_n 0, 1) := by decide +kernel
theorem dX10_enter_7 : decode cX10_enter 7 = .ok (.getfield 15, 3) := by decide +kernel
theorem dX10_enter_10 : decode cX10_enter 10 = .ok (.getfield 19, 3) := by decide +kernel
theorem dX10_enter_13 : decode cX10_enter 13 = .ok (.iload_n 2, 1) := by decide +kernel
theorem dX10_enter_14 : decode cX10_enter 14 = .ok (.iaload, 1) := by decide +kernel
theorem dX10_enter_15 : decode cX10_enter 15 = .ok (.iadd, 1) := by decide +kernel
theorem dX10_enter_16 : decode cX10_enter 16 = .ok (.invokevirtual 25, 3) := by decide +kernel
theorem dX10_enter_19 : decode cX10_enter 19 = .ok (.aload_n 0, 1) := by decide +kernel
theorem dX10_enter_20 : decode cX10_enter 20 = .ok (.getfield 9, 3) := by decide +kernel
theorem dX10_enter_23 : decode cX10_enter 23 = .ok (.aload_n 0, 1) := by decide +kernel
theorem dX10_enter_24 : decode cX10_enter 24 = .ok (.getfield 15, 3) := by decide +kernel
theorem dX10_enter_27 : decode cX10_enter 27 = .ok (.getfield 31, 3) := by decide +kernel
theorem dX10_enter_30 : decode cX10_enter 30 = .ok (.iload_n 2, 1) := by decide +kernel
theorem dX10_enter_31 : decode cX10_enter 31 = .ok (.iaload, 1) := by decide +kernel
theorem dX10_enter_32 : decode cX10_enter 32 = .ok (.invokevirtual 34, 3) := by decide +kernel
theorem dX10_enter_35 : decode cX10_enter 35 = .ok (.aload_n 0, 1) := by decide +kernel
theorem dX10_enter_36 : decode cX10_enter 36 = .ok (.getfield 15, 3) := by decide +kernel
theorem dX10_enter_39 : decode cX10_enter 39 = .ok (.iload_n 2, 1) := by decide +kernel
theorem dX10_enter_40 : decode cX10_enter 40 = .ok (.invokevirtual 37, 3) := by decide +kernel
theorem dX10_enter_43 : decode cX10_enter 43 = .ok (.ifCond .le 12, 3) := by decide +kernel
theorem dX10_enter_46 : decode cX10_enter 46 = .ok (.aload_n 0, 1) := by decide +kernel
theorem dX10_enter_47 : decode cX10_enter 47 = .ok (.getfield 9, 3) := by decide +kernel
theorem dX10_enter_50 : decode cX10_enter 50 = .ok (.bipush 40, 2) := by decide +kernel
theorem dX10_enter_52 : decode cX10_enter 52 = .ok (.invokevirtual 25, 3) := by decide +kernel
theorem dX10_enter_55 : decode cX10_enter 55 = .ok (.return_, 1) := by decide +kernel
theorem dX10_choose_0 : decode cX10_choose 0 = .ok (.iload_n 3, 1) := by decide +kernel
theorem dX10_choose_1 : decode cX10_choose 1 = .ok (.ifCond .le 12, 3) := by decide +kernel
theorem dX10_choose_4 : decode cX10_choose 4 = .ok (.aload_n 0, 1) := by decide +kernel
theorem dX10_choose_5 : decode cX10_choose 5 = .ok (.getfield 9, 3) := by decide +kernel
theorem dX10_choose_8 : decode cX10_choose 8 = .ok (.bipush 44, 2) := by decide +kernel
theorem dX10_choose_10 : decode cX10_choose 10 = .ok (.invokevirtual 25, 3) := by decide +kernel
theorem dX10_choose_13 : decode cX10_choose 13 = .ok (.aload_n 0, 1) := by decide +kernel
theorem dX10_choose_14 : decode cX10_choose 14 = .ok (.aload_n 0, 1) := by decide +kernel
theorem dX10_choose_15 : decode cX10_choose 15 = .ok (.getfield 9, 3) := by decide +kernel
theorem dX10_choose_18 : decode cX10_choose 18 = .ok (.getfield 41, 3) := by decide +kernel
theorem dX10_choose_21 : decode cX10_choose 21 = .ok (.putfield 45, 3) := by decide +kernel
theorem dX10_choose_24 : decode cX10_choose 24 = .ok (.aload_n 0, 1) := by decide +kernel
theorem dX10_choose_25 : decode cX10_choose 25 = .ok (.getfield 45, 3) := by decide +kernel
theorem dX10_choose_28 : decode cX10_choose 28 = .ok (.ifCond .eq 7, 3) := by decide +kernel
theorem dX10_choose_31 : decode cX10_choose 31 = .ok (.iconst (-1), 1) := by decide +kernel
theorem dX10_choose_32 : decode cX10_choose 32 = .ok (.goto 12, 3) := by decide +kernel
theorem dX10_choose_35 : decode cX10_choose 35 = .ok (.aload_n 0, 1) := by decide +kernel
theorem dX10_choose_36 : decode cX10_choose 36 = .ok (.getfield 15, 3) := by decide +kernel
theorem dX10_choose_39 : decode cX10_choose 39 = .ok (.iload_n 2, 1) := by decide +kernel
theorem dX10_choose_40 : decode cX10_choose 40 = .ok (.iload_n 3, 1) := by decide +kernel
theorem dX10_choose_41 : decode cX10_choose 41 = .ok (.invokevirtual 48, 3) := by decide +kernel
theorem dX10_choose_44 : decode cX10_choose 44 = .ok (.ireturn, 1) := by decide +kernel
theorem dX10_leave_0 : decode cX10_leave 0 = .ok (.aload_n 0, 1) := by decide +kernel
theorem dX10_leave_1 : decode cX10_leave 1 = .ok (.getfield 15, 3) := by decide +kernel
theorem dX10_leave_4 : decode cX10_leave 4 = .ok (.iload_n 2, 1) := by decide +kernel
theorem dX10_leave_5 : decode cX10_leave 5 = .ok (.invokevirtual 37, 3) := by decide +kernel
theorem dX10_leave_8 : decode cX10_leave 8 = .ok (.ifCond .le 12, 3) := by decide +kernel
theorem dX10_leave_11 : decode cX10_leave 11 = .ok (.aload_n 0, 1) := by decide +kernel
theorem dX10_leave_12 : decode cX10_leave 12 = .ok (.getfield 9, 3) := by decide +kernel
theorem dX10_leave_15 : decode cX10_leave 15 = .ok (.bipush 41, 2) := by decide +kernel
theorem dX10_leave_17 : decode cX10_leave 17 = .ok (.invokevirtual 25, 3) := by decide +kernel
theorem dX10_leave_20 : decode cX10_leave 20 = .ok (.return_, 1) := by decide +kernel
theorem dX11_init_0 : decode cX11_init 0 = .ok (.aload_n 0, 1) := by decide +kernel
theorem dX11_init_1 : decode cX11_init 1 = .ok (.invokespecial 3, 3) := by decide +kernel
theorem dX11_init_4 : decode cX11_init 4 = .ok (.aload_n 0, 1) := by decide +kernel
theorem dX11_init_5 : decode cX11_init 5 = .ok (.new 9, 3) := by decide +kernel
theorem dX11_init_8 : decode cX11_init 8 = .ok (.dup, 1) := by decide +kernel
theorem dX11_init_9 : decode cX11_init 9 = .ok (.invokespecial 11, 3) := by decide +kernel
theorem dX11_init_12 : decode cX11_init 12 = .ok (.putfield 12, 3) := by decide +kernel
theorem dX11_init_15 : decode cX11_init 15 = .ok (.aload_n 0, 1) := by decide +kernel
theorem dX11_init_16 : decode cX11_init 16 = .ok (.new 16, 3) := by decide +kernel
theorem dX11_init_19 : decode cX11_init 19 = .ok (.dup, 1) := by decide +kernel
theorem dX11_init_20 : decode cX11_init 20 = .ok (.invokespecial 18, 3) := by decide +kernel
theorem dX11_init_23 : decode cX11_init 23 = .ok (.putfield 19, 3) := by decide +kernel
theorem dX11_init_26 : decode cX11_init 26 = .ok (.aload_n 0, 1) := by decide +kernel
theorem dX11_init_27 : decode cX11_init 27 = .ok (.new 16, 3) := by decide +kernel
theorem dX11_init_30 : decode cX11_init 30 = .ok (.dup, 1) := by decide +kernel
theorem dX11_init_31 : decode cX11_init 31 = .ok (.invokespecial 18, 3) := by decide +kernel
theorem dX11_init_34 : decode cX11_init 34 = .ok (.putfield 23, 3) := by decide +kernel
theorem dX11_init_37 : decode cX11_init 37 = .ok (.aload_n 0, 1) := by decide +kernel
theorem dX11_init_38 : decode cX11_init 38 = .ok (.new 26, 3) := by decide +kernel
theorem dX11_init_41 : decode cX11_init 41 = .ok (.dup, 1) := by decide +kernel
theorem dX11_init_42 : decode cX11_init 42 = .ok (.aload_n 0, 1) := by decide +kernel
theorem dX11_init_43 : decode cX11_init 43 = .ok (.getfield 12, 3) := by decide +kernel
theorem dX11_init_46 : decode cX11_init 46 = .ok (.aload_n 0, 1) := by decide +kernel
theorem dX11_init_47 : decode cX11_init 47 = .ok (.getfield 19, 3) := by decide +kernel
theorem dX11_init_50 : decode cX11_init 50 = .ok (.invokespecial 28, 3) := by decide +kernel
theorem dX11_init_53 : decode cX11_init 53 = .ok (.putfield 31, 3) := by decide +kernel
theorem dX11_init_56 : decode cX11_init 56 = .ok (.aload_n 0, 1) := by decide +kernel
theorem dX11_init_57 : decode cX11_init 57 = .ok (.sipush 1502, 3) := by decide +kernel
theorem dX11_init_60 : decode cX11_init 60 = .ok (.newarray .long, 2) := by decide +kernel
theorem dX11_init_62 : decode cX11_init 62 = .ok (.putfield 35, 3) := by decide +kernel
theorem dX11_init_65 : decode cX11_init 65 = .ok (.aload_n 0, 1) := by decide +kernel
theorem dX11_init_66 : decode cX11_init 66 = .ok (.new 39, 3) := by decide +kernel
theorem dX11_init_69 : decode cX11_init 69 = .ok (.dup, 1) := by decide +kernel
theorem dX11_init_70 : decode cX11_init 70 = .ok (.aload_n 0, 1) := by decide +kernel
theorem dX11_init_71 : decode cX11_init 71 = .ok (.getfield 12, 3) := by decide +kernel
theorem dX11_init_74 : decode cX11_init 74 = .ok (.invokespecial 41, 3) := by decide +kernel
theorem dX11_init_77 : decode cX11_init 77 = .ok (.putfield 44, 3) := by decide +kernel
theorem dX11_init_80 : decode cX11_init 80 = .ok (.aload_n 0, 1) := by decide +kernel
theorem dX11_init_81 : decode cX11_init 81 = .ok (.new 48, 3) := by decide +kernel
theorem dX11_init_84 : decode cX11_init 84 = .ok (.dup, 1) := by decide +kernel
theorem dX11_init_85 : decode cX11_init 85 = .ok (.aload_n 0, 1) := by decide +kernel
theorem dX11_init_86 : decode cX11_init 86 = .ok (.getfield 12, 3) := by decide +kernel
theorem dX11_init_89 : decode cX11_init 89 = .ok (.aload_n 0, 1) := by decide +kernel
theorem dX11_init_90 : decode cX11_init 90 = .ok (.getfield 35, 3) := by decide +kernel
theorem dX11_init_93 : decode cX11_init 93 = .ok (.invokespecial 50, 3) := by decide +kernel
theorem dX11_init_96 : decode cX11_init 96 = .ok (.putfield 53, 3) := by decide +kernel
theorem dX11_init_99 : decode cX11_init 99 = .ok (.aload_n 0, 1) := by decide +kernel
theorem dX11_init_100 : decode cX11_init 100 = .ok (.new 57, 3) := by decide +kernel
theorem dX11_init_103 : decode cX11_init 103 = .ok (.dup, 1) := by decide +kernel
theorem dX11_init_104 : decode cX11_init 104 = .ok (.aload_n 0, 1) := by decide +kernel
theorem dX11_init_105 : decode cX11_init 105 = .ok (.getfield 12, 3) := by decide +kernel
theorem dX11_init_108 : decode cX11_init 108 = .ok (.aload_n 0, 1) := by decide +kernel
theorem dX11_init_109 : decode cX11_init 109 = .ok (.getfield 35, 3) := by decide +kernel
theorem dX11_init_112 : decode cX11_init 112 = .ok (.invokespecial 59, 3) := by decide +kernel
theorem dX11_init_115 : decode cX11_init 115 = .ok (.putfield 60, 3) := by decide +kernel
theorem dX11_init_118 : decode cX11_init 118 = .ok (.aload_n 0, 1) := by decide +kernel
theorem dX11_init_119 : decode cX11_init 119 = .ok (.new 64, 3) := by decide +kernel
theorem dX11_init_122 : decode cX11_init 122 = .ok (.dup, 1) := by decide +kernel
theorem dX11_init_123 : decode cX11_init 123 = .ok (.aload_n 0, 1) := by decide +kernel
theorem dX11_init_124 : decode cX11_init 124 = .ok (.getfield 12, 3) := by decide +kernel
theorem dX11_init_127 : decode cX11_init 127 = .ok (.invokespecial 66, 3) := by decide +kernel
theorem dX11_init_130 : decode cX11_init 130 = .ok (.putfield 67, 3) := by decide +kernel
theorem dX11_init_133 : decode cX11_init 133 = .ok (.aload_n 0, 1) := by decide +kernel
theorem dX11_init_134 : decode cX11_init 134 = .ok (.new 71, 3) := by decide +kernel
theorem dX11_init_137 : decode cX11_init 137 = .ok (.dup, 1) := by decide +kernel
theorem dX11_init_138 : decode cX11_init 138 = .ok (.aload_n 0, 1) := by decide +kernel
theorem dX11_init_139 : decode cX11_init 139 = .ok (.getfield 12, 3) := by decide +kernel
theorem dX11_init_142 : decode cX11_init 142 = .ok (.aload_n 0, 1) := by decide +kernel
theorem dX11_init_143 : decode cX11_init 143 = .ok (.getfield 23, 3) := by decide +kernel
theorem dX11_init_146 : decode cX11_init 146 = .ok (.invokespecial 73, 3) := by decide +kernel
theorem dX11_init_149 : decode cX11_init 149 = .ok (.putfield 74, 3) := by decide +kernel
theorem dX11_init_152 : decode cX11_init 152 = .ok (.aload_n 0, 1) := by decide +kernel
theorem dX11_init_153 : decode cX11_init 153 = .ok (.new 78, 3) := by decide +kernel
theorem dX11_init_156 : decode cX11_init 156 = .ok (.dup, 1) := by decide +kernel
theorem dX11_init_157 : decode cX11_init 157 = .ok (.aload_n 0, 1) := by decide +kernel
theorem dX11_init_158 : decode cX11_init 158 = .ok (.getfield 12, 3) := by decide +kernel
theorem dX11_init_161 : decode cX11_init 161 = .ok (.invokespecial 80, 3) := by decide +kernel
theorem dX11_init_164 : decode cX11_init 164 = .ok (.putfield 81, 3) := by decide +kernel
theorem dX11_init_167 : decode cX11_init 167 = .ok (.aload_n 0, 1) := by decide +kernel
theorem dX11_init_168 : decode cX11_init 168 = .ok (.new 85, 3) := by decide +kernel
theorem dX11_init_171 : decode cX11_init 171 = .ok (.dup, 1) := by decide +kernel
theorem dX11_init_172 : decode cX11_init 172 = .ok (.aload_n 0, 1) := by decide +kernel
theorem dX11_init_173 : decode cX11_init 173 = .ok (.getfield 12, 3) := by decide +kernel
theorem dX11_init_176 : decode cX11_init 176 = .ok (.invokespecial 87, 3) := by decide +kernel
theorem dX11_init_179 : decode cX11_init 179 = .ok (.putfield 88, 3) := by decide +kernel
theorem dX11_init_182 : decode cX11_init 182 = .ok (.aload_n 0, 1) := by decide +kernel
theorem dX11_init_183 : decode cX11_init 183 = .ok (.new 92, 3) := by decide +kernel
theorem dX11_init_186 : decode cX11_init 186 = .ok (.dup, 1) := by decide +kernel
theorem dX11_init_187 : decode cX11_init 187 = .ok (.aload_n 0, 1) := by decide +kernel
theorem dX11_init_188 : decode cX11_init 188 = .ok (.getfield 12, 3) := by decide +kernel
theorem dX11_init_191 : decode cX11_init 191 = .ok (.aload_n 0, 1) := by decide +kernel
theorem dX11_init_192 : decode cX11_init 192 = .ok (.getfield 44, 3) := by decide +kernel
theorem dX11_init_195 : decode cX11_init 195 = .ok (.invokespecial 94, 3) := by decide +kernel
theorem dX11_init_198 : decode cX11_init 198 = .ok (.putfield 97, 3) := by decide +kernel
theorem dX11_init_201 : decode cX11_init 201 = .ok (.return_, 1) := by decide +kernel
theorem dX11_deed_0 : decode cX11_deed 0 = .ok (.iload_n 1, 1) := by decide +kernel
theorem dX11_deed_1 : decode cX11_deed 1 = .ok (.invokestatic 101, 3) := by decide +kernel
theorem dX11_deed_4 : decode cX11_deed 4 = .ok (.ifCond .ne 6, 3) := by decide +kernel
theorem dX11_deed_7 : decode cX11_deed 7 = .ok (.bipush (-2), 2) := by decide +kernel
theorem dX11_deed_9 : decode cX11_deed 9 = .ok (.ireturn, 1) := by decide +kernel
theorem dX11_deed_10 : decode cX11_deed 10 = .ok (.aload_n 0, 1) := by decide +kernel
theorem dX11_deed_11 : decode cX11_deed 11 = .ok (.getfield 12, 3) := by decide +kernel
theorem dX11_deed_14 : decode cX11_deed 14 = .ok (.iconst 1, 1) := by decide +kernel
theorem dX11_deed_15 : decode cX11_deed 15 = .ok (.iconst 0, 1) := by decide +kernel
theorem dX11_deed_16 : decode cX11_deed 16 = .ok (.invokevirtual 105, 3) := by decide +kernel
theorem dX11_deed_19 : decode cX11_deed 19 = .ok (.ifCond .eq 15, 3) := by decide +kernel
theorem dX11_deed_22 : decode cX11_deed 22 = .ok (.aload_n 0, 1) := by decide +kernel
theorem dX11_deed_23 : decode cX11_deed 23 = .ok (.getfield 12, 3) := by decide +kernel
theorem dX11_deed_26 : decode cX11_deed 26 = .ok (.iload_n 1, 1) := by decide +kernel
theorem dX11_deed_27 : decode cX11_deed 27 = .ok (.iload_n 2, 1) := by decide +kernel
theorem dX11_deed_28 : decode cX11_deed 28 = .ok (.invokevirtual 109, 3) := by decide +kernel
theorem dX11_deed_31 : decode cX11_deed 31 = .ok (.goto 5, 3) := by decide +kernel
theorem dX11_deed_34 : decode cX11_deed 34 = .ok (.bipush (-4), 2) := by decide +kernel
theorem dX11_deed_36 : decode cX11_deed 36 = .ok (.ireturn, 1) := by decide +kernel
theorem dX11_enclose_0 : decode cX11_enclose 0 = .ok (.aload_n 0, 1) := by decide +kernel
theorem dX11_enclose_1 : decode cX11_enclose 1 = .ok (.getfield 12, 3) := by decide +kernel
theorem dX11_enclose_4 : decode cX11_enclose 4 = .ok (.iload_n 1, 1) := by decide +kernel
theorem dX11_enclose_5 : decode cX11_enclose 5 = .ok (.invokevirtual 113, 3) := by decide +kernel
theorem dX11_enclose_8 : decode cX11_enclose 8 = .ok (.ifCond .eq 14, 3) := by decide +kernel
theorem dX11_enclose_11 : decode cX11_enclose 11 = .ok (.aload_n 0, 1) := by decide +kernel
theorem dX11_enclose_12 : decode cX11_enclose 12 = .ok (.getfield 12, 3) := by decide +kernel
theorem dX11_enclose_15 : decode cX11_enclose 15 = .ok (.iload_n 2, 1) := by decide +kernel
theorem dX11_enclose_16 : decode cX11_enclose 16 = .ok (.invokevirtual 113, 3) := by decide +kernel
theorem dX11_enclose_19 : decode cX11_enclose 19 = .ok (.ifCond .ne 6, 3) := by decide +kernel
theorem dX11_enclose_22 : decode cX11_enclose 22 = .ok (.bipush (-2), 2) := by decide +kernel
theorem dX11_enclose_24 : decode cX11_enclose 24 = .ok (.ireturn, 1) := by decide +kernel
theorem dX11_enclose_25 : decode cX11_enclose 25 = .ok (.iload_n 2, 1) := by decide +kernel
theorem dX11_enclose_26 : decode cX11_enclose 26 = .ok (.iload_n 1, 1) := by decide +kernel
theorem dX11_enclose_27 : decode cX11_enclose 27 = .ok (.if_icmp .lt 6, 3) := by decide +kernel
theorem dX11_enclose_30 : decode cX11_enclose 30 = .ok (.bipush (-3), 2) := by decide +kernel
theorem dX11_enclose_32 : decode cX11_enclose 32 = .ok (.ireturn, 1) := by decide +kernel
theorem dX11_enclose_33 : decode cX11_enclose 33 = .ok (.aload_n 0, 1) := by decide +kernel
theorem dX11_enclose_34 : decode cX11_enclose 34 = .ok (.getfield 12, 3) := by decide +kernel
theorem dX11_enclose_37 : decode cX11_enclose 37 = .ok (.iconst 0, 1) := by decide +kernel
theorem dX11_enclose_38 : decode cX11_enclose 38 = .ok (.iconst 1, 1) := by decide +kernel
theorem dX11_enclose_39 : decode cX11_enclose 39 = .ok (.invokevirtual 105, 3) := by decide +kernel
theorem dX11_enclose_42 : decode cX11_enclose 42 = .ok (.ifCond .ne 6, 3) := by decide +kernel
theorem dX11_enclose_45 : decode cX11_enclose 45 = .ok (.bipush (-4), 2) := by decide +kernel
theorem dX11_enclose_47 : decode cX11_enclose 47 = .ok (.ireturn, 1) := by decide +kernel
theorem dX11_enclose_48 : decode cX11_enclose 48 = .ok (.aload_n 0, 1) := by decide +kernel
theorem dX11_enclose_49 : decode cX11_enclose 49 = .ok (.getfield 12, 3) := by decide +kernel
theorem dX11_enclose_52 : decode cX11_enclose 52 = .ok (.iload_n 1, 1) := by decide +kernel
theorem dX11_enclose_53 : decode cX11_enclose 53 = .ok (.iload_n 2, 1) := by decide +kernel
theorem dX11_enclose_54 : decode cX11_enclose 54 = .ok (.invokevirtual 116, 3) := by decide +kernel
theorem dX11_enclose_57 : decode cX11_enclose 57 = .ok (.aload_n 0, 1) := by decide +kernel
theorem dX11_enclose_58 : decode cX11_enclose 58 = .ok (.getfield 12, 3) := by decide +kernel
theorem dX11_enclose_61 : decode cX11_enclose 61 = .ok (.iload_n 1, 1) := by decide +kernel
theorem dX11_enclose_62 : decode cX11_enclose 62 = .ok (.invokevirtual 120, 3) := by decide +kernel
theorem dX11_enclose_65 : decode cX11_enclose 65 = .ok (.ireturn, 1) := by decide +kernel
theorem dX11_chain_0 : decode cX11_chain 0 = .ok (.iload_n 1, 1) := by decide +kernel
theorem dX11_chain_1 : decode cX11_chain 1 = .ok (.iconst 1, 1) := by decide +kernel
theorem dX11_chain_2 : decode cX11_chain 2 = .ok (.if_icmp .lt 26, 3) := by decide +kernel
theorem dX11_chain_5 : decode cX11_chain 5 = .ok (.iload_n 1, 1) := by decide +kernel
theorem dX11_chain_6 : decode cX11_chain 6 = .ok (.sipush 400, 3) := by decide +kernel
theorem dX11_chain_9 : decode cX11_chain 9 = .ok (.if_icmp .gt 19, 3) := by decide +kernel
theorem dX11_chain_12 : decode cX11_chain 12 = .ok (.iload 4, 2) := by decide +kernel
theorem dX11_chain_14 : decode cX11_chain 14 = .ok (.iconst 1, 1) := by decide +kernel
theorem dX11_chain_15 : decode cX11_chain 15 = .ok (.if_icmp .lt 13, 3) := by decide +kernel
theorem dX11_chain_18 : decode cX11_chain 18 = .ok (.iload 4, 2) := by decide +kernel
theorem dX11_chain_20 : decode cX11_chain 20 = .ok (.iconst 4, 1) := by decide +kernel
theorem dX11_chain_21 : decode cX11_chain 21 = .ok (.if_icmp .gt 7, 3) := by decide +kernel
theorem dX11_chain_24 : decode cX11_chain 24 = .ok (.iconst 1, 1) := by decide +kernel
theorem dX11_chain_25 : decode cX11_chain 25 = .ok (.goto 4, 3) := by decide +kernel
theorem dX11_chain_28 : decode cX11_chain 28 = .ok (.iconst 0, 1) := by decide +kernel
theorem dX11_chain_29 : decode cX11_chain 29 = .ok (.istore 6, 2) := by decide +kernel
theorem dX11_chain_31 : decode cX11_chain 31 = .ok (.iload 6, 2) := by decide +kernel
theorem dX11_chain_33 : decode cX11_chain 33 = .ok (.ifCond .eq 28, 3) := by decide +kernel
theorem dX11_chain_36 : decode cX11_chain 36 = .ok (.iload_n 2, 1) := by decide +kernel
theorem dX11_chain_37 : decode cX11_chain 37 = .ok (.invokestatic 101, 3) := by decide +kernel
theorem dX11_chain_40 : decode cX11_chain 40 = .ok (.ifCond .eq 21, 3) := by decide +kernel
theorem dX11_chain_43 : decode cX11_chain 43 = .ok (.iload 5, 2) := by decide +kernel
theorem dX11_chain_45 : decode cX11_chain 45 = .ok (.iconst (-1), 1) := by decide +kernel
theorem dX11_chain_46 : decode cX11_chain 46 = .ok (.if_icmp .eq 18, 3) := by decide +kernel
theorem dX11_chain_49 : decode cX11_chain 49 = .ok (.aload_n 0, 1) := by decide +kernel
theorem dX11_chain_50 : decode cX11_chain 50 = .ok (.getfield 12, 3) := by decide +kernel
theorem dX11_chain_53 : decode cX11_chain 53 = .ok (.iload 5, 2) := by decide +kernel
theorem dX11_chain_55 : decode cX11_chain 55 = .ok (.invokevirtual 113, 3) := by decide +kernel
theorem dX11_chain_58 : decode cX11_chain 58 = .ok (.ifCond .ne 6, 3) := by decide +kernel
theorem dX11_chain_61 : decode cX11_chain 61 = .ok (.bipush (-2), 2) := by decide +kernel
theorem dX11_chain_63 : decode cX11_chain 63 = .ok (.ireturn, 1) := by decide +kernel
theorem dX11_chain_64 : decode cX11_chain 64 = .ok (.iload 5, 2) := by decide +kernel
theorem dX11_chain_66 : decode cX11_chain 66 = .ok (.iconst (-1), 1) := by decide +kernel
theorem dX11_chain_67 : decode cX11_chain 67 = .ok (.if_icmp .ne 9, 3) := by decide +kernel
theorem dX11_chain_70 : decode cX11_chain 70 = .ok (.iload_n 1, 1) := by decide +kernel
theorem dX11_chain_71 : decode cX11_chain 71 = .ok (.iconst 1, 1) := by decide +kernel
theorem dX11_chain_72 : decode cX11_chain 72 = .ok (.isub, 1) := by decide +kernel
theorem dX11_chain_73 : decode cX11_chain 73 = .ok (.goto 4, 3) := by decide +kernel
theorem dX11_chain_76 : decode cX11_chain 76 = .ok (.iload_n 1, 1) := by decide +kernel
theorem dX11_chain_77 : decode cX11_chain 77 = .ok (.istore 7, 2) := by decide +kernel
theorem dX11_chain_79 : decode cX11_chain 79 = .ok (.aload_n 0, 1) := by decide +kernel
theorem dX11_chain_80 : decode cX11_chain 80 = .ok (.getfield 12, 3) := by decide +kernel
theorem dX11_chain_83 : decode cX11_chain 83 = .ok (.iload_n 1, 1) := by decide +kernel
theorem dX11_chain_84 : decode cX11_chain 84 = .ok (.iload 7, 2) := by decide +kernel
theorem dX11_chain_86 : decode cX11_chain 86 = .ok (.iload 4, 2) := by decide +kernel
theorem dX11_chain_88 : decode cX11_chain 88 = .ok (.imul, 1) := by decide +kernel
theorem dX11_chain_89 : decode cX11_chain 89 = .ok (.invokevirtual 105, 3) := by decide +kernel
theorem dX11_chain_92 : decode cX11_chain 92 = .ok (.ifCond .ne 6, 3) := by decide +kernel
theorem dX11_chain_95 : decode cX11_chain 95 = .ok (.bipush (-4), 2) := by decide +kernel
theorem dX11_chain_97 : decode cX11_chain 97 = .ok (.ireturn, 1) := by decide +kernel
theorem dX11_chain_98 : decode cX11_chain 98 = .ok (.iload 5, 2) := by decide +kernel
theorem dX11_chain_100 : decode cX11_chain 100 = .ok (.istore 8, 2) := by decide +kernel
theorem dX11_chain_102 : decode cX11_chain 102 = .ok (.iconst 0, 1) := by decide +kernel
theorem dX11_chain_103 : decode cX11_chain 103 = .ok (.istore 9, 2) := by decide +kernel
theorem dX11_chain_105 : decode cX11_chain 105 = .ok (.iload 9, 2) := by decide +kernel
theorem dX11_chain_107 : decode cX11_chain 107 = .ok (.iload_n 1, 1) := by decide +kernel
theorem dX11_chain_108 : decode cX11_chain 108 = .ok (.if_icmp .ge 21, 3) := by decide +kernel
theorem dX11_chain_111 : decode cX11_chain 111 = .ok (.aload_n 0, 1) := by decide +kernel
theorem dX11_chain_112 : decode cX11_chain 112 = .ok (.iload_n 2, 1) := by decide +kernel
theorem dX11_chain_113 : decode cX11_chain 113 = .ok (.iload_n 3, 1) := by decide +kernel
theorem dX11_chain_114 : decode cX11_chain 114 = .ok (.iload 4, 2) := by decide +kernel
theorem dX11_chain_116 : decode cX11_chain 116 = .ok (.iload 8, 2) := by decide +kernel
theorem dX11_chain_118 : decode cX11_chain 118 = .ok (.invokevirtual 124, 3) := by decide +kernel
theorem dX11_chain_121 : decode cX11_chain 121 = .ok (.istore 8, 2) := by decide +kernel
theorem dX11_chain_123 : decode cX11_chain 123 = .ok (.iinc 9 1, 3) := by decide +kernel
theorem dX11_chain_126 : decode cX11_chain 126 = .ok (.goto (-21), 3) := by decide +kernel
theorem dX11_chain_129 : decode cX11_chain 129 = .ok (.iload 8, 2) := by decide +kernel
theorem dX11_chain_131 : decode cX11_chain 131 = .ok (.ireturn, 1) := by decide +kernel
theorem dX11_link_0 : decode cX11_link 0 = .ok (.aload_n 0, 1) := by decide +kernel
theorem dX11_link_1 : decode cX11_link 1 = .ok (.getfield 12, 3) := by decide +kernel
theorem dX11_link_4 : decode cX11_link 4 = .ok (.iload_n 1, 1) := by decide +kernel
theorem dX11_link_5 : decode cX11_link 5 = .ok (.iload_n 2, 1) := by decide +kernel
theorem dX11_link_6 : decode cX11_link 6 = .ok (.invokevirtual 109, 3) := by decide +kernel
theorem dX11_link_9 : decode cX11_link 9 = .ok (.istore 5, 2) := by decide +kernel
theorem dX11_link_11 : decode cX11_link 11 = .ok (.iconst 0, 1) := by decide +kernel
theorem dX11_link_12 : decode cX11_link 12 = .ok (.istore 6, 2) := by decide +kernel
theorem dX11_link_14 : decode cX11_link 14 = .ok (.iload 6, 2) := by decide +kernel
theorem dX11_link_16 : decode cX11_link 16 = .ok (.iload_n 3, 1) := by decide +kernel
theorem dX11_link_17 : decode cX11_link 17 = .ok (.if_icmp .ge 26, 3) := by decide +kernel
theorem dX11_link_20 : decode cX11_link 20 = .ok (.iload 4, 2) := by decide +kernel
theorem dX11_link_22 : decode cX11_link 22 = .ok (.iconst (-1), 1) := by decide +kernel
theorem dX11_link_23 : decode cX11_link 23 = .ok (.if_icmp .eq 20, 3) := by decide +kernel
theorem dX11_link_26 : decode cX11_link 26 = .ok (.aload_n 0, 1) := by decide +kernel
theorem dX11_link_27 : decode cX11_link 27 = .ok (.getfield 12, 3) := by decide +kernel
theorem dX11_link_30 : decode cX11_link 30 = .ok (.iload 5, 2) := by decide +kernel
theorem dX11_link_32 : decode cX11_link 32 = .ok (.iload 4, 2) := by decide +kernel
theorem dX11_link_34 : decode cX11_link 34 = .ok (.invokevirtual 116, 3) := by decide +kernel
theorem dX11_link_37 : decode cX11_link 37 = .ok (.iinc 6 1, 3) := by decide +kernel
theorem dX11_link_40 : decode cX11_link 40 = .ok (.goto (-26), 3) := by decide +kernel
theorem dX11_link_43 : decode cX11_link 43 = .ok (.iload 5, 2) := by decide +kernel
theorem dX11_link_45 : decode cX11_link 45 = .ok (.ireturn, 1) := by decide +kernel
theorem dX11_way_0 : decode cX11_way 0 = .ok (.iload_n 1, 1) := by decide +kernel
theorem dX11_way_1 : decode cX11_way 1 = .ok (.ifCond .lt 8, 3) := by decide +kernel
theorem dX11_way_4 : decode cX11_way 4 = .ok (.iload_n 1, 1) := by decide +kernel
theorem dX11_way_5 : decode cX11_way 5 = .ok (.iconst 3, 1) := by decide +kernel
theorem dX11_way_6 : decode cX11_way 6 = .ok (.if_icmp .le 6, 3) := by decide +kernel
theorem dX11_way_9 : decode cX11_way 9 = .ok (.bipush (-2), 2) := by decide +kernel
theorem dX11_way_11 : decode cX11_way 11 = .ok (.ireturn, 1) := by decide +kernel
theorem dX11_way_12 : decode cX11_way 12 = .ok (.aload_n 0, 1) := by decide +kernel
theorem dX11_way_13 : decode cX11_way 13 = .ok (.getfield 97, 3) := by decide +kernel
theorem dX11_way_16 : decode cX11_way 16 = .ok (.getfield 128, 3) := by decide +kernel
theorem dX11_way_19 : decode cX11_way 19 = .ok (.istore_n 2, 1) := by decide +kernel
theorem dX11_way_20 : decode cX11_way 20 = .ok (.aload_n 0, 1) := by decide +kernel
theorem dX11_way_21 : decode cX11_way 21 = .ok (.getfield 97, 3) := by decide +kernel
theorem dX11_way_24 : decode cX11_way 24 = .ok (.iload_n 1, 1) := by decide +kernel
theorem dX11_way_25 : decode cX11_way 25 = .ok (.putfield 128, 3) := by decide +kernel
theorem dX11_way_28 : decode cX11_way 28 = .ok (.iload_n 2, 1) := by decide +kernel
theorem dX11_way_29 : decode cX11_way 29 = .ok (.ireturn, 1) := by decide +kernel
theorem dX11_meter_0 : decode cX11_meter 0 = .ok (.iload_n 1, 1) := by decide +kernel
theorem dX11_meter_1 : decode cX11_meter 1 = .ok (.iconst 1, 1) := by decide +kernel
theorem dX11_meter_2 : decode cX11_meter 2 = .ok (.if_icmp .lt 10, 3) := by decide +kernel
theorem dX11_meter_5 : decode cX11_meter 5 = .ok (.iload_n 1, 1) := by decide +kernel
theorem dX11_meter_6 : decode cX11_meter 6 = .ok (.sipush 300, 3) := by decide +kernel
theorem dX11_meter_9 : decode cX11_meter 9 = .ok (.if_icmp .le 6, 3) := by decide +kernel
theorem dX11_meter_12 : decode cX11_meter 12 = .ok (.bipush (-2), 2) := by decide +kernel
theorem dX11_meter_14 : decode cX11_meter 14 = .ok (.ireturn, 1) := by decide +kernel
theorem dX11_meter_15 : decode cX11_meter 15 = .ok (.aload_n 0, 1) := by decide +kernel
theorem dX11_meter_16 : decode cX11_meter 16 = .ok (.getfield 97, 3) := by decide +kernel
theorem dX11_meter_19 : decode cX11_meter 19 = .ok (.getfield 132, 3) := by decide +kernel
theorem dX11_meter_22 : decode cX11_meter 22 = .ok (.istore_n 2, 1) := by decide +kernel
theorem dX11_meter_23 : decode cX11_meter 23 = .ok (.aload_n 0, 1) := by decide +kernel
theorem dX11_meter_24 : decode cX11_meter 24 = .ok (.getfield 97, 3) := by decide +kernel
theorem dX11_meter_27 : decode cX11_meter 27 = .ok (.iload_n 1, 1) := by decide +kernel
theorem dX11_meter_28 : decode cX11_meter 28 = .ok (.putfield 132, 3) := by decide +kernel
theorem dX11_meter_31 : decode cX11_meter 31 = .ok (.iload_n 2, 1) := by decide +kernel
theorem dX11_meter_32 : decode cX11_meter 32 = .ok (.ireturn, 1) := by decide +kernel
theorem dX11_of_0 : decode cX11_of 0 = .ok (.aload_n 0, 1) := by decide +kernel
theorem dX11_of_1 : decode cX11_of 1 = .ok (.getfield 12, 3) := by decide +kernel
theorem dX11_of_4 : decode cX11_of 4 = .ok (.iload_n 1, 1) := by decide +kernel
theorem dX11_of_5 : decode cX11_of 5 = .ok (.invokevirtual 113, 3) := by decide +kernel
theorem dX11_of_8 : decode cX11_of 8 = .ok (.ifCond .ne 6, 3) := by decide +kernel
theorem dX11_of_11 : decode cX11_of 11 = .ok (.ldc 135, 2) := by decide +kernel
theorem dX11_of_13 : decode cX11_of 13 = .ok (.ireturn, 1) := by decide +kernel
theorem dX11_of_14 : decode cX11_of 14 = .ok (.iload_n 2, 1) := by decide +kernel
theorem dX11_of_15 : decode cX11_of 15 = .ok (.tableswitch 54 0 2 #[25, 35, 44], 25) := by decide +kernel
theorem dX11_of_40 : decode cX11_of 40 = .ok (.aload_n 0, 1) := by decide +kernel
theorem dX11_of_41 : decode cX11_of 41 = .ok (.getfield 12, 3) := by decide +kernel
theorem dX11_of_44 : decode cX11_of 44 = .ok (.getfield 136, 3) := by decide +kernel
theorem dX11_of_47 : decode cX11_of 47 = .ok (.iload_n 1, 1) := by decide +kernel
theorem dX11_of_48 : decode cX11_of 48 = .ok (.iaload, 1) := by decide +kernel
theorem dX11_of_49 : decode cX11_of 49 = .ok (.ireturn, 1) := by decide +kernel
theorem dX11_of_50 : decode cX11_of 50 = .ok (.aload_n 0, 1) := by decide +kernel
theorem dX11_of_51 : decode cX11_of 51 = .ok (.getfield 12, 3) := by decide +kernel
theorem dX11_of_54 : decode cX11_of 54 = .ok (.iload_n 1, 1) := by decide +kernel
theorem dX11_of_55 : decode cX11_of 55 = .ok (.invokevirtual 120, 3) := by decide +kernel
theorem dX11_of_58 : decode cX11_of 58 = .ok (.ireturn, 1) := by decide +kernel
theorem dX11_of_59 : decode cX11_of 59 = .ok (.aload_n 0, 1) := by decide +kernel
theorem dX11_of_60 : decode cX11_of 60 = .ok (.getfield 12, 3) := by decide +kernel
theorem dX11_of_63 : decode cX11_of 63 = .ok (.getfield 140, 3) := by decide +kernel
theorem dX11_of_66 : decode cX11_of 66 = .ok (.iload_n 1, 1) := by decide +kernel
theorem dX11_of_67 : decode cX11_of 67 = .ok (.iaload, 1) := by decide +kernel
theorem dX11_of_68 : decode cX11_of 68 = .ok (.ireturn, 1) := by decide +kernel
theorem dX11_of_69 : decode cX11_of 69 = .ok (.ldc 135, 2) := by decide +kernel
theorem dX11_of_71 : decode cX11_of 71 = .ok (.ireturn, 1) := by decide +kernel
theorem dX11_part_0 : decode cX11_part 0 = .ok (.aload_n 0, 1) := by decide +kernel
theorem dX11_part_1 : decode cX11_part 1 = .ok (.getfield 12, 3) := by decide +kernel
theorem dX11_part_4 : decode cX11_part 4 = .ok (.iload_n 1, 1) := by decide +kernel
theorem dX11_part_5 : decode cX11_part 5 = .ok (.invokevirtual 113, 3) := by decide +kernel
theorem dX11_part_8 : decode cX11_part 8 = .ok (.ifCond .eq 19, 3) := by decide +kernel
theorem dX11_part_11 : decode cX11_part 11 = .ok (.iload_n 2, 1) := by decide +kernel
theorem dX11_part_12 : decode cX11_part 12 = .ok (.ifCond .lt 15, 3) := by decide +kernel
theorem dX11_part_15 : decode cX11_part 15 = .ok (.iload_n 2, 1) := by decide +kernel
theorem dX11_part_16 : decode cX11_part 16 = .ok (.aload_n 0, 1) := by decide +kernel
theorem dX11_part_17 : decode cX11_part 17 = .ok (.getfield 12, 3) := by decide +kernel
theorem dX11_part_20 : decode cX11_part 20 = .ok (.iload_n 1, 1) := by decide +kernel
theorem dX11_part_21 : decode cX11_part 21 = .ok (.invokevirtual 120, 3) := by decide +kernel
theorem dX11_part_24 : decode cX11_part 24 = .ok (.if_icmp .lt 6, 3) := by decide +kernel
theorem dX11_part_27 : decode cX11_part 27 = .ok (.bipush (-2), 2) := by decide +kernel
theorem dX11_part_29 : decode cX11_part 29 = .ok (.ireturn, 1) := by decide +kernel
theorem dX11_part_30 : decode cX11_part 30 = .ok (.aload_n 0, 1) := by decide +kernel
theorem dX11_part_31 : decode cX11_part 31 = .ok (.getfield 12, 3) := by decide +kernel
theorem dX11_part_34 : decode cX11_part 34 = .ok (.iload_n 1, 1) := by decide +kernel
theorem dX11_part_35 : decode cX11_part 35 = .ok (.iload_n 2, 1) := by decide +kernel
theorem dX11_part_36 : decode cX11_part 36 = .ok (.invokevirtual 143, 3) := by decide +kernel
theorem dX11_part_39 : decode cX11_part 39 = .ok (.ireturn, 1) := by decide +kernel
theorem dX11_size_0 : decode cX11_size 0 = .ok (.aload_n 0, 1) := by decide +kernel
theorem dX11_size_1 : decode cX11_size 1 = .ok (.getfield 97, 3) := by decide +kernel
theorem dX11_size_4 : decode cX11_size 4 = .ok (.aload_n 0, 1) := by decide +kernel
theorem dX11_size_5 : decode cX11_size 5 = .ok (.getfield 44, 3) := by decide +kernel
theorem dX11_size_8 : decode cX11_size 8 = .ok (.iload_n 1, 1) := by decide +kernel
theorem dX11_size_9 : decode cX11_size 9 = .ok (.invokevirtual 146, 3) := by decide +kernel
theorem dX11_size_12 : decode cX11_size 12 = .ok (.istore_n 2, 1) := by decide +kernel
theorem dX11_size_13 : decode cX11_size 13 = .ok (.iload_n 2, 1) := by decide +kernel
theorem dX11_size_14 : decode cX11_size 14 = .ok (.ifCond .ne 13, 3) := by decide +kernel
theorem dX11_size_17 : decode cX11_size 17 = .ok (.aload_n 0, 1) := by decide +kernel
theorem dX11_size_18 : decode cX11_size 18 = .ok (.getfield 97, 3) := by decide +kernel
theorem dX11_size_21 : decode cX11_size 21 = .ok (.getfield 150, 3) := by decide +kernel
theorem dX11_size_24 : decode cX11_size 24 = .ok (.goto 4, 3) := by decide +kernel
theorem dX11_size_27 : decode cX11_size 27 = .ok (.iload_n 2, 1) := by decide +kernel
theorem dX11_size_28 : decode cX11_size 28 = .ok (.ireturn, 1) := by decide +kernel
theorem dX11_depth_0 : decode cX11_depth 0 = .ok (.aload_n 0, 1) := by decide +kernel
theorem dX11_depth_1 : decode cX11_depth 1 = .ok (.getfield 97, 3) := by decide +kernel
theorem dX11_depth_4 : decode cX11_depth 4 = .ok (.aload_n 0, 1) := by decide +kernel
theorem dX11_depth_5 : decode cX11_depth 5 = .ok (.getfield 44, 3) := by decide +kernel
theorem dX11_depth_8 : decode cX11_depth 8 = .ok (.iload_n 1, 1) := by decide +kernel
theorem dX11_depth_9 : decode cX11_depth 9 = .ok (.invokevirtual 146, 3) := by decide +kernel
theorem dX11_depth_12 : decode cX11_depth 12 = .ok (.istore_n 2, 1) := by decide +kernel
theorem dX11_depth_13 : decode cX11_depth 13 = .ok (.iload_n 2, 1) := by decide +kernel
theorem dX11_depth_14 : decode cX11_depth 14 = .ok (.ifCond .ne 13, 3) := by decide +kernel
theorem dX11_depth_17 : decode cX11_depth 17 = .ok (.aload_n 0, 1) := by decide +kernel
theorem dX11_depth_18 : decode cX11_depth 18 = .ok (.getfield 97, 3) := by decide +kernel
theorem dX11_depth_21 : decode cX11_depth 21 = .ok (.getfield 153, 3) := by decide +kernel
theorem dX11_depth_24 : decode cX11_depth 24 = .ok (.goto 4, 3) := by decide +kernel
theorem dX11_depth_27 : decode cX11_depth 27 = .ok (.iload_n 2, 1) := by decide +kernel
theorem dX11_depth_28 : decode cX11_depth 28 = .ok (.ireturn, 1) := by decide +kernel
theorem dX11_worth_0 : decode cX11_worth 0 = .ok (.aload_n 0, 1) := by decide +kernel
theorem dX11_worth_1 : decode cX11_worth 1 = .ok (.getfield 97, 3) := by decide +kernel
theorem dX11_worth_4 : decode cX11_worth 4 = .ok (.aload_n 0, 1) := by decide +kernel
theorem dX11_worth_5 : decode cX11_worth 5 = .ok (.getfield 53, 3) := by decide +kernel
theorem dX11_worth_8 : decode cX11_worth 8 = .ok (.iload_n 1, 1) := by decide +kernel
theorem dX11_worth_9 : decode cX11_worth 9 = .ok (.invokevirtual 146, 3) := by decide +kernel
theorem dX11_worth_12 : decode cX11_worth 12 = .ok (.ifCond .ne 12, 3) := by decide +kernel
theorem dX11_worth_15 : decode cX11_worth 15 = .ok (.aload_n 0, 1) := by decide +kernel
theorem dX11_worth_16 : decode cX11_worth 16 = .ok (.getfield 35, 3) := by decide +kernel
theorem dX11_worth_19 : decode cX11_worth 19 = .ok (.iconst 1, 1) := by decide +kernel
theorem dX11_worth_20 : decode cX11_worth 20 = .ok (.laload, 1) := by decide +kernel
theorem dX11_worth_21 : decode cX11_worth 21 = .ok (.goto 4, 3) := by decide +kernel
theorem dX11_worth_24 : decode cX11_worth 24 = .ok (.lconst 0, 1) := by decide +kernel
theorem dX11_worth_25 : decode cX11_worth 25 = .ok (.lreturn, 1) := by decide +kernel
theorem dX11_mark_0 : decode cX11_mark 0 = .ok (.aload_n 0, 1) := by decide +kernel
theorem dX11_mark_1 : decode cX11_mark 1 = .ok (.getfield 97, 3) := by decide +kernel
theorem dX11_mark_4 : decode cX11_mark 4 = .ok (.aload_n 0, 1) := by decide +kernel
theorem dX11_mark_5 : decode cX11_mark 5 = .ok (.getfield 60, 3) := by decide +kernel
theorem dX11_mark_8 : decode cX11_mark 8 = .ok (.iload_n 1, 1) := by decide +kernel
theorem dX11_mark_9 : decode cX11_mark 9 = .ok (.invokevirtual 146, 3) := by decide +kernel
theorem dX11_mark_12 : decode cX11_mark 12 = .ok (.ifCond .ne 12, 3) := by decide +kernel
theorem dX11_mark_15 : decode cX11_mark 15 = .ok (.aload_n 0, 1) := by decide +kernel
theorem dX11_mark_16 : decode cX11_mark 16 = .ok (.getfield 35, 3) := by decide +kernel
theorem dX11_mark_19 : decode cX11_mark 19 = .ok (.iconst 1, 1) := by decide +kernel
theorem dX11_mark_20 : decode cX11_mark 20 = .ok (.laload, 1) := by decide +kernel
theorem dX11_mark_21 : decode cX11_mark 21 = .ok (.goto 4, 3) := by decide +kernel
theorem dX11_mark_24 : decode cX11_mark 24 = .ok (.lconst 0, 1) := by decide +kernel
theorem dX11_mark_25 : decode cX11_mark 25 = .ok (.lreturn, 1) := by decide +kernel
theorem dX11_alike_0 : decode cX11_alike 0 = .ok (.aload_n 0, 1) := by decide +kernel
theorem dX11_alike_1 : decode cX11_alike 1 = .ok (.getfield 12, 3) := by decide +kernel
theorem dX11_alike_4 : decode cX11_alike 4 = .ok (.iload_n 2, 1) := by decide +kernel
theorem dX11_alike_5 : decode cX11_alike 5 = .ok (.invokevirtual 113, 3) := by decide +kernel
theorem dX11_alike_8 : decode cX11_alike 8 = .ok (.ifCond .ne 11, 3) := by decide +kernel
theorem dX11_alike_11 : decode cX11_alike 11 = .ok (.aload_n 0, 1) := by decide +kernel
theorem dX11_alike_12 : decode cX11_alike 12 = .ok (.getfield 97, 3) := by decide +kernel
theorem dX11_alike_15 : decode cX11_alike 15 = .ok (.invokevirtual 156, 3) := by decide +kernel
theorem dX11_alike_18 : decode cX11_alike 18 = .ok (.ireturn, 1) := by decide +kernel
theorem dX11_alike_19 : decode cX11_alike 19 = .ok (.aload_n 0, 1) := by decide +kernel
theorem dX11_alike_20 : decode cX11_alike 20 = .ok (.getfield 67, 3) := by decide +kernel
theorem dX11_alike_23 : decode cX11_alike 23 = .ok (.iload_n 2, 1) := by decide +kernel
theorem dX11_alike_24 : decode cX11_alike 24 = .ok (.invokevirtual 160, 3) := by decide +kernel
theorem dX11_alike_27 : decode cX11_alike 27 = .ok (.aload_n 0, 1) := by decide +kernel
theorem dX11_alike_28 : decode cX11_alike 28 = .ok (.getfield 97, 3) := by decide +kernel
theorem dX11_alike_31 : decode cX11_alike 31 = .ok (.aload_n 0, 1) := by decide +kernel
theorem dX11_alike_32 : decode cX11_alike 32 = .ok (.getfield 67, 3) := by decide +kernel
theorem dX11_alike_35 : decode cX11_alike 35 = .ok (.iload_n 1, 1) := by decide +kernel
theorem dX11_alike_36 : decode cX11_alike 36 = .ok (.invokevirtual 146, 3) := by decide +kernel
theorem dX11_alike_39 : decode cX11_alike 39 = .ok (.istore_n 3, 1) := by decide +kernel
theorem dX11_alike_40 : decode cX11_alike 40 = .ok (.iload_n 3, 1) := by decide +kernel
theorem dX11_alike_41 : decode cX11_alike 41 = .ok (.ifCond .eq 5, 3) := by decide +kernel
theorem dX11_alike_44 : decode cX11_alike 44 = .ok (.iload_n 3, 1) := by decide +kernel
theorem dX11_alike_45 : decode cX11_alike 45 = .ok (.ireturn, 1) := by decide +kernel
theorem dX11_alike_46 : decode cX11_alike 46 = .ok (.aload_n 0, 1) := by decide +kernel
theorem dX11_alike_47 : decode cX11_alike 47 = .ok (.getfield 67, 3) := by decide +kernel
theorem dX11_alike_50 : decode cX11_alike 50 = .ok (.getfield 164, 3) := by decide +kernel
theorem dX11_alike_53 : decode cX11_alike 53 = .ok (.ifCond .eq 7, 3) := by decide +kernel
theorem dX11_alike_56 : decode cX11_alike 56 = .ok (.iconst 0, 1) := by decide +kernel
theorem dX11_alike_57 : decode cX11_alike 57 = .ok (.goto 4, 3) := by decide +kernel
theorem dX11_alike_60 : decode cX11_alike 60 = .ok (.iconst 1, 1) := by decide +kernel
theorem dX11_alike_61 : decode cX11_alike 61 = .ok (.ireturn, 1) := by decide +kernel
theorem dX11_write_0 : decode cX11_write 0 = .ok (.aload_n 0, 1) := by decide +kernel
theorem dX11_write_1 : decode cX11_write 1 = .ok (.getfield 23, 3) := by decide +kernel
theorem dX11_write_4 : decode cX11_write 4 = .ok (.invokevirtual 168, 3) := by decide +kernel
theorem dX11_write_7 : decode cX11_write 7 = .ok (.aload_n 0, 1) := by decide +kernel
theorem dX11_write_8 : decode cX11_write 8 = .ok (.getfield 97, 3) := by decide +kernel
theorem dX11_write_11 : decode cX11_write 11 = .ok (.aload_n 0, 1) := by decide +kernel
theorem dX11_write_12 : decode cX11_write 12 = .ok (.getfield 74, 3) := by decide +kernel
theorem dX11_write_15 : decode cX11_write 15 = .ok (.iload_n 1, 1) := by decide +kernel
theorem dX11_write_16 : decode cX11_write 16 = .ok (.invokevirtual 146, 3) := by decide +kernel
theorem dX11_write_19 : decode cX11_write 19 = .ok (.istore_n 2, 1) := by decide +kernel
theorem dX11_write_20 : decode cX11_write 20 = .ok (.iload_n 2, 1) := by decide +kernel
theorem dX11_write_21 : decode cX11_write 21 = .ok (.ifCond .eq 5, 3) := by decide +kernel
theorem dX11_write_24 : decode cX11_write 24 = .ok (.iload_n 2, 1) := by decide +kernel
theorem dX11_write_25 : decode cX11_write 25 = .ok (.ireturn, 1) := by decide +kernel
theorem dX11_write_26 : decode cX11_write 26 = .ok (.aload_n 0, 1) := by decide +kernel
theorem dX11_write_27 : decode cX11_write 27 = .ok (.getfield 23, 3) := by decide +kernel
theorem dX11_write_30 : decode cX11_write 30 = .ok (.getfield 171, 3) := by decide +kernel
theorem dX11_write_33 : decode cX11_write 33 = .ok (.ifCond .eq 6, 3) := by decide +kernel
theorem dX11_write_36 : decode cX11_write 36 = .ok (.bipush (-4), 2) := by decide +kernel
theorem dX11_write_38 : decode cX11_write 38 = .ok (.ireturn, 1) := by decide +kernel
theorem dX11_write_39 : decode cX11_write 39 = .ok (.aload_n 0, 1) := by decide +kernel
theorem dX11_write_40 : decode cX11_write 40 = .ok (.getfield 19, 3) := by decide +kernel
theorem dX11_write_43 : decode cX11_write 43 = .ok (.aload_n 0, 1) := by decide +kernel
theorem dX11_write_44 : decode cX11_write 44 = .ok (.getfield 23, 3) := by decide +kernel
theorem dX11_write_47 : decode cX11_write 47 = .ok (.invokevirtual 174, 3) := by decide +kernel
theorem dX11_write_50 : decode cX11_write 50 = .ok (.aload_n 0, 1) := by decide +kernel
theorem dX11_write_51 : decode cX11_write 51 = .ok (.getfield 19, 3) := by decide +kernel
theorem dX11_write_54 : decode cX11_write 54 = .ok (.getfield 178, 3) := by decide +kernel
theorem dX11_write_57 : decode cX11_write 57 = .ok (.ireturn, 1) := by decide +kernel
theorem dX11_find_0 : decode cX11_find 0 = .ok (.iload_n 2, 1) := by decide +kernel
theorem dX11_find_1 : decode cX11_find 1 = .ok (.invokestatic 101, 3) := by decide +kernel
theorem dX11_find_4 : decode cX11_find 4 = .ok (.ifCond .ne 11, 3) := by decide +kernel
theorem dX11_find_7 : decode cX11_find 7 = .ok (.aload_n 0, 1) := by decide +kernel
theorem dX11_find_8 : decode cX11_find 8 = .ok (.getfield 97, 3) := by decide +kernel
theorem dX11_find_11 : decode cX11_find 11 = .ok (.invokevirtual 156, 3) := by decide +kernel
theorem dX11_find_14 : decode cX11_find 14 = .ok (.ireturn, 1) := by decide +kernel
theorem dX11_find_15 : decode cX11_find 15 = .ok (.aload_n 0, 1) := by decide +kernel
theorem dX11_find_16 : decode cX11_find 16 = .ok (.getfield 81, 3) := by decide +kernel
theorem dX11_find_19 : decode cX11_find 19 = .ok (.iload_n 2, 1) := by decide +kernel
theorem dX11_find_20 : decode cX11_find 20 = .ok (.iload_n 3, 1) := by decide +kernel
theorem dX11_find_21 : decode cX11_find 21 = .ok (.invokevirtual 181, 3) := by decide +kernel
theorem dX11_find_24 : decode cX11_find 24 = .ok (.aload_n 0, 1) := by decide +kernel
theorem dX11_find_25 : decode cX11_find 25 = .ok (.getfield 97, 3) := by decide +kernel
theorem dX11_find_28 : decode cX11_find 28 = .ok (.aload_n 0, 1) := by decide +kernel
theorem dX11_find_29 : decode cX11_find 29 = .ok (.getfield 81, 3) := by decide +kernel
theorem dX11_find_32 : decode cX11_find 32 = .ok (.iload_n 1, 1) := by decide +kernel
theorem dX11_find_33 : decode cX11_find 33 = .ok (.invokevirtual 146, 3) := by decide +kernel
theorem dX11_find_36 : decode cX11_find 36 = .ok (.istore 4, 2) := by decide +kernel
theorem dX11_find_38 : decode cX11_find 38 = .ok (.iload 4, 2) := by decide +kernel
theorem dX11_find_40 : decode cX11_find 40 = .ok (.ifCond .eq 6, 3) := by decide +kernel
theorem dX11_find_43 : decode cX11_find 43 = .ok (.iload 4, 2) := by decide +kernel
theorem dX11_find_45 : decode cX11_find 45 = .ok (.ireturn, 1) := by decide +kernel
theorem dX11_find_46 : decode cX11_find 46 = .ok (.aload_n 0, 1) := by decide +kernel
theorem dX11_find_47 : decode cX11_find 47 = .ok (.getfield 81, 3) := by decide +kernel
theorem dX11_find_50 : decode cX11_find 50 = .ok (.getfield 183, 3) := by decide +kernel
theorem dX11_find_53 : decode cX11_find 53 = .ok (.ifCond .eq 15, 3) := by decide +kernel
theorem dX11_find_56 : decode cX11_find 56 = .ok (.aload_n 0, 1) := by decide +kernel
theorem dX11_find_57 : decode cX11_find 57 = .ok (.getfield 97, 3) := by decide +kernel
theorem dX11_find_60 : decode cX11_find 60 = .ok (.getfield 150, 3) := by decide +kernel
theorem dX11_find_63 : decode cX11_find 63 = .ok (.iconst 1, 1) := by decide +kernel
theorem dX11_find_64 : decode cX11_find 64 = .ok (.isub, 1) := by decide +kernel
theorem dX11_find_65 : decode cX11_find 65 = .ok (.goto 4, 3) := by decide +kernel
theorem dX11_find_68 : decode cX11_find 68 = .ok (.iconst (-1), 1) := by decide +kernel
theorem dX11_find_69 : decode cX11_find 69 = .ok (.ireturn, 1) := by decide +kernel
theorem dX11_widest_0 : decode cX11_widest 0 = .ok (.iload_n 2, 1) := by decide +kernel
theorem dX11_widest_1 : decode cX11_widest 1 = .ok (.ifCond .lt 8, 3) := by decide +kernel
theorem dX11_widest_4 : decode cX11_widest 4 = .ok (.iload_n 2, 1) := by decide +kernel
theorem dX11_widest_5 : decode cX11_widest 5 = .ok (.iconst 1, 1) := by decide +kernel
theorem dX11_widest_6 : decode cX11_widest 6 = .ok (.if_icmp .le 11, 3) := by decide +kernel
theorem dX11_widest_9 : decode cX11_widest 9 = .ok (.aload_n 0, 1) := by decide +kernel
theorem dX11_widest_10 : decode cX11_widest 10 = .ok (.getfield 97, 3) := by decide +kernel
theorem dX11_widest_13 : decode cX11_widest 13 = .ok (.invokevirtual 156, 3) := by decide +kernel
theorem dX11_widest_16 : decode cX11_widest 16 = .ok (.ireturn, 1) := by decide +kernel
theorem dX11_widest_17 : decode cX11_widest 17 = .ok (.aload_n 0, 1) := by decide +kernel
theorem dX11_widest_18 : decode cX11_widest 18 = .ok (.getfield 97, 3) := by decide +kernel
theorem dX11_widest_21 : decode cX11_widest 21 = .ok (.aload_n 0, 1) := by decide +kernel
theorem dX11_widest_22 : decode cX11_widest 22 = .ok (.getfield 44, 3) := by decide +kernel
theorem dX11_widest_25 : decode cX11_widest 25 = .ok (.iload_n 1, 1) := by decide +kernel
theorem dX11_widest_26 : decode cX11_widest 26 = .ok (.invokevirtual 146, 3) := by decide +kernel
theorem dX11_widest_29 : decode cX11_widest 29 = .ok (.istore_n 3, 1) := by decide +kernel
theorem dX11_widest_30 : decode cX11_widest 30 = .ok (.iload_n 3, 1) := by decide +kernel
theorem dX11_widest_31 : decode cX11_widest 31 = .ok (.ifCond .eq 5, 3) := by decide +kernel
theorem dX11_widest_34 : decode cX11_widest 34 = .ok (.iload_n 3, 1) := by decide +kernel
theorem dX11_widest_35 : decode cX11_widest 35 = .ok (.ireturn, 1) := by decide +kernel
theorem dX11_widest_36 : decode cX11_widest 36 = .ok (.aload_n 0, 1) := by decide +kernel
theorem dX11_widest_37 : decode cX11_widest 37 = .ok (.getfield 97, 3) := by decide +kernel
theorem dX11_widest_40 : decode cX11_widest 40 = .ok (.invokevirtual 184, 3) := by decide +kernel
theorem dX11_widest_43 : decode cX11_widest 43 = .ok (.istore 4, 2) := by decide +kernel
theorem dX11_widest_45 : decode cX11_widest 45 = .ok (.iload_n 2, 1) := by decide +kernel
theorem dX11_widest_46 : decode cX11_widest 46 = .ok (.ifCond .ne 8, 3) := by decide +kernel
theorem dX11_widest_49 : decode cX11_widest 49 = .ok (.iload 4, 2) := by decide +kernel
theorem dX11_widest_51 : decode cX11_widest 51 = .ok (.goto 13, 3) := by decide +kernel
theorem dX11_widest_54 : decode cX11_widest 54 = .ok (.aload_n 0, 1) := by decide +kernel
theorem dX11_widest_55 : decode cX11_widest 55 = .ok (.getfield 97, 3) := by decide +kernel
theorem dX11_widest_58 : decode cX11_widest 58 = .ok (.getfield 187, 3) := by decide +kernel
theorem dX11_widest_61 : decode cX11_widest 61 = .ok (.iload 4, 2) := by decide +kernel
theorem dX11_widest_63 : decode cX11_widest 63 = .ok (.iaload, 1) := by decide +kernel
theorem dX11_widest_64 : decode cX11_widest 64 = .ok (.ireturn, 1) := by decide +kernel
theorem dX11_copy_0 : decode cX11_copy 0 = .ok (.aload_n 0, 1) := by decide +kernel
theorem dX11_copy_1 : decode cX11_copy 1 = .ok (.iload_n 1, 1) := by decide +kernel
theorem dX11_copy_2 : decode cX11_copy 2 = .ok (.ldc 190, 2) := by decide +kernel
theorem dX11_copy_4 : decode cX11_copy 4 = .ok (.iconst 0, 1) := by decide +kernel
theorem dX11_copy_5 : decode cX11_copy 5 = .ok (.invokevirtual 191, 3) := by decide +kernel
theorem dX11_copy_8 : decode cX11_copy 8 = .ok (.ireturn, 1) := by decide +kernel
theorem dX11_thin_0 : decode cX11_thin 0 = .ok (.aload_n 0, 1) := by decide +kernel
theorem dX11_thin_1 : decode cX11_thin 1 = .ok (.iload_n 1, 1) := by decide +kernel
theorem dX11_thin_2 : decode cX11_thin 2 = .ok (.iload_n 2, 1) := by decide +kernel
theorem dX11_thin_3 : decode cX11_thin 3 = .ok (.iconst 0, 1) := by decide +kernel
theorem dX11_thin_4 : decode cX11_thin 4 = .ok (.invokevirtual 191, 3) := by decide +kernel
theorem dX11_thin_7 : decode cX11_thin 7 = .ok (.ireturn, 1) := by decide +kernel
theorem dX11_order_0 : decode cX11_order 0 = .ok (.aload_n 0, 1) := by decide +kernel
theorem dX11_order_1 : decode cX11_order 1 = .ok (.iload_n 1, 1) := by decide +kernel
theorem dX11_order_2 : decode cX11_order 2 = .ok (.ldc 190, 2) := by decide +kernel
theorem dX11_order_4 : decode cX11_order 4 = .ok (.iconst 1, 1) := by decide +kernel
theorem dX11_order_5 : decode cX11_order 5 = .ok (.invokevirtual 191, 3) := by decide +kernel
theorem dX11_order_8 : decode cX11_order 8 = .ok (.ireturn, 1) := by decide +kernel
theorem dX11_remake_0 : decode cX11_remake 0 = .ok (.aload_n 0, 1) := by decide +kernel
theorem dX11_remake_1 : decode cX11_remake 1 = .ok (.getfield 88, 3) := by decide +kernel
theorem dX11_remake_4 : decode cX11_remake 4 = .ok (.iload_n 2, 1) := by decide +kernel
theorem dX11_remake_5 : decode cX11_remake 5 = .ok (.invokevirtual 195, 3) := by decide +kernel
theorem dX11_remake_8 : decode cX11_remake 8 = .ok (.aload_n 0, 1) := by decide +kernel
theorem dX11_remake_9 : decode cX11_remake 9 = .ok (.getfield 97, 3) := by decide +kernel
theorem dX11_remake_12 : decode cX11_remake 12 = .ok (.aload_n 0, 1) := by decide +kernel
theorem dX11_remake_13 : decode cX11_remake 13 = .ok (.getfield 88, 3) := by decide +kernel
theorem dX11_remake_16 : decode cX11_remake 16 = .ok (.iload_n 1, 1) := by decide +kernel
theorem dX11_remake_17 : decode cX11_remake 17 = .ok (.invokevirtual 146, 3) := by decide +kernel
theorem dX11_remake_20 : decode cX11_remake 20 = .ok (.istore 4, 2) := by decide +kernel
theorem dX11_remake_22 : decode cX11_remake 22 = .ok (.iload 4, 2) := by decide +kernel
theorem dX11_remake_24 : decode cX11_remake 24 = .ok (.ifCond .eq 6, 3) := by decide +kernel
theorem dX11_remake_27 : decode cX11_remake 27 = .ok (.iload 4, 2) := by decide +kernel
theorem dX11_remake_29 : decode cX11_remake 29 = .ok (.ireturn, 1) := by decide +kernel
theorem dX11_remake_30 : decode cX11_remake 30 = .ok (.aload_n 0, 1) := by decide +kernel
theorem dX11_remake_31 : decode cX11_remake 31 = .ok (.getfield 12, 3) := by decide +kernel
theorem dX11_remake_34 : decode cX11_remake 34 = .ok (.aload_n 0, 1) := by decide +kernel
theorem dX11_remake_35 : decode cX11_remake 35 = .ok (.getfield 88, 3) := by decide +kernel
theorem dX11_remake_38 : decode cX11_remake 38 = .ok (.getfield 198, 3) := by decide +kernel
theorem dX11_remake_41 : decode cX11_remake 41 = .ok (.aload_n 0, 1) := by decide +kernel
theorem dX11_remake_42 : decode cX11_remake 42 = .ok (.getfield 88, 3) := by decide +kernel
theorem dX11_remake_45 : decode cX11_remake 45 = .ok (.getfield 198, 3) := by decide +kernel
theorem dX11_remake_48 : decode cX11_remake 48 = .ok (.iconst 1, 1) := by decide +kernel
theorem dX11_remake_49 : decode cX11_remake 49 = .ok (.isub, 1) := by decide +kernel
theorem dX11_remake_50 : decode cX11_remake 50 = .ok (.invokevirtual 105, 3) := by decide +kernel
theorem dX11_remake_53 : decode cX11_remake 53 = .ok (.ifCond .ne 6, 3) := by decide +kernel
theorem dX11_remake_56 : decode cX11_remake 56 = .ok (.bipush (-4), 2) := by decide +kernel
theorem dX11_remake_58 : decode cX11_remake 58 = .ok (.ireturn, 1) := by decide +kernel
theorem dX11_remake_59 : decode cX11_remake 59 = .ok (.aload_n 0, 1) := by decide +kernel
theorem dX11_remake_60 : decode cX11_remake 60 = .ok (.getfield 88, 3) := by decide +kernel
theorem dX11_remake_63 : decode cX11_remake 63 = .ok (.iload_n 1, 1) := by decide +kernel
theorem dX11_remake_64 : decode cX11_remake 64 = .ok (.iload_n 3, 1) := by decide +kernel
theorem dX11_remake_65 : decode cX11_remake 65 = .ok (.invokevirtual 201, 3) := by decide +kernel
theorem dX11_remake_68 : decode cX11_remake 68 = .ok (.aload_n 0, 1) := by decide +kernel
theorem dX11_remake_69 : decode cX11_remake 69 = .ok (.getfield 97, 3) := by decide +kernel
theorem dX11_remake_72 : decode cX11_remake 72 = .ok (.aload_n 0, 1) := by decide +kernel
theorem dX11_remake_73 : decode cX11_remake 73 = .ok (.getfield 88, 3) := by decide +kernel
theorem dX11_remake_76 : decode cX11_remake 76 = .ok (.iload_n 1, 1) := by decide +kernel
theorem dX11_remake_77 : decode cX11_remake 77 = .ok (.invokevirtual 146, 3) := by decide +kernel
theorem dX11_remake_80 : decode cX11_remake 80 = .ok (.pop, 1) := by decide +kernel
theorem dX11_remake_81 : decode cX11_remake 81 = .ok (.aload_n 0, 1) := by decide +kernel
theorem dX11_remake_82 : decode cX11_remake 82 = .ok (.getfield 12, 3) := by decide +kernel
theorem dX11_remake_85 : decode cX11_remake 85 = .ok (.invokevirtual 205, 3) := by decide +kernel
theorem dX11_remake_88 : decode cX11_remake 88 = .ok (.ireturn, 1) := by decide +kernel
theorem dX11_feed_0 : decode cX11_feed 0 = .ok (.iload_n 3, 1) := by decide +kernel
theorem dX11_feed_1 : decode cX11_feed 1 = .ok (.iconst 1, 1) := by decide +kernel
theorem dX11_feed_2 : decode cX11_feed 2 = .ok (.if_icmp .lt 9, 3) := by decide +kernel
theorem dX11_feed_5 : decode cX11_feed 5 = .ok (.iload_n 3, 1) := by decide +kernel
theorem dX11_feed_6 : decode cX11_feed 6 = .ok (.bipush 8, 2) := by decide +kernel
theorem dX11_feed_8 : decode cX11_feed 8 = .ok (.if_icmp .le 6, 3) := by decide +kernel
theorem dX11_feed_11 : decode cX11_feed 11 = .ok (.bipush (-2), 2) := by decide +kernel
theorem dX11_feed_13 : decode cX11_feed 13 = .ok (.ireturn, 1) := by decide +kernel
theorem dX11_feed_14 : decode cX11_feed 14 = .ok (.aload_n 0, 1) := by decide +kernel
theorem dX11_feed_15 : decode cX11_feed 15 = .ok (.getfield 19, 3) := by decide +kernel
theorem dX11_feed_18 : decode cX11_feed 18 = .ok (.getfield 178, 3) := by decide +kernel
theorem dX11_feed_21 : decode cX11_feed 21 = .ok (.iload_n 3, 1) := by decide +kernel
theorem dX11_feed_22 : decode cX11_feed 22 = .ok (.iadd, 1) := by decide +kernel
theorem dX11_feed_23 : decode cX11_feed 23 = .ok (.sipush 6000, 3) := by decide +kernel
theorem dX11_feed_26 : decode cX11_feed 26 = .ok (.if_icmp .le 6, 3) := by decide +kernel
theorem dX11_feed_29 : decode cX11_feed 29 = .ok (.bipush (-4), 2) := by decide +kernel
theorem dX11_feed_31 : decode cX11_feed 31 = .ok (.ireturn, 1) := by decide +kernel
theorem dX11_feed_32 : decode cX11_feed 32 = .ok (.iload_n 3, 1) := by decide +kernel
theorem dX11_feed_33 : decode cX11_feed 33 = .ok (.iconst 1, 1) := by decide +kernel
theorem dX11_feed_34 : decode cX11_feed 34 = .ok (.isub, 1) := by decide +kernel
theorem dX11_feed_35 : decode cX11_feed 35 = .ok (.istore 4, 2) := by decide +kernel
theorem dX11_feed_37 : decode cX11_feed 37 = .ok (.iload 4, 2) := by decide +kernel
theorem dX11_feed_39 : decode cX11_feed 39 = .ok (.ifCond .lt 28, 3) := by decide +kernel
theorem dX11_feed_42 : decode cX11_feed 42 = .ok (.aload_n 0, 1) := by decide +kernel
theorem dX11_feed_43 : decode cX11_feed 43 = .ok (.getfield 19, 3) := by decide +kernel
theorem dX11_feed_46 : decode cX11_feed 46 = .ok (.lload_n 1, 1) := by decide +kernel
theorem dX11_feed_47 : decode cX11_feed 47 = .ok (.bipush 8, 2) := by decide +kernel
theorem dX11_feed_49 : decode cX11_feed 49 = .ok (.iload 4, 2) := by decide +kernel
theorem dX11_feed_51 : decode cX11_feed 51 = .ok (.imul, 1) := by decide +kernel
theorem dX11_feed_52 : decode cX11_feed 52 = .ok (.lushr, 1) := by decide +kernel
theorem dX11_feed_53 : decode cX11_feed 53 = .ok (.l2i, 1) := by decide +kernel
theorem dX11_feed_54 : decode cX11_feed 54 = .ok (.sipush 255, 3) := by decide +kernel
theorem dX11_feed_57 : decode cX11_feed 57 = .ok (.iand, 1) := by decide +kernel
theorem dX11_feed_58 : decode cX11_feed 58 = .ok (.invokevirtual 208, 3) := by decide +kernel
theorem dX11_feed_61 : decode cX11_feed 61 = .ok (.iinc 4 (-1), 3) := by decide +kernel
theorem dX11_feed_64 : decode cX11_feed 64 = .ok (.goto (-27), 3) := by decide +kernel
theorem dX11_feed_67 : decode cX11_feed 67 = .ok (.aload_n 0, 1) := by decide +kernel
theorem dX11_feed_68 : decode cX11_feed 68 = .ok (.getfield 19, 3) := by decide +kernel
theorem dX11_feed_71 : decode cX11_feed 71 = .ok (.getfield 178, 3) := by decide +kernel
theorem dX11_feed_74 : decode cX11_feed 74 = .ok (.ireturn, 1) := by decide +kernel
theorem dX11_tear_0 : decode cX11_tear 0 = .ok (.aload_n 0, 1) := by decide +kernel
theorem dX11_tear_1 : decode cX11_tear 1 = .ok (.getfield 19, 3) := by decide +kernel
theorem dX11_tear_4 : decode cX11_tear 4 = .ok (.getfield 178, 3) := by decide +kernel
theorem dX11_tear_7 : decode cX11_tear 7 = .ok (.istore_n 1, 1) := by decide +kernel
theorem dX11_tear_8 : decode cX11_tear 8 = .ok (.aload_n 0, 1) := by decide +kernel
theorem dX11_tear_9 : decode cX11_tear 9 = .ok (.getfield 19, 3) := by decide +kernel
theorem dX11_tear_12 : decode cX11_tear 12 = .ok (.invokevirtual 168, 3) := by decide +kernel
theorem dX11_tear_15 : decode cX11_tear 15 = .ok (.iload_n 1, 1) := by decide +kernel
theorem dX11_tear_16 : decode cX11_tear 16 = .ok (.ireturn, 1) := by decide +kernel
theorem dX11_byteAt_0 : decode cX11_byteAt 0 = .ok (.aload_n 0, 1) := by decide +kernel
theorem dX11_byteAt_1 : decode cX11_byteAt 1 = .ok (.getfield 19, 3) := by decide +kernel
theorem dX11_byteAt_4 : decode cX11_byteAt 4 = .ok (.iload_n 1, 1) := by decide +kernel
theorem dX11_byteAt_5 : decode cX11_byteAt 5 = .ok (.invokevirtual 210, 3) := by decide +kernel
theorem dX11_byteAt_8 : decode cX11_byteAt 8 = .ok (.ireturn, 1) := by decide +kernel
theorem dX11_read_0 : decode cX11_read 0 = .ok (.aload_n 0, 1) := by decide +kernel
theorem dX11_read_1 : decode cX11_read 1 = .ok (.getfield 31, 3) := by decide +kernel
theorem dX11_read_4 : decode cX11_read 4 = .ok (.iconst 0, 1) := by decide +kernel
theorem dX11_read_5 : decode cX11_read 5 = .ok (.invokevirtual 213, 3) := by decide +kernel
theorem dX11_read_8 : decode cX11_read 8 = .ok (.istore_n 1, 1) := by decide +kernel
theorem dX11_read_9 : decode cX11_read 9 = .ok (.iload_n 1, 1) := by decide +kernel
theorem dX11_read_10 : decode cX11_read 10 = .ok (.iconst (-1), 1) := by decide +kernel
theorem dX11_read_11 : decode cX11_read 11 = .ok (.if_icmp .eq 8, 3) := by decide +kernel
theorem dX11_read_14 : decode cX11_read 14 = .ok (.bipush (-10), 2) := by decide +kernel
theorem dX11_read_16 : decode cX11_read 16 = .ok (.iload_n 1, 1) := by decide +kernel
theorem dX11_read_17 : decode cX11_read 17 = .ok (.isub, 1) := by decide +kernel
theorem dX11_read_18 : decode cX11_read 18 = .ok (.ireturn, 1) := by decide +kernel
theorem dX11_read_19 : decode cX11_read 19 = .ok (.aload_n 0, 1) := by decide +kernel
theorem dX11_read_20 : decode cX11_read 20 = .ok (.getfield 12, 3) := by decide +kernel
theorem dX11_read_23 : decode cX11_read 23 = .ok (.aload_n 0, 1) := by decide +kernel
theorem dX11_read_24 : decode cX11_read 24 = .ok (.getfield 31, 3) := by decide +kernel
theorem dX11_read_27 : decode cX11_read 27 = .ok (.getfield 217, 3) := by decide +kernel
theorem dX11_read_30 : decode cX11_read 30 = .ok (.aload_n 0, 1) := by decide +kernel
theorem dX11_read_31 : decode cX11_read 31 = .ok (.getfield 31, 3) := by decide +kernel
theorem dX11_read_34 : decode cX11_read 34 = .ok (.getfield 217, 3) := by decide +kernel
theorem dX11_read_37 : decode cX11_read 37 = .ok (.iconst 1, 1) := by decide +kernel
theorem dX11_read_38 : decode cX11_read 38 = .ok (.isub, 1) := by decide +kernel
theorem dX11_read_39 : decode cX11_read 39 = .ok (.invokevirtual 105, 3) := by decide +kernel
theorem dX11_read_42 : decode cX11_read 42 = .ok (.ifCond .ne 6, 3) := by decide +kernel
theorem dX11_read_45 : decode cX11_read 45 = .ok (.bipush (-4), 2) := by decide +kernel
theorem dX11_read_47 : decode cX11_read 47 = .ok (.ireturn, 1) := by decide +kernel
theorem dX11_read_48 : decode cX11_read 48 = .ok (.aload_n 0, 1) := by decide +kernel
theorem dX11_read_49 : decode cX11_read 49 = .ok (.getfield 31, 3) := by decide +kernel
theorem dX11_read_52 : decode cX11_read 52 = .ok (.iconst 1, 1) := by decide +kernel
theorem dX11_read_53 : decode cX11_read 53 = .ok (.invokevirtual 213, 3) := by decide +kernel
theorem dX11_read_56 : decode cX11_read 56 = .ok (.pop, 1) := by decide +kernel
theorem dX11_read_57 : decode cX11_read 57 = .ok (.aload_n 0, 1) := by decide +kernel
theorem dX11_read_58 : decode cX11_read 58 = .ok (.getfield 12, 3) := by decide +kernel
theorem dX11_read_61 : decode cX11_read 61 = .ok (.invokevirtual 205, 3) := by decide +kernel
theorem dX11_read_64 : decode cX11_read 64 = .ok (.ireturn, 1) := by decide +kernel
theorem dX11_answer_0 : decode cX11_answer 0 = .ok (.aload_n 0, 1) := by decide +kernel
theorem dX11_answer_1 : decode cX11_answer 1 = .ok (.getfield 97, 3) := by decide +kernel
theorem dX11_answer_4 : decode cX11_answer 4 = .ok (.getfield 220, 3) := by decide +kernel
theorem dX11_answer_7 : decode cX11_answer 7 = .ok (.ireturn, 1) := by decide +kernel
theorem dX11_count_0 : decode cX11_count 0 = .ok (.iload_n 1, 1) := by decide +kernel
theorem dX11_count_1 : decode cX11_count 1 = .ok (.tableswitch 75 0 4 #[35, 43, 51, 59, 67], 35) := by decide +kernel
theorem dX11_count_36 : decode cX11_count 36 = .ok (.aload_n 0, 1) := by decide +kernel
theorem dX11_count_37 : decode cX11_count 37 = .ok (.getfield 12, 3) := by decide +kernel
theorem dX11_count_40 : decode cX11_count 40 = .ok (.getfield 223, 3) := by decide +kernel
theorem dX11_count_43 : decode cX11_count 43 = .ok (.ireturn, 1) := by decide +kernel
theorem dX11_count_44 : decode cX11_count 44 = .ok (.aload_n 0, 1) := by decide +kernel
theorem dX11_count_45 : decode cX11_count 45 = .ok (.getfield 12, 3) := by decide +kernel
theorem dX11_count_48 : decode cX11_count 48 = .ok (.invokevirtual 226, 3) := by decide +kernel
theorem dX11_count_51 : decode cX11_count 51 = .ok (.ireturn, 1) := by decide +kernel
theorem dX11_count_52 : decode cX11_count 52 = .ok (.aload_n 0, 1) := by decide +kernel
theorem dX11_count_53 : decode cX11_count 53 = .ok (.getfield 19, 3) := by decide +kernel
theorem dX11_count_56 : decode cX11_count 56 = .ok (.getfield 178, 3) := by decide +kernel
theorem dX11_count_59 : decode cX11_count 59 = .ok (.ireturn, 1) := by decide +kernel
theorem dX11_count_60 : decode cX11_count 60 = .ok (.aload_n 0, 1) := by decide +kernel
theorem dX11_count_61 : decode cX11_count 61 = .ok (.getfield 97, 3) := by decide +kernel
theorem dX11_count_64 : decode cX11_count 64 = .ok (.getfield 150, 3) := by decide +kernel
theorem dX11_count_67 : decode cX11_count 67 = .ok (.ireturn, 1) := by decide +kernel
theorem dX11_count_68 : decode cX11_count 68 = .ok (.aload_n 0, 1) := by decide +kernel
theorem dX11_count_69 : decode cX11_count 69 = .ok (.getfield 97, 3) := by decide +kernel
theorem dX11_count_72 : decode cX11_count 72 = .ok (.getfield 229, 3) := by decide +kernel
theorem dX11_count_75 : decode cX11_count 75 = .ok (.ireturn, 1) := by decide +kernel
theorem dX11_count_76 : decode cX11_count 76 = .ok (.bipush (-2), 2) := by decide +kernel
theorem dX11_count_78 : decode cX11_count 78 = .ok (.ireturn, 1) := by decide +kernel
theorem dX11_isKind_0 : decode cX11_isKind 0 = .ok (.iload_n 0, 1) := by decide +kernel
theorem dX11_isKind_1 : decode cX11_isKind 1 = .ok (.ifCond .lt 13, 3) := by decide +kernel
theorem dX11_isKind_4 : decode cX11_isKind 4 = .ok (.iload_n 0, 1) := by decide +kernel
theorem dX11_isKind_5 : decode cX11_isKind 5 = .ok (.bipush 12, 2) := by decide +kernel
theorem dX11_isKind_7 : decode cX11_isKind 7 = .ok (.if_icmp .ge 7, 3) := by decide +kernel
theorem dX11_isKind_10 : decode cX11_isKind 10 = .ok (.iconst 1, 1) := by decide +kernel
theorem dX11_isKind_11 : decode cX11_isKind 11 = .ok (.goto 4, 3) := by decide +kernel
theorem dX11_isKind_14 : decode cX11_isKind 14 = .ok (.iconst 0, 1) := by decide +kernel
theorem dX11_isKind_15 : decode cX11_isKind 15 = .ok (.ireturn, 1) := by decide +kernel
end
section
theorem dX12_init_0 : decode cX12_init 0 = .ok (.aload_n 0, 1) := by decide +kernel
theorem dX12_init_1 : decode cX12_init 1 = .ok (.invokespecial 1, 3) := by decide +kernel
theorem dX12_init_4 : decode cX12_init 4 = .ok (.aload_n 0, 1) := by decide +kernel
theorem dX12_init_5 : decode cX12_init 5 = .ok (.sipush 1500, 3) := by decide +kernel
theorem dX12_init_8 : decode cX12_init 8 = .ok (.newarray .int, 2) := by decide +kernel
theorem dX12_init_10 : decode cX12_init 10 = .ok (.putfield 7, 3) := by decide +kernel
theorem dX12_init_13 : decode cX12_init 13 = .ok (.aload_n 0, 1) := by decide +kernel
theorem dX12_init_14 : decode cX12_init 14 = .ok (.sipush 1500, 3) := by decide +kernel
theorem dX12_init_17 : decode cX12_init 17 = .ok (.newarray .int, 2) := by decide +kernel
theorem dX12_init_19 : decode cX12_init 19 = .ok (.putfield 13, 3) := by decide +kernel
theorem dX12_init_22 : decode cX12_init 22 = .ok (.aload_n 0, 1) := by decide +kernel
theorem dX12_init_23 : decode cX12_init 23 = .ok (.sipush 1500, 3) := by decide +kernel
theorem dX12_init_26 : decode cX12_init 26 = .ok (.newarray .int, 2) := by decide +kernel
theorem dX12_init_28 : decode cX12_init 28 = .ok (.putfield 16, 3) := by decide +kernel
theorem dX12_init_31 : decode cX12_init 31 = .ok (.aload_n 0, 1) := by decide +kernel
theorem dX12_init_32 : decode cX12_init 32 = .ok (.sipush 1500, 3) := by decide +kernel
theorem dX12_init_35 : decode cX12_init 35 = .ok (.newarray .int, 2) := by decide +kernel
theorem dX12_init_37 : decode cX12_init 37 = .ok (.putfield 19, 3) := by decide +kernel
theorem dX12_init_40 : decode cX12_init 40 = .ok (.aload_n 0, 1) := by decide +kernel
theorem dX12_init_41 : decode cX12_init 41 = .ok (.sipush 1500, 3) := by decide +kernel
theorem dX12_init_44 : decode cX12_init 44 = .ok (.newarray .int, 2) := by decide +kernel
theorem dX12_init_46 : decode cX12_init 46 = .ok (.putfield 22, 3) := by decide +kernel
theorem dX12_init_49 : decode cX12_init 49 = .ok (.aload_n 0, 1) := by decide +kernel
theorem dX12_init_50 : decode cX12_init 50 = .ok (.sipush 4000, 3) := by decide +kernel
theorem dX12_init_53 : decode cX12_init 53 = .ok (.newarray .int, 2) := by decide +kernel
theorem dX12_init_55 : decode cX12_init 55 = .ok (.putfield 25, 3) := by decide +kernel
theorem dX12_init_58 : decode cX12_init 58 = .ok (.aload_n 0, 1) := by decide +kernel
theorem dX12_init_59 : decode cX12_init 59 = .ok (.sipush 4000, 3) := by decide +kernel
theorem dX12_init_62 : decode cX12_init 62 = .ok (.newarray .int, 2) := by decide +kernel
theorem dX12_init_64 : decode cX12_init 64 = .ok (.putfield 28, 3) := by decide +kernel
theorem dX12_init_67 : decode cX12_init 67 = .ok (.aload_n 0, 1) := by decide +kernel
theorem dX12_init_68 : decode cX12_init 68 = .ok (.bipush 100, 2) := by decide +kernel
theorem dX12_init_70 : decode cX12_init 70 = .ok (.putfield 31, 3) := by decide +kernel
theorem dX12_init_73 : decode cX12_init 73 = .ok (.aload_n 0, 1) := by decide +kernel
theorem dX12_init_74 : decode cX12_init 74 = .ok (.sipush 6000, 3) := by decide +kernel
theorem dX12_init_77 : decode cX12_init 77 = .ok (.newarray .int, 2) := by decide +kernel
theorem dX12_init_79 : decode cX12_init 79 = .ok (.putfield 35, 3) := by decide +kernel
theorem dX12_init_82 : decode cX12_init 82 = .ok (.aload_n 0, 1) := by decide +kernel
theorem dX12_init_83 : decode cX12_init 83 = .ok (.sipush 1500, 3) := by decide +kernel
theorem dX12_init_86 : decode cX12_init 86 = .ok (.newarray .long, 2) := by decide +kernel
theorem dX12_init_88 : decode cX12_init 88 = .ok (.putfield 38, 3) := by decide +kernel
theorem dX12_init_91 : decode cX12_init 91 = .ok (.aload_n 0, 1) := by decide +kernel
theorem dX12_init_92 : decode cX12_init 92 = .ok (.sipush 1500, 3) := by decide +kernel
theorem dX12_init_95 : decode cX12_init 95 = .ok (.newarray .long, 2) := by decide +kernel
theorem dX12_init_97 : decode cX12_init 97 = .ok (.putfield 42, 3) := by decide +kernel
theorem dX12_init_100 : decode cX12_init 100 = .ok (.aload_n 0, 1) := by decide +kernel
theorem dX12_init_101 : decode cX12_init 101 = .ok (.sipush 1501, 3) := by decide +kernel
theorem dX12_init_104 : decode cX12_init 104 = .ok (.newarray .int, 2) := by decide +kernel
theorem dX12_init_106 : decode cX12_init 106 = .ok (.putfield 45, 3) := by decide +kernel
theorem dX12_init_109 : decode cX12_init 109 = .ok (.aload_n 0, 1) := by decide +kernel
theorem dX12_init_110 : decode cX12_init 110 = .ok (.sipush 1501, 3) := by decide +kernel
theorem dX12_init_113 : decode cX12_init 113 = .ok (.newarray .int, 2) := by decide +kernel
theorem dX12_init_115 : decode cX12_init 115 = .ok (.putfield 48, 3) := by decide +kernel
theorem dX12_init_118 : decode cX12_init 118 = .ok (.aload_n 0, 1) := by decide +kernel
theorem dX12_init_119 : decode cX12_init 119 = .ok (.sipush 1501, 3) := by decide +kernel
theorem dX12_init_122 : decode cX12_init 122 = .ok (.newarray .int, 2) := by decide +kernel
theorem dX12_init_124 : decode cX12_init 124 = .ok (.putfield 51, 3) := by decide +kernel
theorem dX12_init_127 : decode cX12_init 127 = .ok (.aload_n 0, 1) := by decide +kernel
theorem dX12_init_128 : decode cX12_init 128 = .ok (.sipush 20000, 3) := by decide +kernel
theorem dX12_init_131 : decode cX12_init 131 = .ok (.newarray .int, 2) := by decide +kernel
theorem dX12_init_133 : decode cX12_init 133 = .ok (.putfield 54, 3) := by decide +kernel
theorem dX12_init_136 : decode cX12_init 136 = .ok (.aload_n 0, 1) := by decide +kernel
theorem dX12_init_137 : decode cX12_init 137 = .ok (.sipush 20000, 3) := by decide +kernel
theorem dX12_init_140 : decode cX12_init 140 = .ok (.newarray .int, 2) := by decide +kernel
theorem dX12_init_142 : decode cX12_init 142 = .ok (.putfield 57, 3) := by decide +kernel
theorem dX12_init_145 : decode cX12_init 145 = .ok (.aload_n 0, 1) := by decide +kernel
theorem dX12_init_146 : decode cX12_init 146 = .ok (.sipush 6000, 3) := by decide +kernel
theorem dX12_init_149 : decode cX12_init 149 = .ok (.newarray .int, 2) := by decide +kernel
theorem dX12_init_151 : decode cX12_init 151 = .ok (.putfield 60, 3) := by decide +kernel
theorem dX12_init_154 : decode cX12_init 154 = .ok (.aload_n 0, 1) := by decide +kernel
theorem dX12_init_155 : decode cX12_init 155 = .ok (.sipush 1502, 3) := by decide +kernel
theorem dX12_init_158 : decode cX12_init 158 = .ok (.newarray .int, 2) := by decide +kernel
theorem dX12_init_160 : decode cX12_init 160 = .ok (.putfield 63, 3) := by decide +kernel
theorem dX12_init_163 : decode cX12_init 163 = .ok (.aload_n 0, 1) := by decide +kernel
theorem dX12_init_164 : decode cX12_init 164 = .ok (.sipush 20000, 3) := by decide +kernel
theorem dX12_init_167 : decode cX12_init 167 = .ok (.newarray .int, 2) := by decide +kernel
theorem dX12_init_169 : decode cX12_init 169 = .ok (.putfield 66, 3) := by decide +kernel
theorem dX12_init_172 : decode cX12_init 172 = .ok (.aload_n 0, 1) := by decide +kernel
theorem dX12_init_173 : decode cX12_init 173 = .ok (.sipush 20000, 3) := by decide +kernel
theorem dX12_init_176 : decode cX12_init 176 = .ok (.newarray .int, 2) := by decide +kernel
theorem dX12_init_178 : decode cX12_init 178 = .ok (.putfield 69, 3) := by decide +kernel
theorem dX12_init_181 : decode cX12_init 181 = .ok (.aload_n 0, 1) := by decide +kernel
theorem dX12_init_182 : decode cX12_init 182 = .ok (.sipush 20000, 3) := by decide +kernel
theorem dX12_init_185 : decode cX12_init 185 = .ok (.newarray .long, 2) := by decide +kernel
theorem dX12_init_187 : decode cX12_init 187 = .ok (.putfield 72, 3) := by decide +kernel
theorem dX12_init_190 : decode cX12_init 190 = .ok (.aload_n 0, 1) := by decide +kernel
theorem dX12_init_191 : decode cX12_init 191 = .ok (.sipush 20000, 3) := by decide +kernel
theorem dX12_init_194 : decode cX12_init 194 = .ok (.newarray .int, 2) := by decide +kernel
theorem dX12_init_196 : decode cX12_init 196 = .ok (.putfield 75, 3) := by decide +kernel
theorem dX12_init_199 : decode cX12_init 199 = .ok (.aload_n 0, 1) := by decide +kernel
theorem dX12_init_200 : decode cX12_init 200 = .ok (.sipush 20000, 3) := by decide +kernel
theorem dX12_init_203 : decode cX12_init 203 = .ok (.newarray .int, 2) := by decide +kernel
theorem dX12_init_205 : decode cX12_init 205 = .ok (.putfield 78, 3) := by decide +kernel
theorem dX12_init_208 : decode cX12_init 208 = .ok (.aload_n 0, 1) := by decide +kernel
theorem dX12_init_209 : decode cX12_init 209 = .ok (.sipush 20000, 3) := by decide +kernel
theorem dX12_init_212 : decode cX12_init 212 = .ok (.newarray .int, 2) := by decide +kernel
theorem dX12_init_214 : decode cX12_init 214 = .ok (.putfield 81, 3) := by decide +kernel
theorem dX12_init_217 : decode cX12_init 217 = .ok (.aload_n 0, 1) := by decide +kernel
theorem dX12_init_218 : decode cX12_init 218 = .ok (.sipush 20000, 3) := by decide +kernel
theorem dX12_init_221 : decode cX12_init 221 = .ok (.newarray .int, 2) := by decide +kernel
theorem dX12_init_223 : decode cX12_init 223 = .ok (.putfield 84, 3) := by decide +kernel
theorem dX12_init_226 : decode cX12_init 226 = .ok (.aload_n 0, 1) := by decide +kernel
theorem dX12_init_227 : decode cX12_init 227 = .ok (.sipush 1502, 3) := by decide +kernel
theorem dX12_init_230 : decode cX12_init 230 = .ok (.newarray .int, 2) := by decide +kernel
theorem dX12_init_232 : decode cX12_init 232 = .ok (.putfield 87, 3) := by decide +kernel
theorem dX12_init_235 : decode cX12_init 235 = .ok (.return_, 1) := by decide +kernel
theorem dX12_in_0 : decode cX12_in 0 = .ok (.iload_n 0, 1) := by decide +kernel
theorem dX12_in_1 : decode cX12_in 1 = .ok (.iload_n 1, 1) := by decide +kernel
theorem dX12_in_2 : decode cX12_in 2 = .ok (.if_icmp .lt 12, 3) := by decide +kernel
theorem dX12_in_5 : decode cX12_in 5 = .ok (.iload_n 0, 1) := by decide +kernel
theorem dX12_in_6 : decode cX12_in 6 = .ok (.iload_n 2, 1) := by decide +kernel
theorem dX12_in_7 : decode cX12_in 7 = .ok (.if_icmp .gt 7, 3) := by decide +kernel
theorem dX12_in_10 : decode cX12_in 10 = .ok (.iconst 1, 1) := by decide +kernel
theorem dX12_in_11 : decode cX12_in 11 = .ok (.goto 4, 3) := by decide +kernel
theorem dX12_in_14 : decode cX12_in 14 = .ok (.iconst 0, 1) := by decide +kernel
theorem dX12_in_15 : decode cX12_in 15 = .ok (.ireturn, 1) := by decide +kernel
theorem dX12_isDeed_0 : decode cX12_isDeed 0 = .ok (.iload_n 1, 1) := by decide +kernel
theorem dX12_isDeed_1 : decode cX12_isDeed 1 = .ok (.iconst 0, 1) := by decide +kernel
theorem dX12_isDeed_2 : decode cX12_isDeed 2 = .ok (.aload_n 0, 1) := by decide +kernel
theorem dX12_isDeed_3 : decode cX12_isDeed 3 = .ok (.getfield 90, 3) := by decide +kernel
theorem dX12_isDeed_6 : decode cX12_isDeed 6 = .ok (.iconst 1, 1) := by decide +kernel
theorem dX12_isDeed_7 : decode cX12_isDeed 7 = .ok (.isub, 1) := by decide +kernel
theorem dX12_isDeed_8 : decode cX12_isDeed 8 = .ok (.invokestatic 93, 3) := by decide +kernel
theorem dX12_isDeed_11 : decode cX12_isDeed 11 = .ok (.ireturn, 1) := by decide +kernel
theorem dX12_add_0 : decode cX12_add 0 = .ok (.aload_n 0, 1) := by decide +kernel
theorem dX12_add_1 : decode cX12_add 1 = .ok (.getfield 7, 3) := by decide +kernel
theorem dX12_add_4 : decode cX12_add 4 = .ok (.aload_n 0, 1) := by decide +kernel
theorem dX12_add_5 : decode cX12_add 5 = .ok (.getfield 90, 3) := by decide +kernel
theorem dX12_add_8 : decode cX12_add 8 = .ok (.iload_n 1, 1) := by decide +kernel
theorem dX12_add_9 : decode cX12_add 9 = .ok (.iastore, 1) := by decide +kernel
theorem dX12_add_10 : decode cX12_add 10 = .ok (.aload_n 0, 1) := by decide +kernel
theorem dX12_add_11 : decode cX12_add 11 = .ok (.getfield 13, 3) := by decide +kernel
theorem dX12_add_14 : decode cX12_add 14 = .ok (.aload_n 0, 1) := by decide +kernel
theorem dX12_add_15 : decode cX12_add 15 = .ok (.getfield 90, 3) := by decide +kernel
theorem dX12_add_18 : decode cX12_add 18 = .ok (.iload_n 2, 1) := by decide +kernel
theorem dX12_add_19 : decode cX12_add 19 = .ok (.iastore, 1) := by decide +kernel
theorem dX12_add_20 : decode cX12_add 20 = .ok (.aload_n 0, 1) := by decide +kernel
theorem dX12_add_21 : decode cX12_add 21 = .ok (.getfield 16, 3) := by decide +kernel
theorem dX12_add_24 : decode cX12_add 24 = .ok (.aload_n 0, 1) := by decide +kernel
theorem dX12_add_25 : decode cX12_add 25 = .ok (.getfield 90, 3) := by decide +kernel
theorem dX12_add_28 : decode cX12_add 28 = .ok (.iconst 0, 1) := by decide +kernel
theorem dX12_add_29 : decode cX12_add 29 = .ok (.iastore, 1) := by decide +kernel
theorem dX12_add_30 : decode cX12_add 30 = .ok (.aload_n 0, 1) := by decide +kernel
theorem dX12_add_31 : decode cX12_add 31 = .ok (.getfield 19, 3) := by decide +kernel
theorem dX12_add_34 : decode cX12_add 34 = .ok (.aload_n 0, 1) := by decide +kernel
theorem dX12_add_35 : decode cX12_add 35 = .ok (.getfield 90, 3) := by decide +kernel
theorem dX12_add_38 : decode cX12_add 38 = .ok (.iconst (-1), 1) := by decide +kernel
theorem dX12_add_39 : decode cX12_add 39 = .ok (.iastore, 1) := by decide +kernel
theorem dX12_add_40 : decode cX12_add 40 = .ok (.aload_n 0, 1) := by decide +kernel
theorem dX12_add_41 : decode cX12_add 41 = .ok (.getfield 22, 3) := by decide +kernel
theorem dX12_add_44 : decode cX12_add 44 = .ok (.aload_n 0, 1) := by decide +kernel
theorem dX12_add_45 : decode cX12_add 45 = .ok (.getfield 90, 3) := by decide +kernel
theorem dX12_add_48 : decode cX12_add 48 = .ok (.iconst (-1), 1) := by decide +kernel
theorem dX12_add_49 : decode cX12_add 49 = .ok (.iastore, 1) := by decide +kernel
theorem dX12_add_50 : decode cX12_add 50 = .ok (.aload_n 0, 1) := by decide +kernel
theorem dX12_add_51 : decode cX12_add 51 = .ok (.dup, 1) := by decide +kernel
theorem dX12_add_52 : decode cX12_add 52 = .ok (.getfield 90, 3) := by decide +kernel
theorem dX12_add_55 : decode cX12_add 55 = .ok (.iconst 1, 1) := by decide +kernel
theorem dX12_add_56 : decode cX12_add 56 = .ok (.iadd, 1) := by decide +kernel
theorem dX12_add_57 : decode cX12_add 57 = .ok (.putfield 90, 3) := by decide +kernel
theorem dX12_add_60 : decode cX12_add 60 = .ok (.aload_n 0, 1) := by decide +kernel
theorem dX12_add_61 : decode cX12_add 61 = .ok (.getfield 90, 3) := by decide +kernel
theorem dX12_add_64 : decode cX12_add 64 = .ok (.iconst 1, 1) := by decide +kernel
theorem dX12_add_65 : decode cX12_add 65 = .ok (.isub, 1) := by decide +kernel
theorem dX12_add_66 : decode cX12_add 66 = .ok (.ireturn, 1) := by decide +kernel
theorem dX12_addPart_0 : decode cX12_addPart 0 = .ok (.aload_n 0, 1) := by decide +kernel
theorem dX12_addPart_1 : decode cX12_addPart 1 = .ok (.getfield 25, 3) := by decide +kernel
theorem dX12_addPart_4 : decode cX12_addPart 4 = .ok (.aload_n 0, 1) := by decide +kernel
theorem dX12_addPart_5 : decode cX12_addPart 5 = .ok (.getfield 97, 3) := by decide +kernel
theorem dX12_addPart_8 : decode cX12_addPart 8 = .ok (.iload_n 2, 1) := by decide +kernel
theorem dX12_addPart_9 : decode cX12_addPart 9 = .ok (.iastore, 1) := by decide +kernel
theorem dX12_addPart_10 : decode cX12_addPart 10 = .ok (.aload_n 0, 1) := by decide +kernel
theorem dX12_addPart_11 : decode cX12_addPart 11 = .ok (.getfield 28, 3) := by decide +kernel
theorem dX12_addPart_14 : decode cX12_addPart 14 = .ok (.aload_n 0, 1) := by decide +kernel
theorem dX12_addPart_15 : decode cX12_addPart 15 = .ok (.getfield 97, 3) := by decide +kernel
theorem dX12_addPart_18 : decode cX12_addPart 18 = .ok (.iconst (-1), 1) := by decide +kernel
theorem dX12_addPart_19 : decode cX12_addPart 19 = .ok (.iastore, 1) := by decide +kernel
theorem dX12_addPart_20 : decode cX12_addPart 20 = .ok (.aload_n 0, 1) := by decide +kernel
theorem dX12_addPart_21 : decode cX12_addPart 21 = .ok (.getfield 16, 3) := by decide +kernel
theorem dX12_addPart_24 : decode cX12_addPart 24 = .ok (.iload_n 1, 1) := by decide +kernel
theorem dX12_addPart_25 : decode cX12_addPart 25 = .ok (.iaload, 1) := by decide +kernel
theorem dX12_addPart_26 : decode cX12_addPart 26 = .ok (.ifCond .ne 16, 3) := by decide +kernel
theorem dX12_addPart_29 : decode cX12_addPart 29 = .ok (.aload_n 0, 1) := by decide +kernel
theorem dX12_addPart_30 : decode cX12_addPart 30 = .ok (.getfield 19, 3) := by decide +kernel
theorem dX12_addPart_33 : decode cX12_addPart 33 = .ok (.iload_n 1, 1) := by decide +kernel
theorem dX12_addPart_34 : decode cX12_addPart 34 = .ok (.aload_n 0, 1) := by decide +kernel
theorem dX12_addPart_35 : decode cX12_addPart 35 = .ok (.getfield 97, 3) := by decide +kernel
theorem dX12_addPart_38 : decode cX12_addPart 38 = .ok (.iastore, 1) := by decide +kernel
theorem dX12_addPart_39 : decode cX12_addPart 39 = .ok (.goto 18, 3) := by decide +kernel
theorem dX12_addPart_42 : decode cX12_addPart 42 = .ok (.aload_n 0, 1) := by decide +kernel
theorem dX12_addPart_43 : decode cX12_addPart 43 = .ok (.getfield 28, 3) := by decide +kernel
theorem dX12_addPart_46 : decode cX12_addPart 46 = .ok (.aload_n 0, 1) := by decide +kernel
theorem dX12_addPart_47 : decode cX12_addPart 47 = .ok (.getfield 22, 3) := by decide +kernel
theorem dX12_addPart_50 : decode cX12_addPart 50 = .ok (.iload_n 1, 1) := by decide +kernel
theorem dX12_addPart_51 : decode cX12_addPart 51 = .ok (.iaload, 1) := by decide +kernel
theorem dX12_addPart_52 : decode cX12_addPart 52 = .ok (.aload_n 0, 1) := by decide +kernel
theorem dX12_addPart_53 : decode cX12_addPart 53 = .ok (.getfield 97, 3) := by decide +kernel
theorem dX12_addPart_56 : decode cX12_addPart 56 = .ok (.iastore, 1) := by decide +kernel
theorem dX12_addPart_57 : decode cX12_addPart 57 = .ok (.aload_n 0, 1) := by decide +kernel
theorem dX12_addPart_58 : decode cX12_addPart 58 = .ok (.getfield 22, 3) := by decide +kernel
theorem dX12_addPart_61 : decode cX12_addPart 61 = .ok (.iload_n 1, 1) := by decide +kernel
theorem dX12_addPart_62 : decode cX12_addPart 62 = .ok (.aload_n 0, 1) := by decide +kernel
theorem dX12_addPart_63 : decode cX12_addPart 63 = .ok (.getfield 97, 3) := by decide +kernel
theorem dX12_addPart_66 : decode cX12_addPart 66 = .ok (.iastore, 1) := by decide +kernel
theorem dX12_addPart_67 : decode cX12_addPart 67 = .ok (.aload_n 0, 1) := by decide +kernel
theorem dX12_addPart_68 : decode cX12_addPart 68 = .ok (.dup, 1) := by decide +kernel
theorem dX12_addPart_69 : decode cX12_addPart 69 = .ok (.getfield 97, 3) := by decide +kernel
theorem dX12_addPart_72 : decode cX12_addPart 72 = .ok (.iconst 1, 1) := by decide +kernel
theorem dX12_addPart_73 : decode cX12_addPart 73 = .ok (.iadd, 1) := by decide +kernel
theorem dX12_addPart_74 : decode cX12_addPart 74 = .ok (.putfield 97, 3) := by decide +kernel
theorem dX12_addPart_77 : decode cX12_addPart 77 = .ok (.aload_n 0, 1) := by decide +kernel
theorem dX12_addPart_78 : decode cX12_addPart 78 = .ok (.getfield 16, 3) := by decide +kernel
theorem dX12_addPart_81 : decode cX12_addPart 81 = .ok (.iload_n 1, 1) := by decide +kernel
theorem dX12_addPart_82 : decode cX12_addPart 82 = .ok (.dup2, 1) := by decide +kernel
theorem dX12_addPart_83 : decode cX12_addPart 83 = .ok (.iaload, 1) := by decide +kernel
theorem dX12_addPart_84 : decode cX12_addPart 84 = .ok (.iconst 1, 1) := by decide +kernel
theorem dX12_addPart_85 : decode cX12_addPart 85 = .ok (.iadd, 1) := by decide +kernel
theorem dX12_addPart_86 : decode cX12_addPart 86 = .ok (.iastore, 1) := by decide +kernel
theorem dX12_addPart_87 : decode cX12_addPart 87 = .ok (.aload_n 0, 1) := by decide +kernel
theorem dX12_addPart_88 : decode cX12_addPart 88 = .ok (.getfield 16, 3) := by decide +kernel
theorem dX12_addPart_91 : decode cX12_addPart 91 = .ok (.iload_n 1, 1) := by decide +kernel
theorem dX12_addPart_92 : decode cX12_addPart 92 = .ok (.iaload, 1) := by decide +kernel
theorem dX12_addPart_93 : decode cX12_addPart 93 = .ok (.ireturn, 1) := by decide +kernel
theorem dX12_deed_0 : decode cX12_deed 0 = .ok (.iload_n 1, 1) := by decide +kernel
theorem dX12_deed_1 : decode cX12_deed 1 = .ok (.iconst 0, 1) := by decide +kernel
theorem dX12_deed_2 : decode cX12_deed 2 = .ok (.bipush 11, 2) := by decide +kernel
theorem dX12_deed_4 : decode cX12_deed 4 = .ok (.invokestatic 93, 3) := by decide +kernel
theorem dX12_deed_7 : decode cX12_deed 7 = .ok (.ifCond .ne 6, 3) := by decide +kernel
theorem dX12_deed_10 : decode cX12_deed 10 = .ok (.bipush (-2), 2) := by decide +kernel
theorem dX12_deed_12 : decode cX12_deed 12 = .ok (.ireturn, 1) := by decide +kernel
theorem dX12_deed_13 : decode cX12_deed 13 = .ok (.aload_n 0, 1) := by decide +kernel
theorem dX12_deed_14 : decode cX12_deed 14 = .ok (.getfield 90, 3) := by decide +kernel
theorem dX12_deed_17 : decode cX12_deed 17 = .ok (.sipush 1500, 3) := by decide +kernel
theorem dX12_deed_20 : decode cX12_deed 20 = .ok (.if_icmp .ne 8, 3) := by decide +kernel
theorem dX12_deed_23 : decode cX12_deed 23 = .ok (.bipush (-4), 2) := by decide +kernel
theorem dX12_deed_25 : decode cX12_deed 25 = .ok (.goto 9, 3) := by decide +kernel
theorem dX12_deed_28 : decode cX12_deed 28 = .ok (.aload_n 0, 1) := by decide +kernel
theorem dX12_deed_29 : decode cX12_deed 29 = .ok (.iload_n 1, 1) := by decide +kernel
theorem dX12_deed_30 : decode cX12_deed 30 = .ok (.iload_n 2, 1) := by decide +kernel
theorem dX12_deed_31 : decode cX12_deed 31 = .ok (.invokevirtual 100, 3) := by decide +kernel
theorem dX12_deed_34 : decode cX12_deed 34 = .ok (.ireturn, 1) := by decide +kernel
theorem dX12_enclose_0 : decode cX12_enclose 0 = .ok (.aload_n 0, 1) := by decide +kernel
theorem dX12_enclose_1 : decode cX12_enclose 1 = .ok (.iload_n 1, 1) := by decide +kernel
theorem dX12_enclose_2 : decode cX12_enclose 2 = .ok (.invokevirtual 104, 3) := by decide +kernel
theorem dX12_enclose_5 : decode cX12_enclose 5 = .ok (.ifCond .eq 11, 3) := by decide +kernel
theorem dX12_enclose_8 : decode cX12_enclose 8 = .ok (.aload_n 0, 1) := by decide +kernel
theorem dX12_enclose_9 : decode cX12_enclose 9 = .ok (.iload_n 2, 1) := by decide +kernel
theorem dX12_enclose_10 : decode cX12_enclose 10 = .ok (.invokevirtual 104, 3) := by decide +kernel
theorem dX12_enclose_13 : decode cX12_enclose 13 = .ok (.ifCond .ne 6, 3) := by decide +kernel
theorem dX12_enclose_16 : decode cX12_enclose 16 = .ok (.bipush (-2), 2) := by decide +kernel
theorem dX12_enclose_18 : decode cX12_enclose 18 = .ok (.ireturn, 1) := by decide +kernel
theorem dX12_enclose_19 : decode cX12_enclose 19 = .ok (.iload_n 2, 1) := by decide +kernel
theorem dX12_enclose_20 : decode cX12_enclose 20 = .ok (.iload_n 1, 1) := by decide +kernel
theorem dX12_enclose_21 : decode cX12_enclose 21 = .ok (.if_icmp .lt 6, 3) := by decide +kernel
theorem dX12_enclose_24 : decode cX12_enclose 24 = .ok (.bipush (-3), 2) := by decide +kernel
theorem dX12_enclose_26 : decode cX12_enclose 26 = .ok (.ireturn, 1) := by decide +kernel
theorem dX12_enclose_27 : decode cX12_enclose 27 = .ok (.aload_n 0, 1) := by decide +kernel
theorem dX12_enclose_28 : decode cX12_enclose 28 = .ok (.getfield 97, 3) := by decide +kernel
theorem dX12_enclose_31 : decode cX12_enclose 31 = .ok (.sipush 4000, 3) := by decide +kernel
theorem dX12_enclose_34 : decode cX12_enclose 34 = .ok (.if_icmp .ne 8, 3) := by decide +kernel
theorem dX12_enclose_37 : decode cX12_enclose 37 = .ok (.bipush (-4), 2) := by decide +kernel
theorem dX12_enclose_39 : decode cX12_enclose 39 = .ok (.goto 9, 3) := by decide +kernel
theorem dX12_enclose_42 : decode cX12_enclose 42 = .ok (.aload_n 0, 1) := by decide +kernel
theorem dX12_enclose_43 : decode cX12_enclose 43 = .ok (.iload_n 1, 1) := by decide +kernel
theorem dX12_enclose_44 : decode cX12_enclose 44 = .ok (.iload_n 2, 1) := by decide +kernel
theorem dX12_enclose_45 : decode cX12_enclose 45 = .ok (.invokevirtual 108, 3) := by decide +kernel
theorem dX12_enclose_48 : decode cX12_enclose 48 = .ok (.ireturn, 1) := by decide +kernel
theorem dX12_chain_0 : decode cX12_chain 0 = .ok (.iload_n 1, 1) := by decide +kernel
theorem dX12_chain_1 : decode cX12_chain 1 = .ok (.iconst 1, 1) := by decide +kernel
theorem dX12_chain_2 : decode cX12_chain 2 = .ok (.sipush 400, 3) := by decide +kernel
theorem dX12_chain_5 : decode cX12_chain 5 = .ok (.invokestatic 93, 3) := by decide +kernel
theorem dX12_chain_8 : decode cX12_chain 8 = .ok (.ifCond .eq 38, 3) := by decide +kernel
theorem dX12_chain_11 : decode cX12_chain 11 = .ok (.iload_n 2, 1) := by decide +kernel
theorem dX12_chain_12 : decode cX12_chain 12 = .ok (.iconst 0, 1) := by decide +kernel
theorem dX12_chain_13 : decode cX12_chain 13 = .ok (.bipush 11, 2) := by decide +kernel
theorem dX12_chain_15 : decode cX12_chain 15 = .ok (.invokestatic 93, 3) := by decide +kernel
theorem dX12_chain_18 : decode cX12_chain 18 = .ok (.ifCond .eq 28, 3) := by decide +kernel
theorem dX12_chain_21 : decode cX12_chain 21 = .ok (.iload 4, 2) := by decide +kernel
theorem dX12_chain_23 : decode cX12_chain 23 = .ok (.iconst 1, 1) := by decide +kernel
theorem dX12_chain_24 : decode cX12_chain 24 = .ok (.iconst 4, 1) := by decide +kernel
theorem dX12_chain_25 : decode cX12_chain 25 = .ok (.invokestatic 93, 3) := by decide +kernel
theorem dX12_chain_28 : decode cX12_chain 28 = .ok (.ifCond .eq 18, 3) := by decide +kernel
theorem dX12_chain_31 : decode cX12_chain 31 = .ok (.iload 5, 2) := by decide +kernel
theorem dX12_chain_33 : decode cX12_chain 33 = .ok (.iconst (-1), 1) := by decide +kernel
theorem dX12_chain_34 : decode cX12_chain 34 = .ok (.if_icmp .eq 15, 3) := by decide +kernel
theorem dX12_chain_37 : decode cX12_chain 37 = .ok (.aload_n 0, 1) := by decide +kernel
theorem dX12_chain_38 : decode cX12_chain 38 = .ok (.iload 5, 2) := by decide +kernel
theorem dX12_chain_40 : decode cX12_chain 40 = .ok (.invokevirtual 104, 3) := by decide +kernel
theorem dX12_chain_43 : decode cX12_chain 43 = .ok (.ifCond .ne 6, 3) := by decide +kernel
theorem dX12_chain_46 : decode cX12_chain 46 = .ok (.bipush (-2), 2) := by decide +kernel
theorem dX12_chain_48 : decode cX12_chain 48 = .ok (.ireturn, 1) := by decide +kernel
theorem dX12_chain_49 : decode cX12_chain 49 = .ok (.iload 5, 2) := by decide +kernel
theorem dX12_chain_51 : decode cX12_chain 51 = .ok (.iconst (-1), 1) := by decide +kernel
theorem dX12_chain_52 : decode cX12_chain 52 = .ok (.if_icmp .ne 9, 3) := by decide +kernel
theorem dX12_chain_55 : decode cX12_chain 55 = .ok (.iload_n 1, 1) := by decide +kernel
theorem dX12_chain_56 : decode cX12_chain 56 = .ok (.iconst 1, 1) := by decide +kernel
theorem dX12_chain_57 : decode cX12_chain 57 = .ok (.isub, 1) := by decide +kernel
theorem dX12_chain_58 : decode cX12_chain 58 = .ok (.goto 4, 3) := by decide +kernel
theorem dX12_chain_61 : decode cX12_chain 61 = .ok (.iload_n 1, 1) := by decide +kernel
theorem dX12_chain_62 : decode cX12_chain 62 = .ok (.iload 4, 2) := by decide +kernel
theorem dX12_chain_64 : decode cX12_chain 64 = .ok (.imul, 1) := by decide +kernel
theorem dX12_chain_65 : decode cX12_chain 65 = .ok (.istore 6, 2) := by decide +kernel
theorem dX12_chain_67 : decode cX12_chain 67 = .ok (.aload_n 0, 1) := by decide +kernel
theorem dX12_chain_68 : decode cX12_chain 68 = .ok (.getfield 90, 3) := by decide +kernel
theorem dX12_chain_71 : decode cX12_chain 71 = .ok (.iload_n 1, 1) := by decide +kernel
theorem dX12_chain_72 : decode cX12_chain 72 = .ok (.iadd, 1) := by decide +kernel
theorem dX12_chain_73 : decode cX12_chain 73 = .ok (.sipush 1500, 3) := by decide +kernel
theorem dX12_chain_76 : decode cX12_chain 76 = .ok (.if_icmp .gt 16, 3) := by decide +kernel
theorem dX12_chain_79 : decode cX12_chain 79 = .ok (.aload_n 0, 1) := by decide +kernel
theorem dX12_chain_80 : decode cX12_chain 80 = .ok (.getfield 97, 3) := by decide +kernel
theorem dX12_chain_83 : decode cX12_chain 83 = .ok (.iload 6, 2) := by decide +kernel
theorem dX12_chain_85 : decode cX12_chain 85 = .ok (.iadd, 1) := by decide +kernel
theorem dX12_chain_86 : decode cX12_chain 86 = .ok (.sipush 4000, 3) := by decide +kernel
theorem dX12_chain_89 : decode cX12_chain 89 = .ok (.if_icmp .le 6, 3) := by decide +kernel
theorem dX12_chain_92 : decode cX12_chain 92 = .ok (.bipush (-4), 2) := by decide +kernel
theorem dX12_chain_94 : decode cX12_chain 94 = .ok (.ireturn, 1) := by decide +kernel
theorem dX12_chain_95 : decode cX12_chain 95 = .ok (.iload 5, 2) := by decide +kernel
theorem dX12_chain_97 : decode cX12_chain 97 = .ok (.istore 7, 2) := by decide +kernel
theorem dX12_chain_99 : decode cX12_chain 99 = .ok (.iconst 0, 1) := by decide +kernel
theorem dX12_chain_100 : decode cX12_chain 100 = .ok (.istore 8, 2) := by decide +kernel
theorem dX12_chain_102 : decode cX12_chain 102 = .ok (.iload 8, 2) := by decide +kernel
theorem dX12_chain_104 : decode cX12_chain 104 = .ok (.iload_n 1, 1) := by decide +kernel
theorem dX12_chain_105 : decode cX12_chain 105 = .ok (.if_icmp .ge 52, 3) := by decide +kernel
theorem dX12_chain_108 : decode cX12_chain 108 = .ok (.aload_n 0, 1) := by decide +kernel
theorem dX12_chain_109 : decode cX12_chain 109 = .ok (.iload_n 2, 1) := by decide +kernel
theorem dX12_chain_110 : decode cX12_chain 110 = .ok (.iload_n 3, 1) := by decide +kernel
theorem dX12_chain_111 : decode cX12_chain 111 = .ok (.invokevirtual 100, 3) := by decide +kernel
theorem dX12_chain_114 : decode cX12_chain 114 = .ok (.istore 9, 2) := by decide +kernel
theorem dX12_chain_116 : decode cX12_chain 116 = .ok (.iconst 0, 1) := by decide +kernel
theorem dX12_chain_117 : decode cX12_chain 117 = .ok (.istore 10, 2) := by decide +kernel
theorem dX12_chain_119 : decode cX12_chain 119 = .ok (.iload 10, 2) := by decide +kernel
theorem dX12_chain_121 : decode cX12_chain 121 = .ok (.iload 4, 2) := by decide +kernel
theorem dX12_chain_123 : decode cX12_chain 123 = .ok (.if_icmp .ge 24, 3) := by decide +kernel
theorem dX12_chain_126 : decode cX12_chain 126 = .ok (.iload 7, 2) := by decide +kernel
theorem dX12_chain_128 : decode cX12_chain 128 = .ok (.iconst (-1), 1) := by decide +kernel
theorem dX12_chain_129 : decode cX12_chain 129 = .ok (.if_icmp .eq 18, 3) := by decide +kernel
theorem dX12_chain_132 : decode cX12_chain 132 = .ok (.aload_n 0, 1) := by decide +kernel
theorem dX12_chain_133 : decode cX12_chain 133 = .ok (.iload 9, 2) := by decide +kernel
theorem dX12_chain_135 : decode cX12_chain 135 = .ok (.iload 7, 2) := by decide +kernel
theorem dX12_chain_137 : decode cX12_chain 137 = .ok (.invokevirtual 108, 3) := by decide +kernel
theorem dX12_chain_140 : decode cX12_chain 140 = .ok (.pop, 1) := by decide +kernel
theorem dX12_chain_141 : decode cX12_chain 141 = .ok (.iinc 10 1, 3) := by decide +kernel
theorem dX12_chain_144 : decode cX12_chain 144 = .ok (.goto (-25), 3) := by decide +kernel
theorem dX12_chain_147 : decode cX12_chain 147 = .ok (.iload 9, 2) := by decide +kernel
theorem dX12_chain_149 : decode cX12_chain 149 = .ok (.istore 7, 2) := by decide +kernel
theorem dX12_chain_151 : decode cX12_chain 151 = .ok (.iinc 8 1, 3) := by decide +kernel
theorem dX12_chain_154 : decode cX12_chain 154 = .ok (.goto (-52), 3) := by decide +kernel
theorem dX12_chain_157 : decode cX12_chain 157 = .ok (.iload 7, 2) := by decide +kernel
theorem dX12_chain_159 : decode cX12_chain 159 = .ok (.ireturn, 1) := by decide +kernel
theorem dX12_way_0 : decode cX12_way 0 = .ok (.iload_n 1, 1) := by decide +kernel
theorem dX12_way_1 : decode cX12_way 1 = .ok (.iconst 0, 1) := by decide +kernel
theorem dX12_way_2 : decode cX12_way 2 = .ok (.iconst 3, 1) := by decide +kernel
theorem dX12_way_3 : decode cX12_way 3 = .ok (.invokestatic 93, 3) := by decide +kernel
theorem dX12_way_6 : decode cX12_way 6 = .ok (.ifCond .ne 6, 3) := by decide +kernel
theorem dX12_way_9 : decode cX12_way 9 = .ok (.bipush (-2), 2) := by decide +kernel
theorem dX12_way_11 : decode cX12_way 11 = .ok (.ireturn, 1) := by decide +kernel
theorem dX12_way_12 : decode cX12_way 12 = .ok (.aload_n 0, 1) := by decide +kernel
theorem dX12_way_13 : decode cX12_way 13 = .ok (.getfield 111, 3) := by decide +kernel
theorem dX12_way_16 : decode cX12_way 16 = .ok (.istore_n 2, 1) := by decide +kernel
theorem dX12_way_17 : decode cX12_way 17 = .ok (.aload_n 0, 1) := by decide +kernel
theorem dX12_way_18 : decode cX12_way 18 = .ok (.iload_n 1, 1) := by decide +kernel
theorem dX12_way_19 : decode cX12_way 19 = .ok (.putfield 111, 3) := by decide +kernel
theorem dX12_way_22 : decode cX12_way 22 = .ok (.iload_n 2, 1) := by decide +kernel
theorem dX12_way_23 : decode cX12_way 23 = .ok (.ireturn, 1) := by decide +kernel
theorem dX12_meter_0 : decode cX12_meter 0 = .ok (.iload_n 1, 1) := by decide +kernel
theorem dX12_meter_1 : decode cX12_meter 1 = .ok (.iconst 1, 1) := by decide +kernel
theorem dX12_meter_2 : decode cX12_meter 2 = .ok (.sipush 300, 3) := by decide +kernel
theorem dX12_meter_5 : decode cX12_meter 5 = .ok (.invokestatic 93, 3) := by decide +kernel
theorem dX12_meter_8 : decode cX12_meter 8 = .ok (.ifCond .ne 6, 3) := by decide +kernel
theorem dX12_meter_11 : decode cX12_meter 11 = .ok (.bipush (-2), 2) := by decide +kernel
theorem dX12_meter_13 : decode cX12_meter 13 = .ok (.ireturn, 1) := by decide +kernel
theorem dX12_meter_14 : decode cX12_meter 14 = .ok (.aload_n 0, 1) := by decide +kernel
theorem dX12_meter_15 : decode cX12_meter 15 = .ok (.getfield 31, 3) := by decide +kernel
theorem dX12_meter_18 : decode cX12_meter 18 = .ok (.istore_n 2, 1) := by decide +kernel
theorem dX12_meter_19 : decode cX12_meter 19 = .ok (.aload_n 0, 1) := by decide +kernel
theorem dX12_meter_20 : decode cX12_meter 20 = .ok (.iload_n 1, 1) := by decide +kernel
theorem dX12_meter_21 : decode cX12_meter 21 = .ok (.putfield 31, 3) := by decide +kernel
theorem dX12_meter_24 : decode cX12_meter 24 = .ok (.iload_n 2, 1) := by decide +kernel
theorem dX12_meter_25 : decode cX12_meter 25 = .ok (.ireturn, 1) := by decide +kernel
theorem dX12_of_0 : decode cX12_of 0 = .ok (.aload_n 0, 1) := by decide +kernel
theorem dX12_of_1 : decode cX12_of 1 = .ok (.iload_n 1, 1) := by decide +kernel
theorem dX12_of_2 : decode cX12_of 2 = .ok (.invokevirtual 104, 3) := by decide +kernel
theorem dX12_of_5 : decode cX12_of 5 = .ok (.ifCond .eq 12, 3) := by decide +kernel
theorem dX12_of_8 : decode cX12_of 8 = .ok (.iload_n 2, 1) := by decide +kernel
theorem dX12_of_9 : decode cX12_of 9 = .ok (.iconst 0, 1) := by decide +kernel
theorem dX12_of_10 : decode cX12_of 10 = .ok (.iconst 2, 1) := by decide +kernel
theorem dX12_of_11 : decode cX12_of 11 = .ok (.invokestatic 93, 3) := by decide +kernel
theorem dX12_of_14 : decode cX12_of 14 = .ok (.ifCond .ne 6, 3) := by decide +kernel
theorem dX12_of_17 : decode cX12_of 17 = .ok (.ldc 114, 2) := by decide +kernel
theorem dX12_of_19 : decode cX12_of 19 = .ok (.ireturn, 1) := by decide +kernel
theorem dX12_of_20 : decode cX12_of 20 = .ok (.iload_n 2, 1) := by decide +kernel
theorem dX12_of_21 : decode cX12_of 21 = .ok (.ifCond .ne 12, 3) := by decide +kernel
theorem dX12_of_24 : decode cX12_of 24 = .ok (.aload_n 0, 1) := by decide +kernel
theorem dX12_of_25 : decode cX12_of 25 = .ok (.getfield 7, 3) := by decide +kernel
theorem dX12_of_28 : decode cX12_of 28 = .ok (.iload_n 1, 1) := by decide +kernel
theorem dX12_of_29 : decode cX12_of 29 = .ok (.iaload, 1) := by decide +kernel
theorem dX12_of_30 : decode cX12_of 30 = .ok (.goto 23, 3) := by decide +kernel
theorem dX12_of_33 : decode cX12_of 33 = .ok (.iload_n 2, 1) := by decide +kernel
theorem dX12_of_34 : decode cX12_of 34 = .ok (.iconst 1, 1) := by decide +kernel
theorem dX12_of_35 : decode cX12_of 35 = .ok (.if_icmp .ne 12, 3) := by decide +kernel
theorem dX12_of_38 : decode cX12_of 38 = .ok (.aload_n 0, 1) := by decide +kernel
theorem dX12_of_39 : decode cX12_of 39 = .ok (.getfield 16, 3) := by decide +kernel
theorem dX12_of_42 : decode cX12_of 42 = .ok (.iload_n 1, 1) := by decide +kernel
theorem dX12_of_43 : decode cX12_of 43 = .ok (.iaload, 1) := by decide +kernel
theorem dX12_of_44 : decode cX12_of 44 = .ok (.goto 9, 3) := by decide +kernel
theorem dX12_of_47 : decode cX12_of 47 = .ok (.aload_n 0, 1) := by decide +kernel
theorem dX12_of_48 : decode cX12_of 48 = .ok (.getfield 13, 3) := by decide +kernel
theorem dX12_of_51 : decode cX12_of 51 = .ok (.iload_n 1, 1) := by decide +kernel
theorem dX12_of_52 : decode cX12_of 52 = .ok (.iaload, 1) := by decide +kernel
theorem dX12_of_53 : decode cX12_of 53 = .ok (.ireturn, 1) := by decide +kernel
theorem dX12_partAt_0 : decode cX12_partAt 0 = .ok (.aload_n 0, 1) := by decide +kernel
theorem dX12_partAt_1 : decode cX12_partAt 1 = .ok (.getfield 19, 3) := by decide +kernel
theorem dX12_partAt_4 : decode cX12_partAt 4 = .ok (.iload_n 1, 1) := by decide +kernel
theorem dX12_partAt_5 : decode cX12_partAt 5 = .ok (.iaload, 1) := by decide +kernel
theorem dX12_partAt_6 : decode cX12_partAt 6 = .ok (.istore_n 3, 1) := by decide +kernel
theorem dX12_partAt_7 : decode cX12_partAt 7 = .ok (.iconst 0, 1) := by decide +kernel
theorem dX12_partAt_8 : decode cX12_partAt 8 = .ok (.istore 4, 2) := by decide +kernel
theorem dX12_partAt_10 : decode cX12_partAt 10 = .ok (.iload 4, 2) := by decide +kernel
theorem dX12_partAt_12 : decode cX12_partAt 12 = .ok (.iload_n 2, 1) := by decide +kernel
theorem dX12_partAt_13 : decode cX12_partAt 13 = .ok (.if_icmp .ge 16, 3) := by decide +kernel
theorem dX12_partAt_16 : decode cX12_partAt 16 = .ok (.aload_n 0, 1) := by decide +kernel
theorem dX12_partAt_17 : decode cX12_partAt 17 = .ok (.getfield 28, 3) := by decide +kernel
theorem dX12_partAt_20 : decode cX12_partAt 20 = .ok (.iload_n 3, 1) := by decide +kernel
theorem dX12_partAt_21 : decode cX12_partAt 21 = .ok (.iaload, 1) := by decide +kernel
theorem dX12_partAt_22 : decode cX12_partAt 22 = .ok (.istore_n 3, 1) := by decide +kernel
theorem dX12_partAt_23 : decode cX12_partAt 23 = .ok (.iinc 4 1, 3) := by decide +kernel
theorem dX12_partAt_26 : decode cX12_partAt 26 = .ok (.goto (-16), 3) := by decide +kernel
theorem dX12_partAt_29 : decode cX12_partAt 29 = .ok (.aload_n 0, 1) := by decide +kernel
theorem dX12_partAt_30 : decode cX12_partAt 30 = .ok (.getfield 25, 3) := by decide +kernel
theorem dX12_partAt_33 : decode cX12_partAt 33 = .ok (.iload_n 3, 1) := by decide +kernel
theorem dX12_partAt_34 : decode cX12_partAt 34 = .ok (.iaload, 1) := by decide +kernel
theorem dX12_partAt_35 : decode cX12_partAt 35 = .ok (.ireturn, 1) := by decide +kernel
theorem dX12_part_0 : decode cX12_part 0 = .ok (.aload_n 0, 1) := by decide +kernel
theorem dX12_part_1 : decode cX12_part 1 = .ok (.iload_n 1, 1) := by decide +kernel
theorem dX12_part_2 : decode cX12_part 2 = .ok (.invokevirtual 104, 3) := by decide +kernel
theorem dX12_part_5 : decode cX12_part 5 = .ok (.ifCond .eq 28, 3) := by decide +kernel
theorem dX12_part_8 : decode cX12_part 8 = .ok (.iload_n 2, 1) := by decide +kernel
theorem dX12_part_9 : decode cX12_part 9 = .ok (.iconst 0, 1) := by decide +kernel
theorem dX12_part_10 : decode cX12_part 10 = .ok (.aload_n 0, 1) := by decide +kernel
theorem dX12_part_11 : decode cX12_part 11 = .ok (.getfield 16, 3) := by decide +kernel
theorem dX12_part_14 : decode cX12_part 14 = .ok (.iload_n 1, 1) := by decide +kernel
theorem dX12_part_15 : decode cX12_part 15 = .ok (.iaload, 1) := by decide +kernel
theorem dX12_part_16 : decode cX12_part 16 = .ok (.iconst 1, 1) := by decide +kernel
theorem dX12_part_17 : decode cX12_part 17 = .ok (.isub, 1) := by decide +kernel
theorem dX12_part_18 : decode cX12_part 18 = .ok (.invokestatic 93, 3) := by decide +kernel
theorem dX12_part_21 : decode cX12_part 21 = .ok (.ifCond .eq 12, 3) := by decide +kernel
theorem dX12_part_24 : decode cX12_part 24 = .ok (.aload_n 0, 1) := by decide +kernel
theorem dX12_part_25 : decode cX12_part 25 = .ok (.iload_n 1, 1) := by decide +kernel
theorem dX12_part_26 : decode cX12_part 26 = .ok (.iload_n 2, 1) := by decide +kernel
theorem dX12_part_27 : decode cX12_part 27 = .ok (.invokevirtual 115, 3) := by decide +kernel
theorem dX12_part_30 : decode cX12_part 30 = .ok (.goto 5, 3) := by decide +kernel
theorem dX12_part_33 : decode cX12_part 33 = .ok (.bipush (-2), 2) := by decide +kernel
theorem dX12_part_35 : decode cX12_part 35 = .ok (.ireturn, 1) := by decide +kernel
theorem dX12_turned_0 : decode cX12_turned 0 = .ok (.iload_n 2, 1) := by decide +kernel
theorem dX12_turned_1 : decode cX12_turned 1 = .ok (.bipush 64, 2) := by decide +kernel
theorem dX12_turned_3 : decode cX12_turned 3 = .ok (.irem, 1) := by decide +kernel
theorem dX12_turned_4 : decode cX12_turned 4 = .ok (.istore_n 3, 1) := by decide +kernel
theorem dX12_turned_5 : decode cX12_turned 5 = .ok (.iload_n 3, 1) := by decide +kernel
theorem dX12_turned_6 : decode cX12_turned 6 = .ok (.ifCond .ne 7, 3) := by decide +kernel
theorem dX12_turned_9 : decode cX12_turned 9 = .ok (.lload_n 0, 1) := by decide +kernel
theorem dX12_turned_10 : decode cX12_turned 10 = .ok (.goto 13, 3) := by decide +kernel
theorem dX12_turned_13 : decode cX12_turned 13 = .ok (.lload_n 0, 1) := by decide +kernel
theorem dX12_turned_14 : decode cX12_turned 14 = .ok (.iload_n 3, 1) := by decide +kernel
theorem dX12_turned_15 : decode cX12_turned 15 = .ok (.lshl, 1) := by decide +kernel
theorem dX12_turned_16 : decode cX12_turned 16 = .ok (.lload_n 0, 1) := by decide +kernel
theorem dX12_turned_17 : decode cX12_turned 17 = .ok (.bipush 64, 2) := by decide +kernel
theorem dX12_turned_19 : decode cX12_turned 19 = .ok (.iload_n 3, 1) := by decide +kernel
theorem dX12_turned_20 : decode cX12_turned 20 = .ok (.isub, 1) := by decide +kernel
theorem dX12_turned_21 : decode cX12_turned 21 = .ok (.lushr, 1) := by decide +kernel
theorem dX12_turned_22 : decode cX12_turned 22 = .ok (.lor, 1) := by decide +kernel
theorem dX12_turned_23 : decode cX12_turned 23 = .ok (.lreturn, 1) := by decide +kernel
theorem dX12_byAll_0 : decode cX12_byAll 0 = .ok (.aload_n 0, 1) := by decide +kernel
theorem dX12_byAll_1 : decode cX12_byAll 1 = .ok (.getfield 7, 3) := by decide +kernel
theorem dX12_byAll_4 : decode cX12_byAll 4 = .ok (.iload_n 1, 1) := by decide +kernel
theorem dX12_byAll_5 : decode cX12_byAll 5 = .ok (.iaload, 1) := by decide +kernel
theorem dX12_byAll_6 : decode cX12_byAll 6 = .ok (.bipush 6, 2) := by decide +kernel
theorem dX12_byAll_8 : decode cX12_byAll 8 = .ok (.if_icmp .ne 7, 3) := by decide +kernel
theorem dX12_byAll_11 : decode cX12_byAll 11 = .ok (.lconst 0, 1) := by decide +kernel
theorem dX12_byAll_12 : decode cX12_byAll 12 = .ok (.goto 10, 3) := by decide +kernel
theorem dX12_byAll_15 : decode cX12_byAll 15 = .ok (.aload_n 0, 1) := by decide +kernel
theorem dX12_byAll_16 : decode cX12_byAll 16 = .ok (.getfield 13, 3) := by decide +kernel
theorem dX12_byAll_19 : decode cX12_byAll 19 = .ok (.iload_n 1, 1) := by decide +kernel
theorem dX12_byAll_20 : decode cX12_byAll 20 = .ok (.iaload, 1) := by decide +kernel
theorem dX12_byAll_21 : decode cX12_byAll 21 = .ok (.i2l, 1) := by decide +kernel
theorem dX12_byAll_22 : decode cX12_byAll 22 = .ok (.lstore_n 2, 1) := by decide +kernel
theorem dX12_byAll_23 : decode cX12_byAll 23 = .ok (.iconst 1, 1) := by decide +kernel
theorem dX12_byAll_24 : decode cX12_byAll 24 = .ok (.istore 4, 2) := by decide +kernel
theorem dX12_byAll_26 : decode cX12_byAll 26 = .ok (.iconst 0, 1) := by decide +kernel
theorem dX12_byAll_27 : decode cX12_byAll 27 = .ok (.istore 5, 2) := by decide +kernel
theorem dX12_byAll_29 : decode cX12_byAll 29 = .ok (.aload_n 0, 1) := by decide +kernel
theorem dX12_byAll_30 : decode cX12_byAll 30 = .ok (.getfield 19, 3) := by decide +kernel
theorem dX12_byAll_33 : decode cX12_byAll 33 = .ok (.iload_n 1, 1) := by decide +kernel
theorem dX12_byAll_34 : decode cX12_byAll 34 = .ok (.iaload, 1) := by decide +kernel
theorem dX12_byAll_35 : decode cX12_byAll 35 = .ok (.istore 6, 2) := by decide +kernel
theorem dX12_byAll_37 : decode cX12_byAll 37 = .ok (.iload 6, 2) := by decide +kernel
theorem dX12_byAll_39 : decode cX12_byAll 39 = .ok (.iconst (-1), 1) := by decide +kernel
theorem dX12_byAll_40 : decode cX12_byAll 40 = .ok (.if_icmp .eq 224, 3) := by decide +kernel
theorem dX12_byAll_43 : decode cX12_byAll 43 = .ok (.aload_n 0, 1) := by decide +kernel
theorem dX12_byAll_44 : decode cX12_byAll 44 = .ok (.getfield 38, 3) := by decide +kernel
theorem dX12_byAll_47 : decode cX12_byAll 47 = .ok (.aload_n 0, 1) := by decide +kernel
theorem dX12_byAll_48 : decode cX12_byAll 48 = .ok (.getfield 25, 3) := by decide +kernel
theorem dX12_byAll_51 : decode cX12_byAll 51 = .ok (.iload 6, 2) := by decide +kernel
theorem dX12_byAll_53 : decode cX12_byAll 53 = .ok (.iaload, 1) := by decide +kernel
theorem dX12_byAll_54 : decode cX12_byAll 54 = .ok (.laload, 1) := by decide +kernel
theorem dX12_byAll_55 : decode cX12_byAll 55 = .ok (.lstore 7, 2) := by decide +kernel
theorem dX12_byAll_57 : decode cX12_byAll 57 = .ok (.iload 4, 2) := by decide +kernel
theorem dX12_byAll_59 : decode cX12_byAll 59 = .ok (.ifCond .eq 29, 3) := by decide +kernel
theorem dX12_byAll_62 : decode cX12_byAll 62 = .ok (.lload 7, 2) := by decide +kernel
theorem dX12_byAll_64 : decode cX12_byAll 64 = .ok (.aload_n 0, 1) := by decide +kernel
theorem dX12_byAll_65 : decode cX12_byAll 65 = .ok (.getfield 38, 3) := by decide +kernel
theorem dX12_byAll_68 : decode cX12_byAll 68 = .ok (.aload_n 0, 1) := by decide +kernel
theorem dX12_byAll_69 : decode cX12_byAll 69 = .ok (.getfield 25, 3) := by decide +kernel
theorem dX12_byAll_72 : decode cX12_byAll 72 = .ok (.aload_n 0, 1) := by decide +kernel
theorem dX12_byAll_73 : decode cX12_byAll 73 = .ok (.getfield 19, 3) := by decide +kernel
theorem dX12_byAll_76 : decode cX12_byAll 76 = .ok (.iload_n 1, 1) := by decide +kernel
theorem dX12_byAll_77 : decode cX12_byAll 77 = .ok (.iaload, 1) := by decide +kernel
theorem dX12_byAll_78 : decode cX12_byAll 78 = .ok (.iaload, 1) := by decide +kernel
theorem dX12_byAll_79 : decode cX12_byAll 79 = .ok (.laload, 1) := by decide +kernel
theorem dX12_byAll_80 : decode cX12_byAll 80 = .ok (.lcmp, 1) := by decide +kernel
theorem dX12_byAll_81 : decode cX12_byAll 81 = .ok (.ifCond .ne 7, 3) := by decide +kernel
theorem dX12_byAll_84 : decode cX12_byAll 84 = .ok (.iconst 1, 1) := by decide +kernel
theorem dX12_byAll_85 : decode cX12_byAll 85 = .ok (.goto 4, 3) := by decide +kernel
theorem dX12_byAll_88 : decode cX12_byAll 88 = .ok (.iconst 0, 1) := by decide +kernel
theorem dX12_byAll_89 : decode cX12_byAll 89 = .ok (.istore 4, 2) := by decide +kernel
theorem dX12_byAll_91 : decode cX12_byAll 91 = .ok (.aload_n 0, 1) := by decide +kernel
theorem dX12_byAll_92 : decode cX12_byAll 92 = .ok (.getfield 7, 3) := by decide +kernel
theorem dX12_byAll_95 : decode cX12_byAll 95 = .ok (.iload_n 1, 1) := by decide +kernel
theorem dX12_byAll_96 : decode cX12_byAll 96 = .ok (.iaload, 1) := by decide +kernel
theorem dX12_byAll_97 : decode cX12_byAll 97 = .ok (.tableswitch 152 1 10 #[55, 63, 71, 89, 106, 123, 152, 152, 152, 139], 55) := by decide +kernel
theorem dX12_byAll_152 : decode cX12_byAll 152 = .ok (.lload_n 2, 1) := by decide +kernel
theorem dX12_byAll_153 : decode cX12_byAll 153 = .ok (.lload 7, 2) := by decide +kernel
theorem dX12_byAll_155 : decode cX12_byAll 155 = .ok (.ladd, 1) := by decide +kernel
theorem dX12_byAll_156 : decode cX12_byAll 156 = .ok (.lstore_n 2, 1) := by decide +kernel
theorem dX12_byAll_157 : decode cX12_byAll 157 = .ok (.goto 92, 3) := by decide +kernel
theorem dX12_byAll_160 : decode cX12_byAll 160 = .ok (.lload_n 2, 1) := by decide +kernel
theorem dX12_byAll_161 : decode cX12_byAll 161 = .ok (.lload 7, 2) := by decide +kernel
theorem dX12_byAll_163 : decode cX12_byAll 163 = .ok (.lmul, 1) := by decide +kernel
theorem dX12_byAll_164 : decode cX12_byAll 164 = .ok (.lstore_n 2, 1) := by decide +kernel
theorem dX12_byAll_165 : decode cX12_byAll 165 = .ok (.goto 84, 3) := by decide +kernel
theorem dX12_byAll_168 : decode cX12_byAll 168 = .ok (.iload 5, 2) := by decide +kernel
theorem dX12_byAll_170 : decode cX12_byAll 170 = .ok (.ifCond .ne 8, 3) := by decide +kernel
theorem dX12_byAll_173 : decode cX12_byAll 173 = .ok (.lload 7, 2) := by decide +kernel
theorem dX12_byAll_175 : decode cX12_byAll 175 = .ok (.goto 7, 3) := by decide +kernel
theorem dX12_byAll_178 : decode cX12_byAll 178 = .ok (.lload_n 2, 1) := by decide +kernel
theorem dX12_byAll_179 : decode cX12_byAll 179 = .ok (.lload 7, 2) := by decide +kernel
theorem dX12_byAll_181 : decode cX12_byAll 181 = .ok (.lsub, 1) := by decide +kernel
theorem dX12_byAll_182 : decode cX12_byAll 182 = .ok (.lstore_n 2, 1) := by decide +kernel
theorem dX12_byAll_183 : decode cX12_byAll 183 = .ok (.goto 66, 3) := by decide +kernel
theorem dX12_byAll_186 : decode cX12_byAll 186 = .ok (.lload 7, 2) := by decide +kernel
theorem dX12_byAll_188 : decode cX12_byAll 188 = .ok (.lload_n 2, 1) := by decide +kernel
theorem dX12_byAll_189 : decode cX12_byAll 189 = .ok (.lcmp, 1) := by decide +kernel
theorem dX12_byAll_190 : decode cX12_byAll 190 = .ok (.ifCond .le 8, 3) := by decide +kernel
theorem dX12_byAll_193 : decode cX12_byAll 193 = .ok (.lload 7, 2) := by decide +kernel
theorem dX12_byAll_195 : decode cX12_byAll 195 = .ok (.goto 4, 3) := by decide +kernel
theorem dX12_byAll_198 : decode cX12_byAll 198 = .ok (.lload_n 2, 1) := by decide +kernel
theorem dX12_byAll_199 : decode cX12_byAll 199 = .ok (.lstore_n 2, 1) := by decide +kernel
theorem dX12_byAll_200 : decode cX12_byAll 200 = .ok (.goto 49, 3) := by decide +kernel
theorem dX12_byAll_203 : decode cX12_byAll 203 = .ok (.lload 7, 2) := by decide +kernel
theorem dX12_byAll_205 : decode cX12_byAll 205 = .ok (.lload_n 2, 1) := by decide +kernel
theorem dX12_byAll_206 : decode cX12_byAll 206 = .ok (.lcmp, 1) := by decide +kernel
theorem dX12_byAll_207 : decode cX12_byAll 207 = .ok (.ifCond .ge 8, 3) := by decide +kernel
theorem dX12_byAll_210 : decode cX12_byAll 210 = .ok (.lload 7, 2) := by decide +kernel
theorem dX12_byAll_212 : decode cX12_byAll 212 = .ok (.goto 4, 3) := by decide +kernel
theorem dX12_byAll_215 : decode cX12_byAll 215 = .ok (.lload_n 2, 1) := by decide +kernel
theorem dX12_byAll_216 : decode cX12_byAll 216 = .ok (.lstore_n 2, 1) := by decide +kernel
theorem dX12_byAll_217 : decode cX12_byAll 217 = .ok (.goto 32, 3) := by decide +kernel
theorem dX12_byAll_220 : decode cX12_byAll 220 = .ok (.lload_n 2, 1) := by decide +kernel
theorem dX12_byAll_221 : decode cX12_byAll 221 = .ok (.aload_n 0, 1) := by decide +kernel
theorem dX12_byAll_222 : decode cX12_byAll 222 = .ok (.getfield 13, 3) := by decide +kernel
theorem dX12_byAll_225 : decode cX12_byAll 225 = .ok (.iload_n 1, 1) := by decide +kernel
theorem dX12_byAll_226 : decode cX12_byAll 226 = .ok (.iaload, 1) := by decide +kernel
theorem dX12_byAll_227 : decode cX12_byAll 227 = .ok (.i2l, 1) := by decide +kernel
theorem dX12_byAll_228 : decode cX12_byAll 228 = .ok (.lmul, 1) := by decide +kernel
theorem dX12_byAll_229 : decode cX12_byAll 229 = .ok (.lload 7, 2) := by decide +kernel
theorem dX12_byAll_231 : decode cX12_byAll 231 = .ok (.ladd, 1) := by decide +kernel
theorem dX12_byAll_232 : decode cX12_byAll 232 = .ok (.lstore_n 2, 1) := by decide +kernel
theorem dX12_byAll_233 : decode cX12_byAll 233 = .ok (.goto 16, 3) := by decide +kernel
theorem dX12_byAll_236 : decode cX12_byAll 236 = .ok (.lload_n 2, 1) := by decide +kernel
theorem dX12_byAll_237 : decode cX12_byAll 237 = .ok (.lload 7, 2) := by decide +kernel
theorem dX12_byAll_239 : decode cX12_byAll 239 = .ok (.iload 5, 2) := by decide +kernel
theorem dX12_byAll_241 : decode cX12_byAll 241 = .ok (.invokestatic 118, 3) := by decide +kernel
theorem dX12_byAll_244 : decode cX12_byAll 244 = .ok (.lxor, 1) := by decide +kernel
theorem dX12_byAll_245 : decode cX12_byAll 245 = .ok (.lstore_n 2, 1) := by decide +kernel
theorem dX12_byAll_246 : decode cX12_byAll 246 = .ok (.goto 3, 3) := by decide +kernel
theorem dX12_byAll_249 : decode cX12_byAll 249 = .ok (.iinc 5 1, 3) := by decide +kernel
theorem dX12_byAll_252 : decode cX12_byAll 252 = .ok (.aload_n 0, 1) := by decide +kernel
theorem dX12_byAll_253 : decode cX12_byAll 253 = .ok (.getfield 28, 3) := by decide +kernel
theorem dX12_byAll_256 : decode cX12_byAll 256 = .ok (.iload 6, 2) := by decide +kernel
theorem dX12_byAll_258 : decode cX12_byAll 258 = .ok (.iaload, 1) := by decide +kernel
theorem dX12_byAll_259 : decode cX12_byAll 259 = .ok (.istore 6, 2) := by decide +kernel
theorem dX12_byAll_261 : decode cX12_byAll 261 = .ok (.goto (-224), 3) := by decide +kernel
theorem dX12_byAll_264 : decode cX12_byAll 264 = .ok (.aload_n 0, 1) := by decide +kernel
theorem dX12_byAll_265 : decode cX12_byAll 265 = .ok (.getfield 7, 3) := by decide +kernel
theorem dX12_byAll_268 : decode cX12_byAll 268 = .ok (.iload_n 1, 1) := by decide +kernel
theorem dX12_byAll_269 : decode cX12_byAll 269 = .ok (.iaload, 1) := by decide +kernel
theorem dX12_byAll_270 : decode cX12_byAll 270 = .ok (.bipush 9, 2) := by decide +kernel
theorem dX12_byAll_272 : decode cX12_byAll 272 = .ok (.if_icmp .ne 16, 3) := by decide +kernel
theorem dX12_byAll_275 : decode cX12_byAll 275 = .ok (.iload 4, 2) := by decide +kernel
theorem dX12_byAll_277 : decode cX12_byAll 277 = .ok (.ifCond .eq 7, 3) := by decide +kernel
theorem dX12_byAll_280 : decode cX12_byAll 280 = .ok (.lconst 1, 1) := by decide +kernel
theorem dX12_byAll_281 : decode cX12_byAll 281 = .ok (.goto 37, 3) := by decide +kernel
theorem dX12_byAll_284 : decode cX12_byAll 284 = .ok (.lconst 0, 1) := by decide +kernel
theorem dX12_byAll_285 : decode cX12_byAll 285 = .ok (.goto 33, 3) := by decide +kernel
theorem dX12_byAll_288 : decode cX12_byAll 288 = .ok (.aload_n 0, 1) := by decide +kernel
theorem dX12_byAll_289 : decode cX12_byAll 289 = .ok (.getfield 7, 3) := by decide +kernel
theorem dX12_byAll_292 : decode cX12_byAll 292 = .ok (.iload_n 1, 1) := by decide +kernel
theorem dX12_byAll_293 : decode cX12_byAll 293 = .ok (.iaload, 1) := by decide +kernel
theorem dX12_byAll_294 : decode cX12_byAll 294 = .ok (.bipush 11, 2) := by decide +kernel
theorem dX12_byAll_296 : decode cX12_byAll 296 = .ok (.if_icmp .ne 21, 3) := by decide +kernel
theorem dX12_byAll_299 : decode cX12_byAll 299 = .ok (.aload_n 0, 1) := by decide +kernel
theorem dX12_byAll_300 : decode cX12_byAll 300 = .ok (.getfield 13, 3) := by decide +kernel
theorem dX12_byAll_303 : decode cX12_byAll 303 = .ok (.iload_n 1, 1) := by decide +kernel
theorem dX12_byAll_304 : decode cX12_byAll 304 = .ok (.iaload, 1) := by decide +kernel
theorem dX12_byAll_305 : decode cX12_byAll 305 = .ok (.i2l, 1) := by decide +kernel
theorem dX12_byAll_306 : decode cX12_byAll 306 = .ok (.aload_n 0, 1) := by decide +kernel
theorem dX12_byAll_307 : decode cX12_byAll 307 = .ok (.getfield 16, 3) := by decide +kernel
theorem dX12_byAll_310 : decode cX12_byAll 310 = .ok (.iload_n 1, 1) := by decide +kernel
theorem dX12_byAll_311 : decode cX12_byAll 311 = .ok (.iaload, 1) := by decide +kernel
theorem dX12_byAll_312 : decode cX12_byAll 312 = .ok (.i2l, 1) := by decide +kernel
theorem dX12_byAll_313 : decode cX12_byAll 313 = .ok (.ladd, 1) := by decide +kernel
theorem dX12_byAll_314 : decode cX12_byAll 314 = .ok (.goto 4, 3) := by decide +kernel
theorem dX12_byAll_317 : decode cX12_byAll 317 = .ok (.lload_n 2, 1) := by decide +kernel
theorem dX12_byAll_318 : decode cX12_byAll 318 = .ok (.lreturn, 1) := by decide +kernel
theorem dX12_chosen_0 : decode cX12_chosen 0 = .ok (.aload_n 0, 1) := by decide +kernel
theorem dX12_chosen_1 : decode cX12_chosen 1 = .ok (.getfield 38, 3) := by decide +kernel
theorem dX12_chosen_4 : decode cX12_chosen 4 = .ok (.aload_n 0, 1) := by decide +kernel
theorem dX12_chosen_5 : decode cX12_chosen 5 = .ok (.getfield 25, 3) := by decide +kernel
theorem dX12_chosen_8 : decode cX12_chosen 8 = .ok (.aload_n 0, 1) := by decide +kernel
theorem dX12_chosen_9 : decode cX12_chosen 9 = .ok (.getfield 19, 3) := by decide +kernel
theorem dX12_chosen_12 : decode cX12_chosen 12 = .ok (.iload_n 1, 1) := by decide +kernel
theorem dX12_chosen_13 : decode cX12_chosen 13 = .ok (.iaload, 1) := by decide +kernel
theorem dX12_chosen_14 : decode cX12_chosen 14 = .ok (.iaload, 1) := by decide +kernel
theorem dX12_chosen_15 : decode cX12_chosen 15 = .ok (.laload, 1) := by decide +kernel
theorem dX12_chosen_16 : decode cX12_chosen 16 = .ok (.lstore_n 2, 1) := by decide +kernel
theorem dX12_chosen_17 : decode cX12_chosen 17 = .ok (.aload_n 0, 1) := by decide +kernel
theorem dX12_chosen_18 : decode cX12_chosen 18 = .ok (.getfield 16, 3) := by decide +kernel
theorem dX12_chosen_21 : decode cX12_chosen 21 = .ok (.iload_n 1, 1) := by decide +kernel
theorem dX12_chosen_22 : decode cX12_chosen 22 = .ok (.iaload, 1) := by decide +kernel
theorem dX12_chosen_23 : decode cX12_chosen 23 = .ok (.iconst 1, 1) := by decide +kernel
theorem dX12_chosen_24 : decode cX12_chosen 24 = .ok (.isub, 1) := by decide +kernel
theorem dX12_chosen_25 : decode cX12_chosen 25 = .ok (.istore 4, 2) := by decide +kernel
theorem dX12_chosen_27 : decode cX12_chosen 27 = .ok (.lload_n 2, 1) := by decide +kernel
theorem dX12_chosen_28 : decode cX12_chosen 28 = .ok (.iload 4, 2) := by decide +kernel
theorem dX12_chosen_30 : decode cX12_chosen 30 = .ok (.i2l, 1) := by decide +kernel
theorem dX12_chosen_31 : decode cX12_chosen 31 = .ok (.lrem, 1) := by decide +kernel
theorem dX12_chosen_32 : decode cX12_chosen 32 = .ok (.lstore 5, 2) := by decide +kernel
theorem dX12_chosen_34 : decode cX12_chosen 34 = .ok (.iconst 1, 1) := by decide +kernel
theorem dX12_chosen_35 : decode cX12_chosen 35 = .ok (.lload 5, 2) := by decide +kernel
theorem dX12_chosen_37 : decode cX12_chosen 37 = .ok (.lconst 0, 1) := by decide +kernel
theorem dX12_chosen_38 : decode cX12_chosen 38 = .ok (.lcmp, 1) := by decide +kernel
theorem dX12_chosen_39 : decode cX12_chosen 39 = .ok (.ifCond .ge 12, 3) := by decide +kernel
theorem dX12_chosen_42 : decode cX12_chosen 42 = .ok (.lload 5, 2) := by decide +kernel
theorem dX12_chosen_44 : decode cX12_chosen 44 = .ok (.iload 4, 2) := by decide +kernel
theorem dX12_chosen_46 : decode cX12_chosen 46 = .ok (.i2l, 1) := by decide +kernel
theorem dX12_chosen_47 : decode cX12_chosen 47 = .ok (.ladd, 1) := by decide +kernel
theorem dX12_chosen_48 : decode cX12_chosen 48 = .ok (.goto 5, 3) := by decide +kernel
theorem dX12_chosen_51 : decode cX12_chosen 51 = .ok (.lload 5, 2) := by decide +kernel
theorem dX12_chosen_53 : decode cX12_chosen 53 = .ok (.l2i, 1) := by decide +kernel
theorem dX12_chosen_54 : decode cX12_chosen 54 = .ok (.iadd, 1) := by decide +kernel
theorem dX12_chosen_55 : decode cX12_chosen 55 = .ok (.ireturn, 1) := by decide +kernel
theorem dX12_lookedAt_0 : decode cX12_lookedAt 0 = .ok (.iconst 0, 1) := by decide +kernel
theorem dX12_lookedAt_1 : decode cX12_lookedAt 1 = .ok (.istore_n 2, 1) := by decide +kernel
theorem dX12_lookedAt_2 : decode cX12_lookedAt 2 = .ok (.aload_n 0, 1) := by decide +kernel
theorem dX12_lookedAt_3 : decode cX12_lookedAt 3 = .ok (.getfield 19, 3) := by decide +kernel
theorem dX12_lookedAt_6 : decode cX12_lookedAt 6 = .ok (.iload_n 1, 1) := by decide +kernel
theorem dX12_lookedAt_7 : decode cX12_lookedAt 7 = .ok (.iaload, 1) := by decide +kernel
theorem dX12_lookedAt_8 : decode cX12_lookedAt 8 = .ok (.istore_n 3, 1) := by decide +kernel
theorem dX12_lookedAt_9 : decode cX12_lookedAt 9 = .ok (.iload_n 3, 1) := by decide +kernel
theorem dX12_lookedAt_10 : decode cX12_lookedAt 10 = .ok (.iconst (-1), 1) := by decide +kernel
theorem dX12_lookedAt_11 : decode cX12_lookedAt 11 = .ok (.if_icmp .eq 34, 3) := by decide +kernel
theorem dX12_lookedAt_14 : decode cX12_lookedAt 14 = .ok (.iinc 2 1, 3) := by decide +kernel
theorem dX12_lookedAt_17 : decode cX12_lookedAt 17 = .ok (.aload_n 0, 1) := by decide +kernel
theorem dX12_lookedAt_18 : decode cX12_lookedAt 18 = .ok (.getfield 38, 3) := by decide +kernel
theorem dX12_lookedAt_21 : decode cX12_lookedAt 21 = .ok (.aload_n 0, 1) := by decide +kernel
theorem dX12_lookedAt_22 : decode cX12_lookedAt 22 = .ok (.getfield 25, 3) := by decide +kernel
theorem dX12_lookedAt_25 : decode cX12_lookedAt 25 = .ok (.iload_n 3, 1) := by decide +kernel
theorem dX12_lookedAt_26 : decode cX12_lookedAt 26 = .ok (.iaload, 1) := by decide +kernel
theorem dX12_lookedAt_27 : decode cX12_lookedAt 27 = .ok (.laload, 1) := by decide +kernel
theorem dX12_lookedAt_28 : decode cX12_lookedAt 28 = .ok (.lconst 0, 1) := by decide +kernel
theorem dX12_lookedAt_29 : decode cX12_lookedAt 29 = .ok (.lcmp, 1) := by decide +kernel
theorem dX12_lookedAt_30 : decode cX12_lookedAt 30 = .ok (.ifCond .eq 5, 3) := by decide +kernel
theorem dX12_lookedAt_33 : decode cX12_lookedAt 33 = .ok (.iload_n 2, 1) := by decide +kernel
theorem dX12_lookedAt_34 : decode cX12_lookedAt 34 = .ok (.ireturn, 1) := by decide +kernel
theorem dX12_lookedAt_35 : decode cX12_lookedAt 35 = .ok (.aload_n 0, 1) := by decide +kernel
theorem dX12_lookedAt_36 : decode cX12_lookedAt 36 = .ok (.getfield 28, 3) := by decide +kernel
theorem dX12_lookedAt_39 : decode cX12_lookedAt 39 = .ok (.iload_n 3, 1) := by decide +kernel
theorem dX12_lookedAt_40 : decode cX12_lookedAt 40 = .ok (.iaload, 1) := by decide +kernel
theorem dX12_lookedAt_41 : decode cX12_lookedAt 41 = .ok (.istore_n 3, 1) := by decide +kernel
theorem dX12_lookedAt_42 : decode cX12_lookedAt 42 = .ok (.goto (-33), 3) := by decide +kernel
theorem dX12_lookedAt_45 : decode cX12_lookedAt 45 = .ok (.iload_n 2, 1) := by decide +kernel
theorem dX12_lookedAt_46 : decode cX12_lookedAt 46 = .ok (.ireturn, 1) := by decide +kernel
theorem dX12_worthIn_0 : decode cX12_worthIn 0 = .ok (.aload_n 0, 1) := by decide +kernel
theorem dX12_worthIn_1 : decode cX12_worthIn 1 = .ok (.getfield 16, 3) := by decide +kernel
theorem dX12_worthIn_4 : decode cX12_worthIn 4 = .ok (.iload_n 1, 1) := by decide +kernel
theorem dX12_worthIn_5 : decode cX12_worthIn 5 = .ok (.iaload, 1) := by decide +kernel
theorem dX12_worthIn_6 : decode cX12_worthIn 6 = .ok (.istore_n 2, 1) := by decide +kernel
theorem dX12_worthIn_7 : decode cX12_worthIn 7 = .ok (.aload_n 0, 1) := by decide +kernel
theorem dX12_worthIn_8 : decode cX12_worthIn 8 = .ok (.getfield 7, 3) := by decide +kernel
theorem dX12_worthIn_11 : decode cX12_worthIn 11 = .ok (.iload_n 1, 1) := by decide +kernel
theorem dX12_worthIn_12 : decode cX12_worthIn 12 = .ok (.iaload, 1) := by decide +kernel
theorem dX12_worthIn_13 : decode cX12_worthIn 13 = .ok (.ifCond .eq 29, 3) := by decide +kernel
theorem dX12_worthIn_16 : decode cX12_worthIn 16 = .ok (.iload_n 2, 1) := by decide +kernel
theorem dX12_worthIn_17 : decode cX12_worthIn 17 = .ok (.ifCond .ne 33, 3) := by decide +kernel
theorem dX12_worthIn_20 : decode cX12_worthIn 20 = .ok (.aload_n 0, 1) := by decide +kernel
theorem dX12_worthIn_21 : decode cX12_worthIn 21 = .ok (.getfield 7, 3) := by decide +kernel
theorem dX12_worthIn_24 : decode cX12_worthIn 24 = .ok (.iload_n 1, 1) := by decide +kernel
theorem dX12_worthIn_25 : decode cX12_worthIn 25 = .ok (.iaload, 1) := by decide +kernel
theorem dX12_worthIn_26 : decode cX12_worthIn 26 = .ok (.bipush 7, 2) := by decide +kernel
theorem dX12_worthIn_28 : decode cX12_worthIn 28 = .ok (.if_icmp .eq 14, 3) := by decide +kernel
theorem dX12_worthIn_31 : decode cX12_worthIn 31 = .ok (.aload_n 0, 1) := by decide +kernel
theorem dX12_worthIn_32 : decode cX12_worthIn 32 = .ok (.getfield 7, 3) := by decide +kernel
theorem dX12_worthIn_35 : decode cX12_worthIn 35 = .ok (.iload_n 1, 1) := by decide +kernel
theorem dX12_worthIn_36 : decode cX12_worthIn 36 = .ok (.iaload, 1) := by decide +kernel
theorem dX12_worthIn_37 : decode cX12_worthIn 37 = .ok (.bipush 8, 2) := by decide +kernel
theorem dX12_worthIn_39 : decode cX12_worthIn 39 = .ok (.if_icmp .ne 11, 3) := by decide +kernel
theorem dX12_worthIn_42 : decode cX12_worthIn 42 = .ok (.aload_n 0, 1) := by decide +kernel
theorem dX12_worthIn_43 : decode cX12_worthIn 43 = .ok (.getfield 13, 3) := by decide +kernel
theorem dX12_worthIn_46 : decode cX12_worthIn 46 = .ok (.iload_n 1, 1) := by decide +kernel
theorem dX12_worthIn_47 : decode cX12_worthIn 47 = .ok (.iaload, 1) := by decide +kernel
theorem dX12_worthIn_48 : decode cX12_worthIn 48 = .ok (.i2l, 1) := by decide +kernel
theorem dX12_worthIn_49 : decode cX12_worthIn 49 = .ok (.lreturn, 1) := by decide +kernel
theorem dX12_worthIn_50 : decode cX12_worthIn 50 = .ok (.aload_n 0, 1) := by decide +kernel
theorem dX12_worthIn_51 : decode cX12_worthIn 51 = .ok (.getfield 7, 3) := by decide +kernel
theorem dX12_worthIn_54 : decode cX12_worthIn 54 = .ok (.iload_n 1, 1) := by decide +kernel
theorem dX12_worthIn_55 : decode cX12_worthIn 55 = .ok (.iaload, 1) := by decide +kernel
theorem dX12_worthIn_56 : decode cX12_worthIn 56 = .ok (.bipush 7, 2) := by decide +kernel
theorem dX12_worthIn_58 : decode cX12_worthIn 58 = .ok (.if_icmp .ne 33, 3) := by decide +kernel
theorem dX12_worthIn_61 : decode cX12_worthIn 61 = .ok (.aload_n 0, 1) := by decide +kernel
theorem dX12_worthIn_62 : decode cX12_worthIn 62 = .ok (.getfield 38, 3) := by decide +kernel
theorem dX12_worthIn_65 : decode cX12_worthIn 65 = .ok (.iload_n 2, 1) := by decide +kernel
theorem dX12_worthIn_66 : decode cX12_worthIn 66 = .ok (.iconst 1, 1) := by decide +kernel
theorem dX12_worthIn_67 : decode cX12_worthIn 67 = .ok (.if_icmp .ne 12, 3) := by decide +kernel
theorem dX12_worthIn_70 : decode cX12_worthIn 70 = .ok (.aload_n 0, 1) := by decide +kernel
theorem dX12_worthIn_71 : decode cX12_worthIn 71 = .ok (.iload_n 1, 1) := by decide +kernel
theorem dX12_worthIn_72 : decode cX12_worthIn 72 = .ok (.iconst 0, 1) := by decide +kernel
theorem dX12_worthIn_73 : decode cX12_worthIn 73 = .ok (.invokevirtual 115, 3) := by decide +kernel
theorem dX12_worthIn_76 : decode cX12_worthIn 76 = .ok (.goto 13, 3) := by decide +kernel
theorem dX12_worthIn_79 : decode cX12_worthIn 79 = .ok (.aload_n 0, 1) := by decide +kernel
theorem dX12_worthIn_80 : decode cX12_worthIn 80 = .ok (.iload_n 1, 1) := by decide +kernel
theorem dX12_worthIn_81 : decode cX12_worthIn 81 = .ok (.aload_n 0, 1) := by decide +kernel
theorem dX12_worthIn_82 : decode cX12_worthIn 82 = .ok (.iload_n 1, 1) := by decide +kernel
theorem dX12_worthIn_83 : decode cX12_worthIn 83 = .ok (.invokevirtual 122, 3) := by decide +kernel
theorem dX12_worthIn_86 : decode cX12_worthIn 86 = .ok (.invokevirtual 115, 3) := by decide +kernel
theorem dX12_worthIn_89 : decode cX12_worthIn 89 = .ok (.laload, 1) := by decide +kernel
theorem dX12_worthIn_90 : decode cX12_worthIn 90 = .ok (.lreturn, 1) := by decide +kernel
theorem dX12_worthIn_91 : decode cX12_worthIn 91 = .ok (.aload_n 0, 1) := by decide +kernel
theorem dX12_worthIn_92 : decode cX12_worthIn 92 = .ok (.getfield 7, 3) := by decide +kernel
theorem dX12_worthIn_95 : decode cX12_worthIn 95 = .ok (.iload_n 1, 1) := by decide +kernel
theorem dX12_worthIn_96 : decode cX12_worthIn 96 = .ok (.iaload, 1) := by decide +kernel
theorem dX12_worthIn_97 : decode cX12_worthIn 97 = .ok (.bipush 8, 2) := by decide +kernel
theorem dX12_worthIn_99 : decode cX12_worthIn 99 = .ok (.if_icmp .ne 39, 3) := by decide +kernel
theorem dX12_worthIn_102 : decode cX12_worthIn 102 = .ok (.aload_n 0, 1) := by decide +kernel
theorem dX12_worthIn_103 : decode cX12_worthIn 103 = .ok (.getfield 38, 3) := by decide +kernel
theorem dX12_worthIn_106 : decode cX12_worthIn 106 = .ok (.aload_n 0, 1) := by decide +kernel
theorem dX12_worthIn_107 : decode cX12_worthIn 107 = .ok (.iload_n 1, 1) := by decide +kernel
theorem dX12_worthIn_108 : decode cX12_worthIn 108 = .ok (.aload_n 0, 1) := by decide +kernel
theorem dX12_worthIn_109 : decode cX12_worthIn 109 = .ok (.iload_n 1, 1) := by decide +kernel
theorem dX12_worthIn_110 : decode cX12_worthIn 110 = .ok (.invokevirtual 126, 3) := by decide +kernel
theorem dX12_worthIn_113 : decode cX12_worthIn 113 = .ok (.iconst 1, 1) := by decide +kernel
theorem dX12_worthIn_114 : decode cX12_worthIn 114 = .ok (.isub, 1) := by decide +kernel
theorem dX12_worthIn_115 : decode cX12_worthIn 115 = .ok (.invokevirtual 115, 3) := by decide +kernel
theorem dX12_worthIn_118 : decode cX12_worthIn 118 = .ok (.laload, 1) := by decide +kernel
theorem dX12_worthIn_119 : decode cX12_worthIn 119 = .ok (.lstore_n 3, 1) := by decide +kernel
theorem dX12_worthIn_120 : decode cX12_worthIn 120 = .ok (.lload_n 3, 1) := by decide +kernel
theorem dX12_worthIn_121 : decode cX12_worthIn 121 = .ok (.lconst 0, 1) := by decide +kernel
theorem dX12_worthIn_122 : decode cX12_worthIn 122 = .ok (.lcmp, 1) := by decide +kernel
theorem dX12_worthIn_123 : decode cX12_worthIn 123 = .ok (.ifCond .eq 7, 3) := by decide +kernel
theorem dX12_worthIn_126 : decode cX12_worthIn 126 = .ok (.lload_n 3, 1) := by decide +kernel
theorem dX12_worthIn_127 : decode cX12_worthIn 127 = .ok (.goto 10, 3) := by decide +kernel
theorem dX12_worthIn_130 : decode cX12_worthIn 130 = .ok (.aload_n 0, 1) := by decide +kernel
theorem dX12_worthIn_131 : decode cX12_worthIn 131 = .ok (.getfield 13, 3) := by decide +kernel
theorem dX12_worthIn_134 : decode cX12_worthIn 134 = .ok (.iload_n 1, 1) := by decide +kernel
theorem dX12_worthIn_135 : decode cX12_worthIn 135 = .ok (.iaload, 1) := by decide +kernel
theorem dX12_worthIn_136 : decode cX12_worthIn 136 = .ok (.i2l, 1) := by decide +kernel
theorem dX12_worthIn_137 : decode cX12_worthIn 137 = .ok (.lreturn, 1) := by decide +kernel
theorem dX12_worthIn_138 : decode cX12_worthIn 138 = .ok (.aload_n 0, 1) := by decide +kernel
theorem dX12_worthIn_139 : decode cX12_worthIn 139 = .ok (.iload_n 1, 1) := by decide +kernel
theorem dX12_worthIn_140 : decode cX12_worthIn 140 = .ok (.invokevirtual 129, 3) := by decide +kernel
theorem dX12_worthIn_143 : decode cX12_worthIn 143 = .ok (.lreturn, 1) := by decide +kernel
theorem dX12_markIn_0 : decode cX12_markIn 0 = .ok (.ldc2_w 133, 3) := by decide +kernel
theorem dX12_markIn_3 : decode cX12_markIn 3 = .ok (.lstore_n 2, 1) := by decide +kernel
theorem dX12_markIn_4 : decode cX12_markIn 4 = .ok (.lload_n 2, 1) := by decide +kernel
theorem dX12_markIn_5 : decode cX12_markIn 5 = .ok (.ldc2_w 135, 3) := by decide +kernel
theorem dX12_markIn_8 : decode cX12_markIn 8 = .ok (.lmul, 1) := by decide +kernel
theorem dX12_markIn_9 : decode cX12_markIn 9 = .ok (.aload_n 0, 1) := by decide +kernel
theorem dX12_markIn_10 : decode cX12_markIn 10 = .ok (.getfield 7, 3) := by decide +kernel
theorem dX12_markIn_13 : decode cX12_markIn 13 = .ok (.iload_n 1, 1) := by decide +kernel
theorem dX12_markIn_14 : decode cX12_markIn 14 = .ok (.iaload, 1) := by decide +kernel
theorem dX12_markIn_15 : decode cX12_markIn 15 = .ok (.i2l, 1) := by decide +kernel
theorem dX12_markIn_16 : decode cX12_markIn 16 = .ok (.ladd, 1) := by decide +kernel
theorem dX12_markIn_17 : decode cX12_markIn 17 = .ok (.lstore_n 2, 1) := by decide +kernel
theorem dX12_markIn_18 : decode cX12_markIn 18 = .ok (.lload_n 2, 1) := by decide +kernel
theorem dX12_markIn_19 : decode cX12_markIn 19 = .ok (.ldc2_w 135, 3) := by decide +kernel
theorem dX12_markIn_22 : decode cX12_markIn 22 = .ok (.lmul, 1) := by decide +kernel
theorem dX12_markIn_23 : decode cX12_markIn 23 = .ok (.aload_n 0, 1) := by decide +kernel
theorem dX12_markIn_24 : decode cX12_markIn 24 = .ok (.getfield 13, 3) := by decide +kernel
theorem dX12_markIn_27 : decode cX12_markIn 27 = .ok (.iload_n 1, 1) := by decide +kernel
theorem dX12_markIn_28 : decode cX12_markIn 28 = .ok (.iaload, 1) := by decide +kernel
theorem dX12_markIn_29 : decode cX12_markIn 29 = .ok (.i2l, 1) := by decide +kernel
theorem dX12_markIn_30 : decode cX12_markIn 30 = .ok (.ladd, 1) := by decide +kernel
theorem dX12_markIn_31 : decode cX12_markIn 31 = .ok (.lstore_n 2, 1) := by decide +kernel
theorem dX12_markIn_32 : decode cX12_markIn 32 = .ok (.aload_n 0, 1) := by decide +kernel
theorem dX12_markIn_33 : decode cX12_markIn 33 = .ok (.getfield 19, 3) := by decide +kernel
theorem dX12_markIn_36 : decode cX12_markIn 36 = .ok (.iload_n 1, 1) := by decide +kernel
theorem dX12_markIn_37 : decode cX12_markIn 37 = .ok (.iaload, 1) := by decide +kernel
theorem dX12_markIn_38 : decode cX12_markIn 38 = .ok (.istore 4, 2) := by decide +kernel
theorem dX12_markIn_40 : decode cX12_markIn 40 = .ok (.iload 4, 2) := by decide +kernel
theorem dX12_markIn_42 : decode cX12_markIn 42 = .ok (.iconst (-1), 1) := by decide +kernel
theorem dX12_markIn_43 : decode cX12_markIn 43 = .ok (.if_icmp .eq 34, 3) := by decide +kernel
theorem dX12_markIn_46 : decode cX12_markIn 46 = .ok (.lload_n 2, 1) := by decide +kernel
theorem dX12_markIn_47 : decode cX12_markIn 47 = .ok (.ldc2_w 137, 3) := by decide +kernel
theorem dX12_markIn_50 : decode cX12_markIn 50 = .ok (.lmul, 1) := by decide +kernel
theorem dX12_markIn_51 : decode cX12_markIn 51 = .ok (.aload_n 0, 1) := by decide +kernel
theorem dX12_markIn_52 : decode cX12_markIn 52 = .ok (.getfield 42, 3) := by decide +kernel
theorem dX12_markIn_55 : decode cX12_markIn 55 = .ok (.aload_n 0, 1) := by decide +kernel
theorem dX12_markIn_56 : decode cX12_markIn 56 = .ok (.getfield 25, 3) := by decide +kernel
theorem dX12_markIn_59 : decode cX12_markIn 59 = .ok (.iload 4, 2) := by decide +kernel
theorem dX12_markIn_61 : decode cX12_markIn 61 = .ok (.iaload, 1) := by decide +kernel
theorem dX12_markIn_62 : decode cX12_markIn 62 = .ok (.laload, 1) := by decide +kernel
theorem dX12_markIn_63 : decode cX12_markIn 63 = .ok (.lxor, 1) := by decide +kernel
theorem dX12_markIn_64 : decode cX12_markIn 64 = .ok (.lstore_n 2, 1) := by decide +kernel
theorem dX12_markIn_65 : decode cX12_markIn 65 = .ok (.aload_n 0, 1) := by decide +kernel
theorem dX12_markIn_66 : decode cX12_markIn 66 = .ok (.getfield 28, 3) := by decide +kernel
theorem dX12_markIn_69 : decode cX12_markIn 69 = .ok (.iload 4, 2) := by decide +kernel
theorem dX12_markIn_71 : decode cX12_markIn 71 = .ok (.iaload, 1) := by decide +kernel
theorem dX12_markIn_72 : decode cX12_markIn 72 = .ok (.istore 4, 2) := by decide +kernel
theorem dX12_markIn_74 : decode cX12_markIn 74 = .ok (.goto (-34), 3) := by decide +kernel
theorem dX12_markIn_77 : decode cX12_markIn 77 = .ok (.lload_n 2, 1) := by decide +kernel
theorem dX12_markIn_78 : decode cX12_markIn 78 = .ok (.lload_n 2, 1) := by decide +kernel
theorem dX12_markIn_79 : decode cX12_markIn 79 = .ok (.bipush 29, 2) := by decide +kernel
theorem dX12_markIn_81 : decode cX12_markIn 81 = .ok (.lushr, 1) := by decide +kernel
theorem dX12_markIn_82 : decode cX12_markIn 82 = .ok (.lxor, 1) := by decide +kernel
theorem dX12_markIn_83 : decode cX12_markIn 83 = .ok (.lreturn, 1) := by decide +kernel
theorem dX12_workOut_0 : decode cX12_workOut 0 = .ok (.iconst 0, 1) := by decide +kernel
theorem dX12_workOut_1 : decode cX12_workOut 1 = .ok (.istore_n 2, 1) := by decide +kernel
theorem dX12_workOut_2 : decode cX12_workOut 2 = .ok (.iload_n 2, 1) := by decide +kernel
theorem dX12_workOut_3 : decode cX12_workOut 3 = .ok (.iload_n 1, 1) := by decide +kernel
theorem dX12_workOut_4 : decode cX12_workOut 4 = .ok (.if_icmp .gt 31, 3) := by decide +kernel
theorem dX12_workOut_7 : decode cX12_workOut 7 = .ok (.aload_n 0, 1) := by decide +kernel
theorem dX12_workOut_8 : decode cX12_workOut 8 = .ok (.getfield 38, 3) := by decide +kernel
theorem dX12_workOut_11 : decode cX12_workOut 11 = .ok (.iload_n 2, 1) := by decide +kernel
theorem dX12_workOut_12 : decode cX12_workOut 12 = .ok (.aload_n 0, 1) := by decide +kernel
theorem dX12_workOut_13 : decode cX12_workOut 13 = .ok (.iload_n 2, 1) := by decide +kernel
theorem dX12_workOut_14 : decode cX12_workOut 14 = .ok (.invokevirtual 139, 3) := by decide +kernel
theorem dX12_workOut_17 : decode cX12_workOut 17 = .ok (.lastore, 1) := by decide +kernel
theorem dX12_workOut_18 : decode cX12_workOut 18 = .ok (.aload_n 0, 1) := by decide +kernel
theorem dX12_workOut_19 : decode cX12_workOut 19 = .ok (.getfield 42, 3) := by decide +kernel
theorem dX12_workOut_22 : decode cX12_workOut 22 = .ok (.iload_n 2, 1) := by decide +kernel
theorem dX12_workOut_23 : decode cX12_workOut 23 = .ok (.aload_n 0, 1) := by decide +kernel
theorem dX12_workOut_24 : decode cX12_workOut 24 = .ok (.iload_n 2, 1) := by decide +kernel
theorem dX12_workOut_25 : decode cX12_workOut 25 = .ok (.invokevirtual 142, 3) := by decide +kernel
theorem dX12_workOut_28 : decode cX12_workOut 28 = .ok (.lastore, 1) := by decide +kernel
theorem dX12_workOut_29 : decode cX12_workOut 29 = .ok (.iinc 2 1, 3) := by decide +kernel
theorem dX12_workOut_32 : decode cX12_workOut 32 = .ok (.goto (-30), 3) := by decide +kernel
theorem dX12_workOut_35 : decode cX12_workOut 35 = .ok (.return_, 1) := by decide +kernel
theorem dX12_begin_0 : decode cX12_begin 0 = .ok (.aload_n 0, 1) := by decide +kernel
theorem dX12_begin_1 : decode cX12_begin 1 = .ok (.iconst 0, 1) := by decide +kernel
theorem dX12_begin_2 : decode cX12_begin 2 = .ok (.putfield 145, 3) := by decide +kernel
theorem dX12_begin_5 : decode cX12_begin 5 = .ok (.aload_n 0, 1) := by decide +kernel
theorem dX12_begin_6 : decode cX12_begin 6 = .ok (.iconst 0, 1) := by decide +kernel
theorem dX12_begin_7 : decode cX12_begin 7 = .ok (.putfield 148, 3) := by decide +kernel
theorem dX12_begin_10 : decode cX12_begin 10 = .ok (.aload_n 0, 1) := by decide +kernel
theorem dX12_begin_11 : decode cX12_begin 11 = .ok (.iconst 0, 1) := by decide +kernel
theorem dX12_begin_12 : decode cX12_begin 12 = .ok (.putfield 151, 3) := by decide +kernel
theorem dX12_begin_15 : decode cX12_begin 15 = .ok (.aload_n 0, 1) := by decide +kernel
theorem dX12_begin_16 : decode cX12_begin 16 = .ok (.iconst 0, 1) := by decide +kernel
theorem dX12_begin_17 : decode cX12_begin 17 = .ok (.putfield 154, 3) := by decide +kernel
theorem dX12_begin_20 : decode cX12_begin 20 = .ok (.return_, 1) := by decide +kernel
theorem dX12_visit_0 : decode cX12_visit 0 = .ok (.aload_n 0, 1) := by decide +kernel
theorem dX12_visit_1 : decode cX12_visit 1 = .ok (.getfield 148, 3) := by decide +kernel
theorem dX12_visit_4 : decode cX12_visit 4 = .ok (.sipush 20000, 3) := by decide +kernel
theorem dX12_visit_7 : decode cX12_visit 7 = .ok (.if_icmp .ne 11, 3) := by decide +kernel
theorem dX12_visit_10 : decode cX12_visit 10 = .ok (.aload_n 0, 1) := by decide +kernel
theorem dX12_visit_11 : decode cX12_visit 11 = .ok (.bipush (-5), 2) := by decide +kernel
theorem dX12_visit_13 : decode cX12_visit 13 = .ok (.putfield 154, 3) := by decide +kernel
theorem dX12_visit_16 : decode cX12_visit 16 = .ok (.iconst 0, 1) := by decide +kernel
theorem dX12_visit_17 : decode cX12_visit 17 = .ok (.ireturn, 1) := by decide +kernel
theorem dX12_visit_18 : decode cX12_visit 18 = .ok (.aload_n 0, 1) := by decide +kernel
theorem dX12_visit_19 : decode cX12_visit 19 = .ok (.getfield 111, 3) := by decide +kernel
theorem dX12_visit_22 : decode cX12_visit 22 = .ok (.ifCond .ne 24, 3) := by decide +kernel
theorem dX12_visit_25 : decode cX12_visit 25 = .ok (.aload_n 0, 1) := by decide +kernel
theorem dX12_visit_26 : decode cX12_visit 26 = .ok (.getfield 145, 3) := by decide +kernel
theorem dX12_visit_29 : decode cX12_visit 29 = .ok (.iconst 1, 1) := by decide +kernel
theorem dX12_visit_30 : decode cX12_visit 30 = .ok (.iadd, 1) := by decide +kernel
theorem dX12_visit_31 : decode cX12_visit 31 = .ok (.aload_n 0, 1) := by decide +kernel
theorem dX12_visit_32 : decode cX12_visit 32 = .ok (.getfield 31, 3) := by decide +kernel
theorem dX12_visit_35 : decode cX12_visit 35 = .ok (.if_icmp .le 11, 3) := by decide +kernel
theorem dX12_visit_38 : decode cX12_visit 38 = .ok (.aload_n 0, 1) := by decide +kernel
theorem dX12_visit_39 : decode cX12_visit 39 = .ok (.bipush (-6), 2) := by decide +kernel
theorem dX12_visit_41 : decode cX12_visit 41 = .ok (.putfield 154, 3) := by decide +kernel
theorem dX12_visit_44 : decode cX12_visit 44 = .ok (.iconst 0, 1) := by decide +kernel
theorem dX12_visit_45 : decode cX12_visit 45 = .ok (.ireturn, 1) := by decide +kernel
theorem dX12_visit_46 : decode cX12_visit 46 = .ok (.aload_n 0, 1) := by decide +kernel
theorem dX12_visit_47 : decode cX12_visit 47 = .ok (.getfield 45, 3) := by decide +kernel
theorem dX12_visit_50 : decode cX12_visit 50 = .ok (.aload_n 0, 1) := by decide +kernel
theorem dX12_visit_51 : decode cX12_visit 51 = .ok (.getfield 145, 3) := by decide +kernel
theorem dX12_visit_54 : decode cX12_visit 54 = .ok (.iload_n 1, 1) := by decide +kernel
theorem dX12_visit_55 : decode cX12_visit 55 = .ok (.iastore, 1) := by decide +kernel
theorem dX12_visit_56 : decode cX12_visit 56 = .ok (.aload_n 0, 1) := by decide +kernel
theorem dX12_visit_57 : decode cX12_visit 57 = .ok (.getfield 48, 3) := by decide +kernel
theorem dX12_visit_60 : decode cX12_visit 60 = .ok (.aload_n 0, 1) := by decide +kernel
theorem dX12_visit_61 : decode cX12_visit 61 = .ok (.getfield 145, 3) := by decide +kernel
theorem dX12_visit_64 : decode cX12_visit 64 = .ok (.iload_n 2, 1) := by decide +kernel
theorem dX12_visit_65 : decode cX12_visit 65 = .ok (.iastore, 1) := by decide +kernel
theorem dX12_visit_66 : decode cX12_visit 66 = .ok (.aload_n 0, 1) := by decide +kernel
theorem dX12_visit_67 : decode cX12_visit 67 = .ok (.getfield 51, 3) := by decide +kernel
theorem dX12_visit_70 : decode cX12_visit 70 = .ok (.aload_n 0, 1) := by decide +kernel
theorem dX12_visit_71 : decode cX12_visit 71 = .ok (.getfield 145, 3) := by decide +kernel
theorem dX12_visit_74 : decode cX12_visit 74 = .ok (.iconst 0, 1) := by decide +kernel
theorem dX12_visit_75 : decode cX12_visit 75 = .ok (.iastore, 1) := by decide +kernel
theorem dX12_visit_76 : decode cX12_visit 76 = .ok (.aload_n 0, 1) := by decide +kernel
theorem dX12_visit_77 : decode cX12_visit 77 = .ok (.dup, 1) := by decide +kernel
theorem dX12_visit_78 : decode cX12_visit 78 = .ok (.getfield 145, 3) := by decide +kernel
theorem dX12_visit_81 : decode cX12_visit 81 = .ok (.iconst 1, 1) := by decide +kernel
theorem dX12_visit_82 : decode cX12_visit 82 = .ok (.iadd, 1) := by decide +kernel
theorem dX12_visit_83 : decode cX12_visit 83 = .ok (.putfield 145, 3) := by decide +kernel
theorem dX12_visit_86 : decode cX12_visit 86 = .ok (.aload_n 0, 1) := by decide +kernel
theorem dX12_visit_87 : decode cX12_visit 87 = .ok (.getfield 54, 3) := by decide +kernel
theorem dX12_visit_90 : decode cX12_visit 90 = .ok (.aload_n 0, 1) := by decide +kernel
theorem dX12_visit_91 : decode cX12_visit 91 = .ok (.getfield 148, 3) := by decide +kernel
theorem dX12_visit_94 : decode cX12_visit 94 = .ok (.iload_n 1, 1) := by decide +kernel
theorem dX12_visit_95 : decode cX12_visit 95 = .ok (.iastore, 1) := by decide +kernel
theorem dX12_visit_96 : decode cX12_visit 96 = .ok (.aload_n 0, 1) := by decide +kernel
theorem dX12_visit_97 : decode cX12_visit 97 = .ok (.getfield 57, 3) := by decide +kernel
theorem dX12_visit_100 : decode cX12_visit 100 = .ok (.aload_n 0, 1) := by decide +kernel
theorem dX12_visit_101 : decode cX12_visit 101 = .ok (.getfield 148, 3) := by decide +kernel
theorem dX12_visit_104 : decode cX12_visit 104 = .ok (.aload_n 0, 1) := by decide +kernel
theorem dX12_visit_105 : decode cX12_visit 105 = .ok (.getfield 145, 3) := by decide +kernel
theorem dX12_visit_108 : decode cX12_visit 108 = .ok (.iastore, 1) := by decide +kernel
theorem dX12_visit_109 : decode cX12_visit 109 = .ok (.aload_n 0, 1) := by decide +kernel
theorem dX12_visit_110 : decode cX12_visit 110 = .ok (.dup, 1) := by decide +kernel
theorem dX12_visit_111 : decode cX12_visit 111 = .ok (.getfield 148, 3) := by decide +kernel
theorem dX12_visit_114 : decode cX12_visit 114 = .ok (.iconst 1, 1) := by decide +kernel
theorem dX12_visit_115 : decode cX12_visit 115 = .ok (.iadd, 1) := by decide +kernel
theorem dX12_visit_116 : decode cX12_visit 116 = .ok (.putfield 148, 3) := by decide +kernel
theorem dX12_visit_119 : decode cX12_visit 119 = .ok (.aload_n 0, 1) := by decide +kernel
theorem dX12_visit_120 : decode cX12_visit 120 = .ok (.aload_n 0, 1) := by decide +kernel
theorem dX12_visit_121 : decode cX12_visit 121 = .ok (.getfield 145, 3) := by decide +kernel
theorem dX12_visit_124 : decode cX12_visit 124 = .ok (.aload_n 0, 1) := by decide +kernel
theorem dX12_visit_125 : decode cX12_visit 125 = .ok (.getfield 151, 3) := by decide +kernel
theorem dX12_visit_128 : decode cX12_visit 128 = .ok (.if_icmp .le 10, 3) := by decide +kernel
theorem dX12_visit_131 : decode cX12_visit 131 = .ok (.aload_n 0, 1) := by decide +kernel
theorem dX12_visit_132 : decode cX12_visit 132 = .ok (.getfield 145, 3) := by decide +kernel
theorem dX12_visit_135 : decode cX12_visit 135 = .ok (.goto 7, 3) := by decide +kernel
theorem dX12_visit_138 : decode cX12_visit 138 = .ok (.aload_n 0, 1) := by decide +kernel
theorem dX12_visit_139 : decode cX12_visit 139 = .ok (.getfield 151, 3) := by decide +kernel
theorem dX12_visit_142 : decode cX12_visit 142 = .ok (.putfield 151, 3) := by decide +kernel
theorem dX12_visit_145 : decode cX12_visit 145 = .ok (.iconst 1, 1) := by decide +kernel
theorem dX12_visit_146 : decode cX12_visit 146 = .ok (.ireturn, 1) := by decide +kernel
theorem dX12_ended_0 : decode cX12_ended 0 = .ok (.aload_n 0, 1) := by decide +kernel
theorem dX12_ended_1 : decode cX12_ended 1 = .ok (.aload_n 0, 1) := by decide +kernel
theorem dX12_ended_2 : decode cX12_ended 2 = .ok (.getfield 148, 3) := by decide +kernel
theorem dX12_ended_5 : decode cX12_ended 5 = .ok (.putfield 157, 3) := by decide +kernel
theorem dX12_ended_8 : decode cX12_ended 8 = .ok (.aload_n 0, 1) := by decide +kernel
theorem dX12_ended_9 : decode cX12_ended 9 = .ok (.aload_n 0, 1) := by decide +kernel
theorem dX12_ended_10 : decode cX12_ended 10 = .ok (.getfield 111, 3) := by decide +kernel
theorem dX12_ended_13 : decode cX12_ended 13 = .ok (.ifCond .ne 10, 3) := by decide +kernel
theorem dX12_ended_16 : decode cX12_ended 16 = .ok (.aload_n 0, 1) := by decide +kernel
theorem dX12_ended_17 : decode cX12_ended 17 = .ok (.getfield 151, 3) := by decide +kernel
theorem dX12_ended_20 : decode cX12_ended 20 = .ok (.goto 37, 3) := by decide +kernel
theorem dX12_ended_23 : decode cX12_ended 23 = .ok (.aload_n 0, 1) := by decide +kernel
theorem dX12_ended_24 : decode cX12_ended 24 = .ok (.getfield 111, 3) := by decide +kernel
theorem dX12_ended_27 : decode cX12_ended 27 = .ok (.iconst 3, 1) := by decide +kernel
theorem dX12_ended_28 : decode cX12_ended 28 = .ok (.if_icmp .ne 28, 3) := by decide +kernel
theorem dX12_ended_31 : decode cX12_ended 31 = .ok (.aload_n 0, 1) := by decide +kernel
theorem dX12_ended_32 : decode cX12_ended 32 = .ok (.getfield 151, 3) := by decide +kernel
theorem dX12_ended_35 : decode cX12_ended 35 = .ok (.aload_n 0, 1) := by decide +kernel
theorem dX12_ended_36 : decode cX12_ended 36 = .ok (.getfield 31, 3) := by decide +kernel
theorem dX12_ended_39 : decode cX12_ended 39 = .ok (.if_icmp .ge 10, 3) := by decide +kernel
theorem dX12_ended_42 : decode cX12_ended 42 = .ok (.aload_n 0, 1) := by decide +kernel
theorem dX12_ended_43 : decode cX12_ended 43 = .ok (.getfield 151, 3) := by decide +kernel
theorem dX12_ended_46 : decode cX12_ended 46 = .ok (.goto 11, 3) := by decide +kernel
theorem dX12_ended_49 : decode cX12_ended 49 = .ok (.aload_n 0, 1) := by decide +kernel
theorem dX12_ended_50 : decode cX12_ended 50 = .ok (.getfield 31, 3) := by decide +kernel
theorem dX12_ended_53 : decode cX12_ended 53 = .ok (.goto 4, 3) := by decide +kernel
theorem dX12_ended_56 : decode cX12_ended 56 = .ok (.iconst 0, 1) := by decide +kernel
theorem dX12_ended_57 : decode cX12_ended 57 = .ok (.putfield 160, 3) := by decide +kernel
theorem dX12_ended_60 : decode cX12_ended 60 = .ok (.aload_n 0, 1) := by decide +kernel
theorem dX12_ended_61 : decode cX12_ended 61 = .ok (.getfield 154, 3) := by decide +kernel
theorem dX12_ended_64 : decode cX12_ended 64 = .ok (.ireturn, 1) := by decide +kernel
theorem dX12_bad_0 : decode cX12_bad 0 = .ok (.aload_n 0, 1) := by decide +kernel
theorem dX12_bad_1 : decode cX12_bad 1 = .ok (.bipush (-2), 2) := by decide +kernel
theorem dX12_bad_3 : decode cX12_bad 3 = .ok (.putfield 154, 3) := by decide +kernel
theorem dX12_bad_6 : decode cX12_bad 6 = .ok (.bipush (-2), 2) := by decide +kernel
theorem dX12_bad_8 : decode cX12_bad 8 = .ok (.ireturn, 1) := by decide +kernel
theorem dX12_nextFrom_0 : decode cX12_nextFrom 0 = .ok (.aload_n 0, 1) := by decide +kernel
theorem dX12_nextFrom_1 : decode cX12_nextFrom 1 = .ok (.getfield 45, 3) := by decide +kernel
theorem dX12_nextFrom_4 : decode cX12_nextFrom 4 = .ok (.aload_n 0, 1) := by decide +kernel
theorem dX12_nextFrom_5 : decode cX12_nextFrom 5 = .ok (.getfield 145, 3) := by decide +kernel
theorem dX12_nextFrom_8 : decode cX12_nextFrom 8 = .ok (.iconst 1, 1) := by decide +kernel
theorem dX12_nextFrom_9 : decode cX12_nextFrom 9 = .ok (.isub, 1) := by decide +kernel
theorem dX12_nextFrom_10 : decode cX12_nextFrom 10 = .ok (.iaload, 1) := by decide +kernel
theorem dX12_nextFrom_11 : decode cX12_nextFrom 11 = .ok (.istore_n 2, 1) := by decide +kernel
theorem dX12_nextFrom_12 : decode cX12_nextFrom 12 = .ok (.aload_n 0, 1) := by decide +kernel
theorem dX12_nextFrom_13 : decode cX12_nextFrom 13 = .ok (.getfield 51, 3) := by decide +kernel
theorem dX12_nextFrom_16 : decode cX12_nextFrom 16 = .ok (.aload_n 0, 1) := by decide +kernel
theorem dX12_nextFrom_17 : decode cX12_nextFrom 17 = .ok (.getfield 145, 3) := by decide +kernel
theorem dX12_nextFrom_20 : decode cX12_nextFrom 20 = .ok (.iconst 1, 1) := by decide +kernel
theorem dX12_nextFrom_21 : decode cX12_nextFrom 21 = .ok (.isub, 1) := by decide +kernel
theorem dX12_nextFrom_22 : decode cX12_nextFrom 22 = .ok (.iaload, 1) := by decide +kernel
theorem dX12_nextFrom_23 : decode cX12_nextFrom 23 = .ok (.istore_n 3, 1) := by decide +kernel
theorem dX12_nextFrom_24 : decode cX12_nextFrom 24 = .ok (.aload_n 0, 1) := by decide +kernel
theorem dX12_nextFrom_25 : decode cX12_nextFrom 25 = .ok (.getfield 16, 3) := by decide +kernel
theorem dX12_nextFrom_28 : decode cX12_nextFrom 28 = .ok (.iload_n 2, 1) := by decide +kernel
theorem dX12_nextFrom_29 : decode cX12_nextFrom 29 = .ok (.iaload, 1) := by decide +kernel
theorem dX12_nextFrom_30 : decode cX12_nextFrom 30 = .ok (.istore 4, 2) := by decide +kernel
theorem dX12_nextFrom_32 : decode cX12_nextFrom 32 = .ok (.iload_n 1, 1) := by decide +kernel
theorem dX12_nextFrom_33 : decode cX12_nextFrom 33 = .ok (.ifCond .eq 18, 3) := by decide +kernel
theorem dX12_nextFrom_36 : decode cX12_nextFrom 36 = .ok (.aload_n 0, 1) := by decide +kernel
theorem dX12_nextFrom_37 : decode cX12_nextFrom 37 = .ok (.getfield 7, 3) := by decide +kernel
theorem dX12_nextFrom_40 : decode cX12_nextFrom 40 = .ok (.iload_n 2, 1) := by decide +kernel
theorem dX12_nextFrom_41 : decode cX12_nextFrom 41 = .ok (.iaload, 1) := by decide +kernel
theorem dX12_nextFrom_42 : decode cX12_nextFrom 42 = .ok (.ifCond .ne 9, 3) := by decide +kernel
theorem dX12_nextFrom_45 : decode cX12_nextFrom 45 = .ok (.iconst 0, 1) := by decide +kernel
theorem dX12_nextFrom_46 : decode cX12_nextFrom 46 = .ok (.istore 4, 2) := by decide +kernel
theorem dX12_nextFrom_48 : decode cX12_nextFrom 48 = .ok (.goto 52, 3) := by decide +kernel
theorem dX12_nextFrom_51 : decode cX12_nextFrom 51 = .ok (.iload_n 1, 1) := by decide +kernel
theorem dX12_nextFrom_52 : decode cX12_nextFrom 52 = .ok (.ifCond .eq 26, 3) := by decide +kernel
theorem dX12_nextFrom_55 : decode cX12_nextFrom 55 = .ok (.aload_n 0, 1) := by decide +kernel
theorem dX12_nextFrom_56 : decode cX12_nextFrom 56 = .ok (.getfield 7, 3) := by decide +kernel
theorem dX12_nextFrom_59 : decode cX12_nextFrom 59 = .ok (.iload_n 2, 1) := by decide +kernel
theorem dX12_nextFrom_60 : decode cX12_nextFrom 60 = .ok (.iaload, 1) := by decide +kernel
theorem dX12_nextFrom_61 : decode cX12_nextFrom 61 = .ok (.bipush 7, 2) := by decide +kernel
theorem dX12_nextFrom_63 : decode cX12_nextFrom 63 = .ok (.if_icmp .ne 15, 3) := by decide +kernel
theorem dX12_nextFrom_66 : decode cX12_nextFrom 66 = .ok (.iload 4, 2) := by decide +kernel
theorem dX12_nextFrom_68 : decode cX12_nextFrom 68 = .ok (.iconst 1, 1) := by decide +kernel
theorem dX12_nextFrom_69 : decode cX12_nextFrom 69 = .ok (.if_icmp .le 9, 3) := by decide +kernel
theorem dX12_nextFrom_72 : decode cX12_nextFrom 72 = .ok (.iconst 2, 1) := by decide +kernel
theorem dX12_nextFrom_73 : decode cX12_nextFrom 73 = .ok (.istore 4, 2) := by decide +kernel
theorem dX12_nextFrom_75 : decode cX12_nextFrom 75 = .ok (.goto 25, 3) := by decide +kernel
theorem dX12_nextFrom_78 : decode cX12_nextFrom 78 = .ok (.iload_n 1, 1) := by decide +kernel
theorem dX12_nextFrom_79 : decode cX12_nextFrom 79 = .ok (.ifCond .eq 21, 3) := by decide +kernel
theorem dX12_nextFrom_82 : decode cX12_nextFrom 82 = .ok (.aload_n 0, 1) := by decide +kernel
theorem dX12_nextFrom_83 : decode cX12_nextFrom 83 = .ok (.getfield 7, 3) := by decide +kernel
theorem dX12_nextFrom_86 : decode cX12_nextFrom 86 = .ok (.iload_n 2, 1) := by decide +kernel
theorem dX12_nextFrom_87 : decode cX12_nextFrom 87 = .ok (.iaload, 1) := by decide +kernel
theorem dX12_nextFrom_88 : decode cX12_nextFrom 88 = .ok (.bipush 8, 2) := by decide +kernel
theorem dX12_nextFrom_90 : decode cX12_nextFrom 90 = .ok (.if_icmp .ne 10, 3) := by decide +kernel
theorem dX12_nextFrom_93 : decode cX12_nextFrom 93 = .ok (.aload_n 0, 1) := by decide +kernel
theorem dX12_nextFrom_94 : decode cX12_nextFrom 94 = .ok (.iload_n 2, 1) := by decide +kernel
theorem dX12_nextFrom_95 : decode cX12_nextFrom 95 = .ok (.invokevirtual 126, 3) := by decide +kernel
theorem dX12_nextFrom_98 : decode cX12_nextFrom 98 = .ok (.istore 4, 2) := by decide +kernel
theorem dX12_nextFrom_100 : decode cX12_nextFrom 100 = .ok (.iload_n 3, 1) := by decide +kernel
theorem dX12_nextFrom_101 : decode cX12_nextFrom 101 = .ok (.iload 4, 2) := by decide +kernel
theorem dX12_nextFrom_103 : decode cX12_nextFrom 103 = .ok (.if_icmp .lt 5, 3) := by decide +kernel
theorem dX12_nextFrom_106 : decode cX12_nextFrom 106 = .ok (.iconst (-1), 1) := by decide +kernel
theorem dX12_nextFrom_107 : decode cX12_nextFrom 107 = .ok (.ireturn, 1) := by decide +kernel
theorem dX12_nextFrom_108 : decode cX12_nextFrom 108 = .ok (.aload_n 0, 1) := by decide +kernel
theorem dX12_nextFrom_109 : decode cX12_nextFrom 109 = .ok (.getfield 51, 3) := by decide +kernel
theorem dX12_nextFrom_112 : decode cX12_nextFrom 112 = .ok (.aload_n 0, 1) := by decide +kernel
theorem dX12_nextFrom_113 : decode cX12_nextFrom 113 = .ok (.getfield 145, 3) := by decide +kernel
theorem dX12_nextFrom_116 : decode cX12_nextFrom 116 = .ok (.iconst 1, 1) := by decide +kernel
theorem dX12_nextFrom_117 : decode cX12_nextFrom 117 = .ok (.isub, 1) := by decide +kernel
theorem dX12_nextFrom_118 : decode cX12_nextFrom 118 = .ok (.dup2, 1) := by decide +kernel
theorem dX12_nextFrom_119 : decode cX12_nextFrom 119 = .ok (.iaload, 1) := by decide +kernel
theorem dX12_nextFrom_120 : decode cX12_nextFrom 120 = .ok (.iconst 1, 1) := by decide +kernel
theorem dX12_nextFrom_121 : decode cX12_nextFrom 121 = .ok (.iadd, 1) := by decide +kernel
theorem dX12_nextFrom_122 : decode cX12_nextFrom 122 = .ok (.iastore, 1) := by decide +kernel
theorem dX12_nextFrom_123 : decode cX12_nextFrom 123 = .ok (.aload_n 0, 1) := by decide +kernel
theorem dX12_nextFrom_124 : decode cX12_nextFrom 124 = .ok (.iload_n 2, 1) := by decide +kernel
theorem dX12_nextFrom_125 : decode cX12_nextFrom 125 = .ok (.iload_n 1, 1) := by decide +kernel
theorem dX12_nextFrom_126 : decode cX12_nextFrom 126 = .ok (.ifCond .eq 27, 3) := by decide +kernel
theorem dX12_nextFrom_129 : decode cX12_nextFrom 129 = .ok (.aload_n 0, 1) := by decide +kernel
theorem dX12_nextFrom_130 : decode cX12_nextFrom 130 = .ok (.getfield 7, 3) := by decide +kernel
theorem dX12_nextFrom_133 : decode cX12_nextFrom 133 = .ok (.iload_n 2, 1) := by decide +kernel
theorem dX12_nextFrom_134 : decode cX12_nextFrom 134 = .ok (.iaload, 1) := by decide +kernel
theorem dX12_nextFrom_135 : decode cX12_nextFrom 135 = .ok (.bipush 7, 2) := by decide +kernel
theorem dX12_nextFrom_137 : decode cX12_nextFrom 137 = .ok (.if_icmp .ne 16, 3) := by decide +kernel
theorem dX12_nextFrom_140 : decode cX12_nextFrom 140 = .ok (.iload_n 3, 1) := by decide +kernel
theorem dX12_nextFrom_141 : decode cX12_nextFrom 141 = .ok (.iconst 1, 1) := by decide +kernel
theorem dX12_nextFrom_142 : decode cX12_nextFrom 142 = .ok (.if_icmp .ne 11, 3) := by decide +kernel
theorem dX12_nextFrom_145 : decode cX12_nextFrom 145 = .ok (.aload_n 0, 1) := by decide +kernel
theorem dX12_nextFrom_146 : decode cX12_nextFrom 146 = .ok (.iload_n 2, 1) := by decide +kernel
theorem dX12_nextFrom_147 : decode cX12_nextFrom 147 = .ok (.invokevirtual 122, 3) := by decide +kernel
theorem dX12_nextFrom_150 : decode cX12_nextFrom 150 = .ok (.goto 4, 3) := by decide +kernel
theorem dX12_nextFrom_153 : decode cX12_nextFrom 153 = .ok (.iload_n 3, 1) := by decide +kernel
theorem dX12_nextFrom_154 : decode cX12_nextFrom 154 = .ok (.invokevirtual 115, 3) := by decide +kernel
theorem dX12_nextFrom_157 : decode cX12_nextFrom 157 = .ok (.ireturn, 1) := by decide +kernel
theorem dX12_walk_0 : decode cX12_walk 0 = .ok (.aload_n 0, 1) := by decide +kernel
theorem dX12_walk_1 : decode cX12_walk 1 = .ok (.invokevirtual 163, 3) := by decide +kernel
theorem dX12_walk_4 : decode cX12_walk 4 = .ok (.aload_n 0, 1) := by decide +kernel
theorem dX12_walk_5 : decode cX12_walk 5 = .ok (.iload_n 1, 1) := by decide +kernel
theorem dX12_walk_6 : decode cX12_walk 6 = .ok (.iconst (-1), 1) := by decide +kernel
theorem dX12_walk_7 : decode cX12_walk 7 = .ok (.invokevirtual 166, 3) := by decide +kernel
theorem dX12_walk_10 : decode cX12_walk 10 = .ok (.istore 6, 2) := by decide +kernel
theorem dX12_walk_12 : decode cX12_walk 12 = .ok (.iload 6, 2) := by decide +kernel
theorem dX12_walk_14 : decode cX12_walk 14 = .ok (.ifCond .eq 33, 3) := by decide +kernel
theorem dX12_walk_17 : decode cX12_walk 17 = .ok (.iload_n 3, 1) := by decide +kernel
theorem dX12_walk_18 : decode cX12_walk 18 = .ok (.ifCond .eq 29, 3) := by decide +kernel
theorem dX12_walk_21 : decode cX12_walk 21 = .ok (.aload_n 0, 1) := by decide +kernel
theorem dX12_walk_22 : decode cX12_walk 22 = .ok (.getfield 7, 3) := by decide +kernel
theorem dX12_walk_25 : decode cX12_walk 25 = .ok (.iload_n 1, 1) := by decide +kernel
theorem dX12_walk_26 : decode cX12_walk 26 = .ok (.iaload, 1) := by decide +kernel
theorem dX12_walk_27 : decode cX12_walk 27 = .ok (.iload 4, 2) := by decide +kernel
theorem dX12_walk_29 : decode cX12_walk 29 = .ok (.if_icmp .ne 18, 3) := by decide +kernel
theorem dX12_walk_32 : decode cX12_walk 32 = .ok (.aload_n 0, 1) := by decide +kernel
theorem dX12_walk_33 : decode cX12_walk 33 = .ok (.getfield 13, 3) := by decide +kernel
theorem dX12_walk_36 : decode cX12_walk 36 = .ok (.iload_n 1, 1) := by decide +kernel
theorem dX12_walk_37 : decode cX12_walk 37 = .ok (.iaload, 1) := by decide +kernel
theorem dX12_walk_38 : decode cX12_walk 38 = .ok (.iload 5, 2) := by decide +kernel
theorem dX12_walk_40 : decode cX12_walk 40 = .ok (.if_icmp .ne 7, 3) := by decide +kernel
theorem dX12_walk_43 : decode cX12_walk 43 = .ok (.iconst 1, 1) := by decide +kernel
theorem dX12_walk_44 : decode cX12_walk 44 = .ok (.goto 4, 3) := by decide +kernel
theorem dX12_walk_47 : decode cX12_walk 47 = .ok (.iconst 0, 1) := by decide +kernel
theorem dX12_walk_48 : decode cX12_walk 48 = .ok (.istore 7, 2) := by decide +kernel
theorem dX12_walk_50 : decode cX12_walk 50 = .ok (.iload 6, 2) := by decide +kernel
theorem dX12_walk_52 : decode cX12_walk 52 = .ok (.ifCond .eq 93, 3) := by decide +kernel
theorem dX12_walk_55 : decode cX12_walk 55 = .ok (.aload_n 0, 1) := by decide +kernel
theorem dX12_walk_56 : decode cX12_walk 56 = .ok (.getfield 145, 3) := by decide +kernel
theorem dX12_walk_59 : decode cX12_walk 59 = .ok (.ifCond .le 86, 3) := by decide +kernel
theorem dX12_walk_62 : decode cX12_walk 62 = .ok (.iload 7, 2) := by decide +kernel
theorem dX12_walk_64 : decode cX12_walk 64 = .ok (.ifCond .ne 81, 3) := by decide +kernel
theorem dX12_walk_67 : decode cX12_walk 67 = .ok (.aload_n 0, 1) := by decide +kernel
theorem dX12_walk_68 : decode cX12_walk 68 = .ok (.iload_n 2, 1) := by decide +kernel
theorem dX12_walk_69 : decode cX12_walk 69 = .ok (.invokevirtual 170, 3) := by decide +kernel
theorem dX12_walk_72 : decode cX12_walk 72 = .ok (.istore 8, 2) := by decide +kernel
theorem dX12_walk_74 : decode cX12_walk 74 = .ok (.iload 8, 2) := by decide +kernel
theorem dX12_walk_76 : decode cX12_walk 76 = .ok (.iconst (-1), 1) := by decide +kernel
theorem dX12_walk_77 : decode cX12_walk 77 = .ok (.if_icmp .ne 16, 3) := by decide +kernel
theorem dX12_walk_80 : decode cX12_walk 80 = .ok (.aload_n 0, 1) := by decide +kernel
theorem dX12_walk_81 : decode cX12_walk 81 = .ok (.dup, 1) := by decide +kernel
theorem dX12_walk_82 : decode cX12_walk 82 = .ok (.getfield 145, 3) := by decide +kernel
theorem dX12_walk_85 : decode cX12_walk 85 = .ok (.iconst 1, 1) := by decide +kernel
theorem dX12_walk_86 : decode cX12_walk 86 = .ok (.isub, 1) := by decide +kernel
theorem dX12_walk_87 : decode cX12_walk 87 = .ok (.putfield 145, 3) := by decide +kernel
theorem dX12_walk_90 : decode cX12_walk 90 = .ok (.goto 52, 3) := by decide +kernel
theorem dX12_walk_93 : decode cX12_walk 93 = .ok (.aload_n 0, 1) := by decide +kernel
theorem dX12_walk_94 : decode cX12_walk 94 = .ok (.iload 8, 2) := by decide +kernel
theorem dX12_walk_96 : decode cX12_walk 96 = .ok (.iconst (-1), 1) := by decide +kernel
theorem dX12_walk_97 : decode cX12_walk 97 = .ok (.invokevirtual 166, 3) := by decide +kernel
theorem dX12_walk_100 : decode cX12_walk 100 = .ok (.istore 6, 2) := by decide +kernel
theorem dX12_walk_102 : decode cX12_walk 102 = .ok (.iload 6, 2) := by decide +kernel
theorem dX12_walk_104 : decode cX12_walk 104 = .ok (.ifCond .eq 35, 3) := by decide +kernel
theorem dX12_walk_107 : decode cX12_walk 107 = .ok (.iload_n 3, 1) := by decide +kernel
theorem dX12_walk_108 : decode cX12_walk 108 = .ok (.ifCond .eq 31, 3) := by decide +kernel
theorem dX12_walk_111 : decode cX12_walk 111 = .ok (.aload_n 0, 1) := by decide +kernel
theorem dX12_walk_112 : decode cX12_walk 112 = .ok (.getfield 7, 3) := by decide +kernel
theorem dX12_walk_115 : decode cX12_walk 115 = .ok (.iload 8, 2) := by decide +kernel
theorem dX12_walk_117 : decode cX12_walk 117 = .ok (.iaload, 1) := by decide +kernel
theorem dX12_walk_118 : decode cX12_walk 118 = .ok (.iload 4, 2) := by decide +kernel
theorem dX12_walk_120 : decode cX12_walk 120 = .ok (.if_icmp .ne 19, 3) := by decide +kernel
theorem dX12_walk_123 : decode cX12_walk 123 = .ok (.aload_n 0, 1) := by decide +kernel
theorem dX12_walk_124 : decode cX12_walk 124 = .ok (.getfield 13, 3) := by decide +kernel
theorem dX12_walk_127 : decode cX12_walk 127 = .ok (.iload 8, 2) := by decide +kernel
theorem dX12_walk_129 : decode cX12_walk 129 = .ok (.iaload, 1) := by decide +kernel
theorem dX12_walk_130 : decode cX12_walk 130 = .ok (.iload 5, 2) := by decide +kernel
theorem dX12_walk_132 : decode cX12_walk 132 = .ok (.if_icmp .ne 7, 3) := by decide +kernel
theorem dX12_walk_135 : decode cX12_walk 135 = .ok (.iconst 1, 1) := by decide +kernel
theorem dX12_walk_136 : decode cX12_walk 136 = .ok (.goto 4, 3) := by decide +kernel
theorem dX12_walk_139 : decode cX12_walk 139 = .ok (.iconst 0, 1) := by decide +kernel
theorem dX12_walk_140 : decode cX12_walk 140 = .ok (.istore 7, 2) := by decide +kernel
theorem dX12_walk_142 : decode cX12_walk 142 = .ok (.goto (-92), 3) := by decide +kernel
theorem dX12_walk_145 : decode cX12_walk 145 = .ok (.aload_n 0, 1) := by decide +kernel
theorem dX12_walk_146 : decode cX12_walk 146 = .ok (.invokevirtual 174, 3) := by decide +kernel
theorem dX12_walk_149 : decode cX12_walk 149 = .ok (.pop, 1) := by decide +kernel
theorem dX12_walk_150 : decode cX12_walk 150 = .ok (.aload_n 0, 1) := by decide +kernel
theorem dX12_walk_151 : decode cX12_walk 151 = .ok (.getfield 154, 3) := by decide +kernel
theorem dX12_walk_154 : decode cX12_walk 154 = .ok (.ifCond .eq 10, 3) := by decide +kernel
theorem dX12_walk_157 : decode cX12_walk 157 = .ok (.aload_n 0, 1) := by decide +kernel
theorem dX12_walk_158 : decode cX12_walk 158 = .ok (.getfield 154, 3) := by decide +kernel
theorem dX12_walk_161 : decode cX12_walk 161 = .ok (.goto 18, 3) := by decide +kernel
theorem dX12_walk_164 : decode cX12_walk 164 = .ok (.iload 7, 2) := by decide +kernel
theorem dX12_walk_166 : decode cX12_walk 166 = .ok (.ifCond .eq 12, 3) := by decide +kernel
theorem dX12_walk_169 : decode cX12_walk 169 = .ok (.aload_n 0, 1) := by decide +kernel
theorem dX12_walk_170 : decode cX12_walk 170 = .ok (.getfield 148, 3) := by decide +kernel
theorem dX12_walk_173 : decode cX12_walk 173 = .ok (.iconst 1, 1) := by decide +kernel
theorem dX12_walk_174 : decode cX12_walk 174 = .ok (.isub, 1) := by decide +kernel
theorem dX12_walk_175 : decode cX12_walk 175 = .ok (.goto 4, 3) := by decide +kernel
theorem dX12_walk_178 : decode cX12_walk 178 = .ok (.iconst (-1), 1) := by decide +kernel
theorem dX12_walk_179 : decode cX12_walk 179 = .ok (.ireturn, 1) := by decide +kernel
theorem dX12_walkAll_0 : decode cX12_walkAll 0 = .ok (.aload_n 0, 1) := by decide +kernel
theorem dX12_walkAll_1 : decode cX12_walkAll 1 = .ok (.iload_n 1, 1) := by decide +kernel
theorem dX12_walkAll_2 : decode cX12_walkAll 2 = .ok (.iconst 0, 1) := by decide +kernel
theorem dX12_walkAll_3 : decode cX12_walkAll 3 = .ok (.iconst 0, 1) := by decide +kernel
theorem dX12_walkAll_4 : decode cX12_walkAll 4 = .ok (.iconst 0, 1) := by decide +kernel
theorem dX12_walkAll_5 : decode cX12_walkAll 5 = .ok (.iconst 0, 1) := by decide +kernel
theorem dX12_walkAll_6 : decode cX12_walkAll 6 = .ok (.invokevirtual 178, 3) := by decide +kernel
theorem dX12_walkAll_9 : decode cX12_walkAll 9 = .ok (.pop, 1) := by decide +kernel
theorem dX12_walkAll_10 : decode cX12_walkAll 10 = .ok (.aload_n 0, 1) := by decide +kernel
theorem dX12_walkAll_11 : decode cX12_walkAll 11 = .ok (.getfield 154, 3) := by decide +kernel
theorem dX12_walkAll_14 : decode cX12_walkAll 14 = .ok (.ireturn, 1) := by decide +kernel
theorem dX12_size_0 : decode cX12_size 0 = .ok (.aload_n 0, 1) := by decide +kernel
theorem dX12_size_1 : decode cX12_size 1 = .ok (.iload_n 1, 1) := by decide +kernel
theorem dX12_size_2 : decode cX12_size 2 = .ok (.invokevirtual 104, 3) := by decide +kernel
theorem dX12_size_5 : decode cX12_size 5 = .ok (.ifCond .ne 8, 3) := by decide +kernel
theorem dX12_size_8 : decode cX12_size 8 = .ok (.aload_n 0, 1) := by decide +kernel
theorem dX12_size_9 : decode cX12_size 9 = .ok (.invokevirtual 182, 3) := by decide +kernel
theorem dX12_size_12 : decode cX12_size 12 = .ok (.ireturn, 1) := by decide +kernel
theorem dX12_size_13 : decode cX12_size 13 = .ok (.aload_n 0, 1) := by decide +kernel
theorem dX12_size_14 : decode cX12_size 14 = .ok (.iload_n 1, 1) := by decide +kernel
theorem dX12_size_15 : decode cX12_size 15 = .ok (.invokevirtual 185, 3) := by decide +kernel
theorem dX12_size_18 : decode cX12_size 18 = .ok (.ifCond .eq 10, 3) := by decide +kernel
theorem dX12_size_21 : decode cX12_size 21 = .ok (.aload_n 0, 1) := by decide +kernel
theorem dX12_size_22 : decode cX12_size 22 = .ok (.getfield 154, 3) := by decide +kernel
theorem dX12_size_25 : decode cX12_size 25 = .ok (.goto 7, 3) := by decide +kernel
theorem dX12_size_28 : decode cX12_size 28 = .ok (.aload_n 0, 1) := by decide +kernel
theorem dX12_size_29 : decode cX12_size 29 = .ok (.getfield 148, 3) := by decide +kernel
theorem dX12_size_32 : decode cX12_size 32 = .ok (.ireturn, 1) := by decide +kernel
theorem dX12_depth_0 : decode cX12_depth 0 = .ok (.aload_n 0, 1) := by decide +kernel
theorem dX12_depth_1 : decode cX12_depth 1 = .ok (.iload_n 1, 1) := by decide +kernel
theorem dX12_depth_2 : decode cX12_depth 2 = .ok (.invokevirtual 104, 3) := by decide +kernel
theorem dX12_depth_5 : decode cX12_depth 5 = .ok (.ifCond .ne 8, 3) := by decide +kernel
theorem dX12_depth_8 : decode cX12_depth 8 = .ok (.aload_n 0, 1) := by decide +kernel
theorem dX12_depth_9 : decode cX12_depth 9 = .ok (.invokevirtual 182, 3) := by decide +kernel
theorem dX12_depth_12 : decode cX12_depth 12 = .ok (.ireturn, 1) := by decide +kernel
theorem dX12_depth_13 : decode cX12_depth 13 = .ok (.aload_n 0, 1) := by decide +kernel
theorem dX12_depth_14 : decode cX12_depth 14 = .ok (.iload_n 1, 1) := by decide +kernel
theorem dX12_depth_15 : decode cX12_depth 15 = .ok (.invokevirtual 185, 3) := by decide +kernel
theorem dX12_depth_18 : decode cX12_depth 18 = .ok (.ifCond .eq 10, 3) := by decide +kernel
theorem dX12_depth_21 : decode cX12_depth 21 = .ok (.aload_n 0, 1) := by decide +kernel
theorem dX12_depth_22 : decode cX12_depth 22 = .ok (.getfield 154, 3) := by decide +kernel
theorem dX12_depth_25 : decode cX12_depth 25 = .ok (.goto 7, 3) := by decide +kernel
theorem dX12_depth_28 : decode cX12_depth 28 = .ok (.aload_n 0, 1) := by decide +kernel
theorem dX12_depth_29 : decode cX12_depth 29 = .ok (.getfield 151, 3) := by decide +kernel
theorem dX12_depth_32 : decode cX12_depth 32 = .ok (.ireturn, 1) := by decide +kernel
theorem dX12_worth_0 : decode cX12_worth 0 = .ok (.aload_n 0, 1) := by decide +kernel
theorem dX12_worth_1 : decode cX12_worth 1 = .ok (.iload_n 1, 1) := by decide +kernel
theorem dX12_worth_2 : decode cX12_worth 2 = .ok (.invokevirtual 104, 3) := by decide +kernel
theorem dX12_worth_5 : decode cX12_worth 5 = .ok (.ifCond .ne 10, 3) := by decide +kernel
theorem dX12_worth_8 : decode cX12_worth 8 = .ok (.aload_n 0, 1) := by decide +kernel
theorem dX12_worth_9 : decode cX12_worth 9 = .ok (.invokevirtual 182, 3) := by decide +kernel
theorem dX12_worth_12 : decode cX12_worth 12 = .ok (.pop, 1) := by decide +kernel
theorem dX12_worth_13 : decode cX12_worth 13 = .ok (.lconst 0, 1) := by decide +kernel
theorem dX12_worth_14 : decode cX12_worth 14 = .ok (.lreturn, 1) := by decide +kernel
theorem dX12_worth_15 : decode cX12_worth 15 = .ok (.aload_n 0, 1) := by decide +kernel
theorem dX12_worth_16 : decode cX12_worth 16 = .ok (.iload_n 1, 1) := by decide +kernel
theorem dX12_worth_17 : decode cX12_worth 17 = .ok (.invokevirtual 188, 3) := by decide +kernel
theorem dX12_worth_20 : decode cX12_worth 20 = .ok (.aload_n 0, 1) := by decide +kernel
theorem dX12_worth_21 : decode cX12_worth 21 = .ok (.iload_n 1, 1) := by decide +kernel
theorem dX12_worth_22 : decode cX12_worth 22 = .ok (.iconst 1, 1) := by decide +kernel
theorem dX12_worth_23 : decode cX12_worth 23 = .ok (.iconst 0, 1) := by decide +kernel
theorem dX12_worth_24 : decode cX12_worth 24 = .ok (.iconst 0, 1) := by decide +kernel
theorem dX12_worth_25 : decode cX12_worth 25 = .ok (.iconst 0, 1) := by decide +kernel
theorem dX12_worth_26 : decode cX12_worth 26 = .ok (.invokevirtual 178, 3) := by decide +kernel
theorem dX12_worth_29 : decode cX12_worth 29 = .ok (.pop, 1) := by decide +kernel
theorem dX12_worth_30 : decode cX12_worth 30 = .ok (.aload_n 0, 1) := by decide +kernel
theorem dX12_worth_31 : decode cX12_worth 31 = .ok (.getfield 154, 3) := by decide +kernel
theorem dX12_worth_34 : decode cX12_worth 34 = .ok (.ifCond .eq 7, 3) := by decide +kernel
theorem dX12_worth_37 : decode cX12_worth 37 = .ok (.lconst 0, 1) := by decide +kernel
theorem dX12_worth_38 : decode cX12_worth 38 = .ok (.goto 9, 3) := by decide +kernel
theorem dX12_worth_41 : decode cX12_worth 41 = .ok (.aload_n 0, 1) := by decide +kernel
theorem dX12_worth_42 : decode cX12_worth 42 = .ok (.getfield 38, 3) := by decide +kernel
theorem dX12_worth_45 : decode cX12_worth 45 = .ok (.iload_n 1, 1) := by decide +kernel
theorem dX12_worth_46 : decode cX12_worth 46 = .ok (.laload, 1) := by decide +kernel
theorem dX12_worth_47 : decode cX12_worth 47 = .ok (.lreturn, 1) := by decide +kernel
theorem dX12_mark_0 : decode cX12_mark 0 = .ok (.aload_n 0, 1) := by decide +kernel
theorem dX12_mark_1 : decode cX12_mark 1 = .ok (.iload_n 1, 1) := by decide +kernel
theorem dX12_mark_2 : decode cX12_mark 2 = .ok (.invokevirtual 104, 3) := by decide +kernel
theorem dX12_mark_5 : decode cX12_mark 5 = .ok (.ifCond .ne 10, 3) := by decide +kernel
theorem dX12_mark_8 : decode cX12_mark 8 = .ok (.aload_n 0, 1) := by decide +kernel
theorem dX12_mark_9 : decode cX12_mark 9 = .ok (.invokevirtual 182, 3) := by decide +kernel
theorem dX12_mark_12 : decode cX12_mark 12 = .ok (.pop, 1) := by decide +kernel
theorem dX12_mark_13 : decode cX12_mark 13 = .ok (.lconst 0, 1) := by decide +kernel
theorem dX12_mark_14 : decode cX12_mark 14 = .ok (.lreturn, 1) := by decide +kernel
theorem dX12_mark_15 : decode cX12_mark 15 = .ok (.aload_n 0, 1) := by decide +kernel
theorem dX12_mark_16 : decode cX12_mark 16 = .ok (.iload_n 1, 1) := by decide +kernel
theorem dX12_mark_17 : decode cX12_mark 17 = .ok (.invokevirtual 188, 3) := by decide +kernel
theorem dX12_mark_20 : decode cX12_mark 20 = .ok (.aload_n 0, 1) := by decide +kernel
theorem dX12_mark_21 : decode cX12_mark 21 = .ok (.iload_n 1, 1) := by decide +kernel
theorem dX12_mark_22 : decode cX12_mark 22 = .ok (.invokevirtual 185, 3) := by decide +kernel
theorem dX12_mark_25 : decode cX12_mark 25 = .ok (.ifCond .eq 7, 3) := by decide +kernel
theorem dX12_mark_28 : decode cX12_mark 28 = .ok (.lconst 0, 1) := by decide +kernel
theorem dX12_mark_29 : decode cX12_mark 29 = .ok (.goto 9, 3) := by decide +kernel
theorem dX12_mark_32 : decode cX12_mark 32 = .ok (.aload_n 0, 1) := by decide +kernel
theorem dX12_mark_33 : decode cX12_mark 33 = .ok (.getfield 42, 3) := by decide +kernel
theorem dX12_mark_36 : decode cX12_mark 36 = .ok (.iload_n 1, 1) := by decide +kernel
theorem dX12_mark_37 : decode cX12_mark 37 = .ok (.laload, 1) := by decide +kernel
theorem dX12_mark_38 : decode cX12_mark 38 = .ok (.lreturn, 1) := by decide +kernel
theorem dX12_differ_0 : decode cX12_differ 0 = .ok (.aload_n 0, 1) := by decide +kernel
theorem dX12_differ_1 : decode cX12_differ 1 = .ok (.getfield 7, 3) := by decide +kernel
theorem dX12_differ_4 : decode cX12_differ 4 = .ok (.iload_n 1, 1) := by decide +kernel
theorem dX12_differ_5 : decode cX12_differ 5 = .ok (.iaload, 1) := by decide +kernel
theorem dX12_differ_6 : decode cX12_differ 6 = .ok (.aload_n 0, 1) := by decide +kernel
theorem dX12_differ_7 : decode cX12_differ 7 = .ok (.getfield 7, 3) := by decide +kernel
theorem dX12_differ_10 : decode cX12_differ 10 = .ok (.iload_n 2, 1) := by decide +kernel
theorem dX12_differ_11 : decode cX12_differ 11 = .ok (.iaload, 1) := by decide +kernel
theorem dX12_differ_12 : decode cX12_differ 12 = .ok (.if_icmp .ne 33, 3) := by decide +kernel
theorem dX12_differ_15 : decode cX12_differ 15 = .ok (.aload_n 0, 1) := by decide +kernel
theorem dX12_differ_16 : decode cX12_differ 16 = .ok (.getfield 13, 3) := by decide +kernel
theorem dX12_differ_19 : decode cX12_differ 19 = .ok (.iload_n 1, 1) := by decide +kernel
theorem dX12_differ_20 : decode cX12_differ 20 = .ok (.iaload, 1) := by decide +kernel
theorem dX12_differ_21 : decode cX12_differ 21 = .ok (.aload_n 0, 1) := by decide +kernel
theorem dX12_differ_22 : decode cX12_differ 22 = .ok (.getfield 13, 3) := by decide +kernel
theorem dX12_differ_25 : decode cX12_differ 25 = .ok (.iload_n 2, 1) := by decide +kernel
theorem dX12_differ_26 : decode cX12_differ 26 = .ok (.iaload, 1) := by decide +kernel
theorem dX12_differ_27 : decode cX12_differ 27 = .ok (.if_icmp .ne 18, 3) := by decide +kernel
theorem dX12_differ_30 : decode cX12_differ 30 = .ok (.aload_n 0, 1) := by decide +kernel
theorem dX12_differ_31 : decode cX12_differ 31 = .ok (.getfield 16, 3) := by decide +kernel
theorem dX12_differ_34 : decode cX12_differ 34 = .ok (.iload_n 1, 1) := by decide +kernel
theorem dX12_differ_35 : decode cX12_differ 35 = .ok (.iaload, 1) := by decide +kernel
theorem dX12_differ_36 : decode cX12_differ 36 = .ok (.aload_n 0, 1) := by decide +kernel
theorem dX12_differ_37 : decode cX12_differ 37 = .ok (.getfield 16, 3) := by decide +kernel
theorem dX12_differ_40 : decode cX12_differ 40 = .ok (.iload_n 2, 1) := by decide +kernel
theorem dX12_differ_41 : decode cX12_differ 41 = .ok (.iaload, 1) := by decide +kernel
theorem dX12_differ_42 : decode cX12_differ 42 = .ok (.if_icmp .eq 7, 3) := by decide +kernel
theorem dX12_differ_45 : decode cX12_differ 45 = .ok (.iconst 1, 1) := by decide +kernel
theorem dX12_differ_46 : decode cX12_differ 46 = .ok (.goto 4, 3) := by decide +kernel
theorem dX12_differ_49 : decode cX12_differ 49 = .ok (.iconst 0, 1) := by decide +kernel
theorem dX12_differ_50 : decode cX12_differ 50 = .ok (.ireturn, 1) := by decide +kernel
theorem dX12_alike_0 : decode cX12_alike 0 = .ok (.aload_n 0, 1) := by decide +kernel
theorem dX12_alike_1 : decode cX12_alike 1 = .ok (.iload_n 1, 1) := by decide +kernel
theorem dX12_alike_2 : decode cX12_alike 2 = .ok (.invokevirtual 104, 3) := by decide +kernel
theorem dX12_alike_5 : decode cX12_alike 5 = .ok (.ifCond .eq 11, 3) := by decide +kernel
theorem dX12_alike_8 : decode cX12_alike 8 = .ok (.aload_n 0, 1) := by decide +kernel
theorem dX12_alike_9 : decode cX12_alike 9 = .ok (.iload_n 2, 1) := by decide +kernel
theorem dX12_alike_10 : decode cX12_alike 10 = .ok (.invokevirtual 104, 3) := by decide +kernel
theorem dX12_alike_13 : decode cX12_alike 13 = .ok (.ifCond .ne 8, 3) := by decide +kernel
theorem dX12_alike_16 : decode cX12_alike 16 = .ok (.aload_n 0, 1) := by decide +kernel
theorem dX12_alike_17 : decode cX12_alike 17 = .ok (.invokevirtual 182, 3) := by decide +kernel
theorem dX12_alike_20 : decode cX12_alike 20 = .ok (.ireturn, 1) := by decide +kernel
theorem dX12_alike_21 : decode cX12_alike 21 = .ok (.aload_n 0, 1) := by decide +kernel
theorem dX12_alike_22 : decode cX12_alike 22 = .ok (.invokevirtual 163, 3) := by decide +kernel
theorem dX12_alike_25 : decode cX12_alike 25 = .ok (.aload_n 0, 1) := by decide +kernel
theorem dX12_alike_26 : decode cX12_alike 26 = .ok (.iload_n 1, 1) := by decide +kernel
theorem dX12_alike_27 : decode cX12_alike 27 = .ok (.iload_n 2, 1) := by decide +kernel
theorem dX12_alike_28 : decode cX12_alike 28 = .ok (.invokevirtual 166, 3) := by decide +kernel
theorem dX12_alike_31 : decode cX12_alike 31 = .ok (.istore_n 3, 1) := by decide +kernel
theorem dX12_alike_32 : decode cX12_alike 32 = .ok (.iconst 1, 1) := by decide +kernel
theorem dX12_alike_33 : decode cX12_alike 33 = .ok (.istore 4, 2) := by decide +kernel
theorem dX12_alike_35 : decode cX12_alike 35 = .ok (.iload_n 3, 1) := by decide +kernel
theorem dX12_alike_36 : decode cX12_alike 36 = .ok (.ifCond .eq 148, 3) := by decide +kernel
theorem dX12_alike_39 : decode cX12_alike 39 = .ok (.aload_n 0, 1) := by decide +kernel
theorem dX12_alike_40 : decode cX12_alike 40 = .ok (.getfield 145, 3) := by decide +kernel
theorem dX12_alike_43 : decode cX12_alike 43 = .ok (.ifCond .le 141, 3) := by decide +kernel
theorem dX12_alike_46 : decode cX12_alike 46 = .ok (.iload 4, 2) := by decide +kernel
theorem dX12_alike_48 : decode cX12_alike 48 = .ok (.ifCond .eq 136, 3) := by decide +kernel
theorem dX12_alike_51 : decode cX12_alike 51 = .ok (.aload_n 0, 1) := by decide +kernel
theorem dX12_alike_52 : decode cX12_alike 52 = .ok (.getfield 45, 3) := by decide +kernel
theorem dX12_alike_55 : decode cX12_alike 55 = .ok (.aload_n 0, 1) := by decide +kernel
theorem dX12_alike_56 : decode cX12_alike 56 = .ok (.getfield 145, 3) := by decide +kernel
theorem dX12_alike_59 : decode cX12_alike 59 = .ok (.iconst 1, 1) := by decide +kernel
theorem dX12_alike_60 : decode cX12_alike 60 = .ok (.isub, 1) := by decide +kernel
theorem dX12_alike_61 : decode cX12_alike 61 = .ok (.iaload, 1) := by decide +kernel
theorem dX12_alike_62 : decode cX12_alike 62 = .ok (.istore 5, 2) := by decide +kernel
theorem dX12_alike_64 : decode cX12_alike 64 = .ok (.aload_n 0, 1) := by decide +kernel
theorem dX12_alike_65 : decode cX12_alike 65 = .ok (.getfield 48, 3) := by decide +kernel
theorem dX12_alike_68 : decode cX12_alike 68 = .ok (.aload_n 0, 1) := by decide +kernel
theorem dX12_alike_69 : decode cX12_alike 69 = .ok (.getfield 145, 3) := by decide +kernel
theorem dX12_alike_72 : decode cX12_alike 72 = .ok (.iconst 1, 1) := by decide +kernel
theorem dX12_alike_73 : decode cX12_alike 73 = .ok (.isub, 1) := by decide +kernel
theorem dX12_alike_74 : decode cX12_alike 74 = .ok (.iaload, 1) := by decide +kernel
theorem dX12_alike_75 : decode cX12_alike 75 = .ok (.istore 6, 2) := by decide +kernel
theorem dX12_alike_77 : decode cX12_alike 77 = .ok (.aload_n 0, 1) := by decide +kernel
theorem dX12_alike_78 : decode cX12_alike 78 = .ok (.getfield 51, 3) := by decide +kernel
theorem dX12_alike_81 : decode cX12_alike 81 = .ok (.aload_n 0, 1) := by decide +kernel
theorem dX12_alike_82 : decode cX12_alike 82 = .ok (.getfield 145, 3) := by decide +kernel
theorem dX12_alike_85 : decode cX12_alike 85 = .ok (.iconst 1, 1) := by decide +kernel
theorem dX12_alike_86 : decode cX12_alike 86 = .ok (.isub, 1) := by decide +kernel
theorem dX12_alike_87 : decode cX12_alike 87 = .ok (.iaload, 1) := by decide +kernel
theorem dX12_alike_88 : decode cX12_alike 88 = .ok (.istore 7, 2) := by decide +kernel
theorem dX12_alike_90 : decode cX12_alike 90 = .ok (.aload_n 0, 1) := by decide +kernel
theorem dX12_alike_91 : decode cX12_alike 91 = .ok (.iload 5, 2) := by decide +kernel
theorem dX12_alike_93 : decode cX12_alike 93 = .ok (.iload 6, 2) := by decide +kernel
theorem dX12_alike_95 : decode cX12_alike 95 = .ok (.invokevirtual 192, 3) := by decide +kernel
theorem dX12_alike_98 : decode cX12_alike 98 = .ok (.ifCond .ne 7, 3) := by decide +kernel
theorem dX12_alike_101 : decode cX12_alike 101 = .ok (.iconst 1, 1) := by decide +kernel
theorem dX12_alike_102 : decode cX12_alike 102 = .ok (.goto 4, 3) := by decide +kernel
theorem dX12_alike_105 : decode cX12_alike 105 = .ok (.iconst 0, 1) := by decide +kernel
theorem dX12_alike_106 : decode cX12_alike 106 = .ok (.istore 4, 2) := by decide +kernel
theorem dX12_alike_108 : decode cX12_alike 108 = .ok (.iload 5, 2) := by decide +kernel
theorem dX12_alike_110 : decode cX12_alike 110 = .ok (.iload 6, 2) := by decide +kernel
theorem dX12_alike_112 : decode cX12_alike 112 = .ok (.if_icmp .eq 15, 3) := by decide +kernel
theorem dX12_alike_115 : decode cX12_alike 115 = .ok (.iload 7, 2) := by decide +kernel
theorem dX12_alike_117 : decode cX12_alike 117 = .ok (.aload_n 0, 1) := by decide +kernel
theorem dX12_alike_118 : decode cX12_alike 118 = .ok (.getfield 16, 3) := by decide +kernel
theorem dX12_alike_121 : decode cX12_alike 121 = .ok (.iload 5, 2) := by decide +kernel
theorem dX12_alike_123 : decode cX12_alike 123 = .ok (.iaload, 1) := by decide +kernel
theorem dX12_alike_124 : decode cX12_alike 124 = .ok (.if_icmp .lt 16, 3) := by decide +kernel
theorem dX12_alike_127 : decode cX12_alike 127 = .ok (.aload_n 0, 1) := by decide +kernel
theorem dX12_alike_128 : decode cX12_alike 128 = .ok (.dup, 1) := by decide +kernel
theorem dX12_alike_129 : decode cX12_alike 129 = .ok (.getfield 145, 3) := by decide +kernel
theorem dX12_alike_132 : decode cX12_alike 132 = .ok (.iconst 1, 1) := by decide +kernel
theorem dX12_alike_133 : decode cX12_alike 133 = .ok (.isub, 1) := by decide +kernel
theorem dX12_alike_134 : decode cX12_alike 134 = .ok (.putfield 145, 3) := by decide +kernel
theorem dX12_alike_137 : decode cX12_alike 137 = .ok (.goto 44, 3) := by decide +kernel
theorem dX12_alike_140 : decode cX12_alike 140 = .ok (.iload 4, 2) := by decide +kernel
theorem dX12_alike_142 : decode cX12_alike 142 = .ok (.ifCond .eq 39, 3) := by decide +kernel
theorem dX12_alike_145 : decode cX12_alike 145 = .ok (.aload_n 0, 1) := by decide +kernel
theorem dX12_alike_146 : decode cX12_alike 146 = .ok (.getfield 51, 3) := by decide +kernel
theorem dX12_alike_149 : decode cX12_alike 149 = .ok (.aload_n 0, 1) := by decide +kernel
theorem dX12_alike_150 : decode cX12_alike 150 = .ok (.getfield 145, 3) := by decide +kernel
theorem dX12_alike_153 : decode cX12_alike 153 = .ok (.iconst 1, 1) := by decide +kernel
theorem dX12_alike_154 : decode cX12_alike 154 = .ok (.isub, 1) := by decide +kernel
theorem dX12_alike_155 : decode cX12_alike 155 = .ok (.dup2, 1) := by decide +kernel
theorem dX12_alike_156 : decode cX12_alike 156 = .ok (.iaload, 1) := by decide +kernel
theorem dX12_alike_157 : decode cX12_alike 157 = .ok (.iconst 1, 1) := by decide +kernel
theorem dX12_alike_158 : decode cX12_alike 158 = .ok (.iadd, 1) := by decide +kernel
theorem dX12_alike_159 : decode cX12_alike 159 = .ok (.iastore, 1) := by decide +kernel
theorem dX12_alike_160 : decode cX12_alike 160 = .ok (.aload_n 0, 1) := by decide +kernel
theorem dX12_alike_161 : decode cX12_alike 161 = .ok (.aload_n 0, 1) := by decide +kernel
theorem dX12_alike_162 : decode cX12_alike 162 = .ok (.iload 5, 2) := by decide +kernel
theorem dX12_alike_164 : decode cX12_alike 164 = .ok (.iload 7, 2) := by decide +kernel
theorem dX12_alike_166 : decode cX12_alike 166 = .ok (.invokevirtual 115, 3) := by decide +kernel
theorem dX12_alike_169 : decode cX12_alike 169 = .ok (.aload_n 0, 1) := by decide +kernel
theorem dX12_alike_170 : decode cX12_alike 170 = .ok (.iload 6, 2) := by decide +kernel
theorem dX12_alike_172 : decode cX12_alike 172 = .ok (.iload 7, 2) := by decide +kernel
theorem dX12_alike_174 : decode cX12_alike 174 = .ok (.invokevirtual 115, 3) := by decide +kernel
theorem dX12_alike_177 : decode cX12_alike 177 = .ok (.invokevirtual 166, 3) := by decide +kernel
theorem dX12_alike_180 : decode cX12_alike 180 = .ok (.istore_n 3, 1) := by decide +kernel
theorem dX12_alike_181 : decode cX12_alike 181 = .ok (.goto (-146), 3) := by decide +kernel
theorem dX12_alike_184 : decode cX12_alike 184 = .ok (.aload_n 0, 1) := by decide +kernel
theorem dX12_alike_185 : decode cX12_alike 185 = .ok (.invokevirtual 174, 3) := by decide +kernel
theorem dX12_alike_188 : decode cX12_alike 188 = .ok (.ifCond .eq 10, 3) := by decide +kernel
theorem dX12_alike_191 : decode cX12_alike 191 = .ok (.aload_n 0, 1) := by decide +kernel
theorem dX12_alike_192 : decode cX12_alike 192 = .ok (.getfield 154, 3) := by decide +kernel
theorem dX12_alike_195 : decode cX12_alike 195 = .ok (.goto 13, 3) := by decide +kernel
theorem dX12_alike_198 : decode cX12_alike 198 = .ok (.iload 4, 2) := by decide +kernel
theorem dX12_alike_200 : decode cX12_alike 200 = .ok (.ifCond .eq 7, 3) := by decide +kernel
theorem dX12_alike_203 : decode cX12_alike 203 = .ok (.iconst 1, 1) := by decide +kernel
theorem dX12_alike_204 : decode cX12_alike 204 = .ok (.goto 4, 3) := by decide +kernel
theorem dX12_alike_207 : decode cX12_alike 207 = .ok (.iconst 0, 1) := by decide +kernel
theorem dX12_alike_208 : decode cX12_alike 208 = .ok (.ireturn, 1) := by decide +kernel
theorem dX12_put_0 : decode cX12_put 0 = .ok (.aload_n 0, 1) := by decide +kernel
theorem dX12_put_1 : decode cX12_put 1 = .ok (.getfield 195, 3) := by decide +kernel
theorem dX12_put_4 : decode cX12_put 4 = .ok (.sipush 6000, 3) := by decide +kernel
theorem dX12_put_7 : decode cX12_put 7 = .ok (.if_icmp .ne 9, 3) := by decide +kernel
theorem dX12_put_10 : decode cX12_put 10 = .ok (.aload_n 0, 1) := by decide +kernel
theorem dX12_put_11 : decode cX12_put 11 = .ok (.iconst 1, 1) := by decide +kernel
theorem dX12_put_12 : decode cX12_put 12 = .ok (.putfield 198, 3) := by decide +kernel
theorem dX12_put_15 : decode cX12_put 15 = .ok (.return_, 1) := by decide +kernel
theorem dX12_put_16 : decode cX12_put 16 = .ok (.aload_n 0, 1) := by decide +kernel
theorem dX12_put_17 : decode cX12_put 17 = .ok (.getfield 60, 3) := by decide +kernel
theorem dX12_put_20 : decode cX12_put 20 = .ok (.aload_n 0, 1) := by decide +kernel
theorem dX12_put_21 : decode cX12_put 21 = .ok (.getfield 195, 3) := by decide +kernel
theorem dX12_put_24 : decode cX12_put 24 = .ok (.iload_n 1, 1) := by decide +kernel
theorem dX12_put_25 : decode cX12_put 25 = .ok (.iastore, 1) := by decide +kernel
theorem dX12_put_26 : decode cX12_put 26 = .ok (.aload_n 0, 1) := by decide +kernel
theorem dX12_put_27 : decode cX12_put 27 = .ok (.dup, 1) := by decide +kernel
theorem dX12_put_28 : decode cX12_put 28 = .ok (.getfield 195, 3) := by decide +kernel
theorem dX12_put_31 : decode cX12_put 31 = .ok (.iconst 1, 1) := by decide +kernel
theorem dX12_put_32 : decode cX12_put 32 = .ok (.iadd, 1) := by decide +kernel
theorem dX12_put_33 : decode cX12_put 33 = .ok (.putfield 195, 3) := by decide +kernel
theorem dX12_put_36 : decode cX12_put 36 = .ok (.return_, 1) := by decide +kernel
theorem dX12_putDeed_0 : decode cX12_putDeed 0 = .ok (.aload_n 0, 1) := by decide +kernel
theorem dX12_putDeed_1 : decode cX12_putDeed 1 = .ok (.bipush 97, 2) := by decide +kernel
theorem dX12_putDeed_3 : decode cX12_putDeed 3 = .ok (.aload_n 0, 1) := by decide +kernel
theorem dX12_putDeed_4 : decode cX12_putDeed 4 = .ok (.getfield 7, 3) := by decide +kernel
theorem dX12_putDeed_7 : decode cX12_putDeed 7 = .ok (.iload_n 1, 1) := by decide +kernel
theorem dX12_putDeed_8 : decode cX12_putDeed 8 = .ok (.iaload, 1) := by decide +kernel
theorem dX12_putDeed_9 : decode cX12_putDeed 9 = .ok (.iadd, 1) := by decide +kernel
theorem dX12_putDeed_10 : decode cX12_putDeed 10 = .ok (.invokevirtual 202, 3) := by decide +kernel
theorem dX12_putDeed_13 : decode cX12_putDeed 13 = .ok (.aload_n 0, 1) := by decide +kernel
theorem dX12_putDeed_14 : decode cX12_putDeed 14 = .ok (.getfield 13, 3) := by decide +kernel
theorem dX12_putDeed_17 : decode cX12_putDeed 17 = .ok (.iload_n 1, 1) := by decide +kernel
theorem dX12_putDeed_18 : decode cX12_putDeed 18 = .ok (.iaload, 1) := by decide +kernel
theorem dX12_putDeed_19 : decode cX12_putDeed 19 = .ok (.i2l, 1) := by decide +kernel
theorem dX12_putDeed_20 : decode cX12_putDeed 20 = .ok (.lstore_n 2, 1) := by decide +kernel
theorem dX12_putDeed_21 : decode cX12_putDeed 21 = .ok (.lload_n 2, 1) := by decide +kernel
theorem dX12_putDeed_22 : decode cX12_putDeed 22 = .ok (.lconst 0, 1) := by decide +kernel
theorem dX12_putDeed_23 : decode cX12_putDeed 23 = .ok (.lcmp, 1) := by decide +kernel
theorem dX12_putDeed_24 : decode cX12_putDeed 24 = .ok (.ifCond .ge 12, 3) := by decide +kernel
theorem dX12_putDeed_27 : decode cX12_putDeed 27 = .ok (.aload_n 0, 1) := by decide +kernel
theorem dX12_putDeed_28 : decode cX12_putDeed 28 = .ok (.bipush 45, 2) := by decide +kernel
theorem dX12_putDeed_30 : decode cX12_putDeed 30 = .ok (.invokevirtual 202, 3) := by decide +kernel
theorem dX12_putDeed_33 : decode cX12_putDeed 33 = .ok (.lload_n 2, 1) := by decide +kernel
theorem dX12_putDeed_34 : decode cX12_putDeed 34 = .ok (.lneg, 1) := by decide +kernel
theorem dX12_putDeed_35 : decode cX12_putDeed 35 = .ok (.lstore_n 2, 1) := by decide +kernel
theorem dX12_putDeed_36 : decode cX12_putDeed 36 = .ok (.lconst 1, 1) := by decide +kernel
theorem dX12_putDeed_37 : decode cX12_putDeed 37 = .ok (.lstore 4, 2) := by decide +kernel
theorem dX12_putDeed_39 : decode cX12_putDeed 39 = .ok (.lload_n 2, 1) := by decide +kernel
theorem dX12_putDeed_40 : decode cX12_putDeed 40 = .ok (.lload 4, 2) := by decide +kernel
theorem dX12_putDeed_42 : decode cX12_putDeed 42 = .ok (.ldiv, 1) := by decide +kernel
theorem dX12_putDeed_43 : decode cX12_putDeed 43 = .ok (.ldc2_w 205, 3) := by decide +kernel
theorem dX12_putDeed_46 : decode cX12_putDeed 46 = .ok (.lcmp, 1) := by decide +kernel
theorem dX12_putDeed_47 : decode cX12_putDeed 47 = .ok (.ifCond .le 14, 3) := by decide +kernel
theorem dX12_putDeed_50 : decode cX12_putDeed 50 = .ok (.lload 4, 2) := by decide +kernel
theorem dX12_putDeed_52 : decode cX12_putDeed 52 = .ok (.ldc2_w 207, 3) := by decide +kernel
theorem dX12_putDeed_55 : decode cX12_putDeed 55 = .ok (.lmul, 1) := by decide +kernel
theorem dX12_putDeed_56 : decode cX12_putDeed 56 = .ok (.lstore 4, 2) := by decide +kernel
theorem dX12_putDeed_58 : decode cX12_putDeed 58 = .ok (.goto (-19), 3) := by decide +kernel
theorem dX12_putDeed_61 : decode cX12_putDeed 61 = .ok (.lload 4, 2) := by decide +kernel
theorem dX12_putDeed_63 : decode cX12_putDeed 63 = .ok (.lstore 6, 2) := by decide +kernel
theorem dX12_putDeed_65 : decode cX12_putDeed 65 = .ok (.lload 6, 2) := by decide +kernel
theorem dX12_putDeed_67 : decode cX12_putDeed 67 = .ok (.lconst 0, 1) := by decide +kernel
theorem dX12_putDeed_68 : decode cX12_putDeed 68 = .ok (.lcmp, 1) := by decide +kernel
theorem dX12_putDeed_69 : decode cX12_putDeed 69 = .ok (.ifCond .le 30, 3) := by decide +kernel
theorem dX12_putDeed_72 : decode cX12_putDeed 72 = .ok (.aload_n 0, 1) := by decide +kernel
theorem dX12_putDeed_73 : decode cX12_putDeed 73 = .ok (.bipush 48, 2) := by decide +kernel
theorem dX12_putDeed_75 : decode cX12_putDeed 75 = .ok (.lload_n 2, 1) := by decide +kernel
theorem dX12_putDeed_76 : decode cX12_putDeed 76 = .ok (.lload 6, 2) := by decide +kernel
theorem dX12_putDeed_78 : decode cX12_putDeed 78 = .ok (.ldiv, 1) := by decide +kernel
theorem dX12_putDeed_79 : decode cX12_putDeed 79 = .ok (.ldc2_w 207, 3) := by decide +kernel
theorem dX12_putDeed_82 : decode cX12_putDeed 82 = .ok (.lrem, 1) := by decide +kernel
theorem dX12_putDeed_83 : decode cX12_putDeed 83 = .ok (.l2i, 1) := by decide +kernel
theorem dX12_putDeed_84 : decode cX12_putDeed 84 = .ok (.iadd, 1) := by decide +kernel
theorem dX12_putDeed_85 : decode cX12_putDeed 85 = .ok (.invokevirtual 202, 3) := by decide +kernel
theorem dX12_putDeed_88 : decode cX12_putDeed 88 = .ok (.lload 6, 2) := by decide +kernel
theorem dX12_putDeed_90 : decode cX12_putDeed 90 = .ok (.ldc2_w 207, 3) := by decide +kernel
theorem dX12_putDeed_93 : decode cX12_putDeed 93 = .ok (.ldiv, 1) := by decide +kernel
theorem dX12_putDeed_94 : decode cX12_putDeed 94 = .ok (.lstore 6, 2) := by decide +kernel
theorem dX12_putDeed_96 : decode cX12_putDeed 96 = .ok (.goto (-31), 3) := by decide +kernel
theorem dX12_putDeed_99 : decode cX12_putDeed 99 = .ok (.return_, 1) := by decide +kernel
theorem dX12_write_0 : decode cX12_write 0 = .ok (.aload_n 0, 1) := by decide +kernel
theorem dX12_write_1 : decode cX12_write 1 = .ok (.iload_n 1, 1) := by decide +kernel
theorem dX12_write_2 : decode cX12_write 2 = .ok (.invokevirtual 104, 3) := by decide +kernel
theorem dX12_write_5 : decode cX12_write 5 = .ok (.ifCond .ne 8, 3) := by decide +kernel
theorem dX12_write_8 : decode cX12_write 8 = .ok (.aload_n 0, 1) := by decide +kernel
theorem dX12_write_9 : decode cX12_write 9 = .ok (.invokevirtual 182, 3) := by decide +kernel
theorem dX12_write_12 : decode cX12_write 12 = .ok (.ireturn, 1) := by decide +kernel
theorem dX12_write_13 : decode cX12_write 13 = .ok (.aload_n 0, 1) := by decide +kernel
theorem dX12_write_14 : decode cX12_write 14 = .ok (.invokevirtual 163, 3) := by decide +kernel
theorem dX12_write_17 : decode cX12_write 17 = .ok (.aload_n 0, 1) := by decide +kernel
theorem dX12_write_18 : decode cX12_write 18 = .ok (.iconst 0, 1) := by decide +kernel
theorem dX12_write_19 : decode cX12_write 19 = .ok (.putfield 195, 3) := by decide +kernel
theorem dX12_write_22 : decode cX12_write 22 = .ok (.aload_n 0, 1) := by decide +kernel
theorem dX12_write_23 : decode cX12_write 23 = .ok (.iconst 0, 1) := by decide +kernel
theorem dX12_write_24 : decode cX12_write 24 = .ok (.putfield 198, 3) := by decide +kernel
theorem dX12_write_27 : decode cX12_write 27 = .ok (.aload_n 0, 1) := by decide +kernel
theorem dX12_write_28 : decode cX12_write 28 = .ok (.iload_n 1, 1) := by decide +kernel
theorem dX12_write_29 : decode cX12_write 29 = .ok (.iconst (-1), 1) := by decide +kernel
theorem dX12_write_30 : decode cX12_write 30 = .ok (.invokevirtual 166, 3) := by decide +kernel
theorem dX12_write_33 : decode cX12_write 33 = .ok (.istore_n 2, 1) := by decide +kernel
theorem dX12_write_34 : decode cX12_write 34 = .ok (.iload_n 2, 1) := by decide +kernel
theorem dX12_write_35 : decode cX12_write 35 = .ok (.ifCond .eq 8, 3) := by decide +kernel
theorem dX12_write_38 : decode cX12_write 38 = .ok (.aload_n 0, 1) := by decide +kernel
theorem dX12_write_39 : decode cX12_write 39 = .ok (.iload_n 1, 1) := by decide +kernel
theorem dX12_write_40 : decode cX12_write 40 = .ok (.invokevirtual 209, 3) := by decide +kernel
theorem dX12_write_43 : decode cX12_write 43 = .ok (.iload_n 2, 1) := by decide +kernel
theorem dX12_write_44 : decode cX12_write 44 = .ok (.ifCond .eq 135, 3) := by decide +kernel
theorem dX12_write_47 : decode cX12_write 47 = .ok (.aload_n 0, 1) := by decide +kernel
theorem dX12_write_48 : decode cX12_write 48 = .ok (.getfield 145, 3) := by decide +kernel
theorem dX12_write_51 : decode cX12_write 51 = .ok (.ifCond .le 128, 3) := by decide +kernel
theorem dX12_write_54 : decode cX12_write 54 = .ok (.aload_n 0, 1) := by decide +kernel
theorem dX12_write_55 : decode cX12_write 55 = .ok (.getfield 198, 3) := by decide +kernel
theorem dX12_write_58 : decode cX12_write 58 = .ok (.ifCond .ne 121, 3) := by decide +kernel
theorem dX12_write_61 : decode cX12_write 61 = .ok (.aload_n 0, 1) := by decide +kernel
theorem dX12_write_62 : decode cX12_write 62 = .ok (.getfield 45, 3) := by decide +kernel
theorem dX12_write_65 : decode cX12_write 65 = .ok (.aload_n 0, 1) := by decide +kernel
theorem dX12_write_66 : decode cX12_write 66 = .ok (.getfield 145, 3) := by decide +kernel
theorem dX12_write_69 : decode cX12_write 69 = .ok (.iconst 1, 1) := by decide +kernel
theorem dX12_write_70 : decode cX12_write 70 = .ok (.isub, 1) := by decide +kernel
theorem dX12_write_71 : decode cX12_write 71 = .ok (.iaload, 1) := by decide +kernel
theorem dX12_write_72 : decode cX12_write 72 = .ok (.istore_n 3, 1) := by decide +kernel
theorem dX12_write_73 : decode cX12_write 73 = .ok (.aload_n 0, 1) := by decide +kernel
theorem dX12_write_74 : decode cX12_write 74 = .ok (.getfield 51, 3) := by decide +kernel
theorem dX12_write_77 : decode cX12_write 77 = .ok (.aload_n 0, 1) := by decide +kernel
theorem dX12_write_78 : decode cX12_write 78 = .ok (.getfield 145, 3) := by decide +kernel
theorem dX12_write_81 : decode cX12_write 81 = .ok (.iconst 1, 1) := by decide +kernel
theorem dX12_write_82 : decode cX12_write 82 = .ok (.isub, 1) := by decide +kernel
theorem dX12_write_83 : decode cX12_write 83 = .ok (.iaload, 1) := by decide +kernel
theorem dX12_write_84 : decode cX12_write 84 = .ok (.istore 4, 2) := by decide +kernel
theorem dX12_write_86 : decode cX12_write 86 = .ok (.aload_n 0, 1) := by decide +kernel
theorem dX12_write_87 : decode cX12_write 87 = .ok (.iconst 0, 1) := by decide +kernel
theorem dX12_write_88 : decode cX12_write 88 = .ok (.invokevirtual 170, 3) := by decide +kernel
theorem dX12_write_91 : decode cX12_write 91 = .ok (.istore 5, 2) := by decide +kernel
theorem dX12_write_93 : decode cX12_write 93 = .ok (.iload 5, 2) := by decide +kernel
theorem dX12_write_95 : decode cX12_write 95 = .ok (.iconst (-1), 1) := by decide +kernel
theorem dX12_write_96 : decode cX12_write 96 = .ok (.if_icmp .ne 31, 3) := by decide +kernel
theorem dX12_write_99 : decode cX12_write 99 = .ok (.aload_n 0, 1) := by decide +kernel
theorem dX12_write_100 : decode cX12_write 100 = .ok (.getfield 16, 3) := by decide +kernel
theorem dX12_write_103 : decode cX12_write 103 = .ok (.iload_n 3, 1) := by decide +kernel
theorem dX12_write_104 : decode cX12_write 104 = .ok (.iaload, 1) := by decide +kernel
theorem dX12_write_105 : decode cX12_write 105 = .ok (.ifCond .le 9, 3) := by decide +kernel
theorem dX12_write_108 : decode cX12_write 108 = .ok (.aload_n 0, 1) := by decide +kernel
theorem dX12_write_109 : decode cX12_write 109 = .ok (.bipush 41, 2) := by decide +kernel
theorem dX12_write_111 : decode cX12_write 111 = .ok (.invokevirtual 202, 3) := by decide +kernel
theorem dX12_write_114 : decode cX12_write 114 = .ok (.aload_n 0, 1) := by decide +kernel
theorem dX12_write_115 : decode cX12_write 115 = .ok (.dup, 1) := by decide +kernel
theorem dX12_write_116 : decode cX12_write 116 = .ok (.getfield 145, 3) := by decide +kernel
theorem dX12_write_119 : decode cX12_write 119 = .ok (.iconst 1, 1) := by decide +kernel
theorem dX12_write_120 : decode cX12_write 120 = .ok (.isub, 1) := by decide +kernel
theorem dX12_write_121 : decode cX12_write 121 = .ok (.putfield 145, 3) := by decide +kernel
theorem dX12_write_124 : decode cX12_write 124 = .ok (.goto 52, 3) := by decide +kernel
theorem dX12_write_127 : decode cX12_write 127 = .ok (.aload_n 0, 1) := by decide +kernel
theorem dX12_write_128 : decode cX12_write 128 = .ok (.iload 4, 2) := by decide +kernel
theorem dX12_write_130 : decode cX12_write 130 = .ok (.ifCond .ne 8, 3) := by decide +kernel
theorem dX12_write_133 : decode cX12_write 133 = .ok (.bipush 40, 2) := by decide +kernel
theorem dX12_write_135 : decode cX12_write 135 = .ok (.goto 5, 3) := by decide +kernel
theorem dX12_write_138 : decode cX12_write 138 = .ok (.bipush 44, 2) := by decide +kernel
theorem dX12_write_140 : decode cX12_write 140 = .ok (.invokevirtual 202, 3) := by decide +kernel
theorem dX12_write_143 : decode cX12_write 143 = .ok (.aload_n 0, 1) := by decide +kernel
theorem dX12_write_144 : decode cX12_write 144 = .ok (.getfield 198, 3) := by decide +kernel
theorem dX12_write_147 : decode cX12_write 147 = .ok (.ifCond .ne 17, 3) := by decide +kernel
theorem dX12_write_150 : decode cX12_write 150 = .ok (.aload_n 0, 1) := by decide +kernel
theorem dX12_write_151 : decode cX12_write 151 = .ok (.iload 5, 2) := by decide +kernel
theorem dX12_write_153 : decode cX12_write 153 = .ok (.iconst (-1), 1) := by decide +kernel
theorem dX12_write_154 : decode cX12_write 154 = .ok (.invokevirtual 166, 3) := by decide +kernel
theorem dX12_write_157 : decode cX12_write 157 = .ok (.ifCond .eq 7, 3) := by decide +kernel
theorem dX12_write_160 : decode cX12_write 160 = .ok (.iconst 1, 1) := by decide +kernel
theorem dX12_write_161 : decode cX12_write 161 = .ok (.goto 4, 3) := by decide +kernel
theorem dX12_write_164 : decode cX12_write 164 = .ok (.iconst 0, 1) := by decide +kernel
theorem dX12_write_165 : decode cX12_write 165 = .ok (.istore_n 2, 1) := by decide +kernel
theorem dX12_write_166 : decode cX12_write 166 = .ok (.iload_n 2, 1) := by decide +kernel
theorem dX12_write_167 : decode cX12_write 167 = .ok (.ifCond .eq 9, 3) := by decide +kernel
theorem dX12_write_170 : decode cX12_write 170 = .ok (.aload_n 0, 1) := by decide +kernel
theorem dX12_write_171 : decode cX12_write 171 = .ok (.iload 5, 2) := by decide +kernel
theorem dX12_write_173 : decode cX12_write 173 = .ok (.invokevirtual 209, 3) := by decide +kernel
theorem dX12_write_176 : decode cX12_write 176 = .ok (.goto (-133), 3) := by decide +kernel
theorem dX12_write_179 : decode cX12_write 179 = .ok (.aload_n 0, 1) := by decide +kernel
theorem dX12_write_180 : decode cX12_write 180 = .ok (.invokevirtual 174, 3) := by decide +kernel
theorem dX12_write_183 : decode cX12_write 183 = .ok (.ifCond .eq 8, 3) := by decide +kernel
theorem dX12_write_186 : decode cX12_write 186 = .ok (.aload_n 0, 1) := by decide +kernel
theorem dX12_write_187 : decode cX12_write 187 = .ok (.getfield 154, 3) := by decide +kernel
theorem dX12_write_190 : decode cX12_write 190 = .ok (.ireturn, 1) := by decide +kernel
theorem dX12_write_191 : decode cX12_write 191 = .ok (.aload_n 0, 1) := by decide +kernel
theorem dX12_write_192 : decode cX12_write 192 = .ok (.getfield 198, 3) := by decide +kernel
theorem dX12_write_195 : decode cX12_write 195 = .ok (.ifCond .eq 6, 3) := by decide +kernel
theorem dX12_write_198 : decode cX12_write 198 = .ok (.bipush (-4), 2) := by decide +kernel
theorem dX12_write_200 : decode cX12_write 200 = .ok (.ireturn, 1) := by decide +kernel
theorem dX12_write_201 : decode cX12_write 201 = .ok (.iconst 0, 1) := by decide +kernel
theorem dX12_write_202 : decode cX12_write 202 = .ok (.istore_n 3, 1) := by decide +kernel
theorem dX12_write_203 : decode cX12_write 203 = .ok (.iload_n 3, 1) := by decide +kernel
theorem dX12_write_204 : decode cX12_write 204 = .ok (.aload_n 0, 1) := by decide +kernel
theorem dX12_write_205 : decode cX12_write 205 = .ok (.getfield 195, 3) := by decide +kernel
theorem dX12_write_208 : decode cX12_write 208 = .ok (.if_icmp .ge 21, 3) := by decide +kernel
theorem dX12_write_211 : decode cX12_write 211 = .ok (.aload_n 0, 1) := by decide +kernel
theorem dX12_write_212 : decode cX12_write 212 = .ok (.getfield 35, 3) := by decide +kernel
theorem dX12_write_215 : decode cX12_write 215 = .ok (.iload_n 3, 1) := by decide +kernel
theorem dX12_write_216 : decode cX12_write 216 = .ok (.aload_n 0, 1) := by decide +kernel
theorem dX12_write_217 : decode cX12_write 217 = .ok (.getfield 60, 3) := by decide +kernel
theorem dX12_write_220 : decode cX12_write 220 = .ok (.iload_n 3, 1) := by decide +kernel
theorem dX12_write_221 : decode cX12_write 221 = .ok (.iaload, 1) := by decide +kernel
theorem dX12_write_222 : decode cX12_write 222 = .ok (.iastore, 1) := by decide +kernel
theorem dX12_write_223 : decode cX12_write 223 = .ok (.iinc 3 1, 3) := by decide +kernel
theorem dX12_write_226 : decode cX12_write 226 = .ok (.goto (-23), 3) := by decide +kernel
theorem dX12_write_229 : decode cX12_write 229 = .ok (.aload_n 0, 1) := by decide +kernel
theorem dX12_write_230 : decode cX12_write 230 = .ok (.aload_n 0, 1) := by decide +kernel
theorem dX12_write_231 : decode cX12_write 231 = .ok (.getfield 195, 3) := by decide +kernel
theorem dX12_write_234 : decode cX12_write 234 = .ok (.putfield 212, 3) := by decide +kernel
theorem dX12_write_237 : decode cX12_write 237 = .ok (.aload_n 0, 1) := by decide +kernel
theorem dX12_write_238 : decode cX12_write 238 = .ok (.getfield 212, 3) := by decide +kernel
theorem dX12_write_241 : decode cX12_write 241 = .ok (.ireturn, 1) := by decide +kernel
theorem dX12_find_0 : decode cX12_find 0 = .ok (.aload_n 0, 1) := by decide +kernel
theorem dX12_find_1 : decode cX12_find 1 = .ok (.iload_n 1, 1) := by decide +kernel
theorem dX12_find_2 : decode cX12_find 2 = .ok (.invokevirtual 104, 3) := by decide +kernel
theorem dX12_find_5 : decode cX12_find 5 = .ok (.ifCond .eq 13, 3) := by decide +kernel
theorem dX12_find_8 : decode cX12_find 8 = .ok (.iload_n 2, 1) := by decide +kernel
theorem dX12_find_9 : decode cX12_find 9 = .ok (.iconst 0, 1) := by decide +kernel
theorem dX12_find_10 : decode cX12_find 10 = .ok (.bipush 11, 2) := by decide +kernel
theorem dX12_find_12 : decode cX12_find 12 = .ok (.invokestatic 93, 3) := by decide +kernel
theorem dX12_find_15 : decode cX12_find 15 = .ok (.ifCond .ne 8, 3) := by decide +kernel
theorem dX12_find_18 : decode cX12_find 18 = .ok (.aload_n 0, 1) := by decide +kernel
theorem dX12_find_19 : decode cX12_find 19 = .ok (.invokevirtual 182, 3) := by decide +kernel
theorem dX12_find_22 : decode cX12_find 22 = .ok (.ireturn, 1) := by decide +kernel
theorem dX12_find_23 : decode cX12_find 23 = .ok (.aload_n 0, 1) := by decide +kernel
theorem dX12_find_24 : decode cX12_find 24 = .ok (.iload_n 1, 1) := by decide +kernel
theorem dX12_find_25 : decode cX12_find 25 = .ok (.iconst 0, 1) := by decide +kernel
theorem dX12_find_26 : decode cX12_find 26 = .ok (.iconst 1, 1) := by decide +kernel
theorem dX12_find_27 : decode cX12_find 27 = .ok (.iload_n 2, 1) := by decide +kernel
theorem dX12_find_28 : decode cX12_find 28 = .ok (.iload_n 3, 1) := by decide +kernel
theorem dX12_find_29 : decode cX12_find 29 = .ok (.invokevirtual 178, 3) := by decide +kernel
theorem dX12_find_32 : decode cX12_find 32 = .ok (.ireturn, 1) := by decide +kernel
theorem dX12_widest_0 : decode cX12_widest 0 = .ok (.aload_n 0, 1) := by decide +kernel
theorem dX12_widest_1 : decode cX12_widest 1 = .ok (.iload_n 1, 1) := by decide +kernel
theorem dX12_widest_2 : decode cX12_widest 2 = .ok (.invokevirtual 104, 3) := by decide +kernel
theorem dX12_widest_5 : decode cX12_widest 5 = .ok (.ifCond .eq 12, 3) := by decide +kernel
theorem dX12_widest_8 : decode cX12_widest 8 = .ok (.iload_n 2, 1) := by decide +kernel
theorem dX12_widest_9 : decode cX12_widest 9 = .ok (.iconst 0, 1) := by decide +kernel
theorem dX12_widest_10 : decode cX12_widest 10 = .ok (.iconst 1, 1) := by decide +kernel
theorem dX12_widest_11 : decode cX12_widest 11 = .ok (.invokestatic 93, 3) := by decide +kernel
theorem dX12_widest_14 : decode cX12_widest 14 = .ok (.ifCond .ne 8, 3) := by decide +kernel
theorem dX12_widest_17 : decode cX12_widest 17 = .ok (.aload_n 0, 1) := by decide +kernel
theorem dX12_widest_18 : decode cX12_widest 18 = .ok (.invokevirtual 182, 3) := by decide +kernel
theorem dX12_widest_21 : decode cX12_widest 21 = .ok (.ireturn, 1) := by decide +kernel
theorem dX12_widest_22 : decode cX12_widest 22 = .ok (.aload_n 0, 1) := by decide +kernel
theorem dX12_widest_23 : decode cX12_widest 23 = .ok (.iload_n 1, 1) := by decide +kernel
theorem dX12_widest_24 : decode cX12_widest 24 = .ok (.invokevirtual 185, 3) := by decide +kernel
theorem dX12_widest_27 : decode cX12_widest 27 = .ok (.ifCond .eq 8, 3) := by decide +kernel
theorem dX12_widest_30 : decode cX12_widest 30 = .ok (.aload_n 0, 1) := by decide +kernel
theorem dX12_widest_31 : decode cX12_widest 31 = .ok (.getfield 154, 3) := by decide +kernel
theorem dX12_widest_34 : decode cX12_widest 34 = .ok (.ireturn, 1) := by decide +kernel
theorem dX12_widest_35 : decode cX12_widest 35 = .ok (.iconst 0, 1) := by decide +kernel
theorem dX12_widest_36 : decode cX12_widest 36 = .ok (.istore_n 3, 1) := by decide +kernel
theorem dX12_widest_37 : decode cX12_widest 37 = .ok (.iload_n 3, 1) := by decide +kernel
theorem dX12_widest_38 : decode cX12_widest 38 = .ok (.aload_n 0, 1) := by decide +kernel
theorem dX12_widest_39 : decode cX12_widest 39 = .ok (.getfield 151, 3) := by decide +kernel
theorem dX12_widest_42 : decode cX12_widest 42 = .ok (.if_icmp .gt 16, 3) := by decide +kernel
theorem dX12_widest_45 : decode cX12_widest 45 = .ok (.aload_n 0, 1) := by decide +kernel
theorem dX12_widest_46 : decode cX12_widest 46 = .ok (.getfield 63, 3) := by decide +kernel
theorem dX12_widest_49 : decode cX12_widest 49 = .ok (.iload_n 3, 1) := by decide +kernel
theorem dX12_widest_50 : decode cX12_widest 50 = .ok (.iconst 0, 1) := by decide +kernel
theorem dX12_widest_51 : decode cX12_widest 51 = .ok (.iastore, 1) := by decide +kernel
theorem dX12_widest_52 : decode cX12_widest 52 = .ok (.iinc 3 1, 3) := by decide +kernel
theorem dX12_widest_55 : decode cX12_widest 55 = .ok (.goto (-18), 3) := by decide +kernel
theorem dX12_widest_58 : decode cX12_widest 58 = .ok (.iconst 1, 1) := by decide +kernel
theorem dX12_widest_59 : decode cX12_widest 59 = .ok (.istore_n 3, 1) := by decide +kernel
theorem dX12_widest_60 : decode cX12_widest 60 = .ok (.iconst 0, 1) := by decide +kernel
theorem dX12_widest_61 : decode cX12_widest 61 = .ok (.istore 4, 2) := by decide +kernel
theorem dX12_widest_63 : decode cX12_widest 63 = .ok (.iload 4, 2) := by decide +kernel
theorem dX12_widest_65 : decode cX12_widest 65 = .ok (.aload_n 0, 1) := by decide +kernel
theorem dX12_widest_66 : decode cX12_widest 66 = .ok (.getfield 148, 3) := by decide +kernel
theorem dX12_widest_69 : decode cX12_widest 69 = .ok (.if_icmp .ge 25, 3) := by decide +kernel
theorem dX12_widest_72 : decode cX12_widest 72 = .ok (.aload_n 0, 1) := by decide +kernel
theorem dX12_widest_73 : decode cX12_widest 73 = .ok (.getfield 63, 3) := by decide +kernel
theorem dX12_widest_76 : decode cX12_widest 76 = .ok (.aload_n 0, 1) := by decide +kernel
theorem dX12_widest_77 : decode cX12_widest 77 = .ok (.getfield 57, 3) := by decide +kernel
theorem dX12_widest_80 : decode cX12_widest 80 = .ok (.iload 4, 2) := by decide +kernel
theorem dX12_widest_82 : decode cX12_widest 82 = .ok (.iaload, 1) := by decide +kernel
theorem dX12_widest_83 : decode cX12_widest 83 = .ok (.dup2, 1) := by decide +kernel
theorem dX12_widest_84 : decode cX12_widest 84 = .ok (.iaload, 1) := by decide +kernel
theorem dX12_widest_85 : decode cX12_widest 85 = .ok (.iconst 1, 1) := by decide +kernel
theorem dX12_widest_86 : decode cX12_widest 86 = .ok (.iadd, 1) := by decide +kernel
theorem dX12_widest_87 : decode cX12_widest 87 = .ok (.iastore, 1) := by decide +kernel
theorem dX12_widest_88 : decode cX12_widest 88 = .ok (.iinc 4 1, 3) := by decide +kernel
theorem dX12_widest_91 : decode cX12_widest 91 = .ok (.goto (-28), 3) := by decide +kernel
theorem dX12_widest_94 : decode cX12_widest 94 = .ok (.iconst 2, 1) := by decide +kernel
theorem dX12_widest_95 : decode cX12_widest 95 = .ok (.istore 4, 2) := by decide +kernel
theorem dX12_widest_97 : decode cX12_widest 97 = .ok (.iload 4, 2) := by decide +kernel
theorem dX12_widest_99 : decode cX12_widest 99 = .ok (.aload_n 0, 1) := by decide +kernel
theorem dX12_widest_100 : decode cX12_widest 100 = .ok (.getfield 151, 3) := by decide +kernel
theorem dX12_widest_103 : decode cX12_widest 103 = .ok (.if_icmp .gt 32, 3) := by decide +kernel
theorem dX12_widest_106 : decode cX12_widest 106 = .ok (.aload_n 0, 1) := by decide +kernel
theorem dX12_widest_107 : decode cX12_widest 107 = .ok (.getfield 63, 3) := by decide +kernel
theorem dX12_widest_110 : decode cX12_widest 110 = .ok (.iload 4, 2) := by decide +kernel
theorem dX12_widest_112 : decode cX12_widest 112 = .ok (.iaload, 1) := by decide +kernel
theorem dX12_widest_113 : decode cX12_widest 113 = .ok (.aload_n 0, 1) := by decide +kernel
theorem dX12_widest_114 : decode cX12_widest 114 = .ok (.getfield 63, 3) := by decide +kernel
theorem dX12_widest_117 : decode cX12_widest 117 = .ok (.iload_n 3, 1) := by decide +kernel
theorem dX12_widest_118 : decode cX12_widest 118 = .ok (.iaload, 1) := by decide +kernel
theorem dX12_widest_119 : decode cX12_widest 119 = .ok (.if_icmp .le 8, 3) := by decide +kernel
theorem dX12_widest_122 : decode cX12_widest 122 = .ok (.iload 4, 2) := by decide +kernel
theorem dX12_widest_124 : decode cX12_widest 124 = .ok (.goto 4, 3) := by decide +kernel
theorem dX12_widest_127 : decode cX12_widest 127 = .ok (.iload_n 3, 1) := by decide +kernel
theorem dX12_widest_128 : decode cX12_widest 128 = .ok (.istore_n 3, 1) := by decide +kernel
theorem dX12_widest_129 : decode cX12_widest 129 = .ok (.iinc 4 1, 3) := by decide +kernel
theorem dX12_widest_132 : decode cX12_widest 132 = .ok (.goto (-35), 3) := by decide +kernel
theorem dX12_widest_135 : decode cX12_widest 135 = .ok (.iload_n 2, 1) := by decide +kernel
theorem dX12_widest_136 : decode cX12_widest 136 = .ok (.ifCond .ne 7, 3) := by decide +kernel
theorem dX12_widest_139 : decode cX12_widest 139 = .ok (.iload_n 3, 1) := by decide +kernel
theorem dX12_widest_140 : decode cX12_widest 140 = .ok (.goto 9, 3) := by decide +kernel
theorem dX12_widest_143 : decode cX12_widest 143 = .ok (.aload_n 0, 1) := by decide +kernel
theorem dX12_widest_144 : decode cX12_widest 144 = .ok (.getfield 63, 3) := by decide +kernel
theorem dX12_widest_147 : decode cX12_widest 147 = .ok (.iload_n 3, 1) := by decide +kernel
theorem dX12_widest_148 : decode cX12_widest 148 = .ok (.iaload, 1) := by decide +kernel
theorem dX12_widest_149 : decode cX12_widest 149 = .ok (.ireturn, 1) := by decide +kernel
theorem dX12_plant_0 : decode cX12_plant 0 = .ok (.aload_n 0, 1) := by decide +kernel
theorem dX12_plant_1 : decode cX12_plant 1 = .ok (.getfield 215, 3) := by decide +kernel
theorem dX12_plant_4 : decode cX12_plant 4 = .ok (.istore 7, 2) := by decide +kernel
theorem dX12_plant_6 : decode cX12_plant 6 = .ok (.aload_n 0, 1) := by decide +kernel
theorem dX12_plant_7 : decode cX12_plant 7 = .ok (.getfield 66, 3) := by decide +kernel
theorem dX12_plant_10 : decode cX12_plant 10 = .ok (.iload 7, 2) := by decide +kernel
theorem dX12_plant_12 : decode cX12_plant 12 = .ok (.iload_n 1, 1) := by decide +kernel
theorem dX12_plant_13 : decode cX12_plant 13 = .ok (.iastore, 1) := by decide +kernel
theorem dX12_plant_14 : decode cX12_plant 14 = .ok (.aload_n 0, 1) := by decide +kernel
theorem dX12_plant_15 : decode cX12_plant 15 = .ok (.getfield 69, 3) := by decide +kernel
theorem dX12_plant_18 : decode cX12_plant 18 = .ok (.iload 7, 2) := by decide +kernel
theorem dX12_plant_20 : decode cX12_plant 20 = .ok (.iload_n 2, 1) := by decide +kernel
theorem dX12_plant_21 : decode cX12_plant 21 = .ok (.iastore, 1) := by decide +kernel
theorem dX12_plant_22 : decode cX12_plant 22 = .ok (.aload_n 0, 1) := by decide +kernel
theorem dX12_plant_23 : decode cX12_plant 23 = .ok (.getfield 72, 3) := by decide +kernel
theorem dX12_plant_26 : decode cX12_plant 26 = .ok (.iload 7, 2) := by decide +kernel
theorem dX12_plant_28 : decode cX12_plant 28 = .ok (.lload_n 3, 1) := by decide +kernel
theorem dX12_plant_29 : decode cX12_plant 29 = .ok (.lastore, 1) := by decide +kernel
theorem dX12_plant_30 : decode cX12_plant 30 = .ok (.aload_n 0, 1) := by decide +kernel
theorem dX12_plant_31 : decode cX12_plant 31 = .ok (.getfield 75, 3) := by decide +kernel
theorem dX12_plant_34 : decode cX12_plant 34 = .ok (.iload 7, 2) := by decide +kernel
theorem dX12_plant_36 : decode cX12_plant 36 = .ok (.iconst (-1), 1) := by decide +kernel
theorem dX12_plant_37 : decode cX12_plant 37 = .ok (.iastore, 1) := by decide +kernel
theorem dX12_plant_38 : decode cX12_plant 38 = .ok (.aload_n 0, 1) := by decide +kernel
theorem dX12_plant_39 : decode cX12_plant 39 = .ok (.getfield 78, 3) := by decide +kernel
theorem dX12_plant_42 : decode cX12_plant 42 = .ok (.iload 7, 2) := by decide +kernel
theorem dX12_plant_44 : decode cX12_plant 44 = .ok (.iconst (-1), 1) := by decide +kernel
theorem dX12_plant_45 : decode cX12_plant 45 = .ok (.iastore, 1) := by decide +kernel
theorem dX12_plant_46 : decode cX12_plant 46 = .ok (.aload_n 0, 1) := by decide +kernel
theorem dX12_plant_47 : decode cX12_plant 47 = .ok (.getfield 81, 3) := by decide +kernel
theorem dX12_plant_50 : decode cX12_plant 50 = .ok (.iload 7, 2) := by decide +kernel
theorem dX12_plant_52 : decode cX12_plant 52 = .ok (.iload 5, 2) := by decide +kernel
theorem dX12_plant_54 : decode cX12_plant 54 = .ok (.iastore, 1) := by decide +kernel
theorem dX12_plant_55 : decode cX12_plant 55 = .ok (.aload_n 0, 1) := by decide +kernel
theorem dX12_plant_56 : decode cX12_plant 56 = .ok (.dup, 1) := by decide +kernel
theorem dX12_plant_57 : decode cX12_plant 57 = .ok (.getfield 215, 3) := by decide +kernel
theorem dX12_plant_60 : decode cX12_plant 60 = .ok (.iconst 1, 1) := by decide +kernel
theorem dX12_plant_61 : decode cX12_plant 61 = .ok (.iadd, 1) := by decide +kernel
theorem dX12_plant_62 : decode cX12_plant 62 = .ok (.putfield 215, 3) := by decide +kernel
theorem dX12_plant_65 : decode cX12_plant 65 = .ok (.iload 5, 2) := by decide +kernel
theorem dX12_plant_67 : decode cX12_plant 67 = .ok (.iconst (-1), 1) := by decide +kernel
theorem dX12_plant_68 : decode cX12_plant 68 = .ok (.if_icmp .ne 4, 3) := by decide +kernel
theorem dX12_plant_71 : decode cX12_plant 71 = .ok (.return_, 1) := by decide +kernel
theorem dX12_plant_72 : decode cX12_plant 72 = .ok (.iconst (-1), 1) := by decide +kernel
theorem dX12_plant_73 : decode cX12_plant 73 = .ok (.istore 8, 2) := by decide +kernel
theorem dX12_plant_75 : decode cX12_plant 75 = .ok (.aload_n 0, 1) := by decide +kernel
theorem dX12_plant_76 : decode cX12_plant 76 = .ok (.getfield 75, 3) := by decide +kernel
theorem dX12_plant_79 : decode cX12_plant 79 = .ok (.iload 5, 2) := by decide +kernel
theorem dX12_plant_81 : decode cX12_plant 81 = .ok (.iaload, 1) := by decide +kernel
theorem dX12_plant_82 : decode cX12_plant 82 = .ok (.istore 9, 2) := by decide +kernel
theorem dX12_plant_84 : decode cX12_plant 84 = .ok (.iload 9, 2) := by decide +kernel
theorem dX12_plant_86 : decode cX12_plant 86 = .ok (.iconst (-1), 1) := by decide +kernel
theorem dX12_plant_87 : decode cX12_plant 87 = .ok (.if_icmp .eq 36, 3) := by decide +kernel
theorem dX12_plant_90 : decode cX12_plant 90 = .ok (.iload 6, 2) := by decide +kernel
theorem dX12_plant_92 : decode cX12_plant 92 = .ok (.ifCond .eq 15, 3) := by decide +kernel
theorem dX12_plant_95 : decode cX12_plant 95 = .ok (.aload_n 0, 1) := by decide +kernel
theorem dX12_plant_96 : decode cX12_plant 96 = .ok (.getfield 72, 3) := by decide +kernel
theorem dX12_plant_99 : decode cX12_plant 99 = .ok (.iload 9, 2) := by decide +kernel
theorem dX12_plant_101 : decode cX12_plant 101 = .ok (.laload, 1) := by decide +kernel
theorem dX12_plant_102 : decode cX12_plant 102 = .ok (.lload_n 3, 1) := by decide +kernel
theorem dX12_plant_103 : decode cX12_plant 103 = .ok (.lcmp, 1) := by decide +kernel
theorem dX12_plant_104 : decode cX12_plant 104 = .ok (.ifCond .gt 19, 3) := by decide +kernel
theorem dX12_plant_107 : decode cX12_plant 107 = .ok (.iload 9, 2) := by decide +kernel
theorem dX12_plant_109 : decode cX12_plant 109 = .ok (.istore 8, 2) := by decide +kernel
theorem dX12_plant_111 : decode cX12_plant 111 = .ok (.aload_n 0, 1) := by decide +kernel
theorem dX12_plant_112 : decode cX12_plant 112 = .ok (.getfield 78, 3) := by decide +kernel
theorem dX12_plant_115 : decode cX12_plant 115 = .ok (.iload 9, 2) := by decide +kernel
theorem dX12_plant_117 : decode cX12_plant 117 = .ok (.iaload, 1) := by decide +kernel
theorem dX12_plant_118 : decode cX12_plant 118 = .ok (.istore 9, 2) := by decide +kernel
theorem dX12_plant_120 : decode cX12_plant 120 = .ok (.goto (-36), 3) := by decide +kernel
theorem dX12_plant_123 : decode cX12_plant 123 = .ok (.aload_n 0, 1) := by decide +kernel
theorem dX12_plant_124 : decode cX12_plant 124 = .ok (.getfield 78, 3) := by decide +kernel
theorem dX12_plant_127 : decode cX12_plant 127 = .ok (.iload 7, 2) := by decide +kernel
theorem dX12_plant_129 : decode cX12_plant 129 = .ok (.iload 9, 2) := by decide +kernel
theorem dX12_plant_131 : decode cX12_plant 131 = .ok (.iastore, 1) := by decide +kernel
theorem dX12_plant_132 : decode cX12_plant 132 = .ok (.iload 8, 2) := by decide +kernel
theorem dX12_plant_134 : decode cX12_plant 134 = .ok (.iconst (-1), 1) := by decide +kernel
theorem dX12_plant_135 : decode cX12_plant 135 = .ok (.if_icmp .ne 15, 3) := by decide +kernel
theorem dX12_plant_138 : decode cX12_plant 138 = .ok (.aload_n 0, 1) := by decide +kernel
theorem dX12_plant_139 : decode cX12_plant 139 = .ok (.getfield 75, 3) := by decide +kernel
theorem dX12_plant_142 : decode cX12_plant 142 = .ok (.iload 5, 2) := by decide +kernel
theorem dX12_plant_144 : decode cX12_plant 144 = .ok (.iload 7, 2) := by decide +kernel
theorem dX12_plant_146 : decode cX12_plant 146 = .ok (.iastore, 1) := by decide +kernel
theorem dX12_plant_147 : decode cX12_plant 147 = .ok (.goto 12, 3) := by decide +kernel
theorem dX12_plant_150 : decode cX12_plant 150 = .ok (.aload_n 0, 1) := by decide +kernel
theorem dX12_plant_151 : decode cX12_plant 151 = .ok (.getfield 78, 3) := by decide +kernel
theorem dX12_plant_154 : decode cX12_plant 154 = .ok (.iload 8, 2) := by decide +kernel
theorem dX12_plant_156 : decode cX12_plant 156 = .ok (.iload 7, 2) := by decide +kernel
theorem dX12_plant_158 : decode cX12_plant 158 = .ok (.iastore, 1) := by decide +kernel
theorem dX12_plant_159 : decode cX12_plant 159 = .ok (.return_, 1) := by decide +kernel
theorem dX12_grow_0 : decode cX12_grow 0 = .ok (.aload_n 0, 1) := by decide +kernel
theorem dX12_grow_1 : decode cX12_grow 1 = .ok (.getfield 90, 3) := by decide +kernel
theorem dX12_grow_4 : decode cX12_grow 4 = .ok (.aload_n 0, 1) := by decide +kernel
theorem dX12_grow_5 : decode cX12_grow 5 = .ok (.getfield 215, 3) := by decide +kernel
theorem dX12_grow_8 : decode cX12_grow 8 = .ok (.iadd, 1) := by decide +kernel
theorem dX12_grow_9 : decode cX12_grow 9 = .ok (.sipush 1500, 3) := by decide +kernel
theorem dX12_grow_12 : decode cX12_grow 12 = .ok (.if_icmp .gt 20, 3) := by decide +kernel
theorem dX12_grow_15 : decode cX12_grow 15 = .ok (.aload_n 0, 1) := by decide +kernel
theorem dX12_grow_16 : decode cX12_grow 16 = .ok (.getfield 97, 3) := by decide +kernel
theorem dX12_grow_19 : decode cX12_grow 19 = .ok (.aload_n 0, 1) := by decide +kernel
theorem dX12_grow_20 : decode cX12_grow 20 = .ok (.getfield 215, 3) := by decide +kernel
theorem dX12_grow_23 : decode cX12_grow 23 = .ok (.iadd, 1) := by decide +kernel
theorem dX12_grow_24 : decode cX12_grow 24 = .ok (.iconst 1, 1) := by decide +kernel
theorem dX12_grow_25 : decode cX12_grow 25 = .ok (.isub, 1) := by decide +kernel
theorem dX12_grow_26 : decode cX12_grow 26 = .ok (.sipush 4000, 3) := by decide +kernel
theorem dX12_grow_29 : decode cX12_grow 29 = .ok (.if_icmp .le 6, 3) := by decide +kernel
theorem dX12_grow_32 : decode cX12_grow 32 = .ok (.bipush (-4), 2) := by decide +kernel
theorem dX12_grow_34 : decode cX12_grow 34 = .ok (.ireturn, 1) := by decide +kernel
theorem dX12_grow_35 : decode cX12_grow 35 = .ok (.iconst 0, 1) := by decide +kernel
theorem dX12_grow_36 : decode cX12_grow 36 = .ok (.istore_n 1, 1) := by decide +kernel
theorem dX12_grow_37 : decode cX12_grow 37 = .ok (.aload_n 0, 1) := by decide +kernel
theorem dX12_grow_38 : decode cX12_grow 38 = .ok (.getfield 75, 3) := by decide +kernel
theorem dX12_grow_41 : decode cX12_grow 41 = .ok (.iload_n 1, 1) := by decide +kernel
theorem dX12_grow_42 : decode cX12_grow 42 = .ok (.iaload, 1) := by decide +kernel
theorem dX12_grow_43 : decode cX12_grow 43 = .ok (.iconst (-1), 1) := by decide +kernel
theorem dX12_grow_44 : decode cX12_grow 44 = .ok (.if_icmp .eq 13, 3) := by decide +kernel
theorem dX12_grow_47 : decode cX12_grow 47 = .ok (.aload_n 0, 1) := by decide +kernel
theorem dX12_grow_48 : decode cX12_grow 48 = .ok (.getfield 75, 3) := by decide +kernel
theorem dX12_grow_51 : decode cX12_grow 51 = .ok (.iload_n 1, 1) := by decide +kernel
theorem dX12_grow_52 : decode cX12_grow 52 = .ok (.iaload, 1) := by decide +kernel
theorem dX12_grow_53 : decode cX12_grow 53 = .ok (.istore_n 1, 1) := by decide +kernel
theorem dX12_grow_54 : decode cX12_grow 54 = .ok (.goto (-17), 3) := by decide +kernel
theorem dX12_grow_57 : decode cX12_grow 57 = .ok (.iload_n 1, 1) := by decide +kernel
theorem dX12_grow_58 : decode cX12_grow 58 = .ok (.iconst (-1), 1) := by decide +kernel
theorem dX12_grow_59 : decode cX12_grow 59 = .ok (.if_icmp .eq 115, 3) := by decide +kernel
theorem dX12_grow_62 : decode cX12_grow 62 = .ok (.aload_n 0, 1) := by decide +kernel
theorem dX12_grow_63 : decode cX12_grow 63 = .ok (.getfield 84, 3) := by decide +kernel
theorem dX12_grow_66 : decode cX12_grow 66 = .ok (.iload_n 1, 1) := by decide +kernel
theorem dX12_grow_67 : decode cX12_grow 67 = .ok (.aload_n 0, 1) := by decide +kernel
theorem dX12_grow_68 : decode cX12_grow 68 = .ok (.aload_n 0, 1) := by decide +kernel
theorem dX12_grow_69 : decode cX12_grow 69 = .ok (.getfield 66, 3) := by decide +kernel
theorem dX12_grow_72 : decode cX12_grow 72 = .ok (.iload_n 1, 1) := by decide +kernel
theorem dX12_grow_73 : decode cX12_grow 73 = .ok (.iaload, 1) := by decide +kernel
theorem dX12_grow_74 : decode cX12_grow 74 = .ok (.aload_n 0, 1) := by decide +kernel
theorem dX12_grow_75 : decode cX12_grow 75 = .ok (.getfield 69, 3) := by decide +kernel
theorem dX12_grow_78 : decode cX12_grow 78 = .ok (.iload_n 1, 1) := by decide +kernel
theorem dX12_grow_79 : decode cX12_grow 79 = .ok (.iaload, 1) := by decide +kernel
theorem dX12_grow_80 : decode cX12_grow 80 = .ok (.invokevirtual 100, 3) := by decide +kernel
theorem dX12_grow_83 : decode cX12_grow 83 = .ok (.iastore, 1) := by decide +kernel
theorem dX12_grow_84 : decode cX12_grow 84 = .ok (.aload_n 0, 1) := by decide +kernel
theorem dX12_grow_85 : decode cX12_grow 85 = .ok (.getfield 75, 3) := by decide +kernel
theorem dX12_grow_88 : decode cX12_grow 88 = .ok (.iload_n 1, 1) := by decide +kernel
theorem dX12_grow_89 : decode cX12_grow 89 = .ok (.iaload, 1) := by decide +kernel
theorem dX12_grow_90 : decode cX12_grow 90 = .ok (.istore_n 2, 1) := by decide +kernel
theorem dX12_grow_91 : decode cX12_grow 91 = .ok (.iload_n 2, 1) := by decide +kernel
theorem dX12_grow_92 : decode cX12_grow 92 = .ok (.iconst (-1), 1) := by decide +kernel
theorem dX12_grow_93 : decode cX12_grow 93 = .ok (.if_icmp .eq 30, 3) := by decide +kernel
theorem dX12_grow_96 : decode cX12_grow 96 = .ok (.aload_n 0, 1) := by decide +kernel
theorem dX12_grow_97 : decode cX12_grow 97 = .ok (.aload_n 0, 1) := by decide +kernel
theorem dX12_grow_98 : decode cX12_grow 98 = .ok (.getfield 84, 3) := by decide +kernel
theorem dX12_grow_101 : decode cX12_grow 101 = .ok (.iload_n 1, 1) := by decide +kernel
theorem dX12_grow_102 : decode cX12_grow 102 = .ok (.iaload, 1) := by decide +kernel
theorem dX12_grow_103 : decode cX12_grow 103 = .ok (.aload_n 0, 1) := by decide +kernel
theorem dX12_grow_104 : decode cX12_grow 104 = .ok (.getfield 84, 3) := by decide +kernel
theorem dX12_grow_107 : decode cX12_grow 107 = .ok (.iload_n 2, 1) := by decide +kernel
theorem dX12_grow_108 : decode cX12_grow 108 = .ok (.iaload, 1) := by decide +kernel
theorem dX12_grow_109 : decode cX12_grow 109 = .ok (.invokevirtual 108, 3) := by decide +kernel
theorem dX12_grow_112 : decode cX12_grow 112 = .ok (.pop, 1) := by decide +kernel
theorem dX12_grow_113 : decode cX12_grow 113 = .ok (.aload_n 0, 1) := by decide +kernel
theorem dX12_grow_114 : decode cX12_grow 114 = .ok (.getfield 78, 3) := by decide +kernel
theorem dX12_grow_117 : decode cX12_grow 117 = .ok (.iload_n 2, 1) := by decide +kernel
theorem dX12_grow_118 : decode cX12_grow 118 = .ok (.iaload, 1) := by decide +kernel
theorem dX12_grow_119 : decode cX12_grow 119 = .ok (.istore_n 2, 1) := by decide +kernel
theorem dX12_grow_120 : decode cX12_grow 120 = .ok (.goto (-29), 3) := by decide +kernel
theorem dX12_grow_123 : decode cX12_grow 123 = .ok (.aload_n 0, 1) := by decide +kernel
theorem dX12_grow_124 : decode cX12_grow 124 = .ok (.getfield 78, 3) := by decide +kernel
theorem dX12_grow_127 : decode cX12_grow 127 = .ok (.iload_n 1, 1) := by decide +kernel
theorem dX12_grow_128 : decode cX12_grow 128 = .ok (.iaload, 1) := by decide +kernel
theorem dX12_grow_129 : decode cX12_grow 129 = .ok (.iconst (-1), 1) := by decide +kernel
theorem dX12_grow_130 : decode cX12_grow 130 = .ok (.if_icmp .eq 7, 3) := by decide +kernel
theorem dX12_grow_133 : decode cX12_grow 133 = .ok (.iload_n 1, 1) := by decide +kernel
theorem dX12_grow_134 : decode cX12_grow 134 = .ok (.ifCond .ne 13, 3) := by decide +kernel
theorem dX12_grow_137 : decode cX12_grow 137 = .ok (.aload_n 0, 1) := by decide +kernel
theorem dX12_grow_138 : decode cX12_grow 138 = .ok (.getfield 81, 3) := by decide +kernel
theorem dX12_grow_141 : decode cX12_grow 141 = .ok (.iload_n 1, 1) := by decide +kernel
theorem dX12_grow_142 : decode cX12_grow 142 = .ok (.iaload, 1) := by decide +kernel
theorem dX12_grow_143 : decode cX12_grow 143 = .ok (.istore_n 1, 1) := by decide +kernel
theorem dX12_grow_144 : decode cX12_grow 144 = .ok (.goto (-87), 3) := by decide +kernel
theorem dX12_grow_147 : decode cX12_grow 147 = .ok (.aload_n 0, 1) := by decide +kernel
theorem dX12_grow_148 : decode cX12_grow 148 = .ok (.getfield 78, 3) := by decide +kernel
theorem dX12_grow_151 : decode cX12_grow 151 = .ok (.iload_n 1, 1) := by decide +kernel
theorem dX12_grow_152 : decode cX12_grow 152 = .ok (.iaload, 1) := by decide +kernel
theorem dX12_grow_153 : decode cX12_grow 153 = .ok (.istore_n 1, 1) := by decide +kernel
theorem dX12_grow_154 : decode cX12_grow 154 = .ok (.aload_n 0, 1) := by decide +kernel
theorem dX12_grow_155 : decode cX12_grow 155 = .ok (.getfield 75, 3) := by decide +kernel
theorem dX12_grow_158 : decode cX12_grow 158 = .ok (.iload_n 1, 1) := by decide +kernel
theorem dX12_grow_159 : decode cX12_grow 159 = .ok (.iaload, 1) := by decide +kernel
theorem dX12_grow_160 : decode cX12_grow 160 = .ok (.iconst (-1), 1) := by decide +kernel
theorem dX12_grow_161 : decode cX12_grow 161 = .ok (.if_icmp .eq (-104), 3) := by decide +kernel
theorem dX12_grow_164 : decode cX12_grow 164 = .ok (.aload_n 0, 1) := by decide +kernel
theorem dX12_grow_165 : decode cX12_grow 165 = .ok (.getfield 75, 3) := by decide +kernel
theorem dX12_grow_168 : decode cX12_grow 168 = .ok (.iload_n 1, 1) := by decide +kernel
theorem dX12_grow_169 : decode cX12_grow 169 = .ok (.iaload, 1) := by decide +kernel
theorem dX12_grow_170 : decode cX12_grow 170 = .ok (.istore_n 1, 1) := by decide +kernel
theorem dX12_grow_171 : decode cX12_grow 171 = .ok (.goto (-17), 3) := by decide +kernel
theorem dX12_grow_174 : decode cX12_grow 174 = .ok (.aload_n 0, 1) := by decide +kernel
theorem dX12_grow_175 : decode cX12_grow 175 = .ok (.getfield 84, 3) := by decide +kernel
theorem dX12_grow_178 : decode cX12_grow 178 = .ok (.iconst 0, 1) := by decide +kernel
theorem dX12_grow_179 : decode cX12_grow 179 = .ok (.iaload, 1) := by decide +kernel
theorem dX12_grow_180 : decode cX12_grow 180 = .ok (.ireturn, 1) := by decide +kernel
theorem dX12_build_0 : decode cX12_build 0 = .ok (.aload_n 0, 1) := by decide +kernel
theorem dX12_build_1 : decode cX12_build 1 = .ok (.iconst 0, 1) := by decide +kernel
theorem dX12_build_2 : decode cX12_build 2 = .ok (.putfield 215, 3) := by decide +kernel
theorem dX12_build_5 : decode cX12_build 5 = .ok (.ldc 218, 2) := by decide +kernel
theorem dX12_build_7 : decode cX12_build 7 = .ok (.istore 4, 2) := by decide +kernel
theorem dX12_build_9 : decode cX12_build 9 = .ok (.iconst 0, 1) := by decide +kernel
theorem dX12_build_10 : decode cX12_build 10 = .ok (.istore 5, 2) := by decide +kernel
theorem dX12_build_12 : decode cX12_build 12 = .ok (.iload 5, 2) := by decide +kernel
theorem dX12_build_14 : decode cX12_build 14 = .ok (.aload_n 0, 1) := by decide +kernel
theorem dX12_build_15 : decode cX12_build 15 = .ok (.getfield 148, 3) := by decide +kernel
theorem dX12_build_18 : decode cX12_build 18 = .ok (.if_icmp .ge 155, 3) := by decide +kernel
theorem dX12_build_21 : decode cX12_build 21 = .ok (.aload_n 0, 1) := by decide +kernel
theorem dX12_build_22 : decode cX12_build 22 = .ok (.getfield 54, 3) := by decide +kernel
theorem dX12_build_25 : decode cX12_build 25 = .ok (.iload 5, 2) := by decide +kernel
theorem dX12_build_27 : decode cX12_build 27 = .ok (.iaload, 1) := by decide +kernel
theorem dX12_build_28 : decode cX12_build 28 = .ok (.istore 6, 2) := by decide +kernel
theorem dX12_build_30 : decode cX12_build 30 = .ok (.aload_n 0, 1) := by decide +kernel
theorem dX12_build_31 : decode cX12_build 31 = .ok (.getfield 57, 3) := by decide +kernel
theorem dX12_build_34 : decode cX12_build 34 = .ok (.iload 5, 2) := by decide +kernel
theorem dX12_build_36 : decode cX12_build 36 = .ok (.iaload, 1) := by decide +kernel
theorem dX12_build_37 : decode cX12_build 37 = .ok (.istore 7, 2) := by decide +kernel
theorem dX12_build_39 : decode cX12_build 39 = .ok (.iload 7, 2) := by decide +kernel
theorem dX12_build_41 : decode cX12_build 41 = .ok (.iload 4, 2) := by decide +kernel
theorem dX12_build_43 : decode cX12_build 43 = .ok (.if_icmp .le 6, 3) := by decide +kernel
theorem dX12_build_46 : decode cX12_build 46 = .ok (.goto 121, 3) := by decide +kernel
theorem dX12_build_49 : decode cX12_build 49 = .ok (.iload_n 1, 1) := by decide +kernel
theorem dX12_build_50 : decode cX12_build 50 = .ok (.ifCond .eq 34, 3) := by decide +kernel
theorem dX12_build_53 : decode cX12_build 53 = .ok (.iload 5, 2) := by decide +kernel
theorem dX12_build_55 : decode cX12_build 55 = .ok (.ifCond .le 29, 3) := by decide +kernel
theorem dX12_build_58 : decode cX12_build 58 = .ok (.aload_n 0, 1) := by decide +kernel
theorem dX12_build_59 : decode cX12_build 59 = .ok (.getfield 7, 3) := by decide +kernel
theorem dX12_build_62 : decode cX12_build 62 = .ok (.iload 6, 2) := by decide +kernel
theorem dX12_build_64 : decode cX12_build 64 = .ok (.iaload, 1) := by decide +kernel
theorem dX12_build_65 : decode cX12_build 65 = .ok (.ifCond .ne 19, 3) := by decide +kernel
theorem dX12_build_68 : decode cX12_build 68 = .ok (.aload_n 0, 1) := by decide +kernel
theorem dX12_build_69 : decode cX12_build 69 = .ok (.getfield 13, 3) := by decide +kernel
theorem dX12_build_72 : decode cX12_build 72 = .ok (.iload 6, 2) := by decide +kernel
theorem dX12_build_74 : decode cX12_build 74 = .ok (.iaload, 1) := by decide +kernel
theorem dX12_build_75 : decode cX12_build 75 = .ok (.iload_n 2, 1) := by decide +kernel
theorem dX12_build_76 : decode cX12_build 76 = .ok (.if_icmp .le 8, 3) := by decide +kernel
theorem dX12_build_79 : decode cX12_build 79 = .ok (.iload 7, 2) := by decide +kernel
theorem dX12_build_81 : decode cX12_build 81 = .ok (.goto 5, 3) := by decide +kernel
theorem dX12_build_84 : decode cX12_build 84 = .ok (.ldc 218, 2) := by decide +kernel
theorem dX12_build_86 : decode cX12_build 86 = .ok (.istore 4, 2) := by decide +kernel
theorem dX12_build_88 : decode cX12_build 88 = .ok (.iload 4, 2) := by decide +kernel
theorem dX12_build_90 : decode cX12_build 90 = .ok (.iload 7, 2) := by decide +kernel
theorem dX12_build_92 : decode cX12_build 92 = .ok (.if_icmp .ne 6, 3) := by decide +kernel
theorem dX12_build_95 : decode cX12_build 95 = .ok (.goto 72, 3) := by decide +kernel
theorem dX12_build_98 : decode cX12_build 98 = .ok (.aload_n 0, 1) := by decide +kernel
theorem dX12_build_99 : decode cX12_build 99 = .ok (.getfield 215, 3) := by decide +kernel
theorem dX12_build_102 : decode cX12_build 102 = .ok (.sipush 1500, 3) := by decide +kernel
theorem dX12_build_105 : decode cX12_build 105 = .ok (.if_icmp .le 6, 3) := by decide +kernel
theorem dX12_build_108 : decode cX12_build 108 = .ok (.bipush (-4), 2) := by decide +kernel
theorem dX12_build_110 : decode cX12_build 110 = .ok (.ireturn, 1) := by decide +kernel
theorem dX12_build_111 : decode cX12_build 111 = .ok (.aload_n 0, 1) := by decide +kernel
theorem dX12_build_112 : decode cX12_build 112 = .ok (.getfield 87, 3) := by decide +kernel
theorem dX12_build_115 : decode cX12_build 115 = .ok (.iload 7, 2) := by decide +kernel
theorem dX12_build_117 : decode cX12_build 117 = .ok (.aload_n 0, 1) := by decide +kernel
theorem dX12_build_118 : decode cX12_build 118 = .ok (.getfield 215, 3) := by decide +kernel
theorem dX12_build_121 : decode cX12_build 121 = .ok (.iastore, 1) := by decide +kernel
theorem dX12_build_122 : decode cX12_build 122 = .ok (.aload_n 0, 1) := by decide +kernel
theorem dX12_build_123 : decode cX12_build 123 = .ok (.aload_n 0, 1) := by decide +kernel
theorem dX12_build_124 : decode cX12_build 124 = .ok (.getfield 7, 3) := by decide +kernel
theorem dX12_build_127 : decode cX12_build 127 = .ok (.iload 6, 2) := by decide +kernel
theorem dX12_build_129 : decode cX12_build 129 = .ok (.iaload, 1) := by decide +kernel
theorem dX12_build_130 : decode cX12_build 130 = .ok (.aload_n 0, 1) := by decide +kernel
theorem dX12_build_131 : decode cX12_build 131 = .ok (.getfield 13, 3) := by decide +kernel
theorem dX12_build_134 : decode cX12_build 134 = .ok (.iload 6, 2) := by decide +kernel
theorem dX12_build_136 : decode cX12_build 136 = .ok (.iaload, 1) := by decide +kernel
theorem dX12_build_137 : decode cX12_build 137 = .ok (.aload_n 0, 1) := by decide +kernel
theorem dX12_build_138 : decode cX12_build 138 = .ok (.getfield 42, 3) := by decide +kernel
theorem dX12_build_141 : decode cX12_build 141 = .ok (.iload 6, 2) := by decide +kernel
theorem dX12_build_143 : decode cX12_build 143 = .ok (.laload, 1) := by decide +kernel
theorem dX12_build_144 : decode cX12_build 144 = .ok (.iload 7, 2) := by decide +kernel
theorem dX12_build_146 : decode cX12_build 146 = .ok (.iconst 1, 1) := by decide +kernel
theorem dX12_build_147 : decode cX12_build 147 = .ok (.if_icmp .ne 7, 3) := by decide +kernel
theorem dX12_build_150 : decode cX12_build 150 = .ok (.iconst (-1), 1) := by decide +kernel
theorem dX12_build_151 : decode cX12_build 151 = .ok (.goto 12, 3) := by decide +kernel
theorem dX12_build_154 : decode cX12_build 154 = .ok (.aload_n 0, 1) := by decide +kernel
theorem dX12_build_155 : decode cX12_build 155 = .ok (.getfield 87, 3) := by decide +kernel
theorem dX12_build_158 : decode cX12_build 158 = .ok (.iload 7, 2) := by decide +kernel
theorem dX12_build_160 : decode cX12_build 160 = .ok (.iconst 1, 1) := by decide +kernel
theorem dX12_build_161 : decode cX12_build 161 = .ok (.isub, 1) := by decide +kernel
theorem dX12_build_162 : decode cX12_build 162 = .ok (.iaload, 1) := by decide +kernel
theorem dX12_build_163 : decode cX12_build 163 = .ok (.iload_n 3, 1) := by decide +kernel
theorem dX12_build_164 : decode cX12_build 164 = .ok (.invokevirtual 219, 3) := by decide +kernel
theorem dX12_build_167 : decode cX12_build 167 = .ok (.iinc 5 1, 3) := by decide +kernel
theorem dX12_build_170 : decode cX12_build 170 = .ok (.goto (-158), 3) := by decide +kernel
theorem dX12_build_173 : decode cX12_build 173 = .ok (.aload_n 0, 1) := by decide +kernel
theorem dX12_build_174 : decode cX12_build 174 = .ok (.invokevirtual 223, 3) := by decide +kernel
theorem dX12_build_177 : decode cX12_build 177 = .ok (.ireturn, 1) := by decide +kernel
theorem dX12_anew_0 : decode cX12_anew 0 = .ok (.aload_n 0, 1) := by decide +kernel
theorem dX12_anew_1 : decode cX12_anew 1 = .ok (.iload_n 1, 1) := by decide +kernel
theorem dX12_anew_2 : decode cX12_anew 2 = .ok (.invokevirtual 104, 3) := by decide +kernel
theorem dX12_anew_5 : decode cX12_anew 5 = .ok (.ifCond .ne 8, 3) := by decide +kernel
theorem dX12_anew_8 : decode cX12_anew 8 = .ok (.aload_n 0, 1) := by decide +kernel
theorem dX12_anew_9 : decode cX12_anew 9 = .ok (.invokevirtual 182, 3) := by decide +kernel
theorem dX12_anew_12 : decode cX12_anew 12 = .ok (.ireturn, 1) := by decide +kernel
theorem dX12_anew_13 : decode cX12_anew 13 = .ok (.aload_n 0, 1) := by decide +kernel
theorem dX12_anew_14 : decode cX12_anew 14 = .ok (.iload_n 1, 1) := by decide +kernel
theorem dX12_anew_15 : decode cX12_anew 15 = .ok (.invokevirtual 188, 3) := by decide +kernel
theorem dX12_anew_18 : decode cX12_anew 18 = .ok (.aload_n 0, 1) := by decide +kernel
theorem dX12_anew_19 : decode cX12_anew 19 = .ok (.iload_n 1, 1) := by decide +kernel
theorem dX12_anew_20 : decode cX12_anew 20 = .ok (.invokevirtual 185, 3) := by decide +kernel
theorem dX12_anew_23 : decode cX12_anew 23 = .ok (.ifCond .eq 10, 3) := by decide +kernel
theorem dX12_anew_26 : decode cX12_anew 26 = .ok (.aload_n 0, 1) := by decide +kernel
theorem dX12_anew_27 : decode cX12_anew 27 = .ok (.getfield 154, 3) := by decide +kernel
theorem dX12_anew_30 : decode cX12_anew 30 = .ok (.goto 11, 3) := by decide +kernel
theorem dX12_anew_33 : decode cX12_anew 33 = .ok (.aload_n 0, 1) := by decide +kernel
theorem dX12_anew_34 : decode cX12_anew 34 = .ok (.iload_n 2, 1) := by decide +kernel
theorem dX12_anew_35 : decode cX12_anew 35 = .ok (.iload_n 3, 1) := by decide +kernel
theorem dX12_anew_36 : decode cX12_anew 36 = .ok (.iload 4, 2) := by decide +kernel
theorem dX12_anew_38 : decode cX12_anew 38 = .ok (.invokevirtual 226, 3) := by decide +kernel
theorem dX12_anew_41 : decode cX12_anew 41 = .ok (.ireturn, 1) := by decide +kernel
theorem dX12_copy_0 : decode cX12_copy 0 = .ok (.aload_n 0, 1) := by decide +kernel
theorem dX12_copy_1 : decode cX12_copy 1 = .ok (.iload_n 1, 1) := by decide +kernel
theorem dX12_copy_2 : decode cX12_copy 2 = .ok (.iconst 0, 1) := by decide +kernel
theorem dX12_copy_3 : decode cX12_copy 3 = .ok (.iconst 0, 1) := by decide +kernel
theorem dX12_copy_4 : decode cX12_copy 4 = .ok (.iconst 0, 1) := by decide +kernel
theorem dX12_copy_5 : decode cX12_copy 5 = .ok (.invokevirtual 230, 3) := by decide +kernel
theorem dX12_copy_8 : decode cX12_copy 8 = .ok (.ireturn, 1) := by decide +kernel
theorem dX12_thin_0 : decode cX12_thin 0 = .ok (.aload_n 0, 1) := by decide +kernel
theorem dX12_thin_1 : decode cX12_thin 1 = .ok (.iload_n 1, 1) := by decide +kernel
theorem dX12_thin_2 : decode cX12_thin 2 = .ok (.iconst 1, 1) := by decide +kernel
theorem dX12_thin_3 : decode cX12_thin 3 = .ok (.iload_n 2, 1) := by decide +kernel
theorem dX12_thin_4 : decode cX12_thin 4 = .ok (.iconst 0, 1) := by decide +kernel
theorem dX12_thin_5 : decode cX12_thin 5 = .ok (.invokevirtual 230, 3) := by decide +kernel
theorem dX12_thin_8 : decode cX12_thin 8 = .ok (.ireturn, 1) := by decide +kernel
theorem dX12_order_0 : decode cX12_order 0 = .ok (.aload_n 0, 1) := by decide +kernel
theorem dX12_order_1 : decode cX12_order 1 = .ok (.iload_n 1, 1) := by decide +kernel
theorem dX12_order_2 : decode cX12_order 2 = .ok (.iconst 0, 1) := by decide +kernel
theorem dX12_order_3 : decode cX12_order 3 = .ok (.iconst 0, 1) := by decide +kernel
theorem dX12_order_4 : decode cX12_order 4 = .ok (.iconst 1, 1) := by decide +kernel
theorem dX12_order_5 : decode cX12_order 5 = .ok (.invokevirtual 230, 3) := by decide +kernel
theorem dX12_order_8 : decode cX12_order 8 = .ok (.ireturn, 1) := by decide +kernel
theorem dX12_feed_0 : decode cX12_feed 0 = .ok (.iload_n 3, 1) := by decide +kernel
theorem dX12_feed_1 : decode cX12_feed 1 = .ok (.iconst 1, 1) := by decide +kernel
theorem dX12_feed_2 : decode cX12_feed 2 = .ok (.bipush 8, 2) := by decide +kernel
theorem dX12_feed_4 : decode cX12_feed 4 = .ok (.invokestatic 93, 3) := by decide +kernel
theorem dX12_feed_7 : decode cX12_feed 7 = .ok (.ifCond .ne 6, 3) := by decide +kernel
theorem dX12_feed_10 : decode cX12_feed 10 = .ok (.bipush (-2), 2) := by decide +kernel
theorem dX12_feed_12 : decode cX12_feed 12 = .ok (.ireturn, 1) := by decide +kernel
theorem dX12_feed_13 : decode cX12_feed 13 = .ok (.aload_n 0, 1) := by decide +kernel
theorem dX12_feed_14 : decode cX12_feed 14 = .ok (.getfield 212, 3) := by decide +kernel
theorem dX12_feed_17 : decode cX12_feed 17 = .ok (.iload_n 3, 1) := by decide +kernel
theorem dX12_feed_18 : decode cX12_feed 18 = .ok (.iadd, 1) := by decide +kernel
theorem dX12_feed_19 : decode cX12_feed 19 = .ok (.sipush 6000, 3) := by decide +kernel
theorem dX12_feed_22 : decode cX12_feed 22 = .ok (.if_icmp .le 6, 3) := by decide +kernel
theorem dX12_feed_25 : decode cX12_feed 25 = .ok (.bipush (-4), 2) := by decide +kernel
theorem dX12_feed_27 : decode cX12_feed 27 = .ok (.ireturn, 1) := by decide +kernel
theorem dX12_feed_28 : decode cX12_feed 28 = .ok (.iload_n 3, 1) := by decide +kernel
theorem dX12_feed_29 : decode cX12_feed 29 = .ok (.iconst 1, 1) := by decide +kernel
theorem dX12_feed_30 : decode cX12_feed 30 = .ok (.isub, 1) := by decide +kernel
theorem dX12_feed_31 : decode cX12_feed 31 = .ok (.istore 4, 2) := by decide +kernel
theorem dX12_feed_33 : decode cX12_feed 33 = .ok (.iload 4, 2) := by decide +kernel
theorem dX12_feed_35 : decode cX12_feed 35 = .ok (.ifCond .lt 40, 3) := by decide +kernel
theorem dX12_feed_38 : decode cX12_feed 38 = .ok (.aload_n 0, 1) := by decide +kernel
theorem dX12_feed_39 : decode cX12_feed 39 = .ok (.getfield 35, 3) := by decide +kernel
theorem dX12_feed_42 : decode cX12_feed 42 = .ok (.aload_n 0, 1) := by decide +kernel
theorem dX12_feed_43 : decode cX12_feed 43 = .ok (.getfield 212, 3) := by decide +kernel
theorem dX12_feed_46 : decode cX12_feed 46 = .ok (.lload_n 1, 1) := by decide +kernel
theorem dX12_feed_47 : decode cX12_feed 47 = .ok (.bipush 8, 2) := by decide +kernel
theorem dX12_feed_49 : decode cX12_feed 49 = .ok (.iload 4, 2) := by decide +kernel
theorem dX12_feed_51 : decode cX12_feed 51 = .ok (.imul, 1) := by decide +kernel
theorem dX12_feed_52 : decode cX12_feed 52 = .ok (.lshr, 1) := by decide +kernel
theorem dX12_feed_53 : decode cX12_feed 53 = .ok (.ldc2_w 234, 3) := by decide +kernel
theorem dX12_feed_56 : decode cX12_feed 56 = .ok (.land, 1) := by decide +kernel
theorem dX12_feed_57 : decode cX12_feed 57 = .ok (.l2i, 1) := by decide +kernel
theorem dX12_feed_58 : decode cX12_feed 58 = .ok (.iastore, 1) := by decide +kernel
theorem dX12_feed_59 : decode cX12_feed 59 = .ok (.aload_n 0, 1) := by decide +kernel
theorem dX12_feed_60 : decode cX12_feed 60 = .ok (.dup, 1) := by decide +kernel
theorem dX12_feed_61 : decode cX12_feed 61 = .ok (.getfield 212, 3) := by decide +kernel
theorem dX12_feed_64 : decode cX12_feed 64 = .ok (.iconst 1, 1) := by decide +kernel
theorem dX12_feed_65 : decode cX12_feed 65 = .ok (.iadd, 1) := by decide +kernel
theorem dX12_feed_66 : decode cX12_feed 66 = .ok (.putfield 212, 3) := by decide +kernel
theorem dX12_feed_69 : decode cX12_feed 69 = .ok (.iinc 4 (-1), 3) := by decide +kernel
theorem dX12_feed_72 : decode cX12_feed 72 = .ok (.goto (-39), 3) := by decide +kernel
theorem dX12_feed_75 : decode cX12_feed 75 = .ok (.aload_n 0, 1) := by decide +kernel
theorem dX12_feed_76 : decode cX12_feed 76 = .ok (.getfield 212, 3) := by decide +kernel
theorem dX12_feed_79 : decode cX12_feed 79 = .ok (.ireturn, 1) := by decide +kernel
theorem dX12_tear_0 : decode cX12_tear 0 = .ok (.aload_n 0, 1) := by decide +kernel
theorem dX12_tear_1 : decode cX12_tear 1 = .ok (.getfield 212, 3) := by decide +kernel
theorem dX12_tear_4 : decode cX12_tear 4 = .ok (.istore_n 1, 1) := by decide +kernel
theorem dX12_tear_5 : decode cX12_tear 5 = .ok (.aload_n 0, 1) := by decide +kernel
theorem dX12_tear_6 : decode cX12_tear 6 = .ok (.iconst 0, 1) := by decide +kernel
theorem dX12_tear_7 : decode cX12_tear 7 = .ok (.putfield 212, 3) := by decide +kernel
theorem dX12_tear_10 : decode cX12_tear 10 = .ok (.iload_n 1, 1) := by decide +kernel
theorem dX12_tear_11 : decode cX12_tear 11 = .ok (.ireturn, 1) := by decide +kernel
theorem dX12_byteAt_0 : decode cX12_byteAt 0 = .ok (.iload_n 1, 1) := by decide +kernel
theorem dX12_byteAt_1 : decode cX12_byteAt 1 = .ok (.iconst 0, 1) := by decide +kernel
theorem dX12_byteAt_2 : decode cX12_byteAt 2 = .ok (.aload_n 0, 1) := by decide +kernel
theorem dX12_byteAt_3 : decode cX12_byteAt 3 = .ok (.getfield 212, 3) := by decide +kernel
theorem dX12_byteAt_6 : decode cX12_byteAt 6 = .ok (.iconst 1, 1) := by decide +kernel
theorem dX12_byteAt_7 : decode cX12_byteAt 7 = .ok (.isub, 1) := by decide +kernel
theorem dX12_byteAt_8 : decode cX12_byteAt 8 = .ok (.invokestatic 93, 3) := by decide +kernel
theorem dX12_byteAt_11 : decode cX12_byteAt 11 = .ok (.ifCond .eq 12, 3) := by decide +kernel
theorem dX12_byteAt_14 : decode cX12_byteAt 14 = .ok (.aload_n 0, 1) := by decide +kernel
theorem dX12_byteAt_15 : decode cX12_byteAt 15 = .ok (.getfield 35, 3) := by decide +kernel
theorem dX12_byteAt_18 : decode cX12_byteAt 18 = .ok (.iload_n 1, 1) := by decide +kernel
theorem dX12_byteAt_19 : decode cX12_byteAt 19 = .ok (.iaload, 1) := by decide +kernel
theorem dX12_byteAt_20 : decode cX12_byteAt 20 = .ok (.goto 4, 3) := by decide +kernel
theorem dX12_byteAt_23 : decode cX12_byteAt 23 = .ok (.iconst (-1), 1) := by decide +kernel
theorem dX12_byteAt_24 : decode cX12_byteAt 24 = .ok (.ireturn, 1) := by decide +kernel
theorem dX12_now_0 : decode cX12_now 0 = .ok (.aload_n 0, 1) := by decide +kernel
theorem dX12_now_1 : decode cX12_now 1 = .ok (.getfield 236, 3) := by decide +kernel
theorem dX12_now_4 : decode cX12_now 4 = .ok (.aload_n 0, 1) := by decide +kernel
theorem dX12_now_5 : decode cX12_now 5 = .ok (.getfield 212, 3) := by decide +kernel
theorem dX12_now_8 : decode cX12_now 8 = .ok (.if_icmp .ge 15, 3) := by decide +kernel
theorem dX12_now_11 : decode cX12_now 11 = .ok (.aload_n 0, 1) := by decide +kernel
theorem dX12_now_12 : decode cX12_now 12 = .ok (.getfield 35, 3) := by decide +kernel
theorem dX12_now_15 : decode cX12_now 15 = .ok (.aload_n 0, 1) := by decide +kernel
theorem dX12_now_16 : decode cX12_now 16 = .ok (.getfield 236, 3) := by decide +kernel
theorem dX12_now_19 : decode cX12_now 19 = .ok (.iaload, 1) := by decide +kernel
theorem dX12_now_20 : decode cX12_now 20 = .ok (.goto 4, 3) := by decide +kernel
theorem dX12_now_23 : decode cX12_now 23 = .ok (.iconst (-1), 1) := by decide +kernel
theorem dX12_now_24 : decode cX12_now 24 = .ok (.ireturn, 1) := by decide +kernel
theorem dX12_isFigure_0 : decode cX12_isFigure 0 = .ok (.aload_n 0, 1) := by decide +kernel
theorem dX12_isFigure_1 : decode cX12_isFigure 1 = .ok (.invokevirtual 239, 3) := by decide +kernel
theorem dX12_isFigure_4 : decode cX12_isFigure 4 = .ok (.bipush 48, 2) := by decide +kernel
theorem dX12_isFigure_6 : decode cX12_isFigure 6 = .ok (.bipush 57, 2) := by decide +kernel
theorem dX12_isFigure_8 : decode cX12_isFigure 8 = .ok (.invokestatic 93, 3) := by decide +kernel
theorem dX12_isFigure_11 : decode cX12_isFigure 11 = .ok (.ireturn, 1) := by decide +kernel
theorem dX12_figures_0 : decode cX12_figures 0 = .ok (.aload_n 0, 1) := by decide +kernel
theorem dX12_figures_1 : decode cX12_figures 1 = .ok (.getfield 236, 3) := by decide +kernel
theorem dX12_figures_4 : decode cX12_figures 4 = .ok (.istore_n 1, 1) := by decide +kernel
theorem dX12_figures_5 : decode cX12_figures 5 = .ok (.aload_n 0, 1) := by decide +kernel
theorem dX12_figures_6 : decode cX12_figures 6 = .ok (.invokevirtual 239, 3) := by decide +kernel
theorem dX12_figures_9 : decode cX12_figures 9 = .ok (.bipush 45, 2) := by decide +kernel
theorem dX12_figures_11 : decode cX12_figures 11 = .ok (.if_icmp .ne 7, 3) := by decide +kernel
theorem dX12_figures_14 : decode cX12_figures 14 = .ok (.iconst 1, 1) := by decide +kernel
theorem dX12_figures_15 : decode cX12_figures 15 = .ok (.goto 4, 3) := by decide +kernel
theorem dX12_figures_18 : decode cX12_figures 18 = .ok (.iconst 0, 1) := by decide +kernel
theorem dX12_figures_19 : decode cX12_figures 19 = .ok (.istore_n 2, 1) := by decide +kernel
theorem dX12_figures_20 : decode cX12_figures 20 = .ok (.iload_n 2, 1) := by decide +kernel
theorem dX12_figures_21 : decode cX12_figures 21 = .ok (.ifCond .eq 13, 3) := by decide +kernel
theorem dX12_figures_24 : decode cX12_figures 24 = .ok (.aload_n 0, 1) := by decide +kernel
theorem dX12_figures_25 : decode cX12_figures 25 = .ok (.dup, 1) := by decide +kernel
theorem dX12_figures_26 : decode cX12_figures 26 = .ok (.getfield 236, 3) := by decide +kernel
theorem dX12_figures_29 : decode cX12_figures 29 = .ok (.iconst 1, 1) := by decide +kernel
theorem dX12_figures_30 : decode cX12_figures 30 = .ok (.iadd, 1) := by decide +kernel
theorem dX12_figures_31 : decode cX12_figures 31 = .ok (.putfield 236, 3) := by decide +kernel
theorem dX12_figures_34 : decode cX12_figures 34 = .ok (.aload_n 0, 1) := by decide +kernel
theorem dX12_figures_35 : decode cX12_figures 35 = .ok (.invokevirtual 242, 3) := by decide +kernel
theorem dX12_figures_38 : decode cX12_figures 38 = .ok (.ifCond .eq 16, 3) := by decide +kernel
theorem dX12_figures_41 : decode cX12_figures 41 = .ok (.iload_n 2, 1) := by decide +kernel
theorem dX12_figures_42 : decode cX12_figures 42 = .ok (.ifCond .eq 22, 3) := by decide +kernel
theorem dX12_figures_45 : decode cX12_figures 45 = .ok (.aload_n 0, 1) := by decide +kernel
theorem dX12_figures_46 : decode cX12_figures 46 = .ok (.invokevirtual 239, 3) := by decide +kernel
theorem dX12_figures_49 : decode cX12_figures 49 = .ok (.bipush 48, 2) := by decide +kernel
theorem dX12_figures_51 : decode cX12_figures 51 = .ok (.if_icmp .ne 13, 3) := by decide +kernel
theorem dX12_figures_54 : decode cX12_figures 54 = .ok (.aload_n 0, 1) := by decide +kernel
theorem dX12_figures_55 : decode cX12_figures 55 = .ok (.aload_n 0, 1) := by decide +kernel
theorem dX12_figures_56 : decode cX12_figures 56 = .ok (.getfield 236, 3) := by decide +kernel
theorem dX12_figures_59 : decode cX12_figures 59 = .ok (.putfield 246, 3) := by decide +kernel
theorem dX12_figures_62 : decode cX12_figures 62 = .ok (.iconst 0, 1) := by decide +kernel
theorem dX12_figures_63 : decode cX12_figures 63 = .ok (.ireturn, 1) := by decide +kernel
theorem dX12_figures_64 : decode cX12_figures 64 = .ok (.aload_n 0, 1) := by decide +kernel
theorem dX12_figures_65 : decode cX12_figures 65 = .ok (.invokevirtual 239, 3) := by decide +kernel
theorem dX12_figures_68 : decode cX12_figures 68 = .ok (.bipush 48, 2) := by decide +kernel
theorem dX12_figures_70 : decode cX12_figures 70 = .ok (.if_icmp .ne 37, 3) := by decide +kernel
theorem dX12_figures_73 : decode cX12_figures 73 = .ok (.aload_n 0, 1) := by decide +kernel
theorem dX12_figures_74 : decode cX12_figures 74 = .ok (.dup, 1) := by decide +kernel
theorem dX12_figures_75 : decode cX12_figures 75 = .ok (.getfield 236, 3) := by decide +kernel
theorem dX12_figures_78 : decode cX12_figures 78 = .ok (.iconst 1, 1) := by decide +kernel
theorem dX12_figures_79 : decode cX12_figures 79 = .ok (.iadd, 1) := by decide +kernel
theorem dX12_figures_80 : decode cX12_figures 80 = .ok (.putfield 236, 3) := by decide +kernel
theorem dX12_figures_83 : decode cX12_figures 83 = .ok (.aload_n 0, 1) := by decide +kernel
theorem dX12_figures_84 : decode cX12_figures 84 = .ok (.aload_n 0, 1) := by decide +kernel
theorem dX12_figures_85 : decode cX12_figures 85 = .ok (.invokevirtual 242, 3) := by decide +kernel
theorem dX12_figures_88 : decode cX12_figures 88 = .ok (.ifCond .eq 10, 3) := by decide +kernel
theorem dX12_figures_91 : decode cX12_figures 91 = .ok (.aload_n 0, 1) := by decide +kernel
theorem dX12_figures_92 : decode cX12_figures 92 = .ok (.getfield 236, 3) := by decide +kernel
theorem dX12_figures_95 : decode cX12_figures 95 = .ok (.goto 7, 3) := by decide +kernel
theorem dX12_figures_98 : decode cX12_figures 98 = .ok (.aload_n 0, 1) := by decide +kernel
theorem dX12_figures_99 : decode cX12_figures 99 = .ok (.getfield 246, 3) := by decide +kernel
theorem dX12_figures_102 : decode cX12_figures 102 = .ok (.putfield 246, 3) := by decide +kernel
theorem dX12_figures_105 : decode cX12_figures 105 = .ok (.iconst 0, 1) := by decide +kernel
theorem dX12_figures_106 : decode cX12_figures 106 = .ok (.ireturn, 1) := by decide +kernel
theorem dX12_figures_107 : decode cX12_figures 107 = .ok (.lconst 0, 1) := by decide +kernel
theorem dX12_figures_108 : decode cX12_figures 108 = .ok (.lstore_n 3, 1) := by decide +kernel
theorem dX12_figures_109 : decode cX12_figures 109 = .ok (.iconst 0, 1) := by decide +kernel
theorem dX12_figures_110 : decode cX12_figures 110 = .ok (.istore 5, 2) := by decide +kernel
theorem dX12_figures_112 : decode cX12_figures 112 = .ok (.aload_n 0, 1) := by decide +kernel
theorem dX12_figures_113 : decode cX12_figures 113 = .ok (.invokevirtual 242, 3) := by decide +kernel
theorem dX12_figures_116 : decode cX12_figures 116 = .ok (.ifCond .eq 46, 3) := by decide +kernel
theorem dX12_figures_119 : decode cX12_figures 119 = .ok (.iload 5, 2) := by decide +kernel
theorem dX12_figures_121 : decode cX12_figures 121 = .ok (.bipush 11, 2) := by decide +kernel
theorem dX12_figures_123 : decode cX12_figures 123 = .ok (.if_icmp .ge 21, 3) := by decide +kernel
theorem dX12_figures_126 : decode cX12_figures 126 = .ok (.ldc2_w 207, 3) := by decide +kernel
theorem dX12_figures_129 : decode cX12_figures 129 = .ok (.lload_n 3, 1) := by decide +kernel
theorem dX12_figures_130 : decode cX12_figures 130 = .ok (.lmul, 1) := by decide +kernel
theorem dX12_figures_131 : decode cX12_figures 131 = .ok (.aload_n 0, 1) := by decide +kernel
theorem dX12_figures_132 : decode cX12_figures 132 = .ok (.invokevirtual 239, 3) := by decide +kernel
theorem dX12_figures_135 : decode cX12_figures 135 = .ok (.i2l, 1) := by decide +kernel
theorem dX12_figures_136 : decode cX12_figures 136 = .ok (.ladd, 1) := by decide +kernel
theorem dX12_figures_137 : decode cX12_figures 137 = .ok (.ldc2_w 249, 3) := by decide +kernel
theorem dX12_figures_140 : decode cX12_figures 140 = .ok (.lsub, 1) := by decide +kernel
theorem dX12_figures_141 : decode cX12_figures 141 = .ok (.goto 4, 3) := by decide +kernel
theorem dX12_figures_144 : decode cX12_figures 144 = .ok (.lload_n 3, 1) := by decide +kernel
theorem dX12_figures_145 : decode cX12_figures 145 = .ok (.lstore_n 3, 1) := by decide +kernel
theorem dX12_figures_146 : decode cX12_figures 146 = .ok (.iinc 5 1, 3) := by decide +kernel
theorem dX12_figures_149 : decode cX12_figures 149 = .ok (.aload_n 0, 1) := by decide +kernel
theorem dX12_figures_150 : decode cX12_figures 150 = .ok (.dup, 1) := by decide +kernel
theorem dX12_figures_151 : decode cX12_figures 151 = .ok (.getfield 236, 3) := by decide +kernel
theorem dX12_figures_154 : decode cX12_figures 154 = .ok (.iconst 1, 1) := by decide +kernel
theorem dX12_figures_155 : decode cX12_figures 155 = .ok (.iadd, 1) := by decide +kernel
theorem dX12_figures_156 : decode cX12_figures 156 = .ok (.putfield 236, 3) := by decide +kernel
theorem dX12_figures_159 : decode cX12_figures 159 = .ok (.goto (-47), 3) := by decide +kernel
theorem dX12_figures_162 : decode cX12_figures 162 = .ok (.iload_n 2, 1) := by decide +kernel
theorem dX12_figures_163 : decode cX12_figures 163 = .ok (.ifCond .eq 8, 3) := by decide +kernel
theorem dX12_figures_166 : decode cX12_figures 166 = .ok (.lload_n 3, 1) := by decide +kernel
theorem dX12_figures_167 : decode cX12_figures 167 = .ok (.lneg, 1) := by decide +kernel
theorem dX12_figures_168 : decode cX12_figures 168 = .ok (.goto 4, 3) := by decide +kernel
theorem dX12_figures_171 : decode cX12_figures 171 = .ok (.lload_n 3, 1) := by decide +kernel
theorem dX12_figures_172 : decode cX12_figures 172 = .ok (.lstore_n 3, 1) := by decide +kernel
theorem dX12_figures_173 : decode cX12_figures 173 = .ok (.iload 5, 2) := by decide +kernel
theorem dX12_figures_175 : decode cX12_figures 175 = .ok (.bipush 10, 2) := by decide +kernel
theorem dX12_figures_177 : decode cX12_figures 177 = .ok (.if_icmp .gt 11, 3) := by decide +kernel
theorem dX12_figures_180 : decode cX12_figures 180 = .ok (.lload_n 3, 1) := by decide +kernel
theorem dX12_figures_181 : decode cX12_figures 181 = .ok (.lload_n 3, 1) := by decide +kernel
theorem dX12_figures_182 : decode cX12_figures 182 = .ok (.l2i, 1) := by decide +kernel
theorem dX12_figures_183 : decode cX12_figures 183 = .ok (.i2l, 1) := by decide +kernel
theorem dX12_figures_184 : decode cX12_figures 184 = .ok (.lcmp, 1) := by decide +kernel
theorem dX12_figures_185 : decode cX12_figures 185 = .ok (.ifCond .eq 8, 3) := by decide +kernel
theorem dX12_figures_188 : decode cX12_figures 188 = .ok (.aload_n 0, 1) := by decide +kernel
theorem dX12_figures_189 : decode cX12_figures 189 = .ok (.iload_n 1, 1) := by decide +kernel
theorem dX12_figures_190 : decode cX12_figures 190 = .ok (.putfield 246, 3) := by decide +kernel
theorem dX12_figures_193 : decode cX12_figures 193 = .ok (.lload_n 3, 1) := by decide +kernel
theorem dX12_figures_194 : decode cX12_figures 194 = .ok (.l2i, 1) := by decide +kernel
theorem dX12_figures_195 : decode cX12_figures 195 = .ok (.ireturn, 1) := by decide +kernel
theorem dX12_readOne_0 : decode cX12_readOne 0 = .ok (.aload_n 0, 1) := by decide +kernel
theorem dX12_readOne_1 : decode cX12_readOne 1 = .ok (.invokevirtual 239, 3) := by decide +kernel
theorem dX12_readOne_4 : decode cX12_readOne 4 = .ok (.bipush 97, 2) := by decide +kernel
theorem dX12_readOne_6 : decode cX12_readOne 6 = .ok (.isub, 1) := by decide +kernel
theorem dX12_readOne_7 : decode cX12_readOne 7 = .ok (.istore_n 2, 1) := by decide +kernel
theorem dX12_readOne_8 : decode cX12_readOne 8 = .ok (.iload_n 2, 1) := by decide +kernel
theorem dX12_readOne_9 : decode cX12_readOne 9 = .ok (.iconst 0, 1) := by decide +kernel
theorem dX12_readOne_10 : decode cX12_readOne 10 = .ok (.bipush 11, 2) := by decide +kernel
theorem dX12_readOne_12 : decode cX12_readOne 12 = .ok (.invokestatic 93, 3) := by decide +kernel
theorem dX12_readOne_15 : decode cX12_readOne 15 = .ok (.ifCond .ne 12, 3) := by decide +kernel
theorem dX12_readOne_18 : decode cX12_readOne 18 = .ok (.aload_n 0, 1) := by decide +kernel
theorem dX12_readOne_19 : decode cX12_readOne 19 = .ok (.aload_n 0, 1) := by decide +kernel
theorem dX12_readOne_20 : decode cX12_readOne 20 = .ok (.getfield 236, 3) := by decide +kernel
theorem dX12_readOne_23 : decode cX12_readOne 23 = .ok (.putfield 246, 3) := by decide +kernel
theorem dX12_readOne_26 : decode cX12_readOne 26 = .ok (.return_, 1) := by decide +kernel
theorem dX12_readOne_27 : decode cX12_readOne 27 = .ok (.aload_n 0, 1) := by decide +kernel
theorem dX12_readOne_28 : decode cX12_readOne 28 = .ok (.dup, 1) := by decide +kernel
theorem dX12_readOne_29 : decode cX12_readOne 29 = .ok (.getfield 236, 3) := by decide +kernel
theorem dX12_readOne_32 : decode cX12_readOne 32 = .ok (.iconst 1, 1) := by decide +kernel
theorem dX12_readOne_33 : decode cX12_readOne 33 = .ok (.iadd, 1) := by decide +kernel
theorem dX12_readOne_34 : decode cX12_readOne 34 = .ok (.putfield 236, 3) := by decide +kernel
theorem dX12_readOne_37 : decode cX12_readOne 37 = .ok (.aload_n 0, 1) := by decide +kernel
theorem dX12_readOne_38 : decode cX12_readOne 38 = .ok (.invokevirtual 251, 3) := by decide +kernel
theorem dX12_readOne_41 : decode cX12_readOne 41 = .ok (.istore_n 3, 1) := by decide +kernel
theorem dX12_readOne_42 : decode cX12_readOne 42 = .ok (.aload_n 0, 1) := by decide +kernel
theorem dX12_readOne_43 : decode cX12_readOne 43 = .ok (.getfield 246, 3) := by decide +kernel
theorem dX12_readOne_46 : decode cX12_readOne 46 = .ok (.iconst (-1), 1) := by decide +kernel
theorem dX12_readOne_47 : decode cX12_readOne 47 = .ok (.if_icmp .ne 12, 3) := by decide +kernel
theorem dX12_readOne_50 : decode cX12_readOne 50 = .ok (.aload_n 0, 1) := by decide +kernel
theorem dX12_readOne_51 : decode cX12_readOne 51 = .ok (.iload_n 2, 1) := by decide +kernel
theorem dX12_readOne_52 : decode cX12_readOne 52 = .ok (.iload_n 3, 1) := by decide +kernel
theorem dX12_readOne_53 : decode cX12_readOne 53 = .ok (.lconst 0, 1) := by decide +kernel
theorem dX12_readOne_54 : decode cX12_readOne 54 = .ok (.iload_n 1, 1) := by decide +kernel
theorem dX12_readOne_55 : decode cX12_readOne 55 = .ok (.iconst 0, 1) := by decide +kernel
theorem dX12_readOne_56 : decode cX12_readOne 56 = .ok (.invokevirtual 219, 3) := by decide +kernel
theorem dX12_readOne_59 : decode cX12_readOne 59 = .ok (.return_, 1) := by decide +kernel
theorem dX12_read_0 : decode cX12_read 0 = .ok (.aload_n 0, 1) := by decide +kernel
theorem dX12_read_1 : decode cX12_read 1 = .ok (.iconst 0, 1) := by decide +kernel
theorem dX12_read_2 : decode cX12_read 2 = .ok (.putfield 215, 3) := by decide +kernel
theorem dX12_read_5 : decode cX12_read 5 = .ok (.aload_n 0, 1) := by decide +kernel
theorem dX12_read_6 : decode cX12_read 6 = .ok (.iconst 0, 1) := by decide +kernel
theorem dX12_read_7 : decode cX12_read 7 = .ok (.putfield 236, 3) := by decide +kernel
theorem dX12_read_10 : decode cX12_read 10 = .ok (.aload_n 0, 1) := by decide +kernel
theorem dX12_read_11 : decode cX12_read 11 = .ok (.iconst (-1), 1) := by decide +kernel
theorem dX12_read_12 : decode cX12_read 12 = .ok (.putfield 246, 3) := by decide +kernel
theorem dX12_read_15 : decode cX12_read 15 = .ok (.aload_n 0, 1) := by decide +kernel
theorem dX12_read_16 : decode cX12_read 16 = .ok (.iconst (-1), 1) := by decide +kernel
theorem dX12_read_17 : decode cX12_read 17 = .ok (.invokevirtual 254, 3) := by decide +kernel
theorem dX12_read_20 : decode cX12_read 20 = .ok (.iconst 0, 1) := by decide +kernel
theorem dX12_read_21 : decode cX12_read 21 = .ok (.istore_n 1, 1) := by decide +kernel
theorem dX12_read_22 : decode cX12_read 22 = .ok (.iconst 1, 1) := by decide +kernel
theorem dX12_read_23 : decode cX12_read 23 = .ok (.istore_n 2, 1) := by decide +kernel
theorem dX12_read_24 : decode cX12_read 24 = .ok (.aload_n 0, 1) := by decide +kernel
theorem dX12_read_25 : decode cX12_read 25 = .ok (.getfield 246, 3) := by decide +kernel
theorem dX12_read_28 : decode cX12_read 28 = .ok (.iconst (-1), 1) := by decide +kernel
theorem dX12_read_29 : decode cX12_read 29 = .ok (.if_icmp .ne 141, 3) := by decide +kernel
theorem dX12_read_32 : decode cX12_read 32 = .ok (.iload_n 1, 1) := by decide +kernel
theorem dX12_read_33 : decode cX12_read 33 = .ok (.ifCond .ne 16, 3) := by decide +kernel
theorem dX12_read_36 : decode cX12_read 36 = .ok (.iload_n 2, 1) := by decide +kernel
theorem dX12_read_37 : decode cX12_read 37 = .ok (.ifCond .eq 133, 3) := by decide +kernel
theorem dX12_read_40 : decode cX12_read 40 = .ok (.aload_n 0, 1) := by decide +kernel
theorem dX12_read_41 : decode cX12_read 41 = .ok (.invokevirtual 239, 3) := by decide +kernel
theorem dX12_read_44 : decode cX12_read 44 = .ok (.bipush 40, 2) := by decide +kernel
theorem dX12_read_46 : decode cX12_read 46 = .ok (.if_icmp .ne 124, 3) := by decide +kernel
theorem dX12_read_49 : decode cX12_read 49 = .ok (.iload_n 2, 1) := by decide +kernel
theorem dX12_read_50 : decode cX12_read 50 = .ok (.ifCond .eq 37, 3) := by decide +kernel
theorem dX12_read_53 : decode cX12_read 53 = .ok (.aload_n 0, 1) := by decide +kernel
theorem dX12_read_54 : decode cX12_read 54 = .ok (.invokevirtual 239, 3) := by decide +kernel
theorem dX12_read_57 : decode cX12_read 57 = .ok (.bipush 40, 2) := by decide +kernel
theorem dX12_read_59 : decode cX12_read 59 = .ok (.if_icmp .ne 28, 3) := by decide +kernel
theorem dX12_read_62 : decode cX12_read 62 = .ok (.aload_n 0, 1) := by decide +kernel
theorem dX12_read_63 : decode cX12_read 63 = .ok (.dup, 1) := by decide +kernel
theorem dX12_read_64 : decode cX12_read 64 = .ok (.getfield 236, 3) := by decide +kernel
theorem dX12_read_67 : decode cX12_read 67 = .ok (.iconst 1, 1) := by decide +kernel
theorem dX12_read_68 : decode cX12_read 68 = .ok (.iadd, 1) := by decide +kernel
theorem dX12_read_69 : decode cX12_read 69 = .ok (.putfield 236, 3) := by decide +kernel
theorem dX12_read_72 : decode cX12_read 72 = .ok (.iload_n 1, 1) := by decide +kernel
theorem dX12_read_73 : decode cX12_read 73 = .ok (.istore_n 3, 1) := by decide +kernel
theorem dX12_read_74 : decode cX12_read 74 = .ok (.aload_n 0, 1) := by decide +kernel
theorem dX12_read_75 : decode cX12_read 75 = .ok (.getfield 215, 3) := by decide +kernel
theorem dX12_read_78 : decode cX12_read 78 = .ok (.istore_n 1, 1) := by decide +kernel
theorem dX12_read_79 : decode cX12_read 79 = .ok (.aload_n 0, 1) := by decide +kernel
theorem dX12_read_80 : decode cX12_read 80 = .ok (.iload_n 3, 1) := by decide +kernel
theorem dX12_read_81 : decode cX12_read 81 = .ok (.invokevirtual 254, 3) := by decide +kernel
theorem dX12_read_84 : decode cX12_read 84 = .ok (.goto (-60), 3) := by decide +kernel
theorem dX12_read_87 : decode cX12_read 87 = .ok (.aload_n 0, 1) := by decide +kernel
theorem dX12_read_88 : decode cX12_read 88 = .ok (.invokevirtual 239, 3) := by decide +kernel
theorem dX12_read_91 : decode cX12_read 91 = .ok (.bipush 44, 2) := by decide +kernel
theorem dX12_read_93 : decode cX12_read 93 = .ok (.if_icmp .ne 35, 3) := by decide +kernel
theorem dX12_read_96 : decode cX12_read 96 = .ok (.aload_n 0, 1) := by decide +kernel
theorem dX12_read_97 : decode cX12_read 97 = .ok (.dup, 1) := by decide +kernel
theorem dX12_read_98 : decode cX12_read 98 = .ok (.getfield 236, 3) := by decide +kernel
theorem dX12_read_101 : decode cX12_read 101 = .ok (.iconst 1, 1) := by decide +kernel
theorem dX12_read_102 : decode cX12_read 102 = .ok (.iadd, 1) := by decide +kernel
theorem dX12_read_103 : decode cX12_read 103 = .ok (.putfield 236, 3) := by decide +kernel
theorem dX12_read_106 : decode cX12_read 106 = .ok (.aload_n 0, 1) := by decide +kernel
theorem dX12_read_107 : decode cX12_read 107 = .ok (.getfield 81, 3) := by decide +kernel
theorem dX12_read_110 : decode cX12_read 110 = .ok (.iload_n 1, 1) := by decide +kernel
theorem dX12_read_111 : decode cX12_read 111 = .ok (.iaload, 1) := by decide +kernel
theorem dX12_read_112 : decode cX12_read 112 = .ok (.istore_n 3, 1) := by decide +kernel
theorem dX12_read_113 : decode cX12_read 113 = .ok (.aload_n 0, 1) := by decide +kernel
theorem dX12_read_114 : decode cX12_read 114 = .ok (.getfield 215, 3) := by decide +kernel
theorem dX12_read_117 : decode cX12_read 117 = .ok (.istore_n 1, 1) := by decide +kernel
theorem dX12_read_118 : decode cX12_read 118 = .ok (.iconst 1, 1) := by decide +kernel
theorem dX12_read_119 : decode cX12_read 119 = .ok (.istore_n 2, 1) := by decide +kernel
theorem dX12_read_120 : decode cX12_read 120 = .ok (.aload_n 0, 1) := by decide +kernel
theorem dX12_read_121 : decode cX12_read 121 = .ok (.iload_n 3, 1) := by decide +kernel
theorem dX12_read_122 : decode cX12_read 122 = .ok (.invokevirtual 254, 3) := by decide +kernel
theorem dX12_read_125 : decode cX12_read 125 = .ok (.goto (-101), 3) := by decide +kernel
theorem dX12_read_128 : decode cX12_read 128 = .ok (.aload_n 0, 1) := by decide +kernel
theorem dX12_read_129 : decode cX12_read 129 = .ok (.invokevirtual 239, 3) := by decide +kernel
theorem dX12_read_132 : decode cX12_read 132 = .ok (.bipush 41, 2) := by decide +kernel
theorem dX12_read_134 : decode cX12_read 134 = .ok (.if_icmp .ne 25, 3) := by decide +kernel
theorem dX12_read_137 : decode cX12_read 137 = .ok (.aload_n 0, 1) := by decide +kernel
theorem dX12_read_138 : decode cX12_read 138 = .ok (.dup, 1) := by decide +kernel
theorem dX12_read_139 : decode cX12_read 139 = .ok (.getfield 236, 3) := by decide +kernel
theorem dX12_read_142 : decode cX12_read 142 = .ok (.iconst 1, 1) := by decide +kernel
theorem dX12_read_143 : decode cX12_read 143 = .ok (.iadd, 1) := by decide +kernel
theorem dX12_read_144 : decode cX12_read 144 = .ok (.putfield 236, 3) := by decide +kernel
theorem dX12_read_147 : decode cX12_read 147 = .ok (.aload_n 0, 1) := by decide +kernel
theorem dX12_read_148 : decode cX12_read 148 = .ok (.getfield 81, 3) := by decide +kernel
theorem dX12_read_151 : decode cX12_read 151 = .ok (.iload_n 1, 1) := by decide +kernel
theorem dX12_read_152 : decode cX12_read 152 = .ok (.iaload, 1) := by decide +kernel
theorem dX12_read_153 : decode cX12_read 153 = .ok (.istore_n 1, 1) := by decide +kernel
theorem dX12_read_154 : decode cX12_read 154 = .ok (.iconst 0, 1) := by decide +kernel
theorem dX12_read_155 : decode cX12_read 155 = .ok (.istore_n 2, 1) := by decide +kernel
theorem dX12_read_156 : decode cX12_read 156 = .ok (.goto (-132), 3) := by decide +kernel
theorem dX12_read_159 : decode cX12_read 159 = .ok (.aload_n 0, 1) := by decide +kernel
theorem dX12_read_160 : decode cX12_read 160 = .ok (.aload_n 0, 1) := by decide +kernel
theorem dX12_read_161 : decode cX12_read 161 = .ok (.getfield 236, 3) := by decide +kernel
theorem dX12_read_164 : decode cX12_read 164 = .ok (.putfield 246, 3) := by decide +kernel
theorem dX12_read_167 : decode cX12_read 167 = .ok (.goto (-143), 3) := by decide +kernel
theorem dX12_read_170 : decode cX12_read 170 = .ok (.aload_n 0, 1) := by decide +kernel
theorem dX12_read_171 : decode cX12_read 171 = .ok (.getfield 246, 3) := by decide +kernel
theorem dX12_read_174 : decode cX12_read 174 = .ok (.iconst (-1), 1) := by decide +kernel
theorem dX12_read_175 : decode cX12_read 175 = .ok (.if_icmp .ne 22, 3) := by decide +kernel
theorem dX12_read_178 : decode cX12_read 178 = .ok (.aload_n 0, 1) := by decide +kernel
theorem dX12_read_179 : decode cX12_read 179 = .ok (.getfield 236, 3) := by decide +kernel
theorem dX12_read_182 : decode cX12_read 182 = .ok (.aload_n 0, 1) := by decide +kernel
theorem dX12_read_183 : decode cX12_read 183 = .ok (.getfield 212, 3) := by decide +kernel
theorem dX12_read_186 : decode cX12_read 186 = .ok (.if_icmp .ge 11, 3) := by decide +kernel
theorem dX12_read_189 : decode cX12_read 189 = .ok (.aload_n 0, 1) := by decide +kernel
theorem dX12_read_190 : decode cX12_read 190 = .ok (.aload_n 0, 1) := by decide +kernel
theorem dX12_read_191 : decode cX12_read 191 = .ok (.getfield 236, 3) := by decide +kernel
theorem dX12_read_194 : decode cX12_read 194 = .ok (.putfield 246, 3) := by decide +kernel
theorem dX12_read_197 : decode cX12_read 197 = .ok (.aload_n 0, 1) := by decide +kernel
theorem dX12_read_198 : decode cX12_read 198 = .ok (.getfield 246, 3) := by decide +kernel
theorem dX12_read_201 : decode cX12_read 201 = .ok (.iconst (-1), 1) := by decide +kernel
theorem dX12_read_202 : decode cX12_read 202 = .ok (.if_icmp .eq 13, 3) := by decide +kernel
theorem dX12_read_205 : decode cX12_read 205 = .ok (.bipush (-10), 2) := by decide +kernel
theorem dX12_read_207 : decode cX12_read 207 = .ok (.aload_n 0, 1) := by decide +kernel
theorem dX12_read_208 : decode cX12_read 208 = .ok (.getfield 246, 3) := by decide +kernel
theorem dX12_read_211 : decode cX12_read 211 = .ok (.isub, 1) := by decide +kernel
theorem dX12_read_212 : decode cX12_read 212 = .ok (.goto 7, 3) := by decide +kernel
theorem dX12_read_215 : decode cX12_read 215 = .ok (.aload_n 0, 1) := by decide +kernel
theorem dX12_read_216 : decode cX12_read 216 = .ok (.invokevirtual 223, 3) := by decide +kernel
theorem dX12_read_219 : decode cX12_read 219 = .ok (.ireturn, 1) := by decide +kernel
theorem dX12_answer_0 : decode cX12_answer 0 = .ok (.aload_n 0, 1) := by decide +kernel
theorem dX12_answer_1 : decode cX12_answer 1 = .ok (.getfield 154, 3) := by decide +kernel
theorem dX12_answer_4 : decode cX12_answer 4 = .ok (.ireturn, 1) := by decide +kernel
theorem dX12_count_0 : decode cX12_count 0 = .ok (.iload_n 1, 1) := by decide +kernel
theorem dX12_count_1 : decode cX12_count 1 = .ok (.tableswitch 60 0 4 #[35, 40, 45, 50, 55], 35) := by decide +kernel
theorem dX12_count_36 : decode cX12_count 36 = .ok (.aload_n 0, 1) := by decide +kernel
theorem dX12_count_37 : decode cX12_count 37 = .ok (.getfield 90, 3) := by decide +kernel
theorem dX12_count_40 : decode cX12_count 40 = .ok (.ireturn, 1) := by decide +kernel
theorem dX12_count_41 : decode cX12_count 41 = .ok (.aload_n 0, 1) := by decide +kernel
theorem dX12_count_42 : decode cX12_count 42 = .ok (.getfield 97, 3) := by decide +kernel
theorem dX12_count_45 : decode cX12_count 45 = .ok (.ireturn, 1) := by decide +kernel
theorem dX12_count_46 : decode cX12_count 46 = .ok (.aload_n 0, 1) := by decide +kernel
theorem dX12_count_47 : decode cX12_count 47 = .ok (.getfield 212, 3) := by decide +kernel
theorem dX12_count_50 : decode cX12_count 50 = .ok (.ireturn, 1) := by decide +kernel
theorem dX12_count_51 : decode cX12_count 51 = .ok (.aload_n 0, 1) := by decide +kernel
theorem dX12_count_52 : decode cX12_count 52 = .ok (.getfield 157, 3) := by decide +kernel
theorem dX12_count_55 : decode cX12_count 55 = .ok (.ireturn, 1) := by decide +kernel
theorem dX12_count_56 : decode cX12_count 56 = .ok (.aload_n 0, 1) := by decide +kernel
theorem dX12_count_57 : decode cX12_count 57 = .ok (.getfield 160, 3) := by decide +kernel
theorem dX12_count_60 : decode cX12_count 60 = .ok (.ireturn, 1) := by decide +kernel
theorem dX12_count_61 : decode cX12_count 61 = .ok (.bipush (-2), 2) := by decide +kernel
theorem dX12_count_63 : decode cX12_count 63 = .ok (.ireturn, 1) := by decide +kernel
end
section
theorem dL_law_0 : decode cL_law 0 = .ok (.new 7, 3) := by decide +kernel
theorem dL_law_3 : decode cL_law 3 = .ok (.dup, 1) := by decide +kernel
theorem dL_law_4 : decode cL_law 4 = .ok (.invokespecial 9, 3) := by decide +kernel
theorem dL_law_7 : decode cL_law 7 = .ok (.astore_n 1, 1) := by decide +kernel
theorem dL_law_8 : decode cL_law 8 = .ok (.new 10, 3) := by decide +kernel
theorem dL_law_11 : decode cL_law 11 = .ok (.dup, 1) := by decide +kernel
theorem dL_law_12 : decode cL_law 12 = .ok (.invokespecial 12, 3) := by decide +kernel
theorem dL_law_15 : decode cL_law 15 = .ok (.astore_n 2, 1) := by decide +kernel
theorem dL_law_16 : decode cL_law 16 = .ok (.iconst 0, 1) := by decide +kernel
theorem dL_law_17 : decode cL_law 17 = .ok (.istore_n 3, 1) := by decide +kernel
theorem dL_law_18 : decode cL_law 18 = .ok (.iload_n 3, 1) := by decide +kernel
theorem dL_law_19 : decode cL_law 19 = .ok (.aload_n 0, 1) := by decide +kernel
theorem dL_law_20 : decode cL_law 20 = .ok (.arraylength, 1) := by decide +kernel
theorem dL_law_21 : decode cL_law 21 = .ok (.bipush 6, 2) := by decide +kernel
theorem dL_law_23 : decode cL_law 23 = .ok (.isub, 1) := by decide +kernel
theorem dL_law_24 : decode cL_law 24 = .ok (.if_icmp .gt 820, 3) := by decide +kernel
theorem dL_law_27 : decode cL_law 27 = .ok (.aload_n 0, 1) := by decide +kernel
theorem dL_law_28 : decode cL_law 28 = .ok (.iload_n 3, 1) := by decide +kernel
theorem dL_law_29 : decode cL_law 29 = .ok (.iaload, 1) := by decide +kernel
theorem dL_law_30 : decode cL_law 30 = .ok (.bipush 31, 2) := by decide +kernel
theorem dL_law_32 : decode cL_law 32 = .ok (.iand, 1) := by decide +kernel
theorem dL_law_33 : decode cL_law 33 = .ok (.tableswitch 805 0 23 #[111, 144, 177, 240, 263, 286, 319, 352, 375, 398, 422, 446, 479, 502, 545, 578, 601, 634, 657, 720, 733, 756, 769, 782], 111) := by decide +kernel
theorem dL_law_144 : decode cL_law 144 = .ok (.aload_n 1, 1) := by decide +kernel
theorem dL_law_145 : decode cL_law 145 = .ok (.aload_n 0, 1) := by decide +kernel
theorem dL_law_146 : decode cL_law 146 = .ok (.iload_n 3, 1) := by decide +kernel
theorem dL_law_147 : decode cL_law 147 = .ok (.iconst 1, 1) := by decide +kernel
theorem dL_law_148 : decode cL_law 148 = .ok (.iadd, 1) := by decide +kernel
theorem dL_law_149 : decode cL_law 149 = .ok (.iaload, 1) := by decide +kernel
theorem dL_law_150 : decode cL_law 150 = .ok (.aload_n 0, 1) := by decide +kernel
theorem dL_law_151 : decode cL_law 151 = .ok (.iload_n 3, 1) := by decide +kernel
theorem dL_law_152 : decode cL_law 152 = .ok (.iconst 2, 1) := by decide +kernel
theorem dL_law_153 : decode cL_law 153 = .ok (.iadd, 1) := by decide +kernel
theorem dL_law_154 : decode cL_law 154 = .ok (.iaload, 1) := by decide +kernel
theorem dL_law_155 : decode cL_law 155 = .ok (.invokevirtual 13, 3) := by decide +kernel
theorem dL_law_158 : decode cL_law 158 = .ok (.aload_n 2, 1) := by decide +kernel
theorem dL_law_159 : decode cL_law 159 = .ok (.aload_n 0, 1) := by decide +kernel
theorem dL_law_160 : decode cL_law 160 = .ok (.iload_n 3, 1) := by decide +kernel
theorem dL_law_161 : decode cL_law 161 = .ok (.iconst 1, 1) := by decide +kernel
theorem dL_law_162 : decode cL_law 162 = .ok (.iadd, 1) := by decide +kernel
theorem dL_law_163 : decode cL_law 163 = .ok (.iaload, 1) := by decide +kernel
theorem dL_law_164 : decode cL_law 164 = .ok (.aload_n 0, 1) := by decide +kernel
theorem dL_law_165 : decode cL_law 165 = .ok (.iload_n 3, 1) := by decide +kernel
theorem dL_law_166 : decode cL_law 166 = .ok (.iconst 2, 1) := by decide +kernel
theorem dL_law_167 : decode cL_law 167 = .ok (.iadd, 1) := by decide +kernel
theorem dL_law_168 : decode cL_law 168 = .ok (.iaload, 1) := by decide +kernel
theorem dL_law_169 : decode cL_law 169 = .ok (.invokevirtual 17, 3) := by decide +kernel
theorem dL_law_172 : decode cL_law 172 = .ok (.if_icmp .eq 666, 3) := by decide +kernel
theorem dL_law_175 : decode cL_law 175 = .ok (.iconst 0, 1) := by decide +kernel
theorem dL_law_176 : decode cL_law 176 = .ok (.ireturn, 1) := by decide +kernel
theorem dL_law_177 : decode cL_law 177 = .ok (.aload_n 1, 1) := by decide +kernel
theorem dL_law_178 : decode cL_law 178 = .ok (.aload_n 0, 1) := by decide +kernel
theorem dL_law_179 : decode cL_law 179 = .ok (.iload_n 3, 1) := by decide +kernel
theorem dL_law_180 : decode cL_law 180 = .ok (.iconst 1, 1) := by decide +kernel
theorem dL_law_181 : decode cL_law 181 = .ok (.iadd, 1) := by decide +kernel
theorem dL_law_182 : decode cL_law 182 = .ok (.iaload, 1) := by decide +kernel
theorem dL_law_183 : decode cL_law 183 = .ok (.aload_n 0, 1) := by decide +kernel
theorem dL_law_184 : decode cL_law 184 = .ok (.iload_n 3, 1) := by decide +kernel
theorem dL_law_185 : decode cL_law 185 = .ok (.iconst 2, 1) := by decide +kernel
theorem dL_law_186 : decode cL_law 186 = .ok (.iadd, 1) := by decide +kernel
theorem dL_law_187 : decode cL_law 187 = .ok (.iaload, 1) := by decide +kernel
theorem dL_law_188 : decode cL_law 188 = .ok (.invokevirtual 18, 3) := by decide +kernel
theorem dL_law_191 : decode cL_law 191 = .ok (.aload_n 2, 1) := by decide +kernel
theorem dL_law_192 : decode cL_law 192 = .ok (.aload_n 0, 1) := by decide +kernel
theorem dL_law_193 : decode cL_law 193 = .ok (.iload_n 3, 1) := by decide +kernel
theorem dL_law_194 : decode cL_law 194 = .ok (.iconst 1, 1) := by decide +kernel
theorem dL_law_195 : decode cL_law 195 = .ok (.iadd, 1) := by decide +kernel
theorem dL_law_196 : decode cL_law 196 = .ok (.iaload, 1) := by decide +kernel
theorem dL_law_197 : decode cL_law 197 = .ok (.aload_n 0, 1) := by decide +kernel
theorem dL_law_198 : decode cL_law 198 = .ok (.iload_n 3, 1) := by decide +kernel
theorem dL_law_199 : decode cL_law 199 = .ok (.iconst 2, 1) := by decide +kernel
theorem dL_law_200 : decode cL_law 200 = .ok (.iadd, 1) := by decide +kernel
theorem dL_law_201 : decode cL_law 201 = .ok (.iaload, 1) := by decide +kernel
theorem dL_law_202 : decode cL_law 202 = .ok (.invokevirtual 21, 3) := by decide +kernel
theorem dL_law_205 : decode cL_law 205 = .ok (.if_icmp .eq 633, 3) := by decide +kernel
theorem dL_law_208 : decode cL_law 208 = .ok (.iconst 0, 1) := by decide +kernel
theorem dL_law_209 : decode cL_law 209 = .ok (.ireturn, 1) := by decide +kernel
theorem dL_law_210 : decode cL_law 210 = .ok (.aload_n 1, 1) := by decide +kernel
theorem dL_law_211 : decode cL_law 211 = .ok (.aload_n 0, 1) := by decide +kernel
theorem dL_law_212 : decode cL_law 212 = .ok (.iload_n 3, 1) := by decide +kernel
theorem dL_law_213 : decode cL_law 213 = .ok (.iconst 1, 1) := by decide +kernel
theorem dL_law_214 : decode cL_law 214 = .ok (.iadd, 1) := by decide +kernel
theorem dL_law_215 : decode cL_law 215 = .ok (.iaload, 1) := by decide +kernel
theorem dL_law_216 : decode cL_law 216 = .ok (.aload_n 0, 1) := by decide +kernel
theorem dL_law_217 : decode cL_law 217 = .ok (.iload_n 3, 1) := by decide +kernel
theorem dL_law_218 : decode cL_law 218 = .ok (.iconst 2, 1) := by decide +kernel
theorem dL_law_219 : decode cL_law 219 = .ok (.iadd, 1) := by decide +kernel
theorem dL_law_220 : decode cL_law 220 = .ok (.iaload, 1) := by decide +kernel
theorem dL_law_221 : decode cL_law 221 = .ok (.aload_n 0, 1) := by decide +kernel
theorem dL_law_222 : decode cL_law 222 = .ok (.iload_n 3, 1) := by decide +kernel
theorem dL_law_223 : decode cL_law 223 = .ok (.iconst 3, 1) := by decide +kernel
theorem dL_law_224 : decode cL_law 224 = .ok (.iadd, 1) := by decide +kernel
theorem dL_law_225 : decode cL_law 225 = .ok (.iaload, 1) := by decide +kernel
theorem dL_law_226 : decode cL_law 226 = .ok (.aload_n 0, 1) := by decide +kernel
theorem dL_law_227 : decode cL_law 227 = .ok (.iload_n 3, 1) := by decide +kernel
theorem dL_law_228 : decode cL_law 228 = .ok (.iconst 4, 1) := by decide +kernel
theorem dL_law_229 : decode cL_law 229 = .ok (.iadd, 1) := by decide +kernel
theorem dL_law_230 : decode cL_law 230 = .ok (.iaload, 1) := by decide +kernel
theorem dL_law_231 : decode cL_law 231 = .ok (.aload_n 0, 1) := by decide +kernel
theorem dL_law_232 : decode cL_law 232 = .ok (.iload_n 3, 1) := by decide +kernel
theorem dL_law_233 : decode cL_law 233 = .ok (.iconst 5, 1) := by decide +kernel
theorem dL_law_234 : decode cL_law 234 = .ok (.iadd, 1) := by decide +kernel
theorem dL_law_235 : decode cL_law 235 = .ok (.iaload, 1) := by decide +kernel
theorem dL_law_236 : decode cL_law 236 = .ok (.invokevirtual 22, 3) := by decide +kernel
theorem dL_law_239 : decode cL_law 239 = .ok (.aload_n 2, 1) := by decide +kernel
theorem dL_law_240 : decode cL_law 240 = .ok (.aload_n 0, 1) := by decide +kernel
theorem dL_law_241 : decode cL_law 241 = .ok (.iload_n 3, 1) := by decide +kernel
theorem dL_law_242 : decode cL_law 242 = .ok (.iconst 1, 1) := by decide +kernel
theorem dL_law_243 : decode cL_law 243 = .ok (.iadd, 1) := by decide +kernel
theorem dL_law_244 : decode cL_law 244 = .ok (.iaload, 1) := by decide +kernel
theorem dL_law_245 : decode cL_law 245 = .ok (.aload_n 0, 1) := by decide +kernel
theorem dL_law_246 : decode cL_law 246 = .ok (.iload_n 3, 1) := by decide +kernel
theorem dL_law_247 : decode cL_law 247 = .ok (.iconst 2, 1) := by decide +kernel
theorem dL_law_248 : decode cL_law 248 = .ok (.iadd, 1) := by decide +kernel
theorem dL_law_249 : decode cL_law 249 = .ok (.iaload, 1) := by decide +kernel
theorem dL_law_250 : decode cL_law 250 = .ok (.aload_n 0, 1) := by decide +kernel
theorem dL_law_251 : decode cL_law 251 = .ok (.iload_n 3, 1) := by decide +kernel
theorem dL_law_252 : decode cL_law 252 = .ok (.iconst 3, 1) := by decide +kernel
theorem dL_law_253 : decode cL_law 253 = .ok (.iadd, 1) := by decide +kernel
theorem dL_law_254 : decode cL_law 254 = .ok (.iaload, 1) := by decide +kernel
theorem dL_law_255 : decode cL_law 255 = .ok (.aload_n 0, 1) := by decide +kernel
theorem dL_law_256 : decode cL_law 256 = .ok (.iload_n 3, 1) := by decide +kernel
theorem dL_law_257 : decode cL_law 257 = .ok (.iconst 4, 1) := by decide +kernel
theorem dL_law_258 : decode cL_law 258 = .ok (.iadd, 1) := by decide +kernel
theorem dL_law_259 : decode cL_law 259 = .ok (.iaload, 1) := by decide +kernel
theorem dL_law_260 : decode cL_law 260 = .ok (.aload_n 0, 1) := by decide +kernel
theorem dL_law_261 : decode cL_law 261 = .ok (.iload_n 3, 1) := by decide +kernel
theorem dL_law_262 : decode cL_law 262 = .ok (.iconst 5, 1) := by decide +kernel
theorem dL_law_263 : decode cL_law 263 = .ok (.iadd, 1) := by decide +kernel
theorem dL_law_264 : decode cL_law 264 = .ok (.iaload, 1) := by decide +kernel
theorem dL_law_265 : decode cL_law 265 = .ok (.invokevirtual 26, 3) := by decide +kernel
theorem dL_law_268 : decode cL_law 268 = .ok (.if_icmp .eq 570, 3) := by decide +kernel
theorem dL_law_271 : decode cL_law 271 = .ok (.iconst 0, 1) := by decide +kernel
theorem dL_law_272 : decode cL_law 272 = .ok (.ireturn, 1) := by decide +kernel
theorem dL_law_273 : decode cL_law 273 = .ok (.aload_n 1, 1) := by decide +kernel
theorem dL_law_274 : decode cL_law 274 = .ok (.aload_n 0, 1) := by decide +kernel
theorem dL_law_275 : decode cL_law 275 = .ok (.iload_n 3, 1) := by decide +kernel
theorem dL_law_276 : decode cL_law 276 = .ok (.iconst 1, 1) := by decide +kernel
theorem dL_law_277 : decode cL_law 277 = .ok (.iadd, 1) := by decide +kernel
theorem dL_law_278 : decode cL_law 278 = .ok (.iaload, 1) := by decide +kernel
theorem dL_law_279 : decode cL_law 279 = .ok (.invokevirtual 27, 3) := by decide +kernel
theorem dL_law_282 : decode cL_law 282 = .ok (.aload_n 2, 1) := by decide +kernel
theorem dL_law_283 : decode cL_law 283 = .ok (.aload_n 0, 1) := by decide +kernel
theorem dL_law_284 : decode cL_law 284 = .ok (.iload_n 3, 1) := by decide +kernel
theorem dL_law_285 : decode cL_law 285 = .ok (.iconst 1, 1) := by decide +kernel
theorem dL_law_286 : decode cL_law 286 = .ok (.iadd, 1) := by decide +kernel
theorem dL_law_287 : decode cL_law 287 = .ok (.iaload, 1) := by decide +kernel
theorem dL_law_288 : decode cL_law 288 = .ok (.invokevirtual 31, 3) := by decide +kernel
theorem dL_law_291 : decode cL_law 291 = .ok (.if_icmp .eq 547, 3) := by decide +kernel
theorem dL_law_294 : decode cL_law 294 = .ok (.iconst 0, 1) := by decide +kernel
theorem dL_law_295 : decode cL_law 295 = .ok (.ireturn, 1) := by decide +kernel
theorem dL_law_296 : decode cL_law 296 = .ok (.aload_n 1, 1) := by decide +kernel
theorem dL_law_297 : decode cL_law 297 = .ok (.aload_n 0, 1) := by decide +kernel
theorem dL_law_298 : decode cL_law 298 = .ok (.iload_n 3, 1) := by decide +kernel
theorem dL_law_299 : decode cL_law 299 = .ok (.iconst 1, 1) := by decide +kernel
theorem dL_law_300 : decode cL_law 300 = .ok (.iadd, 1) := by decide +kernel
theorem dL_law_301 : decode cL_law 301 = .ok (.iaload, 1) := by decide +kernel
theorem dL_law_302 : decode cL_law 302 = .ok (.invokevirtual 32, 3) := by decide +kernel
theorem dL_law_305 : decode cL_law 305 = .ok (.aload_n 2, 1) := by decide +kernel
theorem dL_law_306 : decode cL_law 306 = .ok (.aload_n 0, 1) := by decide +kernel
theorem dL_law_307 : decode cL_law 307 = .ok (.iload_n 3, 1) := by decide +kernel
theorem dL_law_308 : decode cL_law 308 = .ok (.iconst 1, 1) := by decide +kernel
theorem dL_law_309 : decode cL_law 309 = .ok (.iadd, 1) := by decide +kernel
theorem dL_law_310 : decode cL_law 310 = .ok (.iaload, 1) := by decide +kernel
theorem dL_law_311 : decode cL_law 311 = .ok (.invokevirtual 35, 3) := by decide +kernel
theorem dL_law_314 : decode cL_law 314 = .ok (.if_icmp .eq 524, 3) := by decide +kernel
theorem dL_law_317 : decode cL_law 317 = .ok (.iconst 0, 1) := by decide +kernel
theorem dL_law_318 : decode cL_law 318 = .ok (.ireturn, 1) := by decide +kernel
theorem dL_law_319 : decode cL_law 319 = .ok (.aload_n 1, 1) := by decide +kernel
theorem dL_law_320 : decode cL_law 320 = .ok (.aload_n 0, 1) := by decide +kernel
theorem dL_law_321 : decode cL_law 321 = .ok (.iload_n 3, 1) := by decide +kernel
theorem dL_law_322 : decode cL_law 322 = .ok (.iconst 1, 1) := by decide +kernel
theorem dL_law_323 : decode cL_law 323 = .ok (.iadd, 1) := by decide +kernel
theorem dL_law_324 : decode cL_law 324 = .ok (.iaload, 1) := by decide +kernel
theorem dL_law_325 : decode cL_law 325 = .ok (.aload_n 0, 1) := by decide +kernel
theorem dL_law_326 : decode cL_law 326 = .ok (.iload_n 3, 1) := by decide +kernel
theorem dL_law_327 : decode cL_law 327 = .ok (.iconst 2, 1) := by decide +kernel
theorem dL_law_328 : decode cL_law 328 = .ok (.iadd, 1) := by decide +kernel
theorem dL_law_329 : decode cL_law 329 = .ok (.iaload, 1) := by decide +kernel
theorem dL_law_330 : decode cL_law 330 = .ok (.invokevirtual 36, 3) := by decide +kernel
theorem dL_law_333 : decode cL_law 333 = .ok (.aload_n 2, 1) := by decide +kernel
theorem dL_law_334 : decode cL_law 334 = .ok (.aload_n 0, 1) := by decide +kernel
theorem dL_law_335 : decode cL_law 335 = .ok (.iload_n 3, 1) := by decide +kernel
theorem dL_law_336 : decode cL_law 336 = .ok (.iconst 1, 1) := by decide +kernel
theorem dL_law_337 : decode cL_law 337 = .ok (.iadd, 1) := by decide +kernel
theorem dL_law_338 : decode cL_law 338 = .ok (.iaload, 1) := by decide +kernel
theorem dL_law_339 : decode cL_law 339 = .ok (.aload_n 0, 1) := by decide +kernel
theorem dL_law_340 : decode cL_law 340 = .ok (.iload_n 3, 1) := by decide +kernel
theorem dL_law_341 : decode cL_law 341 = .ok (.iconst 2, 1) := by decide +kernel
theorem dL_law_342 : decode cL_law 342 = .ok (.iadd, 1) := by decide +kernel
theorem dL_law_343 : decode cL_law 343 = .ok (.iaload, 1) := by decide +kernel
theorem dL_law_344 : decode cL_law 344 = .ok (.invokevirtual 39, 3) := by decide +kernel
theorem dL_law_347 : decode cL_law 347 = .ok (.if_icmp .eq 491, 3) := by decide +kernel
theorem dL_law_350 : decode cL_law 350 = .ok (.iconst 0, 1) := by decide +kernel
theorem dL_law_351 : decode cL_law 351 = .ok (.ireturn, 1) := by decide +kernel
theorem dL_law_352 : decode cL_law 352 = .ok (.aload_n 1, 1) := by decide +kernel
theorem dL_law_353 : decode cL_law 353 = .ok (.aload_n 0, 1) := by decide +kernel
theorem dL_law_354 : decode cL_law 354 = .ok (.iload_n 3, 1) := by decide +kernel
theorem dL_law_355 : decode cL_law 355 = .ok (.iconst 1, 1) := by decide +kernel
theorem dL_law_356 : decode cL_law 356 = .ok (.iadd, 1) := by decide +kernel
theorem dL_law_357 : decode cL_law 357 = .ok (.iaload, 1) := by decide +kernel
theorem dL_law_358 : decode cL_law 358 = .ok (.aload_n 0, 1) := by decide +kernel
theorem dL_law_359 : decode cL_law 359 = .ok (.iload_n 3, 1) := by decide +kernel
theorem dL_law_360 : decode cL_law 360 = .ok (.iconst 2, 1) := by decide +kernel
theorem dL_law_361 : decode cL_law 361 = .ok (.iadd, 1) := by decide +kernel
theorem dL_law_362 : decode cL_law 362 = .ok (.iaload, 1) := by decide +kernel
theorem dL_law_363 : decode cL_law 363 = .ok (.invokevirtual 40, 3) := by decide +kernel
theorem dL_law_366 : decode cL_law 366 = .ok (.aload_n 2, 1) := by decide +kernel
theorem dL_law_367 : decode cL_law 367 = .ok (.aload_n 0, 1) := by decide +kernel
theorem dL_law_368 : decode cL_law 368 = .ok (.iload_n 3, 1) := by decide +kernel
theorem dL_law_369 : decode cL_law 369 = .ok (.iconst 1, 1) := by decide +kernel
theorem dL_law_370 : decode cL_law 370 = .ok (.iadd, 1) := by decide +kernel
theorem dL_law_371 : decode cL_law 371 = .ok (.iaload, 1) := by decide +kernel
theorem dL_law_372 : decode cL_law 372 = .ok (.aload_n 0, 1) := by decide +kernel
theorem dL_law_373 : decode cL_law 373 = .ok (.iload_n 3, 1) := by decide +kernel
theorem dL_law_374 : decode cL_law 374 = .ok (.iconst 2, 1) := by decide +kernel
theorem dL_law_375 : decode cL_law 375 = .ok (.iadd, 1) := by decide +kernel
theorem dL_law_376 : decode cL_law 376 = .ok (.iaload, 1) := by decide +kernel
theorem dL_law_377 : decode cL_law 377 = .ok (.invokevirtual 43, 3) := by decide +kernel
theorem dL_law_380 : decode cL_law 380 = .ok (.if_icmp .eq 458, 3) := by decide +kernel
theorem dL_law_383 : decode cL_law 383 = .ok (.iconst 0, 1) := by decide +kernel
theorem dL_law_384 : decode cL_law 384 = .ok (.ireturn, 1) := by decide +kernel
theorem dL_law_385 : decode cL_law 385 = .ok (.aload_n 1, 1) := by decide +kernel
theorem dL_law_386 : decode cL_law 386 = .ok (.aload_n 0, 1) := by decide +kernel
theorem dL_law_387 : decode cL_law 387 = .ok (.iload_n 3, 1) := by decide +kernel
theorem dL_law_388 : decode cL_law 388 = .ok (.iconst 1, 1) := by decide +kernel
theorem dL_law_389 : decode cL_law 389 = .ok (.iadd, 1) := by decide +kernel
theorem dL_law_390 : decode cL_law 390 = .ok (.iaload, 1) := by decide +kernel
theorem dL_law_391 : decode cL_law 391 = .ok (.invokevirtual 44, 3) := by decide +kernel
theorem dL_law_394 : decode cL_law 394 = .ok (.aload_n 2, 1) := by decide +kernel
theorem dL_law_395 : decode cL_law 395 = .ok (.aload_n 0, 1) := by decide +kernel
theorem dL_law_396 : decode cL_law 396 = .ok (.iload_n 3, 1) := by decide +kernel
theorem dL_law_397 : decode cL_law 397 = .ok (.iconst 1, 1) := by decide +kernel
theorem dL_law_398 : decode cL_law 398 = .ok (.iadd, 1) := by decide +kernel
theorem dL_law_399 : decode cL_law 399 = .ok (.iaload, 1) := by decide +kernel
theorem dL_law_400 : decode cL_law 400 = .ok (.invokevirtual 47, 3) := by decide +kernel
theorem dL_law_403 : decode cL_law 403 = .ok (.if_icmp .eq 435, 3) := by decide +kernel
theorem dL_law_406 : decode cL_law 406 = .ok (.iconst 0, 1) := by decide +kernel
theorem dL_law_407 : decode cL_law 407 = .ok (.ireturn, 1) := by decide +kernel
theorem dL_law_408 : decode cL_law 408 = .ok (.aload_n 1, 1) := by decide +kernel
theorem dL_law_409 : decode cL_law 409 = .ok (.aload_n 0, 1) := by decide +kernel
theorem dL_law_410 : decode cL_law 410 = .ok (.iload_n 3, 1) := by decide +kernel
theorem dL_law_411 : decode cL_law 411 = .ok (.iconst 1, 1) := by decide +kernel
theorem dL_law_412 : decode cL_law 412 = .ok (.iadd, 1) := by decide +kernel
theorem dL_law_413 : decode cL_law 413 = .ok (.iaload, 1) := by decide +kernel
theorem dL_law_414 : decode cL_law 414 = .ok (.invokevirtual 48, 3) := by decide +kernel
theorem dL_law_417 : decode cL_law 417 = .ok (.aload_n 2, 1) := by decide +kernel
theorem dL_law_418 : decode cL_law 418 = .ok (.aload_n 0, 1) := by decide +kernel
theorem dL_law_419 : decode cL_law 419 = .ok (.iload_n 3, 1) := by decide +kernel
theorem dL_law_420 : decode cL_law 420 = .ok (.iconst 1, 1) := by decide +kernel
theorem dL_law_421 : decode cL_law 421 = .ok (.iadd, 1) := by decide +kernel
theorem dL_law_422 : decode cL_law 422 = .ok (.iaload, 1) := by decide +kernel
theorem dL_law_423 : decode cL_law 423 = .ok (.invokevirtual 51, 3) := by decide +kernel
theorem dL_law_426 : decode cL_law 426 = .ok (.if_icmp .eq 412, 3) := by decide +kernel
theorem dL_law_429 : decode cL_law 429 = .ok (.iconst 0, 1) := by decide +kernel
theorem dL_law_430 : decode cL_law 430 = .ok (.ireturn, 1) := by decide +kernel
theorem dL_law_431 : decode cL_law 431 = .ok (.aload_n 1, 1) := by decide +kernel
theorem dL_law_432 : decode cL_law 432 = .ok (.aload_n 0, 1) := by decide +kernel
theorem dL_law_433 : decode cL_law 433 = .ok (.iload_n 3, 1) := by decide +kernel
theorem dL_law_434 : decode cL_law 434 = .ok (.iconst 1, 1) := by decide +kernel
theorem dL_law_435 : decode cL_law 435 = .ok (.iadd, 1) := by decide +kernel
theorem dL_law_436 : decode cL_law 436 = .ok (.iaload, 1) := by decide +kernel
theorem dL_law_437 : decode cL_law 437 = .ok (.invokevirtual 52, 3) := by decide +kernel
theorem dL_law_440 : decode cL_law 440 = .ok (.aload_n 2, 1) := by decide +kernel
theorem dL_law_441 : decode cL_law 441 = .ok (.aload_n 0, 1) := by decide +kernel
theorem dL_law_442 : decode cL_law 442 = .ok (.iload_n 3, 1) := by decide +kernel
theorem dL_law_443 : decode cL_law 443 = .ok (.iconst 1, 1) := by decide +kernel
theorem dL_law_444 : decode cL_law 444 = .ok (.iadd, 1) := by decide +kernel
theorem dL_law_445 : decode cL_law 445 = .ok (.iaload, 1) := by decide +kernel
theorem dL_law_446 : decode cL_law 446 = .ok (.invokevirtual 56, 3) := by decide +kernel
theorem dL_law_449 : decode cL_law 449 = .ok (.lcmp, 1) := by decide +kernel
theorem dL_law_450 : decode cL_law 450 = .ok (.ifCond .eq 388, 3) := by decide +kernel
theorem dL_law_453 : decode cL_law 453 = .ok (.iconst 0, 1) := by decide +kernel
theorem dL_law_454 : decode cL_law 454 = .ok (.ireturn, 1) := by decide +kernel
theorem dL_law_455 : decode cL_law 455 = .ok (.aload_n 1, 1) := by decide +kernel
theorem dL_law_456 : decode cL_law 456 = .ok (.aload_n 0, 1) := by decide +kernel
theorem dL_law_457 : decode cL_law 457 = .ok (.iload_n 3, 1) := by decide +kernel
theorem dL_law_458 : decode cL_law 458 = .ok (.iconst 1, 1) := by decide +kernel
theorem dL_law_459 : decode cL_law 459 = .ok (.iadd, 1) := by decide +kernel
theorem dL_law_460 : decode cL_law 460 = .ok (.iaload, 1) := by decide +kernel
theorem dL_law_461 : decode cL_law 461 = .ok (.invokevirtual 57, 3) := by decide +kernel
theorem dL_law_464 : decode cL_law 464 = .ok (.aload_n 2, 1) := by decide +kernel
theorem dL_law_465 : decode cL_law 465 = .ok (.aload_n 0, 1) := by decide +kernel
theorem dL_law_466 : decode cL_law 466 = .ok (.iload_n 3, 1) := by decide +kernel
theorem dL_law_467 : decode cL_law 467 = .ok (.iconst 1, 1) := by decide +kernel
theorem dL_law_468 : decode cL_law 468 = .ok (.iadd, 1) := by decide +kernel
theorem dL_law_469 : decode cL_law 469 = .ok (.iaload, 1) := by decide +kernel
theorem dL_law_470 : decode cL_law 470 = .ok (.invokevirtual 60, 3) := by decide +kernel
theorem dL_law_473 : decode cL_law 473 = .ok (.lcmp, 1) := by decide +kernel
theorem dL_law_474 : decode cL_law 474 = .ok (.ifCond .eq 364, 3) := by decide +kernel
theorem dL_law_477 : decode cL_law 477 = .ok (.iconst 0, 1) := by decide +kernel
theorem dL_law_478 : decode cL_law 478 = .ok (.ireturn, 1) := by decide +kernel
theorem dL_law_479 : decode cL_law 479 = .ok (.aload_n 1, 1) := by decide +kernel
theorem dL_law_480 : decode cL_law 480 = .ok (.aload_n 0, 1) := by decide +kernel
theorem dL_law_481 : decode cL_law 481 = .ok (.iload_n 3, 1) := by decide +kernel
theorem dL_law_482 : decode cL_law 482 = .ok (.iconst 1, 1) := by decide +kernel
theorem dL_law_483 : decode cL_law 483 = .ok (.iadd, 1) := by decide +kernel
theorem dL_law_484 : decode cL_law 484 = .ok (.iaload, 1) := by decide +kernel
theorem dL_law_485 : decode cL_law 485 = .ok (.aload_n 0, 1) := by decide +kernel
theorem dL_law_486 : decode cL_law 486 = .ok (.iload_n 3, 1) := by decide +kernel
theorem dL_law_487 : decode cL_law 487 = .ok (.iconst 2, 1) := by decide +kernel
theorem dL_law_488 : decode cL_law 488 = .ok (.iadd, 1) := by decide +kernel
theorem dL_law_489 : decode cL_law 489 = .ok (.iaload, 1) := by decide +kernel
theorem dL_law_490 : decode cL_law 490 = .ok (.invokevirtual 61, 3) := by decide +kernel
theorem dL_law_493 : decode cL_law 493 = .ok (.aload_n 2, 1) := by decide +kernel
theorem dL_law_494 : decode cL_law 494 = .ok (.aload_n 0, 1) := by decide +kernel
theorem dL_law_495 : decode cL_law 495 = .ok (.iload_n 3, 1) := by decide +kernel
theorem dL_law_496 : decode cL_law 496 = .ok (.iconst 1, 1) := by decide +kernel
theorem dL_law_497 : decode cL_law 497 = .ok (.iadd, 1) := by decide +kernel
theorem dL_law_498 : decode cL_law 498 = .ok (.iaload, 1) := by decide +kernel
theorem dL_law_499 : decode cL_law 499 = .ok (.aload_n 0, 1) := by decide +kernel
theorem dL_law_500 : decode cL_law 500 = .ok (.iload_n 3, 1) := by decide +kernel
theorem dL_law_501 : decode cL_law 501 = .ok (.iconst 2, 1) := by decide +kernel
theorem dL_law_502 : decode cL_law 502 = .ok (.iadd, 1) := by decide +kernel
theorem dL_law_503 : decode cL_law 503 = .ok (.iaload, 1) := by decide +kernel
theorem dL_law_504 : decode cL_law 504 = .ok (.invokevirtual 64, 3) := by decide +kernel
theorem dL_law_507 : decode cL_law 507 = .ok (.if_icmp .eq 331, 3) := by decide +kernel
theorem dL_law_510 : decode cL_law 510 = .ok (.iconst 0, 1) := by decide +kernel
theorem dL_law_511 : decode cL_law 511 = .ok (.ireturn, 1) := by decide +kernel
theorem dL_law_512 : decode cL_law 512 = .ok (.aload_n 1, 1) := by decide +kernel
theorem dL_law_513 : decode cL_law 513 = .ok (.aload_n 0, 1) := by decide +kernel
theorem dL_law_514 : decode cL_law 514 = .ok (.iload_n 3, 1) := by decide +kernel
theorem dL_law_515 : decode cL_law 515 = .ok (.iconst 1, 1) := by decide +kernel
theorem dL_law_516 : decode cL_law 516 = .ok (.iadd, 1) := by decide +kernel
theorem dL_law_517 : decode cL_law 517 = .ok (.iaload, 1) := by decide +kernel
theorem dL_law_518 : decode cL_law 518 = .ok (.invokevirtual 65, 3) := by decide +kernel
theorem dL_law_521 : decode cL_law 521 = .ok (.aload_n 2, 1) := by decide +kernel
theorem dL_law_522 : decode cL_law 522 = .ok (.aload_n 0, 1) := by decide +kernel
theorem dL_law_523 : decode cL_law 523 = .ok (.iload_n 3, 1) := by decide +kernel
theorem dL_law_524 : decode cL_law 524 = .ok (.iconst 1, 1) := by decide +kernel
theorem dL_law_525 : decode cL_law 525 = .ok (.iadd, 1) := by decide +kernel
theorem dL_law_526 : decode cL_law 526 = .ok (.iaload, 1) := by decide +kernel
theorem dL_law_527 : decode cL_law 527 = .ok (.invokevirtual 68, 3) := by decide +kernel
theorem dL_law_530 : decode cL_law 530 = .ok (.if_icmp .eq 308, 3) := by decide +kernel
theorem dL_law_533 : decode cL_law 533 = .ok (.iconst 0, 1) := by decide +kernel
theorem dL_law_534 : decode cL_law 534 = .ok (.ireturn, 1) := by decide +kernel
theorem dL_law_535 : decode cL_law 535 = .ok (.aload_n 1, 1) := by decide +kernel
theorem dL_law_536 : decode cL_law 536 = .ok (.aload_n 0, 1) := by decide +kernel
theorem dL_law_537 : decode cL_law 537 = .ok (.iload_n 3, 1) := by decide +kernel
theorem dL_law_538 : decode cL_law 538 = .ok (.iconst 1, 1) := by decide +kernel
theorem dL_law_539 : decode cL_law 539 = .ok (.iadd, 1) := by decide +kernel
theorem dL_law_540 : decode cL_law 540 = .ok (.iaload, 1) := by decide +kernel
theorem dL_law_541 : decode cL_law 541 = .ok (.aload_n 0, 1) := by decide +kernel
theorem dL_law_542 : decode cL_law 542 = .ok (.iload_n 3, 1) := by decide +kernel
theorem dL_law_543 : decode cL_law 543 = .ok (.iconst 2, 1) := by decide +kernel
theorem dL_law_544 : decode cL_law 544 = .ok (.iadd, 1) := by decide +kernel
theorem dL_law_545 : decode cL_law 545 = .ok (.iaload, 1) := by decide +kernel
theorem dL_law_546 : decode cL_law 546 = .ok (.aload_n 0, 1) := by decide +kernel
theorem dL_law_547 : decode cL_law 547 = .ok (.iload_n 3, 1) := by decide +kernel
theorem dL_law_548 : decode cL_law 548 = .ok (.iconst 3, 1) := by decide +kernel
theorem dL_law_549 : decode cL_law 549 = .ok (.iadd, 1) := by decide +kernel
theorem dL_law_550 : decode cL_law 550 = .ok (.iaload, 1) := by decide +kernel
theorem dL_law_551 : decode cL_law 551 = .ok (.invokevirtual 69, 3) := by decide +kernel
theorem dL_law_554 : decode cL_law 554 = .ok (.aload_n 2, 1) := by decide +kernel
theorem dL_law_555 : decode cL_law 555 = .ok (.aload_n 0, 1) := by decide +kernel
theorem dL_law_556 : decode cL_law 556 = .ok (.iload_n 3, 1) := by decide +kernel
theorem dL_law_557 : decode cL_law 557 = .ok (.iconst 1, 1) := by decide +kernel
theorem dL_law_558 : decode cL_law 558 = .ok (.iadd, 1) := by decide +kernel
theorem dL_law_559 : decode cL_law 559 = .ok (.iaload, 1) := by decide +kernel
theorem dL_law_560 : decode cL_law 560 = .ok (.aload_n 0, 1) := by decide +kernel
theorem dL_law_561 : decode cL_law 561 = .ok (.iload_n 3, 1) := by decide +kernel
theorem dL_law_562 : decode cL_law 562 = .ok (.iconst 2, 1) := by decide +kernel
theorem dL_law_563 : decode cL_law 563 = .ok (.iadd, 1) := by decide +kernel
theorem dL_law_564 : decode cL_law 564 = .ok (.iaload, 1) := by decide +kernel
theorem dL_law_565 : decode cL_law 565 = .ok (.aload_n 0, 1) := by decide +kernel
theorem dL_law_566 : decode cL_law 566 = .ok (.iload_n 3, 1) := by decide +kernel
theorem dL_law_567 : decode cL_law 567 = .ok (.iconst 3, 1) := by decide +kernel
theorem dL_law_568 : decode cL_law 568 = .ok (.iadd, 1) := by decide +kernel
theorem dL_law_569 : decode cL_law 569 = .ok (.iaload, 1) := by decide +kernel
theorem dL_law_570 : decode cL_law 570 = .ok (.invokevirtual 73, 3) := by decide +kernel
theorem dL_law_573 : decode cL_law 573 = .ok (.if_icmp .eq 265, 3) := by decide +kernel
theorem dL_law_576 : decode cL_law 576 = .ok (.iconst 0, 1) := by decide +kernel
theorem dL_law_577 : decode cL_law 577 = .ok (.ireturn, 1) := by decide +kernel
theorem dL_law_578 : decode cL_law 578 = .ok (.aload_n 1, 1) := by decide +kernel
theorem dL_law_579 : decode cL_law 579 = .ok (.aload_n 0, 1) := by decide +kernel
theorem dL_law_580 : decode cL_law 580 = .ok (.iload_n 3, 1) := by decide +kernel
theorem dL_law_581 : decode cL_law 581 = .ok (.iconst 1, 1) := by decide +kernel
theorem dL_law_582 : decode cL_law 582 = .ok (.iadd, 1) := by decide +kernel
theorem dL_law_583 : decode cL_law 583 = .ok (.iaload, 1) := by decide +kernel
theorem dL_law_584 : decode cL_law 584 = .ok (.aload_n 0, 1) := by decide +kernel
theorem dL_law_585 : decode cL_law 585 = .ok (.iload_n 3, 1) := by decide +kernel
theorem dL_law_586 : decode cL_law 586 = .ok (.iconst 2, 1) := by decide +kernel
theorem dL_law_587 : decode cL_law 587 = .ok (.iadd, 1) := by decide +kernel
theorem dL_law_588 : decode cL_law 588 = .ok (.iaload, 1) := by decide +kernel
theorem dL_law_589 : decode cL_law 589 = .ok (.invokevirtual 74, 3) := by decide +kernel
theorem dL_law_592 : decode cL_law 592 = .ok (.aload_n 2, 1) := by decide +kernel
theorem dL_law_593 : decode cL_law 593 = .ok (.aload_n 0, 1) := by decide +kernel
theorem dL_law_594 : decode cL_law 594 = .ok (.iload_n 3, 1) := by decide +kernel
theorem dL_law_595 : decode cL_law 595 = .ok (.iconst 1, 1) := by decide +kernel
theorem dL_law_596 : decode cL_law 596 = .ok (.iadd, 1) := by decide +kernel
theorem dL_law_597 : decode cL_law 597 = .ok (.iaload, 1) := by decide +kernel
theorem dL_law_598 : decode cL_law 598 = .ok (.aload_n 0, 1) := by decide +kernel
theorem dL_law_599 : decode cL_law 599 = .ok (.iload_n 3, 1) := by decide +kernel
theorem dL_law_600 : decode cL_law 600 = .ok (.iconst 2, 1) := by decide +kernel
theorem dL_law_601 : decode cL_law 601 = .ok (.iadd, 1) := by decide +kernel
theorem dL_law_602 : decode cL_law 602 = .ok (.iaload, 1) := by decide +kernel
theorem dL_law_603 : decode cL_law 603 = .ok (.invokevirtual 77, 3) := by decide +kernel
theorem dL_law_606 : decode cL_law 606 = .ok (.if_icmp .eq 232, 3) := by decide +kernel
theorem dL_law_609 : decode cL_law 609 = .ok (.iconst 0, 1) := by decide +kernel
theorem dL_law_610 : decode cL_law 610 = .ok (.ireturn, 1) := by decide +kernel
theorem dL_law_611 : decode cL_law 611 = .ok (.aload_n 1, 1) := by decide +kernel
theorem dL_law_612 : decode cL_law 612 = .ok (.aload_n 0, 1) := by decide +kernel
theorem dL_law_613 : decode cL_law 613 = .ok (.iload_n 3, 1) := by decide +kernel
theorem dL_law_614 : decode cL_law 614 = .ok (.iconst 1, 1) := by decide +kernel
theorem dL_law_615 : decode cL_law 615 = .ok (.iadd, 1) := by decide +kernel
theorem dL_law_616 : decode cL_law 616 = .ok (.iaload, 1) := by decide +kernel
theorem dL_law_617 : decode cL_law 617 = .ok (.invokevirtual 78, 3) := by decide +kernel
theorem dL_law_620 : decode cL_law 620 = .ok (.aload_n 2, 1) := by decide +kernel
theorem dL_law_621 : decode cL_law 621 = .ok (.aload_n 0, 1) := by decide +kernel
theorem dL_law_622 : decode cL_law 622 = .ok (.iload_n 3, 1) := by decide +kernel
theorem dL_law_623 : decode cL_law 623 = .ok (.iconst 1, 1) := by decide +kernel
theorem dL_law_624 : decode cL_law 624 = .ok (.iadd, 1) := by decide +kernel
theorem dL_law_625 : decode cL_law 625 = .ok (.iaload, 1) := by decide +kernel
theorem dL_law_626 : decode cL_law 626 = .ok (.invokevirtual 81, 3) := by decide +kernel
theorem dL_law_629 : decode cL_law 629 = .ok (.if_icmp .eq 209, 3) := by decide +kernel
theorem dL_law_632 : decode cL_law 632 = .ok (.iconst 0, 1) := by decide +kernel
theorem dL_law_633 : decode cL_law 633 = .ok (.ireturn, 1) := by decide +kernel
theorem dL_law_634 : decode cL_law 634 = .ok (.aload_n 1, 1) := by decide +kernel
theorem dL_law_635 : decode cL_law 635 = .ok (.aload_n 0, 1) := by decide +kernel
theorem dL_law_636 : decode cL_law 636 = .ok (.iload_n 3, 1) := by decide +kernel
theorem dL_law_637 : decode cL_law 637 = .ok (.iconst 1, 1) := by decide +kernel
theorem dL_law_638 : decode cL_law 638 = .ok (.iadd, 1) := by decide +kernel
theorem dL_law_639 : decode cL_law 639 = .ok (.iaload, 1) := by decide +kernel
theorem dL_law_640 : decode cL_law 640 = .ok (.aload_n 0, 1) := by decide +kernel
theorem dL_law_641 : decode cL_law 641 = .ok (.iload_n 3, 1) := by decide +kernel
theorem dL_law_642 : decode cL_law 642 = .ok (.iconst 2, 1) := by decide +kernel
theorem dL_law_643 : decode cL_law 643 = .ok (.iadd, 1) := by decide +kernel
theorem dL_law_644 : decode cL_law 644 = .ok (.iaload, 1) := by decide +kernel
theorem dL_law_645 : decode cL_law 645 = .ok (.invokevirtual 82, 3) := by decide +kernel
theorem dL_law_648 : decode cL_law 648 = .ok (.aload_n 2, 1) := by decide +kernel
theorem dL_law_649 : decode cL_law 649 = .ok (.aload_n 0, 1) := by decide +kernel
theorem dL_law_650 : decode cL_law 650 = .ok (.iload_n 3, 1) := by decide +kernel
theorem dL_law_651 : decode cL_law 651 = .ok (.iconst 1, 1) := by decide +kernel
theorem dL_law_652 : decode cL_law 652 = .ok (.iadd, 1) := by decide +kernel
theorem dL_law_653 : decode cL_law 653 = .ok (.iaload, 1) := by decide +kernel
theorem dL_law_654 : decode cL_law 654 = .ok (.aload_n 0, 1) := by decide +kernel
theorem dL_law_655 : decode cL_law 655 = .ok (.iload_n 3, 1) := by decide +kernel
theorem dL_law_656 : decode cL_law 656 = .ok (.iconst 2, 1) := by decide +kernel
theorem dL_law_657 : decode cL_law 657 = .ok (.iadd, 1) := by decide +kernel
theorem dL_law_658 : decode cL_law 658 = .ok (.iaload, 1) := by decide +kernel
theorem dL_law_659 : decode cL_law 659 = .ok (.invokevirtual 85, 3) := by decide +kernel
theorem dL_law_662 : decode cL_law 662 = .ok (.if_icmp .eq 176, 3) := by decide +kernel
theorem dL_law_665 : decode cL_law 665 = .ok (.iconst 0, 1) := by decide +kernel
theorem dL_law_666 : decode cL_law 666 = .ok (.ireturn, 1) := by decide +kernel
theorem dL_law_667 : decode cL_law 667 = .ok (.aload_n 1, 1) := by decide +kernel
theorem dL_law_668 : decode cL_law 668 = .ok (.aload_n 0, 1) := by decide +kernel
theorem dL_law_669 : decode cL_law 669 = .ok (.iload_n 3, 1) := by decide +kernel
theorem dL_law_670 : decode cL_law 670 = .ok (.iconst 1, 1) := by decide +kernel
theorem dL_law_671 : decode cL_law 671 = .ok (.iadd, 1) := by decide +kernel
theorem dL_law_672 : decode cL_law 672 = .ok (.iaload, 1) := by decide +kernel
theorem dL_law_673 : decode cL_law 673 = .ok (.invokevirtual 86, 3) := by decide +kernel
theorem dL_law_676 : decode cL_law 676 = .ok (.aload_n 2, 1) := by decide +kernel
theorem dL_law_677 : decode cL_law 677 = .ok (.aload_n 0, 1) := by decide +kernel
theorem dL_law_678 : decode cL_law 678 = .ok (.iload_n 3, 1) := by decide +kernel
theorem dL_law_679 : decode cL_law 679 = .ok (.iconst 1, 1) := by decide +kernel
theorem dL_law_680 : decode cL_law 680 = .ok (.iadd, 1) := by decide +kernel
theorem dL_law_681 : decode cL_law 681 = .ok (.iaload, 1) := by decide +kernel
theorem dL_law_682 : decode cL_law 682 = .ok (.invokevirtual 89, 3) := by decide +kernel
theorem dL_law_685 : decode cL_law 685 = .ok (.if_icmp .eq 153, 3) := by decide +kernel
theorem dL_law_688 : decode cL_law 688 = .ok (.iconst 0, 1) := by decide +kernel
theorem dL_law_689 : decode cL_law 689 = .ok (.ireturn, 1) := by decide +kernel
theorem dL_law_690 : decode cL_law 690 = .ok (.aload_n 1, 1) := by decide +kernel
theorem dL_law_691 : decode cL_law 691 = .ok (.aload_n 0, 1) := by decide +kernel
theorem dL_law_692 : decode cL_law 692 = .ok (.iload_n 3, 1) := by decide +kernel
theorem dL_law_693 : decode cL_law 693 = .ok (.iconst 1, 1) := by decide +kernel
theorem dL_law_694 : decode cL_law 694 = .ok (.iadd, 1) := by decide +kernel
theorem dL_law_695 : decode cL_law 695 = .ok (.iaload, 1) := by decide +kernel
theorem dL_law_696 : decode cL_law 696 = .ok (.i2l, 1) := by decide +kernel
theorem dL_law_697 : decode cL_law 697 = .ok (.bipush 32, 2) := by decide +kernel
theorem dL_law_699 : decode cL_law 699 = .ok (.lshl, 1) := by decide +kernel
theorem dL_law_700 : decode cL_law 700 = .ok (.aload_n 0, 1) := by decide +kernel
theorem dL_law_701 : decode cL_law 701 = .ok (.iload_n 3, 1) := by decide +kernel
theorem dL_law_702 : decode cL_law 702 = .ok (.iconst 2, 1) := by decide +kernel
theorem dL_law_703 : decode cL_law 703 = .ok (.iadd, 1) := by decide +kernel
theorem dL_law_704 : decode cL_law 704 = .ok (.iaload, 1) := by decide +kernel
theorem dL_law_705 : decode cL_law 705 = .ok (.i2l, 1) := by decide +kernel
theorem dL_law_706 : decode cL_law 706 = .ok (.ldc2_w 90, 3) := by decide +kernel
theorem dL_law_709 : decode cL_law 709 = .ok (.land, 1) := by decide +kernel
theorem dL_law_710 : decode cL_law 710 = .ok (.lor, 1) := by decide +kernel
theorem dL_law_711 : decode cL_law 711 = .ok (.aload_n 0, 1) := by decide +kernel
theorem dL_law_712 : decode cL_law 712 = .ok (.iload_n 3, 1) := by decide +kernel
theorem dL_law_713 : decode cL_law 713 = .ok (.iconst 3, 1) := by decide +kernel
theorem dL_law_714 : decode cL_law 714 = .ok (.iadd, 1) := by decide +kernel
theorem dL_law_715 : decode cL_law 715 = .ok (.iaload, 1) := by decide +kernel
theorem dL_law_716 : decode cL_law 716 = .ok (.invokevirtual 92, 3) := by decide +kernel
theorem dL_law_719 : decode cL_law 719 = .ok (.aload_n 2, 1) := by decide +kernel
theorem dL_law_720 : decode cL_law 720 = .ok (.aload_n 0, 1) := by decide +kernel
theorem dL_law_721 : decode cL_law 721 = .ok (.iload_n 3, 1) := by decide +kernel
theorem dL_law_722 : decode cL_law 722 = .ok (.iconst 1, 1) := by decide +kernel
theorem dL_law_723 : decode cL_law 723 = .ok (.iadd, 1) := by decide +kernel
theorem dL_law_724 : decode cL_law 724 = .ok (.iaload, 1) := by decide +kernel
theorem dL_law_725 : decode cL_law 725 = .ok (.i2l, 1) := by decide +kernel
theorem dL_law_726 : decode cL_law 726 = .ok (.bipush 32, 2) := by decide +kernel
theorem dL_law_728 : decode cL_law 728 = .ok (.lshl, 1) := by decide +kernel
theorem dL_law_729 : decode cL_law 729 = .ok (.aload_n 0, 1) := by decide +kernel
theorem dL_law_730 : decode cL_law 730 = .ok (.iload_n 3, 1) := by decide +kernel
theorem dL_law_731 : decode cL_law 731 = .ok (.iconst 2, 1) := by decide +kernel
theorem dL_law_732 : decode cL_law 732 = .ok (.iadd, 1) := by decide +kernel
theorem dL_law_733 : decode cL_law 733 = .ok (.iaload, 1) := by decide +kernel
theorem dL_law_734 : decode cL_law 734 = .ok (.i2l, 1) := by decide +kernel
theorem dL_law_735 : decode cL_law 735 = .ok (.ldc2_w 90, 3) := by decide +kernel
theorem dL_law_738 : decode cL_law 738 = .ok (.land, 1) := by decide +kernel
theorem dL_law_739 : decode cL_law 739 = .ok (.lor, 1) := by decide +kernel
theorem dL_law_740 : decode cL_law 740 = .ok (.aload_n 0, 1) := by decide +kernel
theorem dL_law_741 : decode cL_law 741 = .ok (.iload_n 3, 1) := by decide +kernel
theorem dL_law_742 : decode cL_law 742 = .ok (.iconst 3, 1) := by decide +kernel
theorem dL_law_743 : decode cL_law 743 = .ok (.iadd, 1) := by decide +kernel
theorem dL_law_744 : decode cL_law 744 = .ok (.iaload, 1) := by decide +kernel
theorem dL_law_745 : decode cL_law 745 = .ok (.invokevirtual 96, 3) := by decide +kernel
theorem dL_law_748 : decode cL_law 748 = .ok (.if_icmp .eq 90, 3) := by decide +kernel
theorem dL_law_751 : decode cL_law 751 = .ok (.iconst 0, 1) := by decide +kernel
theorem dL_law_752 : decode cL_law 752 = .ok (.ireturn, 1) := by decide +kernel
theorem dL_law_753 : decode cL_law 753 = .ok (.aload_n 1, 1) := by decide +kernel
theorem dL_law_754 : decode cL_law 754 = .ok (.invokevirtual 97, 3) := by decide +kernel
theorem dL_law_757 : decode cL_law 757 = .ok (.aload_n 2, 1) := by decide +kernel
theorem dL_law_758 : decode cL_law 758 = .ok (.invokevirtual 101, 3) := by decide +kernel
theorem dL_law_761 : decode cL_law 761 = .ok (.if_icmp .eq 77, 3) := by decide +kernel
theorem dL_law_764 : decode cL_law 764 = .ok (.iconst 0, 1) := by decide +kernel
theorem dL_law_765 : decode cL_law 765 = .ok (.ireturn, 1) := by decide +kernel
theorem dL_law_766 : decode cL_law 766 = .ok (.aload_n 1, 1) := by decide +kernel
theorem dL_law_767 : decode cL_law 767 = .ok (.aload_n 0, 1) := by decide +kernel
theorem dL_law_768 : decode cL_law 768 = .ok (.iload_n 3, 1) := by decide +kernel
theorem dL_law_769 : decode cL_law 769 = .ok (.iconst 1, 1) := by decide +kernel
theorem dL_law_770 : decode cL_law 770 = .ok (.iadd, 1) := by decide +kernel
theorem dL_law_771 : decode cL_law 771 = .ok (.iaload, 1) := by decide +kernel
theorem dL_law_772 : decode cL_law 772 = .ok (.invokevirtual 102, 3) := by decide +kernel
theorem dL_law_775 : decode cL_law 775 = .ok (.aload_n 2, 1) := by decide +kernel
theorem dL_law_776 : decode cL_law 776 = .ok (.aload_n 0, 1) := by decide +kernel
theorem dL_law_777 : decode cL_law 777 = .ok (.iload_n 3, 1) := by decide +kernel
theorem dL_law_778 : decode cL_law 778 = .ok (.iconst 1, 1) := by decide +kernel
theorem dL_law_779 : decode cL_law 779 = .ok (.iadd, 1) := by decide +kernel
theorem dL_law_780 : decode cL_law 780 = .ok (.iaload, 1) := by decide +kernel
theorem dL_law_781 : decode cL_law 781 = .ok (.invokevirtual 105, 3) := by decide +kernel
theorem dL_law_784 : decode cL_law 784 = .ok (.if_icmp .eq 54, 3) := by decide +kernel
theorem dL_law_787 : decode cL_law 787 = .ok (.iconst 0, 1) := by decide +kernel
theorem dL_law_788 : decode cL_law 788 = .ok (.ireturn, 1) := by decide +kernel
theorem dL_law_789 : decode cL_law 789 = .ok (.aload_n 1, 1) := by decide +kernel
theorem dL_law_790 : decode cL_law 790 = .ok (.invokevirtual 106, 3) := by decide +kernel
theorem dL_law_793 : decode cL_law 793 = .ok (.aload_n 2, 1) := by decide +kernel
theorem dL_law_794 : decode cL_law 794 = .ok (.invokevirtual 109, 3) := by decide +kernel
theorem dL_law_797 : decode cL_law 797 = .ok (.if_icmp .eq 41, 3) := by decide +kernel
theorem dL_law_800 : decode cL_law 800 = .ok (.iconst 0, 1) := by decide +kernel
theorem dL_law_801 : decode cL_law 801 = .ok (.ireturn, 1) := by decide +kernel
theorem dL_law_802 : decode cL_law 802 = .ok (.aload_n 1, 1) := by decide +kernel
theorem dL_law_803 : decode cL_law 803 = .ok (.invokevirtual 110, 3) := by decide +kernel
theorem dL_law_806 : decode cL_law 806 = .ok (.aload_n 2, 1) := by decide +kernel
theorem dL_law_807 : decode cL_law 807 = .ok (.invokevirtual 113, 3) := by decide +kernel
theorem dL_law_810 : decode cL_law 810 = .ok (.if_icmp .eq 28, 3) := by decide +kernel
theorem dL_law_813 : decode cL_law 813 = .ok (.iconst 0, 1) := by decide +kernel
theorem dL_law_814 : decode cL_law 814 = .ok (.ireturn, 1) := by decide +kernel
theorem dL_law_815 : decode cL_law 815 = .ok (.aload_n 1, 1) := by decide +kernel
theorem dL_law_816 : decode cL_law 816 = .ok (.aload_n 0, 1) := by decide +kernel
theorem dL_law_817 : decode cL_law 817 = .ok (.iload_n 3, 1) := by decide +kernel
theorem dL_law_818 : decode cL_law 818 = .ok (.iconst 1, 1) := by decide +kernel
theorem dL_law_819 : decode cL_law 819 = .ok (.iadd, 1) := by decide +kernel
theorem dL_law_820 : decode cL_law 820 = .ok (.iaload, 1) := by decide +kernel
theorem dL_law_821 : decode cL_law 821 = .ok (.invokevirtual 114, 3) := by decide +kernel
theorem dL_law_824 : decode cL_law 824 = .ok (.aload_n 2, 1) := by decide +kernel
theorem dL_law_825 : decode cL_law 825 = .ok (.aload_n 0, 1) := by decide +kernel
theorem dL_law_826 : decode cL_law 826 = .ok (.iload_n 3, 1) := by decide +kernel
theorem dL_law_827 : decode cL_law 827 = .ok (.iconst 1, 1) := by decide +kernel
theorem dL_law_828 : decode cL_law 828 = .ok (.iadd, 1) := by decide +kernel
theorem dL_law_829 : decode cL_law 829 = .ok (.iaload, 1) := by decide +kernel
theorem dL_law_830 : decode cL_law 830 = .ok (.invokevirtual 117, 3) := by decide +kernel
theorem dL_law_833 : decode cL_law 833 = .ok (.if_icmp .eq 5, 3) := by decide +kernel
theorem dL_law_836 : decode cL_law 836 = .ok (.iconst 0, 1) := by decide +kernel
theorem dL_law_837 : decode cL_law 837 = .ok (.ireturn, 1) := by decide +kernel
theorem dL_law_838 : decode cL_law 838 = .ok (.iinc 3 6, 3) := by decide +kernel
theorem dL_law_841 : decode cL_law 841 = .ok (.goto (-823), 3) := by decide +kernel
theorem dL_law_844 : decode cL_law 844 = .ok (.iconst 1, 1) := by decide +kernel
theorem dL_law_845 : decode cL_law 845 = .ok (.ireturn, 1) := by decide +kernel
end
section
set_option maxRecDepth 20000 in
theorem tw_0 : Cond.selects "NestedDeeds" ⟨"NestedDeeds", "link", "(IIII)I"⟩ ⟨"NestedDeeds", "link", "(IIII)I"⟩ ∈ tb := tb_mem (List.mem_of_getElem? (i := 0) (by decide +kernel)) rfl
set_option maxRecDepth 20000 in
theorem tw_1 : Cond.selects "NestedDeeds$Walker" ⟨"NestedDeeds$Walker", "visit", "(II)Z"⟩ ⟨"NestedDeeds$Walker", "visit", "(II)Z"⟩ ∈ tb := tb_mem (List.mem_of_getElem? (i := 1) (by decide +kernel)) rfl
set_option maxRecDepth 20000 in
theorem tw_2 : Cond.selects "NestedDeeds$Walker" ⟨"NestedDeeds$Walker", "halt", "(I)Z"⟩ ⟨"NestedDeeds$Walker", "halt", "(I)Z"⟩ ∈ tb := tb_mem (List.mem_of_getElem? (i := 2) (by decide +kernel)) rfl
set_option maxRecDepth 20000 in
theorem tw_3 : Cond.selects "NestedDeeds$Copying" ⟨"NestedDeeds$Copying", "sortParts", "(II)V"⟩ ⟨"NestedDeeds$Copying", "sortParts", "(II)V"⟩ ∈ tb := tb_mem (List.mem_of_getElem? (i := 3) (by decide +kernel)) rfl
set_option maxRecDepth 20000 in
theorem tw_4 : Cond.selects "NestedDeeds$Walker" ⟨"NestedDeeds$Walker", "byStack", "(I)V"⟩ ⟨"NestedDeeds$Walker", "byStack", "(I)V"⟩ ∈ tb := tb_mem (List.mem_of_getElem? (i := 4) (by decide +kernel)) rfl
set_option maxRecDepth 20000 in
theorem tw_5 : Cond.selects "NestedDeeds$Walker" ⟨"NestedDeeds$Walker", "nextPart", "(I)I"⟩ ⟨"NestedDeeds$Walker", "nextPart", "(I)I"⟩ ∈ tb := tb_mem (List.mem_of_getElem? (i := 5) (by decide +kernel)) rfl
set_option maxRecDepth 20000 in
theorem tw_6 : Cond.selects "NestedDeeds$Weighing" ⟨"NestedDeeds$Weighing", "placeOfChoice", "(III)I"⟩ ⟨"NestedDeeds$Weighing", "placeOfChoice", "(III)I"⟩ ∈ tb := tb_mem (List.mem_of_getElem? (i := 6) (by decide +kernel)) rfl
set_option maxRecDepth 20000 in
theorem tw_7 : Cond.selects "NestedDeeds$Weighing" ⟨"NestedDeeds$Weighing", "takeUpLike", "(IIJ)V"⟩ ⟨"NestedDeeds$Weighing", "takeUpLike", "(IIJ)V"⟩ ∈ tb := tb_mem (List.mem_of_getElem? (i := 7) (by decide +kernel)) rfl
set_option maxRecDepth 20000 in
theorem tw_8 : Cond.selects "NestedDeeds$Walker" ⟨"NestedDeeds$Walker", "bySteps", "()V"⟩ ⟨"NestedDeeds$Walker", "bySteps", "()V"⟩ ∈ tb := tb_mem (List.mem_of_getElem? (i := 8) (by decide +kernel)) rfl
set_option maxRecDepth 20000 in
theorem tw_9 : Cond.selects "NestedDeeds$Walker" ⟨"NestedDeeds$Walker", "take", "(I)I"⟩ ⟨"NestedDeeds$Walker", "take", "(I)I"⟩ ∈ tb := tb_mem (List.mem_of_getElem? (i := 9) (by decide +kernel)) rfl
set_option maxRecDepth 20000 in
theorem tw_10 : Cond.selects "NestedDeeds$Walker" ⟨"NestedDeeds$Walker", "byCalls", "(II)V"⟩ ⟨"NestedDeeds$Walker", "byCalls", "(II)V"⟩ ∈ tb := tb_mem (List.mem_of_getElem? (i := 10) (by decide +kernel)) rfl
set_option maxRecDepth 20000 in
theorem tw_11 : Cond.selects "NestedDeeds" ⟨"NestedDeeds", "remake", "(IIZ)I"⟩ ⟨"NestedDeeds", "remake", "(IIZ)I"⟩ ∈ tb := tb_mem (List.mem_of_getElem? (i := 11) (by decide +kernel)) rfl
set_option maxRecDepth 20000 in
theorem tw_12 : Cond.selects "NestedDeeds$Copying" ⟨"NestedDeeds$Copying", "reckonMarks", "(I)V"⟩ ⟨"NestedDeeds$Copying", "reckonMarks", "(I)V"⟩ ∈ tb := tb_mem (List.mem_of_getElem? (i := 12) (by decide +kernel)) rfl
set_option maxRecDepth 20000 in
theorem tw_13 : Cond.selects "NestedDeeds$Reader" ⟨"NestedDeeds$Reader", "scanKind", "()Z"⟩ ⟨"NestedDeeds$Reader", "scanKind", "()Z"⟩ ∈ tb := tb_mem (List.mem_of_getElem? (i := 13) (by decide +kernel)) rfl
set_option maxRecDepth 20000 in
theorem tw_14 : Cond.selects "NestedDeeds$Reader" ⟨"NestedDeeds$Reader", "scanNumber", "()Z"⟩ ⟨"NestedDeeds$Reader", "scanNumber", "()Z"⟩ ∈ tb := tb_mem (List.mem_of_getElem? (i := 14) (by decide +kernel)) rfl
set_option maxRecDepth 20000 in
theorem tw_15 : Cond.selects "NestedDeeds$Reader" ⟨"NestedDeeds$Reader", "scanFigures", "()J"⟩ ⟨"NestedDeeds$Reader", "scanFigures", "()J"⟩ ∈ tb := tb_mem (List.mem_of_getElem? (i := 15) (by decide +kernel)) rfl
set_option maxRecDepth 20000 in
theorem tw_16 : Cond.selects "NestedDeeds$Reader" ⟨"NestedDeeds$Reader", "openDeed", "()V"⟩ ⟨"NestedDeeds$Reader", "openDeed", "()V"⟩ ∈ tb := tb_mem (List.mem_of_getElem? (i := 16) (by decide +kernel)) rfl
set_option maxRecDepth 20000 in
theorem tw_17 : Cond.selects "NestedDeeds$Reader" ⟨"NestedDeeds$Reader", "finishDeed", "(III)V"⟩ ⟨"NestedDeeds$Reader", "finishDeed", "(III)V"⟩ ∈ tb := tb_mem (List.mem_of_getElem? (i := 17) (by decide +kernel)) rfl
set_option maxRecDepth 20000 in
theorem tw_18 : Cond.selects "NestedDeeds$Reader" ⟨"NestedDeeds$Reader", "closeDeeds", "()V"⟩ ⟨"NestedDeeds$Reader", "closeDeeds", "()V"⟩ ∈ tb := tb_mem (List.mem_of_getElem? (i := 18) (by decide +kernel)) rfl
set_option maxRecDepth 20000 in
theorem tw_19 : Cond.selects "NestedDeedsModel" ⟨"NestedDeedsModel", "add", "(II)I"⟩ ⟨"NestedDeedsModel", "add", "(II)I"⟩ ∈ tb := tb_mem (List.mem_of_getElem? (i := 19) (by decide +kernel)) rfl
set_option maxRecDepth 20000 in
theorem tw_20 : Cond.selects "NestedDeedsModel" ⟨"NestedDeedsModel", "isDeed", "(I)Z"⟩ ⟨"NestedDeedsModel", "isDeed", "(I)Z"⟩ ∈ tb := tb_mem (List.mem_of_getElem? (i := 20) (by decide +kernel)) rfl
set_option maxRecDepth 20000 in
theorem tw_21 : Cond.selects "NestedDeedsModel" ⟨"NestedDeedsModel", "addPart", "(II)I"⟩ ⟨"NestedDeedsModel", "addPart", "(II)I"⟩ ∈ tb := tb_mem (List.mem_of_getElem? (i := 21) (by decide +kernel)) rfl
set_option maxRecDepth 20000 in
theorem tw_22 : Cond.selects "NestedDeedsModel" ⟨"NestedDeedsModel", "partAt", "(II)I"⟩ ⟨"NestedDeedsModel", "partAt", "(II)I"⟩ ∈ tb := tb_mem (List.mem_of_getElem? (i := 22) (by decide +kernel)) rfl
set_option maxRecDepth 20000 in
theorem tw_23 : Cond.selects "NestedDeedsModel" ⟨"NestedDeedsModel", "bad", "()I"⟩ ⟨"NestedDeedsModel", "bad", "()I"⟩ ∈ tb := tb_mem (List.mem_of_getElem? (i := 23) (by decide +kernel)) rfl
set_option maxRecDepth 20000 in
theorem tw_24 : Cond.selects "NestedDeedsModel" ⟨"NestedDeedsModel", "walkAll", "(I)I"⟩ ⟨"NestedDeedsModel", "walkAll", "(I)I"⟩ ∈ tb := tb_mem (List.mem_of_getElem? (i := 24) (by decide +kernel)) rfl
set_option maxRecDepth 20000 in
theorem tw_25 : Cond.selects "NestedDeedsModel" ⟨"NestedDeedsModel", "walk", "(IZZII)I"⟩ ⟨"NestedDeedsModel", "walk", "(IZZII)I"⟩ ∈ tb := tb_mem (List.mem_of_getElem? (i := 25) (by decide +kernel)) rfl
set_option maxRecDepth 20000 in
theorem tw_26 : Cond.selects "NestedDeedsModel" ⟨"NestedDeedsModel", "begin", "()V"⟩ ⟨"NestedDeedsModel", "begin", "()V"⟩ ∈ tb := tb_mem (List.mem_of_getElem? (i := 26) (by decide +kernel)) rfl
set_option maxRecDepth 20000 in
theorem tw_27 : Cond.selects "NestedDeedsModel" ⟨"NestedDeedsModel", "visit", "(II)Z"⟩ ⟨"NestedDeedsModel", "visit", "(II)Z"⟩ ∈ tb := tb_mem (List.mem_of_getElem? (i := 27) (by decide +kernel)) rfl
set_option maxRecDepth 20000 in
theorem tw_28 : Cond.selects "NestedDeedsModel" ⟨"NestedDeedsModel", "nextFrom", "(Z)I"⟩ ⟨"NestedDeedsModel", "nextFrom", "(Z)I"⟩ ∈ tb := tb_mem (List.mem_of_getElem? (i := 28) (by decide +kernel)) rfl
set_option maxRecDepth 20000 in
theorem tw_29 : Cond.selects "NestedDeedsModel" ⟨"NestedDeedsModel", "lookedAt", "(I)I"⟩ ⟨"NestedDeedsModel", "lookedAt", "(I)I"⟩ ∈ tb := tb_mem (List.mem_of_getElem? (i := 29) (by decide +kernel)) rfl
set_option maxRecDepth 20000 in
theorem tw_30 : Cond.selects "NestedDeedsModel" ⟨"NestedDeedsModel", "chosen", "(I)I"⟩ ⟨"NestedDeedsModel", "chosen", "(I)I"⟩ ∈ tb := tb_mem (List.mem_of_getElem? (i := 30) (by decide +kernel)) rfl
set_option maxRecDepth 20000 in
theorem tw_31 : Cond.selects "NestedDeedsModel" ⟨"NestedDeedsModel", "ended", "()I"⟩ ⟨"NestedDeedsModel", "ended", "()I"⟩ ∈ tb := tb_mem (List.mem_of_getElem? (i := 31) (by decide +kernel)) rfl
set_option maxRecDepth 20000 in
theorem tw_32 : Cond.selects "NestedDeedsModel" ⟨"NestedDeedsModel", "workOut", "(I)V"⟩ ⟨"NestedDeedsModel", "workOut", "(I)V"⟩ ∈ tb := tb_mem (List.mem_of_getElem? (i := 32) (by decide +kernel)) rfl
set_option maxRecDepth 20000 in
theorem tw_33 : Cond.selects "NestedDeedsModel" ⟨"NestedDeedsModel", "worthIn", "(I)J"⟩ ⟨"NestedDeedsModel", "worthIn", "(I)J"⟩ ∈ tb := tb_mem (List.mem_of_getElem? (i := 33) (by decide +kernel)) rfl
set_option maxRecDepth 20000 in
theorem tw_34 : Cond.selects "NestedDeedsModel" ⟨"NestedDeedsModel", "byAll", "(I)J"⟩ ⟨"NestedDeedsModel", "byAll", "(I)J"⟩ ∈ tb := tb_mem (List.mem_of_getElem? (i := 34) (by decide +kernel)) rfl
set_option maxRecDepth 20000 in
theorem tw_35 : Cond.selects "NestedDeedsModel" ⟨"NestedDeedsModel", "markIn", "(I)J"⟩ ⟨"NestedDeedsModel", "markIn", "(I)J"⟩ ∈ tb := tb_mem (List.mem_of_getElem? (i := 35) (by decide +kernel)) rfl
set_option maxRecDepth 20000 in
theorem tw_36 : Cond.selects "NestedDeedsModel" ⟨"NestedDeedsModel", "differ", "(II)Z"⟩ ⟨"NestedDeedsModel", "differ", "(II)Z"⟩ ∈ tb := tb_mem (List.mem_of_getElem? (i := 36) (by decide +kernel)) rfl
set_option maxRecDepth 20000 in
theorem tw_37 : Cond.selects "NestedDeedsModel" ⟨"NestedDeedsModel", "putDeed", "(I)V"⟩ ⟨"NestedDeedsModel", "putDeed", "(I)V"⟩ ∈ tb := tb_mem (List.mem_of_getElem? (i := 37) (by decide +kernel)) rfl
set_option maxRecDepth 20000 in
theorem tw_38 : Cond.selects "NestedDeedsModel" ⟨"NestedDeedsModel", "put", "(I)V"⟩ ⟨"NestedDeedsModel", "put", "(I)V"⟩ ∈ tb := tb_mem (List.mem_of_getElem? (i := 38) (by decide +kernel)) rfl
set_option maxRecDepth 20000 in
theorem tw_39 : Cond.selects "NestedDeedsModel" ⟨"NestedDeedsModel", "anew", "(IZIZ)I"⟩ ⟨"NestedDeedsModel", "anew", "(IZIZ)I"⟩ ∈ tb := tb_mem (List.mem_of_getElem? (i := 39) (by decide +kernel)) rfl
set_option maxRecDepth 20000 in
theorem tw_40 : Cond.selects "NestedDeedsModel" ⟨"NestedDeedsModel", "build", "(ZIZ)I"⟩ ⟨"NestedDeedsModel", "build", "(ZIZ)I"⟩ ∈ tb := tb_mem (List.mem_of_getElem? (i := 40) (by decide +kernel)) rfl
set_option maxRecDepth 20000 in
theorem tw_41 : Cond.selects "NestedDeedsModel" ⟨"NestedDeedsModel", "plant", "(IIJIZ)V"⟩ ⟨"NestedDeedsModel", "plant", "(IIJIZ)V"⟩ ∈ tb := tb_mem (List.mem_of_getElem? (i := 41) (by decide +kernel)) rfl
set_option maxRecDepth 20000 in
theorem tw_42 : Cond.selects "NestedDeedsModel" ⟨"NestedDeedsModel", "grow", "()I"⟩ ⟨"NestedDeedsModel", "grow", "()I"⟩ ∈ tb := tb_mem (List.mem_of_getElem? (i := 42) (by decide +kernel)) rfl
set_option maxRecDepth 20000 in
theorem tw_43 : Cond.selects "NestedDeedsModel" ⟨"NestedDeedsModel", "readOne", "(I)V"⟩ ⟨"NestedDeedsModel", "readOne", "(I)V"⟩ ∈ tb := tb_mem (List.mem_of_getElem? (i := 43) (by decide +kernel)) rfl
set_option maxRecDepth 20000 in
theorem tw_44 : Cond.selects "NestedDeedsModel" ⟨"NestedDeedsModel", "now", "()I"⟩ ⟨"NestedDeedsModel", "now", "()I"⟩ ∈ tb := tb_mem (List.mem_of_getElem? (i := 44) (by decide +kernel)) rfl
set_option maxRecDepth 20000 in
theorem tw_45 : Cond.selects "NestedDeedsModel" ⟨"NestedDeedsModel", "figures", "()I"⟩ ⟨"NestedDeedsModel", "figures", "()I"⟩ ∈ tb := tb_mem (List.mem_of_getElem? (i := 45) (by decide +kernel)) rfl
set_option maxRecDepth 20000 in
theorem tw_46 : Cond.selects "NestedDeedsModel" ⟨"NestedDeedsModel", "isFigure", "()Z"⟩ ⟨"NestedDeedsModel", "isFigure", "()Z"⟩ ∈ tb := tb_mem (List.mem_of_getElem? (i := 46) (by decide +kernel)) rfl
set_option maxRecDepth 20000 in
theorem tw_47 : Cond.initialized "NestedDeedsLaw" ∈ tb := tb_mem (List.mem_of_getElem? (i := 47) (by decide +kernel)) rfl
set_option maxRecDepth 20000 in
theorem tw_48 : Cond.initialized "NestedDeeds" ∈ tb := tb_mem (List.mem_of_getElem? (i := 48) (by decide +kernel)) rfl
set_option maxRecDepth 20000 in
theorem tw_49 : Cond.initialized "NestedDeeds$Deeds" ∈ tb := tb_mem (List.mem_of_getElem? (i := 49) (by decide +kernel)) rfl
set_option maxRecDepth 20000 in
theorem tw_50 : Cond.initialized "NestedDeeds$Paper" ∈ tb := tb_mem (List.mem_of_getElem? (i := 50) (by decide +kernel)) rfl
set_option maxRecDepth 20000 in
theorem tw_51 : Cond.initialized "NestedDeeds$Reader" ∈ tb := tb_mem (List.mem_of_getElem? (i := 51) (by decide +kernel)) rfl
set_option maxRecDepth 20000 in
theorem tw_52 : Cond.initialized "NestedDeeds$Task" ∈ tb := tb_mem (List.mem_of_getElem? (i := 52) (by decide +kernel)) rfl
set_option maxRecDepth 20000 in
theorem tw_53 : Cond.initialized "NestedDeeds$Weighing" ∈ tb := tb_mem (List.mem_of_getElem? (i := 53) (by decide +kernel)) rfl
set_option maxRecDepth 20000 in
theorem tw_54 : Cond.initialized "NestedDeeds$Marking" ∈ tb := tb_mem (List.mem_of_getElem? (i := 54) (by decide +kernel)) rfl
set_option maxRecDepth 20000 in
theorem tw_55 : Cond.initialized "NestedDeeds$Comparing" ∈ tb := tb_mem (List.mem_of_getElem? (i := 55) (by decide +kernel)) rfl
set_option maxRecDepth 20000 in
theorem tw_56 : Cond.initialized "NestedDeeds$Writing" ∈ tb := tb_mem (List.mem_of_getElem? (i := 56) (by decide +kernel)) rfl
set_option maxRecDepth 20000 in
theorem tw_57 : Cond.initialized "NestedDeeds$Finding" ∈ tb := tb_mem (List.mem_of_getElem? (i := 57) (by decide +kernel)) rfl
set_option maxRecDepth 20000 in
theorem tw_58 : Cond.initialized "NestedDeeds$Copying" ∈ tb := tb_mem (List.mem_of_getElem? (i := 58) (by decide +kernel)) rfl
set_option maxRecDepth 20000 in
theorem tw_59 : Cond.initialized "NestedDeeds$Walker" ∈ tb := tb_mem (List.mem_of_getElem? (i := 59) (by decide +kernel)) rfl
set_option maxRecDepth 20000 in
theorem tw_60 : Cond.initialized "NestedDeedsModel" ∈ tb := tb_mem (List.mem_of_getElem? (i := 60) (by decide +kernel)) rfl
set_option maxRecDepth 20000 in
theorem tw_61 : Cond.initialized "java/lang/System" ∈ tb := tb_mem (List.mem_of_getElem? (i := 61) (by decide +kernel)) rfl
set_option maxRecDepth 20000 in
theorem tw_62 : Cond.initialized "java/lang/Math" ∈ tb := tb_mem (List.mem_of_getElem? (i := 62) (by decide +kernel)) rfl
set_option maxRecDepth 20000 in
theorem tw_63 : Cond.initialized "java/lang/Long" ∈ tb := tb_mem (List.mem_of_getElem? (i := 63) (by decide +kernel)) rfl
set_option maxRecDepth 20000 in
theorem tw_64 : Cond.classLink "NestedDeedsLaw" 7 "NestedDeeds" ∈ tb := tb_mem (List.mem_of_getElem? (i := 64) (by decide +kernel)) rfl
set_option maxRecDepth 20000 in
theorem tw_65 : Cond.instantiable "NestedDeeds" 13 ∈ tb := tb_mem (List.mem_of_getElem? (i := 65) (by decide +kernel)) rfl
set_option maxRecDepth 20000 in
theorem tw_66 : Cond.methodLink "NestedDeedsLaw" 9 ⟨"NestedDeeds", "<init>", "()V"⟩ ∈ tb := tb_mem (List.mem_of_getElem? (i := 66) (by decide +kernel)) rfl
set_option maxRecDepth 20000 in
theorem tw_67 : Cond.instanceMethod ⟨"NestedDeeds", "<init>", "()V"⟩ ∈ tb := tb_mem (List.mem_of_getElem? (i := 67) (by decide +kernel)) rfl
set_option maxRecDepth 20000 in
theorem tw_68 : Cond.code ⟨"NestedDeeds", "<init>", "()V"⟩ prog_1_method_1_code 1 none ∈ tb := tb_mem (List.mem_of_getElem? (i := 68) (by decide +kernel)) rfl
set_option maxRecDepth 20000 in
theorem tw_69 : Cond.methodLink "NestedDeeds" 3 ⟨"java/lang/Object", "<init>", "()V"⟩ ∈ tb := tb_mem (List.mem_of_getElem? (i := 69) (by decide +kernel)) rfl
set_option maxRecDepth 20000 in
theorem tw_70 : Cond.instanceMethod ⟨"java/lang/Object", "<init>", "()V"⟩ ∈ tb := tb_mem (List.mem_of_getElem? (i := 70) (by decide +kernel)) rfl
set_option maxRecDepth 20000 in
theorem tw_71 : Cond.code ⟨"java/lang/Object", "<init>", "()V"⟩ object_method_1_code 1 none ∈ tb := tb_mem (List.mem_of_getElem? (i := 71) (by decide +kernel)) rfl
set_option maxRecDepth 20000 in
theorem tw_72 : Cond.classLink "NestedDeeds" 9 "NestedDeeds$Deeds" ∈ tb := tb_mem (List.mem_of_getElem? (i := 72) (by decide +kernel)) rfl
set_option maxRecDepth 20000 in
theorem tw_73 : Cond.instantiable "NestedDeeds$Deeds" 7 ∈ tb := tb_mem (List.mem_of_getElem? (i := 73) (by decide +kernel)) rfl
set_option maxRecDepth 20000 in
theorem tw_75 : Cond.instanceMethod ⟨"NestedDeeds$Deeds", "<init>", "()V"⟩ ∈ tb := tb_mem (List.mem_of_getElem? (i := 75) (by decide +kernel)) rfl
set_option maxRecDepth 20000 in
theorem tw_76 : Cond.code ⟨"NestedDeeds$Deeds", "<init>", "()V"⟩ prog_4_method_1_code 1 none ∈ tb := tb_mem (List.mem_of_getElem? (i := 76) (by decide +kernel)) rfl
set_option maxRecDepth 20000 in
theorem tw_77 : Cond.methodLink "NestedDeeds$Deeds" 3 ⟨"java/lang/Object", "<init>", "()V"⟩ ∈ tb := tb_mem (List.mem_of_getElem? (i := 77) (by decide +kernel)) rfl
set_option maxRecDepth 20000 in
theorem tw_78 : Cond.fieldLink "NestedDeeds$Deeds" 9 "NestedDeeds$Deeds" "kind" "[I" ∈ tb := tb_mem (List.mem_of_getElem? (i := 78) (by decide +kernel)) rfl
set_option maxRecDepth 20000 in
theorem tw_79 : Cond.fieldLink "NestedDeeds$Writing" 19 "NestedDeeds$Deeds" "kind" "[I" ∈ tb := tb_mem (List.mem_of_getElem? (i := 79) (by decide +kernel)) rfl
set_option maxRecDepth 20000 in
theorem tw_80 : Cond.fieldLink "NestedDeeds$Weighing" 28 "NestedDeeds$Deeds" "kind" "[I" ∈ tb := tb_mem (List.mem_of_getElem? (i := 80) (by decide +kernel)) rfl
set_option maxRecDepth 20000 in
theorem tw_81 : Cond.fieldLink "NestedDeeds$Finding" 20 "NestedDeeds$Deeds" "kind" "[I" ∈ tb := tb_mem (List.mem_of_getElem? (i := 81) (by decide +kernel)) rfl
set_option maxRecDepth 20000 in
theorem tw_82 : Cond.fieldLink "NestedDeeds$Comparing" 19 "NestedDeeds$Deeds" "kind" "[I" ∈ tb := tb_mem (List.mem_of_getElem? (i := 82) (by decide +kernel)) rfl
set_option maxRecDepth 20000 in
theorem tw_83 : Cond.fieldLink "NestedDeeds$Copying" 63 "NestedDeeds$Deeds" "kind" "[I" ∈ tb := tb_mem (List.mem_of_getElem? (i := 83) (by decide +kernel)) rfl
set_option maxRecDepth 20000 in
theorem tw_84 : Cond.fieldLink "NestedDeeds$Marking" 23 "NestedDeeds$Deeds" "kind" "[I" ∈ tb := tb_mem (List.mem_of_getElem? (i := 84) (by decide +kernel)) rfl
set_option maxRecDepth 20000 in
theorem tw_85 : Cond.fieldLink "NestedDeeds" 136 "NestedDeeds$Deeds" "kind" "[I" ∈ tb := tb_mem (List.mem_of_getElem? (i := 85) (by decide +kernel)) rfl
set_option maxRecDepth 20000 in
theorem tw_86 : Cond.fieldLink "NestedDeeds$Deeds" 15 "NestedDeeds$Deeds" "number" "[I" ∈ tb := tb_mem (List.mem_of_getElem? (i := 86) (by decide +kernel)) rfl
set_option maxRecDepth 20000 in
theorem tw_87 : Cond.fieldLink "NestedDeeds$Weighing" 22 "NestedDeeds$Deeds" "number" "[I" ∈ tb := tb_mem (List.mem_of_getElem? (i := 87) (by decide +kernel)) rfl
set_option maxRecDepth 20000 in
theorem tw_88 : Cond.fieldLink "NestedDeeds$Writing" 31 "NestedDeeds$Deeds" "number" "[I" ∈ tb := tb_mem (List.mem_of_getElem? (i := 88) (by decide +kernel)) rfl
set_option maxRecDepth 20000 in
theorem tw_89 : Cond.fieldLink "NestedDeeds$Finding" 25 "NestedDeeds$Deeds" "number" "[I" ∈ tb := tb_mem (List.mem_of_getElem? (i := 89) (by decide +kernel)) rfl
set_option maxRecDepth 20000 in
theorem tw_90 : Cond.fieldLink "NestedDeeds$Comparing" 24 "NestedDeeds$Deeds" "number" "[I" ∈ tb := tb_mem (List.mem_of_getElem? (i := 90) (by decide +kernel)) rfl
set_option maxRecDepth 20000 in
theorem tw_91 : Cond.fieldLink "NestedDeeds$Copying" 66 "NestedDeeds$Deeds" "number" "[I" ∈ tb := tb_mem (List.mem_of_getElem? (i := 91) (by decide +kernel)) rfl
set_option maxRecDepth 20000 in
theorem tw_92 : Cond.fieldLink "NestedDeeds$Marking" 29 "NestedDeeds$Deeds" "number" "[I" ∈ tb := tb_mem (List.mem_of_getElem? (i := 92) (by decide +kernel)) rfl
set_option maxRecDepth 20000 in
theorem tw_93 : Cond.fieldLink "NestedDeeds" 140 "NestedDeeds$Deeds" "number" "[I" ∈ tb := tb_mem (List.mem_of_getElem? (i := 93) (by decide +kernel)) rfl
set_option maxRecDepth 20000 in
theorem tw_94 : Cond.fieldLink "NestedDeeds$Deeds" 18 "NestedDeeds$Deeds" "start" "[I" ∈ tb := tb_mem (List.mem_of_getElem? (i := 94) (by decide +kernel)) rfl
set_option maxRecDepth 20000 in
theorem tw_95 : Cond.fieldLink "NestedDeeds$Copying" 75 "NestedDeeds$Deeds" "start" "[I" ∈ tb := tb_mem (List.mem_of_getElem? (i := 95) (by decide +kernel)) rfl
set_option maxRecDepth 20000 in
theorem tw_96 : Cond.fieldLink "NestedDeeds$Deeds" 21 "NestedDeeds$Deeds" "parts" "[I" ∈ tb := tb_mem (List.mem_of_getElem? (i := 96) (by decide +kernel)) rfl
set_option maxRecDepth 20000 in
theorem tw_97 : Cond.fieldLink "NestedDeeds$Copying" 44 "NestedDeeds$Deeds" "parts" "[I" ∈ tb := tb_mem (List.mem_of_getElem? (i := 97) (by decide +kernel)) rfl
set_option maxRecDepth 20000 in
theorem tw_98 : Cond.fieldLink "NestedDeeds$Deeds" 24 "NestedDeeds$Deeds" "loose" "[I" ∈ tb := tb_mem (List.mem_of_getElem? (i := 98) (by decide +kernel)) rfl
set_option maxRecDepth 20000 in
theorem tw_99 : Cond.fieldLink "NestedDeeds$Deeds" 45 "NestedDeeds$Deeds" "looseCount" "I" ∈ tb := tb_mem (List.mem_of_getElem? (i := 99) (by decide +kernel)) rfl
set_option maxRecDepth 20000 in
theorem tw_100 : Cond.fieldLink "NestedDeeds$Deeds" 27 "NestedDeeds$Deeds" "made" "I" ∈ tb := tb_mem (List.mem_of_getElem? (i := 100) (by decide +kernel)) rfl
set_option maxRecDepth 20000 in
theorem tw_101 : Cond.fieldLink "NestedDeeds" 223 "NestedDeeds$Deeds" "made" "I" ∈ tb := tb_mem (List.mem_of_getElem? (i := 101) (by decide +kernel)) rfl
set_option maxRecDepth 20000 in
theorem tw_117 : Cond.arrayClass .int ∈ tb := tb_mem (List.mem_of_getElem? (i := 117) (by decide +kernel)) rfl
set_option maxRecDepth 20000 in
theorem tw_118 : Cond.classLink "NestedDeeds" 16 "NestedDeeds$Paper" ∈ tb := tb_mem (List.mem_of_getElem? (i := 118) (by decide +kernel)) rfl
set_option maxRecDepth 20000 in
theorem tw_119 : Cond.instantiable "NestedDeeds$Paper" 3 ∈ tb := tb_mem (List.mem_of_getElem? (i := 119) (by decide +kernel)) rfl
set_option maxRecDepth 20000 in
theorem tw_121 : Cond.instanceMethod ⟨"NestedDeeds$Paper", "<init>", "()V"⟩ ∈ tb := tb_mem (List.mem_of_getElem? (i := 121) (by decide +kernel)) rfl
set_option maxRecDepth 20000 in
theorem tw_122 : Cond.code ⟨"NestedDeeds$Paper", "<init>", "()V"⟩ prog_7_method_1_code 1 none ∈ tb := tb_mem (List.mem_of_getElem? (i := 122) (by decide +kernel)) rfl
set_option maxRecDepth 20000 in
theorem tw_123 : Cond.methodLink "NestedDeeds$Paper" 3 ⟨"java/lang/Object", "<init>", "()V"⟩ ∈ tb := tb_mem (List.mem_of_getElem? (i := 123) (by decide +kernel)) rfl
set_option maxRecDepth 20000 in
theorem tw_124 : Cond.fieldLink "NestedDeeds$Paper" 9 "NestedDeeds$Paper" "bytes" "[B" ∈ tb := tb_mem (List.mem_of_getElem? (i := 124) (by decide +kernel)) rfl
set_option maxRecDepth 20000 in
theorem tw_125 : Cond.fieldLink "NestedDeeds$Paper" 15 "NestedDeeds$Paper" "length" "I" ∈ tb := tb_mem (List.mem_of_getElem? (i := 125) (by decide +kernel)) rfl
set_option maxRecDepth 20000 in
theorem tw_126 : Cond.fieldLink "NestedDeeds$Reader" 71 "NestedDeeds$Paper" "length" "I" ∈ tb := tb_mem (List.mem_of_getElem? (i := 126) (by decide +kernel)) rfl
set_option maxRecDepth 20000 in
theorem tw_127 : Cond.fieldLink "NestedDeeds" 178 "NestedDeeds$Paper" "length" "I" ∈ tb := tb_mem (List.mem_of_getElem? (i := 127) (by decide +kernel)) rfl
set_option maxRecDepth 20000 in
theorem tw_128 : Cond.fieldLink "NestedDeeds$Paper" 19 "NestedDeeds$Paper" "overfull" "Z" ∈ tb := tb_mem (List.mem_of_getElem? (i := 128) (by decide +kernel)) rfl
set_option maxRecDepth 20000 in
theorem tw_129 : Cond.fieldLink "NestedDeeds$Writing" 41 "NestedDeeds$Paper" "overfull" "Z" ∈ tb := tb_mem (List.mem_of_getElem? (i := 129) (by decide +kernel)) rfl
set_option maxRecDepth 20000 in
theorem tw_130 : Cond.fieldLink "NestedDeeds" 171 "NestedDeeds$Paper" "overfull" "Z" ∈ tb := tb_mem (List.mem_of_getElem? (i := 130) (by decide +kernel)) rfl
set_option maxRecDepth 20000 in
theorem tw_138 : Cond.arrayClass .byte ∈ tb := tb_mem (List.mem_of_getElem? (i := 138) (by decide +kernel)) rfl
set_option maxRecDepth 20000 in
theorem tw_139 : Cond.classLink "NestedDeeds" 26 "NestedDeeds$Reader" ∈ tb := tb_mem (List.mem_of_getElem? (i := 139) (by decide +kernel)) rfl
set_option maxRecDepth 20000 in
theorem tw_140 : Cond.instantiable "NestedDeeds$Reader" 11 ∈ tb := tb_mem (List.mem_of_getElem? (i := 140) (by decide +kernel)) rfl
set_option maxRecDepth 20000 in
theorem tw_141 : Cond.methodLink "NestedDeeds" 28 ⟨"NestedDeeds$Reader", "<init>", "(LNestedDeeds$Deeds;LNestedDeeds$Paper;)V"⟩ ∈ tb := tb_mem (List.mem_of_getElem? (i := 141) (by decide +kernel)) rfl
set_option maxRecDepth 20000 in
theorem tw_142 : Cond.instanceMethod ⟨"NestedDeeds$Reader", "<init>", "(LNestedDeeds$Deeds;LNestedDeeds$Paper;)V"⟩ ∈ tb := tb_mem (List.mem_of_getElem? (i := 142) (by decide +kernel)) rfl
set_option maxRecDepth 20000 in
theorem tw_143 : Cond.code ⟨"NestedDeeds$Reader", "<init>", "(LNestedDeeds$Deeds;LNestedDeeds$Paper;)V"⟩ prog_8_method_1_code 3 none ∈ tb := tb_mem (List.mem_of_getElem? (i := 143) (by decide +kernel)) rfl
set_option maxRecDepth 20000 in
theorem tw_144 : Cond.methodLink "NestedDeeds$Reader" 3 ⟨"java/lang/Object", "<init>", "()V"⟩ ∈ tb := tb_mem (List.mem_of_getElem? (i := 144) (by decide +kernel)) rfl
set_option maxRecDepth 20000 in
theorem tw_145 : Cond.fieldLink "NestedDeeds$Reader" 21 "NestedDeeds$Reader" "deeds" "LNestedDeeds$Deeds;" ∈ tb := tb_mem (List.mem_of_getElem? (i := 145) (by decide +kernel)) rfl
set_option maxRecDepth 20000 in
theorem tw_146 : Cond.fieldLink "NestedDeeds$Reader" 25 "NestedDeeds$Reader" "paper" "LNestedDeeds$Paper;" ∈ tb := tb_mem (List.mem_of_getElem? (i := 146) (by decide +kernel)) rfl
set_option maxRecDepth 20000 in
theorem tw_147 : Cond.fieldLink "NestedDeeds$Reader" 11 "NestedDeeds$Reader" "openKind" "[I" ∈ tb := tb_mem (List.mem_of_getElem? (i := 147) (by decide +kernel)) rfl
set_option maxRecDepth 20000 in
theorem tw_148 : Cond.fieldLink "NestedDeeds$Reader" 15 "NestedDeeds$Reader" "openNumber" "[I" ∈ tb := tb_mem (List.mem_of_getElem? (i := 148) (by decide +kernel)) rfl
set_option maxRecDepth 20000 in
theorem tw_149 : Cond.fieldLink "NestedDeeds$Reader" 18 "NestedDeeds$Reader" "openParts" "[I" ∈ tb := tb_mem (List.mem_of_getElem? (i := 149) (by decide +kernel)) rfl
set_option maxRecDepth 20000 in
theorem tw_150 : Cond.fieldLink "NestedDeeds$Reader" 33 "NestedDeeds$Reader" "open" "I" ∈ tb := tb_mem (List.mem_of_getElem? (i := 150) (by decide +kernel)) rfl
set_option maxRecDepth 20000 in
theorem tw_151 : Cond.fieldLink "NestedDeeds$Reader" 37 "NestedDeeds$Reader" "at" "I" ∈ tb := tb_mem (List.mem_of_getElem? (i := 151) (by decide +kernel)) rfl
set_option maxRecDepth 20000 in
theorem tw_152 : Cond.fieldLink "NestedDeeds$Reader" 58 "NestedDeeds$Reader" "kind" "I" ∈ tb := tb_mem (List.mem_of_getElem? (i := 152) (by decide +kernel)) rfl
set_option maxRecDepth 20000 in
theorem tw_153 : Cond.fieldLink "NestedDeeds$Reader" 61 "NestedDeeds$Reader" "number" "I" ∈ tb := tb_mem (List.mem_of_getElem? (i := 153) (by decide +kernel)) rfl
set_option maxRecDepth 20000 in
theorem tw_154 : Cond.fieldLink "NestedDeeds$Reader" 29 "NestedDeeds$Reader" "making" "Z" ∈ tb := tb_mem (List.mem_of_getElem? (i := 154) (by decide +kernel)) rfl
set_option maxRecDepth 20000 in
theorem tw_155 : Cond.fieldLink "NestedDeeds$Reader" 40 "NestedDeeds$Reader" "whole" "I" ∈ tb := tb_mem (List.mem_of_getElem? (i := 155) (by decide +kernel)) rfl
set_option maxRecDepth 20000 in
theorem tw_156 : Cond.fieldLink "NestedDeeds" 217 "NestedDeeds$Reader" "whole" "I" ∈ tb := tb_mem (List.mem_of_getElem? (i := 156) (by decide +kernel)) rfl
set_option maxRecDepth 20000 in
theorem tw_180 : Cond.classLink "NestedDeeds" 39 "NestedDeeds$Task" ∈ tb := tb_mem (List.mem_of_getElem? (i := 180) (by decide +kernel)) rfl
set_option maxRecDepth 20000 in
theorem tw_181 : Cond.instantiable "NestedDeeds$Task" 2 ∈ tb := tb_mem (List.mem_of_getElem? (i := 181) (by decide +kernel)) rfl
set_option maxRecDepth 20000 in
theorem tw_182 : Cond.methodLink "NestedDeeds" 41 ⟨"NestedDeeds$Task", "<init>", "(LNestedDeeds$Deeds;)V"⟩ ∈ tb := tb_mem (List.mem_of_getElem? (i := 182) (by decide +kernel)) rfl
set_option maxRecDepth 20000 in
theorem tw_183 : Cond.instanceMethod ⟨"NestedDeeds$Task", "<init>", "(LNestedDeeds$Deeds;)V"⟩ ∈ tb := tb_mem (List.mem_of_getElem? (i := 183) (by decide +kernel)) rfl
set_option maxRecDepth 20000 in
theorem tw_184 : Cond.code ⟨"NestedDeeds$Task", "<init>", "(LNestedDeeds$Deeds;)V"⟩ prog_9_method_1_code 2 none ∈ tb := tb_mem (List.mem_of_getElem? (i := 184) (by decide +kernel)) rfl
set_option maxRecDepth 20000 in
theorem tw_185 : Cond.methodLink "NestedDeeds$Task" 1 ⟨"java/lang/Object", "<init>", "()V"⟩ ∈ tb := tb_mem (List.mem_of_getElem? (i := 185) (by decide +kernel)) rfl
set_option maxRecDepth 20000 in
theorem tw_186 : Cond.fieldLink "NestedDeeds$Task" 7 "NestedDeeds$Task" "deeds" "LNestedDeeds$Deeds;" ∈ tb := tb_mem (List.mem_of_getElem? (i := 186) (by decide +kernel)) rfl
set_option maxRecDepth 20000 in
theorem tw_187 : Cond.fieldLink "NestedDeeds$Weighing" 18 "NestedDeeds$Weighing" "deeds" "LNestedDeeds$Deeds;" ∈ tb := tb_mem (List.mem_of_getElem? (i := 187) (by decide +kernel)) rfl
set_option maxRecDepth 20000 in
theorem tw_188 : Cond.sameField "NestedDeeds$Weighing" "NestedDeeds$Task" "deeds" "LNestedDeeds$Deeds;" ∈ tb := tb_mem (List.mem_of_getElem? (i := 188) (by decide +kernel)) rfl
set_option maxRecDepth 20000 in
theorem tw_189 : Cond.fieldLink "NestedDeeds$Writing" 15 "NestedDeeds$Writing" "deeds" "LNestedDeeds$Deeds;" ∈ tb := tb_mem (List.mem_of_getElem? (i := 189) (by decide +kernel)) rfl
set_option maxRecDepth 20000 in
theorem tw_190 : Cond.sameField "NestedDeeds$Writing" "NestedDeeds$Task" "deeds" "LNestedDeeds$Deeds;" ∈ tb := tb_mem (List.mem_of_getElem? (i := 190) (by decide +kernel)) rfl
set_option maxRecDepth 20000 in
theorem tw_191 : Cond.fieldLink "NestedDeeds$Finding" 16 "NestedDeeds$Finding" "deeds" "LNestedDeeds$Deeds;" ∈ tb := tb_mem (List.mem_of_getElem? (i := 191) (by decide +kernel)) rfl
set_option maxRecDepth 20000 in
theorem tw_192 : Cond.sameField "NestedDeeds$Finding" "NestedDeeds$Task" "deeds" "LNestedDeeds$Deeds;" ∈ tb := tb_mem (List.mem_of_getElem? (i := 192) (by decide +kernel)) rfl
set_option maxRecDepth 20000 in
theorem tw_193 : Cond.fieldLink "NestedDeeds$Comparing" 15 "NestedDeeds$Comparing" "deeds" "LNestedDeeds$Deeds;" ∈ tb := tb_mem (List.mem_of_getElem? (i := 193) (by decide +kernel)) rfl
set_option maxRecDepth 20000 in
theorem tw_194 : Cond.sameField "NestedDeeds$Comparing" "NestedDeeds$Task" "deeds" "LNestedDeeds$Deeds;" ∈ tb := tb_mem (List.mem_of_getElem? (i := 194) (by decide +kernel)) rfl
set_option maxRecDepth 20000 in
theorem tw_195 : Cond.fieldLink "NestedDeeds$Copying" 40 "NestedDeeds$Copying" "deeds" "LNestedDeeds$Deeds;" ∈ tb := tb_mem (List.mem_of_getElem? (i := 195) (by decide +kernel)) rfl
set_option maxRecDepth 20000 in
theorem tw_196 : Cond.sameField "NestedDeeds$Copying" "NestedDeeds$Task" "deeds" "LNestedDeeds$Deeds;" ∈ tb := tb_mem (List.mem_of_getElem? (i := 196) (by decide +kernel)) rfl
set_option maxRecDepth 20000 in
theorem tw_197 : Cond.fieldLink "NestedDeeds$Marking" 19 "NestedDeeds$Marking" "deeds" "LNestedDeeds$Deeds;" ∈ tb := tb_mem (List.mem_of_getElem? (i := 197) (by decide +kernel)) rfl
set_option maxRecDepth 20000 in
theorem tw_198 : Cond.sameField "NestedDeeds$Marking" "NestedDeeds$Task" "deeds" "LNestedDeeds$Deeds;" ∈ tb := tb_mem (List.mem_of_getElem? (i := 198) (by decide +kernel)) rfl
set_option maxRecDepth 20000 in
theorem tw_199 : Cond.fieldLink "NestedDeeds$Writing" 45 "NestedDeeds$Writing" "over" "Z" ∈ tb := tb_mem (List.mem_of_getElem? (i := 199) (by decide +kernel)) rfl
set_option maxRecDepth 20000 in
theorem tw_200 : Cond.sameField "NestedDeeds$Writing" "NestedDeeds$Task" "over" "Z" ∈ tb := tb_mem (List.mem_of_getElem? (i := 200) (by decide +kernel)) rfl
set_option maxRecDepth 20000 in
theorem tw_201 : Cond.fieldLink "NestedDeeds$Walker" 49 "NestedDeeds$Task" "over" "Z" ∈ tb := tb_mem (List.mem_of_getElem? (i := 201) (by decide +kernel)) rfl
set_option maxRecDepth 20000 in
theorem tw_202 : Cond.fieldLink "NestedDeeds$Finding" 27 "NestedDeeds$Finding" "over" "Z" ∈ tb := tb_mem (List.mem_of_getElem? (i := 202) (by decide +kernel)) rfl
set_option maxRecDepth 20000 in
theorem tw_203 : Cond.sameField "NestedDeeds$Finding" "NestedDeeds$Task" "over" "Z" ∈ tb := tb_mem (List.mem_of_getElem? (i := 203) (by decide +kernel)) rfl
set_option maxRecDepth 20000 in
theorem tw_204 : Cond.fieldLink "NestedDeeds$Comparing" 31 "NestedDeeds$Comparing" "over" "Z" ∈ tb := tb_mem (List.mem_of_getElem? (i := 204) (by decide +kernel)) rfl
set_option maxRecDepth 20000 in
theorem tw_205 : Cond.sameField "NestedDeeds$Comparing" "NestedDeeds$Task" "over" "Z" ∈ tb := tb_mem (List.mem_of_getElem? (i := 205) (by decide +kernel)) rfl
set_option maxRecDepth 20000 in
theorem tw_206 : Cond.fieldLink "NestedDeeds" 164 "NestedDeeds$Comparing" "over" "Z" ∈ tb := tb_mem (List.mem_of_getElem? (i := 206) (by decide +kernel)) rfl
set_option maxRecDepth 20000 in
theorem tw_207 : Cond.fieldLink "NestedDeeds" 183 "NestedDeeds$Finding" "over" "Z" ∈ tb := tb_mem (List.mem_of_getElem? (i := 207) (by decide +kernel)) rfl
set_option maxRecDepth 20000 in
theorem tw_213 : Cond.arrayClass .long ∈ tb := tb_mem (List.mem_of_getElem? (i := 213) (by decide +kernel)) rfl
set_option maxRecDepth 20000 in
theorem tw_214 : Cond.classLink "NestedDeeds" 48 "NestedDeeds$Weighing" ∈ tb := tb_mem (List.mem_of_getElem? (i := 214) (by decide +kernel)) rfl
set_option maxRecDepth 20000 in
theorem tw_215 : Cond.instantiable "NestedDeeds$Weighing" 4 ∈ tb := tb_mem (List.mem_of_getElem? (i := 215) (by decide +kernel)) rfl
set_option maxRecDepth 20000 in
theorem tw_216 : Cond.methodLink "NestedDeeds" 50 ⟨"NestedDeeds$Weighing", "<init>", "(LNestedDeeds$Deeds;[J)V"⟩ ∈ tb := tb_mem (List.mem_of_getElem? (i := 216) (by decide +kernel)) rfl
set_option maxRecDepth 20000 in
theorem tw_217 : Cond.instanceMethod ⟨"NestedDeeds$Weighing", "<init>", "(LNestedDeeds$Deeds;[J)V"⟩ ∈ tb := tb_mem (List.mem_of_getElem? (i := 217) (by decide +kernel)) rfl
set_option maxRecDepth 20000 in
theorem tw_218 : Cond.code ⟨"NestedDeeds$Weighing", "<init>", "(LNestedDeeds$Deeds;[J)V"⟩ prog_11_method_1_code 3 none ∈ tb := tb_mem (List.mem_of_getElem? (i := 218) (by decide +kernel)) rfl
set_option maxRecDepth 20000 in
theorem tw_219 : Cond.methodLink "NestedDeeds$Weighing" 3 ⟨"NestedDeeds$Task", "<init>", "(LNestedDeeds$Deeds;)V"⟩ ∈ tb := tb_mem (List.mem_of_getElem? (i := 219) (by decide +kernel)) rfl
set_option maxRecDepth 20000 in
theorem tw_220 : Cond.fieldLink "NestedDeeds$Weighing" 15 "NestedDeeds$Weighing" "worthAt" "[J" ∈ tb := tb_mem (List.mem_of_getElem? (i := 220) (by decide +kernel)) rfl
set_option maxRecDepth 20000 in
theorem tw_221 : Cond.fieldLink "NestedDeeds$Weighing" 9 "NestedDeeds$Weighing" "firstAt" "[J" ∈ tb := tb_mem (List.mem_of_getElem? (i := 221) (by decide +kernel)) rfl
set_option maxRecDepth 20000 in
theorem tw_229 : Cond.classLink "NestedDeeds" 57 "NestedDeeds$Marking" ∈ tb := tb_mem (List.mem_of_getElem? (i := 229) (by decide +kernel)) rfl
set_option maxRecDepth 20000 in
theorem tw_230 : Cond.instantiable "NestedDeeds$Marking" 3 ∈ tb := tb_mem (List.mem_of_getElem? (i := 230) (by decide +kernel)) rfl
set_option maxRecDepth 20000 in
theorem tw_231 : Cond.methodLink "NestedDeeds" 59 ⟨"NestedDeeds$Marking", "<init>", "(LNestedDeeds$Deeds;[J)V"⟩ ∈ tb := tb_mem (List.mem_of_getElem? (i := 231) (by decide +kernel)) rfl
set_option maxRecDepth 20000 in
theorem tw_232 : Cond.instanceMethod ⟨"NestedDeeds$Marking", "<init>", "(LNestedDeeds$Deeds;[J)V"⟩ ∈ tb := tb_mem (List.mem_of_getElem? (i := 232) (by decide +kernel)) rfl
set_option maxRecDepth 20000 in
theorem tw_233 : Cond.code ⟨"NestedDeeds$Marking", "<init>", "(LNestedDeeds$Deeds;[J)V"⟩ prog_6_method_1_code 3 none ∈ tb := tb_mem (List.mem_of_getElem? (i := 233) (by decide +kernel)) rfl
set_option maxRecDepth 20000 in
theorem tw_234 : Cond.methodLink "NestedDeeds$Marking" 1 ⟨"NestedDeeds$Task", "<init>", "(LNestedDeeds$Deeds;)V"⟩ ∈ tb := tb_mem (List.mem_of_getElem? (i := 234) (by decide +kernel)) rfl
set_option maxRecDepth 20000 in
theorem tw_235 : Cond.fieldLink "NestedDeeds$Marking" 7 "NestedDeeds$Marking" "markAt" "[J" ∈ tb := tb_mem (List.mem_of_getElem? (i := 235) (by decide +kernel)) rfl
set_option maxRecDepth 20000 in
theorem tw_241 : Cond.classLink "NestedDeeds" 64 "NestedDeeds$Comparing" ∈ tb := tb_mem (List.mem_of_getElem? (i := 241) (by decide +kernel)) rfl
set_option maxRecDepth 20000 in
theorem tw_242 : Cond.instantiable "NestedDeeds$Comparing" 3 ∈ tb := tb_mem (List.mem_of_getElem? (i := 242) (by decide +kernel)) rfl
set_option maxRecDepth 20000 in
theorem tw_243 : Cond.methodLink "NestedDeeds" 66 ⟨"NestedDeeds$Comparing", "<init>", "(LNestedDeeds$Deeds;)V"⟩ ∈ tb := tb_mem (List.mem_of_getElem? (i := 243) (by decide +kernel)) rfl
set_option maxRecDepth 20000 in
theorem tw_244 : Cond.instanceMethod ⟨"NestedDeeds$Comparing", "<init>", "(LNestedDeeds$Deeds;)V"⟩ ∈ tb := tb_mem (List.mem_of_getElem? (i := 244) (by decide +kernel)) rfl
set_option maxRecDepth 20000 in
theorem tw_245 : Cond.code ⟨"NestedDeeds$Comparing", "<init>", "(LNestedDeeds$Deeds;)V"⟩ prog_2_method_1_code 2 none ∈ tb := tb_mem (List.mem_of_getElem? (i := 245) (by decide +kernel)) rfl
set_option maxRecDepth 20000 in
theorem tw_246 : Cond.methodLink "NestedDeeds$Comparing" 3 ⟨"NestedDeeds$Task", "<init>", "(LNestedDeeds$Deeds;)V"⟩ ∈ tb := tb_mem (List.mem_of_getElem? (i := 246) (by decide +kernel)) rfl
set_option maxRecDepth 20000 in
theorem tw_247 : Cond.fieldLink "NestedDeeds$Comparing" 9 "NestedDeeds$Comparing" "otherAt" "[I" ∈ tb := tb_mem (List.mem_of_getElem? (i := 247) (by decide +kernel)) rfl
set_option maxRecDepth 20000 in
theorem tw_253 : Cond.classLink "NestedDeeds" 71 "NestedDeeds$Writing" ∈ tb := tb_mem (List.mem_of_getElem? (i := 253) (by decide +kernel)) rfl
set_option maxRecDepth 20000 in
theorem tw_254 : Cond.instantiable "NestedDeeds$Writing" 3 ∈ tb := tb_mem (List.mem_of_getElem? (i := 254) (by decide +kernel)) rfl
set_option maxRecDepth 20000 in
theorem tw_255 : Cond.methodLink "NestedDeeds" 73 ⟨"NestedDeeds$Writing", "<init>", "(LNestedDeeds$Deeds;LNestedDeeds$Paper;)V"⟩ ∈ tb := tb_mem (List.mem_of_getElem? (i := 255) (by decide +kernel)) rfl
set_option maxRecDepth 20000 in
theorem tw_256 : Cond.instanceMethod ⟨"NestedDeeds$Writing", "<init>", "(LNestedDeeds$Deeds;LNestedDeeds$Paper;)V"⟩ ∈ tb := tb_mem (List.mem_of_getElem? (i := 256) (by decide +kernel)) rfl
set_option maxRecDepth 20000 in
theorem tw_257 : Cond.code ⟨"NestedDeeds$Writing", "<init>", "(LNestedDeeds$Deeds;LNestedDeeds$Paper;)V"⟩ prog_12_method_1_code 3 none ∈ tb := tb_mem (List.mem_of_getElem? (i := 257) (by decide +kernel)) rfl
set_option maxRecDepth 20000 in
theorem tw_258 : Cond.methodLink "NestedDeeds$Writing" 3 ⟨"NestedDeeds$Task", "<init>", "(LNestedDeeds$Deeds;)V"⟩ ∈ tb := tb_mem (List.mem_of_getElem? (i := 258) (by decide +kernel)) rfl
set_option maxRecDepth 20000 in
theorem tw_259 : Cond.fieldLink "NestedDeeds$Writing" 9 "NestedDeeds$Writing" "draft" "LNestedDeeds$Paper;" ∈ tb := tb_mem (List.mem_of_getElem? (i := 259) (by decide +kernel)) rfl
set_option maxRecDepth 20000 in
theorem tw_265 : Cond.classLink "NestedDeeds" 78 "NestedDeeds$Finding" ∈ tb := tb_mem (List.mem_of_getElem? (i := 265) (by decide +kernel)) rfl
set_option maxRecDepth 20000 in
theorem tw_266 : Cond.instantiable "NestedDeeds$Finding" 4 ∈ tb := tb_mem (List.mem_of_getElem? (i := 266) (by decide +kernel)) rfl
set_option maxRecDepth 20000 in
theorem tw_267 : Cond.methodLink "NestedDeeds" 80 ⟨"NestedDeeds$Finding", "<init>", "(LNestedDeeds$Deeds;)V"⟩ ∈ tb := tb_mem (List.mem_of_getElem? (i := 267) (by decide +kernel)) rfl
set_option maxRecDepth 20000 in
theorem tw_268 : Cond.instanceMethod ⟨"NestedDeeds$Finding", "<init>", "(LNestedDeeds$Deeds;)V"⟩ ∈ tb := tb_mem (List.mem_of_getElem? (i := 268) (by decide +kernel)) rfl
set_option maxRecDepth 20000 in
theorem tw_269 : Cond.code ⟨"NestedDeeds$Finding", "<init>", "(LNestedDeeds$Deeds;)V"⟩ prog_5_method_1_code 2 none ∈ tb := tb_mem (List.mem_of_getElem? (i := 269) (by decide +kernel)) rfl
set_option maxRecDepth 20000 in
theorem tw_270 : Cond.methodLink "NestedDeeds$Finding" 1 ⟨"NestedDeeds$Task", "<init>", "(LNestedDeeds$Deeds;)V"⟩ ∈ tb := tb_mem (List.mem_of_getElem? (i := 270) (by decide +kernel)) rfl
set_option maxRecDepth 20000 in
theorem tw_271 : Cond.fieldLink "NestedDeeds$Finding" 7 "NestedDeeds$Finding" "kind" "I" ∈ tb := tb_mem (List.mem_of_getElem? (i := 271) (by decide +kernel)) rfl
set_option maxRecDepth 20000 in
theorem tw_272 : Cond.fieldLink "NestedDeeds$Finding" 13 "NestedDeeds$Finding" "number" "I" ∈ tb := tb_mem (List.mem_of_getElem? (i := 272) (by decide +kernel)) rfl
set_option maxRecDepth 20000 in
theorem tw_280 : Cond.classLink "NestedDeeds" 85 "NestedDeeds$Copying" ∈ tb := tb_mem (List.mem_of_getElem? (i := 280) (by decide +kernel)) rfl
set_option maxRecDepth 20000 in
theorem tw_281 : Cond.instantiable "NestedDeeds$Copying" 10 ∈ tb := tb_mem (List.mem_of_getElem? (i := 281) (by decide +kernel)) rfl
set_option maxRecDepth 20000 in
theorem tw_282 : Cond.methodLink "NestedDeeds" 87 ⟨"NestedDeeds$Copying", "<init>", "(LNestedDeeds$Deeds;)V"⟩ ∈ tb := tb_mem (List.mem_of_getElem? (i := 282) (by decide +kernel)) rfl
set_option maxRecDepth 20000 in
theorem tw_283 : Cond.instanceMethod ⟨"NestedDeeds$Copying", "<init>", "(LNestedDeeds$Deeds;)V"⟩ ∈ tb := tb_mem (List.mem_of_getElem? (i := 283) (by decide +kernel)) rfl
set_option maxRecDepth 20000 in
theorem tw_284 : Cond.code ⟨"NestedDeeds$Copying", "<init>", "(LNestedDeeds$Deeds;)V"⟩ prog_3_method_1_code 2 none ∈ tb := tb_mem (List.mem_of_getElem? (i := 284) (by decide +kernel)) rfl
set_option maxRecDepth 20000 in
theorem tw_285 : Cond.methodLink "NestedDeeds$Copying" 3 ⟨"NestedDeeds$Task", "<init>", "(LNestedDeeds$Deeds;)V"⟩ ∈ tb := tb_mem (List.mem_of_getElem? (i := 285) (by decide +kernel)) rfl
set_option maxRecDepth 20000 in
theorem tw_286 : Cond.fieldLink "NestedDeeds$Copying" 9 "NestedDeeds$Copying" "keptAt" "[Z" ∈ tb := tb_mem (List.mem_of_getElem? (i := 286) (by decide +kernel)) rfl
set_option maxRecDepth 20000 in
theorem tw_287 : Cond.fieldLink "NestedDeeds$Copying" 15 "NestedDeeds$Copying" "keptPartsAt" "[I" ∈ tb := tb_mem (List.mem_of_getElem? (i := 287) (by decide +kernel)) rfl
set_option maxRecDepth 20000 in
theorem tw_288 : Cond.fieldLink "NestedDeeds$Copying" 19 "NestedDeeds$Copying" "mark" "[J" ∈ tb := tb_mem (List.mem_of_getElem? (i := 288) (by decide +kernel)) rfl
set_option maxRecDepth 20000 in
theorem tw_289 : Cond.fieldLink "NestedDeeds$Copying" 23 "NestedDeeds$Copying" "sorted" "[I" ∈ tb := tb_mem (List.mem_of_getElem? (i := 289) (by decide +kernel)) rfl
set_option maxRecDepth 20000 in
theorem tw_290 : Cond.fieldLink "NestedDeeds$Copying" 26 "NestedDeeds$Copying" "most" "I" ∈ tb := tb_mem (List.mem_of_getElem? (i := 290) (by decide +kernel)) rfl
set_option maxRecDepth 20000 in
theorem tw_291 : Cond.fieldLink "NestedDeeds$Copying" 30 "NestedDeeds$Copying" "making" "Z" ∈ tb := tb_mem (List.mem_of_getElem? (i := 291) (by decide +kernel)) rfl
set_option maxRecDepth 20000 in
theorem tw_292 : Cond.fieldLink "NestedDeeds$Copying" 34 "NestedDeeds$Copying" "sorting" "Z" ∈ tb := tb_mem (List.mem_of_getElem? (i := 292) (by decide +kernel)) rfl
set_option maxRecDepth 20000 in
theorem tw_293 : Cond.fieldLink "NestedDeeds$Copying" 37 "NestedDeeds$Copying" "kept" "I" ∈ tb := tb_mem (List.mem_of_getElem? (i := 293) (by decide +kernel)) rfl
set_option maxRecDepth 20000 in
theorem tw_294 : Cond.fieldLink "NestedDeeds" 198 "NestedDeeds$Copying" "kept" "I" ∈ tb := tb_mem (List.mem_of_getElem? (i := 294) (by decide +kernel)) rfl
set_option maxRecDepth 20000 in
theorem tw_314 : Cond.arrayClass .boolean ∈ tb := tb_mem (List.mem_of_getElem? (i := 314) (by decide +kernel)) rfl
set_option maxRecDepth 20000 in
theorem tw_315 : Cond.classLink "NestedDeeds" 92 "NestedDeeds$Walker" ∈ tb := tb_mem (List.mem_of_getElem? (i := 315) (by decide +kernel)) rfl
set_option maxRecDepth 20000 in
theorem tw_316 : Cond.instantiable "NestedDeeds$Walker" 14 ∈ tb := tb_mem (List.mem_of_getElem? (i := 316) (by decide +kernel)) rfl
set_option maxRecDepth 20000 in
theorem tw_317 : Cond.methodLink "NestedDeeds" 94 ⟨"NestedDeeds$Walker", "<init>", "(LNestedDeeds$Deeds;LNestedDeeds$Task;)V"⟩ ∈ tb := tb_mem (List.mem_of_getElem? (i := 317) (by decide +kernel)) rfl
set_option maxRecDepth 20000 in
theorem tw_318 : Cond.instanceMethod ⟨"NestedDeeds$Walker", "<init>", "(LNestedDeeds$Deeds;LNestedDeeds$Task;)V"⟩ ∈ tb := tb_mem (List.mem_of_getElem? (i := 318) (by decide +kernel)) rfl
set_option maxRecDepth 20000 in
theorem tw_319 : Cond.code ⟨"NestedDeeds$Walker", "<init>", "(LNestedDeeds$Deeds;LNestedDeeds$Task;)V"⟩ prog_10_method_1_code 3 none ∈ tb := tb_mem (List.mem_of_getElem? (i := 319) (by decide +kernel)) rfl
set_option maxRecDepth 20000 in
theorem tw_320 : Cond.methodLink "NestedDeeds$Walker" 3 ⟨"java/lang/Object", "<init>", "()V"⟩ ∈ tb := tb_mem (List.mem_of_getElem? (i := 320) (by decide +kernel)) rfl
set_option maxRecDepth 20000 in
theorem tw_321 : Cond.fieldLink "NestedDeeds$Walker" 28 "NestedDeeds$Walker" "deeds" "LNestedDeeds$Deeds;" ∈ tb := tb_mem (List.mem_of_getElem? (i := 321) (by decide +kernel)) rfl
end
section
set_option maxRecDepth 20000 in
theorem tw_322 : Cond.fieldLink "NestedDeeds$Walker" 9 "NestedDeeds$Walker" "deedAt" "[I" ∈ tb := tb_mem (List.mem_of_getElem? (i := 322) (by decide +kernel)) rfl
set_option maxRecDepth 20000 in
theorem tw_323 : Cond.fieldLink "NestedDeeds$Walker" 15 "NestedDeeds$Walker" "turnAt" "[I" ∈ tb := tb_mem (List.mem_of_getElem? (i := 323) (by decide +kernel)) rfl
set_option maxRecDepth 20000 in
theorem tw_324 : Cond.fieldLink "NestedDeeds$Walker" 18 "NestedDeeds$Walker" "width" "[I" ∈ tb := tb_mem (List.mem_of_getElem? (i := 324) (by decide +kernel)) rfl
set_option maxRecDepth 20000 in
theorem tw_325 : Cond.fieldLink "NestedDeeds" 187 "NestedDeeds$Walker" "width" "[I" ∈ tb := tb_mem (List.mem_of_getElem? (i := 325) (by decide +kernel)) rfl
set_option maxRecDepth 20000 in
theorem tw_326 : Cond.fieldLink "NestedDeeds$Walker" 21 "NestedDeeds$Walker" "way" "I" ∈ tb := tb_mem (List.mem_of_getElem? (i := 326) (by decide +kernel)) rfl
set_option maxRecDepth 20000 in
theorem tw_327 : Cond.fieldLink "NestedDeeds" 128 "NestedDeeds$Walker" "way" "I" ∈ tb := tb_mem (List.mem_of_getElem? (i := 327) (by decide +kernel)) rfl
set_option maxRecDepth 20000 in
theorem tw_328 : Cond.fieldLink "NestedDeeds$Walker" 25 "NestedDeeds$Walker" "meter" "I" ∈ tb := tb_mem (List.mem_of_getElem? (i := 328) (by decide +kernel)) rfl
set_option maxRecDepth 20000 in
theorem tw_329 : Cond.fieldLink "NestedDeeds" 132 "NestedDeeds$Walker" "meter" "I" ∈ tb := tb_mem (List.mem_of_getElem? (i := 329) (by decide +kernel)) rfl
set_option maxRecDepth 20000 in
theorem tw_330 : Cond.fieldLink "NestedDeeds$Walker" 36 "NestedDeeds$Walker" "outcome" "I" ∈ tb := tb_mem (List.mem_of_getElem? (i := 330) (by decide +kernel)) rfl
set_option maxRecDepth 20000 in
theorem tw_331 : Cond.fieldLink "NestedDeeds" 220 "NestedDeeds$Walker" "outcome" "I" ∈ tb := tb_mem (List.mem_of_getElem? (i := 331) (by decide +kernel)) rfl
set_option maxRecDepth 20000 in
theorem tw_332 : Cond.fieldLink "NestedDeeds$Walker" 55 "NestedDeeds$Walker" "visited" "I" ∈ tb := tb_mem (List.mem_of_getElem? (i := 332) (by decide +kernel)) rfl
set_option maxRecDepth 20000 in
theorem tw_333 : Cond.fieldLink "NestedDeeds" 150 "NestedDeeds$Walker" "visited" "I" ∈ tb := tb_mem (List.mem_of_getElem? (i := 333) (by decide +kernel)) rfl
set_option maxRecDepth 20000 in
theorem tw_334 : Cond.fieldLink "NestedDeeds$Walker" 58 "NestedDeeds$Walker" "deepest" "I" ∈ tb := tb_mem (List.mem_of_getElem? (i := 334) (by decide +kernel)) rfl
set_option maxRecDepth 20000 in
theorem tw_335 : Cond.fieldLink "NestedDeeds" 153 "NestedDeeds$Walker" "deepest" "I" ∈ tb := tb_mem (List.mem_of_getElem? (i := 335) (by decide +kernel)) rfl
set_option maxRecDepth 20000 in
theorem tw_336 : Cond.fieldLink "NestedDeeds$Walker" 85 "NestedDeeds$Walker" "calls" "I" ∈ tb := tb_mem (List.mem_of_getElem? (i := 336) (by decide +kernel)) rfl
set_option maxRecDepth 20000 in
theorem tw_337 : Cond.fieldLink "NestedDeeds" 229 "NestedDeeds$Walker" "calls" "I" ∈ tb := tb_mem (List.mem_of_getElem? (i := 337) (by decide +kernel)) rfl
set_option maxRecDepth 20000 in
theorem tw_338 : Cond.fieldLink "NestedDeeds$Walker" 32 "NestedDeeds$Walker" "task" "LNestedDeeds$Task;" ∈ tb := tb_mem (List.mem_of_getElem? (i := 338) (by decide +kernel)) rfl
set_option maxRecDepth 20000 in
theorem tw_339 : Cond.fieldLink "NestedDeeds$Walker" 61 "NestedDeeds$Walker" "bottom" "I" ∈ tb := tb_mem (List.mem_of_getElem? (i := 339) (by decide +kernel)) rfl
set_option maxRecDepth 20000 in
theorem tw_340 : Cond.fieldLink "NestedDeeds$Walker" 113 "NestedDeeds$Walker" "level" "I" ∈ tb := tb_mem (List.mem_of_getElem? (i := 340) (by decide +kernel)) rfl
set_option maxRecDepth 20000 in
theorem tw_341 : Cond.fieldLink "NestedDeeds$Walker" 119 "NestedDeeds$Walker" "coming" "I" ∈ tb := tb_mem (List.mem_of_getElem? (i := 341) (by decide +kernel)) rfl
set_option maxRecDepth 20000 in
theorem tw_371 : Cond.fieldLink "NestedDeeds" 12 "NestedDeeds" "deeds" "LNestedDeeds$Deeds;" ∈ tb := tb_mem (List.mem_of_getElem? (i := 371) (by decide +kernel)) rfl
set_option maxRecDepth 20000 in
theorem tw_372 : Cond.fieldLink "NestedDeeds" 19 "NestedDeeds" "paper" "LNestedDeeds$Paper;" ∈ tb := tb_mem (List.mem_of_getElem? (i := 372) (by decide +kernel)) rfl
set_option maxRecDepth 20000 in
theorem tw_373 : Cond.fieldLink "NestedDeeds" 23 "NestedDeeds" "draft" "LNestedDeeds$Paper;" ∈ tb := tb_mem (List.mem_of_getElem? (i := 373) (by decide +kernel)) rfl
set_option maxRecDepth 20000 in
theorem tw_374 : Cond.fieldLink "NestedDeeds" 31 "NestedDeeds" "reader" "LNestedDeeds$Reader;" ∈ tb := tb_mem (List.mem_of_getElem? (i := 374) (by decide +kernel)) rfl
set_option maxRecDepth 20000 in
theorem tw_375 : Cond.fieldLink "NestedDeeds" 97 "NestedDeeds" "walker" "LNestedDeeds$Walker;" ∈ tb := tb_mem (List.mem_of_getElem? (i := 375) (by decide +kernel)) rfl
set_option maxRecDepth 20000 in
theorem tw_376 : Cond.fieldLink "NestedDeeds" 35 "NestedDeeds" "reckoned" "[J" ∈ tb := tb_mem (List.mem_of_getElem? (i := 376) (by decide +kernel)) rfl
set_option maxRecDepth 20000 in
theorem tw_377 : Cond.fieldLink "NestedDeeds" 44 "NestedDeeds" "visiting" "LNestedDeeds$Task;" ∈ tb := tb_mem (List.mem_of_getElem? (i := 377) (by decide +kernel)) rfl
set_option maxRecDepth 20000 in
theorem tw_378 : Cond.fieldLink "NestedDeeds" 53 "NestedDeeds" "weighing" "LNestedDeeds$Weighing;" ∈ tb := tb_mem (List.mem_of_getElem? (i := 378) (by decide +kernel)) rfl
set_option maxRecDepth 20000 in
theorem tw_379 : Cond.fieldLink "NestedDeeds" 60 "NestedDeeds" "marking" "LNestedDeeds$Marking;" ∈ tb := tb_mem (List.mem_of_getElem? (i := 379) (by decide +kernel)) rfl
set_option maxRecDepth 20000 in
theorem tw_380 : Cond.fieldLink "NestedDeeds" 67 "NestedDeeds" "comparing" "LNestedDeeds$Comparing;" ∈ tb := tb_mem (List.mem_of_getElem? (i := 380) (by decide +kernel)) rfl
set_option maxRecDepth 20000 in
theorem tw_381 : Cond.fieldLink "NestedDeeds" 74 "NestedDeeds" "writing" "LNestedDeeds$Writing;" ∈ tb := tb_mem (List.mem_of_getElem? (i := 381) (by decide +kernel)) rfl
set_option maxRecDepth 20000 in
theorem tw_382 : Cond.fieldLink "NestedDeeds" 81 "NestedDeeds" "finding" "LNestedDeeds$Finding;" ∈ tb := tb_mem (List.mem_of_getElem? (i := 382) (by decide +kernel)) rfl
set_option maxRecDepth 20000 in
theorem tw_383 : Cond.fieldLink "NestedDeeds" 88 "NestedDeeds" "copying" "LNestedDeeds$Copying;" ∈ tb := tb_mem (List.mem_of_getElem? (i := 383) (by decide +kernel)) rfl
set_option maxRecDepth 20000 in
theorem tw_411 : Cond.methodLink "NestedDeedsLaw" 13 ⟨"NestedDeeds", "deed", "(II)I"⟩ ∈ tb := tb_mem (List.mem_of_getElem? (i := 411) (by decide +kernel)) rfl
set_option maxRecDepth 20000 in
theorem tw_412 : Cond.instanceMethod ⟨"NestedDeeds", "deed", "(II)I"⟩ ∈ tb := tb_mem (List.mem_of_getElem? (i := 412) (by decide +kernel)) rfl
set_option maxRecDepth 20000 in
theorem tw_413 : Cond.selects "NestedDeeds" ⟨"NestedDeeds", "deed", "(II)I"⟩ ⟨"NestedDeeds", "deed", "(II)I"⟩ ∈ tb := tb_mem (List.mem_of_getElem? (i := 413) (by decide +kernel)) rfl
set_option maxRecDepth 20000 in
theorem tw_414 : Cond.code ⟨"NestedDeeds", "deed", "(II)I"⟩ prog_1_method_2_code 3 (some .int) ∈ tb := tb_mem (List.mem_of_getElem? (i := 414) (by decide +kernel)) rfl
set_option maxRecDepth 20000 in
theorem tw_415 : Cond.methodLink "NestedDeeds" 101 ⟨"NestedDeeds", "isKind", "(I)Z"⟩ ∈ tb := tb_mem (List.mem_of_getElem? (i := 415) (by decide +kernel)) rfl
set_option maxRecDepth 20000 in
theorem tw_416 : Cond.static ⟨"NestedDeeds", "isKind", "(I)Z"⟩ ∈ tb := tb_mem (List.mem_of_getElem? (i := 416) (by decide +kernel)) rfl
set_option maxRecDepth 20000 in
theorem tw_417 : Cond.code ⟨"NestedDeeds", "isKind", "(I)Z"⟩ prog_1_method_28_code 1 (some .boolean) ∈ tb := tb_mem (List.mem_of_getElem? (i := 417) (by decide +kernel)) rfl
set_option maxRecDepth 20000 in
theorem tw_418 : Cond.methodLink "NestedDeeds" 105 ⟨"NestedDeeds$Deeds", "hasRoom", "(II)Z"⟩ ∈ tb := tb_mem (List.mem_of_getElem? (i := 418) (by decide +kernel)) rfl
set_option maxRecDepth 20000 in
theorem tw_419 : Cond.instanceMethod ⟨"NestedDeeds$Deeds", "hasRoom", "(II)Z"⟩ ∈ tb := tb_mem (List.mem_of_getElem? (i := 419) (by decide +kernel)) rfl
set_option maxRecDepth 20000 in
theorem tw_420 : Cond.selects "NestedDeeds$Deeds" ⟨"NestedDeeds$Deeds", "hasRoom", "(II)Z"⟩ ⟨"NestedDeeds$Deeds", "hasRoom", "(II)Z"⟩ ∈ tb := tb_mem (List.mem_of_getElem? (i := 420) (by decide +kernel)) rfl
set_option maxRecDepth 20000 in
theorem tw_421 : Cond.code ⟨"NestedDeeds$Deeds", "hasRoom", "(II)Z"⟩ prog_4_method_3_code 3 (some .boolean) ∈ tb := tb_mem (List.mem_of_getElem? (i := 421) (by decide +kernel)) rfl
set_option maxRecDepth 20000 in
theorem tw_422 : Cond.methodLink "NestedDeeds$Deeds" 31 ⟨"NestedDeeds$Deeds", "allParts", "()I"⟩ ∈ tb := tb_mem (List.mem_of_getElem? (i := 422) (by decide +kernel)) rfl
set_option maxRecDepth 20000 in
theorem tw_423 : Cond.instanceMethod ⟨"NestedDeeds$Deeds", "allParts", "()I"⟩ ∈ tb := tb_mem (List.mem_of_getElem? (i := 423) (by decide +kernel)) rfl
set_option maxRecDepth 20000 in
theorem tw_424 : Cond.selects "NestedDeeds$Deeds" ⟨"NestedDeeds$Deeds", "allParts", "()I"⟩ ⟨"NestedDeeds$Deeds", "allParts", "()I"⟩ ∈ tb := tb_mem (List.mem_of_getElem? (i := 424) (by decide +kernel)) rfl
set_option maxRecDepth 20000 in
theorem tw_425 : Cond.code ⟨"NestedDeeds$Deeds", "allParts", "()I"⟩ prog_4_method_4_code 1 (some .int) ∈ tb := tb_mem (List.mem_of_getElem? (i := 425) (by decide +kernel)) rfl
set_option maxRecDepth 20000 in
theorem tw_426 : Cond.methodLink "NestedDeeds" 109 ⟨"NestedDeeds$Deeds", "add", "(II)I"⟩ ∈ tb := tb_mem (List.mem_of_getElem? (i := 426) (by decide +kernel)) rfl
set_option maxRecDepth 20000 in
theorem tw_427 : Cond.instanceMethod ⟨"NestedDeeds$Deeds", "add", "(II)I"⟩ ∈ tb := tb_mem (List.mem_of_getElem? (i := 427) (by decide +kernel)) rfl
set_option maxRecDepth 20000 in
theorem tw_428 : Cond.selects "NestedDeeds$Deeds" ⟨"NestedDeeds$Deeds", "add", "(II)I"⟩ ⟨"NestedDeeds$Deeds", "add", "(II)I"⟩ ∈ tb := tb_mem (List.mem_of_getElem? (i := 428) (by decide +kernel)) rfl
set_option maxRecDepth 20000 in
theorem tw_429 : Cond.code ⟨"NestedDeeds$Deeds", "add", "(II)I"⟩ prog_4_method_7_code 4 (some .int) ∈ tb := tb_mem (List.mem_of_getElem? (i := 429) (by decide +kernel)) rfl
set_option maxRecDepth 20000 in
theorem tw_430 : Cond.methodLink "NestedDeedsLaw" 18 ⟨"NestedDeeds", "enclose", "(II)I"⟩ ∈ tb := tb_mem (List.mem_of_getElem? (i := 430) (by decide +kernel)) rfl
set_option maxRecDepth 20000 in
theorem tw_431 : Cond.instanceMethod ⟨"NestedDeeds", "enclose", "(II)I"⟩ ∈ tb := tb_mem (List.mem_of_getElem? (i := 431) (by decide +kernel)) rfl
set_option maxRecDepth 20000 in
theorem tw_432 : Cond.selects "NestedDeeds" ⟨"NestedDeeds", "enclose", "(II)I"⟩ ⟨"NestedDeeds", "enclose", "(II)I"⟩ ∈ tb := tb_mem (List.mem_of_getElem? (i := 432) (by decide +kernel)) rfl
set_option maxRecDepth 20000 in
theorem tw_433 : Cond.code ⟨"NestedDeeds", "enclose", "(II)I"⟩ prog_1_method_3_code 3 (some .int) ∈ tb := tb_mem (List.mem_of_getElem? (i := 433) (by decide +kernel)) rfl
set_option maxRecDepth 20000 in
theorem tw_434 : Cond.methodLink "NestedDeeds" 113 ⟨"NestedDeeds$Deeds", "has", "(I)Z"⟩ ∈ tb := tb_mem (List.mem_of_getElem? (i := 434) (by decide +kernel)) rfl
set_option maxRecDepth 20000 in
theorem tw_435 : Cond.instanceMethod ⟨"NestedDeeds$Deeds", "has", "(I)Z"⟩ ∈ tb := tb_mem (List.mem_of_getElem? (i := 435) (by decide +kernel)) rfl
set_option maxRecDepth 20000 in
theorem tw_436 : Cond.selects "NestedDeeds$Deeds" ⟨"NestedDeeds$Deeds", "has", "(I)Z"⟩ ⟨"NestedDeeds$Deeds", "has", "(I)Z"⟩ ∈ tb := tb_mem (List.mem_of_getElem? (i := 436) (by decide +kernel)) rfl
set_option maxRecDepth 20000 in
theorem tw_437 : Cond.code ⟨"NestedDeeds$Deeds", "has", "(I)Z"⟩ prog_4_method_2_code 2 (some .boolean) ∈ tb := tb_mem (List.mem_of_getElem? (i := 437) (by decide +kernel)) rfl
set_option maxRecDepth 20000 in
theorem tw_438 : Cond.methodLink "NestedDeeds" 116 ⟨"NestedDeeds$Deeds", "addPart", "(II)V"⟩ ∈ tb := tb_mem (List.mem_of_getElem? (i := 438) (by decide +kernel)) rfl
set_option maxRecDepth 20000 in
theorem tw_439 : Cond.instanceMethod ⟨"NestedDeeds$Deeds", "addPart", "(II)V"⟩ ∈ tb := tb_mem (List.mem_of_getElem? (i := 439) (by decide +kernel)) rfl
set_option maxRecDepth 20000 in
theorem tw_440 : Cond.selects "NestedDeeds$Deeds" ⟨"NestedDeeds$Deeds", "addPart", "(II)V"⟩ ⟨"NestedDeeds$Deeds", "addPart", "(II)V"⟩ ∈ tb := tb_mem (List.mem_of_getElem? (i := 440) (by decide +kernel)) rfl
set_option maxRecDepth 20000 in
theorem tw_441 : Cond.code ⟨"NestedDeeds$Deeds", "addPart", "(II)V"⟩ prog_4_method_8_code 5 none ∈ tb := tb_mem (List.mem_of_getElem? (i := 441) (by decide +kernel)) rfl
set_option maxRecDepth 20000 in
theorem tw_442 : Cond.methodLink "NestedDeeds$Deeds" 35 ⟨"java/lang/System", "arraycopy", "(Ljava/lang/Object;ILjava/lang/Object;II)V"⟩ ∈ tb := tb_mem (List.mem_of_getElem? (i := 442) (by decide +kernel)) rfl
set_option maxRecDepth 20000 in
theorem tw_443 : Cond.static ⟨"java/lang/System", "arraycopy", "(Ljava/lang/Object;ILjava/lang/Object;II)V"⟩ ∈ tb := tb_mem (List.mem_of_getElem? (i := 443) (by decide +kernel)) rfl
set_option maxRecDepth 20000 in
theorem tw_444 : Cond.native ⟨"java/lang/System", "arraycopy", "(Ljava/lang/Object;ILjava/lang/Object;II)V"⟩ ∈ tb := tb_mem (List.mem_of_getElem? (i := 444) (by decide +kernel)) rfl
set_option maxRecDepth 20000 in
theorem tw_445 : Cond.methodLink "NestedDeeds" 120 ⟨"NestedDeeds$Deeds", "partsOf", "(I)I"⟩ ∈ tb := tb_mem (List.mem_of_getElem? (i := 445) (by decide +kernel)) rfl
set_option maxRecDepth 20000 in
theorem tw_446 : Cond.instanceMethod ⟨"NestedDeeds$Deeds", "partsOf", "(I)I"⟩ ∈ tb := tb_mem (List.mem_of_getElem? (i := 446) (by decide +kernel)) rfl
set_option maxRecDepth 20000 in
theorem tw_447 : Cond.selects "NestedDeeds$Deeds" ⟨"NestedDeeds$Deeds", "partsOf", "(I)I"⟩ ⟨"NestedDeeds$Deeds", "partsOf", "(I)I"⟩ ∈ tb := tb_mem (List.mem_of_getElem? (i := 447) (by decide +kernel)) rfl
set_option maxRecDepth 20000 in
theorem tw_448 : Cond.code ⟨"NestedDeeds$Deeds", "partsOf", "(I)I"⟩ prog_4_method_5_code 2 (some .int) ∈ tb := tb_mem (List.mem_of_getElem? (i := 448) (by decide +kernel)) rfl
set_option maxRecDepth 20000 in
theorem tw_449 : Cond.methodLink "NestedDeedsLaw" 22 ⟨"NestedDeeds", "chain", "(IIIII)I"⟩ ∈ tb := tb_mem (List.mem_of_getElem? (i := 449) (by decide +kernel)) rfl
set_option maxRecDepth 20000 in
theorem tw_450 : Cond.instanceMethod ⟨"NestedDeeds", "chain", "(IIIII)I"⟩ ∈ tb := tb_mem (List.mem_of_getElem? (i := 450) (by decide +kernel)) rfl
set_option maxRecDepth 20000 in
theorem tw_451 : Cond.selects "NestedDeeds" ⟨"NestedDeeds", "chain", "(IIIII)I"⟩ ⟨"NestedDeeds", "chain", "(IIIII)I"⟩ ∈ tb := tb_mem (List.mem_of_getElem? (i := 451) (by decide +kernel)) rfl
set_option maxRecDepth 20000 in
theorem tw_452 : Cond.code ⟨"NestedDeeds", "chain", "(IIIII)I"⟩ prog_1_method_4_code 10 (some .int) ∈ tb := tb_mem (List.mem_of_getElem? (i := 452) (by decide +kernel)) rfl
set_option maxRecDepth 20000 in
theorem tw_453 : Cond.methodLink "NestedDeeds" 124 ⟨"NestedDeeds", "link", "(IIII)I"⟩ ∈ tb := tb_mem (List.mem_of_getElem? (i := 453) (by decide +kernel)) rfl
set_option maxRecDepth 20000 in
theorem tw_455 : Cond.instanceMethod ⟨"NestedDeeds", "link", "(IIII)I"⟩ ∈ tb := tb_mem (List.mem_of_getElem? (i := 455) (by decide +kernel)) rfl
set_option maxRecDepth 20000 in
theorem tw_456 : Cond.code ⟨"NestedDeeds", "link", "(IIII)I"⟩ prog_1_method_5_code 7 (some .int) ∈ tb := tb_mem (List.mem_of_getElem? (i := 456) (by decide +kernel)) rfl
set_option maxRecDepth 20000 in
theorem tw_457 : Cond.methodLink "NestedDeedsLaw" 27 ⟨"NestedDeeds", "way", "(I)I"⟩ ∈ tb := tb_mem (List.mem_of_getElem? (i := 457) (by decide +kernel)) rfl
set_option maxRecDepth 20000 in
theorem tw_458 : Cond.instanceMethod ⟨"NestedDeeds", "way", "(I)I"⟩ ∈ tb := tb_mem (List.mem_of_getElem? (i := 458) (by decide +kernel)) rfl
set_option maxRecDepth 20000 in
theorem tw_459 : Cond.selects "NestedDeeds" ⟨"NestedDeeds", "way", "(I)I"⟩ ⟨"NestedDeeds", "way", "(I)I"⟩ ∈ tb := tb_mem (List.mem_of_getElem? (i := 459) (by decide +kernel)) rfl
set_option maxRecDepth 20000 in
theorem tw_460 : Cond.code ⟨"NestedDeeds", "way", "(I)I"⟩ prog_1_method_6_code 3 (some .int) ∈ tb := tb_mem (List.mem_of_getElem? (i := 460) (by decide +kernel)) rfl
set_option maxRecDepth 20000 in
theorem tw_461 : Cond.methodLink "NestedDeedsLaw" 32 ⟨"NestedDeeds", "meter", "(I)I"⟩ ∈ tb := tb_mem (List.mem_of_getElem? (i := 461) (by decide +kernel)) rfl
set_option maxRecDepth 20000 in
theorem tw_462 : Cond.instanceMethod ⟨"NestedDeeds", "meter", "(I)I"⟩ ∈ tb := tb_mem (List.mem_of_getElem? (i := 462) (by decide +kernel)) rfl
set_option maxRecDepth 20000 in
theorem tw_463 : Cond.selects "NestedDeeds" ⟨"NestedDeeds", "meter", "(I)I"⟩ ⟨"NestedDeeds", "meter", "(I)I"⟩ ∈ tb := tb_mem (List.mem_of_getElem? (i := 463) (by decide +kernel)) rfl
set_option maxRecDepth 20000 in
theorem tw_464 : Cond.code ⟨"NestedDeeds", "meter", "(I)I"⟩ prog_1_method_7_code 3 (some .int) ∈ tb := tb_mem (List.mem_of_getElem? (i := 464) (by decide +kernel)) rfl
set_option maxRecDepth 20000 in
theorem tw_465 : Cond.methodLink "NestedDeedsLaw" 36 ⟨"NestedDeeds", "of", "(II)I"⟩ ∈ tb := tb_mem (List.mem_of_getElem? (i := 465) (by decide +kernel)) rfl
set_option maxRecDepth 20000 in
theorem tw_466 : Cond.instanceMethod ⟨"NestedDeeds", "of", "(II)I"⟩ ∈ tb := tb_mem (List.mem_of_getElem? (i := 466) (by decide +kernel)) rfl
set_option maxRecDepth 20000 in
theorem tw_467 : Cond.selects "NestedDeeds" ⟨"NestedDeeds", "of", "(II)I"⟩ ⟨"NestedDeeds", "of", "(II)I"⟩ ∈ tb := tb_mem (List.mem_of_getElem? (i := 467) (by decide +kernel)) rfl
set_option maxRecDepth 20000 in
theorem tw_468 : Cond.code ⟨"NestedDeeds", "of", "(II)I"⟩ prog_1_method_8_code 3 (some .int) ∈ tb := tb_mem (List.mem_of_getElem? (i := 468) (by decide +kernel)) rfl
set_option maxRecDepth 20000 in
theorem tw_469 : Cond.constant "NestedDeeds" 135 (-2147483648 : Int32) ∈ tb := tb_mem (List.mem_of_getElem? (i := 469) (by decide +kernel)) rfl
set_option maxRecDepth 20000 in
theorem tw_470 : Cond.methodLink "NestedDeedsLaw" 40 ⟨"NestedDeeds", "part", "(II)I"⟩ ∈ tb := tb_mem (List.mem_of_getElem? (i := 470) (by decide +kernel)) rfl
set_option maxRecDepth 20000 in
theorem tw_471 : Cond.instanceMethod ⟨"NestedDeeds", "part", "(II)I"⟩ ∈ tb := tb_mem (List.mem_of_getElem? (i := 471) (by decide +kernel)) rfl
set_option maxRecDepth 20000 in
theorem tw_472 : Cond.selects "NestedDeeds" ⟨"NestedDeeds", "part", "(II)I"⟩ ⟨"NestedDeeds", "part", "(II)I"⟩ ∈ tb := tb_mem (List.mem_of_getElem? (i := 472) (by decide +kernel)) rfl
set_option maxRecDepth 20000 in
theorem tw_473 : Cond.code ⟨"NestedDeeds", "part", "(II)I"⟩ prog_1_method_9_code 3 (some .int) ∈ tb := tb_mem (List.mem_of_getElem? (i := 473) (by decide +kernel)) rfl
set_option maxRecDepth 20000 in
theorem tw_474 : Cond.methodLink "NestedDeeds" 143 ⟨"NestedDeeds$Deeds", "partAt", "(II)I"⟩ ∈ tb := tb_mem (List.mem_of_getElem? (i := 474) (by decide +kernel)) rfl
set_option maxRecDepth 20000 in
theorem tw_475 : Cond.instanceMethod ⟨"NestedDeeds$Deeds", "partAt", "(II)I"⟩ ∈ tb := tb_mem (List.mem_of_getElem? (i := 475) (by decide +kernel)) rfl
set_option maxRecDepth 20000 in
theorem tw_476 : Cond.selects "NestedDeeds$Deeds" ⟨"NestedDeeds$Deeds", "partAt", "(II)I"⟩ ⟨"NestedDeeds$Deeds", "partAt", "(II)I"⟩ ∈ tb := tb_mem (List.mem_of_getElem? (i := 476) (by decide +kernel)) rfl
set_option maxRecDepth 20000 in
theorem tw_477 : Cond.code ⟨"NestedDeeds$Deeds", "partAt", "(II)I"⟩ prog_4_method_6_code 3 (some .int) ∈ tb := tb_mem (List.mem_of_getElem? (i := 477) (by decide +kernel)) rfl
set_option maxRecDepth 20000 in
theorem tw_478 : Cond.methodLink "NestedDeedsLaw" 44 ⟨"NestedDeeds", "size", "(I)I"⟩ ∈ tb := tb_mem (List.mem_of_getElem? (i := 478) (by decide +kernel)) rfl
set_option maxRecDepth 20000 in
theorem tw_479 : Cond.instanceMethod ⟨"NestedDeeds", "size", "(I)I"⟩ ∈ tb := tb_mem (List.mem_of_getElem? (i := 479) (by decide +kernel)) rfl
set_option maxRecDepth 20000 in
theorem tw_480 : Cond.selects "NestedDeeds" ⟨"NestedDeeds", "size", "(I)I"⟩ ⟨"NestedDeeds", "size", "(I)I"⟩ ∈ tb := tb_mem (List.mem_of_getElem? (i := 480) (by decide +kernel)) rfl
set_option maxRecDepth 20000 in
theorem tw_481 : Cond.code ⟨"NestedDeeds", "size", "(I)I"⟩ prog_1_method_10_code 3 (some .int) ∈ tb := tb_mem (List.mem_of_getElem? (i := 481) (by decide +kernel)) rfl
set_option maxRecDepth 20000 in
theorem tw_482 : Cond.methodLink "NestedDeeds" 146 ⟨"NestedDeeds$Walker", "go", "(LNestedDeeds$Task;I)I"⟩ ∈ tb := tb_mem (List.mem_of_getElem? (i := 482) (by decide +kernel)) rfl
set_option maxRecDepth 20000 in
theorem tw_483 : Cond.instanceMethod ⟨"NestedDeeds$Walker", "go", "(LNestedDeeds$Task;I)I"⟩ ∈ tb := tb_mem (List.mem_of_getElem? (i := 483) (by decide +kernel)) rfl
set_option maxRecDepth 20000 in
theorem tw_484 : Cond.selects "NestedDeeds$Walker" ⟨"NestedDeeds$Walker", "go", "(LNestedDeeds$Task;I)I"⟩ ⟨"NestedDeeds$Walker", "go", "(LNestedDeeds$Task;I)I"⟩ ∈ tb := tb_mem (List.mem_of_getElem? (i := 484) (by decide +kernel)) rfl
set_option maxRecDepth 20000 in
theorem tw_485 : Cond.code ⟨"NestedDeeds$Walker", "go", "(LNestedDeeds$Task;I)I"⟩ prog_10_method_3_code 4 (some .int) ∈ tb := tb_mem (List.mem_of_getElem? (i := 485) (by decide +kernel)) rfl
set_option maxRecDepth 20000 in
theorem tw_486 : Cond.methodLink "NestedDeeds$Walker" 39 ⟨"NestedDeeds$Deeds", "has", "(I)Z"⟩ ∈ tb := tb_mem (List.mem_of_getElem? (i := 486) (by decide +kernel)) rfl
set_option maxRecDepth 20000 in
theorem tw_487 : Cond.methodLink "NestedDeeds$Walker" 45 ⟨"NestedDeeds$Walker", "refuse", "()I"⟩ ∈ tb := tb_mem (List.mem_of_getElem? (i := 487) (by decide +kernel)) rfl
set_option maxRecDepth 20000 in
theorem tw_488 : Cond.instanceMethod ⟨"NestedDeeds$Walker", "refuse", "()I"⟩ ∈ tb := tb_mem (List.mem_of_getElem? (i := 488) (by decide +kernel)) rfl
set_option maxRecDepth 20000 in
theorem tw_489 : Cond.selects "NestedDeeds$Walker" ⟨"NestedDeeds$Walker", "refuse", "()I"⟩ ⟨"NestedDeeds$Walker", "refuse", "()I"⟩ ∈ tb := tb_mem (List.mem_of_getElem? (i := 489) (by decide +kernel)) rfl
set_option maxRecDepth 20000 in
theorem tw_490 : Cond.code ⟨"NestedDeeds$Walker", "refuse", "()I"⟩ prog_10_method_2_code 1 (some .int) ∈ tb := tb_mem (List.mem_of_getElem? (i := 490) (by decide +kernel)) rfl
set_option maxRecDepth 20000 in
theorem tw_491 : Cond.methodLink "NestedDeeds$Walker" 64 ⟨"NestedDeeds$Walker", "visit", "(II)Z"⟩ ∈ tb := tb_mem (List.mem_of_getElem? (i := 491) (by decide +kernel)) rfl
set_option maxRecDepth 20000 in
theorem tw_493 : Cond.instanceMethod ⟨"NestedDeeds$Walker", "visit", "(II)Z"⟩ ∈ tb := tb_mem (List.mem_of_getElem? (i := 493) (by decide +kernel)) rfl
set_option maxRecDepth 20000 in
theorem tw_494 : Cond.code ⟨"NestedDeeds$Walker", "visit", "(II)Z"⟩ prog_10_method_5_code 3 (some .boolean) ∈ tb := tb_mem (List.mem_of_getElem? (i := 494) (by decide +kernel)) rfl
set_option maxRecDepth 20000 in
theorem tw_495 : Cond.methodLink "NestedDeeds$Walker" 88 ⟨"NestedDeeds$Walker", "halt", "(I)Z"⟩ ∈ tb := tb_mem (List.mem_of_getElem? (i := 495) (by decide +kernel)) rfl
set_option maxRecDepth 20000 in
theorem tw_497 : Cond.instanceMethod ⟨"NestedDeeds$Walker", "halt", "(I)Z"⟩ ∈ tb := tb_mem (List.mem_of_getElem? (i := 497) (by decide +kernel)) rfl
set_option maxRecDepth 20000 in
theorem tw_498 : Cond.code ⟨"NestedDeeds$Walker", "halt", "(I)Z"⟩ prog_10_method_6_code 2 (some .boolean) ∈ tb := tb_mem (List.mem_of_getElem? (i := 498) (by decide +kernel)) rfl
set_option maxRecDepth 20000 in
theorem tw_499 : Cond.methodLink "NestedDeeds$Walker" 91 ⟨"NestedDeeds$Task", "enter", "(II)V"⟩ ∈ tb := tb_mem (List.mem_of_getElem? (i := 499) (by decide +kernel)) rfl
set_option maxRecDepth 20000 in
theorem tw_500 : Cond.instanceMethod ⟨"NestedDeeds$Task", "enter", "(II)V"⟩ ∈ tb := tb_mem (List.mem_of_getElem? (i := 500) (by decide +kernel)) rfl
set_option maxRecDepth 20000 in
theorem tw_501 : Cond.selects "NestedDeeds$Task" ⟨"NestedDeeds$Task", "enter", "(II)V"⟩ ⟨"NestedDeeds$Task", "enter", "(II)V"⟩ ∈ tb := tb_mem (List.mem_of_getElem? (i := 501) (by decide +kernel)) rfl
set_option maxRecDepth 20000 in
theorem tw_502 : Cond.sameMethod "NestedDeeds$Task" "NestedDeeds$Task" "enter" "(II)V" ∈ tb := tb_mem (List.mem_of_getElem? (i := 502) (by decide +kernel)) rfl
set_option maxRecDepth 20000 in
theorem tw_503 : Cond.selects "NestedDeeds$Comparing" ⟨"NestedDeeds$Task", "enter", "(II)V"⟩ ⟨"NestedDeeds$Comparing", "enter", "(II)V"⟩ ∈ tb := tb_mem (List.mem_of_getElem? (i := 503) (by decide +kernel)) rfl
set_option maxRecDepth 20000 in
theorem tw_504 : Cond.instanceMethod ⟨"NestedDeeds$Comparing", "enter", "(II)V"⟩ ∈ tb := tb_mem (List.mem_of_getElem? (i := 504) (by decide +kernel)) rfl
set_option maxRecDepth 20000 in
theorem tw_505 : Cond.code ⟨"NestedDeeds$Comparing", "enter", "(II)V"⟩ prog_2_method_3_code 4 none ∈ tb := tb_mem (List.mem_of_getElem? (i := 505) (by decide +kernel)) rfl
set_option maxRecDepth 20000 in
theorem tw_506 : Cond.methodLink "NestedDeeds$Comparing" 27 ⟨"NestedDeeds$Deeds", "partsOf", "(I)I"⟩ ∈ tb := tb_mem (List.mem_of_getElem? (i := 506) (by decide +kernel)) rfl
set_option maxRecDepth 20000 in
theorem tw_507 : Cond.selects "NestedDeeds$Copying" ⟨"NestedDeeds$Task", "enter", "(II)V"⟩ ⟨"NestedDeeds$Copying", "enter", "(II)V"⟩ ∈ tb := tb_mem (List.mem_of_getElem? (i := 507) (by decide +kernel)) rfl
set_option maxRecDepth 20000 in
theorem tw_508 : Cond.instanceMethod ⟨"NestedDeeds$Copying", "enter", "(II)V"⟩ ∈ tb := tb_mem (List.mem_of_getElem? (i := 508) (by decide +kernel)) rfl
set_option maxRecDepth 20000 in
theorem tw_509 : Cond.code ⟨"NestedDeeds$Copying", "enter", "(II)V"⟩ prog_3_method_5_code 4 none ∈ tb := tb_mem (List.mem_of_getElem? (i := 509) (by decide +kernel)) rfl
set_option maxRecDepth 20000 in
theorem tw_510 : Cond.methodLink "NestedDeeds$Copying" 86 ⟨"NestedDeeds$Copying", "sortParts", "(II)V"⟩ ∈ tb := tb_mem (List.mem_of_getElem? (i := 510) (by decide +kernel)) rfl
set_option maxRecDepth 20000 in
theorem tw_512 : Cond.instanceMethod ⟨"NestedDeeds$Copying", "sortParts", "(II)V"⟩ ∈ tb := tb_mem (List.mem_of_getElem? (i := 512) (by decide +kernel)) rfl
set_option maxRecDepth 20000 in
theorem tw_513 : Cond.code ⟨"NestedDeeds$Copying", "sortParts", "(II)V"⟩ prog_3_method_6_code 6 none ∈ tb := tb_mem (List.mem_of_getElem? (i := 513) (by decide +kernel)) rfl
set_option maxRecDepth 20000 in
theorem tw_514 : Cond.selects "NestedDeeds$Finding" ⟨"NestedDeeds$Task", "enter", "(II)V"⟩ ⟨"NestedDeeds$Finding", "enter", "(II)V"⟩ ∈ tb := tb_mem (List.mem_of_getElem? (i := 514) (by decide +kernel)) rfl
set_option maxRecDepth 20000 in
theorem tw_515 : Cond.instanceMethod ⟨"NestedDeeds$Finding", "enter", "(II)V"⟩ ∈ tb := tb_mem (List.mem_of_getElem? (i := 515) (by decide +kernel)) rfl
set_option maxRecDepth 20000 in
theorem tw_516 : Cond.code ⟨"NestedDeeds$Finding", "enter", "(II)V"⟩ prog_5_method_3_code 3 none ∈ tb := tb_mem (List.mem_of_getElem? (i := 516) (by decide +kernel)) rfl
set_option maxRecDepth 20000 in
theorem tw_517 : Cond.selects "NestedDeeds$Marking" ⟨"NestedDeeds$Task", "enter", "(II)V"⟩ ⟨"NestedDeeds$Marking", "enter", "(II)V"⟩ ∈ tb := tb_mem (List.mem_of_getElem? (i := 517) (by decide +kernel)) rfl
set_option maxRecDepth 20000 in
theorem tw_518 : Cond.instanceMethod ⟨"NestedDeeds$Marking", "enter", "(II)V"⟩ ∈ tb := tb_mem (List.mem_of_getElem? (i := 518) (by decide +kernel)) rfl
set_option maxRecDepth 20000 in
theorem tw_519 : Cond.code ⟨"NestedDeeds$Marking", "enter", "(II)V"⟩ prog_6_method_5_code 3 none ∈ tb := tb_mem (List.mem_of_getElem? (i := 519) (by decide +kernel)) rfl
set_option maxRecDepth 20000 in
theorem tw_520 : Cond.methodLink "NestedDeeds$Marking" 32 ⟨"NestedDeeds$Marking", "begun", "(II)J"⟩ ∈ tb := tb_mem (List.mem_of_getElem? (i := 520) (by decide +kernel)) rfl
set_option maxRecDepth 20000 in
theorem tw_521 : Cond.static ⟨"NestedDeeds$Marking", "begun", "(II)J"⟩ ∈ tb := tb_mem (List.mem_of_getElem? (i := 521) (by decide +kernel)) rfl
set_option maxRecDepth 20000 in
theorem tw_522 : Cond.code ⟨"NestedDeeds$Marking", "begun", "(II)J"⟩ prog_6_method_2_code 2 (some .long) ∈ tb := tb_mem (List.mem_of_getElem? (i := 522) (by decide +kernel)) rfl
set_option maxRecDepth 20000 in
theorem tw_523 : Cond.constantLong "NestedDeeds$Marking" 13 (217 : Int64) ∈ tb := tb_mem (List.mem_of_getElem? (i := 523) (by decide +kernel)) rfl
set_option maxRecDepth 20000 in
theorem tw_524 : Cond.constantLong "NestedDeeds$Marking" 15 (31 : Int64) ∈ tb := tb_mem (List.mem_of_getElem? (i := 524) (by decide +kernel)) rfl
set_option maxRecDepth 20000 in
theorem tw_525 : Cond.selects "NestedDeeds$Weighing" ⟨"NestedDeeds$Task", "enter", "(II)V"⟩ ⟨"NestedDeeds$Weighing", "enter", "(II)V"⟩ ∈ tb := tb_mem (List.mem_of_getElem? (i := 525) (by decide +kernel)) rfl
set_option maxRecDepth 20000 in
theorem tw_526 : Cond.instanceMethod ⟨"NestedDeeds$Weighing", "enter", "(II)V"⟩ ∈ tb := tb_mem (List.mem_of_getElem? (i := 526) (by decide +kernel)) rfl
set_option maxRecDepth 20000 in
theorem tw_527 : Cond.code ⟨"NestedDeeds$Weighing", "enter", "(II)V"⟩ prog_11_method_2_code 4 none ∈ tb := tb_mem (List.mem_of_getElem? (i := 527) (by decide +kernel)) rfl
set_option maxRecDepth 20000 in
theorem tw_528 : Cond.methodLink "NestedDeeds$Weighing" 31 ⟨"NestedDeeds$Deeds", "partsOf", "(I)I"⟩ ∈ tb := tb_mem (List.mem_of_getElem? (i := 528) (by decide +kernel)) rfl
set_option maxRecDepth 20000 in
theorem tw_529 : Cond.selects "NestedDeeds$Writing" ⟨"NestedDeeds$Task", "enter", "(II)V"⟩ ⟨"NestedDeeds$Writing", "enter", "(II)V"⟩ ∈ tb := tb_mem (List.mem_of_getElem? (i := 529) (by decide +kernel)) rfl
set_option maxRecDepth 20000 in
theorem tw_530 : Cond.instanceMethod ⟨"NestedDeeds$Writing", "enter", "(II)V"⟩ ∈ tb := tb_mem (List.mem_of_getElem? (i := 530) (by decide +kernel)) rfl
set_option maxRecDepth 20000 in
theorem tw_531 : Cond.code ⟨"NestedDeeds$Writing", "enter", "(II)V"⟩ prog_12_method_2_code 3 none ∈ tb := tb_mem (List.mem_of_getElem? (i := 531) (by decide +kernel)) rfl
set_option maxRecDepth 20000 in
theorem tw_532 : Cond.methodLink "NestedDeeds$Writing" 25 ⟨"NestedDeeds$Paper", "add", "(I)V"⟩ ∈ tb := tb_mem (List.mem_of_getElem? (i := 532) (by decide +kernel)) rfl
set_option maxRecDepth 20000 in
theorem tw_533 : Cond.instanceMethod ⟨"NestedDeeds$Paper", "add", "(I)V"⟩ ∈ tb := tb_mem (List.mem_of_getElem? (i := 533) (by decide +kernel)) rfl
set_option maxRecDepth 20000 in
theorem tw_534 : Cond.selects "NestedDeeds$Paper" ⟨"NestedDeeds$Paper", "add", "(I)V"⟩ ⟨"NestedDeeds$Paper", "add", "(I)V"⟩ ∈ tb := tb_mem (List.mem_of_getElem? (i := 534) (by decide +kernel)) rfl
set_option maxRecDepth 20000 in
theorem tw_535 : Cond.code ⟨"NestedDeeds$Paper", "add", "(I)V"⟩ prog_7_method_4_code 2 none ∈ tb := tb_mem (List.mem_of_getElem? (i := 535) (by decide +kernel)) rfl
set_option maxRecDepth 20000 in
theorem tw_536 : Cond.methodLink "NestedDeeds$Writing" 34 ⟨"NestedDeeds$Paper", "addFigures", "(I)V"⟩ ∈ tb := tb_mem (List.mem_of_getElem? (i := 536) (by decide +kernel)) rfl
set_option maxRecDepth 20000 in
theorem tw_537 : Cond.instanceMethod ⟨"NestedDeeds$Paper", "addFigures", "(I)V"⟩ ∈ tb := tb_mem (List.mem_of_getElem? (i := 537) (by decide +kernel)) rfl
set_option maxRecDepth 20000 in
theorem tw_538 : Cond.selects "NestedDeeds$Paper" ⟨"NestedDeeds$Paper", "addFigures", "(I)V"⟩ ⟨"NestedDeeds$Paper", "addFigures", "(I)V"⟩ ∈ tb := tb_mem (List.mem_of_getElem? (i := 538) (by decide +kernel)) rfl
set_option maxRecDepth 20000 in
theorem tw_539 : Cond.code ⟨"NestedDeeds$Paper", "addFigures", "(I)V"⟩ prog_7_method_5_code 7 none ∈ tb := tb_mem (List.mem_of_getElem? (i := 539) (by decide +kernel)) rfl
set_option maxRecDepth 20000 in
theorem tw_540 : Cond.methodLink "NestedDeeds$Paper" 23 ⟨"java/lang/Math", "abs", "(J)J"⟩ ∈ tb := tb_mem (List.mem_of_getElem? (i := 540) (by decide +kernel)) rfl
set_option maxRecDepth 20000 in
theorem tw_541 : Cond.static ⟨"java/lang/Math", "abs", "(J)J"⟩ ∈ tb := tb_mem (List.mem_of_getElem? (i := 541) (by decide +kernel)) rfl
set_option maxRecDepth 20000 in
theorem tw_542 : Cond.code ⟨"java/lang/Math", "abs", "(J)J"⟩ prog_16_method_61_code 2 (some .long) ∈ tb := tb_mem (List.mem_of_getElem? (i := 542) (by decide +kernel)) rfl
set_option maxRecDepth 20000 in
theorem tw_543 : Cond.methodLink "NestedDeeds$Paper" 29 ⟨"NestedDeeds$Paper", "add", "(I)V"⟩ ∈ tb := tb_mem (List.mem_of_getElem? (i := 543) (by decide +kernel)) rfl
set_option maxRecDepth 20000 in
theorem tw_544 : Cond.constantLong "NestedDeeds$Paper" 33 (9 : Int64) ∈ tb := tb_mem (List.mem_of_getElem? (i := 544) (by decide +kernel)) rfl
set_option maxRecDepth 20000 in
theorem tw_545 : Cond.constantLong "NestedDeeds$Paper" 35 (10 : Int64) ∈ tb := tb_mem (List.mem_of_getElem? (i := 545) (by decide +kernel)) rfl
set_option maxRecDepth 20000 in
theorem tw_546 : Cond.constantLong "NestedDeeds$Paper" 37 (48 : Int64) ∈ tb := tb_mem (List.mem_of_getElem? (i := 546) (by decide +kernel)) rfl
set_option maxRecDepth 20000 in
theorem tw_547 : Cond.methodLink "NestedDeeds$Writing" 37 ⟨"NestedDeeds$Deeds", "partsOf", "(I)I"⟩ ∈ tb := tb_mem (List.mem_of_getElem? (i := 547) (by decide +kernel)) rfl
set_option maxRecDepth 20000 in
theorem tw_548 : Cond.code ⟨"NestedDeeds$Task", "enter", "(II)V"⟩ prog_9_method_2_code 3 none ∈ tb := tb_mem (List.mem_of_getElem? (i := 548) (by decide +kernel)) rfl
set_option maxRecDepth 20000 in
theorem tw_549 : Cond.methodLink "NestedDeeds$Walker" 68 ⟨"NestedDeeds$Walker", "byStack", "(I)V"⟩ ∈ tb := tb_mem (List.mem_of_getElem? (i := 549) (by decide +kernel)) rfl
set_option maxRecDepth 20000 in
theorem tw_551 : Cond.instanceMethod ⟨"NestedDeeds$Walker", "byStack", "(I)V"⟩ ∈ tb := tb_mem (List.mem_of_getElem? (i := 551) (by decide +kernel)) rfl
set_option maxRecDepth 20000 in
theorem tw_552 : Cond.code ⟨"NestedDeeds$Walker", "byStack", "(I)V"⟩ prog_10_method_9_code 5 none ∈ tb := tb_mem (List.mem_of_getElem? (i := 552) (by decide +kernel)) rfl
set_option maxRecDepth 20000 in
theorem tw_553 : Cond.constant "NestedDeeds$Walker" 112 (200000 : Int32) ∈ tb := tb_mem (List.mem_of_getElem? (i := 553) (by decide +kernel)) rfl
set_option maxRecDepth 20000 in
theorem tw_554 : Cond.methodLink "NestedDeeds$Walker" 102 ⟨"NestedDeeds$Walker", "nextPart", "(I)I"⟩ ∈ tb := tb_mem (List.mem_of_getElem? (i := 554) (by decide +kernel)) rfl
set_option maxRecDepth 20000 in
theorem tw_556 : Cond.instanceMethod ⟨"NestedDeeds$Walker", "nextPart", "(I)I"⟩ ∈ tb := tb_mem (List.mem_of_getElem? (i := 556) (by decide +kernel)) rfl
set_option maxRecDepth 20000 in
theorem tw_557 : Cond.code ⟨"NestedDeeds$Walker", "nextPart", "(I)I"⟩ prog_10_method_7_code 4 (some .int) ∈ tb := tb_mem (List.mem_of_getElem? (i := 557) (by decide +kernel)) rfl
set_option maxRecDepth 20000 in
theorem tw_558 : Cond.methodLink "NestedDeeds$Walker" 94 ⟨"NestedDeeds$Deeds", "partsOf", "(I)I"⟩ ∈ tb := tb_mem (List.mem_of_getElem? (i := 558) (by decide +kernel)) rfl
set_option maxRecDepth 20000 in
theorem tw_559 : Cond.methodLink "NestedDeeds$Walker" 98 ⟨"NestedDeeds$Task", "choose", "(III)I"⟩ ∈ tb := tb_mem (List.mem_of_getElem? (i := 559) (by decide +kernel)) rfl
set_option maxRecDepth 20000 in
theorem tw_560 : Cond.instanceMethod ⟨"NestedDeeds$Task", "choose", "(III)I"⟩ ∈ tb := tb_mem (List.mem_of_getElem? (i := 560) (by decide +kernel)) rfl
set_option maxRecDepth 20000 in
theorem tw_561 : Cond.selects "NestedDeeds$Task" ⟨"NestedDeeds$Task", "choose", "(III)I"⟩ ⟨"NestedDeeds$Task", "choose", "(III)I"⟩ ∈ tb := tb_mem (List.mem_of_getElem? (i := 561) (by decide +kernel)) rfl
set_option maxRecDepth 20000 in
theorem tw_562 : Cond.sameMethod "NestedDeeds$Task" "NestedDeeds$Task" "choose" "(III)I" ∈ tb := tb_mem (List.mem_of_getElem? (i := 562) (by decide +kernel)) rfl
set_option maxRecDepth 20000 in
theorem tw_563 : Cond.selects "NestedDeeds$Comparing" ⟨"NestedDeeds$Task", "choose", "(III)I"⟩ ⟨"NestedDeeds$Comparing", "choose", "(III)I"⟩ ∈ tb := tb_mem (List.mem_of_getElem? (i := 563) (by decide +kernel)) rfl
set_option maxRecDepth 20000 in
theorem tw_564 : Cond.instanceMethod ⟨"NestedDeeds$Comparing", "choose", "(III)I"⟩ ∈ tb := tb_mem (List.mem_of_getElem? (i := 564) (by decide +kernel)) rfl
set_option maxRecDepth 20000 in
theorem tw_565 : Cond.code ⟨"NestedDeeds$Comparing", "choose", "(III)I"⟩ prog_2_method_4_code 5 (some .int) ∈ tb := tb_mem (List.mem_of_getElem? (i := 565) (by decide +kernel)) rfl
set_option maxRecDepth 20000 in
theorem tw_566 : Cond.methodLink "NestedDeeds$Comparing" 35 ⟨"NestedDeeds$Deeds", "partAt", "(II)I"⟩ ∈ tb := tb_mem (List.mem_of_getElem? (i := 566) (by decide +kernel)) rfl
set_option maxRecDepth 20000 in
theorem tw_567 : Cond.selects "NestedDeeds$Copying" ⟨"NestedDeeds$Task", "choose", "(III)I"⟩ ⟨"NestedDeeds$Copying", "choose", "(III)I"⟩ ∈ tb := tb_mem (List.mem_of_getElem? (i := 567) (by decide +kernel)) rfl
set_option maxRecDepth 20000 in
theorem tw_568 : Cond.instanceMethod ⟨"NestedDeeds$Copying", "choose", "(III)I"⟩ ∈ tb := tb_mem (List.mem_of_getElem? (i := 568) (by decide +kernel)) rfl
set_option maxRecDepth 20000 in
theorem tw_569 : Cond.code ⟨"NestedDeeds$Copying", "choose", "(III)I"⟩ prog_3_method_7_code 4 (some .int) ∈ tb := tb_mem (List.mem_of_getElem? (i := 569) (by decide +kernel)) rfl
set_option maxRecDepth 20000 in
theorem tw_570 : Cond.methodLink "NestedDeeds$Copying" 90 ⟨"NestedDeeds$Deeds", "partAt", "(II)I"⟩ ∈ tb := tb_mem (List.mem_of_getElem? (i := 570) (by decide +kernel)) rfl
set_option maxRecDepth 20000 in
theorem tw_571 : Cond.selects "NestedDeeds$Finding" ⟨"NestedDeeds$Task", "choose", "(III)I"⟩ ⟨"NestedDeeds$Task", "choose", "(III)I"⟩ ∈ tb := tb_mem (List.mem_of_getElem? (i := 571) (by decide +kernel)) rfl
set_option maxRecDepth 20000 in
theorem tw_572 : Cond.selects "NestedDeeds$Marking" ⟨"NestedDeeds$Task", "choose", "(III)I"⟩ ⟨"NestedDeeds$Task", "choose", "(III)I"⟩ ∈ tb := tb_mem (List.mem_of_getElem? (i := 572) (by decide +kernel)) rfl
set_option maxRecDepth 20000 in
theorem tw_573 : Cond.selects "NestedDeeds$Weighing" ⟨"NestedDeeds$Task", "choose", "(III)I"⟩ ⟨"NestedDeeds$Weighing", "choose", "(III)I"⟩ ∈ tb := tb_mem (List.mem_of_getElem? (i := 573) (by decide +kernel)) rfl
set_option maxRecDepth 20000 in
theorem tw_574 : Cond.instanceMethod ⟨"NestedDeeds$Weighing", "choose", "(III)I"⟩ ∈ tb := tb_mem (List.mem_of_getElem? (i := 574) (by decide +kernel)) rfl
set_option maxRecDepth 20000 in
theorem tw_575 : Cond.code ⟨"NestedDeeds$Weighing", "choose", "(III)I"⟩ prog_11_method_3_code 4 (some .int) ∈ tb := tb_mem (List.mem_of_getElem? (i := 575) (by decide +kernel)) rfl
set_option maxRecDepth 20000 in
theorem tw_576 : Cond.methodLink "NestedDeeds$Weighing" 35 ⟨"NestedDeeds$Weighing", "placeOfChoice", "(III)I"⟩ ∈ tb := tb_mem (List.mem_of_getElem? (i := 576) (by decide +kernel)) rfl
set_option maxRecDepth 20000 in
theorem tw_578 : Cond.instanceMethod ⟨"NestedDeeds$Weighing", "placeOfChoice", "(III)I"⟩ ∈ tb := tb_mem (List.mem_of_getElem? (i := 578) (by decide +kernel)) rfl
set_option maxRecDepth 20000 in
theorem tw_579 : Cond.code ⟨"NestedDeeds$Weighing", "placeOfChoice", "(III)I"⟩ prog_11_method_4_code 6 (some .int) ∈ tb := tb_mem (List.mem_of_getElem? (i := 579) (by decide +kernel)) rfl
set_option maxRecDepth 20000 in
theorem tw_580 : Cond.methodLink "NestedDeeds$Weighing" 43 ⟨"java/lang/Math", "floorMod", "(JJ)J"⟩ ∈ tb := tb_mem (List.mem_of_getElem? (i := 580) (by decide +kernel)) rfl
set_option maxRecDepth 20000 in
theorem tw_581 : Cond.static ⟨"java/lang/Math", "floorMod", "(JJ)J"⟩ ∈ tb := tb_mem (List.mem_of_getElem? (i := 581) (by decide +kernel)) rfl
set_option maxRecDepth 20000 in
theorem tw_582 : Cond.code ⟨"java/lang/Math", "floorMod", "(JJ)J"⟩ prog_16_method_52_code 6 (some .long) ∈ tb := tb_mem (List.mem_of_getElem? (i := 582) (by decide +kernel)) rfl
set_option maxRecDepth 20000 in
theorem tw_583 : Cond.methodLink "NestedDeeds$Weighing" 39 ⟨"NestedDeeds$Deeds", "partAt", "(II)I"⟩ ∈ tb := tb_mem (List.mem_of_getElem? (i := 583) (by decide +kernel)) rfl
set_option maxRecDepth 20000 in
theorem tw_584 : Cond.selects "NestedDeeds$Writing" ⟨"NestedDeeds$Task", "choose", "(III)I"⟩ ⟨"NestedDeeds$Writing", "choose", "(III)I"⟩ ∈ tb := tb_mem (List.mem_of_getElem? (i := 584) (by decide +kernel)) rfl
set_option maxRecDepth 20000 in
theorem tw_585 : Cond.instanceMethod ⟨"NestedDeeds$Writing", "choose", "(III)I"⟩ ∈ tb := tb_mem (List.mem_of_getElem? (i := 585) (by decide +kernel)) rfl
set_option maxRecDepth 20000 in
theorem tw_586 : Cond.code ⟨"NestedDeeds$Writing", "choose", "(III)I"⟩ prog_12_method_3_code 4 (some .int) ∈ tb := tb_mem (List.mem_of_getElem? (i := 586) (by decide +kernel)) rfl
set_option maxRecDepth 20000 in
theorem tw_587 : Cond.methodLink "NestedDeeds$Writing" 48 ⟨"NestedDeeds$Deeds", "partAt", "(II)I"⟩ ∈ tb := tb_mem (List.mem_of_getElem? (i := 587) (by decide +kernel)) rfl
set_option maxRecDepth 20000 in
theorem tw_588 : Cond.code ⟨"NestedDeeds$Task", "choose", "(III)I"⟩ prog_9_method_3_code 4 (some .int) ∈ tb := tb_mem (List.mem_of_getElem? (i := 588) (by decide +kernel)) rfl
set_option maxRecDepth 20000 in
theorem tw_589 : Cond.methodLink "NestedDeeds$Task" 13 ⟨"NestedDeeds$Deeds", "partAt", "(II)I"⟩ ∈ tb := tb_mem (List.mem_of_getElem? (i := 589) (by decide +kernel)) rfl
set_option maxRecDepth 20000 in
theorem tw_590 : Cond.methodLink "NestedDeeds$Walker" 109 ⟨"NestedDeeds$Task", "leave", "(II)V"⟩ ∈ tb := tb_mem (List.mem_of_getElem? (i := 590) (by decide +kernel)) rfl
set_option maxRecDepth 20000 in
theorem tw_591 : Cond.instanceMethod ⟨"NestedDeeds$Task", "leave", "(II)V"⟩ ∈ tb := tb_mem (List.mem_of_getElem? (i := 591) (by decide +kernel)) rfl
set_option maxRecDepth 20000 in
theorem tw_592 : Cond.selects "NestedDeeds$Task" ⟨"NestedDeeds$Task", "leave", "(II)V"⟩ ⟨"NestedDeeds$Task", "leave", "(II)V"⟩ ∈ tb := tb_mem (List.mem_of_getElem? (i := 592) (by decide +kernel)) rfl
set_option maxRecDepth 20000 in
theorem tw_593 : Cond.sameMethod "NestedDeeds$Task" "NestedDeeds$Task" "leave" "(II)V" ∈ tb := tb_mem (List.mem_of_getElem? (i := 593) (by decide +kernel)) rfl
set_option maxRecDepth 20000 in
theorem tw_594 : Cond.selects "NestedDeeds$Comparing" ⟨"NestedDeeds$Task", "leave", "(II)V"⟩ ⟨"NestedDeeds$Task", "leave", "(II)V"⟩ ∈ tb := tb_mem (List.mem_of_getElem? (i := 594) (by decide +kernel)) rfl
set_option maxRecDepth 20000 in
theorem tw_595 : Cond.selects "NestedDeeds$Copying" ⟨"NestedDeeds$Task", "leave", "(II)V"⟩ ⟨"NestedDeeds$Copying", "leave", "(II)V"⟩ ∈ tb := tb_mem (List.mem_of_getElem? (i := 595) (by decide +kernel)) rfl
set_option maxRecDepth 20000 in
theorem tw_596 : Cond.instanceMethod ⟨"NestedDeeds$Copying", "leave", "(II)V"⟩ ∈ tb := tb_mem (List.mem_of_getElem? (i := 596) (by decide +kernel)) rfl
set_option maxRecDepth 20000 in
theorem tw_597 : Cond.code ⟨"NestedDeeds$Copying", "leave", "(II)V"⟩ prog_3_method_9_code 3 none ∈ tb := tb_mem (List.mem_of_getElem? (i := 597) (by decide +kernel)) rfl
set_option maxRecDepth 20000 in
theorem tw_598 : Cond.methodLink "NestedDeeds$Copying" 94 ⟨"NestedDeeds$Deeds", "bind", "(III)V"⟩ ∈ tb := tb_mem (List.mem_of_getElem? (i := 598) (by decide +kernel)) rfl
set_option maxRecDepth 20000 in
theorem tw_599 : Cond.instanceMethod ⟨"NestedDeeds$Deeds", "bind", "(III)V"⟩ ∈ tb := tb_mem (List.mem_of_getElem? (i := 599) (by decide +kernel)) rfl
set_option maxRecDepth 20000 in
theorem tw_600 : Cond.selects "NestedDeeds$Deeds" ⟨"NestedDeeds$Deeds", "bind", "(III)V"⟩ ⟨"NestedDeeds$Deeds", "bind", "(III)V"⟩ ∈ tb := tb_mem (List.mem_of_getElem? (i := 600) (by decide +kernel)) rfl
set_option maxRecDepth 20000 in
theorem tw_601 : Cond.code ⟨"NestedDeeds$Deeds", "bind", "(III)V"⟩ prog_4_method_9_code 6 none ∈ tb := tb_mem (List.mem_of_getElem? (i := 601) (by decide +kernel)) rfl
set_option maxRecDepth 20000 in
theorem tw_602 : Cond.methodLink "NestedDeeds$Deeds" 41 ⟨"NestedDeeds$Deeds", "add", "(II)I"⟩ ∈ tb := tb_mem (List.mem_of_getElem? (i := 602) (by decide +kernel)) rfl
set_option maxRecDepth 20000 in
theorem tw_603 : Cond.selects "NestedDeeds$Finding" ⟨"NestedDeeds$Task", "leave", "(II)V"⟩ ⟨"NestedDeeds$Task", "leave", "(II)V"⟩ ∈ tb := tb_mem (List.mem_of_getElem? (i := 603) (by decide +kernel)) rfl
set_option maxRecDepth 20000 in
theorem tw_604 : Cond.selects "NestedDeeds$Marking" ⟨"NestedDeeds$Task", "leave", "(II)V"⟩ ⟨"NestedDeeds$Marking", "leave", "(II)V"⟩ ∈ tb := tb_mem (List.mem_of_getElem? (i := 604) (by decide +kernel)) rfl
set_option maxRecDepth 20000 in
theorem tw_605 : Cond.instanceMethod ⟨"NestedDeeds$Marking", "leave", "(II)V"⟩ ∈ tb := tb_mem (List.mem_of_getElem? (i := 605) (by decide +kernel)) rfl
set_option maxRecDepth 20000 in
theorem tw_606 : Cond.code ⟨"NestedDeeds$Marking", "leave", "(II)V"⟩ prog_6_method_7_code 3 none ∈ tb := tb_mem (List.mem_of_getElem? (i := 606) (by decide +kernel)) rfl
end
section
set_option maxRecDepth 20000 in
theorem tw_607 : Cond.methodLink "NestedDeeds$Marking" 40 ⟨"NestedDeeds$Marking", "ended", "(J)J"⟩ ∈ tb := tb_mem (List.mem_of_getElem? (i := 607) (by decide +kernel)) rfl
set_option maxRecDepth 20000 in
theorem tw_608 : Cond.static ⟨"NestedDeeds$Marking", "ended", "(J)J"⟩ ∈ tb := tb_mem (List.mem_of_getElem? (i := 608) (by decide +kernel)) rfl
set_option maxRecDepth 20000 in
theorem tw_609 : Cond.code ⟨"NestedDeeds$Marking", "ended", "(J)J"⟩ prog_6_method_4_code 2 (some .long) ∈ tb := tb_mem (List.mem_of_getElem? (i := 609) (by decide +kernel)) rfl
set_option maxRecDepth 20000 in
theorem tw_610 : Cond.selects "NestedDeeds$Weighing" ⟨"NestedDeeds$Task", "leave", "(II)V"⟩ ⟨"NestedDeeds$Task", "leave", "(II)V"⟩ ∈ tb := tb_mem (List.mem_of_getElem? (i := 610) (by decide +kernel)) rfl
set_option maxRecDepth 20000 in
theorem tw_611 : Cond.selects "NestedDeeds$Writing" ⟨"NestedDeeds$Task", "leave", "(II)V"⟩ ⟨"NestedDeeds$Writing", "leave", "(II)V"⟩ ∈ tb := tb_mem (List.mem_of_getElem? (i := 611) (by decide +kernel)) rfl
set_option maxRecDepth 20000 in
theorem tw_612 : Cond.instanceMethod ⟨"NestedDeeds$Writing", "leave", "(II)V"⟩ ∈ tb := tb_mem (List.mem_of_getElem? (i := 612) (by decide +kernel)) rfl
set_option maxRecDepth 20000 in
theorem tw_613 : Cond.code ⟨"NestedDeeds$Writing", "leave", "(II)V"⟩ prog_12_method_4_code 3 none ∈ tb := tb_mem (List.mem_of_getElem? (i := 613) (by decide +kernel)) rfl
set_option maxRecDepth 20000 in
theorem tw_614 : Cond.code ⟨"NestedDeeds$Task", "leave", "(II)V"⟩ prog_9_method_5_code 3 none ∈ tb := tb_mem (List.mem_of_getElem? (i := 614) (by decide +kernel)) rfl
set_option maxRecDepth 20000 in
theorem tw_615 : Cond.methodLink "NestedDeeds$Walker" 105 ⟨"NestedDeeds$Task", "takeUp", "(III)V"⟩ ∈ tb := tb_mem (List.mem_of_getElem? (i := 615) (by decide +kernel)) rfl
set_option maxRecDepth 20000 in
theorem tw_616 : Cond.instanceMethod ⟨"NestedDeeds$Task", "takeUp", "(III)V"⟩ ∈ tb := tb_mem (List.mem_of_getElem? (i := 616) (by decide +kernel)) rfl
set_option maxRecDepth 20000 in
theorem tw_617 : Cond.selects "NestedDeeds$Task" ⟨"NestedDeeds$Task", "takeUp", "(III)V"⟩ ⟨"NestedDeeds$Task", "takeUp", "(III)V"⟩ ∈ tb := tb_mem (List.mem_of_getElem? (i := 617) (by decide +kernel)) rfl
set_option maxRecDepth 20000 in
theorem tw_618 : Cond.sameMethod "NestedDeeds$Task" "NestedDeeds$Task" "takeUp" "(III)V" ∈ tb := tb_mem (List.mem_of_getElem? (i := 618) (by decide +kernel)) rfl
set_option maxRecDepth 20000 in
theorem tw_619 : Cond.selects "NestedDeeds$Comparing" ⟨"NestedDeeds$Task", "takeUp", "(III)V"⟩ ⟨"NestedDeeds$Task", "takeUp", "(III)V"⟩ ∈ tb := tb_mem (List.mem_of_getElem? (i := 619) (by decide +kernel)) rfl
set_option maxRecDepth 20000 in
theorem tw_620 : Cond.selects "NestedDeeds$Copying" ⟨"NestedDeeds$Task", "takeUp", "(III)V"⟩ ⟨"NestedDeeds$Copying", "takeUp", "(III)V"⟩ ∈ tb := tb_mem (List.mem_of_getElem? (i := 620) (by decide +kernel)) rfl
set_option maxRecDepth 20000 in
theorem tw_621 : Cond.instanceMethod ⟨"NestedDeeds$Copying", "takeUp", "(III)V"⟩ ∈ tb := tb_mem (List.mem_of_getElem? (i := 621) (by decide +kernel)) rfl
set_option maxRecDepth 20000 in
theorem tw_622 : Cond.code ⟨"NestedDeeds$Copying", "takeUp", "(III)V"⟩ prog_3_method_8_code 4 none ∈ tb := tb_mem (List.mem_of_getElem? (i := 622) (by decide +kernel)) rfl
set_option maxRecDepth 20000 in
theorem tw_623 : Cond.selects "NestedDeeds$Finding" ⟨"NestedDeeds$Task", "takeUp", "(III)V"⟩ ⟨"NestedDeeds$Task", "takeUp", "(III)V"⟩ ∈ tb := tb_mem (List.mem_of_getElem? (i := 623) (by decide +kernel)) rfl
set_option maxRecDepth 20000 in
theorem tw_624 : Cond.selects "NestedDeeds$Marking" ⟨"NestedDeeds$Task", "takeUp", "(III)V"⟩ ⟨"NestedDeeds$Marking", "takeUp", "(III)V"⟩ ∈ tb := tb_mem (List.mem_of_getElem? (i := 624) (by decide +kernel)) rfl
set_option maxRecDepth 20000 in
theorem tw_625 : Cond.instanceMethod ⟨"NestedDeeds$Marking", "takeUp", "(III)V"⟩ ∈ tb := tb_mem (List.mem_of_getElem? (i := 625) (by decide +kernel)) rfl
set_option maxRecDepth 20000 in
theorem tw_626 : Cond.code ⟨"NestedDeeds$Marking", "takeUp", "(III)V"⟩ prog_6_method_6_code 4 none ∈ tb := tb_mem (List.mem_of_getElem? (i := 626) (by decide +kernel)) rfl
set_option maxRecDepth 20000 in
theorem tw_627 : Cond.methodLink "NestedDeeds$Marking" 36 ⟨"NestedDeeds$Marking", "with", "(JJ)J"⟩ ∈ tb := tb_mem (List.mem_of_getElem? (i := 627) (by decide +kernel)) rfl
set_option maxRecDepth 20000 in
theorem tw_628 : Cond.static ⟨"NestedDeeds$Marking", "with", "(JJ)J"⟩ ∈ tb := tb_mem (List.mem_of_getElem? (i := 628) (by decide +kernel)) rfl
set_option maxRecDepth 20000 in
theorem tw_629 : Cond.code ⟨"NestedDeeds$Marking", "with", "(JJ)J"⟩ prog_6_method_3_code 4 (some .long) ∈ tb := tb_mem (List.mem_of_getElem? (i := 629) (by decide +kernel)) rfl
set_option maxRecDepth 20000 in
theorem tw_630 : Cond.constantLong "NestedDeeds$Marking" 17 (1000003 : Int64) ∈ tb := tb_mem (List.mem_of_getElem? (i := 630) (by decide +kernel)) rfl
set_option maxRecDepth 20000 in
theorem tw_631 : Cond.selects "NestedDeeds$Weighing" ⟨"NestedDeeds$Task", "takeUp", "(III)V"⟩ ⟨"NestedDeeds$Weighing", "takeUp", "(III)V"⟩ ∈ tb := tb_mem (List.mem_of_getElem? (i := 631) (by decide +kernel)) rfl
set_option maxRecDepth 20000 in
theorem tw_632 : Cond.instanceMethod ⟨"NestedDeeds$Weighing", "takeUp", "(III)V"⟩ ∈ tb := tb_mem (List.mem_of_getElem? (i := 632) (by decide +kernel)) rfl
set_option maxRecDepth 20000 in
theorem tw_633 : Cond.code ⟨"NestedDeeds$Weighing", "takeUp", "(III)V"⟩ prog_11_method_5_code 8 none ∈ tb := tb_mem (List.mem_of_getElem? (i := 633) (by decide +kernel)) rfl
set_option maxRecDepth 20000 in
theorem tw_634 : Cond.methodLink "NestedDeeds$Weighing" 49 ⟨"java/lang/Math", "max", "(JJ)J"⟩ ∈ tb := tb_mem (List.mem_of_getElem? (i := 634) (by decide +kernel)) rfl
set_option maxRecDepth 20000 in
theorem tw_635 : Cond.static ⟨"java/lang/Math", "max", "(JJ)J"⟩ ∈ tb := tb_mem (List.mem_of_getElem? (i := 635) (by decide +kernel)) rfl
set_option maxRecDepth 20000 in
theorem tw_636 : Cond.code ⟨"java/lang/Math", "max", "(JJ)J"⟩ prog_16_method_66_code 4 (some .long) ∈ tb := tb_mem (List.mem_of_getElem? (i := 636) (by decide +kernel)) rfl
set_option maxRecDepth 20000 in
theorem tw_637 : Cond.methodLink "NestedDeeds$Weighing" 52 ⟨"java/lang/Math", "min", "(JJ)J"⟩ ∈ tb := tb_mem (List.mem_of_getElem? (i := 637) (by decide +kernel)) rfl
set_option maxRecDepth 20000 in
theorem tw_638 : Cond.static ⟨"java/lang/Math", "min", "(JJ)J"⟩ ∈ tb := tb_mem (List.mem_of_getElem? (i := 638) (by decide +kernel)) rfl
set_option maxRecDepth 20000 in
theorem tw_639 : Cond.code ⟨"java/lang/Math", "min", "(JJ)J"⟩ prog_16_method_70_code 4 (some .long) ∈ tb := tb_mem (List.mem_of_getElem? (i := 639) (by decide +kernel)) rfl
set_option maxRecDepth 20000 in
theorem tw_640 : Cond.methodLink "NestedDeeds$Weighing" 55 ⟨"NestedDeeds$Weighing", "takeUpLike", "(IIJ)V"⟩ ∈ tb := tb_mem (List.mem_of_getElem? (i := 640) (by decide +kernel)) rfl
set_option maxRecDepth 20000 in
theorem tw_642 : Cond.instanceMethod ⟨"NestedDeeds$Weighing", "takeUpLike", "(IIJ)V"⟩ ∈ tb := tb_mem (List.mem_of_getElem? (i := 642) (by decide +kernel)) rfl
set_option maxRecDepth 20000 in
theorem tw_643 : Cond.code ⟨"NestedDeeds$Weighing", "takeUpLike", "(IIJ)V"⟩ prog_11_method_6_code 5 none ∈ tb := tb_mem (List.mem_of_getElem? (i := 643) (by decide +kernel)) rfl
set_option maxRecDepth 20000 in
theorem tw_644 : Cond.methodLink "NestedDeeds$Weighing" 59 ⟨"java/lang/Long", "rotateLeft", "(JI)J"⟩ ∈ tb := tb_mem (List.mem_of_getElem? (i := 644) (by decide +kernel)) rfl
set_option maxRecDepth 20000 in
theorem tw_645 : Cond.static ⟨"java/lang/Long", "rotateLeft", "(JI)J"⟩ ∈ tb := tb_mem (List.mem_of_getElem? (i := 645) (by decide +kernel)) rfl
set_option maxRecDepth 20000 in
theorem tw_646 : Cond.code ⟨"java/lang/Long", "rotateLeft", "(JI)J"⟩ prog_15_method_51_code 3 (some .long) ∈ tb := tb_mem (List.mem_of_getElem? (i := 646) (by decide +kernel)) rfl
set_option maxRecDepth 20000 in
theorem tw_647 : Cond.selects "NestedDeeds$Writing" ⟨"NestedDeeds$Task", "takeUp", "(III)V"⟩ ⟨"NestedDeeds$Task", "takeUp", "(III)V"⟩ ∈ tb := tb_mem (List.mem_of_getElem? (i := 647) (by decide +kernel)) rfl
set_option maxRecDepth 20000 in
theorem tw_648 : Cond.code ⟨"NestedDeeds$Task", "takeUp", "(III)V"⟩ prog_9_method_4_code 4 none ∈ tb := tb_mem (List.mem_of_getElem? (i := 648) (by decide +kernel)) rfl
set_option maxRecDepth 20000 in
theorem tw_649 : Cond.methodLink "NestedDeeds$Walker" 72 ⟨"NestedDeeds$Walker", "bySteps", "()V"⟩ ∈ tb := tb_mem (List.mem_of_getElem? (i := 649) (by decide +kernel)) rfl
set_option maxRecDepth 20000 in
theorem tw_651 : Cond.instanceMethod ⟨"NestedDeeds$Walker", "bySteps", "()V"⟩ ∈ tb := tb_mem (List.mem_of_getElem? (i := 651) (by decide +kernel)) rfl
set_option maxRecDepth 20000 in
theorem tw_652 : Cond.code ⟨"NestedDeeds$Walker", "bySteps", "()V"⟩ prog_10_method_10_code 3 none ∈ tb := tb_mem (List.mem_of_getElem? (i := 652) (by decide +kernel)) rfl
set_option maxRecDepth 20000 in
theorem tw_653 : Cond.methodLink "NestedDeeds$Walker" 116 ⟨"NestedDeeds$Walker", "take", "(I)I"⟩ ∈ tb := tb_mem (List.mem_of_getElem? (i := 653) (by decide +kernel)) rfl
set_option maxRecDepth 20000 in
theorem tw_655 : Cond.instanceMethod ⟨"NestedDeeds$Walker", "take", "(I)I"⟩ ∈ tb := tb_mem (List.mem_of_getElem? (i := 655) (by decide +kernel)) rfl
set_option maxRecDepth 20000 in
theorem tw_656 : Cond.code ⟨"NestedDeeds$Walker", "take", "(I)I"⟩ prog_10_method_11_code 2 (some .int) ∈ tb := tb_mem (List.mem_of_getElem? (i := 656) (by decide +kernel)) rfl
set_option maxRecDepth 20000 in
theorem tw_657 : Cond.methodLink "NestedDeeds$Walker" 75 ⟨"java/lang/Math", "min", "(II)I"⟩ ∈ tb := tb_mem (List.mem_of_getElem? (i := 657) (by decide +kernel)) rfl
set_option maxRecDepth 20000 in
theorem tw_658 : Cond.static ⟨"java/lang/Math", "min", "(II)I"⟩ ∈ tb := tb_mem (List.mem_of_getElem? (i := 658) (by decide +kernel)) rfl
set_option maxRecDepth 20000 in
theorem tw_659 : Cond.code ⟨"java/lang/Math", "min", "(II)I"⟩ prog_16_method_69_code 2 (some .int) ∈ tb := tb_mem (List.mem_of_getElem? (i := 659) (by decide +kernel)) rfl
set_option maxRecDepth 20000 in
theorem tw_660 : Cond.methodLink "NestedDeeds$Walker" 81 ⟨"NestedDeeds$Walker", "byCalls", "(II)V"⟩ ∈ tb := tb_mem (List.mem_of_getElem? (i := 660) (by decide +kernel)) rfl
set_option maxRecDepth 20000 in
theorem tw_662 : Cond.instanceMethod ⟨"NestedDeeds$Walker", "byCalls", "(II)V"⟩ ∈ tb := tb_mem (List.mem_of_getElem? (i := 662) (by decide +kernel)) rfl
set_option maxRecDepth 20000 in
theorem tw_663 : Cond.code ⟨"NestedDeeds$Walker", "byCalls", "(II)V"⟩ prog_10_method_8_code 5 none ∈ tb := tb_mem (List.mem_of_getElem? (i := 663) (by decide +kernel)) rfl
set_option maxRecDepth 20000 in
theorem tw_664 : Cond.methodLink "NestedDeedsLaw" 48 ⟨"NestedDeeds", "depth", "(I)I"⟩ ∈ tb := tb_mem (List.mem_of_getElem? (i := 664) (by decide +kernel)) rfl
set_option maxRecDepth 20000 in
theorem tw_665 : Cond.instanceMethod ⟨"NestedDeeds", "depth", "(I)I"⟩ ∈ tb := tb_mem (List.mem_of_getElem? (i := 665) (by decide +kernel)) rfl
set_option maxRecDepth 20000 in
theorem tw_666 : Cond.selects "NestedDeeds" ⟨"NestedDeeds", "depth", "(I)I"⟩ ⟨"NestedDeeds", "depth", "(I)I"⟩ ∈ tb := tb_mem (List.mem_of_getElem? (i := 666) (by decide +kernel)) rfl
set_option maxRecDepth 20000 in
theorem tw_667 : Cond.code ⟨"NestedDeeds", "depth", "(I)I"⟩ prog_1_method_11_code 3 (some .int) ∈ tb := tb_mem (List.mem_of_getElem? (i := 667) (by decide +kernel)) rfl
set_option maxRecDepth 20000 in
theorem tw_668 : Cond.methodLink "NestedDeedsLaw" 52 ⟨"NestedDeeds", "worth", "(I)J"⟩ ∈ tb := tb_mem (List.mem_of_getElem? (i := 668) (by decide +kernel)) rfl
set_option maxRecDepth 20000 in
theorem tw_669 : Cond.instanceMethod ⟨"NestedDeeds", "worth", "(I)J"⟩ ∈ tb := tb_mem (List.mem_of_getElem? (i := 669) (by decide +kernel)) rfl
set_option maxRecDepth 20000 in
theorem tw_670 : Cond.selects "NestedDeeds" ⟨"NestedDeeds", "worth", "(I)J"⟩ ⟨"NestedDeeds", "worth", "(I)J"⟩ ∈ tb := tb_mem (List.mem_of_getElem? (i := 670) (by decide +kernel)) rfl
set_option maxRecDepth 20000 in
theorem tw_671 : Cond.code ⟨"NestedDeeds", "worth", "(I)J"⟩ prog_1_method_12_code 2 (some .long) ∈ tb := tb_mem (List.mem_of_getElem? (i := 671) (by decide +kernel)) rfl
set_option maxRecDepth 20000 in
theorem tw_672 : Cond.methodLink "NestedDeedsLaw" 57 ⟨"NestedDeeds", "mark", "(I)J"⟩ ∈ tb := tb_mem (List.mem_of_getElem? (i := 672) (by decide +kernel)) rfl
set_option maxRecDepth 20000 in
theorem tw_673 : Cond.instanceMethod ⟨"NestedDeeds", "mark", "(I)J"⟩ ∈ tb := tb_mem (List.mem_of_getElem? (i := 673) (by decide +kernel)) rfl
set_option maxRecDepth 20000 in
theorem tw_674 : Cond.selects "NestedDeeds" ⟨"NestedDeeds", "mark", "(I)J"⟩ ⟨"NestedDeeds", "mark", "(I)J"⟩ ∈ tb := tb_mem (List.mem_of_getElem? (i := 674) (by decide +kernel)) rfl
set_option maxRecDepth 20000 in
theorem tw_675 : Cond.code ⟨"NestedDeeds", "mark", "(I)J"⟩ prog_1_method_13_code 2 (some .long) ∈ tb := tb_mem (List.mem_of_getElem? (i := 675) (by decide +kernel)) rfl
set_option maxRecDepth 20000 in
theorem tw_676 : Cond.methodLink "NestedDeedsLaw" 61 ⟨"NestedDeeds", "alike", "(II)I"⟩ ∈ tb := tb_mem (List.mem_of_getElem? (i := 676) (by decide +kernel)) rfl
set_option maxRecDepth 20000 in
theorem tw_677 : Cond.instanceMethod ⟨"NestedDeeds", "alike", "(II)I"⟩ ∈ tb := tb_mem (List.mem_of_getElem? (i := 677) (by decide +kernel)) rfl
set_option maxRecDepth 20000 in
theorem tw_678 : Cond.selects "NestedDeeds" ⟨"NestedDeeds", "alike", "(II)I"⟩ ⟨"NestedDeeds", "alike", "(II)I"⟩ ∈ tb := tb_mem (List.mem_of_getElem? (i := 678) (by decide +kernel)) rfl
set_option maxRecDepth 20000 in
theorem tw_679 : Cond.code ⟨"NestedDeeds", "alike", "(II)I"⟩ prog_1_method_14_code 4 (some .int) ∈ tb := tb_mem (List.mem_of_getElem? (i := 679) (by decide +kernel)) rfl
set_option maxRecDepth 20000 in
theorem tw_680 : Cond.methodLink "NestedDeeds" 156 ⟨"NestedDeeds$Walker", "refuse", "()I"⟩ ∈ tb := tb_mem (List.mem_of_getElem? (i := 680) (by decide +kernel)) rfl
set_option maxRecDepth 20000 in
theorem tw_681 : Cond.methodLink "NestedDeeds" 160 ⟨"NestedDeeds$Comparing", "begin", "(I)V"⟩ ∈ tb := tb_mem (List.mem_of_getElem? (i := 681) (by decide +kernel)) rfl
set_option maxRecDepth 20000 in
theorem tw_682 : Cond.instanceMethod ⟨"NestedDeeds$Comparing", "begin", "(I)V"⟩ ∈ tb := tb_mem (List.mem_of_getElem? (i := 682) (by decide +kernel)) rfl
set_option maxRecDepth 20000 in
theorem tw_683 : Cond.selects "NestedDeeds$Comparing" ⟨"NestedDeeds$Comparing", "begin", "(I)V"⟩ ⟨"NestedDeeds$Comparing", "begin", "(I)V"⟩ ∈ tb := tb_mem (List.mem_of_getElem? (i := 683) (by decide +kernel)) rfl
set_option maxRecDepth 20000 in
theorem tw_684 : Cond.code ⟨"NestedDeeds$Comparing", "begin", "(I)V"⟩ prog_2_method_2_code 2 none ∈ tb := tb_mem (List.mem_of_getElem? (i := 684) (by decide +kernel)) rfl
set_option maxRecDepth 20000 in
theorem tw_685 : Cond.methodLink "NestedDeedsLaw" 65 ⟨"NestedDeeds", "write", "(I)I"⟩ ∈ tb := tb_mem (List.mem_of_getElem? (i := 685) (by decide +kernel)) rfl
set_option maxRecDepth 20000 in
theorem tw_686 : Cond.instanceMethod ⟨"NestedDeeds", "write", "(I)I"⟩ ∈ tb := tb_mem (List.mem_of_getElem? (i := 686) (by decide +kernel)) rfl
set_option maxRecDepth 20000 in
theorem tw_687 : Cond.selects "NestedDeeds" ⟨"NestedDeeds", "write", "(I)I"⟩ ⟨"NestedDeeds", "write", "(I)I"⟩ ∈ tb := tb_mem (List.mem_of_getElem? (i := 687) (by decide +kernel)) rfl
set_option maxRecDepth 20000 in
theorem tw_688 : Cond.code ⟨"NestedDeeds", "write", "(I)I"⟩ prog_1_method_15_code 3 (some .int) ∈ tb := tb_mem (List.mem_of_getElem? (i := 688) (by decide +kernel)) rfl
set_option maxRecDepth 20000 in
theorem tw_689 : Cond.methodLink "NestedDeeds" 168 ⟨"NestedDeeds$Paper", "clear", "()V"⟩ ∈ tb := tb_mem (List.mem_of_getElem? (i := 689) (by decide +kernel)) rfl
set_option maxRecDepth 20000 in
theorem tw_690 : Cond.instanceMethod ⟨"NestedDeeds$Paper", "clear", "()V"⟩ ∈ tb := tb_mem (List.mem_of_getElem? (i := 690) (by decide +kernel)) rfl
set_option maxRecDepth 20000 in
theorem tw_691 : Cond.selects "NestedDeeds$Paper" ⟨"NestedDeeds$Paper", "clear", "()V"⟩ ⟨"NestedDeeds$Paper", "clear", "()V"⟩ ∈ tb := tb_mem (List.mem_of_getElem? (i := 691) (by decide +kernel)) rfl
set_option maxRecDepth 20000 in
theorem tw_692 : Cond.code ⟨"NestedDeeds$Paper", "clear", "()V"⟩ prog_7_method_2_code 1 none ∈ tb := tb_mem (List.mem_of_getElem? (i := 692) (by decide +kernel)) rfl
set_option maxRecDepth 20000 in
theorem tw_693 : Cond.methodLink "NestedDeeds" 174 ⟨"NestedDeeds$Paper", "become", "(LNestedDeeds$Paper;)V"⟩ ∈ tb := tb_mem (List.mem_of_getElem? (i := 693) (by decide +kernel)) rfl
set_option maxRecDepth 20000 in
theorem tw_694 : Cond.instanceMethod ⟨"NestedDeeds$Paper", "become", "(LNestedDeeds$Paper;)V"⟩ ∈ tb := tb_mem (List.mem_of_getElem? (i := 694) (by decide +kernel)) rfl
set_option maxRecDepth 20000 in
theorem tw_695 : Cond.selects "NestedDeeds$Paper" ⟨"NestedDeeds$Paper", "become", "(LNestedDeeds$Paper;)V"⟩ ⟨"NestedDeeds$Paper", "become", "(LNestedDeeds$Paper;)V"⟩ ∈ tb := tb_mem (List.mem_of_getElem? (i := 695) (by decide +kernel)) rfl
set_option maxRecDepth 20000 in
theorem tw_696 : Cond.code ⟨"NestedDeeds$Paper", "become", "(LNestedDeeds$Paper;)V"⟩ prog_7_method_6_code 2 none ∈ tb := tb_mem (List.mem_of_getElem? (i := 696) (by decide +kernel)) rfl
set_option maxRecDepth 20000 in
theorem tw_697 : Cond.methodLink "NestedDeeds$Paper" 39 ⟨"java/lang/System", "arraycopy", "(Ljava/lang/Object;ILjava/lang/Object;II)V"⟩ ∈ tb := tb_mem (List.mem_of_getElem? (i := 697) (by decide +kernel)) rfl
set_option maxRecDepth 20000 in
theorem tw_698 : Cond.methodLink "NestedDeedsLaw" 69 ⟨"NestedDeeds", "find", "(III)I"⟩ ∈ tb := tb_mem (List.mem_of_getElem? (i := 698) (by decide +kernel)) rfl
set_option maxRecDepth 20000 in
theorem tw_699 : Cond.instanceMethod ⟨"NestedDeeds", "find", "(III)I"⟩ ∈ tb := tb_mem (List.mem_of_getElem? (i := 699) (by decide +kernel)) rfl
set_option maxRecDepth 20000 in
theorem tw_700 : Cond.selects "NestedDeeds" ⟨"NestedDeeds", "find", "(III)I"⟩ ⟨"NestedDeeds", "find", "(III)I"⟩ ∈ tb := tb_mem (List.mem_of_getElem? (i := 700) (by decide +kernel)) rfl
set_option maxRecDepth 20000 in
theorem tw_701 : Cond.code ⟨"NestedDeeds", "find", "(III)I"⟩ prog_1_method_16_code 5 (some .int) ∈ tb := tb_mem (List.mem_of_getElem? (i := 701) (by decide +kernel)) rfl
set_option maxRecDepth 20000 in
theorem tw_702 : Cond.methodLink "NestedDeeds" 181 ⟨"NestedDeeds$Finding", "begin", "(II)V"⟩ ∈ tb := tb_mem (List.mem_of_getElem? (i := 702) (by decide +kernel)) rfl
set_option maxRecDepth 20000 in
theorem tw_703 : Cond.instanceMethod ⟨"NestedDeeds$Finding", "begin", "(II)V"⟩ ∈ tb := tb_mem (List.mem_of_getElem? (i := 703) (by decide +kernel)) rfl
set_option maxRecDepth 20000 in
theorem tw_704 : Cond.selects "NestedDeeds$Finding" ⟨"NestedDeeds$Finding", "begin", "(II)V"⟩ ⟨"NestedDeeds$Finding", "begin", "(II)V"⟩ ∈ tb := tb_mem (List.mem_of_getElem? (i := 704) (by decide +kernel)) rfl
set_option maxRecDepth 20000 in
theorem tw_705 : Cond.code ⟨"NestedDeeds$Finding", "begin", "(II)V"⟩ prog_5_method_2_code 3 none ∈ tb := tb_mem (List.mem_of_getElem? (i := 705) (by decide +kernel)) rfl
set_option maxRecDepth 20000 in
theorem tw_706 : Cond.methodLink "NestedDeedsLaw" 74 ⟨"NestedDeeds", "widest", "(II)I"⟩ ∈ tb := tb_mem (List.mem_of_getElem? (i := 706) (by decide +kernel)) rfl
set_option maxRecDepth 20000 in
theorem tw_707 : Cond.instanceMethod ⟨"NestedDeeds", "widest", "(II)I"⟩ ∈ tb := tb_mem (List.mem_of_getElem? (i := 707) (by decide +kernel)) rfl
set_option maxRecDepth 20000 in
theorem tw_708 : Cond.selects "NestedDeeds" ⟨"NestedDeeds", "widest", "(II)I"⟩ ⟨"NestedDeeds", "widest", "(II)I"⟩ ∈ tb := tb_mem (List.mem_of_getElem? (i := 708) (by decide +kernel)) rfl
set_option maxRecDepth 20000 in
theorem tw_709 : Cond.code ⟨"NestedDeeds", "widest", "(II)I"⟩ prog_1_method_17_code 5 (some .int) ∈ tb := tb_mem (List.mem_of_getElem? (i := 709) (by decide +kernel)) rfl
set_option maxRecDepth 20000 in
theorem tw_710 : Cond.methodLink "NestedDeeds" 184 ⟨"NestedDeeds$Walker", "widestDepth", "()I"⟩ ∈ tb := tb_mem (List.mem_of_getElem? (i := 710) (by decide +kernel)) rfl
set_option maxRecDepth 20000 in
theorem tw_711 : Cond.instanceMethod ⟨"NestedDeeds$Walker", "widestDepth", "()I"⟩ ∈ tb := tb_mem (List.mem_of_getElem? (i := 711) (by decide +kernel)) rfl
set_option maxRecDepth 20000 in
theorem tw_712 : Cond.selects "NestedDeeds$Walker" ⟨"NestedDeeds$Walker", "widestDepth", "()I"⟩ ⟨"NestedDeeds$Walker", "widestDepth", "()I"⟩ ∈ tb := tb_mem (List.mem_of_getElem? (i := 712) (by decide +kernel)) rfl
set_option maxRecDepth 20000 in
theorem tw_713 : Cond.code ⟨"NestedDeeds$Walker", "widestDepth", "()I"⟩ prog_10_method_4_code 3 (some .int) ∈ tb := tb_mem (List.mem_of_getElem? (i := 713) (by decide +kernel)) rfl
set_option maxRecDepth 20000 in
theorem tw_714 : Cond.methodLink "NestedDeedsLaw" 78 ⟨"NestedDeeds", "copy", "(I)I"⟩ ∈ tb := tb_mem (List.mem_of_getElem? (i := 714) (by decide +kernel)) rfl
set_option maxRecDepth 20000 in
theorem tw_715 : Cond.instanceMethod ⟨"NestedDeeds", "copy", "(I)I"⟩ ∈ tb := tb_mem (List.mem_of_getElem? (i := 715) (by decide +kernel)) rfl
set_option maxRecDepth 20000 in
theorem tw_716 : Cond.selects "NestedDeeds" ⟨"NestedDeeds", "copy", "(I)I"⟩ ⟨"NestedDeeds", "copy", "(I)I"⟩ ∈ tb := tb_mem (List.mem_of_getElem? (i := 716) (by decide +kernel)) rfl
set_option maxRecDepth 20000 in
theorem tw_717 : Cond.code ⟨"NestedDeeds", "copy", "(I)I"⟩ prog_1_method_18_code 2 (some .int) ∈ tb := tb_mem (List.mem_of_getElem? (i := 717) (by decide +kernel)) rfl
set_option maxRecDepth 20000 in
theorem tw_718 : Cond.constant "NestedDeeds" 190 (2147483647 : Int32) ∈ tb := tb_mem (List.mem_of_getElem? (i := 718) (by decide +kernel)) rfl
set_option maxRecDepth 20000 in
theorem tw_719 : Cond.methodLink "NestedDeeds" 191 ⟨"NestedDeeds", "remake", "(IIZ)I"⟩ ∈ tb := tb_mem (List.mem_of_getElem? (i := 719) (by decide +kernel)) rfl
set_option maxRecDepth 20000 in
theorem tw_721 : Cond.instanceMethod ⟨"NestedDeeds", "remake", "(IIZ)I"⟩ ∈ tb := tb_mem (List.mem_of_getElem? (i := 721) (by decide +kernel)) rfl
set_option maxRecDepth 20000 in
theorem tw_722 : Cond.code ⟨"NestedDeeds", "remake", "(IIZ)I"⟩ prog_1_method_21_code 5 (some .int) ∈ tb := tb_mem (List.mem_of_getElem? (i := 722) (by decide +kernel)) rfl
set_option maxRecDepth 20000 in
theorem tw_723 : Cond.methodLink "NestedDeeds" 195 ⟨"NestedDeeds$Copying", "beginCounting", "(I)V"⟩ ∈ tb := tb_mem (List.mem_of_getElem? (i := 723) (by decide +kernel)) rfl
set_option maxRecDepth 20000 in
theorem tw_724 : Cond.instanceMethod ⟨"NestedDeeds$Copying", "beginCounting", "(I)V"⟩ ∈ tb := tb_mem (List.mem_of_getElem? (i := 724) (by decide +kernel)) rfl
set_option maxRecDepth 20000 in
theorem tw_725 : Cond.selects "NestedDeeds$Copying" ⟨"NestedDeeds$Copying", "beginCounting", "(I)V"⟩ ⟨"NestedDeeds$Copying", "beginCounting", "(I)V"⟩ ∈ tb := tb_mem (List.mem_of_getElem? (i := 725) (by decide +kernel)) rfl
set_option maxRecDepth 20000 in
theorem tw_726 : Cond.code ⟨"NestedDeeds$Copying", "beginCounting", "(I)V"⟩ prog_3_method_2_code 2 none ∈ tb := tb_mem (List.mem_of_getElem? (i := 726) (by decide +kernel)) rfl
set_option maxRecDepth 20000 in
theorem tw_727 : Cond.methodLink "NestedDeeds" 201 ⟨"NestedDeeds$Copying", "beginMaking", "(IZ)V"⟩ ∈ tb := tb_mem (List.mem_of_getElem? (i := 727) (by decide +kernel)) rfl
set_option maxRecDepth 20000 in
theorem tw_728 : Cond.instanceMethod ⟨"NestedDeeds$Copying", "beginMaking", "(IZ)V"⟩ ∈ tb := tb_mem (List.mem_of_getElem? (i := 728) (by decide +kernel)) rfl
set_option maxRecDepth 20000 in
theorem tw_729 : Cond.selects "NestedDeeds$Copying" ⟨"NestedDeeds$Copying", "beginMaking", "(IZ)V"⟩ ⟨"NestedDeeds$Copying", "beginMaking", "(IZ)V"⟩ ∈ tb := tb_mem (List.mem_of_getElem? (i := 729) (by decide +kernel)) rfl
set_option maxRecDepth 20000 in
theorem tw_730 : Cond.code ⟨"NestedDeeds$Copying", "beginMaking", "(IZ)V"⟩ prog_3_method_3_code 3 none ∈ tb := tb_mem (List.mem_of_getElem? (i := 730) (by decide +kernel)) rfl
set_option maxRecDepth 20000 in
theorem tw_731 : Cond.methodLink "NestedDeeds$Copying" 49 ⟨"NestedDeeds$Deeds", "allParts", "()I"⟩ ∈ tb := tb_mem (List.mem_of_getElem? (i := 731) (by decide +kernel)) rfl
set_option maxRecDepth 20000 in
theorem tw_732 : Cond.methodLink "NestedDeeds$Copying" 53 ⟨"java/lang/System", "arraycopy", "(Ljava/lang/Object;ILjava/lang/Object;II)V"⟩ ∈ tb := tb_mem (List.mem_of_getElem? (i := 732) (by decide +kernel)) rfl
set_option maxRecDepth 20000 in
theorem tw_733 : Cond.methodLink "NestedDeeds$Copying" 59 ⟨"NestedDeeds$Copying", "reckonMarks", "(I)V"⟩ ∈ tb := tb_mem (List.mem_of_getElem? (i := 733) (by decide +kernel)) rfl
set_option maxRecDepth 20000 in
theorem tw_735 : Cond.instanceMethod ⟨"NestedDeeds$Copying", "reckonMarks", "(I)V"⟩ ∈ tb := tb_mem (List.mem_of_getElem? (i := 735) (by decide +kernel)) rfl
set_option maxRecDepth 20000 in
theorem tw_736 : Cond.code ⟨"NestedDeeds$Copying", "reckonMarks", "(I)V"⟩ prog_3_method_4_code 6 none ∈ tb := tb_mem (List.mem_of_getElem? (i := 736) (by decide +kernel)) rfl
set_option maxRecDepth 20000 in
theorem tw_737 : Cond.methodLink "NestedDeeds$Copying" 69 ⟨"NestedDeeds$Marking", "begun", "(II)J"⟩ ∈ tb := tb_mem (List.mem_of_getElem? (i := 737) (by decide +kernel)) rfl
set_option maxRecDepth 20000 in
theorem tw_738 : Cond.methodLink "NestedDeeds$Copying" 78 ⟨"NestedDeeds$Marking", "with", "(JJ)J"⟩ ∈ tb := tb_mem (List.mem_of_getElem? (i := 738) (by decide +kernel)) rfl
set_option maxRecDepth 20000 in
theorem tw_739 : Cond.methodLink "NestedDeeds$Copying" 82 ⟨"NestedDeeds$Marking", "ended", "(J)J"⟩ ∈ tb := tb_mem (List.mem_of_getElem? (i := 739) (by decide +kernel)) rfl
set_option maxRecDepth 20000 in
theorem tw_740 : Cond.methodLink "NestedDeeds" 205 ⟨"NestedDeeds$Deeds", "takeBound", "()I"⟩ ∈ tb := tb_mem (List.mem_of_getElem? (i := 740) (by decide +kernel)) rfl
set_option maxRecDepth 20000 in
theorem tw_741 : Cond.instanceMethod ⟨"NestedDeeds$Deeds", "takeBound", "()I"⟩ ∈ tb := tb_mem (List.mem_of_getElem? (i := 741) (by decide +kernel)) rfl
set_option maxRecDepth 20000 in
theorem tw_742 : Cond.selects "NestedDeeds$Deeds" ⟨"NestedDeeds$Deeds", "takeBound", "()I"⟩ ⟨"NestedDeeds$Deeds", "takeBound", "()I"⟩ ∈ tb := tb_mem (List.mem_of_getElem? (i := 742) (by decide +kernel)) rfl
set_option maxRecDepth 20000 in
theorem tw_743 : Cond.code ⟨"NestedDeeds$Deeds", "takeBound", "()I"⟩ prog_4_method_10_code 1 (some .int) ∈ tb := tb_mem (List.mem_of_getElem? (i := 743) (by decide +kernel)) rfl
set_option maxRecDepth 20000 in
theorem tw_744 : Cond.methodLink "NestedDeedsLaw" 82 ⟨"NestedDeeds", "thin", "(II)I"⟩ ∈ tb := tb_mem (List.mem_of_getElem? (i := 744) (by decide +kernel)) rfl
set_option maxRecDepth 20000 in
theorem tw_745 : Cond.instanceMethod ⟨"NestedDeeds", "thin", "(II)I"⟩ ∈ tb := tb_mem (List.mem_of_getElem? (i := 745) (by decide +kernel)) rfl
set_option maxRecDepth 20000 in
theorem tw_746 : Cond.selects "NestedDeeds" ⟨"NestedDeeds", "thin", "(II)I"⟩ ⟨"NestedDeeds", "thin", "(II)I"⟩ ∈ tb := tb_mem (List.mem_of_getElem? (i := 746) (by decide +kernel)) rfl
set_option maxRecDepth 20000 in
theorem tw_747 : Cond.code ⟨"NestedDeeds", "thin", "(II)I"⟩ prog_1_method_19_code 3 (some .int) ∈ tb := tb_mem (List.mem_of_getElem? (i := 747) (by decide +kernel)) rfl
set_option maxRecDepth 20000 in
theorem tw_748 : Cond.methodLink "NestedDeedsLaw" 86 ⟨"NestedDeeds", "order", "(I)I"⟩ ∈ tb := tb_mem (List.mem_of_getElem? (i := 748) (by decide +kernel)) rfl
set_option maxRecDepth 20000 in
theorem tw_749 : Cond.instanceMethod ⟨"NestedDeeds", "order", "(I)I"⟩ ∈ tb := tb_mem (List.mem_of_getElem? (i := 749) (by decide +kernel)) rfl
set_option maxRecDepth 20000 in
theorem tw_750 : Cond.selects "NestedDeeds" ⟨"NestedDeeds", "order", "(I)I"⟩ ⟨"NestedDeeds", "order", "(I)I"⟩ ∈ tb := tb_mem (List.mem_of_getElem? (i := 750) (by decide +kernel)) rfl
set_option maxRecDepth 20000 in
theorem tw_751 : Cond.code ⟨"NestedDeeds", "order", "(I)I"⟩ prog_1_method_20_code 2 (some .int) ∈ tb := tb_mem (List.mem_of_getElem? (i := 751) (by decide +kernel)) rfl
set_option maxRecDepth 20000 in
theorem tw_752 : Cond.methodLink "NestedDeedsLaw" 92 ⟨"NestedDeeds", "feed", "(JI)I"⟩ ∈ tb := tb_mem (List.mem_of_getElem? (i := 752) (by decide +kernel)) rfl
set_option maxRecDepth 20000 in
theorem tw_753 : Cond.instanceMethod ⟨"NestedDeeds", "feed", "(JI)I"⟩ ∈ tb := tb_mem (List.mem_of_getElem? (i := 753) (by decide +kernel)) rfl
set_option maxRecDepth 20000 in
theorem tw_754 : Cond.selects "NestedDeeds" ⟨"NestedDeeds", "feed", "(JI)I"⟩ ⟨"NestedDeeds", "feed", "(JI)I"⟩ ∈ tb := tb_mem (List.mem_of_getElem? (i := 754) (by decide +kernel)) rfl
set_option maxRecDepth 20000 in
theorem tw_755 : Cond.code ⟨"NestedDeeds", "feed", "(JI)I"⟩ prog_1_method_22_code 5 (some .int) ∈ tb := tb_mem (List.mem_of_getElem? (i := 755) (by decide +kernel)) rfl
set_option maxRecDepth 20000 in
theorem tw_756 : Cond.methodLink "NestedDeeds" 208 ⟨"NestedDeeds$Paper", "add", "(I)V"⟩ ∈ tb := tb_mem (List.mem_of_getElem? (i := 756) (by decide +kernel)) rfl
set_option maxRecDepth 20000 in
theorem tw_757 : Cond.methodLink "NestedDeedsLaw" 97 ⟨"NestedDeeds", "tear", "()I"⟩ ∈ tb := tb_mem (List.mem_of_getElem? (i := 757) (by decide +kernel)) rfl
set_option maxRecDepth 20000 in
theorem tw_758 : Cond.instanceMethod ⟨"NestedDeeds", "tear", "()I"⟩ ∈ tb := tb_mem (List.mem_of_getElem? (i := 758) (by decide +kernel)) rfl
set_option maxRecDepth 20000 in
theorem tw_759 : Cond.selects "NestedDeeds" ⟨"NestedDeeds", "tear", "()I"⟩ ⟨"NestedDeeds", "tear", "()I"⟩ ∈ tb := tb_mem (List.mem_of_getElem? (i := 759) (by decide +kernel)) rfl
set_option maxRecDepth 20000 in
theorem tw_760 : Cond.code ⟨"NestedDeeds", "tear", "()I"⟩ prog_1_method_23_code 2 (some .int) ∈ tb := tb_mem (List.mem_of_getElem? (i := 760) (by decide +kernel)) rfl
set_option maxRecDepth 20000 in
theorem tw_761 : Cond.methodLink "NestedDeedsLaw" 102 ⟨"NestedDeeds", "byteAt", "(I)I"⟩ ∈ tb := tb_mem (List.mem_of_getElem? (i := 761) (by decide +kernel)) rfl
set_option maxRecDepth 20000 in
theorem tw_762 : Cond.instanceMethod ⟨"NestedDeeds", "byteAt", "(I)I"⟩ ∈ tb := tb_mem (List.mem_of_getElem? (i := 762) (by decide +kernel)) rfl
set_option maxRecDepth 20000 in
theorem tw_763 : Cond.selects "NestedDeeds" ⟨"NestedDeeds", "byteAt", "(I)I"⟩ ⟨"NestedDeeds", "byteAt", "(I)I"⟩ ∈ tb := tb_mem (List.mem_of_getElem? (i := 763) (by decide +kernel)) rfl
set_option maxRecDepth 20000 in
theorem tw_764 : Cond.code ⟨"NestedDeeds", "byteAt", "(I)I"⟩ prog_1_method_24_code 2 (some .int) ∈ tb := tb_mem (List.mem_of_getElem? (i := 764) (by decide +kernel)) rfl
set_option maxRecDepth 20000 in
theorem tw_765 : Cond.methodLink "NestedDeeds" 210 ⟨"NestedDeeds$Paper", "at", "(I)I"⟩ ∈ tb := tb_mem (List.mem_of_getElem? (i := 765) (by decide +kernel)) rfl
set_option maxRecDepth 20000 in
theorem tw_766 : Cond.instanceMethod ⟨"NestedDeeds$Paper", "at", "(I)I"⟩ ∈ tb := tb_mem (List.mem_of_getElem? (i := 766) (by decide +kernel)) rfl
set_option maxRecDepth 20000 in
theorem tw_767 : Cond.selects "NestedDeeds$Paper" ⟨"NestedDeeds$Paper", "at", "(I)I"⟩ ⟨"NestedDeeds$Paper", "at", "(I)I"⟩ ∈ tb := tb_mem (List.mem_of_getElem? (i := 767) (by decide +kernel)) rfl
set_option maxRecDepth 20000 in
theorem tw_768 : Cond.code ⟨"NestedDeeds$Paper", "at", "(I)I"⟩ prog_7_method_3_code 2 (some .int) ∈ tb := tb_mem (List.mem_of_getElem? (i := 768) (by decide +kernel)) rfl
set_option maxRecDepth 20000 in
theorem tw_769 : Cond.methodLink "NestedDeedsLaw" 106 ⟨"NestedDeeds", "read", "()I"⟩ ∈ tb := tb_mem (List.mem_of_getElem? (i := 769) (by decide +kernel)) rfl
set_option maxRecDepth 20000 in
theorem tw_770 : Cond.instanceMethod ⟨"NestedDeeds", "read", "()I"⟩ ∈ tb := tb_mem (List.mem_of_getElem? (i := 770) (by decide +kernel)) rfl
set_option maxRecDepth 20000 in
theorem tw_771 : Cond.selects "NestedDeeds" ⟨"NestedDeeds", "read", "()I"⟩ ⟨"NestedDeeds", "read", "()I"⟩ ∈ tb := tb_mem (List.mem_of_getElem? (i := 771) (by decide +kernel)) rfl
set_option maxRecDepth 20000 in
theorem tw_772 : Cond.code ⟨"NestedDeeds", "read", "()I"⟩ prog_1_method_25_code 2 (some .int) ∈ tb := tb_mem (List.mem_of_getElem? (i := 772) (by decide +kernel)) rfl
set_option maxRecDepth 20000 in
theorem tw_773 : Cond.methodLink "NestedDeeds" 213 ⟨"NestedDeeds$Reader", "scan", "(Z)I"⟩ ∈ tb := tb_mem (List.mem_of_getElem? (i := 773) (by decide +kernel)) rfl
set_option maxRecDepth 20000 in
theorem tw_774 : Cond.instanceMethod ⟨"NestedDeeds$Reader", "scan", "(Z)I"⟩ ∈ tb := tb_mem (List.mem_of_getElem? (i := 774) (by decide +kernel)) rfl
set_option maxRecDepth 20000 in
theorem tw_775 : Cond.selects "NestedDeeds$Reader" ⟨"NestedDeeds$Reader", "scan", "(Z)I"⟩ ⟨"NestedDeeds$Reader", "scan", "(Z)I"⟩ ∈ tb := tb_mem (List.mem_of_getElem? (i := 775) (by decide +kernel)) rfl
set_option maxRecDepth 20000 in
theorem tw_776 : Cond.code ⟨"NestedDeeds$Reader", "scan", "(Z)I"⟩ prog_8_method_2_code 3 (some .int) ∈ tb := tb_mem (List.mem_of_getElem? (i := 776) (by decide +kernel)) rfl
set_option maxRecDepth 20000 in
theorem tw_777 : Cond.methodLink "NestedDeeds$Reader" 43 ⟨"NestedDeeds$Reader", "scanKind", "()Z"⟩ ∈ tb := tb_mem (List.mem_of_getElem? (i := 777) (by decide +kernel)) rfl
set_option maxRecDepth 20000 in
theorem tw_779 : Cond.instanceMethod ⟨"NestedDeeds$Reader", "scanKind", "()Z"⟩ ∈ tb := tb_mem (List.mem_of_getElem? (i := 779) (by decide +kernel)) rfl
set_option maxRecDepth 20000 in
theorem tw_780 : Cond.code ⟨"NestedDeeds$Reader", "scanKind", "()Z"⟩ prog_8_method_3_code 1 (some .boolean) ∈ tb := tb_mem (List.mem_of_getElem? (i := 780) (by decide +kernel)) rfl
set_option maxRecDepth 20000 in
theorem tw_781 : Cond.methodLink "NestedDeeds$Reader" 50 ⟨"NestedDeeds$Paper", "at", "(I)I"⟩ ∈ tb := tb_mem (List.mem_of_getElem? (i := 781) (by decide +kernel)) rfl
set_option maxRecDepth 20000 in
theorem tw_783 : Cond.methodLink "NestedDeeds$Reader" 47 ⟨"NestedDeeds$Reader", "scanNumber", "()Z"⟩ ∈ tb := tb_mem (List.mem_of_getElem? (i := 783) (by decide +kernel)) rfl
set_option maxRecDepth 20000 in
theorem tw_785 : Cond.instanceMethod ⟨"NestedDeeds$Reader", "scanNumber", "()Z"⟩ ∈ tb := tb_mem (List.mem_of_getElem? (i := 785) (by decide +kernel)) rfl
set_option maxRecDepth 20000 in
theorem tw_786 : Cond.code ⟨"NestedDeeds$Reader", "scanNumber", "()Z"⟩ prog_8_method_4_code 7 (some .boolean) ∈ tb := tb_mem (List.mem_of_getElem? (i := 786) (by decide +kernel)) rfl
set_option maxRecDepth 20000 in
theorem tw_787 : Cond.methodLink "NestedDeeds$Reader" 78 ⟨"NestedDeeds$Reader", "isFigure", "(I)Z"⟩ ∈ tb := tb_mem (List.mem_of_getElem? (i := 787) (by decide +kernel)) rfl
set_option maxRecDepth 20000 in
theorem tw_788 : Cond.static ⟨"NestedDeeds$Reader", "isFigure", "(I)Z"⟩ ∈ tb := tb_mem (List.mem_of_getElem? (i := 788) (by decide +kernel)) rfl
set_option maxRecDepth 20000 in
theorem tw_789 : Cond.code ⟨"NestedDeeds$Reader", "isFigure", "(I)Z"⟩ prog_8_method_6_code 1 (some .boolean) ∈ tb := tb_mem (List.mem_of_getElem? (i := 789) (by decide +kernel)) rfl
set_option maxRecDepth 20000 in
theorem tw_790 : Cond.methodLink "NestedDeeds$Reader" 81 ⟨"NestedDeeds$Reader", "scanFigures", "()J"⟩ ∈ tb := tb_mem (List.mem_of_getElem? (i := 790) (by decide +kernel)) rfl
set_option maxRecDepth 20000 in
theorem tw_792 : Cond.instanceMethod ⟨"NestedDeeds$Reader", "scanFigures", "()J"⟩ ∈ tb := tb_mem (List.mem_of_getElem? (i := 792) (by decide +kernel)) rfl
set_option maxRecDepth 20000 in
theorem tw_793 : Cond.code ⟨"NestedDeeds$Reader", "scanFigures", "()J"⟩ prog_8_method_5_code 3 (some .long) ∈ tb := tb_mem (List.mem_of_getElem? (i := 793) (by decide +kernel)) rfl
set_option maxRecDepth 20000 in
theorem tw_794 : Cond.constantLong "NestedDeeds$Reader" 89 (10 : Int64) ∈ tb := tb_mem (List.mem_of_getElem? (i := 794) (by decide +kernel)) rfl
set_option maxRecDepth 20000 in
theorem tw_795 : Cond.constantLong "NestedDeeds$Reader" 91 (48 : Int64) ∈ tb := tb_mem (List.mem_of_getElem? (i := 795) (by decide +kernel)) rfl
set_option maxRecDepth 20000 in
theorem tw_796 : Cond.constantLong "NestedDeeds$Reader" 93 (1099511627776 : Int64) ∈ tb := tb_mem (List.mem_of_getElem? (i := 796) (by decide +kernel)) rfl
set_option maxRecDepth 20000 in
theorem tw_797 : Cond.methodLink "NestedDeeds$Reader" 95 ⟨"java/lang/Math", "min", "(JJ)J"⟩ ∈ tb := tb_mem (List.mem_of_getElem? (i := 797) (by decide +kernel)) rfl
set_option maxRecDepth 20000 in
theorem tw_798 : Cond.constantLong "NestedDeeds$Reader" 85 (-2147483648 : Int64) ∈ tb := tb_mem (List.mem_of_getElem? (i := 798) (by decide +kernel)) rfl
set_option maxRecDepth 20000 in
theorem tw_799 : Cond.constantLong "NestedDeeds$Reader" 87 (2147483647 : Int64) ∈ tb := tb_mem (List.mem_of_getElem? (i := 799) (by decide +kernel)) rfl
set_option maxRecDepth 20000 in
theorem tw_800 : Cond.methodLink "NestedDeeds$Reader" 55 ⟨"NestedDeeds$Reader", "openDeed", "()V"⟩ ∈ tb := tb_mem (List.mem_of_getElem? (i := 800) (by decide +kernel)) rfl
set_option maxRecDepth 20000 in
theorem tw_802 : Cond.instanceMethod ⟨"NestedDeeds$Reader", "openDeed", "()V"⟩ ∈ tb := tb_mem (List.mem_of_getElem? (i := 802) (by decide +kernel)) rfl
set_option maxRecDepth 20000 in
theorem tw_803 : Cond.code ⟨"NestedDeeds$Reader", "openDeed", "()V"⟩ prog_8_method_7_code 1 none ∈ tb := tb_mem (List.mem_of_getElem? (i := 803) (by decide +kernel)) rfl
set_option maxRecDepth 20000 in
theorem tw_804 : Cond.methodLink "NestedDeeds$Reader" 64 ⟨"NestedDeeds$Reader", "finishDeed", "(III)V"⟩ ∈ tb := tb_mem (List.mem_of_getElem? (i := 804) (by decide +kernel)) rfl
set_option maxRecDepth 20000 in
theorem tw_806 : Cond.instanceMethod ⟨"NestedDeeds$Reader", "finishDeed", "(III)V"⟩ ∈ tb := tb_mem (List.mem_of_getElem? (i := 806) (by decide +kernel)) rfl
set_option maxRecDepth 20000 in
theorem tw_807 : Cond.code ⟨"NestedDeeds$Reader", "finishDeed", "(III)V"⟩ prog_8_method_9_code 4 none ∈ tb := tb_mem (List.mem_of_getElem? (i := 807) (by decide +kernel)) rfl
set_option maxRecDepth 20000 in
theorem tw_808 : Cond.methodLink "NestedDeeds$Reader" 101 ⟨"NestedDeeds$Deeds", "bind", "(III)V"⟩ ∈ tb := tb_mem (List.mem_of_getElem? (i := 808) (by decide +kernel)) rfl
set_option maxRecDepth 20000 in
theorem tw_809 : Cond.methodLink "NestedDeeds$Reader" 68 ⟨"NestedDeeds$Reader", "closeDeeds", "()V"⟩ ∈ tb := tb_mem (List.mem_of_getElem? (i := 809) (by decide +kernel)) rfl
set_option maxRecDepth 20000 in
theorem tw_811 : Cond.instanceMethod ⟨"NestedDeeds$Reader", "closeDeeds", "()V"⟩ ∈ tb := tb_mem (List.mem_of_getElem? (i := 811) (by decide +kernel)) rfl
set_option maxRecDepth 20000 in
theorem tw_812 : Cond.code ⟨"NestedDeeds$Reader", "closeDeeds", "()V"⟩ prog_8_method_8_code 1 none ∈ tb := tb_mem (List.mem_of_getElem? (i := 812) (by decide +kernel)) rfl
set_option maxRecDepth 20000 in
theorem tw_813 : Cond.methodLink "NestedDeedsLaw" 110 ⟨"NestedDeeds", "answer", "()I"⟩ ∈ tb := tb_mem (List.mem_of_getElem? (i := 813) (by decide +kernel)) rfl
set_option maxRecDepth 20000 in
theorem tw_814 : Cond.instanceMethod ⟨"NestedDeeds", "answer", "()I"⟩ ∈ tb := tb_mem (List.mem_of_getElem? (i := 814) (by decide +kernel)) rfl
set_option maxRecDepth 20000 in
theorem tw_815 : Cond.selects "NestedDeeds" ⟨"NestedDeeds", "answer", "()I"⟩ ⟨"NestedDeeds", "answer", "()I"⟩ ∈ tb := tb_mem (List.mem_of_getElem? (i := 815) (by decide +kernel)) rfl
set_option maxRecDepth 20000 in
theorem tw_816 : Cond.code ⟨"NestedDeeds", "answer", "()I"⟩ prog_1_method_26_code 1 (some .int) ∈ tb := tb_mem (List.mem_of_getElem? (i := 816) (by decide +kernel)) rfl
set_option maxRecDepth 20000 in
theorem tw_817 : Cond.methodLink "NestedDeedsLaw" 114 ⟨"NestedDeeds", "count", "(I)I"⟩ ∈ tb := tb_mem (List.mem_of_getElem? (i := 817) (by decide +kernel)) rfl
set_option maxRecDepth 20000 in
theorem tw_818 : Cond.instanceMethod ⟨"NestedDeeds", "count", "(I)I"⟩ ∈ tb := tb_mem (List.mem_of_getElem? (i := 818) (by decide +kernel)) rfl
set_option maxRecDepth 20000 in
theorem tw_819 : Cond.selects "NestedDeeds" ⟨"NestedDeeds", "count", "(I)I"⟩ ⟨"NestedDeeds", "count", "(I)I"⟩ ∈ tb := tb_mem (List.mem_of_getElem? (i := 819) (by decide +kernel)) rfl
set_option maxRecDepth 20000 in
theorem tw_820 : Cond.code ⟨"NestedDeeds", "count", "(I)I"⟩ prog_1_method_27_code 2 (some .int) ∈ tb := tb_mem (List.mem_of_getElem? (i := 820) (by decide +kernel)) rfl
set_option maxRecDepth 20000 in
theorem tw_821 : Cond.methodLink "NestedDeeds" 226 ⟨"NestedDeeds$Deeds", "allParts", "()I"⟩ ∈ tb := tb_mem (List.mem_of_getElem? (i := 821) (by decide +kernel)) rfl
set_option maxRecDepth 20000 in
theorem tw_822 : Cond.classLink "NestedDeedsLaw" 10 "NestedDeedsModel" ∈ tb := tb_mem (List.mem_of_getElem? (i := 822) (by decide +kernel)) rfl
set_option maxRecDepth 20000 in
theorem tw_823 : Cond.instantiable "NestedDeedsModel" 41 ∈ tb := tb_mem (List.mem_of_getElem? (i := 823) (by decide +kernel)) rfl
set_option maxRecDepth 20000 in
theorem tw_824 : Cond.methodLink "NestedDeedsLaw" 12 ⟨"NestedDeedsModel", "<init>", "()V"⟩ ∈ tb := tb_mem (List.mem_of_getElem? (i := 824) (by decide +kernel)) rfl
set_option maxRecDepth 20000 in
theorem tw_825 : Cond.instanceMethod ⟨"NestedDeedsModel", "<init>", "()V"⟩ ∈ tb := tb_mem (List.mem_of_getElem? (i := 825) (by decide +kernel)) rfl
set_option maxRecDepth 20000 in
theorem tw_826 : Cond.code ⟨"NestedDeedsModel", "<init>", "()V"⟩ prog_14_method_1_code 1 none ∈ tb := tb_mem (List.mem_of_getElem? (i := 826) (by decide +kernel)) rfl
set_option maxRecDepth 20000 in
theorem tw_827 : Cond.methodLink "NestedDeedsModel" 1 ⟨"java/lang/Object", "<init>", "()V"⟩ ∈ tb := tb_mem (List.mem_of_getElem? (i := 827) (by decide +kernel)) rfl
set_option maxRecDepth 20000 in
theorem tw_828 : Cond.fieldLink "NestedDeedsModel" 90 "NestedDeedsModel" "deeds" "I" ∈ tb := tb_mem (List.mem_of_getElem? (i := 828) (by decide +kernel)) rfl
set_option maxRecDepth 20000 in
theorem tw_829 : Cond.fieldLink "NestedDeedsModel" 7 "NestedDeedsModel" "kind" "[I" ∈ tb := tb_mem (List.mem_of_getElem? (i := 829) (by decide +kernel)) rfl
set_option maxRecDepth 20000 in
theorem tw_830 : Cond.fieldLink "NestedDeedsModel" 13 "NestedDeedsModel" "number" "[I" ∈ tb := tb_mem (List.mem_of_getElem? (i := 830) (by decide +kernel)) rfl
set_option maxRecDepth 20000 in
theorem tw_831 : Cond.fieldLink "NestedDeedsModel" 16 "NestedDeedsModel" "partMany" "[I" ∈ tb := tb_mem (List.mem_of_getElem? (i := 831) (by decide +kernel)) rfl
set_option maxRecDepth 20000 in
theorem tw_832 : Cond.fieldLink "NestedDeedsModel" 19 "NestedDeedsModel" "firstPart" "[I" ∈ tb := tb_mem (List.mem_of_getElem? (i := 832) (by decide +kernel)) rfl
set_option maxRecDepth 20000 in
theorem tw_833 : Cond.fieldLink "NestedDeedsModel" 22 "NestedDeedsModel" "lastPart" "[I" ∈ tb := tb_mem (List.mem_of_getElem? (i := 833) (by decide +kernel)) rfl
set_option maxRecDepth 20000 in
theorem tw_834 : Cond.fieldLink "NestedDeedsModel" 97 "NestedDeedsModel" "parts" "I" ∈ tb := tb_mem (List.mem_of_getElem? (i := 834) (by decide +kernel)) rfl
set_option maxRecDepth 20000 in
theorem tw_835 : Cond.fieldLink "NestedDeedsModel" 25 "NestedDeedsModel" "partOf" "[I" ∈ tb := tb_mem (List.mem_of_getElem? (i := 835) (by decide +kernel)) rfl
set_option maxRecDepth 20000 in
theorem tw_836 : Cond.fieldLink "NestedDeedsModel" 28 "NestedDeedsModel" "nextPart" "[I" ∈ tb := tb_mem (List.mem_of_getElem? (i := 836) (by decide +kernel)) rfl
set_option maxRecDepth 20000 in
theorem tw_837 : Cond.fieldLink "NestedDeedsModel" 111 "NestedDeedsModel" "way" "I" ∈ tb := tb_mem (List.mem_of_getElem? (i := 837) (by decide +kernel)) rfl
set_option maxRecDepth 20000 in
theorem tw_838 : Cond.fieldLink "NestedDeedsModel" 31 "NestedDeedsModel" "meter" "I" ∈ tb := tb_mem (List.mem_of_getElem? (i := 838) (by decide +kernel)) rfl
set_option maxRecDepth 20000 in
theorem tw_839 : Cond.fieldLink "NestedDeedsModel" 35 "NestedDeedsModel" "paper" "[I" ∈ tb := tb_mem (List.mem_of_getElem? (i := 839) (by decide +kernel)) rfl
set_option maxRecDepth 20000 in
theorem tw_840 : Cond.fieldLink "NestedDeedsModel" 212 "NestedDeedsModel" "paperSize" "I" ∈ tb := tb_mem (List.mem_of_getElem? (i := 840) (by decide +kernel)) rfl
set_option maxRecDepth 20000 in
theorem tw_841 : Cond.fieldLink "NestedDeedsModel" 154 "NestedDeedsModel" "answer" "I" ∈ tb := tb_mem (List.mem_of_getElem? (i := 841) (by decide +kernel)) rfl
end
section
set_option maxRecDepth 20000 in
theorem tw_842 : Cond.fieldLink "NestedDeedsModel" 157 "NestedDeedsModel" "toldVisited" "I" ∈ tb := tb_mem (List.mem_of_getElem? (i := 842) (by decide +kernel)) rfl
set_option maxRecDepth 20000 in
theorem tw_843 : Cond.fieldLink "NestedDeedsModel" 160 "NestedDeedsModel" "toldCalls" "I" ∈ tb := tb_mem (List.mem_of_getElem? (i := 843) (by decide +kernel)) rfl
set_option maxRecDepth 20000 in
theorem tw_844 : Cond.fieldLink "NestedDeedsModel" 38 "NestedDeedsModel" "worths" "[J" ∈ tb := tb_mem (List.mem_of_getElem? (i := 844) (by decide +kernel)) rfl
set_option maxRecDepth 20000 in
theorem tw_845 : Cond.fieldLink "NestedDeedsModel" 42 "NestedDeedsModel" "marks" "[J" ∈ tb := tb_mem (List.mem_of_getElem? (i := 845) (by decide +kernel)) rfl
set_option maxRecDepth 20000 in
theorem tw_846 : Cond.fieldLink "NestedDeedsModel" 145 "NestedDeedsModel" "depth" "I" ∈ tb := tb_mem (List.mem_of_getElem? (i := 846) (by decide +kernel)) rfl
set_option maxRecDepth 20000 in
theorem tw_847 : Cond.fieldLink "NestedDeedsModel" 148 "NestedDeedsModel" "visited" "I" ∈ tb := tb_mem (List.mem_of_getElem? (i := 847) (by decide +kernel)) rfl
set_option maxRecDepth 20000 in
theorem tw_848 : Cond.fieldLink "NestedDeedsModel" 151 "NestedDeedsModel" "deepest" "I" ∈ tb := tb_mem (List.mem_of_getElem? (i := 848) (by decide +kernel)) rfl
set_option maxRecDepth 20000 in
theorem tw_849 : Cond.fieldLink "NestedDeedsModel" 45 "NestedDeedsModel" "pile" "[I" ∈ tb := tb_mem (List.mem_of_getElem? (i := 849) (by decide +kernel)) rfl
set_option maxRecDepth 20000 in
theorem tw_850 : Cond.fieldLink "NestedDeedsModel" 48 "NestedDeedsModel" "other" "[I" ∈ tb := tb_mem (List.mem_of_getElem? (i := 850) (by decide +kernel)) rfl
set_option maxRecDepth 20000 in
theorem tw_851 : Cond.fieldLink "NestedDeedsModel" 51 "NestedDeedsModel" "begun" "[I" ∈ tb := tb_mem (List.mem_of_getElem? (i := 851) (by decide +kernel)) rfl
set_option maxRecDepth 20000 in
theorem tw_852 : Cond.fieldLink "NestedDeedsModel" 54 "NestedDeedsModel" "visitDeed" "[I" ∈ tb := tb_mem (List.mem_of_getElem? (i := 852) (by decide +kernel)) rfl
set_option maxRecDepth 20000 in
theorem tw_853 : Cond.fieldLink "NestedDeedsModel" 57 "NestedDeedsModel" "visitDepth" "[I" ∈ tb := tb_mem (List.mem_of_getElem? (i := 853) (by decide +kernel)) rfl
set_option maxRecDepth 20000 in
theorem tw_854 : Cond.fieldLink "NestedDeedsModel" 60 "NestedDeedsModel" "sheet" "[I" ∈ tb := tb_mem (List.mem_of_getElem? (i := 854) (by decide +kernel)) rfl
set_option maxRecDepth 20000 in
theorem tw_855 : Cond.fieldLink "NestedDeedsModel" 195 "NestedDeedsModel" "sheetSize" "I" ∈ tb := tb_mem (List.mem_of_getElem? (i := 855) (by decide +kernel)) rfl
set_option maxRecDepth 20000 in
theorem tw_856 : Cond.fieldLink "NestedDeedsModel" 198 "NestedDeedsModel" "isOver" "Z" ∈ tb := tb_mem (List.mem_of_getElem? (i := 856) (by decide +kernel)) rfl
set_option maxRecDepth 20000 in
theorem tw_857 : Cond.fieldLink "NestedDeedsModel" 63 "NestedDeedsModel" "wide" "[I" ∈ tb := tb_mem (List.mem_of_getElem? (i := 857) (by decide +kernel)) rfl
set_option maxRecDepth 20000 in
theorem tw_858 : Cond.fieldLink "NestedDeedsModel" 215 "NestedDeedsModel" "nodes" "I" ∈ tb := tb_mem (List.mem_of_getElem? (i := 858) (by decide +kernel)) rfl
set_option maxRecDepth 20000 in
theorem tw_859 : Cond.fieldLink "NestedDeedsModel" 66 "NestedDeedsModel" "nodeKind" "[I" ∈ tb := tb_mem (List.mem_of_getElem? (i := 859) (by decide +kernel)) rfl
set_option maxRecDepth 20000 in
theorem tw_860 : Cond.fieldLink "NestedDeedsModel" 69 "NestedDeedsModel" "nodeNumber" "[I" ∈ tb := tb_mem (List.mem_of_getElem? (i := 860) (by decide +kernel)) rfl
set_option maxRecDepth 20000 in
theorem tw_861 : Cond.fieldLink "NestedDeedsModel" 72 "NestedDeedsModel" "nodeMark" "[J" ∈ tb := tb_mem (List.mem_of_getElem? (i := 861) (by decide +kernel)) rfl
set_option maxRecDepth 20000 in
theorem tw_862 : Cond.fieldLink "NestedDeedsModel" 75 "NestedDeedsModel" "child" "[I" ∈ tb := tb_mem (List.mem_of_getElem? (i := 862) (by decide +kernel)) rfl
set_option maxRecDepth 20000 in
theorem tw_863 : Cond.fieldLink "NestedDeedsModel" 78 "NestedDeedsModel" "sibling" "[I" ∈ tb := tb_mem (List.mem_of_getElem? (i := 863) (by decide +kernel)) rfl
set_option maxRecDepth 20000 in
theorem tw_864 : Cond.fieldLink "NestedDeedsModel" 81 "NestedDeedsModel" "parent" "[I" ∈ tb := tb_mem (List.mem_of_getElem? (i := 864) (by decide +kernel)) rfl
set_option maxRecDepth 20000 in
theorem tw_865 : Cond.fieldLink "NestedDeedsModel" 84 "NestedDeedsModel" "made" "[I" ∈ tb := tb_mem (List.mem_of_getElem? (i := 865) (by decide +kernel)) rfl
set_option maxRecDepth 20000 in
theorem tw_866 : Cond.fieldLink "NestedDeedsModel" 87 "NestedDeedsModel" "open" "[I" ∈ tb := tb_mem (List.mem_of_getElem? (i := 866) (by decide +kernel)) rfl
set_option maxRecDepth 20000 in
theorem tw_867 : Cond.fieldLink "NestedDeedsModel" 236 "NestedDeedsModel" "place" "I" ∈ tb := tb_mem (List.mem_of_getElem? (i := 867) (by decide +kernel)) rfl
set_option maxRecDepth 20000 in
theorem tw_868 : Cond.fieldLink "NestedDeedsModel" 246 "NestedDeedsModel" "wrong" "I" ∈ tb := tb_mem (List.mem_of_getElem? (i := 868) (by decide +kernel)) rfl
set_option maxRecDepth 20000 in
theorem tw_952 : Cond.methodLink "NestedDeedsLaw" 17 ⟨"NestedDeedsModel", "deed", "(II)I"⟩ ∈ tb := tb_mem (List.mem_of_getElem? (i := 952) (by decide +kernel)) rfl
set_option maxRecDepth 20000 in
theorem tw_953 : Cond.instanceMethod ⟨"NestedDeedsModel", "deed", "(II)I"⟩ ∈ tb := tb_mem (List.mem_of_getElem? (i := 953) (by decide +kernel)) rfl
set_option maxRecDepth 20000 in
theorem tw_954 : Cond.selects "NestedDeedsModel" ⟨"NestedDeedsModel", "deed", "(II)I"⟩ ⟨"NestedDeedsModel", "deed", "(II)I"⟩ ∈ tb := tb_mem (List.mem_of_getElem? (i := 954) (by decide +kernel)) rfl
set_option maxRecDepth 20000 in
theorem tw_955 : Cond.code ⟨"NestedDeedsModel", "deed", "(II)I"⟩ prog_14_method_6_code 3 (some .int) ∈ tb := tb_mem (List.mem_of_getElem? (i := 955) (by decide +kernel)) rfl
set_option maxRecDepth 20000 in
theorem tw_956 : Cond.methodLink "NestedDeedsModel" 93 ⟨"NestedDeedsModel", "in", "(III)Z"⟩ ∈ tb := tb_mem (List.mem_of_getElem? (i := 956) (by decide +kernel)) rfl
set_option maxRecDepth 20000 in
theorem tw_957 : Cond.static ⟨"NestedDeedsModel", "in", "(III)Z"⟩ ∈ tb := tb_mem (List.mem_of_getElem? (i := 957) (by decide +kernel)) rfl
set_option maxRecDepth 20000 in
theorem tw_958 : Cond.code ⟨"NestedDeedsModel", "in", "(III)Z"⟩ prog_14_method_2_code 3 (some .boolean) ∈ tb := tb_mem (List.mem_of_getElem? (i := 958) (by decide +kernel)) rfl
set_option maxRecDepth 20000 in
theorem tw_959 : Cond.methodLink "NestedDeedsModel" 100 ⟨"NestedDeedsModel", "add", "(II)I"⟩ ∈ tb := tb_mem (List.mem_of_getElem? (i := 959) (by decide +kernel)) rfl
set_option maxRecDepth 20000 in
theorem tw_961 : Cond.instanceMethod ⟨"NestedDeedsModel", "add", "(II)I"⟩ ∈ tb := tb_mem (List.mem_of_getElem? (i := 961) (by decide +kernel)) rfl
set_option maxRecDepth 20000 in
theorem tw_962 : Cond.code ⟨"NestedDeedsModel", "add", "(II)I"⟩ prog_14_method_4_code 3 (some .int) ∈ tb := tb_mem (List.mem_of_getElem? (i := 962) (by decide +kernel)) rfl
set_option maxRecDepth 20000 in
theorem tw_963 : Cond.methodLink "NestedDeedsLaw" 21 ⟨"NestedDeedsModel", "enclose", "(II)I"⟩ ∈ tb := tb_mem (List.mem_of_getElem? (i := 963) (by decide +kernel)) rfl
set_option maxRecDepth 20000 in
theorem tw_964 : Cond.instanceMethod ⟨"NestedDeedsModel", "enclose", "(II)I"⟩ ∈ tb := tb_mem (List.mem_of_getElem? (i := 964) (by decide +kernel)) rfl
set_option maxRecDepth 20000 in
theorem tw_965 : Cond.selects "NestedDeedsModel" ⟨"NestedDeedsModel", "enclose", "(II)I"⟩ ⟨"NestedDeedsModel", "enclose", "(II)I"⟩ ∈ tb := tb_mem (List.mem_of_getElem? (i := 965) (by decide +kernel)) rfl
set_option maxRecDepth 20000 in
theorem tw_966 : Cond.code ⟨"NestedDeedsModel", "enclose", "(II)I"⟩ prog_14_method_7_code 3 (some .int) ∈ tb := tb_mem (List.mem_of_getElem? (i := 966) (by decide +kernel)) rfl
set_option maxRecDepth 20000 in
theorem tw_967 : Cond.methodLink "NestedDeedsModel" 104 ⟨"NestedDeedsModel", "isDeed", "(I)Z"⟩ ∈ tb := tb_mem (List.mem_of_getElem? (i := 967) (by decide +kernel)) rfl
set_option maxRecDepth 20000 in
theorem tw_969 : Cond.instanceMethod ⟨"NestedDeedsModel", "isDeed", "(I)Z"⟩ ∈ tb := tb_mem (List.mem_of_getElem? (i := 969) (by decide +kernel)) rfl
set_option maxRecDepth 20000 in
theorem tw_970 : Cond.code ⟨"NestedDeedsModel", "isDeed", "(I)Z"⟩ prog_14_method_3_code 2 (some .boolean) ∈ tb := tb_mem (List.mem_of_getElem? (i := 970) (by decide +kernel)) rfl
set_option maxRecDepth 20000 in
theorem tw_971 : Cond.methodLink "NestedDeedsModel" 108 ⟨"NestedDeedsModel", "addPart", "(II)I"⟩ ∈ tb := tb_mem (List.mem_of_getElem? (i := 971) (by decide +kernel)) rfl
set_option maxRecDepth 20000 in
theorem tw_973 : Cond.instanceMethod ⟨"NestedDeedsModel", "addPart", "(II)I"⟩ ∈ tb := tb_mem (List.mem_of_getElem? (i := 973) (by decide +kernel)) rfl
set_option maxRecDepth 20000 in
theorem tw_974 : Cond.code ⟨"NestedDeedsModel", "addPart", "(II)I"⟩ prog_14_method_5_code 3 (some .int) ∈ tb := tb_mem (List.mem_of_getElem? (i := 974) (by decide +kernel)) rfl
set_option maxRecDepth 20000 in
theorem tw_975 : Cond.methodLink "NestedDeedsLaw" 26 ⟨"NestedDeedsModel", "chain", "(IIIII)I"⟩ ∈ tb := tb_mem (List.mem_of_getElem? (i := 975) (by decide +kernel)) rfl
set_option maxRecDepth 20000 in
theorem tw_976 : Cond.instanceMethod ⟨"NestedDeedsModel", "chain", "(IIIII)I"⟩ ∈ tb := tb_mem (List.mem_of_getElem? (i := 976) (by decide +kernel)) rfl
set_option maxRecDepth 20000 in
theorem tw_977 : Cond.selects "NestedDeedsModel" ⟨"NestedDeedsModel", "chain", "(IIIII)I"⟩ ⟨"NestedDeedsModel", "chain", "(IIIII)I"⟩ ∈ tb := tb_mem (List.mem_of_getElem? (i := 977) (by decide +kernel)) rfl
set_option maxRecDepth 20000 in
theorem tw_978 : Cond.code ⟨"NestedDeedsModel", "chain", "(IIIII)I"⟩ prog_14_method_8_code 11 (some .int) ∈ tb := tb_mem (List.mem_of_getElem? (i := 978) (by decide +kernel)) rfl
set_option maxRecDepth 20000 in
theorem tw_979 : Cond.methodLink "NestedDeedsLaw" 31 ⟨"NestedDeedsModel", "way", "(I)I"⟩ ∈ tb := tb_mem (List.mem_of_getElem? (i := 979) (by decide +kernel)) rfl
set_option maxRecDepth 20000 in
theorem tw_980 : Cond.instanceMethod ⟨"NestedDeedsModel", "way", "(I)I"⟩ ∈ tb := tb_mem (List.mem_of_getElem? (i := 980) (by decide +kernel)) rfl
set_option maxRecDepth 20000 in
theorem tw_981 : Cond.selects "NestedDeedsModel" ⟨"NestedDeedsModel", "way", "(I)I"⟩ ⟨"NestedDeedsModel", "way", "(I)I"⟩ ∈ tb := tb_mem (List.mem_of_getElem? (i := 981) (by decide +kernel)) rfl
set_option maxRecDepth 20000 in
theorem tw_982 : Cond.code ⟨"NestedDeedsModel", "way", "(I)I"⟩ prog_14_method_9_code 3 (some .int) ∈ tb := tb_mem (List.mem_of_getElem? (i := 982) (by decide +kernel)) rfl
set_option maxRecDepth 20000 in
theorem tw_983 : Cond.methodLink "NestedDeedsLaw" 35 ⟨"NestedDeedsModel", "meter", "(I)I"⟩ ∈ tb := tb_mem (List.mem_of_getElem? (i := 983) (by decide +kernel)) rfl
set_option maxRecDepth 20000 in
theorem tw_984 : Cond.instanceMethod ⟨"NestedDeedsModel", "meter", "(I)I"⟩ ∈ tb := tb_mem (List.mem_of_getElem? (i := 984) (by decide +kernel)) rfl
set_option maxRecDepth 20000 in
theorem tw_985 : Cond.selects "NestedDeedsModel" ⟨"NestedDeedsModel", "meter", "(I)I"⟩ ⟨"NestedDeedsModel", "meter", "(I)I"⟩ ∈ tb := tb_mem (List.mem_of_getElem? (i := 985) (by decide +kernel)) rfl
set_option maxRecDepth 20000 in
theorem tw_986 : Cond.code ⟨"NestedDeedsModel", "meter", "(I)I"⟩ prog_14_method_10_code 3 (some .int) ∈ tb := tb_mem (List.mem_of_getElem? (i := 986) (by decide +kernel)) rfl
set_option maxRecDepth 20000 in
theorem tw_987 : Cond.methodLink "NestedDeedsLaw" 39 ⟨"NestedDeedsModel", "of", "(II)I"⟩ ∈ tb := tb_mem (List.mem_of_getElem? (i := 987) (by decide +kernel)) rfl
set_option maxRecDepth 20000 in
theorem tw_988 : Cond.instanceMethod ⟨"NestedDeedsModel", "of", "(II)I"⟩ ∈ tb := tb_mem (List.mem_of_getElem? (i := 988) (by decide +kernel)) rfl
set_option maxRecDepth 20000 in
theorem tw_989 : Cond.selects "NestedDeedsModel" ⟨"NestedDeedsModel", "of", "(II)I"⟩ ⟨"NestedDeedsModel", "of", "(II)I"⟩ ∈ tb := tb_mem (List.mem_of_getElem? (i := 989) (by decide +kernel)) rfl
set_option maxRecDepth 20000 in
theorem tw_990 : Cond.code ⟨"NestedDeedsModel", "of", "(II)I"⟩ prog_14_method_11_code 3 (some .int) ∈ tb := tb_mem (List.mem_of_getElem? (i := 990) (by decide +kernel)) rfl
set_option maxRecDepth 20000 in
theorem tw_991 : Cond.constant "NestedDeedsModel" 114 (-2147483648 : Int32) ∈ tb := tb_mem (List.mem_of_getElem? (i := 991) (by decide +kernel)) rfl
set_option maxRecDepth 20000 in
theorem tw_992 : Cond.methodLink "NestedDeedsLaw" 43 ⟨"NestedDeedsModel", "part", "(II)I"⟩ ∈ tb := tb_mem (List.mem_of_getElem? (i := 992) (by decide +kernel)) rfl
set_option maxRecDepth 20000 in
theorem tw_993 : Cond.instanceMethod ⟨"NestedDeedsModel", "part", "(II)I"⟩ ∈ tb := tb_mem (List.mem_of_getElem? (i := 993) (by decide +kernel)) rfl
set_option maxRecDepth 20000 in
theorem tw_994 : Cond.selects "NestedDeedsModel" ⟨"NestedDeedsModel", "part", "(II)I"⟩ ⟨"NestedDeedsModel", "part", "(II)I"⟩ ∈ tb := tb_mem (List.mem_of_getElem? (i := 994) (by decide +kernel)) rfl
set_option maxRecDepth 20000 in
theorem tw_995 : Cond.code ⟨"NestedDeedsModel", "part", "(II)I"⟩ prog_14_method_13_code 3 (some .int) ∈ tb := tb_mem (List.mem_of_getElem? (i := 995) (by decide +kernel)) rfl
set_option maxRecDepth 20000 in
theorem tw_996 : Cond.methodLink "NestedDeedsModel" 115 ⟨"NestedDeedsModel", "partAt", "(II)I"⟩ ∈ tb := tb_mem (List.mem_of_getElem? (i := 996) (by decide +kernel)) rfl
set_option maxRecDepth 20000 in
theorem tw_998 : Cond.instanceMethod ⟨"NestedDeedsModel", "partAt", "(II)I"⟩ ∈ tb := tb_mem (List.mem_of_getElem? (i := 998) (by decide +kernel)) rfl
set_option maxRecDepth 20000 in
theorem tw_999 : Cond.code ⟨"NestedDeedsModel", "partAt", "(II)I"⟩ prog_14_method_12_code 5 (some .int) ∈ tb := tb_mem (List.mem_of_getElem? (i := 999) (by decide +kernel)) rfl
set_option maxRecDepth 20000 in
theorem tw_1000 : Cond.methodLink "NestedDeedsLaw" 47 ⟨"NestedDeedsModel", "size", "(I)I"⟩ ∈ tb := tb_mem (List.mem_of_getElem? (i := 1000) (by decide +kernel)) rfl
set_option maxRecDepth 20000 in
theorem tw_1001 : Cond.instanceMethod ⟨"NestedDeedsModel", "size", "(I)I"⟩ ∈ tb := tb_mem (List.mem_of_getElem? (i := 1001) (by decide +kernel)) rfl
set_option maxRecDepth 20000 in
theorem tw_1002 : Cond.selects "NestedDeedsModel" ⟨"NestedDeedsModel", "size", "(I)I"⟩ ⟨"NestedDeedsModel", "size", "(I)I"⟩ ∈ tb := tb_mem (List.mem_of_getElem? (i := 1002) (by decide +kernel)) rfl
set_option maxRecDepth 20000 in
theorem tw_1003 : Cond.code ⟨"NestedDeedsModel", "size", "(I)I"⟩ prog_14_method_28_code 2 (some .int) ∈ tb := tb_mem (List.mem_of_getElem? (i := 1003) (by decide +kernel)) rfl
set_option maxRecDepth 20000 in
theorem tw_1004 : Cond.methodLink "NestedDeedsModel" 182 ⟨"NestedDeedsModel", "bad", "()I"⟩ ∈ tb := tb_mem (List.mem_of_getElem? (i := 1004) (by decide +kernel)) rfl
set_option maxRecDepth 20000 in
theorem tw_1006 : Cond.instanceMethod ⟨"NestedDeedsModel", "bad", "()I"⟩ ∈ tb := tb_mem (List.mem_of_getElem? (i := 1006) (by decide +kernel)) rfl
set_option maxRecDepth 20000 in
theorem tw_1007 : Cond.code ⟨"NestedDeedsModel", "bad", "()I"⟩ prog_14_method_24_code 1 (some .int) ∈ tb := tb_mem (List.mem_of_getElem? (i := 1007) (by decide +kernel)) rfl
set_option maxRecDepth 20000 in
theorem tw_1008 : Cond.methodLink "NestedDeedsModel" 185 ⟨"NestedDeedsModel", "walkAll", "(I)I"⟩ ∈ tb := tb_mem (List.mem_of_getElem? (i := 1008) (by decide +kernel)) rfl
set_option maxRecDepth 20000 in
theorem tw_1010 : Cond.instanceMethod ⟨"NestedDeedsModel", "walkAll", "(I)I"⟩ ∈ tb := tb_mem (List.mem_of_getElem? (i := 1010) (by decide +kernel)) rfl
set_option maxRecDepth 20000 in
theorem tw_1011 : Cond.code ⟨"NestedDeedsModel", "walkAll", "(I)I"⟩ prog_14_method_27_code 2 (some .int) ∈ tb := tb_mem (List.mem_of_getElem? (i := 1011) (by decide +kernel)) rfl
set_option maxRecDepth 20000 in
theorem tw_1012 : Cond.methodLink "NestedDeedsModel" 178 ⟨"NestedDeedsModel", "walk", "(IZZII)I"⟩ ∈ tb := tb_mem (List.mem_of_getElem? (i := 1012) (by decide +kernel)) rfl
set_option maxRecDepth 20000 in
theorem tw_1014 : Cond.instanceMethod ⟨"NestedDeedsModel", "walk", "(IZZII)I"⟩ ∈ tb := tb_mem (List.mem_of_getElem? (i := 1014) (by decide +kernel)) rfl
set_option maxRecDepth 20000 in
theorem tw_1015 : Cond.code ⟨"NestedDeedsModel", "walk", "(IZZII)I"⟩ prog_14_method_26_code 9 (some .int) ∈ tb := tb_mem (List.mem_of_getElem? (i := 1015) (by decide +kernel)) rfl
set_option maxRecDepth 20000 in
theorem tw_1016 : Cond.methodLink "NestedDeedsModel" 163 ⟨"NestedDeedsModel", "begin", "()V"⟩ ∈ tb := tb_mem (List.mem_of_getElem? (i := 1016) (by decide +kernel)) rfl
set_option maxRecDepth 20000 in
theorem tw_1018 : Cond.instanceMethod ⟨"NestedDeedsModel", "begin", "()V"⟩ ∈ tb := tb_mem (List.mem_of_getElem? (i := 1018) (by decide +kernel)) rfl
set_option maxRecDepth 20000 in
theorem tw_1019 : Cond.code ⟨"NestedDeedsModel", "begin", "()V"⟩ prog_14_method_21_code 1 none ∈ tb := tb_mem (List.mem_of_getElem? (i := 1019) (by decide +kernel)) rfl
set_option maxRecDepth 20000 in
theorem tw_1020 : Cond.methodLink "NestedDeedsModel" 166 ⟨"NestedDeedsModel", "visit", "(II)Z"⟩ ∈ tb := tb_mem (List.mem_of_getElem? (i := 1020) (by decide +kernel)) rfl
set_option maxRecDepth 20000 in
theorem tw_1022 : Cond.instanceMethod ⟨"NestedDeedsModel", "visit", "(II)Z"⟩ ∈ tb := tb_mem (List.mem_of_getElem? (i := 1022) (by decide +kernel)) rfl
set_option maxRecDepth 20000 in
theorem tw_1023 : Cond.code ⟨"NestedDeedsModel", "visit", "(II)Z"⟩ prog_14_method_22_code 3 (some .boolean) ∈ tb := tb_mem (List.mem_of_getElem? (i := 1023) (by decide +kernel)) rfl
set_option maxRecDepth 20000 in
theorem tw_1024 : Cond.methodLink "NestedDeedsModel" 170 ⟨"NestedDeedsModel", "nextFrom", "(Z)I"⟩ ∈ tb := tb_mem (List.mem_of_getElem? (i := 1024) (by decide +kernel)) rfl
set_option maxRecDepth 20000 in
theorem tw_1026 : Cond.instanceMethod ⟨"NestedDeedsModel", "nextFrom", "(Z)I"⟩ ∈ tb := tb_mem (List.mem_of_getElem? (i := 1026) (by decide +kernel)) rfl
set_option maxRecDepth 20000 in
theorem tw_1027 : Cond.code ⟨"NestedDeedsModel", "nextFrom", "(Z)I"⟩ prog_14_method_25_code 5 (some .int) ∈ tb := tb_mem (List.mem_of_getElem? (i := 1027) (by decide +kernel)) rfl
set_option maxRecDepth 20000 in
theorem tw_1028 : Cond.methodLink "NestedDeedsModel" 126 ⟨"NestedDeedsModel", "lookedAt", "(I)I"⟩ ∈ tb := tb_mem (List.mem_of_getElem? (i := 1028) (by decide +kernel)) rfl
set_option maxRecDepth 20000 in
theorem tw_1030 : Cond.instanceMethod ⟨"NestedDeedsModel", "lookedAt", "(I)I"⟩ ∈ tb := tb_mem (List.mem_of_getElem? (i := 1030) (by decide +kernel)) rfl
set_option maxRecDepth 20000 in
theorem tw_1031 : Cond.code ⟨"NestedDeedsModel", "lookedAt", "(I)I"⟩ prog_14_method_17_code 4 (some .int) ∈ tb := tb_mem (List.mem_of_getElem? (i := 1031) (by decide +kernel)) rfl
set_option maxRecDepth 20000 in
theorem tw_1032 : Cond.methodLink "NestedDeedsModel" 122 ⟨"NestedDeedsModel", "chosen", "(I)I"⟩ ∈ tb := tb_mem (List.mem_of_getElem? (i := 1032) (by decide +kernel)) rfl
set_option maxRecDepth 20000 in
theorem tw_1034 : Cond.instanceMethod ⟨"NestedDeedsModel", "chosen", "(I)I"⟩ ∈ tb := tb_mem (List.mem_of_getElem? (i := 1034) (by decide +kernel)) rfl
set_option maxRecDepth 20000 in
theorem tw_1035 : Cond.code ⟨"NestedDeedsModel", "chosen", "(I)I"⟩ prog_14_method_16_code 7 (some .int) ∈ tb := tb_mem (List.mem_of_getElem? (i := 1035) (by decide +kernel)) rfl
set_option maxRecDepth 20000 in
theorem tw_1036 : Cond.methodLink "NestedDeedsModel" 174 ⟨"NestedDeedsModel", "ended", "()I"⟩ ∈ tb := tb_mem (List.mem_of_getElem? (i := 1036) (by decide +kernel)) rfl
set_option maxRecDepth 20000 in
theorem tw_1038 : Cond.instanceMethod ⟨"NestedDeedsModel", "ended", "()I"⟩ ∈ tb := tb_mem (List.mem_of_getElem? (i := 1038) (by decide +kernel)) rfl
set_option maxRecDepth 20000 in
theorem tw_1039 : Cond.code ⟨"NestedDeedsModel", "ended", "()I"⟩ prog_14_method_23_code 1 (some .int) ∈ tb := tb_mem (List.mem_of_getElem? (i := 1039) (by decide +kernel)) rfl
set_option maxRecDepth 20000 in
theorem tw_1040 : Cond.methodLink "NestedDeedsLaw" 51 ⟨"NestedDeedsModel", "depth", "(I)I"⟩ ∈ tb := tb_mem (List.mem_of_getElem? (i := 1040) (by decide +kernel)) rfl
set_option maxRecDepth 20000 in
theorem tw_1041 : Cond.instanceMethod ⟨"NestedDeedsModel", "depth", "(I)I"⟩ ∈ tb := tb_mem (List.mem_of_getElem? (i := 1041) (by decide +kernel)) rfl
set_option maxRecDepth 20000 in
theorem tw_1042 : Cond.selects "NestedDeedsModel" ⟨"NestedDeedsModel", "depth", "(I)I"⟩ ⟨"NestedDeedsModel", "depth", "(I)I"⟩ ∈ tb := tb_mem (List.mem_of_getElem? (i := 1042) (by decide +kernel)) rfl
set_option maxRecDepth 20000 in
theorem tw_1043 : Cond.code ⟨"NestedDeedsModel", "depth", "(I)I"⟩ prog_14_method_29_code 2 (some .int) ∈ tb := tb_mem (List.mem_of_getElem? (i := 1043) (by decide +kernel)) rfl
set_option maxRecDepth 20000 in
theorem tw_1044 : Cond.methodLink "NestedDeedsLaw" 56 ⟨"NestedDeedsModel", "worth", "(I)J"⟩ ∈ tb := tb_mem (List.mem_of_getElem? (i := 1044) (by decide +kernel)) rfl
set_option maxRecDepth 20000 in
theorem tw_1045 : Cond.instanceMethod ⟨"NestedDeedsModel", "worth", "(I)J"⟩ ∈ tb := tb_mem (List.mem_of_getElem? (i := 1045) (by decide +kernel)) rfl
set_option maxRecDepth 20000 in
theorem tw_1046 : Cond.selects "NestedDeedsModel" ⟨"NestedDeedsModel", "worth", "(I)J"⟩ ⟨"NestedDeedsModel", "worth", "(I)J"⟩ ∈ tb := tb_mem (List.mem_of_getElem? (i := 1046) (by decide +kernel)) rfl
set_option maxRecDepth 20000 in
theorem tw_1047 : Cond.code ⟨"NestedDeedsModel", "worth", "(I)J"⟩ prog_14_method_30_code 2 (some .long) ∈ tb := tb_mem (List.mem_of_getElem? (i := 1047) (by decide +kernel)) rfl
set_option maxRecDepth 20000 in
theorem tw_1048 : Cond.methodLink "NestedDeedsModel" 188 ⟨"NestedDeedsModel", "workOut", "(I)V"⟩ ∈ tb := tb_mem (List.mem_of_getElem? (i := 1048) (by decide +kernel)) rfl
set_option maxRecDepth 20000 in
theorem tw_1050 : Cond.instanceMethod ⟨"NestedDeedsModel", "workOut", "(I)V"⟩ ∈ tb := tb_mem (List.mem_of_getElem? (i := 1050) (by decide +kernel)) rfl
set_option maxRecDepth 20000 in
theorem tw_1051 : Cond.code ⟨"NestedDeedsModel", "workOut", "(I)V"⟩ prog_14_method_20_code 3 none ∈ tb := tb_mem (List.mem_of_getElem? (i := 1051) (by decide +kernel)) rfl
set_option maxRecDepth 20000 in
theorem tw_1052 : Cond.methodLink "NestedDeedsModel" 139 ⟨"NestedDeedsModel", "worthIn", "(I)J"⟩ ∈ tb := tb_mem (List.mem_of_getElem? (i := 1052) (by decide +kernel)) rfl
set_option maxRecDepth 20000 in
theorem tw_1054 : Cond.instanceMethod ⟨"NestedDeedsModel", "worthIn", "(I)J"⟩ ∈ tb := tb_mem (List.mem_of_getElem? (i := 1054) (by decide +kernel)) rfl
set_option maxRecDepth 20000 in
theorem tw_1055 : Cond.code ⟨"NestedDeedsModel", "worthIn", "(I)J"⟩ prog_14_method_18_code 5 (some .long) ∈ tb := tb_mem (List.mem_of_getElem? (i := 1055) (by decide +kernel)) rfl
set_option maxRecDepth 20000 in
theorem tw_1056 : Cond.methodLink "NestedDeedsModel" 129 ⟨"NestedDeedsModel", "byAll", "(I)J"⟩ ∈ tb := tb_mem (List.mem_of_getElem? (i := 1056) (by decide +kernel)) rfl
set_option maxRecDepth 20000 in
theorem tw_1058 : Cond.instanceMethod ⟨"NestedDeedsModel", "byAll", "(I)J"⟩ ∈ tb := tb_mem (List.mem_of_getElem? (i := 1058) (by decide +kernel)) rfl
set_option maxRecDepth 20000 in
theorem tw_1059 : Cond.code ⟨"NestedDeedsModel", "byAll", "(I)J"⟩ prog_14_method_15_code 9 (some .long) ∈ tb := tb_mem (List.mem_of_getElem? (i := 1059) (by decide +kernel)) rfl
set_option maxRecDepth 20000 in
theorem tw_1060 : Cond.methodLink "NestedDeedsModel" 118 ⟨"NestedDeedsModel", "turned", "(JI)J"⟩ ∈ tb := tb_mem (List.mem_of_getElem? (i := 1060) (by decide +kernel)) rfl
set_option maxRecDepth 20000 in
theorem tw_1061 : Cond.static ⟨"NestedDeedsModel", "turned", "(JI)J"⟩ ∈ tb := tb_mem (List.mem_of_getElem? (i := 1061) (by decide +kernel)) rfl
set_option maxRecDepth 20000 in
theorem tw_1062 : Cond.code ⟨"NestedDeedsModel", "turned", "(JI)J"⟩ prog_14_method_14_code 4 (some .long) ∈ tb := tb_mem (List.mem_of_getElem? (i := 1062) (by decide +kernel)) rfl
set_option maxRecDepth 20000 in
theorem tw_1063 : Cond.methodLink "NestedDeedsModel" 142 ⟨"NestedDeedsModel", "markIn", "(I)J"⟩ ∈ tb := tb_mem (List.mem_of_getElem? (i := 1063) (by decide +kernel)) rfl
set_option maxRecDepth 20000 in
theorem tw_1065 : Cond.instanceMethod ⟨"NestedDeedsModel", "markIn", "(I)J"⟩ ∈ tb := tb_mem (List.mem_of_getElem? (i := 1065) (by decide +kernel)) rfl
set_option maxRecDepth 20000 in
theorem tw_1066 : Cond.code ⟨"NestedDeedsModel", "markIn", "(I)J"⟩ prog_14_method_19_code 5 (some .long) ∈ tb := tb_mem (List.mem_of_getElem? (i := 1066) (by decide +kernel)) rfl
set_option maxRecDepth 20000 in
theorem tw_1067 : Cond.constantLong "NestedDeedsModel" 133 (7 : Int64) ∈ tb := tb_mem (List.mem_of_getElem? (i := 1067) (by decide +kernel)) rfl
set_option maxRecDepth 20000 in
theorem tw_1068 : Cond.constantLong "NestedDeedsModel" 135 (31 : Int64) ∈ tb := tb_mem (List.mem_of_getElem? (i := 1068) (by decide +kernel)) rfl
set_option maxRecDepth 20000 in
theorem tw_1069 : Cond.constantLong "NestedDeedsModel" 137 (1000003 : Int64) ∈ tb := tb_mem (List.mem_of_getElem? (i := 1069) (by decide +kernel)) rfl
set_option maxRecDepth 20000 in
theorem tw_1070 : Cond.methodLink "NestedDeedsLaw" 60 ⟨"NestedDeedsModel", "mark", "(I)J"⟩ ∈ tb := tb_mem (List.mem_of_getElem? (i := 1070) (by decide +kernel)) rfl
set_option maxRecDepth 20000 in
theorem tw_1071 : Cond.instanceMethod ⟨"NestedDeedsModel", "mark", "(I)J"⟩ ∈ tb := tb_mem (List.mem_of_getElem? (i := 1071) (by decide +kernel)) rfl
set_option maxRecDepth 20000 in
theorem tw_1072 : Cond.selects "NestedDeedsModel" ⟨"NestedDeedsModel", "mark", "(I)J"⟩ ⟨"NestedDeedsModel", "mark", "(I)J"⟩ ∈ tb := tb_mem (List.mem_of_getElem? (i := 1072) (by decide +kernel)) rfl
set_option maxRecDepth 20000 in
theorem tw_1073 : Cond.code ⟨"NestedDeedsModel", "mark", "(I)J"⟩ prog_14_method_31_code 2 (some .long) ∈ tb := tb_mem (List.mem_of_getElem? (i := 1073) (by decide +kernel)) rfl
set_option maxRecDepth 20000 in
theorem tw_1074 : Cond.methodLink "NestedDeedsLaw" 64 ⟨"NestedDeedsModel", "alike", "(II)I"⟩ ∈ tb := tb_mem (List.mem_of_getElem? (i := 1074) (by decide +kernel)) rfl
set_option maxRecDepth 20000 in
theorem tw_1075 : Cond.instanceMethod ⟨"NestedDeedsModel", "alike", "(II)I"⟩ ∈ tb := tb_mem (List.mem_of_getElem? (i := 1075) (by decide +kernel)) rfl
set_option maxRecDepth 20000 in
theorem tw_1076 : Cond.selects "NestedDeedsModel" ⟨"NestedDeedsModel", "alike", "(II)I"⟩ ⟨"NestedDeedsModel", "alike", "(II)I"⟩ ∈ tb := tb_mem (List.mem_of_getElem? (i := 1076) (by decide +kernel)) rfl
set_option maxRecDepth 20000 in
theorem tw_1077 : Cond.code ⟨"NestedDeedsModel", "alike", "(II)I"⟩ prog_14_method_33_code 8 (some .int) ∈ tb := tb_mem (List.mem_of_getElem? (i := 1077) (by decide +kernel)) rfl
set_option maxRecDepth 20000 in
theorem tw_1078 : Cond.methodLink "NestedDeedsModel" 192 ⟨"NestedDeedsModel", "differ", "(II)Z"⟩ ∈ tb := tb_mem (List.mem_of_getElem? (i := 1078) (by decide +kernel)) rfl
set_option maxRecDepth 20000 in
theorem tw_1080 : Cond.instanceMethod ⟨"NestedDeedsModel", "differ", "(II)Z"⟩ ∈ tb := tb_mem (List.mem_of_getElem? (i := 1080) (by decide +kernel)) rfl
set_option maxRecDepth 20000 in
theorem tw_1081 : Cond.code ⟨"NestedDeedsModel", "differ", "(II)Z"⟩ prog_14_method_32_code 3 (some .boolean) ∈ tb := tb_mem (List.mem_of_getElem? (i := 1081) (by decide +kernel)) rfl
set_option maxRecDepth 20000 in
theorem tw_1082 : Cond.methodLink "NestedDeedsLaw" 68 ⟨"NestedDeedsModel", "write", "(I)I"⟩ ∈ tb := tb_mem (List.mem_of_getElem? (i := 1082) (by decide +kernel)) rfl
set_option maxRecDepth 20000 in
theorem tw_1083 : Cond.instanceMethod ⟨"NestedDeedsModel", "write", "(I)I"⟩ ∈ tb := tb_mem (List.mem_of_getElem? (i := 1083) (by decide +kernel)) rfl
set_option maxRecDepth 20000 in
theorem tw_1084 : Cond.selects "NestedDeedsModel" ⟨"NestedDeedsModel", "write", "(I)I"⟩ ⟨"NestedDeedsModel", "write", "(I)I"⟩ ∈ tb := tb_mem (List.mem_of_getElem? (i := 1084) (by decide +kernel)) rfl
set_option maxRecDepth 20000 in
theorem tw_1085 : Cond.code ⟨"NestedDeedsModel", "write", "(I)I"⟩ prog_14_method_36_code 6 (some .int) ∈ tb := tb_mem (List.mem_of_getElem? (i := 1085) (by decide +kernel)) rfl
set_option maxRecDepth 20000 in
theorem tw_1086 : Cond.methodLink "NestedDeedsModel" 209 ⟨"NestedDeedsModel", "putDeed", "(I)V"⟩ ∈ tb := tb_mem (List.mem_of_getElem? (i := 1086) (by decide +kernel)) rfl
set_option maxRecDepth 20000 in
theorem tw_1088 : Cond.instanceMethod ⟨"NestedDeedsModel", "putDeed", "(I)V"⟩ ∈ tb := tb_mem (List.mem_of_getElem? (i := 1088) (by decide +kernel)) rfl
set_option maxRecDepth 20000 in
theorem tw_1089 : Cond.code ⟨"NestedDeedsModel", "putDeed", "(I)V"⟩ prog_14_method_35_code 8 none ∈ tb := tb_mem (List.mem_of_getElem? (i := 1089) (by decide +kernel)) rfl
set_option maxRecDepth 20000 in
theorem tw_1090 : Cond.methodLink "NestedDeedsModel" 202 ⟨"NestedDeedsModel", "put", "(I)V"⟩ ∈ tb := tb_mem (List.mem_of_getElem? (i := 1090) (by decide +kernel)) rfl
set_option maxRecDepth 20000 in
theorem tw_1092 : Cond.instanceMethod ⟨"NestedDeedsModel", "put", "(I)V"⟩ ∈ tb := tb_mem (List.mem_of_getElem? (i := 1092) (by decide +kernel)) rfl
set_option maxRecDepth 20000 in
theorem tw_1093 : Cond.code ⟨"NestedDeedsModel", "put", "(I)V"⟩ prog_14_method_34_code 2 none ∈ tb := tb_mem (List.mem_of_getElem? (i := 1093) (by decide +kernel)) rfl
set_option maxRecDepth 20000 in
theorem tw_1094 : Cond.constantLong "NestedDeedsModel" 205 (9 : Int64) ∈ tb := tb_mem (List.mem_of_getElem? (i := 1094) (by decide +kernel)) rfl
set_option maxRecDepth 20000 in
theorem tw_1095 : Cond.constantLong "NestedDeedsModel" 207 (10 : Int64) ∈ tb := tb_mem (List.mem_of_getElem? (i := 1095) (by decide +kernel)) rfl
set_option maxRecDepth 20000 in
theorem tw_1096 : Cond.methodLink "NestedDeedsLaw" 73 ⟨"NestedDeedsModel", "find", "(III)I"⟩ ∈ tb := tb_mem (List.mem_of_getElem? (i := 1096) (by decide +kernel)) rfl
set_option maxRecDepth 20000 in
theorem tw_1097 : Cond.instanceMethod ⟨"NestedDeedsModel", "find", "(III)I"⟩ ∈ tb := tb_mem (List.mem_of_getElem? (i := 1097) (by decide +kernel)) rfl
set_option maxRecDepth 20000 in
theorem tw_1098 : Cond.selects "NestedDeedsModel" ⟨"NestedDeedsModel", "find", "(III)I"⟩ ⟨"NestedDeedsModel", "find", "(III)I"⟩ ∈ tb := tb_mem (List.mem_of_getElem? (i := 1098) (by decide +kernel)) rfl
set_option maxRecDepth 20000 in
theorem tw_1099 : Cond.code ⟨"NestedDeedsModel", "find", "(III)I"⟩ prog_14_method_37_code 4 (some .int) ∈ tb := tb_mem (List.mem_of_getElem? (i := 1099) (by decide +kernel)) rfl
set_option maxRecDepth 20000 in
theorem tw_1100 : Cond.methodLink "NestedDeedsLaw" 77 ⟨"NestedDeedsModel", "widest", "(II)I"⟩ ∈ tb := tb_mem (List.mem_of_getElem? (i := 1100) (by decide +kernel)) rfl
set_option maxRecDepth 20000 in
theorem tw_1101 : Cond.instanceMethod ⟨"NestedDeedsModel", "widest", "(II)I"⟩ ∈ tb := tb_mem (List.mem_of_getElem? (i := 1101) (by decide +kernel)) rfl
set_option maxRecDepth 20000 in
theorem tw_1102 : Cond.selects "NestedDeedsModel" ⟨"NestedDeedsModel", "widest", "(II)I"⟩ ⟨"NestedDeedsModel", "widest", "(II)I"⟩ ∈ tb := tb_mem (List.mem_of_getElem? (i := 1102) (by decide +kernel)) rfl
set_option maxRecDepth 20000 in
theorem tw_1103 : Cond.code ⟨"NestedDeedsModel", "widest", "(II)I"⟩ prog_14_method_38_code 5 (some .int) ∈ tb := tb_mem (List.mem_of_getElem? (i := 1103) (by decide +kernel)) rfl
set_option maxRecDepth 20000 in
theorem tw_1104 : Cond.methodLink "NestedDeedsLaw" 81 ⟨"NestedDeedsModel", "copy", "(I)I"⟩ ∈ tb := tb_mem (List.mem_of_getElem? (i := 1104) (by decide +kernel)) rfl
set_option maxRecDepth 20000 in
theorem tw_1105 : Cond.instanceMethod ⟨"NestedDeedsModel", "copy", "(I)I"⟩ ∈ tb := tb_mem (List.mem_of_getElem? (i := 1105) (by decide +kernel)) rfl
set_option maxRecDepth 20000 in
theorem tw_1106 : Cond.selects "NestedDeedsModel" ⟨"NestedDeedsModel", "copy", "(I)I"⟩ ⟨"NestedDeedsModel", "copy", "(I)I"⟩ ∈ tb := tb_mem (List.mem_of_getElem? (i := 1106) (by decide +kernel)) rfl
set_option maxRecDepth 20000 in
theorem tw_1107 : Cond.code ⟨"NestedDeedsModel", "copy", "(I)I"⟩ prog_14_method_43_code 2 (some .int) ∈ tb := tb_mem (List.mem_of_getElem? (i := 1107) (by decide +kernel)) rfl
set_option maxRecDepth 20000 in
theorem tw_1108 : Cond.methodLink "NestedDeedsModel" 230 ⟨"NestedDeedsModel", "anew", "(IZIZ)I"⟩ ∈ tb := tb_mem (List.mem_of_getElem? (i := 1108) (by decide +kernel)) rfl
set_option maxRecDepth 20000 in
theorem tw_1110 : Cond.instanceMethod ⟨"NestedDeedsModel", "anew", "(IZIZ)I"⟩ ∈ tb := tb_mem (List.mem_of_getElem? (i := 1110) (by decide +kernel)) rfl
set_option maxRecDepth 20000 in
theorem tw_1111 : Cond.code ⟨"NestedDeedsModel", "anew", "(IZIZ)I"⟩ prog_14_method_42_code 5 (some .int) ∈ tb := tb_mem (List.mem_of_getElem? (i := 1111) (by decide +kernel)) rfl
set_option maxRecDepth 20000 in
theorem tw_1112 : Cond.methodLink "NestedDeedsModel" 226 ⟨"NestedDeedsModel", "build", "(ZIZ)I"⟩ ∈ tb := tb_mem (List.mem_of_getElem? (i := 1112) (by decide +kernel)) rfl
set_option maxRecDepth 20000 in
theorem tw_1114 : Cond.instanceMethod ⟨"NestedDeedsModel", "build", "(ZIZ)I"⟩ ∈ tb := tb_mem (List.mem_of_getElem? (i := 1114) (by decide +kernel)) rfl
set_option maxRecDepth 20000 in
theorem tw_1115 : Cond.code ⟨"NestedDeedsModel", "build", "(ZIZ)I"⟩ prog_14_method_41_code 8 (some .int) ∈ tb := tb_mem (List.mem_of_getElem? (i := 1115) (by decide +kernel)) rfl
set_option maxRecDepth 20000 in
theorem tw_1116 : Cond.constant "NestedDeedsModel" 218 (100000 : Int32) ∈ tb := tb_mem (List.mem_of_getElem? (i := 1116) (by decide +kernel)) rfl
set_option maxRecDepth 20000 in
theorem tw_1117 : Cond.methodLink "NestedDeedsModel" 219 ⟨"NestedDeedsModel", "plant", "(IIJIZ)V"⟩ ∈ tb := tb_mem (List.mem_of_getElem? (i := 1117) (by decide +kernel)) rfl
set_option maxRecDepth 20000 in
theorem tw_1119 : Cond.instanceMethod ⟨"NestedDeedsModel", "plant", "(IIJIZ)V"⟩ ∈ tb := tb_mem (List.mem_of_getElem? (i := 1119) (by decide +kernel)) rfl
set_option maxRecDepth 20000 in
theorem tw_1120 : Cond.code ⟨"NestedDeedsModel", "plant", "(IIJIZ)V"⟩ prog_14_method_39_code 10 none ∈ tb := tb_mem (List.mem_of_getElem? (i := 1120) (by decide +kernel)) rfl
set_option maxRecDepth 20000 in
theorem tw_1121 : Cond.methodLink "NestedDeedsModel" 223 ⟨"NestedDeedsModel", "grow", "()I"⟩ ∈ tb := tb_mem (List.mem_of_getElem? (i := 1121) (by decide +kernel)) rfl
set_option maxRecDepth 20000 in
theorem tw_1123 : Cond.instanceMethod ⟨"NestedDeedsModel", "grow", "()I"⟩ ∈ tb := tb_mem (List.mem_of_getElem? (i := 1123) (by decide +kernel)) rfl
set_option maxRecDepth 20000 in
theorem tw_1124 : Cond.code ⟨"NestedDeedsModel", "grow", "()I"⟩ prog_14_method_40_code 3 (some .int) ∈ tb := tb_mem (List.mem_of_getElem? (i := 1124) (by decide +kernel)) rfl
set_option maxRecDepth 20000 in
theorem tw_1125 : Cond.methodLink "NestedDeedsLaw" 85 ⟨"NestedDeedsModel", "thin", "(II)I"⟩ ∈ tb := tb_mem (List.mem_of_getElem? (i := 1125) (by decide +kernel)) rfl
set_option maxRecDepth 20000 in
theorem tw_1126 : Cond.instanceMethod ⟨"NestedDeedsModel", "thin", "(II)I"⟩ ∈ tb := tb_mem (List.mem_of_getElem? (i := 1126) (by decide +kernel)) rfl
set_option maxRecDepth 20000 in
theorem tw_1127 : Cond.selects "NestedDeedsModel" ⟨"NestedDeedsModel", "thin", "(II)I"⟩ ⟨"NestedDeedsModel", "thin", "(II)I"⟩ ∈ tb := tb_mem (List.mem_of_getElem? (i := 1127) (by decide +kernel)) rfl
set_option maxRecDepth 20000 in
theorem tw_1128 : Cond.code ⟨"NestedDeedsModel", "thin", "(II)I"⟩ prog_14_method_44_code 3 (some .int) ∈ tb := tb_mem (List.mem_of_getElem? (i := 1128) (by decide +kernel)) rfl
set_option maxRecDepth 20000 in
theorem tw_1129 : Cond.methodLink "NestedDeedsLaw" 89 ⟨"NestedDeedsModel", "order", "(I)I"⟩ ∈ tb := tb_mem (List.mem_of_getElem? (i := 1129) (by decide +kernel)) rfl
set_option maxRecDepth 20000 in
theorem tw_1130 : Cond.instanceMethod ⟨"NestedDeedsModel", "order", "(I)I"⟩ ∈ tb := tb_mem (List.mem_of_getElem? (i := 1130) (by decide +kernel)) rfl
set_option maxRecDepth 20000 in
theorem tw_1131 : Cond.selects "NestedDeedsModel" ⟨"NestedDeedsModel", "order", "(I)I"⟩ ⟨"NestedDeedsModel", "order", "(I)I"⟩ ∈ tb := tb_mem (List.mem_of_getElem? (i := 1131) (by decide +kernel)) rfl
set_option maxRecDepth 20000 in
theorem tw_1132 : Cond.code ⟨"NestedDeedsModel", "order", "(I)I"⟩ prog_14_method_45_code 2 (some .int) ∈ tb := tb_mem (List.mem_of_getElem? (i := 1132) (by decide +kernel)) rfl
set_option maxRecDepth 20000 in
theorem tw_1133 : Cond.methodLink "NestedDeedsLaw" 96 ⟨"NestedDeedsModel", "feed", "(JI)I"⟩ ∈ tb := tb_mem (List.mem_of_getElem? (i := 1133) (by decide +kernel)) rfl
set_option maxRecDepth 20000 in
theorem tw_1134 : Cond.instanceMethod ⟨"NestedDeedsModel", "feed", "(JI)I"⟩ ∈ tb := tb_mem (List.mem_of_getElem? (i := 1134) (by decide +kernel)) rfl
set_option maxRecDepth 20000 in
theorem tw_1135 : Cond.selects "NestedDeedsModel" ⟨"NestedDeedsModel", "feed", "(JI)I"⟩ ⟨"NestedDeedsModel", "feed", "(JI)I"⟩ ∈ tb := tb_mem (List.mem_of_getElem? (i := 1135) (by decide +kernel)) rfl
set_option maxRecDepth 20000 in
theorem tw_1136 : Cond.code ⟨"NestedDeedsModel", "feed", "(JI)I"⟩ prog_14_method_46_code 5 (some .int) ∈ tb := tb_mem (List.mem_of_getElem? (i := 1136) (by decide +kernel)) rfl
set_option maxRecDepth 20000 in
theorem tw_1137 : Cond.constantLong "NestedDeedsModel" 234 (255 : Int64) ∈ tb := tb_mem (List.mem_of_getElem? (i := 1137) (by decide +kernel)) rfl
set_option maxRecDepth 20000 in
theorem tw_1138 : Cond.methodLink "NestedDeedsLaw" 101 ⟨"NestedDeedsModel", "tear", "()I"⟩ ∈ tb := tb_mem (List.mem_of_getElem? (i := 1138) (by decide +kernel)) rfl
set_option maxRecDepth 20000 in
theorem tw_1139 : Cond.instanceMethod ⟨"NestedDeedsModel", "tear", "()I"⟩ ∈ tb := tb_mem (List.mem_of_getElem? (i := 1139) (by decide +kernel)) rfl
set_option maxRecDepth 20000 in
theorem tw_1140 : Cond.selects "NestedDeedsModel" ⟨"NestedDeedsModel", "tear", "()I"⟩ ⟨"NestedDeedsModel", "tear", "()I"⟩ ∈ tb := tb_mem (List.mem_of_getElem? (i := 1140) (by decide +kernel)) rfl
set_option maxRecDepth 20000 in
theorem tw_1141 : Cond.code ⟨"NestedDeedsModel", "tear", "()I"⟩ prog_14_method_47_code 2 (some .int) ∈ tb := tb_mem (List.mem_of_getElem? (i := 1141) (by decide +kernel)) rfl
set_option maxRecDepth 20000 in
theorem tw_1142 : Cond.methodLink "NestedDeedsLaw" 105 ⟨"NestedDeedsModel", "byteAt", "(I)I"⟩ ∈ tb := tb_mem (List.mem_of_getElem? (i := 1142) (by decide +kernel)) rfl
set_option maxRecDepth 20000 in
theorem tw_1143 : Cond.instanceMethod ⟨"NestedDeedsModel", "byteAt", "(I)I"⟩ ∈ tb := tb_mem (List.mem_of_getElem? (i := 1143) (by decide +kernel)) rfl
set_option maxRecDepth 20000 in
theorem tw_1144 : Cond.selects "NestedDeedsModel" ⟨"NestedDeedsModel", "byteAt", "(I)I"⟩ ⟨"NestedDeedsModel", "byteAt", "(I)I"⟩ ∈ tb := tb_mem (List.mem_of_getElem? (i := 1144) (by decide +kernel)) rfl
set_option maxRecDepth 20000 in
theorem tw_1145 : Cond.code ⟨"NestedDeedsModel", "byteAt", "(I)I"⟩ prog_14_method_48_code 2 (some .int) ∈ tb := tb_mem (List.mem_of_getElem? (i := 1145) (by decide +kernel)) rfl
set_option maxRecDepth 20000 in
theorem tw_1146 : Cond.methodLink "NestedDeedsLaw" 109 ⟨"NestedDeedsModel", "read", "()I"⟩ ∈ tb := tb_mem (List.mem_of_getElem? (i := 1146) (by decide +kernel)) rfl
set_option maxRecDepth 20000 in
theorem tw_1147 : Cond.instanceMethod ⟨"NestedDeedsModel", "read", "()I"⟩ ∈ tb := tb_mem (List.mem_of_getElem? (i := 1147) (by decide +kernel)) rfl
set_option maxRecDepth 20000 in
theorem tw_1148 : Cond.selects "NestedDeedsModel" ⟨"NestedDeedsModel", "read", "()I"⟩ ⟨"NestedDeedsModel", "read", "()I"⟩ ∈ tb := tb_mem (List.mem_of_getElem? (i := 1148) (by decide +kernel)) rfl
set_option maxRecDepth 20000 in
theorem tw_1149 : Cond.code ⟨"NestedDeedsModel", "read", "()I"⟩ prog_14_method_53_code 4 (some .int) ∈ tb := tb_mem (List.mem_of_getElem? (i := 1149) (by decide +kernel)) rfl
set_option maxRecDepth 20000 in
theorem tw_1150 : Cond.methodLink "NestedDeedsModel" 254 ⟨"NestedDeedsModel", "readOne", "(I)V"⟩ ∈ tb := tb_mem (List.mem_of_getElem? (i := 1150) (by decide +kernel)) rfl
set_option maxRecDepth 20000 in
theorem tw_1152 : Cond.instanceMethod ⟨"NestedDeedsModel", "readOne", "(I)V"⟩ ∈ tb := tb_mem (List.mem_of_getElem? (i := 1152) (by decide +kernel)) rfl
set_option maxRecDepth 20000 in
theorem tw_1153 : Cond.code ⟨"NestedDeedsModel", "readOne", "(I)V"⟩ prog_14_method_52_code 4 none ∈ tb := tb_mem (List.mem_of_getElem? (i := 1153) (by decide +kernel)) rfl
set_option maxRecDepth 20000 in
theorem tw_1154 : Cond.methodLink "NestedDeedsModel" 239 ⟨"NestedDeedsModel", "now", "()I"⟩ ∈ tb := tb_mem (List.mem_of_getElem? (i := 1154) (by decide +kernel)) rfl
set_option maxRecDepth 20000 in
theorem tw_1156 : Cond.instanceMethod ⟨"NestedDeedsModel", "now", "()I"⟩ ∈ tb := tb_mem (List.mem_of_getElem? (i := 1156) (by decide +kernel)) rfl
set_option maxRecDepth 20000 in
theorem tw_1157 : Cond.code ⟨"NestedDeedsModel", "now", "()I"⟩ prog_14_method_49_code 1 (some .int) ∈ tb := tb_mem (List.mem_of_getElem? (i := 1157) (by decide +kernel)) rfl
set_option maxRecDepth 20000 in
theorem tw_1158 : Cond.methodLink "NestedDeedsModel" 251 ⟨"NestedDeedsModel", "figures", "()I"⟩ ∈ tb := tb_mem (List.mem_of_getElem? (i := 1158) (by decide +kernel)) rfl
set_option maxRecDepth 20000 in
theorem tw_1160 : Cond.instanceMethod ⟨"NestedDeedsModel", "figures", "()I"⟩ ∈ tb := tb_mem (List.mem_of_getElem? (i := 1160) (by decide +kernel)) rfl
set_option maxRecDepth 20000 in
theorem tw_1161 : Cond.code ⟨"NestedDeedsModel", "figures", "()I"⟩ prog_14_method_51_code 6 (some .int) ∈ tb := tb_mem (List.mem_of_getElem? (i := 1161) (by decide +kernel)) rfl
set_option maxRecDepth 20000 in
theorem tw_1162 : Cond.methodLink "NestedDeedsModel" 242 ⟨"NestedDeedsModel", "isFigure", "()Z"⟩ ∈ tb := tb_mem (List.mem_of_getElem? (i := 1162) (by decide +kernel)) rfl
set_option maxRecDepth 20000 in
theorem tw_1164 : Cond.instanceMethod ⟨"NestedDeedsModel", "isFigure", "()Z"⟩ ∈ tb := tb_mem (List.mem_of_getElem? (i := 1164) (by decide +kernel)) rfl
set_option maxRecDepth 20000 in
theorem tw_1165 : Cond.code ⟨"NestedDeedsModel", "isFigure", "()Z"⟩ prog_14_method_50_code 1 (some .boolean) ∈ tb := tb_mem (List.mem_of_getElem? (i := 1165) (by decide +kernel)) rfl
set_option maxRecDepth 20000 in
theorem tw_1166 : Cond.constantLong "NestedDeedsModel" 249 (48 : Int64) ∈ tb := tb_mem (List.mem_of_getElem? (i := 1166) (by decide +kernel)) rfl
set_option maxRecDepth 20000 in
theorem tw_1167 : Cond.methodLink "NestedDeedsLaw" 113 ⟨"NestedDeedsModel", "answer", "()I"⟩ ∈ tb := tb_mem (List.mem_of_getElem? (i := 1167) (by decide +kernel)) rfl
set_option maxRecDepth 20000 in
theorem tw_1168 : Cond.instanceMethod ⟨"NestedDeedsModel", "answer", "()I"⟩ ∈ tb := tb_mem (List.mem_of_getElem? (i := 1168) (by decide +kernel)) rfl
set_option maxRecDepth 20000 in
theorem tw_1169 : Cond.selects "NestedDeedsModel" ⟨"NestedDeedsModel", "answer", "()I"⟩ ⟨"NestedDeedsModel", "answer", "()I"⟩ ∈ tb := tb_mem (List.mem_of_getElem? (i := 1169) (by decide +kernel)) rfl
set_option maxRecDepth 20000 in
theorem tw_1170 : Cond.code ⟨"NestedDeedsModel", "answer", "()I"⟩ prog_14_method_54_code 1 (some .int) ∈ tb := tb_mem (List.mem_of_getElem? (i := 1170) (by decide +kernel)) rfl
set_option maxRecDepth 20000 in
theorem tw_1171 : Cond.methodLink "NestedDeedsLaw" 117 ⟨"NestedDeedsModel", "count", "(I)I"⟩ ∈ tb := tb_mem (List.mem_of_getElem? (i := 1171) (by decide +kernel)) rfl
set_option maxRecDepth 20000 in
theorem tw_1172 : Cond.instanceMethod ⟨"NestedDeedsModel", "count", "(I)I"⟩ ∈ tb := tb_mem (List.mem_of_getElem? (i := 1172) (by decide +kernel)) rfl
set_option maxRecDepth 20000 in
theorem tw_1173 : Cond.selects "NestedDeedsModel" ⟨"NestedDeedsModel", "count", "(I)I"⟩ ⟨"NestedDeedsModel", "count", "(I)I"⟩ ∈ tb := tb_mem (List.mem_of_getElem? (i := 1173) (by decide +kernel)) rfl
set_option maxRecDepth 20000 in
theorem tw_1174 : Cond.code ⟨"NestedDeedsModel", "count", "(I)I"⟩ prog_14_method_55_code 2 (some .int) ∈ tb := tb_mem (List.mem_of_getElem? (i := 1174) (by decide +kernel)) rfl
set_option maxRecDepth 20000 in
theorem tw_1175 : Cond.constantLong "NestedDeedsLaw" 90 (4294967295 : Int64) ∈ tb := tb_mem (List.mem_of_getElem? (i := 1175) (by decide +kernel)) rfl
end
section
/-- one method's walk: program, launch, env, room, start, method, args, below, method, code, world's numbers, free cells, locals, end, cells, slots -/
abbrev Gx : Type := va_G × ClassId × ClassId × ClassId × ClassId
abbrev Cx : Type := Program × Launch × Env × Room × State × MethodId × Array Value × List Frame × Method × Code × Gx × (Nat → Prop) × Nat × (State → Prop) × Nat × Nat
abbrev zp (Z : Cx) : Program := Z.1
abbrev zl (Z : Cx) : Launch := Z.2.1
abbrev ze (Z : Cx) : Env := Z.2.2.1
abbrev zR (Z : Cx) : Room := Z.2.2.2.1
abbrev zs (Z : Cx) : State := Z.2.2.2.2.1
abbrev zm (Z : Cx) : MethodId := Z.2.2.2.2.2.1
abbrev za (Z : Cx) : Array Value := Z.2.2.2.2.2.2.1
abbrev zb (Z : Cx) : List Frame := Z.2.2.2.2.2.2.2.1
abbrev zM (Z : Cx) : Method := Z.2.2.2.2.2.2.2.2.1
abbrev zc (Z : Cx) : Code := Z.2.2.2.2.2.2.2.2.2.1
abbrev zG (Z : Cx) : Gx := Z.2.2.2.2.2.2.2.2.2.2.1
abbrev zA (Z : Cx) : Nat → Prop := Z.2.2.2.2.2.2.2.2.2.2.2.1
abbrev zn (Z : Cx) : Nat := Z.2.2.2.2.2.2.2.2.2.2.2.2.1
abbrev zQ (Z : Cx) : State → Prop := Z.2.2.2.2.2.2.2.2.2.2.2.2.2.1
abbrev zk (Z : Cx) : Nat := Z.2.2.2.2.2.2.2.2.2.2.2.2.2.2.1
abbrev zt (Z : Cx) : Nat := Z.2.2.2.2.2.2.2.2.2.2.2.2.2.2.2
abbrev tyl (G : Gx) : List (ClassId × FieldType) := [(G.2.1, .int), (G.2.2.1, .long), (G.2.2.2.1, .byte), (G.2.2.2.2, .boolean)]
abbrev nestW : Cond := .methodLinkNest "NestedDeeds$Reader" 74 ⟨"NestedDeeds", "isKind", "(I)Z"⟩ "NestedDeeds"
/-- what holds of the classes in every state -/
def KK (G : Gx) (U : State) : Prop := va_K G.1 vwCl (tyl G) U ∧ va_Nw nestW U
theorem KK.warm {G : Gx} {u U : State} (hW : u.WarmedH U.vm) (h : KK G u) : KK G U := ⟨va_K.moved hW.alike h.1, va_Nw.warmM hW h.2⟩
theorem KK.same {G : Gx} {u U : State} (hv : u.vm = U.vm) (h : KK G u) : KK G U := ⟨va_K.moved (by rw [← hv]; exact Vm.Alike.refl u.vm) h.1, va_Nw.same rfl hv h.2⟩
def XC (Z : Cx) (own : String) (cc : ByteArray) (rt : Option FieldType) : Prop := (zp Z).tables.exec = Jvm.exec ∧ (zc Z).code = cc ∧ (zc Z).maxLocals = zn Z ∧ (zs Z).vm.findClass own = some (zm Z).cls ∧ (∀ w ∈ tb, w.before (za Z) (zs Z) = true) ∧ (zM Z).sig.returnType = rt ∧ (zM Z).locks = false ∧ KK (zG Z) (zs Z)
theorem XC.x {Z : Cx} {own : String} {cc : ByteArray} {rt : Option FieldType} (X : XC Z own cc rt) : (zp Z).tables.exec = Jvm.exec := X.1
theorem XC.b {Z : Cx} {own : String} {cc : ByteArray} {rt : Option FieldType} (X : XC Z own cc rt) : (zc Z).code = cc := X.2.1
theorem XC.ml {Z : Cx} {own : String} {cc : ByteArray} {rt : Option FieldType} (X : XC Z own cc rt) : (zc Z).maxLocals = zn Z := X.2.2.1
theorem XC.o {Z : Cx} {own : String} {cc : ByteArray} {rt : Option FieldType} (X : XC Z own cc rt) : (zs Z).vm.findClass own = some (zm Z).cls := X.2.2.2.1
theorem XC.t {Z : Cx} {own : String} {cc : ByteArray} {rt : Option FieldType} (X : XC Z own cc rt) : ∀ w ∈ tb, w.before (za Z) (zs Z) = true := X.2.2.2.2.1
theorem XC.r {Z : Cx} {own : String} {cc : ByteArray} {rt : Option FieldType} (X : XC Z own cc rt) : (zM Z).sig.returnType = rt := X.2.2.2.2.2.1
theorem XC.lk {Z : Cx} {own : String} {cc : ByteArray} {rt : Option FieldType} (X : XC Z own cc rt) : (zM Z).locks = false := X.2.2.2.2.2.2.1
theorem XC.K {Z : Cx} {own : String} {cc : ByteArray} {rt : Option FieldType} (X : XC Z own cc rt) : KK (zG Z) (zs Z) := X.2.2.2.2.2.2.2
/-- from every heap that holds the world ws, with the locals lv, at pc with the stack st: the machine comes to the end Q -/
def V (Z : Cx) (ws : va_W) (lv : List (Nat × Value)) (pc : Nat) (st : List Value) : Prop :=
  ∀ (H : Heap) (locs : List Loc) (ls : Array Slot), va_P (zG Z).1 vwCl ws H → va_D (zA Z) ws → va_S (zA Z) (zs Z).heap H locs → lv_has ls (zn Z) lv →
    W (zp Z) (zl Z) (ze Z) (zR Z) (zs Z) (zm Z) (za Z) (zb Z) (zM Z) (zc Z) H locs (zk Z) (zt Z) (zQ Z) (F0 (zm Z) pc ls st)
theorem V.sub {Z : Cx} {ws : va_W} {lv lv' : List (Nat × Value)} {pc : Nat} {st : List Value} (ks : List Nat) (hl : lv_pick lv ks = lv') (k : V Z ws lv' pc st) : V Z ws lv pc st :=
  fun H locs ls hP hD hS h => k H locs ls hP hD hS (lv_sub h ks hl)
theorem V.eqs {Z : Cx} {ws : va_W} {lv : List (Nat × Value)} {pc : Nat} {st st' : List Value} (h : st = st') (k : V Z ws lv pc st') : V Z ws lv pc st := h ▸ k
theorem V.eql {Z : Cx} {ws : va_W} {lv lv' : List (Nat × Value)} {pc : Nat} {st : List Value} (h : lv = lv') (k : V Z ws lv' pc st) : V Z ws lv pc st := h ▸ k
theorem V.eqw {Z : Cx} {ws ws' : va_W} {lv : List (Nat × Value)} {pc : Nat} {st : List Value} (h : ws = ws') (k : V Z ws' lv pc st) : V Z ws lv pc st := h ▸ k
theorem V.topi {Z : Cx} {ws : va_W} {lv : List (Nat × Value)} {pc : Nat} {st : List Value} {x y : Int32} (h : x = y) (k : V Z ws lv pc (.int y :: st)) : V Z ws lv pc (.int x :: st) := h ▸ k
theorem V.topl {Z : Cx} {ws : va_W} {lv : List (Nat × Value)} {pc : Nat} {st : List Value} {x y : Int64} (h : x = y) (k : V Z ws lv pc (.long y :: st)) : V Z ws lv pc (.long x :: st) := h ▸ k

theorem V.iconst {Z : Cx} {own : String} {cc : ByteArray} {rt : Option FieldType} {ws : va_W} {lv : List (Nat × Value)} {pc : Nat} {st : List Value} (X : XC Z own cc rt) {n : Int} {v : Int32} (hd : decode cc pc = .ok (.iconst n, 1)) (hv : Int32.ofInt n = v) (k : V Z ws lv (pc + 1) (.int v :: st)) : V Z ws lv pc (st) := fun H locs ls hP hD hS hl => lv_iconst X.x X.b hd hv (k H locs ls hP hD hS hl)
theorem V.bipush {Z : Cx} {own : String} {cc : ByteArray} {rt : Option FieldType} {ws : va_W} {lv : List (Nat × Value)} {pc : Nat} {st : List Value} (X : XC Z own cc rt) {n : Int} {v : Int32} (hd : decode cc pc = .ok (.bipush n, 2)) (hv : (Int8.ofInt n).toInt32 = v) (k : V Z ws lv (pc + 2) (.int v :: st)) : V Z ws lv pc (st) := fun H locs ls hP hD hS hl => lv_bipush X.x X.b hd hv (k H locs ls hP hD hS hl)
theorem V.sipush {Z : Cx} {own : String} {cc : ByteArray} {rt : Option FieldType} {ws : va_W} {lv : List (Nat × Value)} {pc : Nat} {st : List Value} (X : XC Z own cc rt) {n : Int} {v : Int32} (hd : decode cc pc = .ok (.sipush n, 3)) (hv : (Int16.ofInt n).toInt32 = v) (k : V Z ws lv (pc + 3) (.int v :: st)) : V Z ws lv pc (st) := fun H locs ls hP hD hS hl => lv_sipush X.x X.b hd hv (k H locs ls hP hD hS hl)
theorem V.lconst {Z : Cx} {own : String} {cc : ByteArray} {rt : Option FieldType} {ws : va_W} {lv : List (Nat × Value)} {pc : Nat} {st : List Value} (X : XC Z own cc rt) {n : Fin 2} {v : Int64} (hd : decode cc pc = .ok (.lconst n, 1)) (hv : Int64.ofNat (n : Nat) = v) (k : V Z ws lv (pc + 1) (.long v :: st)) : V Z ws lv pc (st) := fun H locs ls hP hD hS hl => lv_lconst X.x X.b hd hv (k H locs ls hP hD hS hl)
theorem V.iload_n {Z : Cx} {own : String} {cc : ByteArray} {rt : Option FieldType} {ws : va_W} {lv : List (Nat × Value)} {pc : Nat} {st : List Value} (X : XC Z own cc rt) {k0 : Fin 4} {i : Nat} {x : Int32} (q : Nat) (hd : decode cc pc = .ok (.iload_n k0, 1)) (hi : (k0 : Nat) = i) (hl0 : lv[q]? = some (i, .int x)) (k : V Z ws lv (pc + 1) (.int x :: st)) : V Z ws lv pc (st) := fun H locs ls hP hD hS hl => lv_iload_n X.x X.b hd hi (lv_at hl q hl0) (k H locs ls hP hD hS hl)
theorem V.iload {Z : Cx} {own : String} {cc : ByteArray} {rt : Option FieldType} {ws : va_W} {lv : List (Nat × Value)} {pc : Nat} {st : List Value} (X : XC Z own cc rt) {i : Nat} {x : Int32} (q : Nat) (hd : decode cc pc = .ok (.iload i, 2)) (hl0 : lv[q]? = some (i, .int x)) (k : V Z ws lv (pc + 2) (.int x :: st)) : V Z ws lv pc (st) := fun H locs ls hP hD hS hl => lv_iload X.x X.b hd (lv_at hl q hl0) (k H locs ls hP hD hS hl)
theorem V.lload_n {Z : Cx} {own : String} {cc : ByteArray} {rt : Option FieldType} {ws : va_W} {lv : List (Nat × Value)} {pc : Nat} {st : List Value} (X : XC Z own cc rt) {k0 : Fin 4} {i : Nat} {x : Int64} (q : Nat) (hd : decode cc pc = .ok (.lload_n k0, 1)) (hi : (k0 : Nat) = i) (hl0 : lv[q]? = some (i, .long x)) (k : V Z ws lv (pc + 1) (.long x :: st)) : V Z ws lv pc (st) := fun H locs ls hP hD hS hl => lv_lload_n X.x X.b hd hi (lv_at hl q hl0) (k H locs ls hP hD hS hl)
theorem V.lload {Z : Cx} {own : String} {cc : ByteArray} {rt : Option FieldType} {ws : va_W} {lv : List (Nat × Value)} {pc : Nat} {st : List Value} (X : XC Z own cc rt) {i : Nat} {x : Int64} (q : Nat) (hd : decode cc pc = .ok (.lload i, 2)) (hl0 : lv[q]? = some (i, .long x)) (k : V Z ws lv (pc + 2) (.long x :: st)) : V Z ws lv pc (st) := fun H locs ls hP hD hS hl => lv_lload X.x X.b hd (lv_at hl q hl0) (k H locs ls hP hD hS hl)
theorem V.aload_n {Z : Cx} {own : String} {cc : ByteArray} {rt : Option FieldType} {ws : va_W} {lv : List (Nat × Value)} {pc : Nat} {st : List Value} (X : XC Z own cc rt) {k0 : Fin 4} {i : Nat} {x : Nat} (q : Nat) (hd : decode cc pc = .ok (.aload_n k0, 1)) (hi : (k0 : Nat) = i) (hl0 : lv[q]? = some (i, .ref x)) (k : V Z ws lv (pc + 1) (.ref x :: st)) : V Z ws lv pc (st) := fun H locs ls hP hD hS hl => lv_aload_n X.x X.b hd hi (lv_at hl q hl0) (k H locs ls hP hD hS hl)
theorem V.aload {Z : Cx} {own : String} {cc : ByteArray} {rt : Option FieldType} {ws : va_W} {lv : List (Nat × Value)} {pc : Nat} {st : List Value} (X : XC Z own cc rt) {i : Nat} {x : Nat} (q : Nat) (hd : decode cc pc = .ok (.aload i, 2)) (hl0 : lv[q]? = some (i, .ref x)) (k : V Z ws lv (pc + 2) (.ref x :: st)) : V Z ws lv pc (st) := fun H locs ls hP hD hS hl => lv_aload X.x X.b hd (lv_at hl q hl0) (k H locs ls hP hD hS hl)
theorem V.istore_n {Z : Cx} {own : String} {cc : ByteArray} {rt : Option FieldType} {ws : va_W} {lv : List (Nat × Value)} {pc : Nat} {st : List Value} (X : XC Z own cc rt) {k0 : Fin 4} {i : Nat} {x : Int32} {lv' : List (Nat × Value)} (hd : decode cc pc = .ok (.istore_n k0, 1)) (hi : (k0 : Nat) = i) (hn : i < zn Z) (hl : (i, Value.int x) :: lv.filter (fun q => !(q.1 == i) && !(q.1 + 1 == i && q.2.category == 2)) = lv') (k : V Z ws lv' (pc + 1) st) : V Z ws lv pc (.int x :: st) := fun H locs ls hP hD hS h => lv_istore_n X.x X.b hd hi h hn hl (fun ls' h' => k H locs ls' hP hD hS h')
theorem V.istore {Z : Cx} {own : String} {cc : ByteArray} {rt : Option FieldType} {ws : va_W} {lv : List (Nat × Value)} {pc : Nat} {st : List Value} (X : XC Z own cc rt) {i : Nat} {x : Int32} {lv' : List (Nat × Value)} (hd : decode cc pc = .ok (.istore i, 2)) (hn : i < zn Z) (hl : (i, Value.int x) :: lv.filter (fun q => !(q.1 == i) && !(q.1 + 1 == i && q.2.category == 2)) = lv') (k : V Z ws lv' (pc + 2) st) : V Z ws lv pc (.int x :: st) := fun H locs ls hP hD hS h => lv_istore X.x X.b hd h hn hl (fun ls' h' => k H locs ls' hP hD hS h')
theorem V.astore_n {Z : Cx} {own : String} {cc : ByteArray} {rt : Option FieldType} {ws : va_W} {lv : List (Nat × Value)} {pc : Nat} {st : List Value} (X : XC Z own cc rt) {k0 : Fin 4} {i : Nat} {x : Nat} {lv' : List (Nat × Value)} (hd : decode cc pc = .ok (.astore_n k0, 1)) (hi : (k0 : Nat) = i) (hn : i < zn Z) (hl : (i, Value.ref x) :: lv.filter (fun q => !(q.1 == i) && !(q.1 + 1 == i && q.2.category == 2)) = lv') (k : V Z ws lv' (pc + 1) st) : V Z ws lv pc (.ref x :: st) := fun H locs ls hP hD hS h => lv_astore_n X.x X.b hd hi h hn hl (fun ls' h' => k H locs ls' hP hD hS h')
theorem V.lstore_n {Z : Cx} {own : String} {cc : ByteArray} {rt : Option FieldType} {ws : va_W} {lv : List (Nat × Value)} {pc : Nat} {st : List Value} (X : XC Z own cc rt) {k0 : Fin 4} {i : Nat} {x : Int64} {lv' : List (Nat × Value)} (hd : decode cc pc = .ok (.lstore_n k0, 1)) (hi : (k0 : Nat) = i) (hn : i + 1 < zn Z) (hl : (i, Value.long x) :: lv.filter (fun q => !(q.1 == i) && (!(q.1 == i + 1) && !(q.1 + 1 == i && q.2.category == 2))) = lv') (k : V Z ws lv' (pc + 1) st) : V Z ws lv pc (.long x :: st) := fun H locs ls hP hD hS h => lv_lstore_n X.x X.b hd hi h hn hl (fun ls' h' => k H locs ls' hP hD hS h')
theorem V.lstore {Z : Cx} {own : String} {cc : ByteArray} {rt : Option FieldType} {ws : va_W} {lv : List (Nat × Value)} {pc : Nat} {st : List Value} (X : XC Z own cc rt) {i : Nat} {x : Int64} {lv' : List (Nat × Value)} (hd : decode cc pc = .ok (.lstore i, 2)) (hn : i + 1 < zn Z) (hl : (i, Value.long x) :: lv.filter (fun q => !(q.1 == i) && (!(q.1 == i + 1) && !(q.1 + 1 == i && q.2.category == 2))) = lv') (k : V Z ws lv' (pc + 2) st) : V Z ws lv pc (.long x :: st) := fun H locs ls hP hD hS h => lv_lstore X.x X.b hd h hn hl (fun ls' h' => k H locs ls' hP hD hS h')
theorem V.iinc {Z : Cx} {own : String} {cc : ByteArray} {rt : Option FieldType} {ws : va_W} {lv : List (Nat × Value)} {pc : Nat} {st : List Value} (X : XC Z own cc rt) {i k0 : Nat} {n : Int} {x v : Int32} {lv' : List (Nat × Value)} (hd : decode cc pc = .ok (.iinc i n, 3)) (hk : lv[k0]? = some (i, .int x)) (hv : x + Int32.ofInt n = v) (hn : i < zn Z) (hl : (i, Value.int v) :: lv.filter (fun q => !(q.1 == i) && !(q.1 + 1 == i && q.2.category == 2)) = lv') (k : V Z ws lv' (pc + 3) st) : V Z ws lv pc st := fun H locs ls hP hD hS h => lv_iinc X.x X.b hd h hk hv hn hl (fun ls' h' => k H locs ls' hP hD hS h')
theorem V.iadd {Z : Cx} {own : String} {cc : ByteArray} {rt : Option FieldType} {ws : va_W} {lv : List (Nat × Value)} {pc : Nat} {st : List Value} (X : XC Z own cc rt) {x y : Int32} (hd : decode cc pc = .ok (.iadd, 1)) (k : V Z ws lv (pc + 1) (.int (x + y) :: st)) : V Z ws lv pc (.int y :: .int x :: st) := fun H locs ls hP hD hS hl => lv_iadd X.x X.b hd (k H locs ls hP hD hS hl)
theorem V.isub {Z : Cx} {own : String} {cc : ByteArray} {rt : Option FieldType} {ws : va_W} {lv : List (Nat × Value)} {pc : Nat} {st : List Value} (X : XC Z own cc rt) {x y : Int32} (hd : decode cc pc = .ok (.isub, 1)) (k : V Z ws lv (pc + 1) (.int (x - y) :: st)) : V Z ws lv pc (.int y :: .int x :: st) := fun H locs ls hP hD hS hl => lv_isub X.x X.b hd (k H locs ls hP hD hS hl)
theorem V.imul {Z : Cx} {own : String} {cc : ByteArray} {rt : Option FieldType} {ws : va_W} {lv : List (Nat × Value)} {pc : Nat} {st : List Value} (X : XC Z own cc rt) {x y : Int32} (hd : decode cc pc = .ok (.imul, 1)) (k : V Z ws lv (pc + 1) (.int (x * y) :: st)) : V Z ws lv pc (.int y :: .int x :: st) := fun H locs ls hP hD hS hl => lv_imul X.x X.b hd (k H locs ls hP hD hS hl)
theorem V.iand {Z : Cx} {own : String} {cc : ByteArray} {rt : Option FieldType} {ws : va_W} {lv : List (Nat × Value)} {pc : Nat} {st : List Value} (X : XC Z own cc rt) {x y : Int32} (hd : decode cc pc = .ok (.iand, 1)) (k : V Z ws lv (pc + 1) (.int (x &&& y) :: st)) : V Z ws lv pc (.int y :: .int x :: st) := fun H locs ls hP hD hS hl => lv_iand X.x X.b hd (k H locs ls hP hD hS hl)
theorem V.ladd {Z : Cx} {own : String} {cc : ByteArray} {rt : Option FieldType} {ws : va_W} {lv : List (Nat × Value)} {pc : Nat} {st : List Value} (X : XC Z own cc rt) {x y : Int64} (hd : decode cc pc = .ok (.ladd, 1)) (k : V Z ws lv (pc + 1) (.long (x + y) :: st)) : V Z ws lv pc (.long y :: .long x :: st) := fun H locs ls hP hD hS hl => lv_ladd X.x X.b hd (k H locs ls hP hD hS hl)
theorem V.lsub {Z : Cx} {own : String} {cc : ByteArray} {rt : Option FieldType} {ws : va_W} {lv : List (Nat × Value)} {pc : Nat} {st : List Value} (X : XC Z own cc rt) {x y : Int64} (hd : decode cc pc = .ok (.lsub, 1)) (k : V Z ws lv (pc + 1) (.long (x - y) :: st)) : V Z ws lv pc (.long y :: .long x :: st) := fun H locs ls hP hD hS hl => lv_lsub X.x X.b hd (k H locs ls hP hD hS hl)
theorem V.lmul {Z : Cx} {own : String} {cc : ByteArray} {rt : Option FieldType} {ws : va_W} {lv : List (Nat × Value)} {pc : Nat} {st : List Value} (X : XC Z own cc rt) {x y : Int64} (hd : decode cc pc = .ok (.lmul, 1)) (k : V Z ws lv (pc + 1) (.long (x * y) :: st)) : V Z ws lv pc (.long y :: .long x :: st) := fun H locs ls hP hD hS hl => lv_lmul X.x X.b hd (k H locs ls hP hD hS hl)
theorem V.land {Z : Cx} {own : String} {cc : ByteArray} {rt : Option FieldType} {ws : va_W} {lv : List (Nat × Value)} {pc : Nat} {st : List Value} (X : XC Z own cc rt) {x y : Int64} (hd : decode cc pc = .ok (.land, 1)) (k : V Z ws lv (pc + 1) (.long (x &&& y) :: st)) : V Z ws lv pc (.long y :: .long x :: st) := fun H locs ls hP hD hS hl => lv_land X.x X.b hd (k H locs ls hP hD hS hl)
theorem V.lor {Z : Cx} {own : String} {cc : ByteArray} {rt : Option FieldType} {ws : va_W} {lv : List (Nat × Value)} {pc : Nat} {st : List Value} (X : XC Z own cc rt) {x y : Int64} (hd : decode cc pc = .ok (.lor, 1)) (k : V Z ws lv (pc + 1) (.long (x ||| y) :: st)) : V Z ws lv pc (.long y :: .long x :: st) := fun H locs ls hP hD hS hl => lv_lor X.x X.b hd (k H locs ls hP hD hS hl)
theorem V.lxor {Z : Cx} {own : String} {cc : ByteArray} {rt : Option FieldType} {ws : va_W} {lv : List (Nat × Value)} {pc : Nat} {st : List Value} (X : XC Z own cc rt) {x y : Int64} (hd : decode cc pc = .ok (.lxor, 1)) (k : V Z ws lv (pc + 1) (.long (x ^^^ y) :: st)) : V Z ws lv pc (.long y :: .long x :: st) := fun H locs ls hP hD hS hl => lv_lxor X.x X.b hd (k H locs ls hP hD hS hl)
theorem V.lneg {Z : Cx} {own : String} {cc : ByteArray} {rt : Option FieldType} {ws : va_W} {lv : List (Nat × Value)} {pc : Nat} {st : List Value} (X : XC Z own cc rt) {x : Int64} (hd : decode cc pc = .ok (.lneg, 1)) (k : V Z ws lv (pc + 1) (.long (-x) :: st)) : V Z ws lv pc (.long x :: st) := fun H locs ls hP hD hS hl => lv_lneg X.x X.b hd (k H locs ls hP hD hS hl)
theorem V.ineg {Z : Cx} {own : String} {cc : ByteArray} {rt : Option FieldType} {ws : va_W} {lv : List (Nat × Value)} {pc : Nat} {st : List Value} (X : XC Z own cc rt) {x : Int32} (hd : decode cc pc = .ok (.ineg, 1)) (k : V Z ws lv (pc + 1) (.int (-x) :: st)) : V Z ws lv pc (.int x :: st) := fun H locs ls hP hD hS hl => lv_ineg X.x X.b hd (k H locs ls hP hD hS hl)
theorem V.irem {Z : Cx} {own : String} {cc : ByteArray} {rt : Option FieldType} {ws : va_W} {lv : List (Nat × Value)} {pc : Nat} {st : List Value} (X : XC Z own cc rt) {x y : Int32} (hd : decode cc pc = .ok (.irem, 1)) (hne : ¬ y = 0) (k : V Z ws lv (pc + 1) (.int (x - x / y * y) :: st)) : V Z ws lv pc (.int y :: .int x :: st) := fun H locs ls hP hD hS hl => lv_irem X.x X.b hd hne (k H locs ls hP hD hS hl)
theorem V.ldiv {Z : Cx} {own : String} {cc : ByteArray} {rt : Option FieldType} {ws : va_W} {lv : List (Nat × Value)} {pc : Nat} {st : List Value} (X : XC Z own cc rt) {x y : Int64} (hd : decode cc pc = .ok (.ldiv, 1)) (hne : ¬ y = 0) (k : V Z ws lv (pc + 1) (.long (x / y) :: st)) : V Z ws lv pc (.long y :: .long x :: st) := fun H locs ls hP hD hS hl => lv_ldiv X.x X.b hd hne (k H locs ls hP hD hS hl)
theorem V.lrem {Z : Cx} {own : String} {cc : ByteArray} {rt : Option FieldType} {ws : va_W} {lv : List (Nat × Value)} {pc : Nat} {st : List Value} (X : XC Z own cc rt) {x y : Int64} (hd : decode cc pc = .ok (.lrem, 1)) (hne : ¬ y = 0) (k : V Z ws lv (pc + 1) (.long (x - x / y * y) :: st)) : V Z ws lv pc (.long y :: .long x :: st) := fun H locs ls hP hD hS hl => lv_lrem X.x X.b hd hne (k H locs ls hP hD hS hl)
theorem V.lushr {Z : Cx} {own : String} {cc : ByteArray} {rt : Option FieldType} {ws : va_W} {lv : List (Nat × Value)} {pc : Nat} {st : List Value} (X : XC Z own cc rt) {x v : Int64} {y : Int32} (hd : decode cc pc = .ok (.lushr, 1)) (hv : (x.toUInt64 >>> (y.toInt64.toUInt64 &&& Int64.toUInt64 63)).toInt64 = v) (k : V Z ws lv (pc + 1) (.long v :: st)) : V Z ws lv pc (.int y :: .long x :: st) := fun H locs ls hP hD hS hl => lv_lushr X.x X.b hd hv (k H locs ls hP hD hS hl)
theorem V.lshl {Z : Cx} {own : String} {cc : ByteArray} {rt : Option FieldType} {ws : va_W} {lv : List (Nat × Value)} {pc : Nat} {st : List Value} (X : XC Z own cc rt) {x v : Int64} {y : Int32} (hd : decode cc pc = .ok (.lshl, 1)) (hv : x <<< (y.toInt64 &&& 63) = v) (k : V Z ws lv (pc + 1) (.long v :: st)) : V Z ws lv pc (.int y :: .long x :: st) := fun H locs ls hP hD hS hl => lv_lshl X.x X.b hd hv (k H locs ls hP hD hS hl)
theorem V.lshr {Z : Cx} {own : String} {cc : ByteArray} {rt : Option FieldType} {ws : va_W} {lv : List (Nat × Value)} {pc : Nat} {st : List Value} (X : XC Z own cc rt) {x v : Int64} {y : Int32} (hd : decode cc pc = .ok (.lshr, 1)) (hv : x >>> (y.toInt64 &&& 63) = v) (k : V Z ws lv (pc + 1) (.long v :: st)) : V Z ws lv pc (.int y :: .long x :: st) := fun H locs ls hP hD hS hl => lv_lshr X.x X.b hd hv (k H locs ls hP hD hS hl)
theorem V.i2l {Z : Cx} {own : String} {cc : ByteArray} {rt : Option FieldType} {ws : va_W} {lv : List (Nat × Value)} {pc : Nat} {st : List Value} (X : XC Z own cc rt) {x : Int32} {v : Int64} (hd : decode cc pc = .ok (.i2l, 1)) (hv : x.toInt64 = v) (k : V Z ws lv (pc + 1) (.long v :: st)) : V Z ws lv pc (.int x :: st) := fun H locs ls hP hD hS hl => lv_i2l X.x X.b hd hv (k H locs ls hP hD hS hl)
theorem V.l2i {Z : Cx} {own : String} {cc : ByteArray} {rt : Option FieldType} {ws : va_W} {lv : List (Nat × Value)} {pc : Nat} {st : List Value} (X : XC Z own cc rt) {x : Int64} {v : Int32} (hd : decode cc pc = .ok (.l2i, 1)) (hv : x.toInt32 = v) (k : V Z ws lv (pc + 1) (.int v :: st)) : V Z ws lv pc (.long x :: st) := fun H locs ls hP hD hS hl => lv_l2i X.x X.b hd hv (k H locs ls hP hD hS hl)
theorem V.i2b {Z : Cx} {own : String} {cc : ByteArray} {rt : Option FieldType} {ws : va_W} {lv : List (Nat × Value)} {pc : Nat} {st : List Value} (X : XC Z own cc rt) {x v : Int32} (hd : decode cc pc = .ok (.i2b, 1)) (hv : x.toInt8.toInt32 = v) (k : V Z ws lv (pc + 1) (.int v :: st)) : V Z ws lv pc (.int x :: st) := fun H locs ls hP hD hS hl => lv_i2b X.x X.b hd hv (k H locs ls hP hD hS hl)
theorem V.dup {Z : Cx} {own : String} {cc : ByteArray} {rt : Option FieldType} {ws : va_W} {lv : List (Nat × Value)} {pc : Nat} {st : List Value} (X : XC Z own cc rt) {va : Value} (hd : decode cc pc = .ok (.dup, 1)) (hva : va.category = 1) (k : V Z ws lv (pc + 1) (va :: va :: st)) : V Z ws lv pc (va :: st) := fun H locs ls hP hD hS hl => lv_dup X.x X.b hd hva (k H locs ls hP hD hS hl)
theorem V.pop {Z : Cx} {own : String} {cc : ByteArray} {rt : Option FieldType} {ws : va_W} {lv : List (Nat × Value)} {pc : Nat} {st : List Value} (X : XC Z own cc rt) {va : Value} (hd : decode cc pc = .ok (.pop, 1)) (hva : va.category = 1) (k : V Z ws lv (pc + 1) (st)) : V Z ws lv pc (va :: st) := fun H locs ls hP hD hS hl => lv_pop X.x X.b hd hva (k H locs ls hP hD hS hl)
theorem V.dup2 {Z : Cx} {own : String} {cc : ByteArray} {rt : Option FieldType} {ws : va_W} {lv : List (Nat × Value)} {pc : Nat} {st : List Value} (X : XC Z own cc rt) {va vb : Value} (hd : decode cc pc = .ok (.dup2, 1)) (hva : va.category = 1) (hvb : vb.category = 1) (k : V Z ws lv (pc + 1) (va :: vb :: va :: vb :: st)) : V Z ws lv pc (va :: vb :: st) := fun H locs ls hP hD hS hl => lv_dup2_11 X.x X.b hd hva hvb (k H locs ls hP hD hS hl)
theorem V.lcmp {Z : Cx} {own : String} {cc : ByteArray} {rt : Option FieldType} {ws : va_W} {lv : List (Nat × Value)} {pc : Nat} {st : List Value} (X : XC Z own cc rt) {x y : Int64} (hd : decode cc pc = .ok (.lcmp, 1)) (k : V Z ws lv (pc + 1) (.int (lg_cmp x y) :: st)) : V Z ws lv pc (.long y :: .long x :: st) := fun H locs ls hP hD hS hl => W.lcmp X.x X.b hd (k H locs ls hP hD hS hl)
theorem V.goto {Z : Cx} {own : String} {cc : ByteArray} {rt : Option FieldType} {ws : va_W} {lv : List (Nat × Value)} {pc : Nat} {st : List Value} (X : XC Z own cc rt) {off : Int} (tgt : Nat) (hd : decode cc pc = .ok (.goto off, 3)) (ht : (pc : Int) + off = (tgt : Int)) (k : V Z ws lv tgt st) : V Z ws lv pc st := fun H locs ls hP hD hS hl => lv_goto X.x X.b hd ht (k H locs ls hP hD hS hl)
theorem V.if_eq {Z : Cx} {own : String} {cc : ByteArray} {rt : Option FieldType} {ws : va_W} {lv : List (Nat × Value)} {pc : Nat} {st : List Value} (X : XC Z own cc rt) {x : Int32} {off : Int} (tgt : Nat) (hd : decode cc pc = .ok (.ifCond .eq off, 3)) (ht : (pc : Int) + off = (tgt : Int)) (kt : x = 0 → V Z ws lv tgt st) (kf : ¬ x = 0 → V Z ws lv (pc + 3) st) : V Z ws lv pc (.int x :: st) := fun H locs ls hP hD hS hl => lv_if_eq X.x X.b hd ht (fun h => kt h H locs ls hP hD hS hl) (fun h => kf h H locs ls hP hD hS hl)
theorem V.icmp_eq {Z : Cx} {own : String} {cc : ByteArray} {rt : Option FieldType} {ws : va_W} {lv : List (Nat × Value)} {pc : Nat} {st : List Value} (X : XC Z own cc rt) {x y : Int32} {off : Int} (tgt : Nat) (hd : decode cc pc = .ok (.if_icmp .eq off, 3)) (ht : (pc : Int) + off = (tgt : Int)) (kt : x = y → V Z ws lv tgt st) (kf : ¬ x = y → V Z ws lv (pc + 3) st) : V Z ws lv pc (.int y :: .int x :: st) := fun H locs ls hP hD hS hl => lv_icmp_eq X.x X.b hd ht (fun h => kt h H locs ls hP hD hS hl) (fun h => kf h H locs ls hP hD hS hl)
theorem V.if_ne {Z : Cx} {own : String} {cc : ByteArray} {rt : Option FieldType} {ws : va_W} {lv : List (Nat × Value)} {pc : Nat} {st : List Value} (X : XC Z own cc rt) {x : Int32} {off : Int} (tgt : Nat) (hd : decode cc pc = .ok (.ifCond .ne off, 3)) (ht : (pc : Int) + off = (tgt : Int)) (kt : ¬ x = 0 → V Z ws lv tgt st) (kf : x = 0 → V Z ws lv (pc + 3) st) : V Z ws lv pc (.int x :: st) := fun H locs ls hP hD hS hl => lv_if_ne X.x X.b hd ht (fun h => kt h H locs ls hP hD hS hl) (fun h => kf h H locs ls hP hD hS hl)
theorem V.icmp_ne {Z : Cx} {own : String} {cc : ByteArray} {rt : Option FieldType} {ws : va_W} {lv : List (Nat × Value)} {pc : Nat} {st : List Value} (X : XC Z own cc rt) {x y : Int32} {off : Int} (tgt : Nat) (hd : decode cc pc = .ok (.if_icmp .ne off, 3)) (ht : (pc : Int) + off = (tgt : Int)) (kt : ¬ x = y → V Z ws lv tgt st) (kf : x = y → V Z ws lv (pc + 3) st) : V Z ws lv pc (.int y :: .int x :: st) := fun H locs ls hP hD hS hl => lv_icmp_ne X.x X.b hd ht (fun h => kt h H locs ls hP hD hS hl) (fun h => kf h H locs ls hP hD hS hl)
theorem V.if_lt {Z : Cx} {own : String} {cc : ByteArray} {rt : Option FieldType} {ws : va_W} {lv : List (Nat × Value)} {pc : Nat} {st : List Value} (X : XC Z own cc rt) {x : Int32} {off : Int} (tgt : Nat) (hd : decode cc pc = .ok (.ifCond .lt off, 3)) (ht : (pc : Int) + off = (tgt : Int)) (kt : x < 0 → V Z ws lv tgt st) (kf : ¬ x < 0 → V Z ws lv (pc + 3) st) : V Z ws lv pc (.int x :: st) := fun H locs ls hP hD hS hl => lv_if_lt X.x X.b hd ht (fun h => kt h H locs ls hP hD hS hl) (fun h => kf h H locs ls hP hD hS hl)
theorem V.icmp_lt {Z : Cx} {own : String} {cc : ByteArray} {rt : Option FieldType} {ws : va_W} {lv : List (Nat × Value)} {pc : Nat} {st : List Value} (X : XC Z own cc rt) {x y : Int32} {off : Int} (tgt : Nat) (hd : decode cc pc = .ok (.if_icmp .lt off, 3)) (ht : (pc : Int) + off = (tgt : Int)) (kt : x < y → V Z ws lv tgt st) (kf : ¬ x < y → V Z ws lv (pc + 3) st) : V Z ws lv pc (.int y :: .int x :: st) := fun H locs ls hP hD hS hl => lv_icmp_lt X.x X.b hd ht (fun h => kt h H locs ls hP hD hS hl) (fun h => kf h H locs ls hP hD hS hl)
theorem V.if_ge {Z : Cx} {own : String} {cc : ByteArray} {rt : Option FieldType} {ws : va_W} {lv : List (Nat × Value)} {pc : Nat} {st : List Value} (X : XC Z own cc rt) {x : Int32} {off : Int} (tgt : Nat) (hd : decode cc pc = .ok (.ifCond .ge off, 3)) (ht : (pc : Int) + off = (tgt : Int)) (kt : 0 ≤ x → V Z ws lv tgt st) (kf : ¬ 0 ≤ x → V Z ws lv (pc + 3) st) : V Z ws lv pc (.int x :: st) := fun H locs ls hP hD hS hl => lv_if_ge X.x X.b hd ht (fun h => kt h H locs ls hP hD hS hl) (fun h => kf h H locs ls hP hD hS hl)
theorem V.icmp_ge {Z : Cx} {own : String} {cc : ByteArray} {rt : Option FieldType} {ws : va_W} {lv : List (Nat × Value)} {pc : Nat} {st : List Value} (X : XC Z own cc rt) {x y : Int32} {off : Int} (tgt : Nat) (hd : decode cc pc = .ok (.if_icmp .ge off, 3)) (ht : (pc : Int) + off = (tgt : Int)) (kt : y ≤ x → V Z ws lv tgt st) (kf : ¬ y ≤ x → V Z ws lv (pc + 3) st) : V Z ws lv pc (.int y :: .int x :: st) := fun H locs ls hP hD hS hl => lv_icmp_ge X.x X.b hd ht (fun h => kt h H locs ls hP hD hS hl) (fun h => kf h H locs ls hP hD hS hl)
theorem V.if_gt {Z : Cx} {own : String} {cc : ByteArray} {rt : Option FieldType} {ws : va_W} {lv : List (Nat × Value)} {pc : Nat} {st : List Value} (X : XC Z own cc rt) {x : Int32} {off : Int} (tgt : Nat) (hd : decode cc pc = .ok (.ifCond .gt off, 3)) (ht : (pc : Int) + off = (tgt : Int)) (kt : 0 < x → V Z ws lv tgt st) (kf : ¬ 0 < x → V Z ws lv (pc + 3) st) : V Z ws lv pc (.int x :: st) := fun H locs ls hP hD hS hl => lv_if_gt X.x X.b hd ht (fun h => kt h H locs ls hP hD hS hl) (fun h => kf h H locs ls hP hD hS hl)
theorem V.icmp_gt {Z : Cx} {own : String} {cc : ByteArray} {rt : Option FieldType} {ws : va_W} {lv : List (Nat × Value)} {pc : Nat} {st : List Value} (X : XC Z own cc rt) {x y : Int32} {off : Int} (tgt : Nat) (hd : decode cc pc = .ok (.if_icmp .gt off, 3)) (ht : (pc : Int) + off = (tgt : Int)) (kt : y < x → V Z ws lv tgt st) (kf : ¬ y < x → V Z ws lv (pc + 3) st) : V Z ws lv pc (.int y :: .int x :: st) := fun H locs ls hP hD hS hl => lv_icmp_gt X.x X.b hd ht (fun h => kt h H locs ls hP hD hS hl) (fun h => kf h H locs ls hP hD hS hl)
theorem V.if_le {Z : Cx} {own : String} {cc : ByteArray} {rt : Option FieldType} {ws : va_W} {lv : List (Nat × Value)} {pc : Nat} {st : List Value} (X : XC Z own cc rt) {x : Int32} {off : Int} (tgt : Nat) (hd : decode cc pc = .ok (.ifCond .le off, 3)) (ht : (pc : Int) + off = (tgt : Int)) (kt : x ≤ 0 → V Z ws lv tgt st) (kf : ¬ x ≤ 0 → V Z ws lv (pc + 3) st) : V Z ws lv pc (.int x :: st) := fun H locs ls hP hD hS hl => lv_if_le X.x X.b hd ht (fun h => kt h H locs ls hP hD hS hl) (fun h => kf h H locs ls hP hD hS hl)
theorem V.icmp_le {Z : Cx} {own : String} {cc : ByteArray} {rt : Option FieldType} {ws : va_W} {lv : List (Nat × Value)} {pc : Nat} {st : List Value} (X : XC Z own cc rt) {x y : Int32} {off : Int} (tgt : Nat) (hd : decode cc pc = .ok (.if_icmp .le off, 3)) (ht : (pc : Int) + off = (tgt : Int)) (kt : x ≤ y → V Z ws lv tgt st) (kf : ¬ x ≤ y → V Z ws lv (pc + 3) st) : V Z ws lv pc (.int y :: .int x :: st) := fun H locs ls hP hD hS hl => lv_icmp_le X.x X.b hd ht (fun h => kt h H locs ls hP hD hS hl) (fun h => kf h H locs ls hP hD hS hl)
theorem V.ldc {Z : Cx} {own : String} {cc : ByteArray} {rt : Option FieldType} {ws : va_W} {lv : List (Nat × Value)} {pc : Nat} {st : List Value} (X : XC Z own cc rt) {index : Nat} {v : Int32} (hd : decode cc pc = .ok (.ldc index, 2)) (hw : Cond.constant own index v ∈ tb) (k : V Z ws lv (pc + 2) (.int v :: st)) : V Z ws lv pc st := fun H locs ls hP hD hS hl => lv_ldc X.x X.b X.o (X.t _ hw) hd (k H locs ls hP hD hS hl)
theorem V.ldc2 {Z : Cx} {own : String} {cc : ByteArray} {rt : Option FieldType} {ws : va_W} {lv : List (Nat × Value)} {pc : Nat} {st : List Value} (X : XC Z own cc rt) {index : Nat} {v : Int64} (hd : decode cc pc = .ok (.ldc2_w index, 3)) (hw : Cond.constantLong own index v ∈ tb) (k : V Z ws lv (pc + 3) (.long v :: st)) : V Z ws lv pc st := fun H locs ls hP hD hS hl => lv_ldc2 X.x X.b X.o (X.t _ hw) hd (k H locs ls hP hD hS hl)
theorem V.tableOut {Z : Cx} {own : String} {cc : ByteArray} {rt : Option FieldType} {ws : va_W} {lv : List (Nat × Value)} {pc : Nat} {st : List Value} (X : XC Z own cc rt) {dflt lo hi : Int} {offs : Array Int} {len : Nat} {x : Int32} (tgt : Nat) (hd : decode cc pc = .ok (.tableswitch dflt lo hi offs, len)) (h : x.toInt < lo ∨ hi < x.toInt) (ht : (pc : Int) + dflt = (tgt : Int)) (k : V Z ws lv tgt st) : V Z ws lv pc (.int x :: st) := fun H locs ls hP hD hS hl => lv_tableOut X.x X.b hd h ht (k H locs ls hP hD hS hl)
theorem V.tableIn {Z : Cx} {own : String} {cc : ByteArray} {rt : Option FieldType} {ws : va_W} {lv : List (Nat × Value)} {pc : Nat} {st : List Value} (X : XC Z own cc rt) {dflt lo hi : Int} {offs : Array Int} {len : Nat} {x : Int32} {off : Int} (tgt : Nat) (hd : decode cc pc = .ok (.tableswitch dflt lo hi offs, len)) (h1 : ¬ x.toInt < lo) (h2 : ¬ hi < x.toInt) (ho : offs[(x.toInt - lo).toNat]? = some off) (ht : (pc : Int) + off = (tgt : Int)) (k : V Z ws lv tgt st) : V Z ws lv pc (.int x :: st) := fun H locs ls hP hD hS hl => lv_tableIn X.x X.b hd h1 h2 ho ht (k H locs ls hP hD hS hl)
theorem V.lookup {Z : Cx} {own : String} {cc : ByteArray} {rt : Option FieldType} {ws : va_W} {lv : List (Nat × Value)} {pc : Nat} {st : List Value} (X : XC Z own cc rt) {dflt : Int} {ps : Array (Int × Int)} {len : Nat} {x : Int32} {off : Int} (tgt : Nat) (hd : decode cc pc = .ok (.lookupswitch dflt ps, len)) (hp : (ps.toList.zip (ps.toList.drop 1)).all (fun (a, next) => a.1 < next.1) = true) (ho : Op.lookupswitch.offset ps.toList dflt x.toInt = off) (ht : (pc : Int) + off = (tgt : Int)) (k : V Z ws lv tgt st) : V Z ws lv pc (.int x :: st) := fun H locs ls hP hD hS hl => lv_lookup X.x X.b hd hp ho ht (k H locs ls hP hD hS hl)
theorem V.get {Z : Cx} {own : String} {cc : ByteArray} {rt : Option FieldType} {ws : va_W} {lv : List (Nat × Value)} {pc : Nat} {st : List Value} (X : XC Z own cc rt) {ref C : String} {T : u_T} {N ci index a : Nat} {fs : List Value} {v : Value} (hin : ∀ w ∈ u_ws C T N, w ∈ tb) (q0 : Nat) (he : ws[q0]? = some (a, .inr (ci, fs))) (hc : vwCl[ci]? = some (C, T, N)) (k : Nat) (hk : k < N) (hv : fs[k]? = some v) (hsame : ref = (T k).1 ∨ Cond.sameField ref (T k).1 (T k).2.1 (T k).2.2.1 ∈ tb) (hw : Cond.fieldLink own index ref (T k).2.1 (T k).2.2.1 ∈ tb) (hd : decode cc pc = .ok (.getfield index, 3)) (kk : V Z ws lv (pc + 3) (v :: st)) : V Z ws lv pc (.ref a :: st) := fun H locs ls hP hD hS hl =>
  va_get X.x X.b X.t hin X.o X.K.1 hP q0 he hc k hk (X.t _ hw) (fun x h => hsame.elim (fun e => e ▸ h) (fun e => u_same (X.t _ e) x h)) hv hd (kk H locs ls hP hD hS hl)
theorem V.put {Z : Cx} {own : String} {cc : ByteArray} {rt : Option FieldType} {ws : va_W} {lv : List (Nat × Value)} {pc : Nat} {st : List Value} (X : XC Z own cc rt) {ref C : String} {T : u_T} {N ci index a : Nat} {fs : List Value} {ty : FieldType} {v : Value} {ws' : va_W} (ty0 : Nat → FieldType) (hty : ∀ k, k < N → parseFieldDescriptor (T k).2.2.1 = some (ty0 k)) (hnm : ∀ a, a < N → ∀ b, b < N → a ≠ b → (T a).2.1 ≠ (T b).2.1) (hin : ∀ w ∈ u_ws C T N, w ∈ tb) (q0 : Nat) (he : ws[q0]? = some (a, .inr (ci, fs))) (hc : vwCl[ci]? = some (C, T, N)) (k : Nat) (hk : k < N) (hfin : (T k).2.2.2 = false) (hdd : parseFieldDescriptor (T k).2.2.1 = some ty) (hn : narrow ty v = v) (hfit : fits ty v = true) (hl0 : k < fs.length) (hset : ws.set q0 (a, .inr (ci, fs.set k v)) = ws') (hsame : ref = (T k).1 ∨ Cond.sameField ref (T k).1 (T k).2.1 (T k).2.2.1 ∈ tb) (hw : Cond.fieldLink own index ref (T k).2.1 (T k).2.2.1 ∈ tb) (hd : decode cc pc = .ok (.putfield index, 3)) (kk : V Z ws' lv (pc + 3) st) : V Z ws lv pc (v :: .ref a :: st) := fun H locs ls hP hD hS hl =>
  va_put X.x X.b X.t hin ty0 hty hnm X.o X.K.1 hP hD hS q0 he hc k hk (X.t _ hw) (fun x h => hsame.elim (fun e => e ▸ h) (fun e => u_same (X.t _ e) x h)) hfin hdd hn hfit hl0 hd (fun H1 locs1 hP1 hD1 hS1 => kk H1 locs1 ls (hset ▸ hP1) (hset ▸ hD1) hS1 hl)
theorem V.iald {Z : Cx} {own : String} {cc : ByteArray} {rt : Option FieldType} {ws : va_W} {lv : List (Nat × Value)} {pc : Nat} {st : List Value} (X : XC Z own cc rt) {a n : Nat} {f : Nat → Int32} {i : Int32} (q0 : Nat) (ha : ws[q0]? = some (a, .inl ((zG Z).2.1, n, .inl f))) (hin : vp_in i n) (hd : decode cc pc = .ok (.iaload, 1)) (kk : V Z ws lv (pc + 1) (.int (f i.toNatClampNeg) :: st)) : V Z ws lv pc (.int i :: .ref a :: st) := fun H locs ls hP hD hS hl => va_iald X.x X.b X.K.1 hP q0 0 ha rfl hin hd (kk H locs ls hP hD hS hl)
theorem V.lald {Z : Cx} {own : String} {cc : ByteArray} {rt : Option FieldType} {ws : va_W} {lv : List (Nat × Value)} {pc : Nat} {st : List Value} (X : XC Z own cc rt) {a n : Nat} {f : Nat → Int64} {i : Int32} (q0 : Nat) (ha : ws[q0]? = some (a, .inl ((zG Z).2.2.1, n, .inr (.inl f)))) (hin : vp_in i n) (hd : decode cc pc = .ok (.laload, 1)) (kk : V Z ws lv (pc + 1) (.long (f i.toNatClampNeg) :: st)) : V Z ws lv pc (.int i :: .ref a :: st) := fun H locs ls hP hD hS hl => va_lald X.x X.b X.K.1 hP q0 1 ha rfl hin hd (kk H locs ls hP hD hS hl)
theorem V.bald {Z : Cx} {own : String} {cc : ByteArray} {rt : Option FieldType} {ws : va_W} {lv : List (Nat × Value)} {pc : Nat} {st : List Value} (X : XC Z own cc rt) {a n : Nat} {f : Nat → Int32} {i : Int32} (q0 : Nat) (ha : ws[q0]? = some (a, .inl ((zG Z).2.2.2.1, n, .inl f))) (hin : vp_in i n) (hd : decode cc pc = .ok (.baload, 1)) (kk : V Z ws lv (pc + 1) (.int (f i.toNatClampNeg) :: st)) : V Z ws lv pc (.int i :: .ref a :: st) := fun H locs ls hP hD hS hl => va_bald X.x X.b X.K.1 hP q0 2 ha rfl hin hd (kk H locs ls hP hD hS hl)
theorem V.zald {Z : Cx} {own : String} {cc : ByteArray} {rt : Option FieldType} {ws : va_W} {lv : List (Nat × Value)} {pc : Nat} {st : List Value} (X : XC Z own cc rt) {a n : Nat} {f : Nat → Int32} {i : Int32} (q0 : Nat) (ha : ws[q0]? = some (a, .inl ((zG Z).2.2.2.2, n, .inl f))) (hin : vp_in i n) (hd : decode cc pc = .ok (.baload, 1)) (kk : V Z ws lv (pc + 1) (.int (f i.toNatClampNeg) :: st)) : V Z ws lv pc (.int i :: .ref a :: st) := fun H locs ls hP hD hS hl => va_zald X.x X.b X.K.1 hP q0 3 ha rfl hin hd (kk H locs ls hP hD hS hl)
theorem V.iast {Z : Cx} {own : String} {cc : ByteArray} {rt : Option FieldType} {ws : va_W} {lv : List (Nat × Value)} {pc : Nat} {st : List Value} (X : XC Z own cc rt) {a n : Nat} {f : Nat → Int32} {i x : Int32} {ws' : va_W} (q0 : Nat) (ha : ws[q0]? = some (a, .inl ((zG Z).2.1, n, .inl f))) (hin : vp_in i n) (hset : ws.set q0 (a, .inl ((zG Z).2.1, n, .inl (upd f i.toNatClampNeg x))) = ws') (hd : decode cc pc = .ok (.iastore, 1)) (kk : V Z ws' lv (pc + 1) st) : V Z ws lv pc (.int x :: .int i :: .ref a :: st) := fun H locs ls hP hD hS hl => va_iast X.x X.b X.K.1 hP hD hS q0 0 ha rfl hin hd (fun H1 locs1 hP1 hD1 hS1 => kk H1 locs1 ls (hset ▸ hP1) (hset ▸ hD1) hS1 hl)
theorem V.last {Z : Cx} {own : String} {cc : ByteArray} {rt : Option FieldType} {ws : va_W} {lv : List (Nat × Value)} {pc : Nat} {st : List Value} (X : XC Z own cc rt) {a n : Nat} {f : Nat → Int64} {i : Int32} {x : Int64} {ws' : va_W} (q0 : Nat) (ha : ws[q0]? = some (a, .inl ((zG Z).2.2.1, n, .inr (.inl f)))) (hin : vp_in i n) (hset : ws.set q0 (a, .inl ((zG Z).2.2.1, n, .inr (.inl (vp_updL f i.toNatClampNeg x)))) = ws') (hd : decode cc pc = .ok (.lastore, 1)) (kk : V Z ws' lv (pc + 1) st) : V Z ws lv pc (.long x :: .int i :: .ref a :: st) := fun H locs ls hP hD hS hl => va_last X.x X.b X.K.1 hP hD hS q0 1 ha rfl hin hd (fun H1 locs1 hP1 hD1 hS1 => kk H1 locs1 ls (hset ▸ hP1) (hset ▸ hD1) hS1 hl)
theorem V.bast {Z : Cx} {own : String} {cc : ByteArray} {rt : Option FieldType} {ws : va_W} {lv : List (Nat × Value)} {pc : Nat} {st : List Value} (X : XC Z own cc rt) {a n : Nat} {f : Nat → Int32} {i x : Int32} {ws' : va_W} (q0 : Nat) (ha : ws[q0]? = some (a, .inl ((zG Z).2.2.2.1, n, .inl f))) (hin : vp_in i n) (hset : ws.set q0 (a, .inl ((zG Z).2.2.2.1, n, .inl (upd f i.toNatClampNeg (vp_nar .byte x)))) = ws') (hd : decode cc pc = .ok (.bastore, 1)) (kk : V Z ws' lv (pc + 1) st) : V Z ws lv pc (.int x :: .int i :: .ref a :: st) := fun H locs ls hP hD hS hl => va_bast X.x X.b X.K.1 hP hD hS q0 2 ha rfl hin hd (fun H1 locs1 hP1 hD1 hS1 => kk H1 locs1 ls (hset ▸ hP1) (hset ▸ hD1) hS1 hl)
theorem V.zast {Z : Cx} {own : String} {cc : ByteArray} {rt : Option FieldType} {ws : va_W} {lv : List (Nat × Value)} {pc : Nat} {st : List Value} (X : XC Z own cc rt) {a n : Nat} {f : Nat → Int32} {i x : Int32} {ws' : va_W} (q0 : Nat) (ha : ws[q0]? = some (a, .inl ((zG Z).2.2.2.2, n, .inl f))) (hin : vp_in i n) (hset : ws.set q0 (a, .inl ((zG Z).2.2.2.2, n, .inl (upd f i.toNatClampNeg (vp_nar .boolean x)))) = ws') (hd : decode cc pc = .ok (.bastore, 1)) (kk : V Z ws' lv (pc + 1) st) : V Z ws lv pc (.int x :: .int i :: .ref a :: st) := fun H locs ls hP hD hS hl => va_zast X.x X.b X.K.1 hP hD hS q0 3 ha rfl hin hd (fun H1 locs1 hP1 hD1 hS1 => kk H1 locs1 ls (hset ▸ hP1) (hset ▸ hD1) hS1 hl)
theorem V.copyi {Z : Cx} {own : String} {cc : ByteArray} {rt : Option FieldType} {ws : va_W} {lv : List (Nat × Value)} {pc : Nat} {st : List Value} (X : XC Z own cc rt) {a a0 n0 n1 t0 : Nat} {cA : ClassId} {ty : FieldType} {f g : Nat → Int32} {sp dp n : Int32} {index : Nat} {ws' : va_W} (q0 q1 : Nat) (ht : (tyl (zG Z))[t0]? = some (cA, ty)) (hprim : refKind ty = false) (ha0 : ws[q0]? = some (a0, .inl (cA, n0, .inl f))) (ha1 : ws[q1]? = some (a, .inl (cA, n1, .inl g))) (h1 : ¬ sp < 0) (h2 : ¬ dp < 0) (h3 : ¬ n < 0) (h4 : sp.toNatClampNeg + n.toNatClampNeg ≤ n0) (h5 : dp.toNatClampNeg + n.toNatClampNeg ≤ n1) (hfit : ∀ i, i < n.toNatClampNeg → fits ty (.int (f (sp.toNatClampNeg + i))) = true) (hframes : 1 ≤ (zR Z).frames) (hlocals : (st.map fun v => v.category).sum + (nativeFrameWords "java/lang/System" "arraycopy" 5 + 11) ≤ (zR Z).locals) (hset : ws.set q1 (a, .inl (cA, n1, .inl (va_cpy f g sp.toNatClampNeg dp.toNatClampNeg n.toNatClampNeg))) = ws') (hw : Cond.methodLink own index arraycopyName ∈ tb) (hw2 : Cond.native arraycopyName ∈ tb) (hw3 : Cond.static arraycopyName ∈ tb) (hw4 : Cond.initialized "java/lang/System" ∈ tb) (hd : decode cc pc = .ok (.invokestatic index, 3)) (kk : V Z ws' lv (pc + 3) st) : V Z ws lv pc (.int n :: .int dp :: .ref a :: .int sp :: .ref a0 :: st) := fun H locs ls hP hD hS hl => va_copyi X.x X.b (X.ml.trans hl.1.symm) X.o (X.t _ hw) (X.t _ hw2) (X.t _ hw3) (X.t _ hw4) X.K.1 hP hD hS q0 q1 t0 t0 ha0 ha1 ht ht hprim h1 h2 h3 h4 h5 hfit hframes hlocals hd (fun H1 locs1 hP1 hD1 hS1 => kk H1 locs1 ls (hset ▸ hP1) (hset ▸ hD1) hS1 hl)

/-- the cells of a world -/
def a0 (ws : va_W) : Nat → Prop := fun q => ∃ (k : Nat) (e : va_E), ws[k]? = some (q, e)
/-- how a method ends: its answer and the world behind it -/
def Qo (G : Gx) (ws : va_W) (post : Option Value → va_W → Prop) : Array Value → State → Outcome → State → Prop := fun _ st oc t =>
  (∃ (rv : Option Value) (w : va_W), oc = .returned rv ∧ post rv w ∧ va_P G.1 vwCl w t.heap ∧ va_D (a0 ws) w) ∧ va_F (a0 ws) st t
/-- A CONTRACT: y, called with As in the world ws, returns with post -/
def MM (l : Launch) (G : Gx) (y : MethodName) (bytes : ByteArray) (maxL : Nat) (rt : Option FieldType) (fr lc : Nat) (As : List Value) (ws : va_W) (post : Option Value → va_W → Prop) : Prop :=
  Met l y (Cond.code y bytes maxL rt :: tb) { frames := fr, cells := 0, slots := 0, locals := lc }
    (va_Pc As (fun U => va_P G.1 vwCl ws U.heap ∧ KK G U ∧ va_D (fun _ => True) ws)) (Qo G ws post) 0 0 (a0 ws)
theorem MM.mono {l : Launch} {G : Gx} {y : MethodName} {bytes : ByteArray} {maxL : Nat} {rt : Option FieldType} {fr lc : Nat} {As : List Value} {ws : va_W} {post post' : Option Value → va_W → Prop} (h : MM l G y bytes maxL rt fr lc As ws post) (hp : ∀ r w, post r w → post' r w) : MM l G y bytes maxL rt fr lc As ws post' := by
  intro p e h1 h2 h3 s m args below h4 h5 h6 h7
  obtain ⟨k, o, q1, q2, q3, ⟨⟨⟨rv, w, c1, c2, c3, c4⟩, c5⟩, q5⟩⟩ := h p e h1 h2 h3 s m args below h4 h5 h6 h7
  exact ⟨k, o, q1, q2, q3, ⟨⟨⟨rv, w, c1, hp rv w c2, c3, c4⟩, c5⟩, q5⟩⟩
abbrev zmk (p : Program) (l : Launch) (e : Env) (fr lc : Nat) (s : State) (m : MethodId) (args : Array Value) (below : List Frame) (meth : Method) (c : Code) (G : Gx) (ws : va_W) (maxL : Nat) (post : Option Value → va_W → Prop) : Cx :=
  (p, l, e, { frames := fr, cells := 0, slots := 0, locals := lc }, s, m, args, below, meth, c, G, a0 ws, maxL, MQ below (Qo G ws post) args s 0 0 (a0 ws), 0, 0)
/-- the start of a contract's proof -/
theorem MM.of {l : Launch} {G : Gx} {y : MethodName} {bytes : ByteArray} {maxL : Nat} {rt : Option FieldType} {fr lc : Nat} {As : List Value} {ws : va_W} {post : Option Value → va_W → Prop} {lv : List (Nat × Value)}
    (hy : plainName y.cls = true) (hlv : lv_args 0 As = lv) (hlen : (lg_sl As).length ≤ maxL)
    (body : ∀ Z : Cx, (zR Z).frames = fr → (zR Z).locals = lc → zl Z = l → zG Z = G → zn Z = maxL → zk Z = 0 → zt Z = 0 → zA Z = a0 ws → zQ Z = MQ (zb Z) (Qo G ws post) (za Z) (zs Z) 0 0 (a0 ws) → XC Z y.cls bytes rt → V Z ws lv 0 []) : MM l G y bytes maxL rt fr lc As ws post := by
  refine Met.ofW (cc := bytes) (maxL := maxL) (ret := rt) hy rfl ?_
  intro p e s m args below meth c s₁ B hml hv
  obtain ⟨rfl, hP, hK, hD0⟩ := hv
  have hts := atoms_spec (ws := Cond.code y bytes maxL rt :: tb) B.pre
  have hown : s.vm.findClass y.cls = some m.cls := findClass_of_methodNamed B.named
  have hD : va_D (a0 ws) ws := ⟨hD0.1, fun k q hk => ⟨k, q.2, hk⟩⟩
  have hS : va_S (a0 ws) s.heap s.heap [] := va_S.rf
  have hl := lv_entry As (n := maxL) hlen
  rw [hlv] at hl
  rw [lg_entry_eq]
  exact body (zmk p l e fr lc s m As.toArray below meth c G ws maxL post) rfl rfl rfl rfl rfl rfl rfl rfl rfl ⟨B.exec, B.bytes, hml, hown, fun w hw => hts w (List.mem_cons_of_mem _ hw), B.returns, B.notSynchronized, hK⟩ s.heap [] _ hP hD hS hl

theorem V.iret {Z : Cx} {own : String} {cc : ByteArray} {rt : Option FieldType} {ws ws0 : va_W} {lv : List (Nat × Value)} {pc : Nat} {G : Gx} {post : Option Value → va_W → Prop} (X : XC Z own cc rt) (hG : zG Z = G) (hA : zA Z = a0 ws0) (hk : zk Z = 0) (ht : zt Z = 0) (hQ : zQ Z = MQ (zb Z) (Qo G ws0 post) (za Z) (zs Z) 0 0 (a0 ws0)) {v : Int32} (hr : rt = some .int) (hd : decode cc pc = .ok (.ireturn, 1)) (hp : post (some (.int v)) ws) : V Z ws lv pc [.int v] := by
  intro H locs ls hP hD hS hl
  obtain ⟨p, l, e, R, s, m, args, below, meth, c, G', A, nL, Q, ck, ct⟩ := Z
  dsimp only [zG, zA, zk, zt, zQ, zb, za, zs, zp, zl, ze, zR, zm, zM, zc, zn] at *
  subst hG hA hk ht hQ hr
  exact W.iret (hlocks := X.lk) X.x X.b X.r (fun t ht hW => ⟨⟨_, ws, rfl, hp, by rw [ht]; exact hP, hD⟩, hS.F ht⟩) hS.2.2 hd
theorem V.lret {Z : Cx} {own : String} {cc : ByteArray} {rt : Option FieldType} {ws ws0 : va_W} {lv : List (Nat × Value)} {pc : Nat} {G : Gx} {post : Option Value → va_W → Prop} (X : XC Z own cc rt) (hG : zG Z = G) (hA : zA Z = a0 ws0) (hk : zk Z = 0) (ht : zt Z = 0) (hQ : zQ Z = MQ (zb Z) (Qo G ws0 post) (za Z) (zs Z) 0 0 (a0 ws0)) {v : Int64} (hr : rt = some .long) (hd : decode cc pc = .ok (.lreturn, 1)) (hp : post (some (.long v)) ws) : V Z ws lv pc [.long v] := by
  intro H locs ls hP hD hS hl
  obtain ⟨p, l, e, R, s, m, args, below, meth, c, G', A, nL, Q, ck, ct⟩ := Z
  dsimp only [zG, zA, zk, zt, zQ, zb, za, zs, zp, zl, ze, zR, zm, zM, zc, zn] at *
  subst hG hA hk ht hQ hr
  exact W.lret (hlocks := X.lk) X.x X.b X.r (fun t ht hW => ⟨⟨_, ws, rfl, hp, by rw [ht]; exact hP, hD⟩, hS.F ht⟩) hS.2.2 hd
theorem V.vret {Z : Cx} {own : String} {cc : ByteArray} {rt : Option FieldType} {ws ws0 : va_W} {lv : List (Nat × Value)} {pc : Nat} {G : Gx} {post : Option Value → va_W → Prop} (X : XC Z own cc rt) (hG : zG Z = G) (hA : zA Z = a0 ws0) (hk : zk Z = 0) (ht : zt Z = 0) (hQ : zQ Z = MQ (zb Z) (Qo G ws0 post) (za Z) (zs Z) 0 0 (a0 ws0)) (hr : rt = none) (hd : decode cc pc = .ok (.return_, 1)) (hp : post (none) ws) : V Z ws lv pc [] := by
  intro H locs ls hP hD hS hl
  obtain ⟨p, l, e, R, s, m, args, below, meth, c, G', A, nL, Q, ck, ct⟩ := Z
  dsimp only [zG, zA, zk, zt, zQ, zb, za, zs, zp, zl, ze, zR, zm, zM, zc, zn] at *
  subst hG hA hk ht hQ hr
  exact W.vret (hlocks := X.lk) X.x X.b X.r (fun t ht hW => ⟨⟨_, ws, rfl, hp, by rw [ht]; exact hP, hD⟩, hS.F ht⟩) hS.2.2 hd
theorem V.zret {Z : Cx} {own : String} {cc : ByteArray} {rt : Option FieldType} {ws ws0 : va_W} {lv : List (Nat × Value)} {pc : Nat} {G : Gx} {post : Option Value → va_W → Prop} (X : XC Z own cc rt) (hG : zG Z = G) (hA : zA Z = a0 ws0) (hk : zk Z = 0) (ht : zt Z = 0) (hQ : zQ Z = MQ (zb Z) (Qo G ws0 post) (za Z) (zs Z) 0 0 (a0 ws0)) {v : Int32} (hr : rt = some .boolean) (hn : v = 0 ∨ v = 1) (hd : decode cc pc = .ok (.ireturn, 1)) (hp : post (some (.int v)) ws) : V Z ws lv pc [.int v] := by
  intro H locs ls hP hD hS hl
  obtain ⟨p, l, e, R, s, m, args, below, meth, c, G', A, nL, Q, ck, ct⟩ := Z
  dsimp only [zG, zA, zk, zt, zQ, zb, za, zs, zp, zl, ze, zR, zm, zM, zc, zn] at *
  subst hG hA hk ht hQ hr
  exact W.zret (hlocks := X.lk) X.x X.b X.r (by rcases hn with rfl | rfl <;> rfl) (fun t ht hW => ⟨⟨_, ws, rfl, hp, by rw [ht]; exact hP, hD⟩, hS.F ht⟩) hS.2.2 hd
theorem tb_GoodIn {y : MethodName} {bytes : ByteArray} {maxL : Nat} {rt : Option FieldType} (hc : Cond.code y bytes maxL rt ∈ tb) : GoodIn tb (Cond.code y bytes maxL rt :: tb) := fun w hw => (List.mem_cons.mp hw).elim (fun e => e ▸ ⟨hc, tb_good hc⟩) (fun h => ⟨h, tb_good h⟩)
theorem MM.blind {G : Gx} {As : List Value} {ws : va_W} : FrameBlind (va_Pc As (fun U => va_P G.1 vwCl ws U.heap ∧ KK G U ∧ va_D (fun _ => True) ws)) := by
  intro a U g mk q
  obtain ⟨q0, qP, qK, qD⟩ := q
  exact ⟨q0, qP, KK.same (u := U) (U := U.calling g mk a) rfl qK, qD⟩
theorem MM.pre {G : Gx} {As : List Value} {ws : va_W} {s : State} {H : Heap} {A : Nat → Prop} (hP : va_P G.1 vwCl ws H) (hK : KK G s) (hD : va_D A ws) : ∀ U : State, U.heap = H → s.WarmedH U.vm → va_Pc As (fun U => va_P G.1 vwCl ws U.heap ∧ KK G U ∧ va_D (fun _ => True) ws) As.toArray U := fun U hU hW => ⟨rfl, by rw [hU]; exact hP, hK.warm hW, hD.weaken (fun _ _ _ _ => trivial)⟩
/-- behind a call -/
theorem V.back {Z : Cx} {own : String} {cc : ByteArray} {rt : Option FieldType} {ws : va_W} {lv : List (Nat × Value)} {pc : Nat} {st rest : List Value} {G : Gx} {post : Option Value → va_W → Prop} {H : Heap} {locs : List Loc} {ls : Array Slot} {a : Array Value} (X : XC Z own cc rt) (hG : zG Z = G)
    (hD : va_D (zA Z) ws) (hS : va_S (zA Z) (zs Z).heap H locs) (hl : lv_has ls (zn Z) lv)
    (hr : va_Run (zp Z) (zl Z) (ze Z) (zR Z) (zs Z) (zm Z) (za Z) (zb Z) (zM Z) (zc Z) H locs (zk Z) (zt Z) 0 0 (F0 (zm Z) pc ls st) rest (Qo G ws post a) (a0 ws))
    (kk : ∀ (rv : Option Value) (w : va_W), post rv w → V Z w lv (pc + 3) (rv.toList ++ rest)) : W (zp Z) (zl Z) (ze Z) (zR Z) (zs Z) (zm Z) (za Z) (zb Z) (zM Z) (zc Z) H locs (zk Z) (zt Z) (zQ Z) (F0 (zm Z) pc ls st) := by
  intro T hT X0
  obtain ⟨v, st₀, t, T', L, h0, X', hL, e1, e2, ⟨⟨rv, w, hv, hp, hP1, hD1⟩, hz, hk⟩, stp⟩ := hr T hT X0
  cases hv
  rw [h0] at hz hk
  have hsub : ∀ q, a0 ws q → zA Z q := fun q ⟨k, e, h⟩ => hD.2 k (q, e) h
  have hS1 : va_S (zA Z) (zs Z).heap T'.heap (locs ++ L) := ⟨Nat.le_trans hS.1 (by rw [e1]; exact hz), fun q h1 h2 => by rw [e1, hk q (Nat.lt_of_lt_of_le h1 hS.1) (fun z => h2 (hsub q z))]; exact hS.2.1 q h1 h2, fun q hq => by
      rcases List.mem_append.mp hq with h | h
      · exact hS.2.2 q h
      · exact hsub _ (hL q h)⟩
  subst hG
  obtain ⟨t2, a1, b1⟩ := kk v w hp T'.heap (locs ++ L) ls (by rw [e1]; exact hP1) (hD1.weaken (fun _ q _ h => hsub q.1 h)) hS1 hl T' rfl X'
  exact ⟨t2, stp t2 a1, b1⟩
/-- the words of a call of y from own's place index, on an object of y's own class -/
def CV (own : String) (index : Nat) (y : MethodName) (bytes : ByteArray) (maxL : Nat) (rt : Option FieldType) (n : Nat) : Prop := Cond.methodLink own index y ∈ tb ∧ Cond.instanceMethod y ∈ tb ∧ Cond.selects y.cls y y ∈ tb ∧ Cond.initialized y.cls ∈ tb ∧ Cond.code y bytes maxL rt ∈ tb ∧ y.cls ≠ "java/lang/invoke/MethodHandle" ∧ y.cls ≠ "java/lang/invoke/VarHandle" ∧ (parseMethodDescriptor y.desc).map (fun d => d.parameters.length) = some n
theorem V.callV {Z : Cx} {own : String} {cc : ByteArray} {rt rt' : Option FieldType} {ws : va_W} {lv : List (Nat × Value)} {pc : Nat} {st : List Value} {G : Gx} {post : Option Value → va_W → Prop} {y : MethodName} {bytes : ByteArray} {maxL fr lc index b ci n : Nat} {As : List Value} {fs : List Value} {T : u_T} {N : Nat} (X : XC Z own cc rt) (hG : zG Z = G) (hM : MM (zl Z) G y bytes maxL rt' fr lc (.ref b :: As) ws post) (cw : CV own index y bytes maxL rt' n) (hn : As.length = n) (q0 : Nat) (he : ws[q0]? = some (b, .inr (ci, fs))) (hc : vwCl[ci]? = some (y.cls, T, N)) (hR1 : fr + 1 ≤ (zR Z).frames) (hR2 : 8 + (maxL + 11) + lc ≤ (zR Z).locals) (hk : zk Z ≤ (zR Z).cells) (ht : zt Z ≤ (zR Z).slots) (rest : List Value) (hst : st = As.reverse ++ .ref b :: rest) (hcat : (rest.map fun v => v.category).sum ≤ 8) (hd : decode cc pc = .ok (.invokevirtual index, 3))
    (kk : ∀ (rv : Option Value) (w : va_W), post rv w → V Z w lv (pc + 3) (rv.toList ++ rest)) : V Z ws lv pc st := by
  intro H locs ls hP hD hS hl
  obtain ⟨w1, w2, w3, w4, w5, d1, d2, d3⟩ := cw
  subst hG
  refine V.back X rfl hD hS hl (va_runV (As := As) (rest := rest) ⟨X.x, X.b, X.ml, X.o, X.t⟩ hM ⟨callB_of n X.t (tb_GoodIn w5) rfl rfl rfl (X.t _ w4) (X.t _ w1) ⟨d1, d2, d3⟩ ⟨hR1, hR2⟩, X.t _ w2, X.t _ w3⟩ ⟨MM.blind, va_recv X.K.1 hP hc he, MM.pre (As := .ref b :: As) hP X.K hD⟩ rfl hn hl.1 hst (lv_room hcat) hd ⟨hk, ht⟩) kk
/-- a static method of own class or of another that is open to it -/
def CS (own : String) (index : Nat) (y : MethodName) (bytes : ByteArray) (maxL : Nat) (rt : Option FieldType) (n : Nat) : Prop := Cond.methodLink own index y ∈ tb ∧ Cond.static y ∈ tb ∧ Cond.initialized y.cls ∈ tb ∧ Cond.code y bytes maxL rt ∈ tb ∧ y.cls ≠ "java/lang/invoke/MethodHandle" ∧ y.cls ≠ "java/lang/invoke/VarHandle" ∧ (parseMethodDescriptor y.desc).map (fun d => d.parameters.length) = some n
theorem V.callS {Z : Cx} {own : String} {cc : ByteArray} {rt rt' : Option FieldType} {ws : va_W} {lv : List (Nat × Value)} {pc : Nat} {st : List Value} {G : Gx} {post : Option Value → va_W → Prop} {y : MethodName} {bytes : ByteArray} {maxL fr lc index n : Nat} {As : List Value} (X : XC Z own cc rt) (hG : zG Z = G) (hM : MM (zl Z) G y bytes maxL rt' fr lc As ws post) (cw : CS own index y bytes maxL rt' n) (hn : As.length = n) (hR1 : fr + 1 ≤ (zR Z).frames) (hR2 : 8 + (maxL + 11) + lc ≤ (zR Z).locals) (hk : zk Z ≤ (zR Z).cells) (ht : zt Z ≤ (zR Z).slots) (rest : List Value) (hst : st = As.reverse ++ rest) (hcat : (rest.map fun v => v.category).sum ≤ 8) (hd : decode cc pc = .ok (.invokestatic index, 3))
    (kk : ∀ (rv : Option Value) (w : va_W), post rv w → V Z w lv (pc + 3) (rv.toList ++ rest)) : V Z ws lv pc st := by
  intro H locs ls hP hD hS hl
  obtain ⟨w1, w2, w4, w5, d1, d2, d3⟩ := cw
  subst hG
  refine V.back X rfl hD hS hl (va_runS (As := As) (rest := rest) ⟨X.x, X.b, X.ml, X.o, X.t⟩ hM ⟨callB_of n X.t (tb_GoodIn w5) rfl rfl rfl (X.t _ w4) (X.t _ w1) ⟨d1, d2, d3⟩ ⟨hR1, hR2⟩, X.t _ w2⟩ ⟨MM.blind, MM.pre hP X.K hD⟩ rfl hn hl.1 hst (lv_room hcat) hd ⟨hk, ht⟩) kk
/-- a method that a class above declares as x, chosen as y on an object of class C -/
def CU (own : String) (index : Nat) (C : String) (x y : MethodName) (bytes : ByteArray) (maxL : Nat) (rt : Option FieldType) (n : Nat) : Prop := Cond.methodLink own index x ∈ tb ∧ Cond.sameMethod x.cls x.cls x.name x.desc ∈ tb ∧ Cond.instanceMethod ⟨x.cls, x.name, x.desc⟩ ∈ tb ∧ Cond.selects C x y ∈ tb ∧ Cond.instanceMethod y ∈ tb ∧ Cond.initialized y.cls ∈ tb ∧ Cond.code y bytes maxL rt ∈ tb ∧ (∃ b0 m0 r0, Cond.code ⟨x.cls, x.name, x.desc⟩ b0 m0 r0 ∈ tb) ∧ x.cls ≠ "java/lang/invoke/MethodHandle" ∧ x.cls ≠ "java/lang/invoke/VarHandle" ∧ (parseMethodDescriptor x.desc).map (fun d => d.parameters.length) = some n
theorem V.callU {Z : Cx} {own C : String} {cc : ByteArray} {rt rt' : Option FieldType} {ws : va_W} {lv : List (Nat × Value)} {pc : Nat} {st : List Value} {G : Gx} {post : Option Value → va_W → Prop} {x y : MethodName} {bytes : ByteArray} {maxL fr lc index b ci n : Nat} {As : List Value} {fs : List Value} {T : u_T} {N : Nat} (X : XC Z own cc rt) (hG : zG Z = G) (hM : MM (zl Z) G y bytes maxL rt' fr lc (.ref b :: As) ws post) (cw : CU own index C x y bytes maxL rt' n) (hn : As.length = n) (q0 : Nat) (he : ws[q0]? = some (b, .inr (ci, fs))) (hc : vwCl[ci]? = some (C, T, N)) (hR1 : fr + 1 ≤ (zR Z).frames) (hR2 : 8 + (maxL + 11) + lc ≤ (zR Z).locals) (hk : zk Z ≤ (zR Z).cells) (ht : zt Z ≤ (zR Z).slots) (rest : List Value) (hst : st = As.reverse ++ .ref b :: rest) (hcat : (rest.map fun v => v.category).sum ≤ 8) (hd : decode cc pc = .ok (.invokevirtual index, 3))
    (kk : ∀ (rv : Option Value) (w : va_W), post rv w → V Z w lv (pc + 3) (rv.toList ++ rest)) : V Z ws lv pc st := by
  intro H locs ls hP hD hS hl
  obtain ⟨w1, w2, w3, w4, w5, w6, w7, ⟨b0, m0, r0, w8⟩, d1, d2, d3⟩ := cw
  subst hG
  have hT : GoodIn tb (va_wsO own index C x.cls x y (Cond.code y bytes maxL rt' :: tb)) := by
    intro w hw
    simp only [va_wsO, List.cons_append, List.nil_append, List.mem_cons] at hw
    rcases hw with rfl | rfl | rfl | rfl | rfl | rfl | rfl | h
    · exact ⟨w1, tb_good w1⟩
    · exact ⟨w2, tb_good w2⟩
    · exact ⟨w3, tb_good w3⟩
    · exact ⟨w4, tb_good w4⟩
    · exact ⟨w5, tb_good w5⟩
    · exact ⟨w6, tb_good w6⟩
    · exact ⟨w7, tb_good w7⟩
    · exact ⟨h, tb_good h⟩
  refine V.back X rfl hD hS hl (va_runU (As := As) (rest := rest) (C := C) ⟨X.x, X.b, X.ml, X.o, X.t⟩ hM (va_cwO n X.t hT rfl rfl rfl w8 ⟨d1, d2, d3⟩ ⟨hR1, hR2⟩) ⟨MM.blind, va_recv X.K.1 hP hc he, MM.pre (As := .ref b :: As) hP X.K hD⟩ rfl hn hl.1 hst (lv_room hcat) hd ⟨hk, ht⟩) kk
/-- Reader's call of isKind, a static method of its host -/
theorem V.callN {Z : Cx} {cc : ByteArray} {rt rt' : Option FieldType} {ws : va_W} {lv : List (Nat × Value)} {pc : Nat} {st : List Value} {G : Gx} {post : Option Value → va_W → Prop} {bytes : ByteArray} {maxL fr lc : Nat} {As : List Value} (X : XC Z "NestedDeeds$Reader" cc rt) (hG : zG Z = G) (hM : MM (zl Z) G ⟨"NestedDeeds", "isKind", "(I)Z"⟩ bytes maxL rt' fr lc As ws post) (w4 : Cond.initialized "NestedDeeds" ∈ tb) (w5 : Cond.code ⟨"NestedDeeds", "isKind", "(I)Z"⟩ bytes maxL rt' ∈ tb) (w2 : Cond.static ⟨"NestedDeeds", "isKind", "(I)Z"⟩ ∈ tb) (hn : As.length = 1) (hR1 : fr + 1 ≤ (zR Z).frames) (hR2 : 8 + (maxL + 11) + lc ≤ (zR Z).locals) (hk : zk Z ≤ (zR Z).cells) (ht : zt Z ≤ (zR Z).slots) (rest : List Value) (hst : st = As.reverse ++ rest) (hcat : (rest.map fun v => v.category).sum ≤ 8) (hd : decode cc pc = .ok (.invokestatic 74, 3))
    (kk : ∀ (rv : Option Value) (w : va_W), post rv w → V Z w lv (pc + 3) (rv.toList ++ rest)) : V Z ws lv pc st := by
  intro H locs ls hP hD hS hl
  subst hG
  refine V.back X rfl hD hS hl (va_runSN (As := As) (rest := rest) ⟨X.x, X.b, X.ml, X.o, X.t⟩ hM ⟨va_cnB 1 X.t (tb_GoodIn w5) rfl rfl rfl X.K.2 (X.t _ w4) (by decide +kernel) ⟨hR1, hR2⟩, X.t _ w2, trivial⟩ ⟨MM.blind, MM.pre hP X.K hD⟩ rfl hn hl.1 hst (lv_room hcat) hd ⟨hk, ht⟩) kk
end
section
/-- a state: numbers, rows of numbers, ints, rows of ints, rows of longs, truths, rows of truths, places or none, rows of them -/
abbrev St : Type := (Nat → Nat) × (Nat → Nat → Nat) × (Nat → Int32) × (Nat → Nat → Int32) × (Nat → Nat → Int64) × (Nat → Bool) × (Nat → Nat → Bool) × (Nat → Option Nat) × (Nat → Nat → Option Nat)
def gN (σ : St) : Nat → Nat := σ.1
def gA (σ : St) : Nat → Nat → Nat := σ.2.1
def gI (σ : St) : Nat → Int32 := σ.2.2.1
def gJ (σ : St) : Nat → Nat → Int32 := σ.2.2.2.1
def gL (σ : St) : Nat → Nat → Int64 := σ.2.2.2.2.1
def gB (σ : St) : Nat → Bool := σ.2.2.2.2.2.1
def gZ (σ : St) : Nat → Nat → Bool := σ.2.2.2.2.2.2.1
def gO (σ : St) : Nat → Option Nat := σ.2.2.2.2.2.2.2.1
def gP (σ : St) : Nat → Nat → Option Nat := σ.2.2.2.2.2.2.2.2
def sN (σ : St) (k : Nat) (v : Nat) : St := (va_up σ.1 k v, σ.2.1, σ.2.2.1, σ.2.2.2.1, σ.2.2.2.2.1, σ.2.2.2.2.2.1, σ.2.2.2.2.2.2.1, σ.2.2.2.2.2.2.2.1, σ.2.2.2.2.2.2.2.2)
def sA (σ : St) (k : Nat) (v : Nat → Nat) : St := (σ.1, va_up σ.2.1 k v, σ.2.2.1, σ.2.2.2.1, σ.2.2.2.2.1, σ.2.2.2.2.2.1, σ.2.2.2.2.2.2.1, σ.2.2.2.2.2.2.2.1, σ.2.2.2.2.2.2.2.2)
def sI (σ : St) (k : Nat) (v : Int32) : St := (σ.1, σ.2.1, va_up σ.2.2.1 k v, σ.2.2.2.1, σ.2.2.2.2.1, σ.2.2.2.2.2.1, σ.2.2.2.2.2.2.1, σ.2.2.2.2.2.2.2.1, σ.2.2.2.2.2.2.2.2)
def sJ (σ : St) (k : Nat) (v : Nat → Int32) : St := (σ.1, σ.2.1, σ.2.2.1, va_up σ.2.2.2.1 k v, σ.2.2.2.2.1, σ.2.2.2.2.2.1, σ.2.2.2.2.2.2.1, σ.2.2.2.2.2.2.2.1, σ.2.2.2.2.2.2.2.2)
def sL (σ : St) (k : Nat) (v : Nat → Int64) : St := (σ.1, σ.2.1, σ.2.2.1, σ.2.2.2.1, va_up σ.2.2.2.2.1 k v, σ.2.2.2.2.2.1, σ.2.2.2.2.2.2.1, σ.2.2.2.2.2.2.2.1, σ.2.2.2.2.2.2.2.2)
def sB (σ : St) (k : Nat) (v : Bool) : St := (σ.1, σ.2.1, σ.2.2.1, σ.2.2.2.1, σ.2.2.2.2.1, va_up σ.2.2.2.2.2.1 k v, σ.2.2.2.2.2.2.1, σ.2.2.2.2.2.2.2.1, σ.2.2.2.2.2.2.2.2)
def sZ (σ : St) (k : Nat) (v : Nat → Bool) : St := (σ.1, σ.2.1, σ.2.2.1, σ.2.2.2.1, σ.2.2.2.2.1, σ.2.2.2.2.2.1, va_up σ.2.2.2.2.2.2.1 k v, σ.2.2.2.2.2.2.2.1, σ.2.2.2.2.2.2.2.2)
def sO (σ : St) (k : Nat) (v : Option Nat) : St := (σ.1, σ.2.1, σ.2.2.1, σ.2.2.2.1, σ.2.2.2.2.1, σ.2.2.2.2.2.1, σ.2.2.2.2.2.2.1, va_up σ.2.2.2.2.2.2.2.1 k v, σ.2.2.2.2.2.2.2.2)
def sP (σ : St) (k : Nat) (v : Nat → Option Nat) : St := (σ.1, σ.2.1, σ.2.2.1, σ.2.2.2.1, σ.2.2.2.2.1, σ.2.2.2.2.2.1, σ.2.2.2.2.2.2.1, σ.2.2.2.2.2.2.2.1, va_up σ.2.2.2.2.2.2.2.2 k v)
theorem gNsN (σ : St) (k : Nat) (v : Nat) (j : Nat) : gN (sN σ k v) j = if j = k then v else gN σ j := rfl
theorem gNsA (σ : St) (k : Nat) (v : Nat → Nat) : gN (sA σ k v) = gN σ := rfl
theorem gNsI (σ : St) (k : Nat) (v : Int32) : gN (sI σ k v) = gN σ := rfl
theorem gNsJ (σ : St) (k : Nat) (v : Nat → Int32) : gN (sJ σ k v) = gN σ := rfl
theorem gNsL (σ : St) (k : Nat) (v : Nat → Int64) : gN (sL σ k v) = gN σ := rfl
theorem gNsB (σ : St) (k : Nat) (v : Bool) : gN (sB σ k v) = gN σ := rfl
theorem gNsZ (σ : St) (k : Nat) (v : Nat → Bool) : gN (sZ σ k v) = gN σ := rfl
theorem gNsO (σ : St) (k : Nat) (v : Option Nat) : gN (sO σ k v) = gN σ := rfl
theorem gNsP (σ : St) (k : Nat) (v : Nat → Option Nat) : gN (sP σ k v) = gN σ := rfl
theorem gAsN (σ : St) (k : Nat) (v : Nat) : gA (sN σ k v) = gA σ := rfl
theorem gAsA (σ : St) (k : Nat) (v : Nat → Nat) (j : Nat) : gA (sA σ k v) j = if j = k then v else gA σ j := rfl
theorem gAsI (σ : St) (k : Nat) (v : Int32) : gA (sI σ k v) = gA σ := rfl
theorem gAsJ (σ : St) (k : Nat) (v : Nat → Int32) : gA (sJ σ k v) = gA σ := rfl
theorem gAsL (σ : St) (k : Nat) (v : Nat → Int64) : gA (sL σ k v) = gA σ := rfl
theorem gAsB (σ : St) (k : Nat) (v : Bool) : gA (sB σ k v) = gA σ := rfl
theorem gAsZ (σ : St) (k : Nat) (v : Nat → Bool) : gA (sZ σ k v) = gA σ := rfl
theorem gAsO (σ : St) (k : Nat) (v : Option Nat) : gA (sO σ k v) = gA σ := rfl
theorem gAsP (σ : St) (k : Nat) (v : Nat → Option Nat) : gA (sP σ k v) = gA σ := rfl
theorem gIsN (σ : St) (k : Nat) (v : Nat) : gI (sN σ k v) = gI σ := rfl
theorem gIsA (σ : St) (k : Nat) (v : Nat → Nat) : gI (sA σ k v) = gI σ := rfl
theorem gIsI (σ : St) (k : Nat) (v : Int32) (j : Nat) : gI (sI σ k v) j = if j = k then v else gI σ j := rfl
theorem gIsJ (σ : St) (k : Nat) (v : Nat → Int32) : gI (sJ σ k v) = gI σ := rfl
theorem gIsL (σ : St) (k : Nat) (v : Nat → Int64) : gI (sL σ k v) = gI σ := rfl
theorem gIsB (σ : St) (k : Nat) (v : Bool) : gI (sB σ k v) = gI σ := rfl
theorem gIsZ (σ : St) (k : Nat) (v : Nat → Bool) : gI (sZ σ k v) = gI σ := rfl
theorem gIsO (σ : St) (k : Nat) (v : Option Nat) : gI (sO σ k v) = gI σ := rfl
theorem gIsP (σ : St) (k : Nat) (v : Nat → Option Nat) : gI (sP σ k v) = gI σ := rfl
theorem gJsN (σ : St) (k : Nat) (v : Nat) : gJ (sN σ k v) = gJ σ := rfl
theorem gJsA (σ : St) (k : Nat) (v : Nat → Nat) : gJ (sA σ k v) = gJ σ := rfl
theorem gJsI (σ : St) (k : Nat) (v : Int32) : gJ (sI σ k v) = gJ σ := rfl
theorem gJsJ (σ : St) (k : Nat) (v : Nat → Int32) (j : Nat) : gJ (sJ σ k v) j = if j = k then v else gJ σ j := rfl
theorem gJsL (σ : St) (k : Nat) (v : Nat → Int64) : gJ (sL σ k v) = gJ σ := rfl
theorem gJsB (σ : St) (k : Nat) (v : Bool) : gJ (sB σ k v) = gJ σ := rfl
theorem gJsZ (σ : St) (k : Nat) (v : Nat → Bool) : gJ (sZ σ k v) = gJ σ := rfl
theorem gJsO (σ : St) (k : Nat) (v : Option Nat) : gJ (sO σ k v) = gJ σ := rfl
theorem gJsP (σ : St) (k : Nat) (v : Nat → Option Nat) : gJ (sP σ k v) = gJ σ := rfl
theorem gLsN (σ : St) (k : Nat) (v : Nat) : gL (sN σ k v) = gL σ := rfl
theorem gLsA (σ : St) (k : Nat) (v : Nat → Nat) : gL (sA σ k v) = gL σ := rfl
theorem gLsI (σ : St) (k : Nat) (v : Int32) : gL (sI σ k v) = gL σ := rfl
theorem gLsJ (σ : St) (k : Nat) (v : Nat → Int32) : gL (sJ σ k v) = gL σ := rfl
theorem gLsL (σ : St) (k : Nat) (v : Nat → Int64) (j : Nat) : gL (sL σ k v) j = if j = k then v else gL σ j := rfl
theorem gLsB (σ : St) (k : Nat) (v : Bool) : gL (sB σ k v) = gL σ := rfl
theorem gLsZ (σ : St) (k : Nat) (v : Nat → Bool) : gL (sZ σ k v) = gL σ := rfl
theorem gLsO (σ : St) (k : Nat) (v : Option Nat) : gL (sO σ k v) = gL σ := rfl
theorem gLsP (σ : St) (k : Nat) (v : Nat → Option Nat) : gL (sP σ k v) = gL σ := rfl
theorem gBsN (σ : St) (k : Nat) (v : Nat) : gB (sN σ k v) = gB σ := rfl
theorem gBsA (σ : St) (k : Nat) (v : Nat → Nat) : gB (sA σ k v) = gB σ := rfl
theorem gBsI (σ : St) (k : Nat) (v : Int32) : gB (sI σ k v) = gB σ := rfl
theorem gBsJ (σ : St) (k : Nat) (v : Nat → Int32) : gB (sJ σ k v) = gB σ := rfl
theorem gBsL (σ : St) (k : Nat) (v : Nat → Int64) : gB (sL σ k v) = gB σ := rfl
theorem gBsB (σ : St) (k : Nat) (v : Bool) (j : Nat) : gB (sB σ k v) j = if j = k then v else gB σ j := rfl
theorem gBsZ (σ : St) (k : Nat) (v : Nat → Bool) : gB (sZ σ k v) = gB σ := rfl
theorem gBsO (σ : St) (k : Nat) (v : Option Nat) : gB (sO σ k v) = gB σ := rfl
theorem gBsP (σ : St) (k : Nat) (v : Nat → Option Nat) : gB (sP σ k v) = gB σ := rfl
theorem gZsN (σ : St) (k : Nat) (v : Nat) : gZ (sN σ k v) = gZ σ := rfl
theorem gZsA (σ : St) (k : Nat) (v : Nat → Nat) : gZ (sA σ k v) = gZ σ := rfl
theorem gZsI (σ : St) (k : Nat) (v : Int32) : gZ (sI σ k v) = gZ σ := rfl
theorem gZsJ (σ : St) (k : Nat) (v : Nat → Int32) : gZ (sJ σ k v) = gZ σ := rfl
theorem gZsL (σ : St) (k : Nat) (v : Nat → Int64) : gZ (sL σ k v) = gZ σ := rfl
theorem gZsB (σ : St) (k : Nat) (v : Bool) : gZ (sB σ k v) = gZ σ := rfl
theorem gZsZ (σ : St) (k : Nat) (v : Nat → Bool) (j : Nat) : gZ (sZ σ k v) j = if j = k then v else gZ σ j := rfl
theorem gZsO (σ : St) (k : Nat) (v : Option Nat) : gZ (sO σ k v) = gZ σ := rfl
theorem gZsP (σ : St) (k : Nat) (v : Nat → Option Nat) : gZ (sP σ k v) = gZ σ := rfl
theorem gOsN (σ : St) (k : Nat) (v : Nat) : gO (sN σ k v) = gO σ := rfl
theorem gOsA (σ : St) (k : Nat) (v : Nat → Nat) : gO (sA σ k v) = gO σ := rfl
theorem gOsI (σ : St) (k : Nat) (v : Int32) : gO (sI σ k v) = gO σ := rfl
theorem gOsJ (σ : St) (k : Nat) (v : Nat → Int32) : gO (sJ σ k v) = gO σ := rfl
theorem gOsL (σ : St) (k : Nat) (v : Nat → Int64) : gO (sL σ k v) = gO σ := rfl
theorem gOsB (σ : St) (k : Nat) (v : Bool) : gO (sB σ k v) = gO σ := rfl
theorem gOsZ (σ : St) (k : Nat) (v : Nat → Bool) : gO (sZ σ k v) = gO σ := rfl
theorem gOsO (σ : St) (k : Nat) (v : Option Nat) (j : Nat) : gO (sO σ k v) j = if j = k then v else gO σ j := rfl
theorem gOsP (σ : St) (k : Nat) (v : Nat → Option Nat) : gO (sP σ k v) = gO σ := rfl
theorem gPsN (σ : St) (k : Nat) (v : Nat) : gP (sN σ k v) = gP σ := rfl
theorem gPsA (σ : St) (k : Nat) (v : Nat → Nat) : gP (sA σ k v) = gP σ := rfl
theorem gPsI (σ : St) (k : Nat) (v : Int32) : gP (sI σ k v) = gP σ := rfl
theorem gPsJ (σ : St) (k : Nat) (v : Nat → Int32) : gP (sJ σ k v) = gP σ := rfl
theorem gPsL (σ : St) (k : Nat) (v : Nat → Int64) : gP (sL σ k v) = gP σ := rfl
theorem gPsB (σ : St) (k : Nat) (v : Bool) : gP (sB σ k v) = gP σ := rfl
theorem gPsZ (σ : St) (k : Nat) (v : Nat → Bool) : gP (sZ σ k v) = gP σ := rfl
theorem gPsO (σ : St) (k : Nat) (v : Option Nat) : gP (sO σ k v) = gP σ := rfl
theorem gPsP (σ : St) (k : Nat) (v : Nat → Option Nat) (j : Nat) : gP (sP σ k v) j = if j = k then v else gP σ j := rfl
def bI (b : Bool) : Int32 := if b then 1 else 0
def oI (o : Option Nat) : Int32 := match o with
  | none => -1
  | some k => nI k
def b8 (n : Nat) : Int32 := (nI n).toInt8.toInt32
theorem bI_t : bI true = 1 := rfl
theorem bI_f : bI false = 0 := rfl
theorem bI_01 (b : Bool) : bI b = 0 ∨ bI b = 1 := by cases b <;> simp [bI]
theorem bI_fits (b : Bool) : fits .boolean (.int (bI b)) = true := by cases b <;> rfl
theorem bI_nar (b : Bool) : narrow .boolean (.int (bI b)) = .int (bI b) := by cases b <;> rfl
theorem bI_vnar (b : Bool) : vp_nar .boolean (bI b) = bI b := by cases b <;> rfl
theorem bI_eq0 (b : Bool) : bI b = 0 ↔ b = false := by cases b <;> simp [bI]
theorem bI_ne0 (b : Bool) : ¬ bI b = 0 ↔ b = true := by cases b <;> simp [bI]
theorem upN (f : Nat → Nat) (i v : Nat) : upd (fun j => nI (f j)) i (nI v) = fun j => nI (va_up f i v j) := by
  funext j; simp only [upd, va_up]; split <;> rfl
theorem upO (f : Nat → Option Nat) (i : Nat) (v : Option Nat) : upd (fun j => oI (f j)) i (oI v) = fun j => oI (va_up f i v j) := by
  funext j; simp only [upd, va_up]; split <;> rfl
theorem upB (f : Nat → Bool) (i : Nat) (v : Bool) : upd (fun j => bI (f j)) i (vp_nar .boolean (bI v)) = fun j => bI (va_up f i v j) := by
  funext j; simp only [upd, va_up, bI_vnar]; split <;> rfl
theorem upY (f : Nat → Nat) (i v : Nat) : upd (fun j => b8 (f j)) i (vp_nar .byte (b8 v)) = fun j => b8 (va_up f i v j) := by
  funext j; simp only [upd, va_up, b8, pk_vb]; split <;> rfl
theorem upJ (f : Nat → Int32) (i : Nat) (v : Int32) : upd f i v = va_up f i v := rfl
theorem upL (f : Nat → Int64) (i : Nat) (v : Int64) : vp_updL f i v = va_up f i v := rfl
def cw (G : Gx) (a : Nat → Nat) (σ : St) : va_W := [(a 0, .inr (11, [.ref (a 1), .ref (a 7), .ref (a 9), .ref (a 11), .ref (a 15), .ref (a 19), .ref (a 20), .ref (a 21), .ref (a 23), .ref (a 24), .ref (a 26), .ref (a 27), .ref (a 28)])),
  (a 1, .inr (2, [.ref (a 2), .ref (a 3), .ref (a 4), .ref (a 5), .ref (a 6), .int (nI (gN σ 0)), .int (nI (gN σ 1))])),
  (a 2, .inl (G.2.1, 1500, .inl (fun j => nI (gA σ 0 j)))),
  (a 3, .inl (G.2.1, 1500, .inl (gJ σ 0))),
  (a 4, .inl (G.2.1, 1501, .inl (fun j => nI (gA σ 1 j)))),
  (a 5, .inl (G.2.1, 4000, .inl (fun j => nI (gA σ 2 j)))),
  (a 6, .inl (G.2.1, 1500, .inl (fun j => nI (gA σ 3 j)))),
  (a 7, .inr (5, [.ref (a 8), .int (nI (gN σ 2)), .int (bI (gB σ 0))])),
  (a 8, .inl (G.2.2.2.1, 6000, .inl (fun j => b8 (gA σ 12 j)))),
  (a 9, .inr (5, [.ref (a 10), .int (nI (gN σ 3)), .int (bI (gB σ 1))])),
  (a 10, .inl (G.2.2.2.1, 6000, .inl (fun j => b8 (gA σ 13 j)))),
  (a 11, .inr (6, [.ref (a 1), .ref (a 7), .ref (a 12), .ref (a 13), .ref (a 14), .int (nI (gN σ 4)), .int (nI (gN σ 5)), .int (gI σ 0), .int (gI σ 1), .int (bI (gB σ 2)), .int (nI (gN σ 6))])),
  (a 12, .inl (G.2.1, 2001, .inl (fun j => nI (gA σ 4 j)))),
  (a 13, .inl (G.2.1, 2001, .inl (gJ σ 1))),
  (a 14, .inl (G.2.1, 2001, .inl (fun j => nI (gA σ 5 j)))),
  (a 15, .inr (8, [.ref (a 1), .ref (a 16), .ref (a 17), .ref (a 18), .int (nI (gN σ 7)), .int (nI (gN σ 8)), .int (gI σ 2), .int (nI (gN σ 9)), .int (nI (gN σ 10)), .int (nI (gN σ 11)), .ref (a (gN σ 12)), .int (nI (gN σ 13)), .int (nI (gN σ 14)), .int (gI σ 3)])),
  (a 16, .inl (G.2.1, 1502, .inl (fun j => nI (gA σ 6 j)))),
  (a 17, .inl (G.2.1, 1502, .inl (fun j => nI (gA σ 7 j)))),
  (a 18, .inl (G.2.1, 1502, .inl (fun j => nI (gA σ 8 j)))),
  (a 19, .inl (G.2.2.1, 1502, .inr (.inl (gL σ 0)))),
  (a 20, .inr (7, [.ref (a 1), .int (bI (gB σ 20))])),
  (a 21, .inr (9, [.ref (a 1), .int (bI (gB σ 21)), .ref (a 19), .ref (a 22)])),
  (a 22, .inl (G.2.2.1, 1502, .inr (.inl (gL σ 1)))),
  (a 23, .inr (4, [.ref (a 1), .int (bI (gB σ 23)), .ref (a 19)])),
  (a 24, .inr (0, [.ref (a 1), .int (bI (gB σ 24)), .ref (a 25)])),
  (a 25, .inl (G.2.1, 1502, .inl (fun j => nI (gA σ 9 j)))),
  (a 26, .inr (10, [.ref (a 1), .int (bI (gB σ 26)), .ref (a 9)])),
  (a 27, .inr (3, [.ref (a 1), .int (bI (gB σ 27)), .int (gI σ 4), .int (gI σ 5)])),
  (a 28, .inr (1, [.ref (a 1), .int (bI (gB σ 28)), .ref (a 29), .ref (a 30), .ref (a 31), .ref (a 32), .int (gI σ 6), .int (bI (gB σ 3)), .int (bI (gB σ 4)), .int (nI (gN σ 15))])),
  (a 29, .inl (G.2.2.2.2, 1502, .inl (fun j => bI (gZ σ 0 j)))),
  (a 30, .inl (G.2.1, 1502, .inl (fun j => nI (gA σ 10 j)))),
  (a 31, .inl (G.2.2.1, 1500, .inr (.inl (gL σ 2)))),
  (a 32, .inl (G.2.1, 4000, .inl (fun j => nI (gA σ 11 j))))]
def rw (G : Gx) (a : Nat → Nat) (σ : St) : va_W := [(a 0, .inr (12, [.int (nI (gN σ 0)), .ref (a 1), .ref (a 2), .ref (a 3), .ref (a 4), .ref (a 5), .int (nI (gN σ 1)), .ref (a 6), .ref (a 7), .int (nI (gN σ 2)), .int (nI (gN σ 3)), .ref (a 8), .int (nI (gN σ 4)), .int (gI σ 0), .int (nI (gN σ 5)), .int (nI (gN σ 6)), .ref (a 9), .ref (a 10), .int (nI (gN σ 7)), .int (nI (gN σ 8)), .int (nI (gN σ 9)), .ref (a 11), .ref (a 12), .ref (a 13), .ref (a 14), .ref (a 15), .ref (a 16), .int (nI (gN σ 10)), .int (bI (gB σ 0)), .ref (a 17), .int (nI (gN σ 11)), .ref (a 18), .ref (a 19), .ref (a 20), .ref (a 21), .ref (a 22), .ref (a 23), .ref (a 24), .ref (a 25), .int (nI (gN σ 12)), .int (oI (gO σ 0))])),
  (a 1, .inl (G.2.1, 1500, .inl (fun j => nI (gA σ 0 j)))),
  (a 2, .inl (G.2.1, 1500, .inl (gJ σ 0))),
  (a 3, .inl (G.2.1, 1500, .inl (fun j => nI (gA σ 1 j)))),
  (a 4, .inl (G.2.1, 1500, .inl (fun j => oI (gP σ 0 j)))),
  (a 5, .inl (G.2.1, 1500, .inl (fun j => oI (gP σ 1 j)))),
  (a 6, .inl (G.2.1, 4000, .inl (fun j => nI (gA σ 2 j)))),
  (a 7, .inl (G.2.1, 4000, .inl (fun j => oI (gP σ 2 j)))),
  (a 8, .inl (G.2.1, 6000, .inl (fun j => nI (gA σ 3 j)))),
  (a 9, .inl (G.2.2.1, 1500, .inr (.inl (gL σ 0)))),
  (a 10, .inl (G.2.2.1, 1500, .inr (.inl (gL σ 1)))),
  (a 11, .inl (G.2.1, 1501, .inl (fun j => nI (gA σ 4 j)))),
  (a 12, .inl (G.2.1, 1501, .inl (fun j => oI (gP σ 3 j)))),
  (a 13, .inl (G.2.1, 1501, .inl (fun j => nI (gA σ 5 j)))),
  (a 14, .inl (G.2.1, 20000, .inl (fun j => nI (gA σ 6 j)))),
  (a 15, .inl (G.2.1, 20000, .inl (fun j => nI (gA σ 7 j)))),
  (a 16, .inl (G.2.1, 6000, .inl (fun j => nI (gA σ 8 j)))),
  (a 17, .inl (G.2.1, 1502, .inl (fun j => nI (gA σ 9 j)))),
  (a 18, .inl (G.2.1, 20000, .inl (fun j => nI (gA σ 10 j)))),
  (a 19, .inl (G.2.1, 20000, .inl (gJ σ 1))),
  (a 20, .inl (G.2.2.1, 20000, .inr (.inl (gL σ 2)))),
  (a 21, .inl (G.2.1, 20000, .inl (fun j => oI (gP σ 4 j)))),
  (a 22, .inl (G.2.1, 20000, .inl (fun j => oI (gP σ 5 j)))),
  (a 23, .inl (G.2.1, 20000, .inl (fun j => oI (gP σ 6 j)))),
  (a 24, .inl (G.2.1, 20000, .inl (fun j => nI (gA σ 11 j)))),
  (a 25, .inl (G.2.1, 1502, .inl (fun j => nI (gA σ 12 j))))]
theorem Vg_c_0_deeds {Z : Cx} {own : String} {cc : ByteArray} {rt : Option FieldType} {lv : List (Nat × Value)} {pc : Nat} {st : List Value} {a : Nat → Nat} {σ : St} (X : XC Z own cc rt) {index : Nat} (hw : Cond.fieldLink own index "NestedDeeds" "deeds" "LNestedDeeds$Deeds;" ∈ tb) (hd : decode cc pc = .ok (.getfield index, 3)) (kk : V Z (cw (zG Z) a σ) lv (pc + 3) (.ref (a 1) :: st)) : V Z (cw (zG Z) a σ) lv pc (.ref (a 0) :: st) := V.get X inX11 0 rfl rfl 0 (by decide) rfl (Or.inl rfl) hw hd kk
theorem Vg_c_0_paper {Z : Cx} {own : String} {cc : ByteArray} {rt : Option FieldType} {lv : List (Nat × Value)} {pc : Nat} {st : List Value} {a : Nat → Nat} {σ : St} (X : XC Z own cc rt) {index : Nat} (hw : Cond.fieldLink own index "NestedDeeds" "paper" "LNestedDeeds$Paper;" ∈ tb) (hd : decode cc pc = .ok (.getfield index, 3)) (kk : V Z (cw (zG Z) a σ) lv (pc + 3) (.ref (a 7) :: st)) : V Z (cw (zG Z) a σ) lv pc (.ref (a 0) :: st) := V.get X inX11 0 rfl rfl 1 (by decide) rfl (Or.inl rfl) hw hd kk
theorem Vg_c_0_draft {Z : Cx} {own : String} {cc : ByteArray} {rt : Option FieldType} {lv : List (Nat × Value)} {pc : Nat} {st : List Value} {a : Nat → Nat} {σ : St} (X : XC Z own cc rt) {index : Nat} (hw : Cond.fieldLink own index "NestedDeeds" "draft" "LNestedDeeds$Paper;" ∈ tb) (hd : decode cc pc = .ok (.getfield index, 3)) (kk : V Z (cw (zG Z) a σ) lv (pc + 3) (.ref (a 9) :: st)) : V Z (cw (zG Z) a σ) lv pc (.ref (a 0) :: st) := V.get X inX11 0 rfl rfl 2 (by decide) rfl (Or.inl rfl) hw hd kk
theorem Vg_c_0_reader {Z : Cx} {own : String} {cc : ByteArray} {rt : Option FieldType} {lv : List (Nat × Value)} {pc : Nat} {st : List Value} {a : Nat → Nat} {σ : St} (X : XC Z own cc rt) {index : Nat} (hw : Cond.fieldLink own index "NestedDeeds" "reader" "LNestedDeeds$Reader;" ∈ tb) (hd : decode cc pc = .ok (.getfield index, 3)) (kk : V Z (cw (zG Z) a σ) lv (pc + 3) (.ref (a 11) :: st)) : V Z (cw (zG Z) a σ) lv pc (.ref (a 0) :: st) := V.get X inX11 0 rfl rfl 3 (by decide) rfl (Or.inl rfl) hw hd kk
theorem Vg_c_0_walker {Z : Cx} {own : String} {cc : ByteArray} {rt : Option FieldType} {lv : List (Nat × Value)} {pc : Nat} {st : List Value} {a : Nat → Nat} {σ : St} (X : XC Z own cc rt) {index : Nat} (hw : Cond.fieldLink own index "NestedDeeds" "walker" "LNestedDeeds$Walker;" ∈ tb) (hd : decode cc pc = .ok (.getfield index, 3)) (kk : V Z (cw (zG Z) a σ) lv (pc + 3) (.ref (a 15) :: st)) : V Z (cw (zG Z) a σ) lv pc (.ref (a 0) :: st) := V.get X inX11 0 rfl rfl 4 (by decide) rfl (Or.inl rfl) hw hd kk
theorem Vg_c_0_reckoned {Z : Cx} {own : String} {cc : ByteArray} {rt : Option FieldType} {lv : List (Nat × Value)} {pc : Nat} {st : List Value} {a : Nat → Nat} {σ : St} (X : XC Z own cc rt) {index : Nat} (hw : Cond.fieldLink own index "NestedDeeds" "reckoned" "[J" ∈ tb) (hd : decode cc pc = .ok (.getfield index, 3)) (kk : V Z (cw (zG Z) a σ) lv (pc + 3) (.ref (a 19) :: st)) : V Z (cw (zG Z) a σ) lv pc (.ref (a 0) :: st) := V.get X inX11 0 rfl rfl 5 (by decide) rfl (Or.inl rfl) hw hd kk
theorem Vg_c_0_visiting {Z : Cx} {own : String} {cc : ByteArray} {rt : Option FieldType} {lv : List (Nat × Value)} {pc : Nat} {st : List Value} {a : Nat → Nat} {σ : St} (X : XC Z own cc rt) {index : Nat} (hw : Cond.fieldLink own index "NestedDeeds" "visiting" "LNestedDeeds$Task;" ∈ tb) (hd : decode cc pc = .ok (.getfield index, 3)) (kk : V Z (cw (zG Z) a σ) lv (pc + 3) (.ref (a 20) :: st)) : V Z (cw (zG Z) a σ) lv pc (.ref (a 0) :: st) := V.get X inX11 0 rfl rfl 6 (by decide) rfl (Or.inl rfl) hw hd kk
theorem Vg_c_0_weighing {Z : Cx} {own : String} {cc : ByteArray} {rt : Option FieldType} {lv : List (Nat × Value)} {pc : Nat} {st : List Value} {a : Nat → Nat} {σ : St} (X : XC Z own cc rt) {index : Nat} (hw : Cond.fieldLink own index "NestedDeeds" "weighing" "LNestedDeeds$Weighing;" ∈ tb) (hd : decode cc pc = .ok (.getfield index, 3)) (kk : V Z (cw (zG Z) a σ) lv (pc + 3) (.ref (a 21) :: st)) : V Z (cw (zG Z) a σ) lv pc (.ref (a 0) :: st) := V.get X inX11 0 rfl rfl 7 (by decide) rfl (Or.inl rfl) hw hd kk
theorem Vg_c_0_marking {Z : Cx} {own : String} {cc : ByteArray} {rt : Option FieldType} {lv : List (Nat × Value)} {pc : Nat} {st : List Value} {a : Nat → Nat} {σ : St} (X : XC Z own cc rt) {index : Nat} (hw : Cond.fieldLink own index "NestedDeeds" "marking" "LNestedDeeds$Marking;" ∈ tb) (hd : decode cc pc = .ok (.getfield index, 3)) (kk : V Z (cw (zG Z) a σ) lv (pc + 3) (.ref (a 23) :: st)) : V Z (cw (zG Z) a σ) lv pc (.ref (a 0) :: st) := V.get X inX11 0 rfl rfl 8 (by decide) rfl (Or.inl rfl) hw hd kk
theorem Vg_c_0_comparing {Z : Cx} {own : String} {cc : ByteArray} {rt : Option FieldType} {lv : List (Nat × Value)} {pc : Nat} {st : List Value} {a : Nat → Nat} {σ : St} (X : XC Z own cc rt) {index : Nat} (hw : Cond.fieldLink own index "NestedDeeds" "comparing" "LNestedDeeds$Comparing;" ∈ tb) (hd : decode cc pc = .ok (.getfield index, 3)) (kk : V Z (cw (zG Z) a σ) lv (pc + 3) (.ref (a 24) :: st)) : V Z (cw (zG Z) a σ) lv pc (.ref (a 0) :: st) := V.get X inX11 0 rfl rfl 9 (by decide) rfl (Or.inl rfl) hw hd kk
theorem Vg_c_0_writing {Z : Cx} {own : String} {cc : ByteArray} {rt : Option FieldType} {lv : List (Nat × Value)} {pc : Nat} {st : List Value} {a : Nat → Nat} {σ : St} (X : XC Z own cc rt) {index : Nat} (hw : Cond.fieldLink own index "NestedDeeds" "writing" "LNestedDeeds$Writing;" ∈ tb) (hd : decode cc pc = .ok (.getfield index, 3)) (kk : V Z (cw (zG Z) a σ) lv (pc + 3) (.ref (a 26) :: st)) : V Z (cw (zG Z) a σ) lv pc (.ref (a 0) :: st) := V.get X inX11 0 rfl rfl 10 (by decide) rfl (Or.inl rfl) hw hd kk
theorem Vg_c_0_finding {Z : Cx} {own : String} {cc : ByteArray} {rt : Option FieldType} {lv : List (Nat × Value)} {pc : Nat} {st : List Value} {a : Nat → Nat} {σ : St} (X : XC Z own cc rt) {index : Nat} (hw : Cond.fieldLink own index "NestedDeeds" "finding" "LNestedDeeds$Finding;" ∈ tb) (hd : decode cc pc = .ok (.getfield index, 3)) (kk : V Z (cw (zG Z) a σ) lv (pc + 3) (.ref (a 27) :: st)) : V Z (cw (zG Z) a σ) lv pc (.ref (a 0) :: st) := V.get X inX11 0 rfl rfl 11 (by decide) rfl (Or.inl rfl) hw hd kk
theorem Vg_c_0_copying {Z : Cx} {own : String} {cc : ByteArray} {rt : Option FieldType} {lv : List (Nat × Value)} {pc : Nat} {st : List Value} {a : Nat → Nat} {σ : St} (X : XC Z own cc rt) {index : Nat} (hw : Cond.fieldLink own index "NestedDeeds" "copying" "LNestedDeeds$Copying;" ∈ tb) (hd : decode cc pc = .ok (.getfield index, 3)) (kk : V Z (cw (zG Z) a σ) lv (pc + 3) (.ref (a 28) :: st)) : V Z (cw (zG Z) a σ) lv pc (.ref (a 0) :: st) := V.get X inX11 0 rfl rfl 12 (by decide) rfl (Or.inl rfl) hw hd kk
theorem Vg_c_1_kind {Z : Cx} {own : String} {cc : ByteArray} {rt : Option FieldType} {lv : List (Nat × Value)} {pc : Nat} {st : List Value} {a : Nat → Nat} {σ : St} (X : XC Z own cc rt) {index : Nat} (hw : Cond.fieldLink own index "NestedDeeds$Deeds" "kind" "[I" ∈ tb) (hd : decode cc pc = .ok (.getfield index, 3)) (kk : V Z (cw (zG Z) a σ) lv (pc + 3) (.ref (a 2) :: st)) : V Z (cw (zG Z) a σ) lv pc (.ref (a 1) :: st) := V.get X inX2 1 rfl rfl 0 (by decide) rfl (Or.inl rfl) hw hd kk
theorem Vg_c_1_number {Z : Cx} {own : String} {cc : ByteArray} {rt : Option FieldType} {lv : List (Nat × Value)} {pc : Nat} {st : List Value} {a : Nat → Nat} {σ : St} (X : XC Z own cc rt) {index : Nat} (hw : Cond.fieldLink own index "NestedDeeds$Deeds" "number" "[I" ∈ tb) (hd : decode cc pc = .ok (.getfield index, 3)) (kk : V Z (cw (zG Z) a σ) lv (pc + 3) (.ref (a 3) :: st)) : V Z (cw (zG Z) a σ) lv pc (.ref (a 1) :: st) := V.get X inX2 1 rfl rfl 1 (by decide) rfl (Or.inl rfl) hw hd kk
theorem Vg_c_1_start {Z : Cx} {own : String} {cc : ByteArray} {rt : Option FieldType} {lv : List (Nat × Value)} {pc : Nat} {st : List Value} {a : Nat → Nat} {σ : St} (X : XC Z own cc rt) {index : Nat} (hw : Cond.fieldLink own index "NestedDeeds$Deeds" "start" "[I" ∈ tb) (hd : decode cc pc = .ok (.getfield index, 3)) (kk : V Z (cw (zG Z) a σ) lv (pc + 3) (.ref (a 4) :: st)) : V Z (cw (zG Z) a σ) lv pc (.ref (a 1) :: st) := V.get X inX2 1 rfl rfl 2 (by decide) rfl (Or.inl rfl) hw hd kk
theorem Vg_c_1_parts {Z : Cx} {own : String} {cc : ByteArray} {rt : Option FieldType} {lv : List (Nat × Value)} {pc : Nat} {st : List Value} {a : Nat → Nat} {σ : St} (X : XC Z own cc rt) {index : Nat} (hw : Cond.fieldLink own index "NestedDeeds$Deeds" "parts" "[I" ∈ tb) (hd : decode cc pc = .ok (.getfield index, 3)) (kk : V Z (cw (zG Z) a σ) lv (pc + 3) (.ref (a 5) :: st)) : V Z (cw (zG Z) a σ) lv pc (.ref (a 1) :: st) := V.get X inX2 1 rfl rfl 3 (by decide) rfl (Or.inl rfl) hw hd kk
theorem Vg_c_1_loose {Z : Cx} {own : String} {cc : ByteArray} {rt : Option FieldType} {lv : List (Nat × Value)} {pc : Nat} {st : List Value} {a : Nat → Nat} {σ : St} (X : XC Z own cc rt) {index : Nat} (hw : Cond.fieldLink own index "NestedDeeds$Deeds" "loose" "[I" ∈ tb) (hd : decode cc pc = .ok (.getfield index, 3)) (kk : V Z (cw (zG Z) a σ) lv (pc + 3) (.ref (a 6) :: st)) : V Z (cw (zG Z) a σ) lv pc (.ref (a 1) :: st) := V.get X inX2 1 rfl rfl 4 (by decide) rfl (Or.inl rfl) hw hd kk
theorem Vg_c_1_looseCount {Z : Cx} {own : String} {cc : ByteArray} {rt : Option FieldType} {lv : List (Nat × Value)} {pc : Nat} {st : List Value} {a : Nat → Nat} {σ : St} (X : XC Z own cc rt) {index : Nat} {x : Nat} (hw : Cond.fieldLink own index "NestedDeeds$Deeds" "looseCount" "I" ∈ tb) (hd : decode cc pc = .ok (.getfield index, 3)) (e : gN σ 0 = x) (kk : V Z (cw (zG Z) a σ) lv (pc + 3) (.int (nI x) :: st)) : V Z (cw (zG Z) a σ) lv pc (.ref (a 1) :: st) := by subst e; exact V.get X inX2 1 rfl rfl 5 (by decide) rfl (Or.inl rfl) hw hd kk
theorem Vp_c_1_looseCount {Z : Cx} {own : String} {cc : ByteArray} {rt : Option FieldType} {lv : List (Nat × Value)} {pc : Nat} {st : List Value} {a : Nat → Nat} {σ : St} (X : XC Z own cc rt) {index : Nat} {x : Nat} (hw : Cond.fieldLink own index "NestedDeeds$Deeds" "looseCount" "I" ∈ tb) (hd : decode cc pc = .ok (.putfield index, 3)) (kk : V Z (cw (zG Z) a (sN σ 0 x)) lv (pc + 3) st) : V Z (cw (zG Z) a σ) lv pc (.int (nI x) :: .ref (a 1) :: st) := V.put X (ty := .int) tyX2 tyX2_ok nmX2 inX2 1 rfl rfl 5 (by decide) rfl (by decide +kernel) rfl rfl (Nat.le_of_ble_eq_true rfl) rfl (Or.inl rfl) hw hd kk
theorem Vg_c_1_made {Z : Cx} {own : String} {cc : ByteArray} {rt : Option FieldType} {lv : List (Nat × Value)} {pc : Nat} {st : List Value} {a : Nat → Nat} {σ : St} (X : XC Z own cc rt) {index : Nat} {x : Nat} (hw : Cond.fieldLink own index "NestedDeeds$Deeds" "made" "I" ∈ tb) (hd : decode cc pc = .ok (.getfield index, 3)) (e : gN σ 1 = x) (kk : V Z (cw (zG Z) a σ) lv (pc + 3) (.int (nI x) :: st)) : V Z (cw (zG Z) a σ) lv pc (.ref (a 1) :: st) := by subst e; exact V.get X inX2 1 rfl rfl 6 (by decide) rfl (Or.inl rfl) hw hd kk
theorem Vp_c_1_made {Z : Cx} {own : String} {cc : ByteArray} {rt : Option FieldType} {lv : List (Nat × Value)} {pc : Nat} {st : List Value} {a : Nat → Nat} {σ : St} (X : XC Z own cc rt) {index : Nat} {x : Nat} (hw : Cond.fieldLink own index "NestedDeeds$Deeds" "made" "I" ∈ tb) (hd : decode cc pc = .ok (.putfield index, 3)) (kk : V Z (cw (zG Z) a (sN σ 1 x)) lv (pc + 3) st) : V Z (cw (zG Z) a σ) lv pc (.int (nI x) :: .ref (a 1) :: st) := V.put X (ty := .int) tyX2 tyX2_ok nmX2 inX2 1 rfl rfl 6 (by decide) rfl (by decide +kernel) rfl rfl (Nat.le_of_ble_eq_true rfl) rfl (Or.inl rfl) hw hd kk
theorem Va_c_kind {Z : Cx} {own : String} {cc : ByteArray} {rt : Option FieldType} {lv : List (Nat × Value)} {pc : Nat} {st : List Value} {a : Nat → Nat} {σ : St} (X : XC Z own cc rt) {i : Nat} {x : Nat} (hi : i < 1500) (hd : decode cc pc = .ok (.iaload, 1)) (e : gA σ 0 i = x) (kk : V Z (cw (zG Z) a σ) lv (pc + 1) (.int (nI x) :: st)) : V Z (cw (zG Z) a σ) lv pc (.int (nI i) :: .ref (a 2) :: st) := by subst e; exact V.iald X 2 rfl (vp_in_nI hi (by decide)) hd (by rw [nI_clamp (by omega)]; exact kk)
theorem Vs_c_kind {Z : Cx} {own : String} {cc : ByteArray} {rt : Option FieldType} {lv : List (Nat × Value)} {pc : Nat} {st : List Value} {a : Nat → Nat} {σ : St} (X : XC Z own cc rt) {i : Nat} {x : Nat} (hi : i < 1500) (hd : decode cc pc = .ok (.iastore, 1)) (kk : V Z (cw (zG Z) a (sA σ 0 (va_up (gA σ 0) i x))) lv (pc + 1) st) : V Z (cw (zG Z) a σ) lv pc (.int (nI x) :: .int (nI i) :: .ref (a 2) :: st) := V.iast X 2 rfl (vp_in_nI hi (by decide)) (by rw [nI_clamp (by omega), upN]; rfl) hd kk
theorem Va_c_number {Z : Cx} {own : String} {cc : ByteArray} {rt : Option FieldType} {lv : List (Nat × Value)} {pc : Nat} {st : List Value} {a : Nat → Nat} {σ : St} (X : XC Z own cc rt) {i : Nat} {x : Int32} (hi : i < 1500) (hd : decode cc pc = .ok (.iaload, 1)) (e : gJ σ 0 i = x) (kk : V Z (cw (zG Z) a σ) lv (pc + 1) (.int x :: st)) : V Z (cw (zG Z) a σ) lv pc (.int (nI i) :: .ref (a 3) :: st) := by subst e; exact V.iald X 3 rfl (vp_in_nI hi (by decide)) hd (by rw [nI_clamp (by omega)]; exact kk)
theorem Vs_c_number {Z : Cx} {own : String} {cc : ByteArray} {rt : Option FieldType} {lv : List (Nat × Value)} {pc : Nat} {st : List Value} {a : Nat → Nat} {σ : St} (X : XC Z own cc rt) {i : Nat} {x : Int32} (hi : i < 1500) (hd : decode cc pc = .ok (.iastore, 1)) (kk : V Z (cw (zG Z) a (sJ σ 0 (va_up (gJ σ 0) i x))) lv (pc + 1) st) : V Z (cw (zG Z) a σ) lv pc (.int x :: .int (nI i) :: .ref (a 3) :: st) := V.iast X 3 rfl (vp_in_nI hi (by decide)) (by rw [nI_clamp (by omega)]; rfl) hd kk
theorem Va_c_start {Z : Cx} {own : String} {cc : ByteArray} {rt : Option FieldType} {lv : List (Nat × Value)} {pc : Nat} {st : List Value} {a : Nat → Nat} {σ : St} (X : XC Z own cc rt) {i : Nat} {x : Nat} (hi : i < 1501) (hd : decode cc pc = .ok (.iaload, 1)) (e : gA σ 1 i = x) (kk : V Z (cw (zG Z) a σ) lv (pc + 1) (.int (nI x) :: st)) : V Z (cw (zG Z) a σ) lv pc (.int (nI i) :: .ref (a 4) :: st) := by subst e; exact V.iald X 4 rfl (vp_in_nI hi (by decide)) hd (by rw [nI_clamp (by omega)]; exact kk)
theorem Vs_c_start {Z : Cx} {own : String} {cc : ByteArray} {rt : Option FieldType} {lv : List (Nat × Value)} {pc : Nat} {st : List Value} {a : Nat → Nat} {σ : St} (X : XC Z own cc rt) {i : Nat} {x : Nat} (hi : i < 1501) (hd : decode cc pc = .ok (.iastore, 1)) (kk : V Z (cw (zG Z) a (sA σ 1 (va_up (gA σ 1) i x))) lv (pc + 1) st) : V Z (cw (zG Z) a σ) lv pc (.int (nI x) :: .int (nI i) :: .ref (a 4) :: st) := V.iast X 4 rfl (vp_in_nI hi (by decide)) (by rw [nI_clamp (by omega), upN]; rfl) hd kk
theorem Va_c_parts {Z : Cx} {own : String} {cc : ByteArray} {rt : Option FieldType} {lv : List (Nat × Value)} {pc : Nat} {st : List Value} {a : Nat → Nat} {σ : St} (X : XC Z own cc rt) {i : Nat} {x : Nat} (hi : i < 4000) (hd : decode cc pc = .ok (.iaload, 1)) (e : gA σ 2 i = x) (kk : V Z (cw (zG Z) a σ) lv (pc + 1) (.int (nI x) :: st)) : V Z (cw (zG Z) a σ) lv pc (.int (nI i) :: .ref (a 5) :: st) := by subst e; exact V.iald X 5 rfl (vp_in_nI hi (by decide)) hd (by rw [nI_clamp (by omega)]; exact kk)
theorem Vs_c_parts {Z : Cx} {own : String} {cc : ByteArray} {rt : Option FieldType} {lv : List (Nat × Value)} {pc : Nat} {st : List Value} {a : Nat → Nat} {σ : St} (X : XC Z own cc rt) {i : Nat} {x : Nat} (hi : i < 4000) (hd : decode cc pc = .ok (.iastore, 1)) (kk : V Z (cw (zG Z) a (sA σ 2 (va_up (gA σ 2) i x))) lv (pc + 1) st) : V Z (cw (zG Z) a σ) lv pc (.int (nI x) :: .int (nI i) :: .ref (a 5) :: st) := V.iast X 5 rfl (vp_in_nI hi (by decide)) (by rw [nI_clamp (by omega), upN]; rfl) hd kk
theorem Va_c_loose {Z : Cx} {own : String} {cc : ByteArray} {rt : Option FieldType} {lv : List (Nat × Value)} {pc : Nat} {st : List Value} {a : Nat → Nat} {σ : St} (X : XC Z own cc rt) {i : Nat} {x : Nat} (hi : i < 1500) (hd : decode cc pc = .ok (.iaload, 1)) (e : gA σ 3 i = x) (kk : V Z (cw (zG Z) a σ) lv (pc + 1) (.int (nI x) :: st)) : V Z (cw (zG Z) a σ) lv pc (.int (nI i) :: .ref (a 6) :: st) := by subst e; exact V.iald X 6 rfl (vp_in_nI hi (by decide)) hd (by rw [nI_clamp (by omega)]; exact kk)
theorem Vs_c_loose {Z : Cx} {own : String} {cc : ByteArray} {rt : Option FieldType} {lv : List (Nat × Value)} {pc : Nat} {st : List Value} {a : Nat → Nat} {σ : St} (X : XC Z own cc rt) {i : Nat} {x : Nat} (hi : i < 1500) (hd : decode cc pc = .ok (.iastore, 1)) (kk : V Z (cw (zG Z) a (sA σ 3 (va_up (gA σ 3) i x))) lv (pc + 1) st) : V Z (cw (zG Z) a σ) lv pc (.int (nI x) :: .int (nI i) :: .ref (a 6) :: st) := V.iast X 6 rfl (vp_in_nI hi (by decide)) (by rw [nI_clamp (by omega), upN]; rfl) hd kk
theorem Vg_c_7_bytes {Z : Cx} {own : String} {cc : ByteArray} {rt : Option FieldType} {lv : List (Nat × Value)} {pc : Nat} {st : List Value} {a : Nat → Nat} {σ : St} (X : XC Z own cc rt) {index : Nat} (hw : Cond.fieldLink own index "NestedDeeds$Paper" "bytes" "[B" ∈ tb) (hd : decode cc pc = .ok (.getfield index, 3)) (kk : V Z (cw (zG Z) a σ) lv (pc + 3) (.ref (a 8) :: st)) : V Z (cw (zG Z) a σ) lv pc (.ref (a 7) :: st) := V.get X inX5 7 rfl rfl 0 (by decide) rfl (Or.inl rfl) hw hd kk
theorem Vg_c_7_length {Z : Cx} {own : String} {cc : ByteArray} {rt : Option FieldType} {lv : List (Nat × Value)} {pc : Nat} {st : List Value} {a : Nat → Nat} {σ : St} (X : XC Z own cc rt) {index : Nat} {x : Nat} (hw : Cond.fieldLink own index "NestedDeeds$Paper" "length" "I" ∈ tb) (hd : decode cc pc = .ok (.getfield index, 3)) (e : gN σ 2 = x) (kk : V Z (cw (zG Z) a σ) lv (pc + 3) (.int (nI x) :: st)) : V Z (cw (zG Z) a σ) lv pc (.ref (a 7) :: st) := by subst e; exact V.get X inX5 7 rfl rfl 1 (by decide) rfl (Or.inl rfl) hw hd kk
theorem Vp_c_7_length {Z : Cx} {own : String} {cc : ByteArray} {rt : Option FieldType} {lv : List (Nat × Value)} {pc : Nat} {st : List Value} {a : Nat → Nat} {σ : St} (X : XC Z own cc rt) {index : Nat} {x : Nat} (hw : Cond.fieldLink own index "NestedDeeds$Paper" "length" "I" ∈ tb) (hd : decode cc pc = .ok (.putfield index, 3)) (kk : V Z (cw (zG Z) a (sN σ 2 x)) lv (pc + 3) st) : V Z (cw (zG Z) a σ) lv pc (.int (nI x) :: .ref (a 7) :: st) := V.put X (ty := .int) tyX5 tyX5_ok nmX5 inX5 7 rfl rfl 1 (by decide) rfl (by decide +kernel) rfl rfl (Nat.le_of_ble_eq_true rfl) rfl (Or.inl rfl) hw hd kk
theorem Vg_c_7_overfull {Z : Cx} {own : String} {cc : ByteArray} {rt : Option FieldType} {lv : List (Nat × Value)} {pc : Nat} {st : List Value} {a : Nat → Nat} {σ : St} (X : XC Z own cc rt) {index : Nat} {x : Bool} (hw : Cond.fieldLink own index "NestedDeeds$Paper" "overfull" "Z" ∈ tb) (hd : decode cc pc = .ok (.getfield index, 3)) (e : gB σ 0 = x) (kk : V Z (cw (zG Z) a σ) lv (pc + 3) (.int (bI x) :: st)) : V Z (cw (zG Z) a σ) lv pc (.ref (a 7) :: st) := by subst e; exact V.get X inX5 7 rfl rfl 2 (by decide) rfl (Or.inl rfl) hw hd kk
theorem Vp_c_7_overfull {Z : Cx} {own : String} {cc : ByteArray} {rt : Option FieldType} {lv : List (Nat × Value)} {pc : Nat} {st : List Value} {a : Nat → Nat} {σ : St} (X : XC Z own cc rt) {index : Nat} {x : Bool} (hw : Cond.fieldLink own index "NestedDeeds$Paper" "overfull" "Z" ∈ tb) (hd : decode cc pc = .ok (.putfield index, 3)) (kk : V Z (cw (zG Z) a (sB σ 0 x)) lv (pc + 3) st) : V Z (cw (zG Z) a σ) lv pc (.int (bI x) :: .ref (a 7) :: st) := V.put X (ty := .boolean) tyX5 tyX5_ok nmX5 inX5 7 rfl rfl 2 (by decide) rfl (by decide +kernel) (bI_nar _) (bI_fits _) (Nat.le_of_ble_eq_true rfl) rfl (Or.inl rfl) hw hd kk
theorem Va_c_pbytes {Z : Cx} {own : String} {cc : ByteArray} {rt : Option FieldType} {lv : List (Nat × Value)} {pc : Nat} {st : List Value} {a : Nat → Nat} {σ : St} (X : XC Z own cc rt) {i : Nat} {x : Nat} (hi : i < 6000) (hd : decode cc pc = .ok (.baload, 1)) (e : gA σ 12 i = x) (kk : V Z (cw (zG Z) a σ) lv (pc + 1) (.int (b8 x) :: st)) : V Z (cw (zG Z) a σ) lv pc (.int (nI i) :: .ref (a 8) :: st) := by subst e; exact V.bald X 8 rfl (vp_in_nI hi (by decide)) hd (by rw [nI_clamp (by omega)]; exact kk)
theorem Vs_c_pbytes {Z : Cx} {own : String} {cc : ByteArray} {rt : Option FieldType} {lv : List (Nat × Value)} {pc : Nat} {st : List Value} {a : Nat → Nat} {σ : St} (X : XC Z own cc rt) {i : Nat} {x : Nat} (hi : i < 6000) (hd : decode cc pc = .ok (.bastore, 1)) (kk : V Z (cw (zG Z) a (sA σ 12 (va_up (gA σ 12) i x))) lv (pc + 1) st) : V Z (cw (zG Z) a σ) lv pc (.int (b8 x) :: .int (nI i) :: .ref (a 8) :: st) := V.bast X 8 rfl (vp_in_nI hi (by decide)) (by rw [nI_clamp (by omega), upY]; rfl) hd kk
theorem Vg_c_9_bytes {Z : Cx} {own : String} {cc : ByteArray} {rt : Option FieldType} {lv : List (Nat × Value)} {pc : Nat} {st : List Value} {a : Nat → Nat} {σ : St} (X : XC Z own cc rt) {index : Nat} (hw : Cond.fieldLink own index "NestedDeeds$Paper" "bytes" "[B" ∈ tb) (hd : decode cc pc = .ok (.getfield index, 3)) (kk : V Z (cw (zG Z) a σ) lv (pc + 3) (.ref (a 10) :: st)) : V Z (cw (zG Z) a σ) lv pc (.ref (a 9) :: st) := V.get X inX5 9 rfl rfl 0 (by decide) rfl (Or.inl rfl) hw hd kk
theorem Vg_c_9_length {Z : Cx} {own : String} {cc : ByteArray} {rt : Option FieldType} {lv : List (Nat × Value)} {pc : Nat} {st : List Value} {a : Nat → Nat} {σ : St} (X : XC Z own cc rt) {index : Nat} {x : Nat} (hw : Cond.fieldLink own index "NestedDeeds$Paper" "length" "I" ∈ tb) (hd : decode cc pc = .ok (.getfield index, 3)) (e : gN σ 3 = x) (kk : V Z (cw (zG Z) a σ) lv (pc + 3) (.int (nI x) :: st)) : V Z (cw (zG Z) a σ) lv pc (.ref (a 9) :: st) := by subst e; exact V.get X inX5 9 rfl rfl 1 (by decide) rfl (Or.inl rfl) hw hd kk
theorem Vp_c_9_length {Z : Cx} {own : String} {cc : ByteArray} {rt : Option FieldType} {lv : List (Nat × Value)} {pc : Nat} {st : List Value} {a : Nat → Nat} {σ : St} (X : XC Z own cc rt) {index : Nat} {x : Nat} (hw : Cond.fieldLink own index "NestedDeeds$Paper" "length" "I" ∈ tb) (hd : decode cc pc = .ok (.putfield index, 3)) (kk : V Z (cw (zG Z) a (sN σ 3 x)) lv (pc + 3) st) : V Z (cw (zG Z) a σ) lv pc (.int (nI x) :: .ref (a 9) :: st) := V.put X (ty := .int) tyX5 tyX5_ok nmX5 inX5 9 rfl rfl 1 (by decide) rfl (by decide +kernel) rfl rfl (Nat.le_of_ble_eq_true rfl) rfl (Or.inl rfl) hw hd kk
theorem Vg_c_9_overfull {Z : Cx} {own : String} {cc : ByteArray} {rt : Option FieldType} {lv : List (Nat × Value)} {pc : Nat} {st : List Value} {a : Nat → Nat} {σ : St} (X : XC Z own cc rt) {index : Nat} {x : Bool} (hw : Cond.fieldLink own index "NestedDeeds$Paper" "overfull" "Z" ∈ tb) (hd : decode cc pc = .ok (.getfield index, 3)) (e : gB σ 1 = x) (kk : V Z (cw (zG Z) a σ) lv (pc + 3) (.int (bI x) :: st)) : V Z (cw (zG Z) a σ) lv pc (.ref (a 9) :: st) := by subst e; exact V.get X inX5 9 rfl rfl 2 (by decide) rfl (Or.inl rfl) hw hd kk
theorem Vp_c_9_overfull {Z : Cx} {own : String} {cc : ByteArray} {rt : Option FieldType} {lv : List (Nat × Value)} {pc : Nat} {st : List Value} {a : Nat → Nat} {σ : St} (X : XC Z own cc rt) {index : Nat} {x : Bool} (hw : Cond.fieldLink own index "NestedDeeds$Paper" "overfull" "Z" ∈ tb) (hd : decode cc pc = .ok (.putfield index, 3)) (kk : V Z (cw (zG Z) a (sB σ 1 x)) lv (pc + 3) st) : V Z (cw (zG Z) a σ) lv pc (.int (bI x) :: .ref (a 9) :: st) := V.put X (ty := .boolean) tyX5 tyX5_ok nmX5 inX5 9 rfl rfl 2 (by decide) rfl (by decide +kernel) (bI_nar _) (bI_fits _) (Nat.le_of_ble_eq_true rfl) rfl (Or.inl rfl) hw hd kk
theorem Va_c_dbytes {Z : Cx} {own : String} {cc : ByteArray} {rt : Option FieldType} {lv : List (Nat × Value)} {pc : Nat} {st : List Value} {a : Nat → Nat} {σ : St} (X : XC Z own cc rt) {i : Nat} {x : Nat} (hi : i < 6000) (hd : decode cc pc = .ok (.baload, 1)) (e : gA σ 13 i = x) (kk : V Z (cw (zG Z) a σ) lv (pc + 1) (.int (b8 x) :: st)) : V Z (cw (zG Z) a σ) lv pc (.int (nI i) :: .ref (a 10) :: st) := by subst e; exact V.bald X 10 rfl (vp_in_nI hi (by decide)) hd (by rw [nI_clamp (by omega)]; exact kk)
theorem Vs_c_dbytes {Z : Cx} {own : String} {cc : ByteArray} {rt : Option FieldType} {lv : List (Nat × Value)} {pc : Nat} {st : List Value} {a : Nat → Nat} {σ : St} (X : XC Z own cc rt) {i : Nat} {x : Nat} (hi : i < 6000) (hd : decode cc pc = .ok (.bastore, 1)) (kk : V Z (cw (zG Z) a (sA σ 13 (va_up (gA σ 13) i x))) lv (pc + 1) st) : V Z (cw (zG Z) a σ) lv pc (.int (b8 x) :: .int (nI i) :: .ref (a 10) :: st) := V.bast X 10 rfl (vp_in_nI hi (by decide)) (by rw [nI_clamp (by omega), upY]; rfl) hd kk
theorem Vg_c_11_deeds {Z : Cx} {own : String} {cc : ByteArray} {rt : Option FieldType} {lv : List (Nat × Value)} {pc : Nat} {st : List Value} {a : Nat → Nat} {σ : St} (X : XC Z own cc rt) {index : Nat} (hw : Cond.fieldLink own index "NestedDeeds$Reader" "deeds" "LNestedDeeds$Deeds;" ∈ tb) (hd : decode cc pc = .ok (.getfield index, 3)) (kk : V Z (cw (zG Z) a σ) lv (pc + 3) (.ref (a 1) :: st)) : V Z (cw (zG Z) a σ) lv pc (.ref (a 11) :: st) := V.get X inX6 11 rfl rfl 0 (by decide) rfl (Or.inl rfl) hw hd kk
theorem Vg_c_11_paper {Z : Cx} {own : String} {cc : ByteArray} {rt : Option FieldType} {lv : List (Nat × Value)} {pc : Nat} {st : List Value} {a : Nat → Nat} {σ : St} (X : XC Z own cc rt) {index : Nat} (hw : Cond.fieldLink own index "NestedDeeds$Reader" "paper" "LNestedDeeds$Paper;" ∈ tb) (hd : decode cc pc = .ok (.getfield index, 3)) (kk : V Z (cw (zG Z) a σ) lv (pc + 3) (.ref (a 7) :: st)) : V Z (cw (zG Z) a σ) lv pc (.ref (a 11) :: st) := V.get X inX6 11 rfl rfl 1 (by decide) rfl (Or.inl rfl) hw hd kk
theorem Vg_c_11_openKind {Z : Cx} {own : String} {cc : ByteArray} {rt : Option FieldType} {lv : List (Nat × Value)} {pc : Nat} {st : List Value} {a : Nat → Nat} {σ : St} (X : XC Z own cc rt) {index : Nat} (hw : Cond.fieldLink own index "NestedDeeds$Reader" "openKind" "[I" ∈ tb) (hd : decode cc pc = .ok (.getfield index, 3)) (kk : V Z (cw (zG Z) a σ) lv (pc + 3) (.ref (a 12) :: st)) : V Z (cw (zG Z) a σ) lv pc (.ref (a 11) :: st) := V.get X inX6 11 rfl rfl 2 (by decide) rfl (Or.inl rfl) hw hd kk
theorem Vg_c_11_openNumber {Z : Cx} {own : String} {cc : ByteArray} {rt : Option FieldType} {lv : List (Nat × Value)} {pc : Nat} {st : List Value} {a : Nat → Nat} {σ : St} (X : XC Z own cc rt) {index : Nat} (hw : Cond.fieldLink own index "NestedDeeds$Reader" "openNumber" "[I" ∈ tb) (hd : decode cc pc = .ok (.getfield index, 3)) (kk : V Z (cw (zG Z) a σ) lv (pc + 3) (.ref (a 13) :: st)) : V Z (cw (zG Z) a σ) lv pc (.ref (a 11) :: st) := V.get X inX6 11 rfl rfl 3 (by decide) rfl (Or.inl rfl) hw hd kk
theorem Vg_c_11_openParts {Z : Cx} {own : String} {cc : ByteArray} {rt : Option FieldType} {lv : List (Nat × Value)} {pc : Nat} {st : List Value} {a : Nat → Nat} {σ : St} (X : XC Z own cc rt) {index : Nat} (hw : Cond.fieldLink own index "NestedDeeds$Reader" "openParts" "[I" ∈ tb) (hd : decode cc pc = .ok (.getfield index, 3)) (kk : V Z (cw (zG Z) a σ) lv (pc + 3) (.ref (a 14) :: st)) : V Z (cw (zG Z) a σ) lv pc (.ref (a 11) :: st) := V.get X inX6 11 rfl rfl 4 (by decide) rfl (Or.inl rfl) hw hd kk
theorem Vg_c_11_open {Z : Cx} {own : String} {cc : ByteArray} {rt : Option FieldType} {lv : List (Nat × Value)} {pc : Nat} {st : List Value} {a : Nat → Nat} {σ : St} (X : XC Z own cc rt) {index : Nat} {x : Nat} (hw : Cond.fieldLink own index "NestedDeeds$Reader" "open" "I" ∈ tb) (hd : decode cc pc = .ok (.getfield index, 3)) (e : gN σ 4 = x) (kk : V Z (cw (zG Z) a σ) lv (pc + 3) (.int (nI x) :: st)) : V Z (cw (zG Z) a σ) lv pc (.ref (a 11) :: st) := by subst e; exact V.get X inX6 11 rfl rfl 5 (by decide) rfl (Or.inl rfl) hw hd kk
theorem Vp_c_11_open {Z : Cx} {own : String} {cc : ByteArray} {rt : Option FieldType} {lv : List (Nat × Value)} {pc : Nat} {st : List Value} {a : Nat → Nat} {σ : St} (X : XC Z own cc rt) {index : Nat} {x : Nat} (hw : Cond.fieldLink own index "NestedDeeds$Reader" "open" "I" ∈ tb) (hd : decode cc pc = .ok (.putfield index, 3)) (kk : V Z (cw (zG Z) a (sN σ 4 x)) lv (pc + 3) st) : V Z (cw (zG Z) a σ) lv pc (.int (nI x) :: .ref (a 11) :: st) := V.put X (ty := .int) tyX6 tyX6_ok nmX6 inX6 11 rfl rfl 5 (by decide) rfl (by decide +kernel) rfl rfl (Nat.le_of_ble_eq_true rfl) rfl (Or.inl rfl) hw hd kk
theorem Vg_c_11_at {Z : Cx} {own : String} {cc : ByteArray} {rt : Option FieldType} {lv : List (Nat × Value)} {pc : Nat} {st : List Value} {a : Nat → Nat} {σ : St} (X : XC Z own cc rt) {index : Nat} {x : Nat} (hw : Cond.fieldLink own index "NestedDeeds$Reader" "at" "I" ∈ tb) (hd : decode cc pc = .ok (.getfield index, 3)) (e : gN σ 5 = x) (kk : V Z (cw (zG Z) a σ) lv (pc + 3) (.int (nI x) :: st)) : V Z (cw (zG Z) a σ) lv pc (.ref (a 11) :: st) := by subst e; exact V.get X inX6 11 rfl rfl 6 (by decide) rfl (Or.inl rfl) hw hd kk
theorem Vp_c_11_at {Z : Cx} {own : String} {cc : ByteArray} {rt : Option FieldType} {lv : List (Nat × Value)} {pc : Nat} {st : List Value} {a : Nat → Nat} {σ : St} (X : XC Z own cc rt) {index : Nat} {x : Nat} (hw : Cond.fieldLink own index "NestedDeeds$Reader" "at" "I" ∈ tb) (hd : decode cc pc = .ok (.putfield index, 3)) (kk : V Z (cw (zG Z) a (sN σ 5 x)) lv (pc + 3) st) : V Z (cw (zG Z) a σ) lv pc (.int (nI x) :: .ref (a 11) :: st) := V.put X (ty := .int) tyX6 tyX6_ok nmX6 inX6 11 rfl rfl 6 (by decide) rfl (by decide +kernel) rfl rfl (Nat.le_of_ble_eq_true rfl) rfl (Or.inl rfl) hw hd kk
theorem Vg_c_11_kind {Z : Cx} {own : String} {cc : ByteArray} {rt : Option FieldType} {lv : List (Nat × Value)} {pc : Nat} {st : List Value} {a : Nat → Nat} {σ : St} (X : XC Z own cc rt) {index : Nat} {x : Int32} (hw : Cond.fieldLink own index "NestedDeeds$Reader" "kind" "I" ∈ tb) (hd : decode cc pc = .ok (.getfield index, 3)) (e : gI σ 0 = x) (kk : V Z (cw (zG Z) a σ) lv (pc + 3) (.int (x) :: st)) : V Z (cw (zG Z) a σ) lv pc (.ref (a 11) :: st) := by subst e; exact V.get X inX6 11 rfl rfl 7 (by decide) rfl (Or.inl rfl) hw hd kk
theorem Vp_c_11_kind {Z : Cx} {own : String} {cc : ByteArray} {rt : Option FieldType} {lv : List (Nat × Value)} {pc : Nat} {st : List Value} {a : Nat → Nat} {σ : St} (X : XC Z own cc rt) {index : Nat} {x : Int32} (hw : Cond.fieldLink own index "NestedDeeds$Reader" "kind" "I" ∈ tb) (hd : decode cc pc = .ok (.putfield index, 3)) (kk : V Z (cw (zG Z) a (sI σ 0 x)) lv (pc + 3) st) : V Z (cw (zG Z) a σ) lv pc (.int (x) :: .ref (a 11) :: st) := V.put X (ty := .int) tyX6 tyX6_ok nmX6 inX6 11 rfl rfl 7 (by decide) rfl (by decide +kernel) rfl rfl (Nat.le_of_ble_eq_true rfl) rfl (Or.inl rfl) hw hd kk
theorem Vg_c_11_number {Z : Cx} {own : String} {cc : ByteArray} {rt : Option FieldType} {lv : List (Nat × Value)} {pc : Nat} {st : List Value} {a : Nat → Nat} {σ : St} (X : XC Z own cc rt) {index : Nat} {x : Int32} (hw : Cond.fieldLink own index "NestedDeeds$Reader" "number" "I" ∈ tb) (hd : decode cc pc = .ok (.getfield index, 3)) (e : gI σ 1 = x) (kk : V Z (cw (zG Z) a σ) lv (pc + 3) (.int (x) :: st)) : V Z (cw (zG Z) a σ) lv pc (.ref (a 11) :: st) := by subst e; exact V.get X inX6 11 rfl rfl 8 (by decide) rfl (Or.inl rfl) hw hd kk
theorem Vp_c_11_number {Z : Cx} {own : String} {cc : ByteArray} {rt : Option FieldType} {lv : List (Nat × Value)} {pc : Nat} {st : List Value} {a : Nat → Nat} {σ : St} (X : XC Z own cc rt) {index : Nat} {x : Int32} (hw : Cond.fieldLink own index "NestedDeeds$Reader" "number" "I" ∈ tb) (hd : decode cc pc = .ok (.putfield index, 3)) (kk : V Z (cw (zG Z) a (sI σ 1 x)) lv (pc + 3) st) : V Z (cw (zG Z) a σ) lv pc (.int (x) :: .ref (a 11) :: st) := V.put X (ty := .int) tyX6 tyX6_ok nmX6 inX6 11 rfl rfl 8 (by decide) rfl (by decide +kernel) rfl rfl (Nat.le_of_ble_eq_true rfl) rfl (Or.inl rfl) hw hd kk
theorem Vg_c_11_making {Z : Cx} {own : String} {cc : ByteArray} {rt : Option FieldType} {lv : List (Nat × Value)} {pc : Nat} {st : List Value} {a : Nat → Nat} {σ : St} (X : XC Z own cc rt) {index : Nat} {x : Bool} (hw : Cond.fieldLink own index "NestedDeeds$Reader" "making" "Z" ∈ tb) (hd : decode cc pc = .ok (.getfield index, 3)) (e : gB σ 2 = x) (kk : V Z (cw (zG Z) a σ) lv (pc + 3) (.int (bI x) :: st)) : V Z (cw (zG Z) a σ) lv pc (.ref (a 11) :: st) := by subst e; exact V.get X inX6 11 rfl rfl 9 (by decide) rfl (Or.inl rfl) hw hd kk
theorem Vp_c_11_making {Z : Cx} {own : String} {cc : ByteArray} {rt : Option FieldType} {lv : List (Nat × Value)} {pc : Nat} {st : List Value} {a : Nat → Nat} {σ : St} (X : XC Z own cc rt) {index : Nat} {x : Bool} (hw : Cond.fieldLink own index "NestedDeeds$Reader" "making" "Z" ∈ tb) (hd : decode cc pc = .ok (.putfield index, 3)) (kk : V Z (cw (zG Z) a (sB σ 2 x)) lv (pc + 3) st) : V Z (cw (zG Z) a σ) lv pc (.int (bI x) :: .ref (a 11) :: st) := V.put X (ty := .boolean) tyX6 tyX6_ok nmX6 inX6 11 rfl rfl 9 (by decide) rfl (by decide +kernel) (bI_nar _) (bI_fits _) (Nat.le_of_ble_eq_true rfl) rfl (Or.inl rfl) hw hd kk
theorem Vg_c_11_whole {Z : Cx} {own : String} {cc : ByteArray} {rt : Option FieldType} {lv : List (Nat × Value)} {pc : Nat} {st : List Value} {a : Nat → Nat} {σ : St} (X : XC Z own cc rt) {index : Nat} {x : Nat} (hw : Cond.fieldLink own index "NestedDeeds$Reader" "whole" "I" ∈ tb) (hd : decode cc pc = .ok (.getfield index, 3)) (e : gN σ 6 = x) (kk : V Z (cw (zG Z) a σ) lv (pc + 3) (.int (nI x) :: st)) : V Z (cw (zG Z) a σ) lv pc (.ref (a 11) :: st) := by subst e; exact V.get X inX6 11 rfl rfl 10 (by decide) rfl (Or.inl rfl) hw hd kk
theorem Vp_c_11_whole {Z : Cx} {own : String} {cc : ByteArray} {rt : Option FieldType} {lv : List (Nat × Value)} {pc : Nat} {st : List Value} {a : Nat → Nat} {σ : St} (X : XC Z own cc rt) {index : Nat} {x : Nat} (hw : Cond.fieldLink own index "NestedDeeds$Reader" "whole" "I" ∈ tb) (hd : decode cc pc = .ok (.putfield index, 3)) (kk : V Z (cw (zG Z) a (sN σ 6 x)) lv (pc + 3) st) : V Z (cw (zG Z) a σ) lv pc (.int (nI x) :: .ref (a 11) :: st) := V.put X (ty := .int) tyX6 tyX6_ok nmX6 inX6 11 rfl rfl 10 (by decide) rfl (by decide +kernel) rfl rfl (Nat.le_of_ble_eq_true rfl) rfl (Or.inl rfl) hw hd kk
theorem Va_c_openKind {Z : Cx} {own : String} {cc : ByteArray} {rt : Option FieldType} {lv : List (Nat × Value)} {pc : Nat} {st : List Value} {a : Nat → Nat} {σ : St} (X : XC Z own cc rt) {i : Nat} {x : Nat} (hi : i < 2001) (hd : decode cc pc = .ok (.iaload, 1)) (e : gA σ 4 i = x) (kk : V Z (cw (zG Z) a σ) lv (pc + 1) (.int (nI x) :: st)) : V Z (cw (zG Z) a σ) lv pc (.int (nI i) :: .ref (a 12) :: st) := by subst e; exact V.iald X 12 rfl (vp_in_nI hi (by decide)) hd (by rw [nI_clamp (by omega)]; exact kk)
theorem Vs_c_openKind {Z : Cx} {own : String} {cc : ByteArray} {rt : Option FieldType} {lv : List (Nat × Value)} {pc : Nat} {st : List Value} {a : Nat → Nat} {σ : St} (X : XC Z own cc rt) {i : Nat} {x : Nat} (hi : i < 2001) (hd : decode cc pc = .ok (.iastore, 1)) (kk : V Z (cw (zG Z) a (sA σ 4 (va_up (gA σ 4) i x))) lv (pc + 1) st) : V Z (cw (zG Z) a σ) lv pc (.int (nI x) :: .int (nI i) :: .ref (a 12) :: st) := V.iast X 12 rfl (vp_in_nI hi (by decide)) (by rw [nI_clamp (by omega), upN]; rfl) hd kk
theorem Va_c_openNumber {Z : Cx} {own : String} {cc : ByteArray} {rt : Option FieldType} {lv : List (Nat × Value)} {pc : Nat} {st : List Value} {a : Nat → Nat} {σ : St} (X : XC Z own cc rt) {i : Nat} {x : Int32} (hi : i < 2001) (hd : decode cc pc = .ok (.iaload, 1)) (e : gJ σ 1 i = x) (kk : V Z (cw (zG Z) a σ) lv (pc + 1) (.int x :: st)) : V Z (cw (zG Z) a σ) lv pc (.int (nI i) :: .ref (a 13) :: st) := by subst e; exact V.iald X 13 rfl (vp_in_nI hi (by decide)) hd (by rw [nI_clamp (by omega)]; exact kk)
theorem Vs_c_openNumber {Z : Cx} {own : String} {cc : ByteArray} {rt : Option FieldType} {lv : List (Nat × Value)} {pc : Nat} {st : List Value} {a : Nat → Nat} {σ : St} (X : XC Z own cc rt) {i : Nat} {x : Int32} (hi : i < 2001) (hd : decode cc pc = .ok (.iastore, 1)) (kk : V Z (cw (zG Z) a (sJ σ 1 (va_up (gJ σ 1) i x))) lv (pc + 1) st) : V Z (cw (zG Z) a σ) lv pc (.int x :: .int (nI i) :: .ref (a 13) :: st) := V.iast X 13 rfl (vp_in_nI hi (by decide)) (by rw [nI_clamp (by omega)]; rfl) hd kk
theorem Va_c_openParts {Z : Cx} {own : String} {cc : ByteArray} {rt : Option FieldType} {lv : List (Nat × Value)} {pc : Nat} {st : List Value} {a : Nat → Nat} {σ : St} (X : XC Z own cc rt) {i : Nat} {x : Nat} (hi : i < 2001) (hd : decode cc pc = .ok (.iaload, 1)) (e : gA σ 5 i = x) (kk : V Z (cw (zG Z) a σ) lv (pc + 1) (.int (nI x) :: st)) : V Z (cw (zG Z) a σ) lv pc (.int (nI i) :: .ref (a 14) :: st) := by subst e; exact V.iald X 14 rfl (vp_in_nI hi (by decide)) hd (by rw [nI_clamp (by omega)]; exact kk)
theorem Vs_c_openParts {Z : Cx} {own : String} {cc : ByteArray} {rt : Option FieldType} {lv : List (Nat × Value)} {pc : Nat} {st : List Value} {a : Nat → Nat} {σ : St} (X : XC Z own cc rt) {i : Nat} {x : Nat} (hi : i < 2001) (hd : decode cc pc = .ok (.iastore, 1)) (kk : V Z (cw (zG Z) a (sA σ 5 (va_up (gA σ 5) i x))) lv (pc + 1) st) : V Z (cw (zG Z) a σ) lv pc (.int (nI x) :: .int (nI i) :: .ref (a 14) :: st) := V.iast X 14 rfl (vp_in_nI hi (by decide)) (by rw [nI_clamp (by omega), upN]; rfl) hd kk
theorem Vg_c_15_deeds {Z : Cx} {own : String} {cc : ByteArray} {rt : Option FieldType} {lv : List (Nat × Value)} {pc : Nat} {st : List Value} {a : Nat → Nat} {σ : St} (X : XC Z own cc rt) {index : Nat} (hw : Cond.fieldLink own index "NestedDeeds$Walker" "deeds" "LNestedDeeds$Deeds;" ∈ tb) (hd : decode cc pc = .ok (.getfield index, 3)) (kk : V Z (cw (zG Z) a σ) lv (pc + 3) (.ref (a 1) :: st)) : V Z (cw (zG Z) a σ) lv pc (.ref (a 15) :: st) := V.get X inX8 15 rfl rfl 0 (by decide) rfl (Or.inl rfl) hw hd kk
theorem Vg_c_15_deedAt {Z : Cx} {own : String} {cc : ByteArray} {rt : Option FieldType} {lv : List (Nat × Value)} {pc : Nat} {st : List Value} {a : Nat → Nat} {σ : St} (X : XC Z own cc rt) {index : Nat} (hw : Cond.fieldLink own index "NestedDeeds$Walker" "deedAt" "[I" ∈ tb) (hd : decode cc pc = .ok (.getfield index, 3)) (kk : V Z (cw (zG Z) a σ) lv (pc + 3) (.ref (a 16) :: st)) : V Z (cw (zG Z) a σ) lv pc (.ref (a 15) :: st) := V.get X inX8 15 rfl rfl 1 (by decide) rfl (Or.inl rfl) hw hd kk
theorem Vg_c_15_turnAt {Z : Cx} {own : String} {cc : ByteArray} {rt : Option FieldType} {lv : List (Nat × Value)} {pc : Nat} {st : List Value} {a : Nat → Nat} {σ : St} (X : XC Z own cc rt) {index : Nat} (hw : Cond.fieldLink own index "NestedDeeds$Walker" "turnAt" "[I" ∈ tb) (hd : decode cc pc = .ok (.getfield index, 3)) (kk : V Z (cw (zG Z) a σ) lv (pc + 3) (.ref (a 17) :: st)) : V Z (cw (zG Z) a σ) lv pc (.ref (a 15) :: st) := V.get X inX8 15 rfl rfl 2 (by decide) rfl (Or.inl rfl) hw hd kk
theorem Vg_c_15_width {Z : Cx} {own : String} {cc : ByteArray} {rt : Option FieldType} {lv : List (Nat × Value)} {pc : Nat} {st : List Value} {a : Nat → Nat} {σ : St} (X : XC Z own cc rt) {index : Nat} (hw : Cond.fieldLink own index "NestedDeeds$Walker" "width" "[I" ∈ tb) (hd : decode cc pc = .ok (.getfield index, 3)) (kk : V Z (cw (zG Z) a σ) lv (pc + 3) (.ref (a 18) :: st)) : V Z (cw (zG Z) a σ) lv pc (.ref (a 15) :: st) := V.get X inX8 15 rfl rfl 3 (by decide) rfl (Or.inl rfl) hw hd kk
theorem Vg_c_15_way {Z : Cx} {own : String} {cc : ByteArray} {rt : Option FieldType} {lv : List (Nat × Value)} {pc : Nat} {st : List Value} {a : Nat → Nat} {σ : St} (X : XC Z own cc rt) {index : Nat} {x : Nat} (hw : Cond.fieldLink own index "NestedDeeds$Walker" "way" "I" ∈ tb) (hd : decode cc pc = .ok (.getfield index, 3)) (e : gN σ 7 = x) (kk : V Z (cw (zG Z) a σ) lv (pc + 3) (.int (nI x) :: st)) : V Z (cw (zG Z) a σ) lv pc (.ref (a 15) :: st) := by subst e; exact V.get X inX8 15 rfl rfl 4 (by decide) rfl (Or.inl rfl) hw hd kk
theorem Vp_c_15_way {Z : Cx} {own : String} {cc : ByteArray} {rt : Option FieldType} {lv : List (Nat × Value)} {pc : Nat} {st : List Value} {a : Nat → Nat} {σ : St} (X : XC Z own cc rt) {index : Nat} {x : Nat} (hw : Cond.fieldLink own index "NestedDeeds$Walker" "way" "I" ∈ tb) (hd : decode cc pc = .ok (.putfield index, 3)) (kk : V Z (cw (zG Z) a (sN σ 7 x)) lv (pc + 3) st) : V Z (cw (zG Z) a σ) lv pc (.int (nI x) :: .ref (a 15) :: st) := V.put X (ty := .int) tyX8 tyX8_ok nmX8 inX8 15 rfl rfl 4 (by decide) rfl (by decide +kernel) rfl rfl (Nat.le_of_ble_eq_true rfl) rfl (Or.inl rfl) hw hd kk
theorem Vg_c_15_meter {Z : Cx} {own : String} {cc : ByteArray} {rt : Option FieldType} {lv : List (Nat × Value)} {pc : Nat} {st : List Value} {a : Nat → Nat} {σ : St} (X : XC Z own cc rt) {index : Nat} {x : Nat} (hw : Cond.fieldLink own index "NestedDeeds$Walker" "meter" "I" ∈ tb) (hd : decode cc pc = .ok (.getfield index, 3)) (e : gN σ 8 = x) (kk : V Z (cw (zG Z) a σ) lv (pc + 3) (.int (nI x) :: st)) : V Z (cw (zG Z) a σ) lv pc (.ref (a 15) :: st) := by subst e; exact V.get X inX8 15 rfl rfl 5 (by decide) rfl (Or.inl rfl) hw hd kk
theorem Vp_c_15_meter {Z : Cx} {own : String} {cc : ByteArray} {rt : Option FieldType} {lv : List (Nat × Value)} {pc : Nat} {st : List Value} {a : Nat → Nat} {σ : St} (X : XC Z own cc rt) {index : Nat} {x : Nat} (hw : Cond.fieldLink own index "NestedDeeds$Walker" "meter" "I" ∈ tb) (hd : decode cc pc = .ok (.putfield index, 3)) (kk : V Z (cw (zG Z) a (sN σ 8 x)) lv (pc + 3) st) : V Z (cw (zG Z) a σ) lv pc (.int (nI x) :: .ref (a 15) :: st) := V.put X (ty := .int) tyX8 tyX8_ok nmX8 inX8 15 rfl rfl 5 (by decide) rfl (by decide +kernel) rfl rfl (Nat.le_of_ble_eq_true rfl) rfl (Or.inl rfl) hw hd kk
theorem Vg_c_15_outcome {Z : Cx} {own : String} {cc : ByteArray} {rt : Option FieldType} {lv : List (Nat × Value)} {pc : Nat} {st : List Value} {a : Nat → Nat} {σ : St} (X : XC Z own cc rt) {index : Nat} {x : Int32} (hw : Cond.fieldLink own index "NestedDeeds$Walker" "outcome" "I" ∈ tb) (hd : decode cc pc = .ok (.getfield index, 3)) (e : gI σ 2 = x) (kk : V Z (cw (zG Z) a σ) lv (pc + 3) (.int (x) :: st)) : V Z (cw (zG Z) a σ) lv pc (.ref (a 15) :: st) := by subst e; exact V.get X inX8 15 rfl rfl 6 (by decide) rfl (Or.inl rfl) hw hd kk
theorem Vp_c_15_outcome {Z : Cx} {own : String} {cc : ByteArray} {rt : Option FieldType} {lv : List (Nat × Value)} {pc : Nat} {st : List Value} {a : Nat → Nat} {σ : St} (X : XC Z own cc rt) {index : Nat} {x : Int32} (hw : Cond.fieldLink own index "NestedDeeds$Walker" "outcome" "I" ∈ tb) (hd : decode cc pc = .ok (.putfield index, 3)) (kk : V Z (cw (zG Z) a (sI σ 2 x)) lv (pc + 3) st) : V Z (cw (zG Z) a σ) lv pc (.int (x) :: .ref (a 15) :: st) := V.put X (ty := .int) tyX8 tyX8_ok nmX8 inX8 15 rfl rfl 6 (by decide) rfl (by decide +kernel) rfl rfl (Nat.le_of_ble_eq_true rfl) rfl (Or.inl rfl) hw hd kk
theorem Vg_c_15_visited {Z : Cx} {own : String} {cc : ByteArray} {rt : Option FieldType} {lv : List (Nat × Value)} {pc : Nat} {st : List Value} {a : Nat → Nat} {σ : St} (X : XC Z own cc rt) {index : Nat} {x : Nat} (hw : Cond.fieldLink own index "NestedDeeds$Walker" "visited" "I" ∈ tb) (hd : decode cc pc = .ok (.getfield index, 3)) (e : gN σ 9 = x) (kk : V Z (cw (zG Z) a σ) lv (pc + 3) (.int (nI x) :: st)) : V Z (cw (zG Z) a σ) lv pc (.ref (a 15) :: st) := by subst e; exact V.get X inX8 15 rfl rfl 7 (by decide) rfl (Or.inl rfl) hw hd kk
theorem Vp_c_15_visited {Z : Cx} {own : String} {cc : ByteArray} {rt : Option FieldType} {lv : List (Nat × Value)} {pc : Nat} {st : List Value} {a : Nat → Nat} {σ : St} (X : XC Z own cc rt) {index : Nat} {x : Nat} (hw : Cond.fieldLink own index "NestedDeeds$Walker" "visited" "I" ∈ tb) (hd : decode cc pc = .ok (.putfield index, 3)) (kk : V Z (cw (zG Z) a (sN σ 9 x)) lv (pc + 3) st) : V Z (cw (zG Z) a σ) lv pc (.int (nI x) :: .ref (a 15) :: st) := V.put X (ty := .int) tyX8 tyX8_ok nmX8 inX8 15 rfl rfl 7 (by decide) rfl (by decide +kernel) rfl rfl (Nat.le_of_ble_eq_true rfl) rfl (Or.inl rfl) hw hd kk
theorem Vg_c_15_deepest {Z : Cx} {own : String} {cc : ByteArray} {rt : Option FieldType} {lv : List (Nat × Value)} {pc : Nat} {st : List Value} {a : Nat → Nat} {σ : St} (X : XC Z own cc rt) {index : Nat} {x : Nat} (hw : Cond.fieldLink own index "NestedDeeds$Walker" "deepest" "I" ∈ tb) (hd : decode cc pc = .ok (.getfield index, 3)) (e : gN σ 10 = x) (kk : V Z (cw (zG Z) a σ) lv (pc + 3) (.int (nI x) :: st)) : V Z (cw (zG Z) a σ) lv pc (.ref (a 15) :: st) := by subst e; exact V.get X inX8 15 rfl rfl 8 (by decide) rfl (Or.inl rfl) hw hd kk
theorem Vp_c_15_deepest {Z : Cx} {own : String} {cc : ByteArray} {rt : Option FieldType} {lv : List (Nat × Value)} {pc : Nat} {st : List Value} {a : Nat → Nat} {σ : St} (X : XC Z own cc rt) {index : Nat} {x : Nat} (hw : Cond.fieldLink own index "NestedDeeds$Walker" "deepest" "I" ∈ tb) (hd : decode cc pc = .ok (.putfield index, 3)) (kk : V Z (cw (zG Z) a (sN σ 10 x)) lv (pc + 3) st) : V Z (cw (zG Z) a σ) lv pc (.int (nI x) :: .ref (a 15) :: st) := V.put X (ty := .int) tyX8 tyX8_ok nmX8 inX8 15 rfl rfl 8 (by decide) rfl (by decide +kernel) rfl rfl (Nat.le_of_ble_eq_true rfl) rfl (Or.inl rfl) hw hd kk
theorem Vg_c_15_calls {Z : Cx} {own : String} {cc : ByteArray} {rt : Option FieldType} {lv : List (Nat × Value)} {pc : Nat} {st : List Value} {a : Nat → Nat} {σ : St} (X : XC Z own cc rt) {index : Nat} {x : Nat} (hw : Cond.fieldLink own index "NestedDeeds$Walker" "calls" "I" ∈ tb) (hd : decode cc pc = .ok (.getfield index, 3)) (e : gN σ 11 = x) (kk : V Z (cw (zG Z) a σ) lv (pc + 3) (.int (nI x) :: st)) : V Z (cw (zG Z) a σ) lv pc (.ref (a 15) :: st) := by subst e; exact V.get X inX8 15 rfl rfl 9 (by decide) rfl (Or.inl rfl) hw hd kk
theorem Vp_c_15_calls {Z : Cx} {own : String} {cc : ByteArray} {rt : Option FieldType} {lv : List (Nat × Value)} {pc : Nat} {st : List Value} {a : Nat → Nat} {σ : St} (X : XC Z own cc rt) {index : Nat} {x : Nat} (hw : Cond.fieldLink own index "NestedDeeds$Walker" "calls" "I" ∈ tb) (hd : decode cc pc = .ok (.putfield index, 3)) (kk : V Z (cw (zG Z) a (sN σ 11 x)) lv (pc + 3) st) : V Z (cw (zG Z) a σ) lv pc (.int (nI x) :: .ref (a 15) :: st) := V.put X (ty := .int) tyX8 tyX8_ok nmX8 inX8 15 rfl rfl 9 (by decide) rfl (by decide +kernel) rfl rfl (Nat.le_of_ble_eq_true rfl) rfl (Or.inl rfl) hw hd kk
theorem Vg_c_15_task {Z : Cx} {own : String} {cc : ByteArray} {rt : Option FieldType} {lv : List (Nat × Value)} {pc : Nat} {st : List Value} {a : Nat → Nat} {σ : St} (X : XC Z own cc rt) {index : Nat} {x : Nat} (hw : Cond.fieldLink own index "NestedDeeds$Walker" "task" "LNestedDeeds$Task;" ∈ tb) (hd : decode cc pc = .ok (.getfield index, 3)) (e : gN σ 12 = x) (kk : V Z (cw (zG Z) a σ) lv (pc + 3) (.ref (a x) :: st)) : V Z (cw (zG Z) a σ) lv pc (.ref (a 15) :: st) := by subst e; exact V.get X inX8 15 rfl rfl 10 (by decide) rfl (Or.inl rfl) hw hd kk
theorem Vp_c_15_task {Z : Cx} {own : String} {cc : ByteArray} {rt : Option FieldType} {lv : List (Nat × Value)} {pc : Nat} {st : List Value} {a : Nat → Nat} {σ : St} (X : XC Z own cc rt) {index : Nat} {x : Nat} (hw : Cond.fieldLink own index "NestedDeeds$Walker" "task" "LNestedDeeds$Task;" ∈ tb) (hd : decode cc pc = .ok (.putfield index, 3)) (kk : V Z (cw (zG Z) a (sN σ 12 x)) lv (pc + 3) st) : V Z (cw (zG Z) a σ) lv pc (.ref (a x) :: .ref (a 15) :: st) := V.put X (ty := .object "NestedDeeds$Task") tyX8 tyX8_ok nmX8 inX8 15 rfl rfl 10 (by decide) rfl (by decide +kernel) rfl rfl (Nat.le_of_ble_eq_true rfl) rfl (Or.inl rfl) hw hd kk
theorem Vg_c_15_bottom {Z : Cx} {own : String} {cc : ByteArray} {rt : Option FieldType} {lv : List (Nat × Value)} {pc : Nat} {st : List Value} {a : Nat → Nat} {σ : St} (X : XC Z own cc rt) {index : Nat} {x : Nat} (hw : Cond.fieldLink own index "NestedDeeds$Walker" "bottom" "I" ∈ tb) (hd : decode cc pc = .ok (.getfield index, 3)) (e : gN σ 13 = x) (kk : V Z (cw (zG Z) a σ) lv (pc + 3) (.int (nI x) :: st)) : V Z (cw (zG Z) a σ) lv pc (.ref (a 15) :: st) := by subst e; exact V.get X inX8 15 rfl rfl 11 (by decide) rfl (Or.inl rfl) hw hd kk
theorem Vp_c_15_bottom {Z : Cx} {own : String} {cc : ByteArray} {rt : Option FieldType} {lv : List (Nat × Value)} {pc : Nat} {st : List Value} {a : Nat → Nat} {σ : St} (X : XC Z own cc rt) {index : Nat} {x : Nat} (hw : Cond.fieldLink own index "NestedDeeds$Walker" "bottom" "I" ∈ tb) (hd : decode cc pc = .ok (.putfield index, 3)) (kk : V Z (cw (zG Z) a (sN σ 13 x)) lv (pc + 3) st) : V Z (cw (zG Z) a σ) lv pc (.int (nI x) :: .ref (a 15) :: st) := V.put X (ty := .int) tyX8 tyX8_ok nmX8 inX8 15 rfl rfl 11 (by decide) rfl (by decide +kernel) rfl rfl (Nat.le_of_ble_eq_true rfl) rfl (Or.inl rfl) hw hd kk
theorem Vg_c_15_level {Z : Cx} {own : String} {cc : ByteArray} {rt : Option FieldType} {lv : List (Nat × Value)} {pc : Nat} {st : List Value} {a : Nat → Nat} {σ : St} (X : XC Z own cc rt) {index : Nat} {x : Nat} (hw : Cond.fieldLink own index "NestedDeeds$Walker" "level" "I" ∈ tb) (hd : decode cc pc = .ok (.getfield index, 3)) (e : gN σ 14 = x) (kk : V Z (cw (zG Z) a σ) lv (pc + 3) (.int (nI x) :: st)) : V Z (cw (zG Z) a σ) lv pc (.ref (a 15) :: st) := by subst e; exact V.get X inX8 15 rfl rfl 12 (by decide) rfl (Or.inl rfl) hw hd kk
theorem Vp_c_15_level {Z : Cx} {own : String} {cc : ByteArray} {rt : Option FieldType} {lv : List (Nat × Value)} {pc : Nat} {st : List Value} {a : Nat → Nat} {σ : St} (X : XC Z own cc rt) {index : Nat} {x : Nat} (hw : Cond.fieldLink own index "NestedDeeds$Walker" "level" "I" ∈ tb) (hd : decode cc pc = .ok (.putfield index, 3)) (kk : V Z (cw (zG Z) a (sN σ 14 x)) lv (pc + 3) st) : V Z (cw (zG Z) a σ) lv pc (.int (nI x) :: .ref (a 15) :: st) := V.put X (ty := .int) tyX8 tyX8_ok nmX8 inX8 15 rfl rfl 12 (by decide) rfl (by decide +kernel) rfl rfl (Nat.le_of_ble_eq_true rfl) rfl (Or.inl rfl) hw hd kk
theorem Vg_c_15_coming {Z : Cx} {own : String} {cc : ByteArray} {rt : Option FieldType} {lv : List (Nat × Value)} {pc : Nat} {st : List Value} {a : Nat → Nat} {σ : St} (X : XC Z own cc rt) {index : Nat} {x : Int32} (hw : Cond.fieldLink own index "NestedDeeds$Walker" "coming" "I" ∈ tb) (hd : decode cc pc = .ok (.getfield index, 3)) (e : gI σ 3 = x) (kk : V Z (cw (zG Z) a σ) lv (pc + 3) (.int (x) :: st)) : V Z (cw (zG Z) a σ) lv pc (.ref (a 15) :: st) := by subst e; exact V.get X inX8 15 rfl rfl 13 (by decide) rfl (Or.inl rfl) hw hd kk
theorem Vp_c_15_coming {Z : Cx} {own : String} {cc : ByteArray} {rt : Option FieldType} {lv : List (Nat × Value)} {pc : Nat} {st : List Value} {a : Nat → Nat} {σ : St} (X : XC Z own cc rt) {index : Nat} {x : Int32} (hw : Cond.fieldLink own index "NestedDeeds$Walker" "coming" "I" ∈ tb) (hd : decode cc pc = .ok (.putfield index, 3)) (kk : V Z (cw (zG Z) a (sI σ 3 x)) lv (pc + 3) st) : V Z (cw (zG Z) a σ) lv pc (.int (x) :: .ref (a 15) :: st) := V.put X (ty := .int) tyX8 tyX8_ok nmX8 inX8 15 rfl rfl 13 (by decide) rfl (by decide +kernel) rfl rfl (Nat.le_of_ble_eq_true rfl) rfl (Or.inl rfl) hw hd kk
theorem Va_c_deedAt {Z : Cx} {own : String} {cc : ByteArray} {rt : Option FieldType} {lv : List (Nat × Value)} {pc : Nat} {st : List Value} {a : Nat → Nat} {σ : St} (X : XC Z own cc rt) {i : Nat} {x : Nat} (hi : i < 1502) (hd : decode cc pc = .ok (.iaload, 1)) (e : gA σ 6 i = x) (kk : V Z (cw (zG Z) a σ) lv (pc + 1) (.int (nI x) :: st)) : V Z (cw (zG Z) a σ) lv pc (.int (nI i) :: .ref (a 16) :: st) := by subst e; exact V.iald X 16 rfl (vp_in_nI hi (by decide)) hd (by rw [nI_clamp (by omega)]; exact kk)
theorem Vs_c_deedAt {Z : Cx} {own : String} {cc : ByteArray} {rt : Option FieldType} {lv : List (Nat × Value)} {pc : Nat} {st : List Value} {a : Nat → Nat} {σ : St} (X : XC Z own cc rt) {i : Nat} {x : Nat} (hi : i < 1502) (hd : decode cc pc = .ok (.iastore, 1)) (kk : V Z (cw (zG Z) a (sA σ 6 (va_up (gA σ 6) i x))) lv (pc + 1) st) : V Z (cw (zG Z) a σ) lv pc (.int (nI x) :: .int (nI i) :: .ref (a 16) :: st) := V.iast X 16 rfl (vp_in_nI hi (by decide)) (by rw [nI_clamp (by omega), upN]; rfl) hd kk
theorem Va_c_turnAt {Z : Cx} {own : String} {cc : ByteArray} {rt : Option FieldType} {lv : List (Nat × Value)} {pc : Nat} {st : List Value} {a : Nat → Nat} {σ : St} (X : XC Z own cc rt) {i : Nat} {x : Nat} (hi : i < 1502) (hd : decode cc pc = .ok (.iaload, 1)) (e : gA σ 7 i = x) (kk : V Z (cw (zG Z) a σ) lv (pc + 1) (.int (nI x) :: st)) : V Z (cw (zG Z) a σ) lv pc (.int (nI i) :: .ref (a 17) :: st) := by subst e; exact V.iald X 17 rfl (vp_in_nI hi (by decide)) hd (by rw [nI_clamp (by omega)]; exact kk)
theorem Vs_c_turnAt {Z : Cx} {own : String} {cc : ByteArray} {rt : Option FieldType} {lv : List (Nat × Value)} {pc : Nat} {st : List Value} {a : Nat → Nat} {σ : St} (X : XC Z own cc rt) {i : Nat} {x : Nat} (hi : i < 1502) (hd : decode cc pc = .ok (.iastore, 1)) (kk : V Z (cw (zG Z) a (sA σ 7 (va_up (gA σ 7) i x))) lv (pc + 1) st) : V Z (cw (zG Z) a σ) lv pc (.int (nI x) :: .int (nI i) :: .ref (a 17) :: st) := V.iast X 17 rfl (vp_in_nI hi (by decide)) (by rw [nI_clamp (by omega), upN]; rfl) hd kk
theorem Va_c_width {Z : Cx} {own : String} {cc : ByteArray} {rt : Option FieldType} {lv : List (Nat × Value)} {pc : Nat} {st : List Value} {a : Nat → Nat} {σ : St} (X : XC Z own cc rt) {i : Nat} {x : Nat} (hi : i < 1502) (hd : decode cc pc = .ok (.iaload, 1)) (e : gA σ 8 i = x) (kk : V Z (cw (zG Z) a σ) lv (pc + 1) (.int (nI x) :: st)) : V Z (cw (zG Z) a σ) lv pc (.int (nI i) :: .ref (a 18) :: st) := by subst e; exact V.iald X 18 rfl (vp_in_nI hi (by decide)) hd (by rw [nI_clamp (by omega)]; exact kk)
theorem Vs_c_width {Z : Cx} {own : String} {cc : ByteArray} {rt : Option FieldType} {lv : List (Nat × Value)} {pc : Nat} {st : List Value} {a : Nat → Nat} {σ : St} (X : XC Z own cc rt) {i : Nat} {x : Nat} (hi : i < 1502) (hd : decode cc pc = .ok (.iastore, 1)) (kk : V Z (cw (zG Z) a (sA σ 8 (va_up (gA σ 8) i x))) lv (pc + 1) st) : V Z (cw (zG Z) a σ) lv pc (.int (nI x) :: .int (nI i) :: .ref (a 18) :: st) := V.iast X 18 rfl (vp_in_nI hi (by decide)) (by rw [nI_clamp (by omega), upN]; rfl) hd kk
theorem Va_c_reckoned {Z : Cx} {own : String} {cc : ByteArray} {rt : Option FieldType} {lv : List (Nat × Value)} {pc : Nat} {st : List Value} {a : Nat → Nat} {σ : St} (X : XC Z own cc rt) {i : Nat} {x : Int64} (hi : i < 1502) (hd : decode cc pc = .ok (.laload, 1)) (e : gL σ 0 i = x) (kk : V Z (cw (zG Z) a σ) lv (pc + 1) (.long x :: st)) : V Z (cw (zG Z) a σ) lv pc (.int (nI i) :: .ref (a 19) :: st) := by subst e; exact V.lald X 19 rfl (vp_in_nI hi (by decide)) hd (by rw [nI_clamp (by omega)]; exact kk)
theorem Vs_c_reckoned {Z : Cx} {own : String} {cc : ByteArray} {rt : Option FieldType} {lv : List (Nat × Value)} {pc : Nat} {st : List Value} {a : Nat → Nat} {σ : St} (X : XC Z own cc rt) {i : Nat} {x : Int64} (hi : i < 1502) (hd : decode cc pc = .ok (.lastore, 1)) (kk : V Z (cw (zG Z) a (sL σ 0 (va_up (gL σ 0) i x))) lv (pc + 1) st) : V Z (cw (zG Z) a σ) lv pc (.long x :: .int (nI i) :: .ref (a 19) :: st) := V.last X 19 rfl (vp_in_nI hi (by decide)) (by rw [nI_clamp (by omega)]; rfl) hd kk
theorem Vg_c_20_deeds {Z : Cx} {own : String} {cc : ByteArray} {rt : Option FieldType} {lv : List (Nat × Value)} {pc : Nat} {st : List Value} {a : Nat → Nat} {σ : St} (X : XC Z own cc rt) {index : Nat} (hw : Cond.fieldLink own index "NestedDeeds$Task" "deeds" "LNestedDeeds$Deeds;" ∈ tb) (hd : decode cc pc = .ok (.getfield index, 3)) (kk : V Z (cw (zG Z) a σ) lv (pc + 3) (.ref (a 1) :: st)) : V Z (cw (zG Z) a σ) lv pc (.ref (a 20) :: st) := V.get X inX7 20 rfl rfl 0 (by decide) rfl (Or.inl rfl) hw hd kk
theorem Vg_c_20_over {Z : Cx} {own : String} {cc : ByteArray} {rt : Option FieldType} {lv : List (Nat × Value)} {pc : Nat} {st : List Value} {a : Nat → Nat} {σ : St} (X : XC Z own cc rt) {index : Nat} {x : Bool} (hw : Cond.fieldLink own index "NestedDeeds$Task" "over" "Z" ∈ tb) (hd : decode cc pc = .ok (.getfield index, 3)) (e : gB σ 20 = x) (kk : V Z (cw (zG Z) a σ) lv (pc + 3) (.int (bI x) :: st)) : V Z (cw (zG Z) a σ) lv pc (.ref (a 20) :: st) := by subst e; exact V.get X inX7 20 rfl rfl 1 (by decide) rfl (Or.inl rfl) hw hd kk
theorem Vp_c_20_over {Z : Cx} {own : String} {cc : ByteArray} {rt : Option FieldType} {lv : List (Nat × Value)} {pc : Nat} {st : List Value} {a : Nat → Nat} {σ : St} (X : XC Z own cc rt) {index : Nat} {x : Bool} (hw : Cond.fieldLink own index "NestedDeeds$Task" "over" "Z" ∈ tb) (hd : decode cc pc = .ok (.putfield index, 3)) (kk : V Z (cw (zG Z) a (sB σ 20 x)) lv (pc + 3) st) : V Z (cw (zG Z) a σ) lv pc (.int (bI x) :: .ref (a 20) :: st) := V.put X (ty := .boolean) tyX7 tyX7_ok nmX7 inX7 20 rfl rfl 1 (by decide) rfl (by decide +kernel) (bI_nar _) (bI_fits _) (Nat.le_of_ble_eq_true rfl) rfl (Or.inl rfl) hw hd kk
theorem Vg_c_21_deeds {Z : Cx} {own : String} {cc : ByteArray} {rt : Option FieldType} {lv : List (Nat × Value)} {pc : Nat} {st : List Value} {a : Nat → Nat} {σ : St} (X : XC Z own cc rt) {index : Nat} {ref : String} (hs : ref = "NestedDeeds$Task" ∨ Cond.sameField ref "NestedDeeds$Task" "deeds" "LNestedDeeds$Deeds;" ∈ tb) (hw : Cond.fieldLink own index ref "deeds" "LNestedDeeds$Deeds;" ∈ tb) (hd : decode cc pc = .ok (.getfield index, 3)) (kk : V Z (cw (zG Z) a σ) lv (pc + 3) (.ref (a 1) :: st)) : V Z (cw (zG Z) a σ) lv pc (.ref (a 21) :: st) := V.get X inX9 21 rfl rfl 0 (by decide) rfl hs hw hd kk
theorem Vg_c_21_over {Z : Cx} {own : String} {cc : ByteArray} {rt : Option FieldType} {lv : List (Nat × Value)} {pc : Nat} {st : List Value} {a : Nat → Nat} {σ : St} (X : XC Z own cc rt) {index : Nat} {x : Bool} {ref : String} (hs : ref = "NestedDeeds$Task" ∨ Cond.sameField ref "NestedDeeds$Task" "over" "Z" ∈ tb) (hw : Cond.fieldLink own index ref "over" "Z" ∈ tb) (hd : decode cc pc = .ok (.getfield index, 3)) (e : gB σ 21 = x) (kk : V Z (cw (zG Z) a σ) lv (pc + 3) (.int (bI x) :: st)) : V Z (cw (zG Z) a σ) lv pc (.ref (a 21) :: st) := by subst e; exact V.get X inX9 21 rfl rfl 1 (by decide) rfl hs hw hd kk
theorem Vp_c_21_over {Z : Cx} {own : String} {cc : ByteArray} {rt : Option FieldType} {lv : List (Nat × Value)} {pc : Nat} {st : List Value} {a : Nat → Nat} {σ : St} (X : XC Z own cc rt) {index : Nat} {x : Bool} {ref : String} (hs : ref = "NestedDeeds$Task" ∨ Cond.sameField ref "NestedDeeds$Task" "over" "Z" ∈ tb) (hw : Cond.fieldLink own index ref "over" "Z" ∈ tb) (hd : decode cc pc = .ok (.putfield index, 3)) (kk : V Z (cw (zG Z) a (sB σ 21 x)) lv (pc + 3) st) : V Z (cw (zG Z) a σ) lv pc (.int (bI x) :: .ref (a 21) :: st) := V.put X (ty := .boolean) tyX9 tyX9_ok nmX9 inX9 21 rfl rfl 1 (by decide) rfl (by decide +kernel) (bI_nar _) (bI_fits _) (Nat.le_of_ble_eq_true rfl) rfl hs hw hd kk
theorem Vg_c_21_worthAt {Z : Cx} {own : String} {cc : ByteArray} {rt : Option FieldType} {lv : List (Nat × Value)} {pc : Nat} {st : List Value} {a : Nat → Nat} {σ : St} (X : XC Z own cc rt) {index : Nat} (hw : Cond.fieldLink own index "NestedDeeds$Weighing" "worthAt" "[J" ∈ tb) (hd : decode cc pc = .ok (.getfield index, 3)) (kk : V Z (cw (zG Z) a σ) lv (pc + 3) (.ref (a 19) :: st)) : V Z (cw (zG Z) a σ) lv pc (.ref (a 21) :: st) := V.get X inX9 21 rfl rfl 2 (by decide) rfl (Or.inl rfl) hw hd kk
theorem Vg_c_21_firstAt {Z : Cx} {own : String} {cc : ByteArray} {rt : Option FieldType} {lv : List (Nat × Value)} {pc : Nat} {st : List Value} {a : Nat → Nat} {σ : St} (X : XC Z own cc rt) {index : Nat} (hw : Cond.fieldLink own index "NestedDeeds$Weighing" "firstAt" "[J" ∈ tb) (hd : decode cc pc = .ok (.getfield index, 3)) (kk : V Z (cw (zG Z) a σ) lv (pc + 3) (.ref (a 22) :: st)) : V Z (cw (zG Z) a σ) lv pc (.ref (a 21) :: st) := V.get X inX9 21 rfl rfl 3 (by decide) rfl (Or.inl rfl) hw hd kk
theorem Va_c_firstAt {Z : Cx} {own : String} {cc : ByteArray} {rt : Option FieldType} {lv : List (Nat × Value)} {pc : Nat} {st : List Value} {a : Nat → Nat} {σ : St} (X : XC Z own cc rt) {i : Nat} {x : Int64} (hi : i < 1502) (hd : decode cc pc = .ok (.laload, 1)) (e : gL σ 1 i = x) (kk : V Z (cw (zG Z) a σ) lv (pc + 1) (.long x :: st)) : V Z (cw (zG Z) a σ) lv pc (.int (nI i) :: .ref (a 22) :: st) := by subst e; exact V.lald X 22 rfl (vp_in_nI hi (by decide)) hd (by rw [nI_clamp (by omega)]; exact kk)
theorem Vs_c_firstAt {Z : Cx} {own : String} {cc : ByteArray} {rt : Option FieldType} {lv : List (Nat × Value)} {pc : Nat} {st : List Value} {a : Nat → Nat} {σ : St} (X : XC Z own cc rt) {i : Nat} {x : Int64} (hi : i < 1502) (hd : decode cc pc = .ok (.lastore, 1)) (kk : V Z (cw (zG Z) a (sL σ 1 (va_up (gL σ 1) i x))) lv (pc + 1) st) : V Z (cw (zG Z) a σ) lv pc (.long x :: .int (nI i) :: .ref (a 22) :: st) := V.last X 22 rfl (vp_in_nI hi (by decide)) (by rw [nI_clamp (by omega)]; rfl) hd kk
theorem Vg_c_23_deeds {Z : Cx} {own : String} {cc : ByteArray} {rt : Option FieldType} {lv : List (Nat × Value)} {pc : Nat} {st : List Value} {a : Nat → Nat} {σ : St} (X : XC Z own cc rt) {index : Nat} {ref : String} (hs : ref = "NestedDeeds$Task" ∨ Cond.sameField ref "NestedDeeds$Task" "deeds" "LNestedDeeds$Deeds;" ∈ tb) (hw : Cond.fieldLink own index ref "deeds" "LNestedDeeds$Deeds;" ∈ tb) (hd : decode cc pc = .ok (.getfield index, 3)) (kk : V Z (cw (zG Z) a σ) lv (pc + 3) (.ref (a 1) :: st)) : V Z (cw (zG Z) a σ) lv pc (.ref (a 23) :: st) := V.get X inX4 23 rfl rfl 0 (by decide) rfl hs hw hd kk
theorem Vg_c_23_over {Z : Cx} {own : String} {cc : ByteArray} {rt : Option FieldType} {lv : List (Nat × Value)} {pc : Nat} {st : List Value} {a : Nat → Nat} {σ : St} (X : XC Z own cc rt) {index : Nat} {x : Bool} {ref : String} (hs : ref = "NestedDeeds$Task" ∨ Cond.sameField ref "NestedDeeds$Task" "over" "Z" ∈ tb) (hw : Cond.fieldLink own index ref "over" "Z" ∈ tb) (hd : decode cc pc = .ok (.getfield index, 3)) (e : gB σ 23 = x) (kk : V Z (cw (zG Z) a σ) lv (pc + 3) (.int (bI x) :: st)) : V Z (cw (zG Z) a σ) lv pc (.ref (a 23) :: st) := by subst e; exact V.get X inX4 23 rfl rfl 1 (by decide) rfl hs hw hd kk
theorem Vp_c_23_over {Z : Cx} {own : String} {cc : ByteArray} {rt : Option FieldType} {lv : List (Nat × Value)} {pc : Nat} {st : List Value} {a : Nat → Nat} {σ : St} (X : XC Z own cc rt) {index : Nat} {x : Bool} {ref : String} (hs : ref = "NestedDeeds$Task" ∨ Cond.sameField ref "NestedDeeds$Task" "over" "Z" ∈ tb) (hw : Cond.fieldLink own index ref "over" "Z" ∈ tb) (hd : decode cc pc = .ok (.putfield index, 3)) (kk : V Z (cw (zG Z) a (sB σ 23 x)) lv (pc + 3) st) : V Z (cw (zG Z) a σ) lv pc (.int (bI x) :: .ref (a 23) :: st) := V.put X (ty := .boolean) tyX4 tyX4_ok nmX4 inX4 23 rfl rfl 1 (by decide) rfl (by decide +kernel) (bI_nar _) (bI_fits _) (Nat.le_of_ble_eq_true rfl) rfl hs hw hd kk
theorem Vg_c_23_markAt {Z : Cx} {own : String} {cc : ByteArray} {rt : Option FieldType} {lv : List (Nat × Value)} {pc : Nat} {st : List Value} {a : Nat → Nat} {σ : St} (X : XC Z own cc rt) {index : Nat} (hw : Cond.fieldLink own index "NestedDeeds$Marking" "markAt" "[J" ∈ tb) (hd : decode cc pc = .ok (.getfield index, 3)) (kk : V Z (cw (zG Z) a σ) lv (pc + 3) (.ref (a 19) :: st)) : V Z (cw (zG Z) a σ) lv pc (.ref (a 23) :: st) := V.get X inX4 23 rfl rfl 2 (by decide) rfl (Or.inl rfl) hw hd kk
theorem Vg_c_24_deeds {Z : Cx} {own : String} {cc : ByteArray} {rt : Option FieldType} {lv : List (Nat × Value)} {pc : Nat} {st : List Value} {a : Nat → Nat} {σ : St} (X : XC Z own cc rt) {index : Nat} {ref : String} (hs : ref = "NestedDeeds$Task" ∨ Cond.sameField ref "NestedDeeds$Task" "deeds" "LNestedDeeds$Deeds;" ∈ tb) (hw : Cond.fieldLink own index ref "deeds" "LNestedDeeds$Deeds;" ∈ tb) (hd : decode cc pc = .ok (.getfield index, 3)) (kk : V Z (cw (zG Z) a σ) lv (pc + 3) (.ref (a 1) :: st)) : V Z (cw (zG Z) a σ) lv pc (.ref (a 24) :: st) := V.get X inX0 24 rfl rfl 0 (by decide) rfl hs hw hd kk
theorem Vg_c_24_over {Z : Cx} {own : String} {cc : ByteArray} {rt : Option FieldType} {lv : List (Nat × Value)} {pc : Nat} {st : List Value} {a : Nat → Nat} {σ : St} (X : XC Z own cc rt) {index : Nat} {x : Bool} {ref : String} (hs : ref = "NestedDeeds$Task" ∨ Cond.sameField ref "NestedDeeds$Task" "over" "Z" ∈ tb) (hw : Cond.fieldLink own index ref "over" "Z" ∈ tb) (hd : decode cc pc = .ok (.getfield index, 3)) (e : gB σ 24 = x) (kk : V Z (cw (zG Z) a σ) lv (pc + 3) (.int (bI x) :: st)) : V Z (cw (zG Z) a σ) lv pc (.ref (a 24) :: st) := by subst e; exact V.get X inX0 24 rfl rfl 1 (by decide) rfl hs hw hd kk
theorem Vp_c_24_over {Z : Cx} {own : String} {cc : ByteArray} {rt : Option FieldType} {lv : List (Nat × Value)} {pc : Nat} {st : List Value} {a : Nat → Nat} {σ : St} (X : XC Z own cc rt) {index : Nat} {x : Bool} {ref : String} (hs : ref = "NestedDeeds$Task" ∨ Cond.sameField ref "NestedDeeds$Task" "over" "Z" ∈ tb) (hw : Cond.fieldLink own index ref "over" "Z" ∈ tb) (hd : decode cc pc = .ok (.putfield index, 3)) (kk : V Z (cw (zG Z) a (sB σ 24 x)) lv (pc + 3) st) : V Z (cw (zG Z) a σ) lv pc (.int (bI x) :: .ref (a 24) :: st) := V.put X (ty := .boolean) tyX0 tyX0_ok nmX0 inX0 24 rfl rfl 1 (by decide) rfl (by decide +kernel) (bI_nar _) (bI_fits _) (Nat.le_of_ble_eq_true rfl) rfl hs hw hd kk
theorem Vg_c_24_otherAt {Z : Cx} {own : String} {cc : ByteArray} {rt : Option FieldType} {lv : List (Nat × Value)} {pc : Nat} {st : List Value} {a : Nat → Nat} {σ : St} (X : XC Z own cc rt) {index : Nat} (hw : Cond.fieldLink own index "NestedDeeds$Comparing" "otherAt" "[I" ∈ tb) (hd : decode cc pc = .ok (.getfield index, 3)) (kk : V Z (cw (zG Z) a σ) lv (pc + 3) (.ref (a 25) :: st)) : V Z (cw (zG Z) a σ) lv pc (.ref (a 24) :: st) := V.get X inX0 24 rfl rfl 2 (by decide) rfl (Or.inl rfl) hw hd kk
theorem Va_c_otherAt {Z : Cx} {own : String} {cc : ByteArray} {rt : Option FieldType} {lv : List (Nat × Value)} {pc : Nat} {st : List Value} {a : Nat → Nat} {σ : St} (X : XC Z own cc rt) {i : Nat} {x : Nat} (hi : i < 1502) (hd : decode cc pc = .ok (.iaload, 1)) (e : gA σ 9 i = x) (kk : V Z (cw (zG Z) a σ) lv (pc + 1) (.int (nI x) :: st)) : V Z (cw (zG Z) a σ) lv pc (.int (nI i) :: .ref (a 25) :: st) := by subst e; exact V.iald X 25 rfl (vp_in_nI hi (by decide)) hd (by rw [nI_clamp (by omega)]; exact kk)
theorem Vs_c_otherAt {Z : Cx} {own : String} {cc : ByteArray} {rt : Option FieldType} {lv : List (Nat × Value)} {pc : Nat} {st : List Value} {a : Nat → Nat} {σ : St} (X : XC Z own cc rt) {i : Nat} {x : Nat} (hi : i < 1502) (hd : decode cc pc = .ok (.iastore, 1)) (kk : V Z (cw (zG Z) a (sA σ 9 (va_up (gA σ 9) i x))) lv (pc + 1) st) : V Z (cw (zG Z) a σ) lv pc (.int (nI x) :: .int (nI i) :: .ref (a 25) :: st) := V.iast X 25 rfl (vp_in_nI hi (by decide)) (by rw [nI_clamp (by omega), upN]; rfl) hd kk
theorem Vg_c_26_deeds {Z : Cx} {own : String} {cc : ByteArray} {rt : Option FieldType} {lv : List (Nat × Value)} {pc : Nat} {st : List Value} {a : Nat → Nat} {σ : St} (X : XC Z own cc rt) {index : Nat} {ref : String} (hs : ref = "NestedDeeds$Task" ∨ Cond.sameField ref "NestedDeeds$Task" "deeds" "LNestedDeeds$Deeds;" ∈ tb) (hw : Cond.fieldLink own index ref "deeds" "LNestedDeeds$Deeds;" ∈ tb) (hd : decode cc pc = .ok (.getfield index, 3)) (kk : V Z (cw (zG Z) a σ) lv (pc + 3) (.ref (a 1) :: st)) : V Z (cw (zG Z) a σ) lv pc (.ref (a 26) :: st) := V.get X inX10 26 rfl rfl 0 (by decide) rfl hs hw hd kk
theorem Vg_c_26_over {Z : Cx} {own : String} {cc : ByteArray} {rt : Option FieldType} {lv : List (Nat × Value)} {pc : Nat} {st : List Value} {a : Nat → Nat} {σ : St} (X : XC Z own cc rt) {index : Nat} {x : Bool} {ref : String} (hs : ref = "NestedDeeds$Task" ∨ Cond.sameField ref "NestedDeeds$Task" "over" "Z" ∈ tb) (hw : Cond.fieldLink own index ref "over" "Z" ∈ tb) (hd : decode cc pc = .ok (.getfield index, 3)) (e : gB σ 26 = x) (kk : V Z (cw (zG Z) a σ) lv (pc + 3) (.int (bI x) :: st)) : V Z (cw (zG Z) a σ) lv pc (.ref (a 26) :: st) := by subst e; exact V.get X inX10 26 rfl rfl 1 (by decide) rfl hs hw hd kk
theorem Vp_c_26_over {Z : Cx} {own : String} {cc : ByteArray} {rt : Option FieldType} {lv : List (Nat × Value)} {pc : Nat} {st : List Value} {a : Nat → Nat} {σ : St} (X : XC Z own cc rt) {index : Nat} {x : Bool} {ref : String} (hs : ref = "NestedDeeds$Task" ∨ Cond.sameField ref "NestedDeeds$Task" "over" "Z" ∈ tb) (hw : Cond.fieldLink own index ref "over" "Z" ∈ tb) (hd : decode cc pc = .ok (.putfield index, 3)) (kk : V Z (cw (zG Z) a (sB σ 26 x)) lv (pc + 3) st) : V Z (cw (zG Z) a σ) lv pc (.int (bI x) :: .ref (a 26) :: st) := V.put X (ty := .boolean) tyX10 tyX10_ok nmX10 inX10 26 rfl rfl 1 (by decide) rfl (by decide +kernel) (bI_nar _) (bI_fits _) (Nat.le_of_ble_eq_true rfl) rfl hs hw hd kk
theorem Vg_c_26_draft {Z : Cx} {own : String} {cc : ByteArray} {rt : Option FieldType} {lv : List (Nat × Value)} {pc : Nat} {st : List Value} {a : Nat → Nat} {σ : St} (X : XC Z own cc rt) {index : Nat} (hw : Cond.fieldLink own index "NestedDeeds$Writing" "draft" "LNestedDeeds$Paper;" ∈ tb) (hd : decode cc pc = .ok (.getfield index, 3)) (kk : V Z (cw (zG Z) a σ) lv (pc + 3) (.ref (a 9) :: st)) : V Z (cw (zG Z) a σ) lv pc (.ref (a 26) :: st) := V.get X inX10 26 rfl rfl 2 (by decide) rfl (Or.inl rfl) hw hd kk
theorem Vg_c_27_deeds {Z : Cx} {own : String} {cc : ByteArray} {rt : Option FieldType} {lv : List (Nat × Value)} {pc : Nat} {st : List Value} {a : Nat → Nat} {σ : St} (X : XC Z own cc rt) {index : Nat} {ref : String} (hs : ref = "NestedDeeds$Task" ∨ Cond.sameField ref "NestedDeeds$Task" "deeds" "LNestedDeeds$Deeds;" ∈ tb) (hw : Cond.fieldLink own index ref "deeds" "LNestedDeeds$Deeds;" ∈ tb) (hd : decode cc pc = .ok (.getfield index, 3)) (kk : V Z (cw (zG Z) a σ) lv (pc + 3) (.ref (a 1) :: st)) : V Z (cw (zG Z) a σ) lv pc (.ref (a 27) :: st) := V.get X inX3 27 rfl rfl 0 (by decide) rfl hs hw hd kk
theorem Vg_c_27_over {Z : Cx} {own : String} {cc : ByteArray} {rt : Option FieldType} {lv : List (Nat × Value)} {pc : Nat} {st : List Value} {a : Nat → Nat} {σ : St} (X : XC Z own cc rt) {index : Nat} {x : Bool} {ref : String} (hs : ref = "NestedDeeds$Task" ∨ Cond.sameField ref "NestedDeeds$Task" "over" "Z" ∈ tb) (hw : Cond.fieldLink own index ref "over" "Z" ∈ tb) (hd : decode cc pc = .ok (.getfield index, 3)) (e : gB σ 27 = x) (kk : V Z (cw (zG Z) a σ) lv (pc + 3) (.int (bI x) :: st)) : V Z (cw (zG Z) a σ) lv pc (.ref (a 27) :: st) := by subst e; exact V.get X inX3 27 rfl rfl 1 (by decide) rfl hs hw hd kk
theorem Vp_c_27_over {Z : Cx} {own : String} {cc : ByteArray} {rt : Option FieldType} {lv : List (Nat × Value)} {pc : Nat} {st : List Value} {a : Nat → Nat} {σ : St} (X : XC Z own cc rt) {index : Nat} {x : Bool} {ref : String} (hs : ref = "NestedDeeds$Task" ∨ Cond.sameField ref "NestedDeeds$Task" "over" "Z" ∈ tb) (hw : Cond.fieldLink own index ref "over" "Z" ∈ tb) (hd : decode cc pc = .ok (.putfield index, 3)) (kk : V Z (cw (zG Z) a (sB σ 27 x)) lv (pc + 3) st) : V Z (cw (zG Z) a σ) lv pc (.int (bI x) :: .ref (a 27) :: st) := V.put X (ty := .boolean) tyX3 tyX3_ok nmX3 inX3 27 rfl rfl 1 (by decide) rfl (by decide +kernel) (bI_nar _) (bI_fits _) (Nat.le_of_ble_eq_true rfl) rfl hs hw hd kk
theorem Vg_c_27_kind {Z : Cx} {own : String} {cc : ByteArray} {rt : Option FieldType} {lv : List (Nat × Value)} {pc : Nat} {st : List Value} {a : Nat → Nat} {σ : St} (X : XC Z own cc rt) {index : Nat} {x : Int32} (hw : Cond.fieldLink own index "NestedDeeds$Finding" "kind" "I" ∈ tb) (hd : decode cc pc = .ok (.getfield index, 3)) (e : gI σ 4 = x) (kk : V Z (cw (zG Z) a σ) lv (pc + 3) (.int (x) :: st)) : V Z (cw (zG Z) a σ) lv pc (.ref (a 27) :: st) := by subst e; exact V.get X inX3 27 rfl rfl 2 (by decide) rfl (Or.inl rfl) hw hd kk
theorem Vp_c_27_kind {Z : Cx} {own : String} {cc : ByteArray} {rt : Option FieldType} {lv : List (Nat × Value)} {pc : Nat} {st : List Value} {a : Nat → Nat} {σ : St} (X : XC Z own cc rt) {index : Nat} {x : Int32} (hw : Cond.fieldLink own index "NestedDeeds$Finding" "kind" "I" ∈ tb) (hd : decode cc pc = .ok (.putfield index, 3)) (kk : V Z (cw (zG Z) a (sI σ 4 x)) lv (pc + 3) st) : V Z (cw (zG Z) a σ) lv pc (.int (x) :: .ref (a 27) :: st) := V.put X (ty := .int) tyX3 tyX3_ok nmX3 inX3 27 rfl rfl 2 (by decide) rfl (by decide +kernel) rfl rfl (Nat.le_of_ble_eq_true rfl) rfl (Or.inl rfl) hw hd kk
theorem Vg_c_27_number {Z : Cx} {own : String} {cc : ByteArray} {rt : Option FieldType} {lv : List (Nat × Value)} {pc : Nat} {st : List Value} {a : Nat → Nat} {σ : St} (X : XC Z own cc rt) {index : Nat} {x : Int32} (hw : Cond.fieldLink own index "NestedDeeds$Finding" "number" "I" ∈ tb) (hd : decode cc pc = .ok (.getfield index, 3)) (e : gI σ 5 = x) (kk : V Z (cw (zG Z) a σ) lv (pc + 3) (.int (x) :: st)) : V Z (cw (zG Z) a σ) lv pc (.ref (a 27) :: st) := by subst e; exact V.get X inX3 27 rfl rfl 3 (by decide) rfl (Or.inl rfl) hw hd kk
theorem Vp_c_27_number {Z : Cx} {own : String} {cc : ByteArray} {rt : Option FieldType} {lv : List (Nat × Value)} {pc : Nat} {st : List Value} {a : Nat → Nat} {σ : St} (X : XC Z own cc rt) {index : Nat} {x : Int32} (hw : Cond.fieldLink own index "NestedDeeds$Finding" "number" "I" ∈ tb) (hd : decode cc pc = .ok (.putfield index, 3)) (kk : V Z (cw (zG Z) a (sI σ 5 x)) lv (pc + 3) st) : V Z (cw (zG Z) a σ) lv pc (.int (x) :: .ref (a 27) :: st) := V.put X (ty := .int) tyX3 tyX3_ok nmX3 inX3 27 rfl rfl 3 (by decide) rfl (by decide +kernel) rfl rfl (Nat.le_of_ble_eq_true rfl) rfl (Or.inl rfl) hw hd kk
theorem Vg_c_28_deeds {Z : Cx} {own : String} {cc : ByteArray} {rt : Option FieldType} {lv : List (Nat × Value)} {pc : Nat} {st : List Value} {a : Nat → Nat} {σ : St} (X : XC Z own cc rt) {index : Nat} {ref : String} (hs : ref = "NestedDeeds$Task" ∨ Cond.sameField ref "NestedDeeds$Task" "deeds" "LNestedDeeds$Deeds;" ∈ tb) (hw : Cond.fieldLink own index ref "deeds" "LNestedDeeds$Deeds;" ∈ tb) (hd : decode cc pc = .ok (.getfield index, 3)) (kk : V Z (cw (zG Z) a σ) lv (pc + 3) (.ref (a 1) :: st)) : V Z (cw (zG Z) a σ) lv pc (.ref (a 28) :: st) := V.get X inX1 28 rfl rfl 0 (by decide) rfl hs hw hd kk
theorem Vg_c_28_over {Z : Cx} {own : String} {cc : ByteArray} {rt : Option FieldType} {lv : List (Nat × Value)} {pc : Nat} {st : List Value} {a : Nat → Nat} {σ : St} (X : XC Z own cc rt) {index : Nat} {x : Bool} {ref : String} (hs : ref = "NestedDeeds$Task" ∨ Cond.sameField ref "NestedDeeds$Task" "over" "Z" ∈ tb) (hw : Cond.fieldLink own index ref "over" "Z" ∈ tb) (hd : decode cc pc = .ok (.getfield index, 3)) (e : gB σ 28 = x) (kk : V Z (cw (zG Z) a σ) lv (pc + 3) (.int (bI x) :: st)) : V Z (cw (zG Z) a σ) lv pc (.ref (a 28) :: st) := by subst e; exact V.get X inX1 28 rfl rfl 1 (by decide) rfl hs hw hd kk
theorem Vp_c_28_over {Z : Cx} {own : String} {cc : ByteArray} {rt : Option FieldType} {lv : List (Nat × Value)} {pc : Nat} {st : List Value} {a : Nat → Nat} {σ : St} (X : XC Z own cc rt) {index : Nat} {x : Bool} {ref : String} (hs : ref = "NestedDeeds$Task" ∨ Cond.sameField ref "NestedDeeds$Task" "over" "Z" ∈ tb) (hw : Cond.fieldLink own index ref "over" "Z" ∈ tb) (hd : decode cc pc = .ok (.putfield index, 3)) (kk : V Z (cw (zG Z) a (sB σ 28 x)) lv (pc + 3) st) : V Z (cw (zG Z) a σ) lv pc (.int (bI x) :: .ref (a 28) :: st) := V.put X (ty := .boolean) tyX1 tyX1_ok nmX1 inX1 28 rfl rfl 1 (by decide) rfl (by decide +kernel) (bI_nar _) (bI_fits _) (Nat.le_of_ble_eq_true rfl) rfl hs hw hd kk
theorem Vg_c_28_keptAt {Z : Cx} {own : String} {cc : ByteArray} {rt : Option FieldType} {lv : List (Nat × Value)} {pc : Nat} {st : List Value} {a : Nat → Nat} {σ : St} (X : XC Z own cc rt) {index : Nat} (hw : Cond.fieldLink own index "NestedDeeds$Copying" "keptAt" "[Z" ∈ tb) (hd : decode cc pc = .ok (.getfield index, 3)) (kk : V Z (cw (zG Z) a σ) lv (pc + 3) (.ref (a 29) :: st)) : V Z (cw (zG Z) a σ) lv pc (.ref (a 28) :: st) := V.get X inX1 28 rfl rfl 2 (by decide) rfl (Or.inl rfl) hw hd kk
theorem Vg_c_28_keptPartsAt {Z : Cx} {own : String} {cc : ByteArray} {rt : Option FieldType} {lv : List (Nat × Value)} {pc : Nat} {st : List Value} {a : Nat → Nat} {σ : St} (X : XC Z own cc rt) {index : Nat} (hw : Cond.fieldLink own index "NestedDeeds$Copying" "keptPartsAt" "[I" ∈ tb) (hd : decode cc pc = .ok (.getfield index, 3)) (kk : V Z (cw (zG Z) a σ) lv (pc + 3) (.ref (a 30) :: st)) : V Z (cw (zG Z) a σ) lv pc (.ref (a 28) :: st) := V.get X inX1 28 rfl rfl 3 (by decide) rfl (Or.inl rfl) hw hd kk
theorem Vg_c_28_mark {Z : Cx} {own : String} {cc : ByteArray} {rt : Option FieldType} {lv : List (Nat × Value)} {pc : Nat} {st : List Value} {a : Nat → Nat} {σ : St} (X : XC Z own cc rt) {index : Nat} (hw : Cond.fieldLink own index "NestedDeeds$Copying" "mark" "[J" ∈ tb) (hd : decode cc pc = .ok (.getfield index, 3)) (kk : V Z (cw (zG Z) a σ) lv (pc + 3) (.ref (a 31) :: st)) : V Z (cw (zG Z) a σ) lv pc (.ref (a 28) :: st) := V.get X inX1 28 rfl rfl 4 (by decide) rfl (Or.inl rfl) hw hd kk
theorem Vg_c_28_sorted {Z : Cx} {own : String} {cc : ByteArray} {rt : Option FieldType} {lv : List (Nat × Value)} {pc : Nat} {st : List Value} {a : Nat → Nat} {σ : St} (X : XC Z own cc rt) {index : Nat} (hw : Cond.fieldLink own index "NestedDeeds$Copying" "sorted" "[I" ∈ tb) (hd : decode cc pc = .ok (.getfield index, 3)) (kk : V Z (cw (zG Z) a σ) lv (pc + 3) (.ref (a 32) :: st)) : V Z (cw (zG Z) a σ) lv pc (.ref (a 28) :: st) := V.get X inX1 28 rfl rfl 5 (by decide) rfl (Or.inl rfl) hw hd kk
theorem Vg_c_28_most {Z : Cx} {own : String} {cc : ByteArray} {rt : Option FieldType} {lv : List (Nat × Value)} {pc : Nat} {st : List Value} {a : Nat → Nat} {σ : St} (X : XC Z own cc rt) {index : Nat} {x : Int32} (hw : Cond.fieldLink own index "NestedDeeds$Copying" "most" "I" ∈ tb) (hd : decode cc pc = .ok (.getfield index, 3)) (e : gI σ 6 = x) (kk : V Z (cw (zG Z) a σ) lv (pc + 3) (.int (x) :: st)) : V Z (cw (zG Z) a σ) lv pc (.ref (a 28) :: st) := by subst e; exact V.get X inX1 28 rfl rfl 6 (by decide) rfl (Or.inl rfl) hw hd kk
theorem Vp_c_28_most {Z : Cx} {own : String} {cc : ByteArray} {rt : Option FieldType} {lv : List (Nat × Value)} {pc : Nat} {st : List Value} {a : Nat → Nat} {σ : St} (X : XC Z own cc rt) {index : Nat} {x : Int32} (hw : Cond.fieldLink own index "NestedDeeds$Copying" "most" "I" ∈ tb) (hd : decode cc pc = .ok (.putfield index, 3)) (kk : V Z (cw (zG Z) a (sI σ 6 x)) lv (pc + 3) st) : V Z (cw (zG Z) a σ) lv pc (.int (x) :: .ref (a 28) :: st) := V.put X (ty := .int) tyX1 tyX1_ok nmX1 inX1 28 rfl rfl 6 (by decide) rfl (by decide +kernel) rfl rfl (Nat.le_of_ble_eq_true rfl) rfl (Or.inl rfl) hw hd kk
theorem Vg_c_28_making {Z : Cx} {own : String} {cc : ByteArray} {rt : Option FieldType} {lv : List (Nat × Value)} {pc : Nat} {st : List Value} {a : Nat → Nat} {σ : St} (X : XC Z own cc rt) {index : Nat} {x : Bool} (hw : Cond.fieldLink own index "NestedDeeds$Copying" "making" "Z" ∈ tb) (hd : decode cc pc = .ok (.getfield index, 3)) (e : gB σ 3 = x) (kk : V Z (cw (zG Z) a σ) lv (pc + 3) (.int (bI x) :: st)) : V Z (cw (zG Z) a σ) lv pc (.ref (a 28) :: st) := by subst e; exact V.get X inX1 28 rfl rfl 7 (by decide) rfl (Or.inl rfl) hw hd kk
theorem Vp_c_28_making {Z : Cx} {own : String} {cc : ByteArray} {rt : Option FieldType} {lv : List (Nat × Value)} {pc : Nat} {st : List Value} {a : Nat → Nat} {σ : St} (X : XC Z own cc rt) {index : Nat} {x : Bool} (hw : Cond.fieldLink own index "NestedDeeds$Copying" "making" "Z" ∈ tb) (hd : decode cc pc = .ok (.putfield index, 3)) (kk : V Z (cw (zG Z) a (sB σ 3 x)) lv (pc + 3) st) : V Z (cw (zG Z) a σ) lv pc (.int (bI x) :: .ref (a 28) :: st) := V.put X (ty := .boolean) tyX1 tyX1_ok nmX1 inX1 28 rfl rfl 7 (by decide) rfl (by decide +kernel) (bI_nar _) (bI_fits _) (Nat.le_of_ble_eq_true rfl) rfl (Or.inl rfl) hw hd kk
theorem Vg_c_28_sorting {Z : Cx} {own : String} {cc : ByteArray} {rt : Option FieldType} {lv : List (Nat × Value)} {pc : Nat} {st : List Value} {a : Nat → Nat} {σ : St} (X : XC Z own cc rt) {index : Nat} {x : Bool} (hw : Cond.fieldLink own index "NestedDeeds$Copying" "sorting" "Z" ∈ tb) (hd : decode cc pc = .ok (.getfield index, 3)) (e : gB σ 4 = x) (kk : V Z (cw (zG Z) a σ) lv (pc + 3) (.int (bI x) :: st)) : V Z (cw (zG Z) a σ) lv pc (.ref (a 28) :: st) := by subst e; exact V.get X inX1 28 rfl rfl 8 (by decide) rfl (Or.inl rfl) hw hd kk
theorem Vp_c_28_sorting {Z : Cx} {own : String} {cc : ByteArray} {rt : Option FieldType} {lv : List (Nat × Value)} {pc : Nat} {st : List Value} {a : Nat → Nat} {σ : St} (X : XC Z own cc rt) {index : Nat} {x : Bool} (hw : Cond.fieldLink own index "NestedDeeds$Copying" "sorting" "Z" ∈ tb) (hd : decode cc pc = .ok (.putfield index, 3)) (kk : V Z (cw (zG Z) a (sB σ 4 x)) lv (pc + 3) st) : V Z (cw (zG Z) a σ) lv pc (.int (bI x) :: .ref (a 28) :: st) := V.put X (ty := .boolean) tyX1 tyX1_ok nmX1 inX1 28 rfl rfl 8 (by decide) rfl (by decide +kernel) (bI_nar _) (bI_fits _) (Nat.le_of_ble_eq_true rfl) rfl (Or.inl rfl) hw hd kk
theorem Vg_c_28_kept {Z : Cx} {own : String} {cc : ByteArray} {rt : Option FieldType} {lv : List (Nat × Value)} {pc : Nat} {st : List Value} {a : Nat → Nat} {σ : St} (X : XC Z own cc rt) {index : Nat} {x : Nat} (hw : Cond.fieldLink own index "NestedDeeds$Copying" "kept" "I" ∈ tb) (hd : decode cc pc = .ok (.getfield index, 3)) (e : gN σ 15 = x) (kk : V Z (cw (zG Z) a σ) lv (pc + 3) (.int (nI x) :: st)) : V Z (cw (zG Z) a σ) lv pc (.ref (a 28) :: st) := by subst e; exact V.get X inX1 28 rfl rfl 9 (by decide) rfl (Or.inl rfl) hw hd kk
theorem Vp_c_28_kept {Z : Cx} {own : String} {cc : ByteArray} {rt : Option FieldType} {lv : List (Nat × Value)} {pc : Nat} {st : List Value} {a : Nat → Nat} {σ : St} (X : XC Z own cc rt) {index : Nat} {x : Nat} (hw : Cond.fieldLink own index "NestedDeeds$Copying" "kept" "I" ∈ tb) (hd : decode cc pc = .ok (.putfield index, 3)) (kk : V Z (cw (zG Z) a (sN σ 15 x)) lv (pc + 3) st) : V Z (cw (zG Z) a σ) lv pc (.int (nI x) :: .ref (a 28) :: st) := V.put X (ty := .int) tyX1 tyX1_ok nmX1 inX1 28 rfl rfl 9 (by decide) rfl (by decide +kernel) rfl rfl (Nat.le_of_ble_eq_true rfl) rfl (Or.inl rfl) hw hd kk
theorem Va_c_keptAt {Z : Cx} {own : String} {cc : ByteArray} {rt : Option FieldType} {lv : List (Nat × Value)} {pc : Nat} {st : List Value} {a : Nat → Nat} {σ : St} (X : XC Z own cc rt) {i : Nat} {x : Bool} (hi : i < 1502) (hd : decode cc pc = .ok (.baload, 1)) (e : gZ σ 0 i = x) (kk : V Z (cw (zG Z) a σ) lv (pc + 1) (.int (bI x) :: st)) : V Z (cw (zG Z) a σ) lv pc (.int (nI i) :: .ref (a 29) :: st) := by subst e; exact V.zald X 29 rfl (vp_in_nI hi (by decide)) hd (by rw [nI_clamp (by omega)]; exact kk)
theorem Vs_c_keptAt {Z : Cx} {own : String} {cc : ByteArray} {rt : Option FieldType} {lv : List (Nat × Value)} {pc : Nat} {st : List Value} {a : Nat → Nat} {σ : St} (X : XC Z own cc rt) {i : Nat} {x : Bool} (hi : i < 1502) (hd : decode cc pc = .ok (.bastore, 1)) (kk : V Z (cw (zG Z) a (sZ σ 0 (va_up (gZ σ 0) i x))) lv (pc + 1) st) : V Z (cw (zG Z) a σ) lv pc (.int (bI x) :: .int (nI i) :: .ref (a 29) :: st) := V.zast X 29 rfl (vp_in_nI hi (by decide)) (by rw [nI_clamp (by omega), upB]; rfl) hd kk
theorem Va_c_keptPartsAt {Z : Cx} {own : String} {cc : ByteArray} {rt : Option FieldType} {lv : List (Nat × Value)} {pc : Nat} {st : List Value} {a : Nat → Nat} {σ : St} (X : XC Z own cc rt) {i : Nat} {x : Nat} (hi : i < 1502) (hd : decode cc pc = .ok (.iaload, 1)) (e : gA σ 10 i = x) (kk : V Z (cw (zG Z) a σ) lv (pc + 1) (.int (nI x) :: st)) : V Z (cw (zG Z) a σ) lv pc (.int (nI i) :: .ref (a 30) :: st) := by subst e; exact V.iald X 30 rfl (vp_in_nI hi (by decide)) hd (by rw [nI_clamp (by omega)]; exact kk)
theorem Vs_c_keptPartsAt {Z : Cx} {own : String} {cc : ByteArray} {rt : Option FieldType} {lv : List (Nat × Value)} {pc : Nat} {st : List Value} {a : Nat → Nat} {σ : St} (X : XC Z own cc rt) {i : Nat} {x : Nat} (hi : i < 1502) (hd : decode cc pc = .ok (.iastore, 1)) (kk : V Z (cw (zG Z) a (sA σ 10 (va_up (gA σ 10) i x))) lv (pc + 1) st) : V Z (cw (zG Z) a σ) lv pc (.int (nI x) :: .int (nI i) :: .ref (a 30) :: st) := V.iast X 30 rfl (vp_in_nI hi (by decide)) (by rw [nI_clamp (by omega), upN]; rfl) hd kk
theorem Va_c_mark {Z : Cx} {own : String} {cc : ByteArray} {rt : Option FieldType} {lv : List (Nat × Value)} {pc : Nat} {st : List Value} {a : Nat → Nat} {σ : St} (X : XC Z own cc rt) {i : Nat} {x : Int64} (hi : i < 1500) (hd : decode cc pc = .ok (.laload, 1)) (e : gL σ 2 i = x) (kk : V Z (cw (zG Z) a σ) lv (pc + 1) (.long x :: st)) : V Z (cw (zG Z) a σ) lv pc (.int (nI i) :: .ref (a 31) :: st) := by subst e; exact V.lald X 31 rfl (vp_in_nI hi (by decide)) hd (by rw [nI_clamp (by omega)]; exact kk)
theorem Vs_c_mark {Z : Cx} {own : String} {cc : ByteArray} {rt : Option FieldType} {lv : List (Nat × Value)} {pc : Nat} {st : List Value} {a : Nat → Nat} {σ : St} (X : XC Z own cc rt) {i : Nat} {x : Int64} (hi : i < 1500) (hd : decode cc pc = .ok (.lastore, 1)) (kk : V Z (cw (zG Z) a (sL σ 2 (va_up (gL σ 2) i x))) lv (pc + 1) st) : V Z (cw (zG Z) a σ) lv pc (.long x :: .int (nI i) :: .ref (a 31) :: st) := V.last X 31 rfl (vp_in_nI hi (by decide)) (by rw [nI_clamp (by omega)]; rfl) hd kk
theorem Va_c_sorted {Z : Cx} {own : String} {cc : ByteArray} {rt : Option FieldType} {lv : List (Nat × Value)} {pc : Nat} {st : List Value} {a : Nat → Nat} {σ : St} (X : XC Z own cc rt) {i : Nat} {x : Nat} (hi : i < 4000) (hd : decode cc pc = .ok (.iaload, 1)) (e : gA σ 11 i = x) (kk : V Z (cw (zG Z) a σ) lv (pc + 1) (.int (nI x) :: st)) : V Z (cw (zG Z) a σ) lv pc (.int (nI i) :: .ref (a 32) :: st) := by subst e; exact V.iald X 32 rfl (vp_in_nI hi (by decide)) hd (by rw [nI_clamp (by omega)]; exact kk)
theorem Vs_c_sorted {Z : Cx} {own : String} {cc : ByteArray} {rt : Option FieldType} {lv : List (Nat × Value)} {pc : Nat} {st : List Value} {a : Nat → Nat} {σ : St} (X : XC Z own cc rt) {i : Nat} {x : Nat} (hi : i < 4000) (hd : decode cc pc = .ok (.iastore, 1)) (kk : V Z (cw (zG Z) a (sA σ 11 (va_up (gA σ 11) i x))) lv (pc + 1) st) : V Z (cw (zG Z) a σ) lv pc (.int (nI x) :: .int (nI i) :: .ref (a 32) :: st) := V.iast X 32 rfl (vp_in_nI hi (by decide)) (by rw [nI_clamp (by omega), upN]; rfl) hd kk
theorem Vg_r_0_deeds {Z : Cx} {own : String} {cc : ByteArray} {rt : Option FieldType} {lv : List (Nat × Value)} {pc : Nat} {st : List Value} {a : Nat → Nat} {σ : St} (X : XC Z own cc rt) {index : Nat} {x : Nat} (hw : Cond.fieldLink own index "NestedDeedsModel" "deeds" "I" ∈ tb) (hd : decode cc pc = .ok (.getfield index, 3)) (e : gN σ 0 = x) (kk : V Z (rw (zG Z) a σ) lv (pc + 3) (.int (nI x) :: st)) : V Z (rw (zG Z) a σ) lv pc (.ref (a 0) :: st) := by subst e; exact V.get X inX12 0 rfl rfl 0 (by decide) rfl (Or.inl rfl) hw hd kk
theorem Vp_r_0_deeds {Z : Cx} {own : String} {cc : ByteArray} {rt : Option FieldType} {lv : List (Nat × Value)} {pc : Nat} {st : List Value} {a : Nat → Nat} {σ : St} (X : XC Z own cc rt) {index : Nat} {x : Nat} (hw : Cond.fieldLink own index "NestedDeedsModel" "deeds" "I" ∈ tb) (hd : decode cc pc = .ok (.putfield index, 3)) (kk : V Z (rw (zG Z) a (sN σ 0 x)) lv (pc + 3) st) : V Z (rw (zG Z) a σ) lv pc (.int (nI x) :: .ref (a 0) :: st) := V.put X (ty := .int) tyX12 tyX12_ok nmX12 inX12 0 rfl rfl 0 (by decide) rfl (by decide +kernel) rfl rfl (Nat.le_of_ble_eq_true rfl) rfl (Or.inl rfl) hw hd kk
theorem Vg_r_0_kind {Z : Cx} {own : String} {cc : ByteArray} {rt : Option FieldType} {lv : List (Nat × Value)} {pc : Nat} {st : List Value} {a : Nat → Nat} {σ : St} (X : XC Z own cc rt) {index : Nat} (hw : Cond.fieldLink own index "NestedDeedsModel" "kind" "[I" ∈ tb) (hd : decode cc pc = .ok (.getfield index, 3)) (kk : V Z (rw (zG Z) a σ) lv (pc + 3) (.ref (a 1) :: st)) : V Z (rw (zG Z) a σ) lv pc (.ref (a 0) :: st) := V.get X inX12 0 rfl rfl 1 (by decide) rfl (Or.inl rfl) hw hd kk
theorem Vg_r_0_number {Z : Cx} {own : String} {cc : ByteArray} {rt : Option FieldType} {lv : List (Nat × Value)} {pc : Nat} {st : List Value} {a : Nat → Nat} {σ : St} (X : XC Z own cc rt) {index : Nat} (hw : Cond.fieldLink own index "NestedDeedsModel" "number" "[I" ∈ tb) (hd : decode cc pc = .ok (.getfield index, 3)) (kk : V Z (rw (zG Z) a σ) lv (pc + 3) (.ref (a 2) :: st)) : V Z (rw (zG Z) a σ) lv pc (.ref (a 0) :: st) := V.get X inX12 0 rfl rfl 2 (by decide) rfl (Or.inl rfl) hw hd kk
theorem Vg_r_0_partMany {Z : Cx} {own : String} {cc : ByteArray} {rt : Option FieldType} {lv : List (Nat × Value)} {pc : Nat} {st : List Value} {a : Nat → Nat} {σ : St} (X : XC Z own cc rt) {index : Nat} (hw : Cond.fieldLink own index "NestedDeedsModel" "partMany" "[I" ∈ tb) (hd : decode cc pc = .ok (.getfield index, 3)) (kk : V Z (rw (zG Z) a σ) lv (pc + 3) (.ref (a 3) :: st)) : V Z (rw (zG Z) a σ) lv pc (.ref (a 0) :: st) := V.get X inX12 0 rfl rfl 3 (by decide) rfl (Or.inl rfl) hw hd kk
theorem Vg_r_0_firstPart {Z : Cx} {own : String} {cc : ByteArray} {rt : Option FieldType} {lv : List (Nat × Value)} {pc : Nat} {st : List Value} {a : Nat → Nat} {σ : St} (X : XC Z own cc rt) {index : Nat} (hw : Cond.fieldLink own index "NestedDeedsModel" "firstPart" "[I" ∈ tb) (hd : decode cc pc = .ok (.getfield index, 3)) (kk : V Z (rw (zG Z) a σ) lv (pc + 3) (.ref (a 4) :: st)) : V Z (rw (zG Z) a σ) lv pc (.ref (a 0) :: st) := V.get X inX12 0 rfl rfl 4 (by decide) rfl (Or.inl rfl) hw hd kk
theorem Vg_r_0_lastPart {Z : Cx} {own : String} {cc : ByteArray} {rt : Option FieldType} {lv : List (Nat × Value)} {pc : Nat} {st : List Value} {a : Nat → Nat} {σ : St} (X : XC Z own cc rt) {index : Nat} (hw : Cond.fieldLink own index "NestedDeedsModel" "lastPart" "[I" ∈ tb) (hd : decode cc pc = .ok (.getfield index, 3)) (kk : V Z (rw (zG Z) a σ) lv (pc + 3) (.ref (a 5) :: st)) : V Z (rw (zG Z) a σ) lv pc (.ref (a 0) :: st) := V.get X inX12 0 rfl rfl 5 (by decide) rfl (Or.inl rfl) hw hd kk
theorem Vg_r_0_parts {Z : Cx} {own : String} {cc : ByteArray} {rt : Option FieldType} {lv : List (Nat × Value)} {pc : Nat} {st : List Value} {a : Nat → Nat} {σ : St} (X : XC Z own cc rt) {index : Nat} {x : Nat} (hw : Cond.fieldLink own index "NestedDeedsModel" "parts" "I" ∈ tb) (hd : decode cc pc = .ok (.getfield index, 3)) (e : gN σ 1 = x) (kk : V Z (rw (zG Z) a σ) lv (pc + 3) (.int (nI x) :: st)) : V Z (rw (zG Z) a σ) lv pc (.ref (a 0) :: st) := by subst e; exact V.get X inX12 0 rfl rfl 6 (by decide) rfl (Or.inl rfl) hw hd kk
theorem Vp_r_0_parts {Z : Cx} {own : String} {cc : ByteArray} {rt : Option FieldType} {lv : List (Nat × Value)} {pc : Nat} {st : List Value} {a : Nat → Nat} {σ : St} (X : XC Z own cc rt) {index : Nat} {x : Nat} (hw : Cond.fieldLink own index "NestedDeedsModel" "parts" "I" ∈ tb) (hd : decode cc pc = .ok (.putfield index, 3)) (kk : V Z (rw (zG Z) a (sN σ 1 x)) lv (pc + 3) st) : V Z (rw (zG Z) a σ) lv pc (.int (nI x) :: .ref (a 0) :: st) := V.put X (ty := .int) tyX12 tyX12_ok nmX12 inX12 0 rfl rfl 6 (by decide) rfl (by decide +kernel) rfl rfl (Nat.le_of_ble_eq_true rfl) rfl (Or.inl rfl) hw hd kk
theorem Vg_r_0_partOf {Z : Cx} {own : String} {cc : ByteArray} {rt : Option FieldType} {lv : List (Nat × Value)} {pc : Nat} {st : List Value} {a : Nat → Nat} {σ : St} (X : XC Z own cc rt) {index : Nat} (hw : Cond.fieldLink own index "NestedDeedsModel" "partOf" "[I" ∈ tb) (hd : decode cc pc = .ok (.getfield index, 3)) (kk : V Z (rw (zG Z) a σ) lv (pc + 3) (.ref (a 6) :: st)) : V Z (rw (zG Z) a σ) lv pc (.ref (a 0) :: st) := V.get X inX12 0 rfl rfl 7 (by decide) rfl (Or.inl rfl) hw hd kk
theorem Vg_r_0_nextPart {Z : Cx} {own : String} {cc : ByteArray} {rt : Option FieldType} {lv : List (Nat × Value)} {pc : Nat} {st : List Value} {a : Nat → Nat} {σ : St} (X : XC Z own cc rt) {index : Nat} (hw : Cond.fieldLink own index "NestedDeedsModel" "nextPart" "[I" ∈ tb) (hd : decode cc pc = .ok (.getfield index, 3)) (kk : V Z (rw (zG Z) a σ) lv (pc + 3) (.ref (a 7) :: st)) : V Z (rw (zG Z) a σ) lv pc (.ref (a 0) :: st) := V.get X inX12 0 rfl rfl 8 (by decide) rfl (Or.inl rfl) hw hd kk
theorem Vg_r_0_way {Z : Cx} {own : String} {cc : ByteArray} {rt : Option FieldType} {lv : List (Nat × Value)} {pc : Nat} {st : List Value} {a : Nat → Nat} {σ : St} (X : XC Z own cc rt) {index : Nat} {x : Nat} (hw : Cond.fieldLink own index "NestedDeedsModel" "way" "I" ∈ tb) (hd : decode cc pc = .ok (.getfield index, 3)) (e : gN σ 2 = x) (kk : V Z (rw (zG Z) a σ) lv (pc + 3) (.int (nI x) :: st)) : V Z (rw (zG Z) a σ) lv pc (.ref (a 0) :: st) := by subst e; exact V.get X inX12 0 rfl rfl 9 (by decide) rfl (Or.inl rfl) hw hd kk
theorem Vp_r_0_way {Z : Cx} {own : String} {cc : ByteArray} {rt : Option FieldType} {lv : List (Nat × Value)} {pc : Nat} {st : List Value} {a : Nat → Nat} {σ : St} (X : XC Z own cc rt) {index : Nat} {x : Nat} (hw : Cond.fieldLink own index "NestedDeedsModel" "way" "I" ∈ tb) (hd : decode cc pc = .ok (.putfield index, 3)) (kk : V Z (rw (zG Z) a (sN σ 2 x)) lv (pc + 3) st) : V Z (rw (zG Z) a σ) lv pc (.int (nI x) :: .ref (a 0) :: st) := V.put X (ty := .int) tyX12 tyX12_ok nmX12 inX12 0 rfl rfl 9 (by decide) rfl (by decide +kernel) rfl rfl (Nat.le_of_ble_eq_true rfl) rfl (Or.inl rfl) hw hd kk
theorem Vg_r_0_meter {Z : Cx} {own : String} {cc : ByteArray} {rt : Option FieldType} {lv : List (Nat × Value)} {pc : Nat} {st : List Value} {a : Nat → Nat} {σ : St} (X : XC Z own cc rt) {index : Nat} {x : Nat} (hw : Cond.fieldLink own index "NestedDeedsModel" "meter" "I" ∈ tb) (hd : decode cc pc = .ok (.getfield index, 3)) (e : gN σ 3 = x) (kk : V Z (rw (zG Z) a σ) lv (pc + 3) (.int (nI x) :: st)) : V Z (rw (zG Z) a σ) lv pc (.ref (a 0) :: st) := by subst e; exact V.get X inX12 0 rfl rfl 10 (by decide) rfl (Or.inl rfl) hw hd kk
theorem Vp_r_0_meter {Z : Cx} {own : String} {cc : ByteArray} {rt : Option FieldType} {lv : List (Nat × Value)} {pc : Nat} {st : List Value} {a : Nat → Nat} {σ : St} (X : XC Z own cc rt) {index : Nat} {x : Nat} (hw : Cond.fieldLink own index "NestedDeedsModel" "meter" "I" ∈ tb) (hd : decode cc pc = .ok (.putfield index, 3)) (kk : V Z (rw (zG Z) a (sN σ 3 x)) lv (pc + 3) st) : V Z (rw (zG Z) a σ) lv pc (.int (nI x) :: .ref (a 0) :: st) := V.put X (ty := .int) tyX12 tyX12_ok nmX12 inX12 0 rfl rfl 10 (by decide) rfl (by decide +kernel) rfl rfl (Nat.le_of_ble_eq_true rfl) rfl (Or.inl rfl) hw hd kk
theorem Vg_r_0_paper {Z : Cx} {own : String} {cc : ByteArray} {rt : Option FieldType} {lv : List (Nat × Value)} {pc : Nat} {st : List Value} {a : Nat → Nat} {σ : St} (X : XC Z own cc rt) {index : Nat} (hw : Cond.fieldLink own index "NestedDeedsModel" "paper" "[I" ∈ tb) (hd : decode cc pc = .ok (.getfield index, 3)) (kk : V Z (rw (zG Z) a σ) lv (pc + 3) (.ref (a 8) :: st)) : V Z (rw (zG Z) a σ) lv pc (.ref (a 0) :: st) := V.get X inX12 0 rfl rfl 11 (by decide) rfl (Or.inl rfl) hw hd kk
theorem Vg_r_0_paperSize {Z : Cx} {own : String} {cc : ByteArray} {rt : Option FieldType} {lv : List (Nat × Value)} {pc : Nat} {st : List Value} {a : Nat → Nat} {σ : St} (X : XC Z own cc rt) {index : Nat} {x : Nat} (hw : Cond.fieldLink own index "NestedDeedsModel" "paperSize" "I" ∈ tb) (hd : decode cc pc = .ok (.getfield index, 3)) (e : gN σ 4 = x) (kk : V Z (rw (zG Z) a σ) lv (pc + 3) (.int (nI x) :: st)) : V Z (rw (zG Z) a σ) lv pc (.ref (a 0) :: st) := by subst e; exact V.get X inX12 0 rfl rfl 12 (by decide) rfl (Or.inl rfl) hw hd kk
theorem Vp_r_0_paperSize {Z : Cx} {own : String} {cc : ByteArray} {rt : Option FieldType} {lv : List (Nat × Value)} {pc : Nat} {st : List Value} {a : Nat → Nat} {σ : St} (X : XC Z own cc rt) {index : Nat} {x : Nat} (hw : Cond.fieldLink own index "NestedDeedsModel" "paperSize" "I" ∈ tb) (hd : decode cc pc = .ok (.putfield index, 3)) (kk : V Z (rw (zG Z) a (sN σ 4 x)) lv (pc + 3) st) : V Z (rw (zG Z) a σ) lv pc (.int (nI x) :: .ref (a 0) :: st) := V.put X (ty := .int) tyX12 tyX12_ok nmX12 inX12 0 rfl rfl 12 (by decide) rfl (by decide +kernel) rfl rfl (Nat.le_of_ble_eq_true rfl) rfl (Or.inl rfl) hw hd kk
theorem Vg_r_0_answer {Z : Cx} {own : String} {cc : ByteArray} {rt : Option FieldType} {lv : List (Nat × Value)} {pc : Nat} {st : List Value} {a : Nat → Nat} {σ : St} (X : XC Z own cc rt) {index : Nat} {x : Int32} (hw : Cond.fieldLink own index "NestedDeedsModel" "answer" "I" ∈ tb) (hd : decode cc pc = .ok (.getfield index, 3)) (e : gI σ 0 = x) (kk : V Z (rw (zG Z) a σ) lv (pc + 3) (.int (x) :: st)) : V Z (rw (zG Z) a σ) lv pc (.ref (a 0) :: st) := by subst e; exact V.get X inX12 0 rfl rfl 13 (by decide) rfl (Or.inl rfl) hw hd kk
theorem Vp_r_0_answer {Z : Cx} {own : String} {cc : ByteArray} {rt : Option FieldType} {lv : List (Nat × Value)} {pc : Nat} {st : List Value} {a : Nat → Nat} {σ : St} (X : XC Z own cc rt) {index : Nat} {x : Int32} (hw : Cond.fieldLink own index "NestedDeedsModel" "answer" "I" ∈ tb) (hd : decode cc pc = .ok (.putfield index, 3)) (kk : V Z (rw (zG Z) a (sI σ 0 x)) lv (pc + 3) st) : V Z (rw (zG Z) a σ) lv pc (.int (x) :: .ref (a 0) :: st) := V.put X (ty := .int) tyX12 tyX12_ok nmX12 inX12 0 rfl rfl 13 (by decide) rfl (by decide +kernel) rfl rfl (Nat.le_of_ble_eq_true rfl) rfl (Or.inl rfl) hw hd kk
theorem Vg_r_0_toldVisited {Z : Cx} {own : String} {cc : ByteArray} {rt : Option FieldType} {lv : List (Nat × Value)} {pc : Nat} {st : List Value} {a : Nat → Nat} {σ : St} (X : XC Z own cc rt) {index : Nat} {x : Nat} (hw : Cond.fieldLink own index "NestedDeedsModel" "toldVisited" "I" ∈ tb) (hd : decode cc pc = .ok (.getfield index, 3)) (e : gN σ 5 = x) (kk : V Z (rw (zG Z) a σ) lv (pc + 3) (.int (nI x) :: st)) : V Z (rw (zG Z) a σ) lv pc (.ref (a 0) :: st) := by subst e; exact V.get X inX12 0 rfl rfl 14 (by decide) rfl (Or.inl rfl) hw hd kk
theorem Vp_r_0_toldVisited {Z : Cx} {own : String} {cc : ByteArray} {rt : Option FieldType} {lv : List (Nat × Value)} {pc : Nat} {st : List Value} {a : Nat → Nat} {σ : St} (X : XC Z own cc rt) {index : Nat} {x : Nat} (hw : Cond.fieldLink own index "NestedDeedsModel" "toldVisited" "I" ∈ tb) (hd : decode cc pc = .ok (.putfield index, 3)) (kk : V Z (rw (zG Z) a (sN σ 5 x)) lv (pc + 3) st) : V Z (rw (zG Z) a σ) lv pc (.int (nI x) :: .ref (a 0) :: st) := V.put X (ty := .int) tyX12 tyX12_ok nmX12 inX12 0 rfl rfl 14 (by decide) rfl (by decide +kernel) rfl rfl (Nat.le_of_ble_eq_true rfl) rfl (Or.inl rfl) hw hd kk
theorem Vg_r_0_toldCalls {Z : Cx} {own : String} {cc : ByteArray} {rt : Option FieldType} {lv : List (Nat × Value)} {pc : Nat} {st : List Value} {a : Nat → Nat} {σ : St} (X : XC Z own cc rt) {index : Nat} {x : Nat} (hw : Cond.fieldLink own index "NestedDeedsModel" "toldCalls" "I" ∈ tb) (hd : decode cc pc = .ok (.getfield index, 3)) (e : gN σ 6 = x) (kk : V Z (rw (zG Z) a σ) lv (pc + 3) (.int (nI x) :: st)) : V Z (rw (zG Z) a σ) lv pc (.ref (a 0) :: st) := by subst e; exact V.get X inX12 0 rfl rfl 15 (by decide) rfl (Or.inl rfl) hw hd kk
theorem Vp_r_0_toldCalls {Z : Cx} {own : String} {cc : ByteArray} {rt : Option FieldType} {lv : List (Nat × Value)} {pc : Nat} {st : List Value} {a : Nat → Nat} {σ : St} (X : XC Z own cc rt) {index : Nat} {x : Nat} (hw : Cond.fieldLink own index "NestedDeedsModel" "toldCalls" "I" ∈ tb) (hd : decode cc pc = .ok (.putfield index, 3)) (kk : V Z (rw (zG Z) a (sN σ 6 x)) lv (pc + 3) st) : V Z (rw (zG Z) a σ) lv pc (.int (nI x) :: .ref (a 0) :: st) := V.put X (ty := .int) tyX12 tyX12_ok nmX12 inX12 0 rfl rfl 15 (by decide) rfl (by decide +kernel) rfl rfl (Nat.le_of_ble_eq_true rfl) rfl (Or.inl rfl) hw hd kk
theorem Vg_r_0_worths {Z : Cx} {own : String} {cc : ByteArray} {rt : Option FieldType} {lv : List (Nat × Value)} {pc : Nat} {st : List Value} {a : Nat → Nat} {σ : St} (X : XC Z own cc rt) {index : Nat} (hw : Cond.fieldLink own index "NestedDeedsModel" "worths" "[J" ∈ tb) (hd : decode cc pc = .ok (.getfield index, 3)) (kk : V Z (rw (zG Z) a σ) lv (pc + 3) (.ref (a 9) :: st)) : V Z (rw (zG Z) a σ) lv pc (.ref (a 0) :: st) := V.get X inX12 0 rfl rfl 16 (by decide) rfl (Or.inl rfl) hw hd kk
theorem Vg_r_0_marks {Z : Cx} {own : String} {cc : ByteArray} {rt : Option FieldType} {lv : List (Nat × Value)} {pc : Nat} {st : List Value} {a : Nat → Nat} {σ : St} (X : XC Z own cc rt) {index : Nat} (hw : Cond.fieldLink own index "NestedDeedsModel" "marks" "[J" ∈ tb) (hd : decode cc pc = .ok (.getfield index, 3)) (kk : V Z (rw (zG Z) a σ) lv (pc + 3) (.ref (a 10) :: st)) : V Z (rw (zG Z) a σ) lv pc (.ref (a 0) :: st) := V.get X inX12 0 rfl rfl 17 (by decide) rfl (Or.inl rfl) hw hd kk
theorem Vg_r_0_depth {Z : Cx} {own : String} {cc : ByteArray} {rt : Option FieldType} {lv : List (Nat × Value)} {pc : Nat} {st : List Value} {a : Nat → Nat} {σ : St} (X : XC Z own cc rt) {index : Nat} {x : Nat} (hw : Cond.fieldLink own index "NestedDeedsModel" "depth" "I" ∈ tb) (hd : decode cc pc = .ok (.getfield index, 3)) (e : gN σ 7 = x) (kk : V Z (rw (zG Z) a σ) lv (pc + 3) (.int (nI x) :: st)) : V Z (rw (zG Z) a σ) lv pc (.ref (a 0) :: st) := by subst e; exact V.get X inX12 0 rfl rfl 18 (by decide) rfl (Or.inl rfl) hw hd kk
theorem Vp_r_0_depth {Z : Cx} {own : String} {cc : ByteArray} {rt : Option FieldType} {lv : List (Nat × Value)} {pc : Nat} {st : List Value} {a : Nat → Nat} {σ : St} (X : XC Z own cc rt) {index : Nat} {x : Nat} (hw : Cond.fieldLink own index "NestedDeedsModel" "depth" "I" ∈ tb) (hd : decode cc pc = .ok (.putfield index, 3)) (kk : V Z (rw (zG Z) a (sN σ 7 x)) lv (pc + 3) st) : V Z (rw (zG Z) a σ) lv pc (.int (nI x) :: .ref (a 0) :: st) := V.put X (ty := .int) tyX12 tyX12_ok nmX12 inX12 0 rfl rfl 18 (by decide) rfl (by decide +kernel) rfl rfl (Nat.le_of_ble_eq_true rfl) rfl (Or.inl rfl) hw hd kk
theorem Vg_r_0_visited {Z : Cx} {own : String} {cc : ByteArray} {rt : Option FieldType} {lv : List (Nat × Value)} {pc : Nat} {st : List Value} {a : Nat → Nat} {σ : St} (X : XC Z own cc rt) {index : Nat} {x : Nat} (hw : Cond.fieldLink own index "NestedDeedsModel" "visited" "I" ∈ tb) (hd : decode cc pc = .ok (.getfield index, 3)) (e : gN σ 8 = x) (kk : V Z (rw (zG Z) a σ) lv (pc + 3) (.int (nI x) :: st)) : V Z (rw (zG Z) a σ) lv pc (.ref (a 0) :: st) := by subst e; exact V.get X inX12 0 rfl rfl 19 (by decide) rfl (Or.inl rfl) hw hd kk
theorem Vp_r_0_visited {Z : Cx} {own : String} {cc : ByteArray} {rt : Option FieldType} {lv : List (Nat × Value)} {pc : Nat} {st : List Value} {a : Nat → Nat} {σ : St} (X : XC Z own cc rt) {index : Nat} {x : Nat} (hw : Cond.fieldLink own index "NestedDeedsModel" "visited" "I" ∈ tb) (hd : decode cc pc = .ok (.putfield index, 3)) (kk : V Z (rw (zG Z) a (sN σ 8 x)) lv (pc + 3) st) : V Z (rw (zG Z) a σ) lv pc (.int (nI x) :: .ref (a 0) :: st) := V.put X (ty := .int) tyX12 tyX12_ok nmX12 inX12 0 rfl rfl 19 (by decide) rfl (by decide +kernel) rfl rfl (Nat.le_of_ble_eq_true rfl) rfl (Or.inl rfl) hw hd kk
theorem Vg_r_0_deepest {Z : Cx} {own : String} {cc : ByteArray} {rt : Option FieldType} {lv : List (Nat × Value)} {pc : Nat} {st : List Value} {a : Nat → Nat} {σ : St} (X : XC Z own cc rt) {index : Nat} {x : Nat} (hw : Cond.fieldLink own index "NestedDeedsModel" "deepest" "I" ∈ tb) (hd : decode cc pc = .ok (.getfield index, 3)) (e : gN σ 9 = x) (kk : V Z (rw (zG Z) a σ) lv (pc + 3) (.int (nI x) :: st)) : V Z (rw (zG Z) a σ) lv pc (.ref (a 0) :: st) := by subst e; exact V.get X inX12 0 rfl rfl 20 (by decide) rfl (Or.inl rfl) hw hd kk
theorem Vp_r_0_deepest {Z : Cx} {own : String} {cc : ByteArray} {rt : Option FieldType} {lv : List (Nat × Value)} {pc : Nat} {st : List Value} {a : Nat → Nat} {σ : St} (X : XC Z own cc rt) {index : Nat} {x : Nat} (hw : Cond.fieldLink own index "NestedDeedsModel" "deepest" "I" ∈ tb) (hd : decode cc pc = .ok (.putfield index, 3)) (kk : V Z (rw (zG Z) a (sN σ 9 x)) lv (pc + 3) st) : V Z (rw (zG Z) a σ) lv pc (.int (nI x) :: .ref (a 0) :: st) := V.put X (ty := .int) tyX12 tyX12_ok nmX12 inX12 0 rfl rfl 20 (by decide) rfl (by decide +kernel) rfl rfl (Nat.le_of_ble_eq_true rfl) rfl (Or.inl rfl) hw hd kk
theorem Vg_r_0_pile {Z : Cx} {own : String} {cc : ByteArray} {rt : Option FieldType} {lv : List (Nat × Value)} {pc : Nat} {st : List Value} {a : Nat → Nat} {σ : St} (X : XC Z own cc rt) {index : Nat} (hw : Cond.fieldLink own index "NestedDeedsModel" "pile" "[I" ∈ tb) (hd : decode cc pc = .ok (.getfield index, 3)) (kk : V Z (rw (zG Z) a σ) lv (pc + 3) (.ref (a 11) :: st)) : V Z (rw (zG Z) a σ) lv pc (.ref (a 0) :: st) := V.get X inX12 0 rfl rfl 21 (by decide) rfl (Or.inl rfl) hw hd kk
theorem Vg_r_0_other {Z : Cx} {own : String} {cc : ByteArray} {rt : Option FieldType} {lv : List (Nat × Value)} {pc : Nat} {st : List Value} {a : Nat → Nat} {σ : St} (X : XC Z own cc rt) {index : Nat} (hw : Cond.fieldLink own index "NestedDeedsModel" "other" "[I" ∈ tb) (hd : decode cc pc = .ok (.getfield index, 3)) (kk : V Z (rw (zG Z) a σ) lv (pc + 3) (.ref (a 12) :: st)) : V Z (rw (zG Z) a σ) lv pc (.ref (a 0) :: st) := V.get X inX12 0 rfl rfl 22 (by decide) rfl (Or.inl rfl) hw hd kk
theorem Vg_r_0_begun {Z : Cx} {own : String} {cc : ByteArray} {rt : Option FieldType} {lv : List (Nat × Value)} {pc : Nat} {st : List Value} {a : Nat → Nat} {σ : St} (X : XC Z own cc rt) {index : Nat} (hw : Cond.fieldLink own index "NestedDeedsModel" "begun" "[I" ∈ tb) (hd : decode cc pc = .ok (.getfield index, 3)) (kk : V Z (rw (zG Z) a σ) lv (pc + 3) (.ref (a 13) :: st)) : V Z (rw (zG Z) a σ) lv pc (.ref (a 0) :: st) := V.get X inX12 0 rfl rfl 23 (by decide) rfl (Or.inl rfl) hw hd kk
theorem Vg_r_0_visitDeed {Z : Cx} {own : String} {cc : ByteArray} {rt : Option FieldType} {lv : List (Nat × Value)} {pc : Nat} {st : List Value} {a : Nat → Nat} {σ : St} (X : XC Z own cc rt) {index : Nat} (hw : Cond.fieldLink own index "NestedDeedsModel" "visitDeed" "[I" ∈ tb) (hd : decode cc pc = .ok (.getfield index, 3)) (kk : V Z (rw (zG Z) a σ) lv (pc + 3) (.ref (a 14) :: st)) : V Z (rw (zG Z) a σ) lv pc (.ref (a 0) :: st) := V.get X inX12 0 rfl rfl 24 (by decide) rfl (Or.inl rfl) hw hd kk
theorem Vg_r_0_visitDepth {Z : Cx} {own : String} {cc : ByteArray} {rt : Option FieldType} {lv : List (Nat × Value)} {pc : Nat} {st : List Value} {a : Nat → Nat} {σ : St} (X : XC Z own cc rt) {index : Nat} (hw : Cond.fieldLink own index "NestedDeedsModel" "visitDepth" "[I" ∈ tb) (hd : decode cc pc = .ok (.getfield index, 3)) (kk : V Z (rw (zG Z) a σ) lv (pc + 3) (.ref (a 15) :: st)) : V Z (rw (zG Z) a σ) lv pc (.ref (a 0) :: st) := V.get X inX12 0 rfl rfl 25 (by decide) rfl (Or.inl rfl) hw hd kk
theorem Vg_r_0_sheet {Z : Cx} {own : String} {cc : ByteArray} {rt : Option FieldType} {lv : List (Nat × Value)} {pc : Nat} {st : List Value} {a : Nat → Nat} {σ : St} (X : XC Z own cc rt) {index : Nat} (hw : Cond.fieldLink own index "NestedDeedsModel" "sheet" "[I" ∈ tb) (hd : decode cc pc = .ok (.getfield index, 3)) (kk : V Z (rw (zG Z) a σ) lv (pc + 3) (.ref (a 16) :: st)) : V Z (rw (zG Z) a σ) lv pc (.ref (a 0) :: st) := V.get X inX12 0 rfl rfl 26 (by decide) rfl (Or.inl rfl) hw hd kk
theorem Vg_r_0_sheetSize {Z : Cx} {own : String} {cc : ByteArray} {rt : Option FieldType} {lv : List (Nat × Value)} {pc : Nat} {st : List Value} {a : Nat → Nat} {σ : St} (X : XC Z own cc rt) {index : Nat} {x : Nat} (hw : Cond.fieldLink own index "NestedDeedsModel" "sheetSize" "I" ∈ tb) (hd : decode cc pc = .ok (.getfield index, 3)) (e : gN σ 10 = x) (kk : V Z (rw (zG Z) a σ) lv (pc + 3) (.int (nI x) :: st)) : V Z (rw (zG Z) a σ) lv pc (.ref (a 0) :: st) := by subst e; exact V.get X inX12 0 rfl rfl 27 (by decide) rfl (Or.inl rfl) hw hd kk
theorem Vp_r_0_sheetSize {Z : Cx} {own : String} {cc : ByteArray} {rt : Option FieldType} {lv : List (Nat × Value)} {pc : Nat} {st : List Value} {a : Nat → Nat} {σ : St} (X : XC Z own cc rt) {index : Nat} {x : Nat} (hw : Cond.fieldLink own index "NestedDeedsModel" "sheetSize" "I" ∈ tb) (hd : decode cc pc = .ok (.putfield index, 3)) (kk : V Z (rw (zG Z) a (sN σ 10 x)) lv (pc + 3) st) : V Z (rw (zG Z) a σ) lv pc (.int (nI x) :: .ref (a 0) :: st) := V.put X (ty := .int) tyX12 tyX12_ok nmX12 inX12 0 rfl rfl 27 (by decide) rfl (by decide +kernel) rfl rfl (Nat.le_of_ble_eq_true rfl) rfl (Or.inl rfl) hw hd kk
theorem Vg_r_0_isOver {Z : Cx} {own : String} {cc : ByteArray} {rt : Option FieldType} {lv : List (Nat × Value)} {pc : Nat} {st : List Value} {a : Nat → Nat} {σ : St} (X : XC Z own cc rt) {index : Nat} {x : Bool} (hw : Cond.fieldLink own index "NestedDeedsModel" "isOver" "Z" ∈ tb) (hd : decode cc pc = .ok (.getfield index, 3)) (e : gB σ 0 = x) (kk : V Z (rw (zG Z) a σ) lv (pc + 3) (.int (bI x) :: st)) : V Z (rw (zG Z) a σ) lv pc (.ref (a 0) :: st) := by subst e; exact V.get X inX12 0 rfl rfl 28 (by decide) rfl (Or.inl rfl) hw hd kk
theorem Vp_r_0_isOver {Z : Cx} {own : String} {cc : ByteArray} {rt : Option FieldType} {lv : List (Nat × Value)} {pc : Nat} {st : List Value} {a : Nat → Nat} {σ : St} (X : XC Z own cc rt) {index : Nat} {x : Bool} (hw : Cond.fieldLink own index "NestedDeedsModel" "isOver" "Z" ∈ tb) (hd : decode cc pc = .ok (.putfield index, 3)) (kk : V Z (rw (zG Z) a (sB σ 0 x)) lv (pc + 3) st) : V Z (rw (zG Z) a σ) lv pc (.int (bI x) :: .ref (a 0) :: st) := V.put X (ty := .boolean) tyX12 tyX12_ok nmX12 inX12 0 rfl rfl 28 (by decide) rfl (by decide +kernel) (bI_nar _) (bI_fits _) (Nat.le_of_ble_eq_true rfl) rfl (Or.inl rfl) hw hd kk
theorem Vg_r_0_wide {Z : Cx} {own : String} {cc : ByteArray} {rt : Option FieldType} {lv : List (Nat × Value)} {pc : Nat} {st : List Value} {a : Nat → Nat} {σ : St} (X : XC Z own cc rt) {index : Nat} (hw : Cond.fieldLink own index "NestedDeedsModel" "wide" "[I" ∈ tb) (hd : decode cc pc = .ok (.getfield index, 3)) (kk : V Z (rw (zG Z) a σ) lv (pc + 3) (.ref (a 17) :: st)) : V Z (rw (zG Z) a σ) lv pc (.ref (a 0) :: st) := V.get X inX12 0 rfl rfl 29 (by decide) rfl (Or.inl rfl) hw hd kk
theorem Vg_r_0_nodes {Z : Cx} {own : String} {cc : ByteArray} {rt : Option FieldType} {lv : List (Nat × Value)} {pc : Nat} {st : List Value} {a : Nat → Nat} {σ : St} (X : XC Z own cc rt) {index : Nat} {x : Nat} (hw : Cond.fieldLink own index "NestedDeedsModel" "nodes" "I" ∈ tb) (hd : decode cc pc = .ok (.getfield index, 3)) (e : gN σ 11 = x) (kk : V Z (rw (zG Z) a σ) lv (pc + 3) (.int (nI x) :: st)) : V Z (rw (zG Z) a σ) lv pc (.ref (a 0) :: st) := by subst e; exact V.get X inX12 0 rfl rfl 30 (by decide) rfl (Or.inl rfl) hw hd kk
theorem Vp_r_0_nodes {Z : Cx} {own : String} {cc : ByteArray} {rt : Option FieldType} {lv : List (Nat × Value)} {pc : Nat} {st : List Value} {a : Nat → Nat} {σ : St} (X : XC Z own cc rt) {index : Nat} {x : Nat} (hw : Cond.fieldLink own index "NestedDeedsModel" "nodes" "I" ∈ tb) (hd : decode cc pc = .ok (.putfield index, 3)) (kk : V Z (rw (zG Z) a (sN σ 11 x)) lv (pc + 3) st) : V Z (rw (zG Z) a σ) lv pc (.int (nI x) :: .ref (a 0) :: st) := V.put X (ty := .int) tyX12 tyX12_ok nmX12 inX12 0 rfl rfl 30 (by decide) rfl (by decide +kernel) rfl rfl (Nat.le_of_ble_eq_true rfl) rfl (Or.inl rfl) hw hd kk
theorem Vg_r_0_nodeKind {Z : Cx} {own : String} {cc : ByteArray} {rt : Option FieldType} {lv : List (Nat × Value)} {pc : Nat} {st : List Value} {a : Nat → Nat} {σ : St} (X : XC Z own cc rt) {index : Nat} (hw : Cond.fieldLink own index "NestedDeedsModel" "nodeKind" "[I" ∈ tb) (hd : decode cc pc = .ok (.getfield index, 3)) (kk : V Z (rw (zG Z) a σ) lv (pc + 3) (.ref (a 18) :: st)) : V Z (rw (zG Z) a σ) lv pc (.ref (a 0) :: st) := V.get X inX12 0 rfl rfl 31 (by decide) rfl (Or.inl rfl) hw hd kk
theorem Vg_r_0_nodeNumber {Z : Cx} {own : String} {cc : ByteArray} {rt : Option FieldType} {lv : List (Nat × Value)} {pc : Nat} {st : List Value} {a : Nat → Nat} {σ : St} (X : XC Z own cc rt) {index : Nat} (hw : Cond.fieldLink own index "NestedDeedsModel" "nodeNumber" "[I" ∈ tb) (hd : decode cc pc = .ok (.getfield index, 3)) (kk : V Z (rw (zG Z) a σ) lv (pc + 3) (.ref (a 19) :: st)) : V Z (rw (zG Z) a σ) lv pc (.ref (a 0) :: st) := V.get X inX12 0 rfl rfl 32 (by decide) rfl (Or.inl rfl) hw hd kk
theorem Vg_r_0_nodeMark {Z : Cx} {own : String} {cc : ByteArray} {rt : Option FieldType} {lv : List (Nat × Value)} {pc : Nat} {st : List Value} {a : Nat → Nat} {σ : St} (X : XC Z own cc rt) {index : Nat} (hw : Cond.fieldLink own index "NestedDeedsModel" "nodeMark" "[J" ∈ tb) (hd : decode cc pc = .ok (.getfield index, 3)) (kk : V Z (rw (zG Z) a σ) lv (pc + 3) (.ref (a 20) :: st)) : V Z (rw (zG Z) a σ) lv pc (.ref (a 0) :: st) := V.get X inX12 0 rfl rfl 33 (by decide) rfl (Or.inl rfl) hw hd kk
theorem Vg_r_0_child {Z : Cx} {own : String} {cc : ByteArray} {rt : Option FieldType} {lv : List (Nat × Value)} {pc : Nat} {st : List Value} {a : Nat → Nat} {σ : St} (X : XC Z own cc rt) {index : Nat} (hw : Cond.fieldLink own index "NestedDeedsModel" "child" "[I" ∈ tb) (hd : decode cc pc = .ok (.getfield index, 3)) (kk : V Z (rw (zG Z) a σ) lv (pc + 3) (.ref (a 21) :: st)) : V Z (rw (zG Z) a σ) lv pc (.ref (a 0) :: st) := V.get X inX12 0 rfl rfl 34 (by decide) rfl (Or.inl rfl) hw hd kk
theorem Vg_r_0_sibling {Z : Cx} {own : String} {cc : ByteArray} {rt : Option FieldType} {lv : List (Nat × Value)} {pc : Nat} {st : List Value} {a : Nat → Nat} {σ : St} (X : XC Z own cc rt) {index : Nat} (hw : Cond.fieldLink own index "NestedDeedsModel" "sibling" "[I" ∈ tb) (hd : decode cc pc = .ok (.getfield index, 3)) (kk : V Z (rw (zG Z) a σ) lv (pc + 3) (.ref (a 22) :: st)) : V Z (rw (zG Z) a σ) lv pc (.ref (a 0) :: st) := V.get X inX12 0 rfl rfl 35 (by decide) rfl (Or.inl rfl) hw hd kk
theorem Vg_r_0_parent {Z : Cx} {own : String} {cc : ByteArray} {rt : Option FieldType} {lv : List (Nat × Value)} {pc : Nat} {st : List Value} {a : Nat → Nat} {σ : St} (X : XC Z own cc rt) {index : Nat} (hw : Cond.fieldLink own index "NestedDeedsModel" "parent" "[I" ∈ tb) (hd : decode cc pc = .ok (.getfield index, 3)) (kk : V Z (rw (zG Z) a σ) lv (pc + 3) (.ref (a 23) :: st)) : V Z (rw (zG Z) a σ) lv pc (.ref (a 0) :: st) := V.get X inX12 0 rfl rfl 36 (by decide) rfl (Or.inl rfl) hw hd kk
theorem Vg_r_0_made {Z : Cx} {own : String} {cc : ByteArray} {rt : Option FieldType} {lv : List (Nat × Value)} {pc : Nat} {st : List Value} {a : Nat → Nat} {σ : St} (X : XC Z own cc rt) {index : Nat} (hw : Cond.fieldLink own index "NestedDeedsModel" "made" "[I" ∈ tb) (hd : decode cc pc = .ok (.getfield index, 3)) (kk : V Z (rw (zG Z) a σ) lv (pc + 3) (.ref (a 24) :: st)) : V Z (rw (zG Z) a σ) lv pc (.ref (a 0) :: st) := V.get X inX12 0 rfl rfl 37 (by decide) rfl (Or.inl rfl) hw hd kk
theorem Vg_r_0_open {Z : Cx} {own : String} {cc : ByteArray} {rt : Option FieldType} {lv : List (Nat × Value)} {pc : Nat} {st : List Value} {a : Nat → Nat} {σ : St} (X : XC Z own cc rt) {index : Nat} (hw : Cond.fieldLink own index "NestedDeedsModel" "open" "[I" ∈ tb) (hd : decode cc pc = .ok (.getfield index, 3)) (kk : V Z (rw (zG Z) a σ) lv (pc + 3) (.ref (a 25) :: st)) : V Z (rw (zG Z) a σ) lv pc (.ref (a 0) :: st) := V.get X inX12 0 rfl rfl 38 (by decide) rfl (Or.inl rfl) hw hd kk
theorem Vg_r_0_place {Z : Cx} {own : String} {cc : ByteArray} {rt : Option FieldType} {lv : List (Nat × Value)} {pc : Nat} {st : List Value} {a : Nat → Nat} {σ : St} (X : XC Z own cc rt) {index : Nat} {x : Nat} (hw : Cond.fieldLink own index "NestedDeedsModel" "place" "I" ∈ tb) (hd : decode cc pc = .ok (.getfield index, 3)) (e : gN σ 12 = x) (kk : V Z (rw (zG Z) a σ) lv (pc + 3) (.int (nI x) :: st)) : V Z (rw (zG Z) a σ) lv pc (.ref (a 0) :: st) := by subst e; exact V.get X inX12 0 rfl rfl 39 (by decide) rfl (Or.inl rfl) hw hd kk
theorem Vp_r_0_place {Z : Cx} {own : String} {cc : ByteArray} {rt : Option FieldType} {lv : List (Nat × Value)} {pc : Nat} {st : List Value} {a : Nat → Nat} {σ : St} (X : XC Z own cc rt) {index : Nat} {x : Nat} (hw : Cond.fieldLink own index "NestedDeedsModel" "place" "I" ∈ tb) (hd : decode cc pc = .ok (.putfield index, 3)) (kk : V Z (rw (zG Z) a (sN σ 12 x)) lv (pc + 3) st) : V Z (rw (zG Z) a σ) lv pc (.int (nI x) :: .ref (a 0) :: st) := V.put X (ty := .int) tyX12 tyX12_ok nmX12 inX12 0 rfl rfl 39 (by decide) rfl (by decide +kernel) rfl rfl (Nat.le_of_ble_eq_true rfl) rfl (Or.inl rfl) hw hd kk
theorem Vg_r_0_wrong {Z : Cx} {own : String} {cc : ByteArray} {rt : Option FieldType} {lv : List (Nat × Value)} {pc : Nat} {st : List Value} {a : Nat → Nat} {σ : St} (X : XC Z own cc rt) {index : Nat} {x : Option Nat} (hw : Cond.fieldLink own index "NestedDeedsModel" "wrong" "I" ∈ tb) (hd : decode cc pc = .ok (.getfield index, 3)) (e : gO σ 0 = x) (kk : V Z (rw (zG Z) a σ) lv (pc + 3) (.int (oI x) :: st)) : V Z (rw (zG Z) a σ) lv pc (.ref (a 0) :: st) := by subst e; exact V.get X inX12 0 rfl rfl 40 (by decide) rfl (Or.inl rfl) hw hd kk
theorem Vp_r_0_wrong {Z : Cx} {own : String} {cc : ByteArray} {rt : Option FieldType} {lv : List (Nat × Value)} {pc : Nat} {st : List Value} {a : Nat → Nat} {σ : St} (X : XC Z own cc rt) {index : Nat} {x : Option Nat} (hw : Cond.fieldLink own index "NestedDeedsModel" "wrong" "I" ∈ tb) (hd : decode cc pc = .ok (.putfield index, 3)) (kk : V Z (rw (zG Z) a (sO σ 0 x)) lv (pc + 3) st) : V Z (rw (zG Z) a σ) lv pc (.int (oI x) :: .ref (a 0) :: st) := V.put X (ty := .int) tyX12 tyX12_ok nmX12 inX12 0 rfl rfl 40 (by decide) rfl (by decide +kernel) rfl rfl (Nat.le_of_ble_eq_true rfl) rfl (Or.inl rfl) hw hd kk
theorem Va_r_kind {Z : Cx} {own : String} {cc : ByteArray} {rt : Option FieldType} {lv : List (Nat × Value)} {pc : Nat} {st : List Value} {a : Nat → Nat} {σ : St} (X : XC Z own cc rt) {i : Nat} {x : Nat} (hi : i < 1500) (hd : decode cc pc = .ok (.iaload, 1)) (e : gA σ 0 i = x) (kk : V Z (rw (zG Z) a σ) lv (pc + 1) (.int (nI x) :: st)) : V Z (rw (zG Z) a σ) lv pc (.int (nI i) :: .ref (a 1) :: st) := by subst e; exact V.iald X 1 rfl (vp_in_nI hi (by decide)) hd (by rw [nI_clamp (by omega)]; exact kk)
theorem Vs_r_kind {Z : Cx} {own : String} {cc : ByteArray} {rt : Option FieldType} {lv : List (Nat × Value)} {pc : Nat} {st : List Value} {a : Nat → Nat} {σ : St} (X : XC Z own cc rt) {i : Nat} {x : Nat} (hi : i < 1500) (hd : decode cc pc = .ok (.iastore, 1)) (kk : V Z (rw (zG Z) a (sA σ 0 (va_up (gA σ 0) i x))) lv (pc + 1) st) : V Z (rw (zG Z) a σ) lv pc (.int (nI x) :: .int (nI i) :: .ref (a 1) :: st) := V.iast X 1 rfl (vp_in_nI hi (by decide)) (by rw [nI_clamp (by omega), upN]; rfl) hd kk
theorem Va_r_number {Z : Cx} {own : String} {cc : ByteArray} {rt : Option FieldType} {lv : List (Nat × Value)} {pc : Nat} {st : List Value} {a : Nat → Nat} {σ : St} (X : XC Z own cc rt) {i : Nat} {x : Int32} (hi : i < 1500) (hd : decode cc pc = .ok (.iaload, 1)) (e : gJ σ 0 i = x) (kk : V Z (rw (zG Z) a σ) lv (pc + 1) (.int x :: st)) : V Z (rw (zG Z) a σ) lv pc (.int (nI i) :: .ref (a 2) :: st) := by subst e; exact V.iald X 2 rfl (vp_in_nI hi (by decide)) hd (by rw [nI_clamp (by omega)]; exact kk)
theorem Vs_r_number {Z : Cx} {own : String} {cc : ByteArray} {rt : Option FieldType} {lv : List (Nat × Value)} {pc : Nat} {st : List Value} {a : Nat → Nat} {σ : St} (X : XC Z own cc rt) {i : Nat} {x : Int32} (hi : i < 1500) (hd : decode cc pc = .ok (.iastore, 1)) (kk : V Z (rw (zG Z) a (sJ σ 0 (va_up (gJ σ 0) i x))) lv (pc + 1) st) : V Z (rw (zG Z) a σ) lv pc (.int x :: .int (nI i) :: .ref (a 2) :: st) := V.iast X 2 rfl (vp_in_nI hi (by decide)) (by rw [nI_clamp (by omega)]; rfl) hd kk
theorem Va_r_partMany {Z : Cx} {own : String} {cc : ByteArray} {rt : Option FieldType} {lv : List (Nat × Value)} {pc : Nat} {st : List Value} {a : Nat → Nat} {σ : St} (X : XC Z own cc rt) {i : Nat} {x : Nat} (hi : i < 1500) (hd : decode cc pc = .ok (.iaload, 1)) (e : gA σ 1 i = x) (kk : V Z (rw (zG Z) a σ) lv (pc + 1) (.int (nI x) :: st)) : V Z (rw (zG Z) a σ) lv pc (.int (nI i) :: .ref (a 3) :: st) := by subst e; exact V.iald X 3 rfl (vp_in_nI hi (by decide)) hd (by rw [nI_clamp (by omega)]; exact kk)
theorem Vs_r_partMany {Z : Cx} {own : String} {cc : ByteArray} {rt : Option FieldType} {lv : List (Nat × Value)} {pc : Nat} {st : List Value} {a : Nat → Nat} {σ : St} (X : XC Z own cc rt) {i : Nat} {x : Nat} (hi : i < 1500) (hd : decode cc pc = .ok (.iastore, 1)) (kk : V Z (rw (zG Z) a (sA σ 1 (va_up (gA σ 1) i x))) lv (pc + 1) st) : V Z (rw (zG Z) a σ) lv pc (.int (nI x) :: .int (nI i) :: .ref (a 3) :: st) := V.iast X 3 rfl (vp_in_nI hi (by decide)) (by rw [nI_clamp (by omega), upN]; rfl) hd kk
theorem Va_r_firstPart {Z : Cx} {own : String} {cc : ByteArray} {rt : Option FieldType} {lv : List (Nat × Value)} {pc : Nat} {st : List Value} {a : Nat → Nat} {σ : St} (X : XC Z own cc rt) {i : Nat} {x : Option Nat} (hi : i < 1500) (hd : decode cc pc = .ok (.iaload, 1)) (e : gP σ 0 i = x) (kk : V Z (rw (zG Z) a σ) lv (pc + 1) (.int (oI x) :: st)) : V Z (rw (zG Z) a σ) lv pc (.int (nI i) :: .ref (a 4) :: st) := by subst e; exact V.iald X 4 rfl (vp_in_nI hi (by decide)) hd (by rw [nI_clamp (by omega)]; exact kk)
theorem Vs_r_firstPart {Z : Cx} {own : String} {cc : ByteArray} {rt : Option FieldType} {lv : List (Nat × Value)} {pc : Nat} {st : List Value} {a : Nat → Nat} {σ : St} (X : XC Z own cc rt) {i : Nat} {x : Option Nat} (hi : i < 1500) (hd : decode cc pc = .ok (.iastore, 1)) (kk : V Z (rw (zG Z) a (sP σ 0 (va_up (gP σ 0) i x))) lv (pc + 1) st) : V Z (rw (zG Z) a σ) lv pc (.int (oI x) :: .int (nI i) :: .ref (a 4) :: st) := V.iast X 4 rfl (vp_in_nI hi (by decide)) (by rw [nI_clamp (by omega), upO]; rfl) hd kk
theorem Va_r_lastPart {Z : Cx} {own : String} {cc : ByteArray} {rt : Option FieldType} {lv : List (Nat × Value)} {pc : Nat} {st : List Value} {a : Nat → Nat} {σ : St} (X : XC Z own cc rt) {i : Nat} {x : Option Nat} (hi : i < 1500) (hd : decode cc pc = .ok (.iaload, 1)) (e : gP σ 1 i = x) (kk : V Z (rw (zG Z) a σ) lv (pc + 1) (.int (oI x) :: st)) : V Z (rw (zG Z) a σ) lv pc (.int (nI i) :: .ref (a 5) :: st) := by subst e; exact V.iald X 5 rfl (vp_in_nI hi (by decide)) hd (by rw [nI_clamp (by omega)]; exact kk)
theorem Vs_r_lastPart {Z : Cx} {own : String} {cc : ByteArray} {rt : Option FieldType} {lv : List (Nat × Value)} {pc : Nat} {st : List Value} {a : Nat → Nat} {σ : St} (X : XC Z own cc rt) {i : Nat} {x : Option Nat} (hi : i < 1500) (hd : decode cc pc = .ok (.iastore, 1)) (kk : V Z (rw (zG Z) a (sP σ 1 (va_up (gP σ 1) i x))) lv (pc + 1) st) : V Z (rw (zG Z) a σ) lv pc (.int (oI x) :: .int (nI i) :: .ref (a 5) :: st) := V.iast X 5 rfl (vp_in_nI hi (by decide)) (by rw [nI_clamp (by omega), upO]; rfl) hd kk
theorem Va_r_partOf {Z : Cx} {own : String} {cc : ByteArray} {rt : Option FieldType} {lv : List (Nat × Value)} {pc : Nat} {st : List Value} {a : Nat → Nat} {σ : St} (X : XC Z own cc rt) {i : Nat} {x : Nat} (hi : i < 4000) (hd : decode cc pc = .ok (.iaload, 1)) (e : gA σ 2 i = x) (kk : V Z (rw (zG Z) a σ) lv (pc + 1) (.int (nI x) :: st)) : V Z (rw (zG Z) a σ) lv pc (.int (nI i) :: .ref (a 6) :: st) := by subst e; exact V.iald X 6 rfl (vp_in_nI hi (by decide)) hd (by rw [nI_clamp (by omega)]; exact kk)
theorem Vs_r_partOf {Z : Cx} {own : String} {cc : ByteArray} {rt : Option FieldType} {lv : List (Nat × Value)} {pc : Nat} {st : List Value} {a : Nat → Nat} {σ : St} (X : XC Z own cc rt) {i : Nat} {x : Nat} (hi : i < 4000) (hd : decode cc pc = .ok (.iastore, 1)) (kk : V Z (rw (zG Z) a (sA σ 2 (va_up (gA σ 2) i x))) lv (pc + 1) st) : V Z (rw (zG Z) a σ) lv pc (.int (nI x) :: .int (nI i) :: .ref (a 6) :: st) := V.iast X 6 rfl (vp_in_nI hi (by decide)) (by rw [nI_clamp (by omega), upN]; rfl) hd kk
theorem Va_r_nextPart {Z : Cx} {own : String} {cc : ByteArray} {rt : Option FieldType} {lv : List (Nat × Value)} {pc : Nat} {st : List Value} {a : Nat → Nat} {σ : St} (X : XC Z own cc rt) {i : Nat} {x : Option Nat} (hi : i < 4000) (hd : decode cc pc = .ok (.iaload, 1)) (e : gP σ 2 i = x) (kk : V Z (rw (zG Z) a σ) lv (pc + 1) (.int (oI x) :: st)) : V Z (rw (zG Z) a σ) lv pc (.int (nI i) :: .ref (a 7) :: st) := by subst e; exact V.iald X 7 rfl (vp_in_nI hi (by decide)) hd (by rw [nI_clamp (by omega)]; exact kk)
theorem Vs_r_nextPart {Z : Cx} {own : String} {cc : ByteArray} {rt : Option FieldType} {lv : List (Nat × Value)} {pc : Nat} {st : List Value} {a : Nat → Nat} {σ : St} (X : XC Z own cc rt) {i : Nat} {x : Option Nat} (hi : i < 4000) (hd : decode cc pc = .ok (.iastore, 1)) (kk : V Z (rw (zG Z) a (sP σ 2 (va_up (gP σ 2) i x))) lv (pc + 1) st) : V Z (rw (zG Z) a σ) lv pc (.int (oI x) :: .int (nI i) :: .ref (a 7) :: st) := V.iast X 7 rfl (vp_in_nI hi (by decide)) (by rw [nI_clamp (by omega), upO]; rfl) hd kk
theorem Va_r_paper {Z : Cx} {own : String} {cc : ByteArray} {rt : Option FieldType} {lv : List (Nat × Value)} {pc : Nat} {st : List Value} {a : Nat → Nat} {σ : St} (X : XC Z own cc rt) {i : Nat} {x : Nat} (hi : i < 6000) (hd : decode cc pc = .ok (.iaload, 1)) (e : gA σ 3 i = x) (kk : V Z (rw (zG Z) a σ) lv (pc + 1) (.int (nI x) :: st)) : V Z (rw (zG Z) a σ) lv pc (.int (nI i) :: .ref (a 8) :: st) := by subst e; exact V.iald X 8 rfl (vp_in_nI hi (by decide)) hd (by rw [nI_clamp (by omega)]; exact kk)
theorem Vs_r_paper {Z : Cx} {own : String} {cc : ByteArray} {rt : Option FieldType} {lv : List (Nat × Value)} {pc : Nat} {st : List Value} {a : Nat → Nat} {σ : St} (X : XC Z own cc rt) {i : Nat} {x : Nat} (hi : i < 6000) (hd : decode cc pc = .ok (.iastore, 1)) (kk : V Z (rw (zG Z) a (sA σ 3 (va_up (gA σ 3) i x))) lv (pc + 1) st) : V Z (rw (zG Z) a σ) lv pc (.int (nI x) :: .int (nI i) :: .ref (a 8) :: st) := V.iast X 8 rfl (vp_in_nI hi (by decide)) (by rw [nI_clamp (by omega), upN]; rfl) hd kk
theorem Va_r_worths {Z : Cx} {own : String} {cc : ByteArray} {rt : Option FieldType} {lv : List (Nat × Value)} {pc : Nat} {st : List Value} {a : Nat → Nat} {σ : St} (X : XC Z own cc rt) {i : Nat} {x : Int64} (hi : i < 1500) (hd : decode cc pc = .ok (.laload, 1)) (e : gL σ 0 i = x) (kk : V Z (rw (zG Z) a σ) lv (pc + 1) (.long x :: st)) : V Z (rw (zG Z) a σ) lv pc (.int (nI i) :: .ref (a 9) :: st) := by subst e; exact V.lald X 9 rfl (vp_in_nI hi (by decide)) hd (by rw [nI_clamp (by omega)]; exact kk)
theorem Vs_r_worths {Z : Cx} {own : String} {cc : ByteArray} {rt : Option FieldType} {lv : List (Nat × Value)} {pc : Nat} {st : List Value} {a : Nat → Nat} {σ : St} (X : XC Z own cc rt) {i : Nat} {x : Int64} (hi : i < 1500) (hd : decode cc pc = .ok (.lastore, 1)) (kk : V Z (rw (zG Z) a (sL σ 0 (va_up (gL σ 0) i x))) lv (pc + 1) st) : V Z (rw (zG Z) a σ) lv pc (.long x :: .int (nI i) :: .ref (a 9) :: st) := V.last X 9 rfl (vp_in_nI hi (by decide)) (by rw [nI_clamp (by omega)]; rfl) hd kk
theorem Va_r_marks {Z : Cx} {own : String} {cc : ByteArray} {rt : Option FieldType} {lv : List (Nat × Value)} {pc : Nat} {st : List Value} {a : Nat → Nat} {σ : St} (X : XC Z own cc rt) {i : Nat} {x : Int64} (hi : i < 1500) (hd : decode cc pc = .ok (.laload, 1)) (e : gL σ 1 i = x) (kk : V Z (rw (zG Z) a σ) lv (pc + 1) (.long x :: st)) : V Z (rw (zG Z) a σ) lv pc (.int (nI i) :: .ref (a 10) :: st) := by subst e; exact V.lald X 10 rfl (vp_in_nI hi (by decide)) hd (by rw [nI_clamp (by omega)]; exact kk)
theorem Vs_r_marks {Z : Cx} {own : String} {cc : ByteArray} {rt : Option FieldType} {lv : List (Nat × Value)} {pc : Nat} {st : List Value} {a : Nat → Nat} {σ : St} (X : XC Z own cc rt) {i : Nat} {x : Int64} (hi : i < 1500) (hd : decode cc pc = .ok (.lastore, 1)) (kk : V Z (rw (zG Z) a (sL σ 1 (va_up (gL σ 1) i x))) lv (pc + 1) st) : V Z (rw (zG Z) a σ) lv pc (.long x :: .int (nI i) :: .ref (a 10) :: st) := V.last X 10 rfl (vp_in_nI hi (by decide)) (by rw [nI_clamp (by omega)]; rfl) hd kk
theorem Va_r_pile {Z : Cx} {own : String} {cc : ByteArray} {rt : Option FieldType} {lv : List (Nat × Value)} {pc : Nat} {st : List Value} {a : Nat → Nat} {σ : St} (X : XC Z own cc rt) {i : Nat} {x : Nat} (hi : i < 1501) (hd : decode cc pc = .ok (.iaload, 1)) (e : gA σ 4 i = x) (kk : V Z (rw (zG Z) a σ) lv (pc + 1) (.int (nI x) :: st)) : V Z (rw (zG Z) a σ) lv pc (.int (nI i) :: .ref (a 11) :: st) := by subst e; exact V.iald X 11 rfl (vp_in_nI hi (by decide)) hd (by rw [nI_clamp (by omega)]; exact kk)
theorem Vs_r_pile {Z : Cx} {own : String} {cc : ByteArray} {rt : Option FieldType} {lv : List (Nat × Value)} {pc : Nat} {st : List Value} {a : Nat → Nat} {σ : St} (X : XC Z own cc rt) {i : Nat} {x : Nat} (hi : i < 1501) (hd : decode cc pc = .ok (.iastore, 1)) (kk : V Z (rw (zG Z) a (sA σ 4 (va_up (gA σ 4) i x))) lv (pc + 1) st) : V Z (rw (zG Z) a σ) lv pc (.int (nI x) :: .int (nI i) :: .ref (a 11) :: st) := V.iast X 11 rfl (vp_in_nI hi (by decide)) (by rw [nI_clamp (by omega), upN]; rfl) hd kk
theorem Va_r_other {Z : Cx} {own : String} {cc : ByteArray} {rt : Option FieldType} {lv : List (Nat × Value)} {pc : Nat} {st : List Value} {a : Nat → Nat} {σ : St} (X : XC Z own cc rt) {i : Nat} {x : Option Nat} (hi : i < 1501) (hd : decode cc pc = .ok (.iaload, 1)) (e : gP σ 3 i = x) (kk : V Z (rw (zG Z) a σ) lv (pc + 1) (.int (oI x) :: st)) : V Z (rw (zG Z) a σ) lv pc (.int (nI i) :: .ref (a 12) :: st) := by subst e; exact V.iald X 12 rfl (vp_in_nI hi (by decide)) hd (by rw [nI_clamp (by omega)]; exact kk)
theorem Vs_r_other {Z : Cx} {own : String} {cc : ByteArray} {rt : Option FieldType} {lv : List (Nat × Value)} {pc : Nat} {st : List Value} {a : Nat → Nat} {σ : St} (X : XC Z own cc rt) {i : Nat} {x : Option Nat} (hi : i < 1501) (hd : decode cc pc = .ok (.iastore, 1)) (kk : V Z (rw (zG Z) a (sP σ 3 (va_up (gP σ 3) i x))) lv (pc + 1) st) : V Z (rw (zG Z) a σ) lv pc (.int (oI x) :: .int (nI i) :: .ref (a 12) :: st) := V.iast X 12 rfl (vp_in_nI hi (by decide)) (by rw [nI_clamp (by omega), upO]; rfl) hd kk
theorem Va_r_begun {Z : Cx} {own : String} {cc : ByteArray} {rt : Option FieldType} {lv : List (Nat × Value)} {pc : Nat} {st : List Value} {a : Nat → Nat} {σ : St} (X : XC Z own cc rt) {i : Nat} {x : Nat} (hi : i < 1501) (hd : decode cc pc = .ok (.iaload, 1)) (e : gA σ 5 i = x) (kk : V Z (rw (zG Z) a σ) lv (pc + 1) (.int (nI x) :: st)) : V Z (rw (zG Z) a σ) lv pc (.int (nI i) :: .ref (a 13) :: st) := by subst e; exact V.iald X 13 rfl (vp_in_nI hi (by decide)) hd (by rw [nI_clamp (by omega)]; exact kk)
theorem Vs_r_begun {Z : Cx} {own : String} {cc : ByteArray} {rt : Option FieldType} {lv : List (Nat × Value)} {pc : Nat} {st : List Value} {a : Nat → Nat} {σ : St} (X : XC Z own cc rt) {i : Nat} {x : Nat} (hi : i < 1501) (hd : decode cc pc = .ok (.iastore, 1)) (kk : V Z (rw (zG Z) a (sA σ 5 (va_up (gA σ 5) i x))) lv (pc + 1) st) : V Z (rw (zG Z) a σ) lv pc (.int (nI x) :: .int (nI i) :: .ref (a 13) :: st) := V.iast X 13 rfl (vp_in_nI hi (by decide)) (by rw [nI_clamp (by omega), upN]; rfl) hd kk
theorem Va_r_visitDeed {Z : Cx} {own : String} {cc : ByteArray} {rt : Option FieldType} {lv : List (Nat × Value)} {pc : Nat} {st : List Value} {a : Nat → Nat} {σ : St} (X : XC Z own cc rt) {i : Nat} {x : Nat} (hi : i < 20000) (hd : decode cc pc = .ok (.iaload, 1)) (e : gA σ 6 i = x) (kk : V Z (rw (zG Z) a σ) lv (pc + 1) (.int (nI x) :: st)) : V Z (rw (zG Z) a σ) lv pc (.int (nI i) :: .ref (a 14) :: st) := by subst e; exact V.iald X 14 rfl (vp_in_nI hi (by decide)) hd (by rw [nI_clamp (by omega)]; exact kk)
theorem Vs_r_visitDeed {Z : Cx} {own : String} {cc : ByteArray} {rt : Option FieldType} {lv : List (Nat × Value)} {pc : Nat} {st : List Value} {a : Nat → Nat} {σ : St} (X : XC Z own cc rt) {i : Nat} {x : Nat} (hi : i < 20000) (hd : decode cc pc = .ok (.iastore, 1)) (kk : V Z (rw (zG Z) a (sA σ 6 (va_up (gA σ 6) i x))) lv (pc + 1) st) : V Z (rw (zG Z) a σ) lv pc (.int (nI x) :: .int (nI i) :: .ref (a 14) :: st) := V.iast X 14 rfl (vp_in_nI hi (by decide)) (by rw [nI_clamp (by omega), upN]; rfl) hd kk
theorem Va_r_visitDepth {Z : Cx} {own : String} {cc : ByteArray} {rt : Option FieldType} {lv : List (Nat × Value)} {pc : Nat} {st : List Value} {a : Nat → Nat} {σ : St} (X : XC Z own cc rt) {i : Nat} {x : Nat} (hi : i < 20000) (hd : decode cc pc = .ok (.iaload, 1)) (e : gA σ 7 i = x) (kk : V Z (rw (zG Z) a σ) lv (pc + 1) (.int (nI x) :: st)) : V Z (rw (zG Z) a σ) lv pc (.int (nI i) :: .ref (a 15) :: st) := by subst e; exact V.iald X 15 rfl (vp_in_nI hi (by decide)) hd (by rw [nI_clamp (by omega)]; exact kk)
theorem Vs_r_visitDepth {Z : Cx} {own : String} {cc : ByteArray} {rt : Option FieldType} {lv : List (Nat × Value)} {pc : Nat} {st : List Value} {a : Nat → Nat} {σ : St} (X : XC Z own cc rt) {i : Nat} {x : Nat} (hi : i < 20000) (hd : decode cc pc = .ok (.iastore, 1)) (kk : V Z (rw (zG Z) a (sA σ 7 (va_up (gA σ 7) i x))) lv (pc + 1) st) : V Z (rw (zG Z) a σ) lv pc (.int (nI x) :: .int (nI i) :: .ref (a 15) :: st) := V.iast X 15 rfl (vp_in_nI hi (by decide)) (by rw [nI_clamp (by omega), upN]; rfl) hd kk
theorem Va_r_sheet {Z : Cx} {own : String} {cc : ByteArray} {rt : Option FieldType} {lv : List (Nat × Value)} {pc : Nat} {st : List Value} {a : Nat → Nat} {σ : St} (X : XC Z own cc rt) {i : Nat} {x : Nat} (hi : i < 6000) (hd : decode cc pc = .ok (.iaload, 1)) (e : gA σ 8 i = x) (kk : V Z (rw (zG Z) a σ) lv (pc + 1) (.int (nI x) :: st)) : V Z (rw (zG Z) a σ) lv pc (.int (nI i) :: .ref (a 16) :: st) := by subst e; exact V.iald X 16 rfl (vp_in_nI hi (by decide)) hd (by rw [nI_clamp (by omega)]; exact kk)
theorem Vs_r_sheet {Z : Cx} {own : String} {cc : ByteArray} {rt : Option FieldType} {lv : List (Nat × Value)} {pc : Nat} {st : List Value} {a : Nat → Nat} {σ : St} (X : XC Z own cc rt) {i : Nat} {x : Nat} (hi : i < 6000) (hd : decode cc pc = .ok (.iastore, 1)) (kk : V Z (rw (zG Z) a (sA σ 8 (va_up (gA σ 8) i x))) lv (pc + 1) st) : V Z (rw (zG Z) a σ) lv pc (.int (nI x) :: .int (nI i) :: .ref (a 16) :: st) := V.iast X 16 rfl (vp_in_nI hi (by decide)) (by rw [nI_clamp (by omega), upN]; rfl) hd kk
theorem Va_r_wide {Z : Cx} {own : String} {cc : ByteArray} {rt : Option FieldType} {lv : List (Nat × Value)} {pc : Nat} {st : List Value} {a : Nat → Nat} {σ : St} (X : XC Z own cc rt) {i : Nat} {x : Nat} (hi : i < 1502) (hd : decode cc pc = .ok (.iaload, 1)) (e : gA σ 9 i = x) (kk : V Z (rw (zG Z) a σ) lv (pc + 1) (.int (nI x) :: st)) : V Z (rw (zG Z) a σ) lv pc (.int (nI i) :: .ref (a 17) :: st) := by subst e; exact V.iald X 17 rfl (vp_in_nI hi (by decide)) hd (by rw [nI_clamp (by omega)]; exact kk)
theorem Vs_r_wide {Z : Cx} {own : String} {cc : ByteArray} {rt : Option FieldType} {lv : List (Nat × Value)} {pc : Nat} {st : List Value} {a : Nat → Nat} {σ : St} (X : XC Z own cc rt) {i : Nat} {x : Nat} (hi : i < 1502) (hd : decode cc pc = .ok (.iastore, 1)) (kk : V Z (rw (zG Z) a (sA σ 9 (va_up (gA σ 9) i x))) lv (pc + 1) st) : V Z (rw (zG Z) a σ) lv pc (.int (nI x) :: .int (nI i) :: .ref (a 17) :: st) := V.iast X 17 rfl (vp_in_nI hi (by decide)) (by rw [nI_clamp (by omega), upN]; rfl) hd kk
theorem Va_r_nodeKind {Z : Cx} {own : String} {cc : ByteArray} {rt : Option FieldType} {lv : List (Nat × Value)} {pc : Nat} {st : List Value} {a : Nat → Nat} {σ : St} (X : XC Z own cc rt) {i : Nat} {x : Nat} (hi : i < 20000) (hd : decode cc pc = .ok (.iaload, 1)) (e : gA σ 10 i = x) (kk : V Z (rw (zG Z) a σ) lv (pc + 1) (.int (nI x) :: st)) : V Z (rw (zG Z) a σ) lv pc (.int (nI i) :: .ref (a 18) :: st) := by subst e; exact V.iald X 18 rfl (vp_in_nI hi (by decide)) hd (by rw [nI_clamp (by omega)]; exact kk)
theorem Vs_r_nodeKind {Z : Cx} {own : String} {cc : ByteArray} {rt : Option FieldType} {lv : List (Nat × Value)} {pc : Nat} {st : List Value} {a : Nat → Nat} {σ : St} (X : XC Z own cc rt) {i : Nat} {x : Nat} (hi : i < 20000) (hd : decode cc pc = .ok (.iastore, 1)) (kk : V Z (rw (zG Z) a (sA σ 10 (va_up (gA σ 10) i x))) lv (pc + 1) st) : V Z (rw (zG Z) a σ) lv pc (.int (nI x) :: .int (nI i) :: .ref (a 18) :: st) := V.iast X 18 rfl (vp_in_nI hi (by decide)) (by rw [nI_clamp (by omega), upN]; rfl) hd kk
theorem Va_r_nodeNumber {Z : Cx} {own : String} {cc : ByteArray} {rt : Option FieldType} {lv : List (Nat × Value)} {pc : Nat} {st : List Value} {a : Nat → Nat} {σ : St} (X : XC Z own cc rt) {i : Nat} {x : Int32} (hi : i < 20000) (hd : decode cc pc = .ok (.iaload, 1)) (e : gJ σ 1 i = x) (kk : V Z (rw (zG Z) a σ) lv (pc + 1) (.int x :: st)) : V Z (rw (zG Z) a σ) lv pc (.int (nI i) :: .ref (a 19) :: st) := by subst e; exact V.iald X 19 rfl (vp_in_nI hi (by decide)) hd (by rw [nI_clamp (by omega)]; exact kk)
theorem Vs_r_nodeNumber {Z : Cx} {own : String} {cc : ByteArray} {rt : Option FieldType} {lv : List (Nat × Value)} {pc : Nat} {st : List Value} {a : Nat → Nat} {σ : St} (X : XC Z own cc rt) {i : Nat} {x : Int32} (hi : i < 20000) (hd : decode cc pc = .ok (.iastore, 1)) (kk : V Z (rw (zG Z) a (sJ σ 1 (va_up (gJ σ 1) i x))) lv (pc + 1) st) : V Z (rw (zG Z) a σ) lv pc (.int x :: .int (nI i) :: .ref (a 19) :: st) := V.iast X 19 rfl (vp_in_nI hi (by decide)) (by rw [nI_clamp (by omega)]; rfl) hd kk
theorem Va_r_nodeMark {Z : Cx} {own : String} {cc : ByteArray} {rt : Option FieldType} {lv : List (Nat × Value)} {pc : Nat} {st : List Value} {a : Nat → Nat} {σ : St} (X : XC Z own cc rt) {i : Nat} {x : Int64} (hi : i < 20000) (hd : decode cc pc = .ok (.laload, 1)) (e : gL σ 2 i = x) (kk : V Z (rw (zG Z) a σ) lv (pc + 1) (.long x :: st)) : V Z (rw (zG Z) a σ) lv pc (.int (nI i) :: .ref (a 20) :: st) := by subst e; exact V.lald X 20 rfl (vp_in_nI hi (by decide)) hd (by rw [nI_clamp (by omega)]; exact kk)
theorem Vs_r_nodeMark {Z : Cx} {own : String} {cc : ByteArray} {rt : Option FieldType} {lv : List (Nat × Value)} {pc : Nat} {st : List Value} {a : Nat → Nat} {σ : St} (X : XC Z own cc rt) {i : Nat} {x : Int64} (hi : i < 20000) (hd : decode cc pc = .ok (.lastore, 1)) (kk : V Z (rw (zG Z) a (sL σ 2 (va_up (gL σ 2) i x))) lv (pc + 1) st) : V Z (rw (zG Z) a σ) lv pc (.long x :: .int (nI i) :: .ref (a 20) :: st) := V.last X 20 rfl (vp_in_nI hi (by decide)) (by rw [nI_clamp (by omega)]; rfl) hd kk
theorem Va_r_child {Z : Cx} {own : String} {cc : ByteArray} {rt : Option FieldType} {lv : List (Nat × Value)} {pc : Nat} {st : List Value} {a : Nat → Nat} {σ : St} (X : XC Z own cc rt) {i : Nat} {x : Option Nat} (hi : i < 20000) (hd : decode cc pc = .ok (.iaload, 1)) (e : gP σ 4 i = x) (kk : V Z (rw (zG Z) a σ) lv (pc + 1) (.int (oI x) :: st)) : V Z (rw (zG Z) a σ) lv pc (.int (nI i) :: .ref (a 21) :: st) := by subst e; exact V.iald X 21 rfl (vp_in_nI hi (by decide)) hd (by rw [nI_clamp (by omega)]; exact kk)
theorem Vs_r_child {Z : Cx} {own : String} {cc : ByteArray} {rt : Option FieldType} {lv : List (Nat × Value)} {pc : Nat} {st : List Value} {a : Nat → Nat} {σ : St} (X : XC Z own cc rt) {i : Nat} {x : Option Nat} (hi : i < 20000) (hd : decode cc pc = .ok (.iastore, 1)) (kk : V Z (rw (zG Z) a (sP σ 4 (va_up (gP σ 4) i x))) lv (pc + 1) st) : V Z (rw (zG Z) a σ) lv pc (.int (oI x) :: .int (nI i) :: .ref (a 21) :: st) := V.iast X 21 rfl (vp_in_nI hi (by decide)) (by rw [nI_clamp (by omega), upO]; rfl) hd kk
theorem Va_r_sibling {Z : Cx} {own : String} {cc : ByteArray} {rt : Option FieldType} {lv : List (Nat × Value)} {pc : Nat} {st : List Value} {a : Nat → Nat} {σ : St} (X : XC Z own cc rt) {i : Nat} {x : Option Nat} (hi : i < 20000) (hd : decode cc pc = .ok (.iaload, 1)) (e : gP σ 5 i = x) (kk : V Z (rw (zG Z) a σ) lv (pc + 1) (.int (oI x) :: st)) : V Z (rw (zG Z) a σ) lv pc (.int (nI i) :: .ref (a 22) :: st) := by subst e; exact V.iald X 22 rfl (vp_in_nI hi (by decide)) hd (by rw [nI_clamp (by omega)]; exact kk)
theorem Vs_r_sibling {Z : Cx} {own : String} {cc : ByteArray} {rt : Option FieldType} {lv : List (Nat × Value)} {pc : Nat} {st : List Value} {a : Nat → Nat} {σ : St} (X : XC Z own cc rt) {i : Nat} {x : Option Nat} (hi : i < 20000) (hd : decode cc pc = .ok (.iastore, 1)) (kk : V Z (rw (zG Z) a (sP σ 5 (va_up (gP σ 5) i x))) lv (pc + 1) st) : V Z (rw (zG Z) a σ) lv pc (.int (oI x) :: .int (nI i) :: .ref (a 22) :: st) := V.iast X 22 rfl (vp_in_nI hi (by decide)) (by rw [nI_clamp (by omega), upO]; rfl) hd kk
theorem Va_r_parent {Z : Cx} {own : String} {cc : ByteArray} {rt : Option FieldType} {lv : List (Nat × Value)} {pc : Nat} {st : List Value} {a : Nat → Nat} {σ : St} (X : XC Z own cc rt) {i : Nat} {x : Option Nat} (hi : i < 20000) (hd : decode cc pc = .ok (.iaload, 1)) (e : gP σ 6 i = x) (kk : V Z (rw (zG Z) a σ) lv (pc + 1) (.int (oI x) :: st)) : V Z (rw (zG Z) a σ) lv pc (.int (nI i) :: .ref (a 23) :: st) := by subst e; exact V.iald X 23 rfl (vp_in_nI hi (by decide)) hd (by rw [nI_clamp (by omega)]; exact kk)
theorem Vs_r_parent {Z : Cx} {own : String} {cc : ByteArray} {rt : Option FieldType} {lv : List (Nat × Value)} {pc : Nat} {st : List Value} {a : Nat → Nat} {σ : St} (X : XC Z own cc rt) {i : Nat} {x : Option Nat} (hi : i < 20000) (hd : decode cc pc = .ok (.iastore, 1)) (kk : V Z (rw (zG Z) a (sP σ 6 (va_up (gP σ 6) i x))) lv (pc + 1) st) : V Z (rw (zG Z) a σ) lv pc (.int (oI x) :: .int (nI i) :: .ref (a 23) :: st) := V.iast X 23 rfl (vp_in_nI hi (by decide)) (by rw [nI_clamp (by omega), upO]; rfl) hd kk
theorem Va_r_made {Z : Cx} {own : String} {cc : ByteArray} {rt : Option FieldType} {lv : List (Nat × Value)} {pc : Nat} {st : List Value} {a : Nat → Nat} {σ : St} (X : XC Z own cc rt) {i : Nat} {x : Nat} (hi : i < 20000) (hd : decode cc pc = .ok (.iaload, 1)) (e : gA σ 11 i = x) (kk : V Z (rw (zG Z) a σ) lv (pc + 1) (.int (nI x) :: st)) : V Z (rw (zG Z) a σ) lv pc (.int (nI i) :: .ref (a 24) :: st) := by subst e; exact V.iald X 24 rfl (vp_in_nI hi (by decide)) hd (by rw [nI_clamp (by omega)]; exact kk)
theorem Vs_r_made {Z : Cx} {own : String} {cc : ByteArray} {rt : Option FieldType} {lv : List (Nat × Value)} {pc : Nat} {st : List Value} {a : Nat → Nat} {σ : St} (X : XC Z own cc rt) {i : Nat} {x : Nat} (hi : i < 20000) (hd : decode cc pc = .ok (.iastore, 1)) (kk : V Z (rw (zG Z) a (sA σ 11 (va_up (gA σ 11) i x))) lv (pc + 1) st) : V Z (rw (zG Z) a σ) lv pc (.int (nI x) :: .int (nI i) :: .ref (a 24) :: st) := V.iast X 24 rfl (vp_in_nI hi (by decide)) (by rw [nI_clamp (by omega), upN]; rfl) hd kk
theorem Va_r_open {Z : Cx} {own : String} {cc : ByteArray} {rt : Option FieldType} {lv : List (Nat × Value)} {pc : Nat} {st : List Value} {a : Nat → Nat} {σ : St} (X : XC Z own cc rt) {i : Nat} {x : Nat} (hi : i < 1502) (hd : decode cc pc = .ok (.iaload, 1)) (e : gA σ 12 i = x) (kk : V Z (rw (zG Z) a σ) lv (pc + 1) (.int (nI x) :: st)) : V Z (rw (zG Z) a σ) lv pc (.int (nI i) :: .ref (a 25) :: st) := by subst e; exact V.iald X 25 rfl (vp_in_nI hi (by decide)) hd (by rw [nI_clamp (by omega)]; exact kk)
theorem Vs_r_open {Z : Cx} {own : String} {cc : ByteArray} {rt : Option FieldType} {lv : List (Nat × Value)} {pc : Nat} {st : List Value} {a : Nat → Nat} {σ : St} (X : XC Z own cc rt) {i : Nat} {x : Nat} (hi : i < 1502) (hd : decode cc pc = .ok (.iastore, 1)) (kk : V Z (rw (zG Z) a (sA σ 12 (va_up (gA σ 12) i x))) lv (pc + 1) st) : V Z (rw (zG Z) a σ) lv pc (.int (nI x) :: .int (nI i) :: .ref (a 25) :: st) := V.iast X 25 rfl (vp_in_nI hi (by decide)) (by rw [nI_clamp (by omega), upN]; rfl) hd kk
end
section
theorem cs_X11_101 : CS "NestedDeeds" 101 ⟨"NestedDeeds", "isKind", "(I)Z"⟩ prog_1_method_28_code 1 (some .boolean) 1 := ⟨tw_415, tw_416, tw_48, tw_417, by decide +kernel, by decide +kernel, by decide +kernel⟩
theorem cv_X11_105 : CV "NestedDeeds" 105 ⟨"NestedDeeds$Deeds", "hasRoom", "(II)Z"⟩ prog_4_method_3_code 3 (some .boolean) 2 := ⟨tw_418, tw_419, tw_420, tw_49, tw_421, by decide +kernel, by decide +kernel, by decide +kernel⟩
theorem cv_X11_109 : CV "NestedDeeds" 109 ⟨"NestedDeeds$Deeds", "add", "(II)I"⟩ prog_4_method_7_code 4 (some .int) 2 := ⟨tw_426, tw_427, tw_428, tw_49, tw_429, by decide +kernel, by decide +kernel, by decide +kernel⟩
theorem cv_X11_113 : CV "NestedDeeds" 113 ⟨"NestedDeeds$Deeds", "has", "(I)Z"⟩ prog_4_method_2_code 2 (some .boolean) 1 := ⟨tw_434, tw_435, tw_436, tw_49, tw_437, by decide +kernel, by decide +kernel, by decide +kernel⟩
theorem cv_X11_116 : CV "NestedDeeds" 116 ⟨"NestedDeeds$Deeds", "addPart", "(II)V"⟩ prog_4_method_8_code 5 none 2 := ⟨tw_438, tw_439, tw_440, tw_49, tw_441, by decide +kernel, by decide +kernel, by decide +kernel⟩
theorem cv_X11_120 : CV "NestedDeeds" 120 ⟨"NestedDeeds$Deeds", "partsOf", "(I)I"⟩ prog_4_method_5_code 2 (some .int) 1 := ⟨tw_445, tw_446, tw_447, tw_49, tw_448, by decide +kernel, by decide +kernel, by decide +kernel⟩
theorem cv_X11_124 : CV "NestedDeeds" 124 ⟨"NestedDeeds", "link", "(IIII)I"⟩ prog_1_method_5_code 7 (some .int) 4 := ⟨tw_453, tw_455, tw_0, tw_48, tw_456, by decide +kernel, by decide +kernel, by decide +kernel⟩
theorem cv_X11_143 : CV "NestedDeeds" 143 ⟨"NestedDeeds$Deeds", "partAt", "(II)I"⟩ prog_4_method_6_code 3 (some .int) 2 := ⟨tw_474, tw_475, tw_476, tw_49, tw_477, by decide +kernel, by decide +kernel, by decide +kernel⟩
theorem cv_X11_146 : CV "NestedDeeds" 146 ⟨"NestedDeeds$Walker", "go", "(LNestedDeeds$Task;I)I"⟩ prog_10_method_3_code 4 (some .int) 2 := ⟨tw_482, tw_483, tw_484, tw_59, tw_485, by decide +kernel, by decide +kernel, by decide +kernel⟩
theorem cv_X11_156 : CV "NestedDeeds" 156 ⟨"NestedDeeds$Walker", "refuse", "()I"⟩ prog_10_method_2_code 1 (some .int) 0 := ⟨tw_680, tw_488, tw_489, tw_59, tw_490, by decide +kernel, by decide +kernel, by decide +kernel⟩
theorem cv_X11_160 : CV "NestedDeeds" 160 ⟨"NestedDeeds$Comparing", "begin", "(I)V"⟩ prog_2_method_2_code 2 none 1 := ⟨tw_681, tw_682, tw_683, tw_55, tw_684, by decide +kernel, by decide +kernel, by decide +kernel⟩
theorem cv_X11_168 : CV "NestedDeeds" 168 ⟨"NestedDeeds$Paper", "clear", "()V"⟩ prog_7_method_2_code 1 none 0 := ⟨tw_689, tw_690, tw_691, tw_50, tw_692, by decide +kernel, by decide +kernel, by decide +kernel⟩
theorem cv_X11_174 : CV "NestedDeeds" 174 ⟨"NestedDeeds$Paper", "become", "(LNestedDeeds$Paper;)V"⟩ prog_7_method_6_code 2 none 1 := ⟨tw_693, tw_694, tw_695, tw_50, tw_696, by decide +kernel, by decide +kernel, by decide +kernel⟩
theorem cv_X11_181 : CV "NestedDeeds" 181 ⟨"NestedDeeds$Finding", "begin", "(II)V"⟩ prog_5_method_2_code 3 none 2 := ⟨tw_702, tw_703, tw_704, tw_57, tw_705, by decide +kernel, by decide +kernel, by decide +kernel⟩
theorem cv_X11_184 : CV "NestedDeeds" 184 ⟨"NestedDeeds$Walker", "widestDepth", "()I"⟩ prog_10_method_4_code 3 (some .int) 0 := ⟨tw_710, tw_711, tw_712, tw_59, tw_713, by decide +kernel, by decide +kernel, by decide +kernel⟩
theorem cv_X11_191 : CV "NestedDeeds" 191 ⟨"NestedDeeds", "remake", "(IIZ)I"⟩ prog_1_method_21_code 5 (some .int) 3 := ⟨tw_719, tw_721, tw_11, tw_48, tw_722, by decide +kernel, by decide +kernel, by decide +kernel⟩
theorem cv_X11_195 : CV "NestedDeeds" 195 ⟨"NestedDeeds$Copying", "beginCounting", "(I)V"⟩ prog_3_method_2_code 2 none 1 := ⟨tw_723, tw_724, tw_725, tw_58, tw_726, by decide +kernel, by decide +kernel, by decide +kernel⟩
theorem cv_X11_201 : CV "NestedDeeds" 201 ⟨"NestedDeeds$Copying", "beginMaking", "(IZ)V"⟩ prog_3_method_3_code 3 none 2 := ⟨tw_727, tw_728, tw_729, tw_58, tw_730, by decide +kernel, by decide +kernel, by decide +kernel⟩
theorem cv_X11_205 : CV "NestedDeeds" 205 ⟨"NestedDeeds$Deeds", "takeBound", "()I"⟩ prog_4_method_10_code 1 (some .int) 0 := ⟨tw_740, tw_741, tw_742, tw_49, tw_743, by decide +kernel, by decide +kernel, by decide +kernel⟩
theorem cv_X11_208 : CV "NestedDeeds" 208 ⟨"NestedDeeds$Paper", "add", "(I)V"⟩ prog_7_method_4_code 2 none 1 := ⟨tw_756, tw_533, tw_534, tw_50, tw_535, by decide +kernel, by decide +kernel, by decide +kernel⟩
theorem cv_X11_210 : CV "NestedDeeds" 210 ⟨"NestedDeeds$Paper", "at", "(I)I"⟩ prog_7_method_3_code 2 (some .int) 1 := ⟨tw_765, tw_766, tw_767, tw_50, tw_768, by decide +kernel, by decide +kernel, by decide +kernel⟩
theorem cv_X11_213 : CV "NestedDeeds" 213 ⟨"NestedDeeds$Reader", "scan", "(Z)I"⟩ prog_8_method_2_code 3 (some .int) 1 := ⟨tw_773, tw_774, tw_775, tw_51, tw_776, by decide +kernel, by decide +kernel, by decide +kernel⟩
theorem cv_X11_226 : CV "NestedDeeds" 226 ⟨"NestedDeeds$Deeds", "allParts", "()I"⟩ prog_4_method_4_code 1 (some .int) 0 := ⟨tw_821, tw_423, tw_424, tw_49, tw_425, by decide +kernel, by decide +kernel, by decide +kernel⟩
theorem cv_X0_27 : CV "NestedDeeds$Comparing" 27 ⟨"NestedDeeds$Deeds", "partsOf", "(I)I"⟩ prog_4_method_5_code 2 (some .int) 1 := ⟨tw_506, tw_446, tw_447, tw_49, tw_448, by decide +kernel, by decide +kernel, by decide +kernel⟩
theorem cv_X0_35 : CV "NestedDeeds$Comparing" 35 ⟨"NestedDeeds$Deeds", "partAt", "(II)I"⟩ prog_4_method_6_code 3 (some .int) 2 := ⟨tw_566, tw_475, tw_476, tw_49, tw_477, by decide +kernel, by decide +kernel, by decide +kernel⟩
theorem cv_X1_49 : CV "NestedDeeds$Copying" 49 ⟨"NestedDeeds$Deeds", "allParts", "()I"⟩ prog_4_method_4_code 1 (some .int) 0 := ⟨tw_731, tw_423, tw_424, tw_49, tw_425, by decide +kernel, by decide +kernel, by decide +kernel⟩
theorem cv_X1_59 : CV "NestedDeeds$Copying" 59 ⟨"NestedDeeds$Copying", "reckonMarks", "(I)V"⟩ prog_3_method_4_code 6 none 1 := ⟨tw_733, tw_735, tw_12, tw_58, tw_736, by decide +kernel, by decide +kernel, by decide +kernel⟩
theorem cs_X1_69 : CS "NestedDeeds$Copying" 69 ⟨"NestedDeeds$Marking", "begun", "(II)J"⟩ prog_6_method_2_code 2 (some .long) 2 := ⟨tw_737, tw_521, tw_54, tw_522, by decide +kernel, by decide +kernel, by decide +kernel⟩
theorem cs_X1_78 : CS "NestedDeeds$Copying" 78 ⟨"NestedDeeds$Marking", "with", "(JJ)J"⟩ prog_6_method_3_code 4 (some .long) 2 := ⟨tw_738, tw_628, tw_54, tw_629, by decide +kernel, by decide +kernel, by decide +kernel⟩
theorem cs_X1_82 : CS "NestedDeeds$Copying" 82 ⟨"NestedDeeds$Marking", "ended", "(J)J"⟩ prog_6_method_4_code 2 (some .long) 1 := ⟨tw_739, tw_608, tw_54, tw_609, by decide +kernel, by decide +kernel, by decide +kernel⟩
theorem cv_X1_86 : CV "NestedDeeds$Copying" 86 ⟨"NestedDeeds$Copying", "sortParts", "(II)V"⟩ prog_3_method_6_code 6 none 2 := ⟨tw_510, tw_512, tw_3, tw_58, tw_513, by decide +kernel, by decide +kernel, by decide +kernel⟩
theorem cv_X1_90 : CV "NestedDeeds$Copying" 90 ⟨"NestedDeeds$Deeds", "partAt", "(II)I"⟩ prog_4_method_6_code 3 (some .int) 2 := ⟨tw_570, tw_475, tw_476, tw_49, tw_477, by decide +kernel, by decide +kernel, by decide +kernel⟩
theorem cv_X1_94 : CV "NestedDeeds$Copying" 94 ⟨"NestedDeeds$Deeds", "bind", "(III)V"⟩ prog_4_method_9_code 6 none 3 := ⟨tw_598, tw_599, tw_600, tw_49, tw_601, by decide +kernel, by decide +kernel, by decide +kernel⟩
theorem cv_X2_31 : CV "NestedDeeds$Deeds" 31 ⟨"NestedDeeds$Deeds", "allParts", "()I"⟩ prog_4_method_4_code 1 (some .int) 0 := ⟨tw_422, tw_423, tw_424, tw_49, tw_425, by decide +kernel, by decide +kernel, by decide +kernel⟩
theorem cv_X2_41 : CV "NestedDeeds$Deeds" 41 ⟨"NestedDeeds$Deeds", "add", "(II)I"⟩ prog_4_method_7_code 4 (some .int) 2 := ⟨tw_602, tw_427, tw_428, tw_49, tw_429, by decide +kernel, by decide +kernel, by decide +kernel⟩
theorem cs_X4_32 : CS "NestedDeeds$Marking" 32 ⟨"NestedDeeds$Marking", "begun", "(II)J"⟩ prog_6_method_2_code 2 (some .long) 2 := ⟨tw_520, tw_521, tw_54, tw_522, by decide +kernel, by decide +kernel, by decide +kernel⟩
theorem cs_X4_36 : CS "NestedDeeds$Marking" 36 ⟨"NestedDeeds$Marking", "with", "(JJ)J"⟩ prog_6_method_3_code 4 (some .long) 2 := ⟨tw_627, tw_628, tw_54, tw_629, by decide +kernel, by decide +kernel, by decide +kernel⟩
theorem cs_X4_40 : CS "NestedDeeds$Marking" 40 ⟨"NestedDeeds$Marking", "ended", "(J)J"⟩ prog_6_method_4_code 2 (some .long) 1 := ⟨tw_607, tw_608, tw_54, tw_609, by decide +kernel, by decide +kernel, by decide +kernel⟩
theorem cs_X5_23 : CS "NestedDeeds$Paper" 23 ⟨"java/lang/Math", "abs", "(J)J"⟩ prog_16_method_61_code 2 (some .long) 1 := ⟨tw_540, tw_541, tw_62, tw_542, by decide +kernel, by decide +kernel, by decide +kernel⟩
theorem cv_X5_29 : CV "NestedDeeds$Paper" 29 ⟨"NestedDeeds$Paper", "add", "(I)V"⟩ prog_7_method_4_code 2 none 1 := ⟨tw_543, tw_533, tw_534, tw_50, tw_535, by decide +kernel, by decide +kernel, by decide +kernel⟩
theorem cv_X6_43 : CV "NestedDeeds$Reader" 43 ⟨"NestedDeeds$Reader", "scanKind", "()Z"⟩ prog_8_method_3_code 1 (some .boolean) 0 := ⟨tw_777, tw_779, tw_13, tw_51, tw_780, by decide +kernel, by decide +kernel, by decide +kernel⟩
theorem cv_X6_47 : CV "NestedDeeds$Reader" 47 ⟨"NestedDeeds$Reader", "scanNumber", "()Z"⟩ prog_8_method_4_code 7 (some .boolean) 0 := ⟨tw_783, tw_785, tw_14, tw_51, tw_786, by decide +kernel, by decide +kernel, by decide +kernel⟩
theorem cv_X6_50 : CV "NestedDeeds$Reader" 50 ⟨"NestedDeeds$Paper", "at", "(I)I"⟩ prog_7_method_3_code 2 (some .int) 1 := ⟨tw_781, tw_766, tw_767, tw_50, tw_768, by decide +kernel, by decide +kernel, by decide +kernel⟩
theorem cv_X6_55 : CV "NestedDeeds$Reader" 55 ⟨"NestedDeeds$Reader", "openDeed", "()V"⟩ prog_8_method_7_code 1 none 0 := ⟨tw_800, tw_802, tw_16, tw_51, tw_803, by decide +kernel, by decide +kernel, by decide +kernel⟩
theorem cv_X6_64 : CV "NestedDeeds$Reader" 64 ⟨"NestedDeeds$Reader", "finishDeed", "(III)V"⟩ prog_8_method_9_code 4 none 3 := ⟨tw_804, tw_806, tw_17, tw_51, tw_807, by decide +kernel, by decide +kernel, by decide +kernel⟩
theorem cv_X6_68 : CV "NestedDeeds$Reader" 68 ⟨"NestedDeeds$Reader", "closeDeeds", "()V"⟩ prog_8_method_8_code 1 none 0 := ⟨tw_809, tw_811, tw_18, tw_51, tw_812, by decide +kernel, by decide +kernel, by decide +kernel⟩
theorem cs_X6_78 : CS "NestedDeeds$Reader" 78 ⟨"NestedDeeds$Reader", "isFigure", "(I)Z"⟩ prog_8_method_6_code 1 (some .boolean) 1 := ⟨tw_787, tw_788, tw_51, tw_789, by decide +kernel, by decide +kernel, by decide +kernel⟩
theorem cv_X6_81 : CV "NestedDeeds$Reader" 81 ⟨"NestedDeeds$Reader", "scanFigures", "()J"⟩ prog_8_method_5_code 3 (some .long) 0 := ⟨tw_790, tw_792, tw_15, tw_51, tw_793, by decide +kernel, by decide +kernel, by decide +kernel⟩
theorem cs_X6_95 : CS "NestedDeeds$Reader" 95 ⟨"java/lang/Math", "min", "(JJ)J"⟩ prog_16_method_70_code 4 (some .long) 2 := ⟨tw_797, tw_638, tw_62, tw_639, by decide +kernel, by decide +kernel, by decide +kernel⟩
theorem cv_X6_101 : CV "NestedDeeds$Reader" 101 ⟨"NestedDeeds$Deeds", "bind", "(III)V"⟩ prog_4_method_9_code 6 none 3 := ⟨tw_808, tw_599, tw_600, tw_49, tw_601, by decide +kernel, by decide +kernel, by decide +kernel⟩
theorem cv_X7_13 : CV "NestedDeeds$Task" 13 ⟨"NestedDeeds$Deeds", "partAt", "(II)I"⟩ prog_4_method_6_code 3 (some .int) 2 := ⟨tw_589, tw_475, tw_476, tw_49, tw_477, by decide +kernel, by decide +kernel, by decide +kernel⟩
theorem cv_X8_39 : CV "NestedDeeds$Walker" 39 ⟨"NestedDeeds$Deeds", "has", "(I)Z"⟩ prog_4_method_2_code 2 (some .boolean) 1 := ⟨tw_486, tw_435, tw_436, tw_49, tw_437, by decide +kernel, by decide +kernel, by decide +kernel⟩
theorem cv_X8_45 : CV "NestedDeeds$Walker" 45 ⟨"NestedDeeds$Walker", "refuse", "()I"⟩ prog_10_method_2_code 1 (some .int) 0 := ⟨tw_487, tw_488, tw_489, tw_59, tw_490, by decide +kernel, by decide +kernel, by decide +kernel⟩
theorem cv_X8_64 : CV "NestedDeeds$Walker" 64 ⟨"NestedDeeds$Walker", "visit", "(II)Z"⟩ prog_10_method_5_code 3 (some .boolean) 2 := ⟨tw_491, tw_493, tw_1, tw_59, tw_494, by decide +kernel, by decide +kernel, by decide +kernel⟩
theorem cv_X8_68 : CV "NestedDeeds$Walker" 68 ⟨"NestedDeeds$Walker", "byStack", "(I)V"⟩ prog_10_method_9_code 5 none 1 := ⟨tw_549, tw_551, tw_4, tw_59, tw_552, by decide +kernel, by decide +kernel, by decide +kernel⟩
theorem cv_X8_72 : CV "NestedDeeds$Walker" 72 ⟨"NestedDeeds$Walker", "bySteps", "()V"⟩ prog_10_method_10_code 3 none 0 := ⟨tw_649, tw_651, tw_8, tw_59, tw_652, by decide +kernel, by decide +kernel, by decide +kernel⟩
theorem cs_X8_75 : CS "NestedDeeds$Walker" 75 ⟨"java/lang/Math", "min", "(II)I"⟩ prog_16_method_69_code 2 (some .int) 2 := ⟨tw_657, tw_658, tw_62, tw_659, by decide +kernel, by decide +kernel, by decide +kernel⟩
theorem cv_X8_81 : CV "NestedDeeds$Walker" 81 ⟨"NestedDeeds$Walker", "byCalls", "(II)V"⟩ prog_10_method_8_code 5 none 2 := ⟨tw_660, tw_662, tw_10, tw_59, tw_663, by decide +kernel, by decide +kernel, by decide +kernel⟩
theorem cv_X8_88 : CV "NestedDeeds$Walker" 88 ⟨"NestedDeeds$Walker", "halt", "(I)Z"⟩ prog_10_method_6_code 2 (some .boolean) 1 := ⟨tw_495, tw_497, tw_2, tw_59, tw_498, by decide +kernel, by decide +kernel, by decide +kernel⟩
theorem cu_X8_91_0 : CU "NestedDeeds$Walker" 91 "NestedDeeds$Task" ⟨"NestedDeeds$Task", "enter", "(II)V"⟩ ⟨"NestedDeeds$Task", "enter", "(II)V"⟩ prog_9_method_2_code 3 none 2 := ⟨tw_499, tw_502, tw_500, tw_501, tw_500, tw_52, tw_548, ⟨_, _, _, tw_548⟩, by decide +kernel, by decide +kernel, by decide +kernel⟩
theorem cu_X8_91_1 : CU "NestedDeeds$Walker" 91 "NestedDeeds$Weighing" ⟨"NestedDeeds$Task", "enter", "(II)V"⟩ ⟨"NestedDeeds$Weighing", "enter", "(II)V"⟩ prog_11_method_2_code 4 none 2 := ⟨tw_499, tw_502, tw_500, tw_525, tw_526, tw_53, tw_527, ⟨_, _, _, tw_548⟩, by decide +kernel, by decide +kernel, by decide +kernel⟩
theorem cu_X8_91_2 : CU "NestedDeeds$Walker" 91 "NestedDeeds$Marking" ⟨"NestedDeeds$Task", "enter", "(II)V"⟩ ⟨"NestedDeeds$Marking", "enter", "(II)V"⟩ prog_6_method_5_code 3 none 2 := ⟨tw_499, tw_502, tw_500, tw_517, tw_518, tw_54, tw_519, ⟨_, _, _, tw_548⟩, by decide +kernel, by decide +kernel, by decide +kernel⟩
theorem cu_X8_91_3 : CU "NestedDeeds$Walker" 91 "NestedDeeds$Comparing" ⟨"NestedDeeds$Task", "enter", "(II)V"⟩ ⟨"NestedDeeds$Comparing", "enter", "(II)V"⟩ prog_2_method_3_code 4 none 2 := ⟨tw_499, tw_502, tw_500, tw_503, tw_504, tw_55, tw_505, ⟨_, _, _, tw_548⟩, by decide +kernel, by decide +kernel, by decide +kernel⟩
theorem cu_X8_91_4 : CU "NestedDeeds$Walker" 91 "NestedDeeds$Writing" ⟨"NestedDeeds$Task", "enter", "(II)V"⟩ ⟨"NestedDeeds$Writing", "enter", "(II)V"⟩ prog_12_method_2_code 3 none 2 := ⟨tw_499, tw_502, tw_500, tw_529, tw_530, tw_56, tw_531, ⟨_, _, _, tw_548⟩, by decide +kernel, by decide +kernel, by decide +kernel⟩
theorem cu_X8_91_5 : CU "NestedDeeds$Walker" 91 "NestedDeeds$Finding" ⟨"NestedDeeds$Task", "enter", "(II)V"⟩ ⟨"NestedDeeds$Finding", "enter", "(II)V"⟩ prog_5_method_3_code 3 none 2 := ⟨tw_499, tw_502, tw_500, tw_514, tw_515, tw_57, tw_516, ⟨_, _, _, tw_548⟩, by decide +kernel, by decide +kernel, by decide +kernel⟩
theorem cu_X8_91_6 : CU "NestedDeeds$Walker" 91 "NestedDeeds$Copying" ⟨"NestedDeeds$Task", "enter", "(II)V"⟩ ⟨"NestedDeeds$Copying", "enter", "(II)V"⟩ prog_3_method_5_code 4 none 2 := ⟨tw_499, tw_502, tw_500, tw_507, tw_508, tw_58, tw_509, ⟨_, _, _, tw_548⟩, by decide +kernel, by decide +kernel, by decide +kernel⟩
theorem cv_X8_94 : CV "NestedDeeds$Walker" 94 ⟨"NestedDeeds$Deeds", "partsOf", "(I)I"⟩ prog_4_method_5_code 2 (some .int) 1 := ⟨tw_558, tw_446, tw_447, tw_49, tw_448, by decide +kernel, by decide +kernel, by decide +kernel⟩
theorem cu_X8_98_0 : CU "NestedDeeds$Walker" 98 "NestedDeeds$Task" ⟨"NestedDeeds$Task", "choose", "(III)I"⟩ ⟨"NestedDeeds$Task", "choose", "(III)I"⟩ prog_9_method_3_code 4 (some .int) 3 := ⟨tw_559, tw_562, tw_560, tw_561, tw_560, tw_52, tw_588, ⟨_, _, _, tw_588⟩, by decide +kernel, by decide +kernel, by decide +kernel⟩
theorem cu_X8_98_1 : CU "NestedDeeds$Walker" 98 "NestedDeeds$Weighing" ⟨"NestedDeeds$Task", "choose", "(III)I"⟩ ⟨"NestedDeeds$Weighing", "choose", "(III)I"⟩ prog_11_method_3_code 4 (some .int) 3 := ⟨tw_559, tw_562, tw_560, tw_573, tw_574, tw_53, tw_575, ⟨_, _, _, tw_588⟩, by decide +kernel, by decide +kernel, by decide +kernel⟩
theorem cu_X8_98_2 : CU "NestedDeeds$Walker" 98 "NestedDeeds$Marking" ⟨"NestedDeeds$Task", "choose", "(III)I"⟩ ⟨"NestedDeeds$Task", "choose", "(III)I"⟩ prog_9_method_3_code 4 (some .int) 3 := ⟨tw_559, tw_562, tw_560, tw_572, tw_560, tw_52, tw_588, ⟨_, _, _, tw_588⟩, by decide +kernel, by decide +kernel, by decide +kernel⟩
theorem cu_X8_98_3 : CU "NestedDeeds$Walker" 98 "NestedDeeds$Comparing" ⟨"NestedDeeds$Task", "choose", "(III)I"⟩ ⟨"NestedDeeds$Comparing", "choose", "(III)I"⟩ prog_2_method_4_code 5 (some .int) 3 := ⟨tw_559, tw_562, tw_560, tw_563, tw_564, tw_55, tw_565, ⟨_, _, _, tw_588⟩, by decide +kernel, by decide +kernel, by decide +kernel⟩
theorem cu_X8_98_4 : CU "NestedDeeds$Walker" 98 "NestedDeeds$Writing" ⟨"NestedDeeds$Task", "choose", "(III)I"⟩ ⟨"NestedDeeds$Writing", "choose", "(III)I"⟩ prog_12_method_3_code 4 (some .int) 3 := ⟨tw_559, tw_562, tw_560, tw_584, tw_585, tw_56, tw_586, ⟨_, _, _, tw_588⟩, by decide +kernel, by decide +kernel, by decide +kernel⟩
theorem cu_X8_98_5 : CU "NestedDeeds$Walker" 98 "NestedDeeds$Finding" ⟨"NestedDeeds$Task", "choose", "(III)I"⟩ ⟨"NestedDeeds$Task", "choose", "(III)I"⟩ prog_9_method_3_code 4 (some .int) 3 := ⟨tw_559, tw_562, tw_560, tw_571, tw_560, tw_52, tw_588, ⟨_, _, _, tw_588⟩, by decide +kernel, by decide +kernel, by decide +kernel⟩
theorem cu_X8_98_6 : CU "NestedDeeds$Walker" 98 "NestedDeeds$Copying" ⟨"NestedDeeds$Task", "choose", "(III)I"⟩ ⟨"NestedDeeds$Copying", "choose", "(III)I"⟩ prog_3_method_7_code 4 (some .int) 3 := ⟨tw_559, tw_562, tw_560, tw_567, tw_568, tw_58, tw_569, ⟨_, _, _, tw_588⟩, by decide +kernel, by decide +kernel, by decide +kernel⟩
theorem cv_X8_102 : CV "NestedDeeds$Walker" 102 ⟨"NestedDeeds$Walker", "nextPart", "(I)I"⟩ prog_10_method_7_code 4 (some .int) 1 := ⟨tw_554, tw_556, tw_5, tw_59, tw_557, by decide +kernel, by decide +kernel, by decide +kernel⟩
theorem cu_X8_105_0 : CU "NestedDeeds$Walker" 105 "NestedDeeds$Task" ⟨"NestedDeeds$Task", "takeUp", "(III)V"⟩ ⟨"NestedDeeds$Task", "takeUp", "(III)V"⟩ prog_9_method_4_code 4 none 3 := ⟨tw_615, tw_618, tw_616, tw_617, tw_616, tw_52, tw_648, ⟨_, _, _, tw_648⟩, by decide +kernel, by decide +kernel, by decide +kernel⟩
theorem cu_X8_105_1 : CU "NestedDeeds$Walker" 105 "NestedDeeds$Weighing" ⟨"NestedDeeds$Task", "takeUp", "(III)V"⟩ ⟨"NestedDeeds$Weighing", "takeUp", "(III)V"⟩ prog_11_method_5_code 8 none 3 := ⟨tw_615, tw_618, tw_616, tw_631, tw_632, tw_53, tw_633, ⟨_, _, _, tw_648⟩, by decide +kernel, by decide +kernel, by decide +kernel⟩
theorem cu_X8_105_2 : CU "NestedDeeds$Walker" 105 "NestedDeeds$Marking" ⟨"NestedDeeds$Task", "takeUp", "(III)V"⟩ ⟨"NestedDeeds$Marking", "takeUp", "(III)V"⟩ prog_6_method_6_code 4 none 3 := ⟨tw_615, tw_618, tw_616, tw_624, tw_625, tw_54, tw_626, ⟨_, _, _, tw_648⟩, by decide +kernel, by decide +kernel, by decide +kernel⟩
theorem cu_X8_105_3 : CU "NestedDeeds$Walker" 105 "NestedDeeds$Comparing" ⟨"NestedDeeds$Task", "takeUp", "(III)V"⟩ ⟨"NestedDeeds$Task", "takeUp", "(III)V"⟩ prog_9_method_4_code 4 none 3 := ⟨tw_615, tw_618, tw_616, tw_619, tw_616, tw_52, tw_648, ⟨_, _, _, tw_648⟩, by decide +kernel, by decide +kernel, by decide +kernel⟩
theorem cu_X8_105_4 : CU "NestedDeeds$Walker" 105 "NestedDeeds$Writing" ⟨"NestedDeeds$Task", "takeUp", "(III)V"⟩ ⟨"NestedDeeds$Task", "takeUp", "(III)V"⟩ prog_9_method_4_code 4 none 3 := ⟨tw_615, tw_618, tw_616, tw_647, tw_616, tw_52, tw_648, ⟨_, _, _, tw_648⟩, by decide +kernel, by decide +kernel, by decide +kernel⟩
theorem cu_X8_105_5 : CU "NestedDeeds$Walker" 105 "NestedDeeds$Finding" ⟨"NestedDeeds$Task", "takeUp", "(III)V"⟩ ⟨"NestedDeeds$Task", "takeUp", "(III)V"⟩ prog_9_method_4_code 4 none 3 := ⟨tw_615, tw_618, tw_616, tw_623, tw_616, tw_52, tw_648, ⟨_, _, _, tw_648⟩, by decide +kernel, by decide +kernel, by decide +kernel⟩
theorem cu_X8_105_6 : CU "NestedDeeds$Walker" 105 "NestedDeeds$Copying" ⟨"NestedDeeds$Task", "takeUp", "(III)V"⟩ ⟨"NestedDeeds$Copying", "takeUp", "(III)V"⟩ prog_3_method_8_code 4 none 3 := ⟨tw_615, tw_618, tw_616, tw_620, tw_621, tw_58, tw_622, ⟨_, _, _, tw_648⟩, by decide +kernel, by decide +kernel, by decide +kernel⟩
theorem cu_X8_109_0 : CU "NestedDeeds$Walker" 109 "NestedDeeds$Task" ⟨"NestedDeeds$Task", "leave", "(II)V"⟩ ⟨"NestedDeeds$Task", "leave", "(II)V"⟩ prog_9_method_5_code 3 none 2 := ⟨tw_590, tw_593, tw_591, tw_592, tw_591, tw_52, tw_614, ⟨_, _, _, tw_614⟩, by decide +kernel, by decide +kernel, by decide +kernel⟩
theorem cu_X8_109_1 : CU "NestedDeeds$Walker" 109 "NestedDeeds$Weighing" ⟨"NestedDeeds$Task", "leave", "(II)V"⟩ ⟨"NestedDeeds$Task", "leave", "(II)V"⟩ prog_9_method_5_code 3 none 2 := ⟨tw_590, tw_593, tw_591, tw_610, tw_591, tw_52, tw_614, ⟨_, _, _, tw_614⟩, by decide +kernel, by decide +kernel, by decide +kernel⟩
theorem cu_X8_109_2 : CU "NestedDeeds$Walker" 109 "NestedDeeds$Marking" ⟨"NestedDeeds$Task", "leave", "(II)V"⟩ ⟨"NestedDeeds$Marking", "leave", "(II)V"⟩ prog_6_method_7_code 3 none 2 := ⟨tw_590, tw_593, tw_591, tw_604, tw_605, tw_54, tw_606, ⟨_, _, _, tw_614⟩, by decide +kernel, by decide +kernel, by decide +kernel⟩
theorem cu_X8_109_3 : CU "NestedDeeds$Walker" 109 "NestedDeeds$Comparing" ⟨"NestedDeeds$Task", "leave", "(II)V"⟩ ⟨"NestedDeeds$Task", "leave", "(II)V"⟩ prog_9_method_5_code 3 none 2 := ⟨tw_590, tw_593, tw_591, tw_594, tw_591, tw_52, tw_614, ⟨_, _, _, tw_614⟩, by decide +kernel, by decide +kernel, by decide +kernel⟩
theorem cu_X8_109_4 : CU "NestedDeeds$Walker" 109 "NestedDeeds$Writing" ⟨"NestedDeeds$Task", "leave", "(II)V"⟩ ⟨"NestedDeeds$Writing", "leave", "(II)V"⟩ prog_12_method_4_code 3 none 2 := ⟨tw_590, tw_593, tw_591, tw_611, tw_612, tw_56, tw_613, ⟨_, _, _, tw_614⟩, by decide +kernel, by decide +kernel, by decide +kernel⟩
theorem cu_X8_109_5 : CU "NestedDeeds$Walker" 109 "NestedDeeds$Finding" ⟨"NestedDeeds$Task", "leave", "(II)V"⟩ ⟨"NestedDeeds$Task", "leave", "(II)V"⟩ prog_9_method_5_code 3 none 2 := ⟨tw_590, tw_593, tw_591, tw_603, tw_591, tw_52, tw_614, ⟨_, _, _, tw_614⟩, by decide +kernel, by decide +kernel, by decide +kernel⟩
theorem cu_X8_109_6 : CU "NestedDeeds$Walker" 109 "NestedDeeds$Copying" ⟨"NestedDeeds$Task", "leave", "(II)V"⟩ ⟨"NestedDeeds$Copying", "leave", "(II)V"⟩ prog_3_method_9_code 3 none 2 := ⟨tw_590, tw_593, tw_591, tw_595, tw_596, tw_58, tw_597, ⟨_, _, _, tw_614⟩, by decide +kernel, by decide +kernel, by decide +kernel⟩
theorem cv_X8_116 : CV "NestedDeeds$Walker" 116 ⟨"NestedDeeds$Walker", "take", "(I)I"⟩ prog_10_method_11_code 2 (some .int) 1 := ⟨tw_653, tw_655, tw_9, tw_59, tw_656, by decide +kernel, by decide +kernel, by decide +kernel⟩
theorem cv_X9_31 : CV "NestedDeeds$Weighing" 31 ⟨"NestedDeeds$Deeds", "partsOf", "(I)I"⟩ prog_4_method_5_code 2 (some .int) 1 := ⟨tw_528, tw_446, tw_447, tw_49, tw_448, by decide +kernel, by decide +kernel, by decide +kernel⟩
theorem cv_X9_35 : CV "NestedDeeds$Weighing" 35 ⟨"NestedDeeds$Weighing", "placeOfChoice", "(III)I"⟩ prog_11_method_4_code 6 (some .int) 3 := ⟨tw_576, tw_578, tw_6, tw_53, tw_579, by decide +kernel, by decide +kernel, by decide +kernel⟩
theorem cv_X9_39 : CV "NestedDeeds$Weighing" 39 ⟨"NestedDeeds$Deeds", "partAt", "(II)I"⟩ prog_4_method_6_code 3 (some .int) 2 := ⟨tw_583, tw_475, tw_476, tw_49, tw_477, by decide +kernel, by decide +kernel, by decide +kernel⟩
theorem cs_X9_43 : CS "NestedDeeds$Weighing" 43 ⟨"java/lang/Math", "floorMod", "(JJ)J"⟩ prog_16_method_52_code 6 (some .long) 2 := ⟨tw_580, tw_581, tw_62, tw_582, by decide +kernel, by decide +kernel, by decide +kernel⟩
theorem cs_X9_49 : CS "NestedDeeds$Weighing" 49 ⟨"java/lang/Math", "max", "(JJ)J"⟩ prog_16_method_66_code 4 (some .long) 2 := ⟨tw_634, tw_635, tw_62, tw_636, by decide +kernel, by decide +kernel, by decide +kernel⟩
theorem cs_X9_52 : CS "NestedDeeds$Weighing" 52 ⟨"java/lang/Math", "min", "(JJ)J"⟩ prog_16_method_70_code 4 (some .long) 2 := ⟨tw_637, tw_638, tw_62, tw_639, by decide +kernel, by decide +kernel, by decide +kernel⟩
theorem cv_X9_55 : CV "NestedDeeds$Weighing" 55 ⟨"NestedDeeds$Weighing", "takeUpLike", "(IIJ)V"⟩ prog_11_method_6_code 5 none 3 := ⟨tw_640, tw_642, tw_7, tw_53, tw_643, by decide +kernel, by decide +kernel, by decide +kernel⟩
theorem cs_X9_59 : CS "NestedDeeds$Weighing" 59 ⟨"java/lang/Long", "rotateLeft", "(JI)J"⟩ prog_15_method_51_code 3 (some .long) 2 := ⟨tw_644, tw_645, tw_63, tw_646, by decide +kernel, by decide +kernel, by decide +kernel⟩
theorem cv_X10_25 : CV "NestedDeeds$Writing" 25 ⟨"NestedDeeds$Paper", "add", "(I)V"⟩ prog_7_method_4_code 2 none 1 := ⟨tw_532, tw_533, tw_534, tw_50, tw_535, by decide +kernel, by decide +kernel, by decide +kernel⟩
theorem cv_X10_34 : CV "NestedDeeds$Writing" 34 ⟨"NestedDeeds$Paper", "addFigures", "(I)V"⟩ prog_7_method_5_code 7 none 1 := ⟨tw_536, tw_537, tw_538, tw_50, tw_539, by decide +kernel, by decide +kernel, by decide +kernel⟩
theorem cv_X10_37 : CV "NestedDeeds$Writing" 37 ⟨"NestedDeeds$Deeds", "partsOf", "(I)I"⟩ prog_4_method_5_code 2 (some .int) 1 := ⟨tw_547, tw_446, tw_447, tw_49, tw_448, by decide +kernel, by decide +kernel, by decide +kernel⟩
theorem cv_X10_48 : CV "NestedDeeds$Writing" 48 ⟨"NestedDeeds$Deeds", "partAt", "(II)I"⟩ prog_4_method_6_code 3 (some .int) 2 := ⟨tw_587, tw_475, tw_476, tw_49, tw_477, by decide +kernel, by decide +kernel, by decide +kernel⟩
theorem cv_L_13 : CV "NestedDeedsLaw" 13 ⟨"NestedDeeds", "deed", "(II)I"⟩ prog_1_method_2_code 3 (some .int) 2 := ⟨tw_411, tw_412, tw_413, tw_48, tw_414, by decide +kernel, by decide +kernel, by decide +kernel⟩
theorem cv_L_17 : CV "NestedDeedsLaw" 17 ⟨"NestedDeedsModel", "deed", "(II)I"⟩ prog_14_method_6_code 3 (some .int) 2 := ⟨tw_952, tw_953, tw_954, tw_60, tw_955, by decide +kernel, by decide +kernel, by decide +kernel⟩
theorem cv_L_18 : CV "NestedDeedsLaw" 18 ⟨"NestedDeeds", "enclose", "(II)I"⟩ prog_1_method_3_code 3 (some .int) 2 := ⟨tw_430, tw_431, tw_432, tw_48, tw_433, by decide +kernel, by decide +kernel, by decide +kernel⟩
theorem cv_L_21 : CV "NestedDeedsLaw" 21 ⟨"NestedDeedsModel", "enclose", "(II)I"⟩ prog_14_method_7_code 3 (some .int) 2 := ⟨tw_963, tw_964, tw_965, tw_60, tw_966, by decide +kernel, by decide +kernel, by decide +kernel⟩
theorem cv_L_22 : CV "NestedDeedsLaw" 22 ⟨"NestedDeeds", "chain", "(IIIII)I"⟩ prog_1_method_4_code 10 (some .int) 5 := ⟨tw_449, tw_450, tw_451, tw_48, tw_452, by decide +kernel, by decide +kernel, by decide +kernel⟩
theorem cv_L_26 : CV "NestedDeedsLaw" 26 ⟨"NestedDeedsModel", "chain", "(IIIII)I"⟩ prog_14_method_8_code 11 (some .int) 5 := ⟨tw_975, tw_976, tw_977, tw_60, tw_978, by decide +kernel, by decide +kernel, by decide +kernel⟩
theorem cv_L_27 : CV "NestedDeedsLaw" 27 ⟨"NestedDeeds", "way", "(I)I"⟩ prog_1_method_6_code 3 (some .int) 1 := ⟨tw_457, tw_458, tw_459, tw_48, tw_460, by decide +kernel, by decide +kernel, by decide +kernel⟩
theorem cv_L_31 : CV "NestedDeedsLaw" 31 ⟨"NestedDeedsModel", "way", "(I)I"⟩ prog_14_method_9_code 3 (some .int) 1 := ⟨tw_979, tw_980, tw_981, tw_60, tw_982, by decide +kernel, by decide +kernel, by decide +kernel⟩
theorem cv_L_32 : CV "NestedDeedsLaw" 32 ⟨"NestedDeeds", "meter", "(I)I"⟩ prog_1_method_7_code 3 (some .int) 1 := ⟨tw_461, tw_462, tw_463, tw_48, tw_464, by decide +kernel, by decide +kernel, by decide +kernel⟩
theorem cv_L_35 : CV "NestedDeedsLaw" 35 ⟨"NestedDeedsModel", "meter", "(I)I"⟩ prog_14_method_10_code 3 (some .int) 1 := ⟨tw_983, tw_984, tw_985, tw_60, tw_986, by decide +kernel, by decide +kernel, by decide +kernel⟩
theorem cv_L_36 : CV "NestedDeedsLaw" 36 ⟨"NestedDeeds", "of", "(II)I"⟩ prog_1_method_8_code 3 (some .int) 2 := ⟨tw_465, tw_466, tw_467, tw_48, tw_468, by decide +kernel, by decide +kernel, by decide +kernel⟩
theorem cv_L_39 : CV "NestedDeedsLaw" 39 ⟨"NestedDeedsModel", "of", "(II)I"⟩ prog_14_method_11_code 3 (some .int) 2 := ⟨tw_987, tw_988, tw_989, tw_60, tw_990, by decide +kernel, by decide +kernel, by decide +kernel⟩
theorem cv_L_40 : CV "NestedDeedsLaw" 40 ⟨"NestedDeeds", "part", "(II)I"⟩ prog_1_method_9_code 3 (some .int) 2 := ⟨tw_470, tw_471, tw_472, tw_48, tw_473, by decide +kernel, by decide +kernel, by decide +kernel⟩
theorem cv_L_43 : CV "NestedDeedsLaw" 43 ⟨"NestedDeedsModel", "part", "(II)I"⟩ prog_14_method_13_code 3 (some .int) 2 := ⟨tw_992, tw_993, tw_994, tw_60, tw_995, by decide +kernel, by decide +kernel, by decide +kernel⟩
theorem cv_L_44 : CV "NestedDeedsLaw" 44 ⟨"NestedDeeds", "size", "(I)I"⟩ prog_1_method_10_code 3 (some .int) 1 := ⟨tw_478, tw_479, tw_480, tw_48, tw_481, by decide +kernel, by decide +kernel, by decide +kernel⟩
theorem cv_L_47 : CV "NestedDeedsLaw" 47 ⟨"NestedDeedsModel", "size", "(I)I"⟩ prog_14_method_28_code 2 (some .int) 1 := ⟨tw_1000, tw_1001, tw_1002, tw_60, tw_1003, by decide +kernel, by decide +kernel, by decide +kernel⟩
theorem cv_L_48 : CV "NestedDeedsLaw" 48 ⟨"NestedDeeds", "depth", "(I)I"⟩ prog_1_method_11_code 3 (some .int) 1 := ⟨tw_664, tw_665, tw_666, tw_48, tw_667, by decide +kernel, by decide +kernel, by decide +kernel⟩
theorem cv_L_51 : CV "NestedDeedsLaw" 51 ⟨"NestedDeedsModel", "depth", "(I)I"⟩ prog_14_method_29_code 2 (some .int) 1 := ⟨tw_1040, tw_1041, tw_1042, tw_60, tw_1043, by decide +kernel, by decide +kernel, by decide +kernel⟩
theorem cv_L_52 : CV "NestedDeedsLaw" 52 ⟨"NestedDeeds", "worth", "(I)J"⟩ prog_1_method_12_code 2 (some .long) 1 := ⟨tw_668, tw_669, tw_670, tw_48, tw_671, by decide +kernel, by decide +kernel, by decide +kernel⟩
theorem cv_L_56 : CV "NestedDeedsLaw" 56 ⟨"NestedDeedsModel", "worth", "(I)J"⟩ prog_14_method_30_code 2 (some .long) 1 := ⟨tw_1044, tw_1045, tw_1046, tw_60, tw_1047, by decide +kernel, by decide +kernel, by decide +kernel⟩
theorem cv_L_57 : CV "NestedDeedsLaw" 57 ⟨"NestedDeeds", "mark", "(I)J"⟩ prog_1_method_13_code 2 (some .long) 1 := ⟨tw_672, tw_673, tw_674, tw_48, tw_675, by decide +kernel, by decide +kernel, by decide +kernel⟩
theorem cv_L_60 : CV "NestedDeedsLaw" 60 ⟨"NestedDeedsModel", "mark", "(I)J"⟩ prog_14_method_31_code 2 (some .long) 1 := ⟨tw_1070, tw_1071, tw_1072, tw_60, tw_1073, by decide +kernel, by decide +kernel, by decide +kernel⟩
theorem cv_L_61 : CV "NestedDeedsLaw" 61 ⟨"NestedDeeds", "alike", "(II)I"⟩ prog_1_method_14_code 4 (some .int) 2 := ⟨tw_676, tw_677, tw_678, tw_48, tw_679, by decide +kernel, by decide +kernel, by decide +kernel⟩
theorem cv_L_64 : CV "NestedDeedsLaw" 64 ⟨"NestedDeedsModel", "alike", "(II)I"⟩ prog_14_method_33_code 8 (some .int) 2 := ⟨tw_1074, tw_1075, tw_1076, tw_60, tw_1077, by decide +kernel, by decide +kernel, by decide +kernel⟩
theorem cv_L_65 : CV "NestedDeedsLaw" 65 ⟨"NestedDeeds", "write", "(I)I"⟩ prog_1_method_15_code 3 (some .int) 1 := ⟨tw_685, tw_686, tw_687, tw_48, tw_688, by decide +kernel, by decide +kernel, by decide +kernel⟩
theorem cv_L_68 : CV "NestedDeedsLaw" 68 ⟨"NestedDeedsModel", "write", "(I)I"⟩ prog_14_method_36_code 6 (some .int) 1 := ⟨tw_1082, tw_1083, tw_1084, tw_60, tw_1085, by decide +kernel, by decide +kernel, by decide +kernel⟩
theorem cv_L_69 : CV "NestedDeedsLaw" 69 ⟨"NestedDeeds", "find", "(III)I"⟩ prog_1_method_16_code 5 (some .int) 3 := ⟨tw_698, tw_699, tw_700, tw_48, tw_701, by decide +kernel, by decide +kernel, by decide +kernel⟩
theorem cv_L_73 : CV "NestedDeedsLaw" 73 ⟨"NestedDeedsModel", "find", "(III)I"⟩ prog_14_method_37_code 4 (some .int) 3 := ⟨tw_1096, tw_1097, tw_1098, tw_60, tw_1099, by decide +kernel, by decide +kernel, by decide +kernel⟩
theorem cv_L_74 : CV "NestedDeedsLaw" 74 ⟨"NestedDeeds", "widest", "(II)I"⟩ prog_1_method_17_code 5 (some .int) 2 := ⟨tw_706, tw_707, tw_708, tw_48, tw_709, by decide +kernel, by decide +kernel, by decide +kernel⟩
theorem cv_L_77 : CV "NestedDeedsLaw" 77 ⟨"NestedDeedsModel", "widest", "(II)I"⟩ prog_14_method_38_code 5 (some .int) 2 := ⟨tw_1100, tw_1101, tw_1102, tw_60, tw_1103, by decide +kernel, by decide +kernel, by decide +kernel⟩
theorem cv_L_78 : CV "NestedDeedsLaw" 78 ⟨"NestedDeeds", "copy", "(I)I"⟩ prog_1_method_18_code 2 (some .int) 1 := ⟨tw_714, tw_715, tw_716, tw_48, tw_717, by decide +kernel, by decide +kernel, by decide +kernel⟩
theorem cv_L_81 : CV "NestedDeedsLaw" 81 ⟨"NestedDeedsModel", "copy", "(I)I"⟩ prog_14_method_43_code 2 (some .int) 1 := ⟨tw_1104, tw_1105, tw_1106, tw_60, tw_1107, by decide +kernel, by decide +kernel, by decide +kernel⟩
theorem cv_L_82 : CV "NestedDeedsLaw" 82 ⟨"NestedDeeds", "thin", "(II)I"⟩ prog_1_method_19_code 3 (some .int) 2 := ⟨tw_744, tw_745, tw_746, tw_48, tw_747, by decide +kernel, by decide +kernel, by decide +kernel⟩
theorem cv_L_85 : CV "NestedDeedsLaw" 85 ⟨"NestedDeedsModel", "thin", "(II)I"⟩ prog_14_method_44_code 3 (some .int) 2 := ⟨tw_1125, tw_1126, tw_1127, tw_60, tw_1128, by decide +kernel, by decide +kernel, by decide +kernel⟩
theorem cv_L_86 : CV "NestedDeedsLaw" 86 ⟨"NestedDeeds", "order", "(I)I"⟩ prog_1_method_20_code 2 (some .int) 1 := ⟨tw_748, tw_749, tw_750, tw_48, tw_751, by decide +kernel, by decide +kernel, by decide +kernel⟩
theorem cv_L_89 : CV "NestedDeedsLaw" 89 ⟨"NestedDeedsModel", "order", "(I)I"⟩ prog_14_method_45_code 2 (some .int) 1 := ⟨tw_1129, tw_1130, tw_1131, tw_60, tw_1132, by decide +kernel, by decide +kernel, by decide +kernel⟩
theorem cv_L_92 : CV "NestedDeedsLaw" 92 ⟨"NestedDeeds", "feed", "(JI)I"⟩ prog_1_method_22_code 5 (some .int) 2 := ⟨tw_752, tw_753, tw_754, tw_48, tw_755, by decide +kernel, by decide +kernel, by decide +kernel⟩
theorem cv_L_96 : CV "NestedDeedsLaw" 96 ⟨"NestedDeedsModel", "feed", "(JI)I"⟩ prog_14_method_46_code 5 (some .int) 2 := ⟨tw_1133, tw_1134, tw_1135, tw_60, tw_1136, by decide +kernel, by decide +kernel, by decide +kernel⟩
theorem cv_L_97 : CV "NestedDeedsLaw" 97 ⟨"NestedDeeds", "tear", "()I"⟩ prog_1_method_23_code 2 (some .int) 0 := ⟨tw_757, tw_758, tw_759, tw_48, tw_760, by decide +kernel, by decide +kernel, by decide +kernel⟩
theorem cv_L_101 : CV "NestedDeedsLaw" 101 ⟨"NestedDeedsModel", "tear", "()I"⟩ prog_14_method_47_code 2 (some .int) 0 := ⟨tw_1138, tw_1139, tw_1140, tw_60, tw_1141, by decide +kernel, by decide +kernel, by decide +kernel⟩
theorem cv_L_102 : CV "NestedDeedsLaw" 102 ⟨"NestedDeeds", "byteAt", "(I)I"⟩ prog_1_method_24_code 2 (some .int) 1 := ⟨tw_761, tw_762, tw_763, tw_48, tw_764, by decide +kernel, by decide +kernel, by decide +kernel⟩
theorem cv_L_105 : CV "NestedDeedsLaw" 105 ⟨"NestedDeedsModel", "byteAt", "(I)I"⟩ prog_14_method_48_code 2 (some .int) 1 := ⟨tw_1142, tw_1143, tw_1144, tw_60, tw_1145, by decide +kernel, by decide +kernel, by decide +kernel⟩
theorem cv_L_106 : CV "NestedDeedsLaw" 106 ⟨"NestedDeeds", "read", "()I"⟩ prog_1_method_25_code 2 (some .int) 0 := ⟨tw_769, tw_770, tw_771, tw_48, tw_772, by decide +kernel, by decide +kernel, by decide +kernel⟩
theorem cv_L_109 : CV "NestedDeedsLaw" 109 ⟨"NestedDeedsModel", "read", "()I"⟩ prog_14_method_53_code 4 (some .int) 0 := ⟨tw_1146, tw_1147, tw_1148, tw_60, tw_1149, by decide +kernel, by decide +kernel, by decide +kernel⟩
theorem cv_L_110 : CV "NestedDeedsLaw" 110 ⟨"NestedDeeds", "answer", "()I"⟩ prog_1_method_26_code 1 (some .int) 0 := ⟨tw_813, tw_814, tw_815, tw_48, tw_816, by decide +kernel, by decide +kernel, by decide +kernel⟩
theorem cv_L_113 : CV "NestedDeedsLaw" 113 ⟨"NestedDeedsModel", "answer", "()I"⟩ prog_14_method_54_code 1 (some .int) 0 := ⟨tw_1167, tw_1168, tw_1169, tw_60, tw_1170, by decide +kernel, by decide +kernel, by decide +kernel⟩
theorem cv_L_114 : CV "NestedDeedsLaw" 114 ⟨"NestedDeeds", "count", "(I)I"⟩ prog_1_method_27_code 2 (some .int) 1 := ⟨tw_817, tw_818, tw_819, tw_48, tw_820, by decide +kernel, by decide +kernel, by decide +kernel⟩
theorem cv_L_117 : CV "NestedDeedsLaw" 117 ⟨"NestedDeedsModel", "count", "(I)I"⟩ prog_14_method_55_code 2 (some .int) 1 := ⟨tw_1171, tw_1172, tw_1173, tw_60, tw_1174, by decide +kernel, by decide +kernel, by decide +kernel⟩
theorem cs_X12_93 : CS "NestedDeedsModel" 93 ⟨"NestedDeedsModel", "in", "(III)Z"⟩ prog_14_method_2_code 3 (some .boolean) 3 := ⟨tw_956, tw_957, tw_60, tw_958, by decide +kernel, by decide +kernel, by decide +kernel⟩
theorem cv_X12_100 : CV "NestedDeedsModel" 100 ⟨"NestedDeedsModel", "add", "(II)I"⟩ prog_14_method_4_code 3 (some .int) 2 := ⟨tw_959, tw_961, tw_19, tw_60, tw_962, by decide +kernel, by decide +kernel, by decide +kernel⟩
theorem cv_X12_104 : CV "NestedDeedsModel" 104 ⟨"NestedDeedsModel", "isDeed", "(I)Z"⟩ prog_14_method_3_code 2 (some .boolean) 1 := ⟨tw_967, tw_969, tw_20, tw_60, tw_970, by decide +kernel, by decide +kernel, by decide +kernel⟩
theorem cv_X12_108 : CV "NestedDeedsModel" 108 ⟨"NestedDeedsModel", "addPart", "(II)I"⟩ prog_14_method_5_code 3 (some .int) 2 := ⟨tw_971, tw_973, tw_21, tw_60, tw_974, by decide +kernel, by decide +kernel, by decide +kernel⟩
theorem cv_X12_115 : CV "NestedDeedsModel" 115 ⟨"NestedDeedsModel", "partAt", "(II)I"⟩ prog_14_method_12_code 5 (some .int) 2 := ⟨tw_996, tw_998, tw_22, tw_60, tw_999, by decide +kernel, by decide +kernel, by decide +kernel⟩
theorem cs_X12_118 : CS "NestedDeedsModel" 118 ⟨"NestedDeedsModel", "turned", "(JI)J"⟩ prog_14_method_14_code 4 (some .long) 2 := ⟨tw_1060, tw_1061, tw_60, tw_1062, by decide +kernel, by decide +kernel, by decide +kernel⟩
theorem cv_X12_122 : CV "NestedDeedsModel" 122 ⟨"NestedDeedsModel", "chosen", "(I)I"⟩ prog_14_method_16_code 7 (some .int) 1 := ⟨tw_1032, tw_1034, tw_30, tw_60, tw_1035, by decide +kernel, by decide +kernel, by decide +kernel⟩
theorem cv_X12_126 : CV "NestedDeedsModel" 126 ⟨"NestedDeedsModel", "lookedAt", "(I)I"⟩ prog_14_method_17_code 4 (some .int) 1 := ⟨tw_1028, tw_1030, tw_29, tw_60, tw_1031, by decide +kernel, by decide +kernel, by decide +kernel⟩
theorem cv_X12_129 : CV "NestedDeedsModel" 129 ⟨"NestedDeedsModel", "byAll", "(I)J"⟩ prog_14_method_15_code 9 (some .long) 1 := ⟨tw_1056, tw_1058, tw_34, tw_60, tw_1059, by decide +kernel, by decide +kernel, by decide +kernel⟩
theorem cv_X12_139 : CV "NestedDeedsModel" 139 ⟨"NestedDeedsModel", "worthIn", "(I)J"⟩ prog_14_method_18_code 5 (some .long) 1 := ⟨tw_1052, tw_1054, tw_33, tw_60, tw_1055, by decide +kernel, by decide +kernel, by decide +kernel⟩
theorem cv_X12_142 : CV "NestedDeedsModel" 142 ⟨"NestedDeedsModel", "markIn", "(I)J"⟩ prog_14_method_19_code 5 (some .long) 1 := ⟨tw_1063, tw_1065, tw_35, tw_60, tw_1066, by decide +kernel, by decide +kernel, by decide +kernel⟩
theorem cv_X12_163 : CV "NestedDeedsModel" 163 ⟨"NestedDeedsModel", "begin", "()V"⟩ prog_14_method_21_code 1 none 0 := ⟨tw_1016, tw_1018, tw_26, tw_60, tw_1019, by decide +kernel, by decide +kernel, by decide +kernel⟩
theorem cv_X12_166 : CV "NestedDeedsModel" 166 ⟨"NestedDeedsModel", "visit", "(II)Z"⟩ prog_14_method_22_code 3 (some .boolean) 2 := ⟨tw_1020, tw_1022, tw_27, tw_60, tw_1023, by decide +kernel, by decide +kernel, by decide +kernel⟩
theorem cv_X12_170 : CV "NestedDeedsModel" 170 ⟨"NestedDeedsModel", "nextFrom", "(Z)I"⟩ prog_14_method_25_code 5 (some .int) 1 := ⟨tw_1024, tw_1026, tw_28, tw_60, tw_1027, by decide +kernel, by decide +kernel, by decide +kernel⟩
theorem cv_X12_174 : CV "NestedDeedsModel" 174 ⟨"NestedDeedsModel", "ended", "()I"⟩ prog_14_method_23_code 1 (some .int) 0 := ⟨tw_1036, tw_1038, tw_31, tw_60, tw_1039, by decide +kernel, by decide +kernel, by decide +kernel⟩
theorem cv_X12_178 : CV "NestedDeedsModel" 178 ⟨"NestedDeedsModel", "walk", "(IZZII)I"⟩ prog_14_method_26_code 9 (some .int) 5 := ⟨tw_1012, tw_1014, tw_25, tw_60, tw_1015, by decide +kernel, by decide +kernel, by decide +kernel⟩
theorem cv_X12_182 : CV "NestedDeedsModel" 182 ⟨"NestedDeedsModel", "bad", "()I"⟩ prog_14_method_24_code 1 (some .int) 0 := ⟨tw_1004, tw_1006, tw_23, tw_60, tw_1007, by decide +kernel, by decide +kernel, by decide +kernel⟩
theorem cv_X12_185 : CV "NestedDeedsModel" 185 ⟨"NestedDeedsModel", "walkAll", "(I)I"⟩ prog_14_method_27_code 2 (some .int) 1 := ⟨tw_1008, tw_1010, tw_24, tw_60, tw_1011, by decide +kernel, by decide +kernel, by decide +kernel⟩
theorem cv_X12_188 : CV "NestedDeedsModel" 188 ⟨"NestedDeedsModel", "workOut", "(I)V"⟩ prog_14_method_20_code 3 none 1 := ⟨tw_1048, tw_1050, tw_32, tw_60, tw_1051, by decide +kernel, by decide +kernel, by decide +kernel⟩
theorem cv_X12_192 : CV "NestedDeedsModel" 192 ⟨"NestedDeedsModel", "differ", "(II)Z"⟩ prog_14_method_32_code 3 (some .boolean) 2 := ⟨tw_1078, tw_1080, tw_36, tw_60, tw_1081, by decide +kernel, by decide +kernel, by decide +kernel⟩
theorem cv_X12_202 : CV "NestedDeedsModel" 202 ⟨"NestedDeedsModel", "put", "(I)V"⟩ prog_14_method_34_code 2 none 1 := ⟨tw_1090, tw_1092, tw_38, tw_60, tw_1093, by decide +kernel, by decide +kernel, by decide +kernel⟩
theorem cv_X12_209 : CV "NestedDeedsModel" 209 ⟨"NestedDeedsModel", "putDeed", "(I)V"⟩ prog_14_method_35_code 8 none 1 := ⟨tw_1086, tw_1088, tw_37, tw_60, tw_1089, by decide +kernel, by decide +kernel, by decide +kernel⟩
theorem cv_X12_219 : CV "NestedDeedsModel" 219 ⟨"NestedDeedsModel", "plant", "(IIJIZ)V"⟩ prog_14_method_39_code 10 none 5 := ⟨tw_1117, tw_1119, tw_41, tw_60, tw_1120, by decide +kernel, by decide +kernel, by decide +kernel⟩
theorem cv_X12_223 : CV "NestedDeedsModel" 223 ⟨"NestedDeedsModel", "grow", "()I"⟩ prog_14_method_40_code 3 (some .int) 0 := ⟨tw_1121, tw_1123, tw_42, tw_60, tw_1124, by decide +kernel, by decide +kernel, by decide +kernel⟩
theorem cv_X12_226 : CV "NestedDeedsModel" 226 ⟨"NestedDeedsModel", "build", "(ZIZ)I"⟩ prog_14_method_41_code 8 (some .int) 3 := ⟨tw_1112, tw_1114, tw_40, tw_60, tw_1115, by decide +kernel, by decide +kernel, by decide +kernel⟩
theorem cv_X12_230 : CV "NestedDeedsModel" 230 ⟨"NestedDeedsModel", "anew", "(IZIZ)I"⟩ prog_14_method_42_code 5 (some .int) 4 := ⟨tw_1108, tw_1110, tw_39, tw_60, tw_1111, by decide +kernel, by decide +kernel, by decide +kernel⟩
theorem cv_X12_239 : CV "NestedDeedsModel" 239 ⟨"NestedDeedsModel", "now", "()I"⟩ prog_14_method_49_code 1 (some .int) 0 := ⟨tw_1154, tw_1156, tw_44, tw_60, tw_1157, by decide +kernel, by decide +kernel, by decide +kernel⟩
theorem cv_X12_242 : CV "NestedDeedsModel" 242 ⟨"NestedDeedsModel", "isFigure", "()Z"⟩ prog_14_method_50_code 1 (some .boolean) 0 := ⟨tw_1162, tw_1164, tw_46, tw_60, tw_1165, by decide +kernel, by decide +kernel, by decide +kernel⟩
theorem cv_X12_251 : CV "NestedDeedsModel" 251 ⟨"NestedDeedsModel", "figures", "()I"⟩ prog_14_method_51_code 6 (some .int) 0 := ⟨tw_1158, tw_1160, tw_45, tw_60, tw_1161, by decide +kernel, by decide +kernel, by decide +kernel⟩
theorem cv_X12_254 : CV "NestedDeedsModel" 254 ⟨"NestedDeedsModel", "readOne", "(I)V"⟩ prog_14_method_52_code 4 none 1 := ⟨tw_1150, tw_1152, tw_43, tw_60, tw_1153, by decide +kernel, by decide +kernel, by decide +kernel⟩
end
