set_option maxRecDepth 20000 in
theorem tw_842 : Cond.fieldLink "NestedDeedsModel" 157 "NestedDeedsModel" "toldVisited" "I" ∈ tb := tb_mem (List.mem_of_getElem? (i := 842) (by decide +kernel)) rfl
set_option maxRecDepth 20000 in
theorem tw_843 : Cond.fieldLink "NestedDeedsModel" 160 "NestedDeedsModel" "toldCalls" "I" ∈ tb := tb_mem (List.mem_of_getElem? (i := 843) (by decide +kernel)) rfl
set_option maxRecDepth 20000 in
theorem tw_844 : Cond.fieldLink "NestedDeedsModel" 38 "NestedDeedsModel" "worths" "[J" ∈ tb := tb_mem (List.mem_of_getElem? (i := 844) (by decide +kernel)) rfl
set_option maxRecDepth 20000 in
theorem tw_845 : Cond.fieldLink "NestedDeedsModel" 42 "NestedDeedsModel" "marks" "[J" ∈ tb := tb_mem (List.mem_of_getElem? (i := 845) (by decide +kernel)) rfl
set_option maxRecDepth 20000 in
theorem tw_846 : Cond.fieldLink "NestedDeedsModel" 145 "NestedDeedsModel" "depth" "I" ∈ tb := tb_mem (List.mem_of_getElem? (i := 846) (by decide +kernel)) rfl
set_option maxRecDepth 20000 in
theorem tw_847 : Cond.fieldLink "NestedDeedsModel" 148 "NestedDeedsModel" "visited" "I" ∈ tb := tb_mem (List.mem_of_getElem? (i := 847) (by decide +kernel)) rfl
set_option maxRecDepth 20000 in
theorem tw_848 : Cond.fieldLink "NestedDeedsModel" 151 "NestedDeedsModel" "deepest" "I" ∈ tb := tb_mem (List.mem_of_getElem? (i := 848) (by decide +kernel)) rfl
set_option maxRecDepth 20000 in
theorem tw_849 : Cond.fieldLink "NestedDeedsModel" 45 "NestedDeedsModel" "pile" "[I" ∈ tb := tb_mem (List.mem_of_getElem? (i := 849) (by decide +kernel)) rfl
set_option maxRecDepth 20000 in
theorem tw_850 : Cond.fieldLink "NestedDeedsModel" 48 "NestedDeedsModel" "other" "[I" ∈ tb := tb_mem (List.mem_of_getElem? (i := 850) (by decide +kernel)) rfl
set_option maxRecDepth 20000 in
theorem tw_851 : Cond.fieldLink "NestedDeedsModel" 51 "NestedDeedsModel" "begun" "[I" ∈ tb := tb_mem (List.mem_of_getElem? (i := 851) (by decide +kernel)) rfl
set_option maxRecDepth 20000 in
theorem tw_852 : Cond.fieldLink "NestedDeedsModel" 54 "NestedDeedsModel" "visitDeed" "[I" ∈ tb := tb_mem (List.mem_of_getElem? (i := 852) (by decide +kernel)) rfl
set_option maxRecDepth 20000 in
theorem tw_853 : Cond.fieldLink "NestedDeedsModel" 57 "NestedDeedsModel" "visitDepth" "[I" ∈ tb := tb_mem (List.mem_of_getElem? (i := 853) (by decide +kernel)) rfl
set_option maxRecDepth 20000 in
theorem tw_854 : Cond.fieldLink "NestedDeedsModel" 60 "NestedDeedsModel" "sheet" "[I" ∈ tb := tb_mem (List.mem_of_getElem? (i := 854) (by decide +kernel)) rfl
set_option maxRecDepth 20000 in
theorem tw_855 : Cond.fieldLink "NestedDeedsModel" 195 "NestedDeedsModel" "sheetSize" "I" ∈ tb := tb_mem (List.mem_of_getElem? (i := 855) (by decide +kernel)) rfl
set_option maxRecDepth 20000 in
theorem tw_856 : Cond.fieldLink "NestedDeedsModel" 198 "NestedDeedsModel" "isOver" "Z" ∈ tb := tb_mem (List.mem_of_getElem? (i := 856) (by decide +kernel)) rfl
set_option maxRecDepth 20000 in
theorem tw_857 : Cond.fieldLink "NestedDeedsModel" 63 "NestedDeedsModel" "wide" "[I" ∈ tb := tb_mem (List.mem_of_getElem? (i := 857) (by decide +kernel)) rfl
set_option maxRecDepth 20000 in
theorem tw_858 : Cond.fieldLink "NestedDeedsModel" 215 "NestedDeedsModel" "nodes" "I" ∈ tb := tb_mem (List.mem_of_getElem? (i := 858) (by decide +kernel)) rfl
set_option maxRecDepth 20000 in
theorem tw_859 : Cond.fieldLink "NestedDeedsModel" 66 "NestedDeedsModel" "nodeKind" "[I" ∈ tb := tb_mem (List.mem_of_getElem? (i := 859) (by decide +kernel)) rfl
set_option maxRecDepth 20000 in
theorem tw_860 : Cond.fieldLink "NestedDeedsModel" 69 "NestedDeedsModel" "nodeNumber" "[I" ∈ tb := tb_mem (List.mem_of_getElem? (i := 860) (by decide +kernel)) rfl
set_option maxRecDepth 20000 in
theorem tw_861 : Cond.fieldLink "NestedDeedsModel" 72 "NestedDeedsModel" "nodeMark" "[J" ∈ tb := tb_mem (List.mem_of_getElem? (i := 861) (by decide +kernel)) rfl
set_option maxRecDepth 20000 in
theorem tw_862 : Cond.fieldLink "NestedDeedsModel" 75 "NestedDeedsModel" "child" "[I" ∈ tb := tb_mem (List.mem_of_getElem? (i := 862) (by decide +kernel)) rfl
set_option maxRecDepth 20000 in
theorem tw_863 : Cond.fieldLink "NestedDeedsModel" 78 "NestedDeedsModel" "sibling" "[I" ∈ tb := tb_mem (List.mem_of_getElem? (i := 863) (by decide +kernel)) rfl
set_option maxRecDepth 20000 in
theorem tw_864 : Cond.fieldLink "NestedDeedsModel" 81 "NestedDeedsModel" "parent" "[I" ∈ tb := tb_mem (List.mem_of_getElem? (i := 864) (by decide +kernel)) rfl
set_option maxRecDepth 20000 in
theorem tw_865 : Cond.fieldLink "NestedDeedsModel" 84 "NestedDeedsModel" "made" "[I" ∈ tb := tb_mem (List.mem_of_getElem? (i := 865) (by decide +kernel)) rfl
set_option maxRecDepth 20000 in
theorem tw_866 : Cond.fieldLink "NestedDeedsModel" 87 "NestedDeedsModel" "open" "[I" ∈ tb := tb_mem (List.mem_of_getElem? (i := 866) (by decide +kernel)) rfl
set_option maxRecDepth 20000 in
theorem tw_867 : Cond.fieldLink "NestedDeedsModel" 236 "NestedDeedsModel" "place" "I" ∈ tb := tb_mem (List.mem_of_getElem? (i := 867) (by decide +kernel)) rfl
set_option maxRecDepth 20000 in
theorem tw_868 : Cond.fieldLink "NestedDeedsModel" 246 "NestedDeedsModel" "wrong" "I" ∈ tb := tb_mem (List.mem_of_getElem? (i := 868) (by decide +kernel)) rfl
set_option maxRecDepth 20000 in
theorem tw_952 : Cond.methodLink "NestedDeedsLaw" 17 ⟨"NestedDeedsModel", "deed", "(II)I"⟩ ∈ tb := tb_mem (List.mem_of_getElem? (i := 952) (by decide +kernel)) rfl
set_option maxRecDepth 20000 in
theorem tw_953 : Cond.instanceMethod ⟨"NestedDeedsModel", "deed", "(II)I"⟩ ∈ tb := tb_mem (List.mem_of_getElem? (i := 953) (by decide +kernel)) rfl
set_option maxRecDepth 20000 in
theorem tw_954 : Cond.selects "NestedDeedsModel" ⟨"NestedDeedsModel", "deed", "(II)I"⟩ ⟨"NestedDeedsModel", "deed", "(II)I"⟩ ∈ tb := tb_mem (List.mem_of_getElem? (i := 954) (by decide +kernel)) rfl
set_option maxRecDepth 20000 in
theorem tw_955 : Cond.code ⟨"NestedDeedsModel", "deed", "(II)I"⟩ prog_14_method_6_code 3 (some .int) ∈ tb := tb_mem (List.mem_of_getElem? (i := 955) (by decide +kernel)) rfl
set_option maxRecDepth 20000 in
theorem tw_956 : Cond.methodLink "NestedDeedsModel" 93 ⟨"NestedDeedsModel", "in", "(III)Z"⟩ ∈ tb := tb_mem (List.mem_of_getElem? (i := 956) (by decide +kernel)) rfl
set_option maxRecDepth 20000 in
theorem tw_957 : Cond.static ⟨"NestedDeedsModel", "in", "(III)Z"⟩ ∈ tb := tb_mem (List.mem_of_getElem? (i := 957) (by decide +kernel)) rfl
set_option maxRecDepth 20000 in
theorem tw_958 : Cond.code ⟨"NestedDeedsModel", "in", "(III)Z"⟩ prog_14_method_2_code 3 (some .boolean) ∈ tb := tb_mem (List.mem_of_getElem? (i := 958) (by decide +kernel)) rfl
set_option maxRecDepth 20000 in
theorem tw_959 : Cond.methodLink "NestedDeedsModel" 100 ⟨"NestedDeedsModel", "add", "(II)I"⟩ ∈ tb := tb_mem (List.mem_of_getElem? (i := 959) (by decide +kernel)) rfl
set_option maxRecDepth 20000 in
theorem tw_961 : Cond.instanceMethod ⟨"NestedDeedsModel", "add", "(II)I"⟩ ∈ tb := tb_mem (List.mem_of_getElem? (i := 961) (by decide +kernel)) rfl
set_option maxRecDepth 20000 in
theorem tw_962 : Cond.code ⟨"NestedDeedsModel", "add", "(II)I"⟩ prog_14_method_4_code 3 (some .int) ∈ tb := tb_mem (List.mem_of_getElem? (i := 962) (by decide +kernel)) rfl
set_option maxRecDepth 20000 in
theorem tw_963 : Cond.methodLink "NestedDeedsLaw" 21 ⟨"NestedDeedsModel", "enclose", "(II)I"⟩ ∈ tb := tb_mem (List.mem_of_getElem? (i := 963) (by decide +kernel)) rfl
set_option maxRecDepth 20000 in
theorem tw_964 : Cond.instanceMethod ⟨"NestedDeedsModel", "enclose", "(II)I"⟩ ∈ tb := tb_mem (List.mem_of_getElem? (i := 964) (by decide +kernel)) rfl
set_option maxRecDepth 20000 in
theorem tw_965 : Cond.selects "NestedDeedsModel" ⟨"NestedDeedsModel", "enclose", "(II)I"⟩ ⟨"NestedDeedsModel", "enclose", "(II)I"⟩ ∈ tb := tb_mem (List.mem_of_getElem? (i := 965) (by decide +kernel)) rfl
set_option maxRecDepth 20000 in
theorem tw_966 : Cond.code ⟨"NestedDeedsModel", "enclose", "(II)I"⟩ prog_14_method_7_code 3 (some .int) ∈ tb := tb_mem (List.mem_of_getElem? (i := 966) (by decide +kernel)) rfl
set_option maxRecDepth 20000 in
theorem tw_967 : Cond.methodLink "NestedDeedsModel" 104 ⟨"NestedDeedsModel", "isDeed", "(I)Z"⟩ ∈ tb := tb_mem (List.mem_of_getElem? (i := 967) (by decide +kernel)) rfl
set_option maxRecDepth 20000 in
theorem tw_969 : Cond.instanceMethod ⟨"NestedDeedsModel", "isDeed", "(I)Z"⟩ ∈ tb := tb_mem (List.mem_of_getElem? (i := 969) (by decide +kernel)) rfl
set_option maxRecDepth 20000 in
theorem tw_970 : Cond.code ⟨"NestedDeedsModel", "isDeed", "(I)Z"⟩ prog_14_method_3_code 2 (some .boolean) ∈ tb := tb_mem (List.mem_of_getElem? (i := 970) (by decide +kernel)) rfl
set_option maxRecDepth 20000 in
theorem tw_971 : Cond.methodLink "NestedDeedsModel" 108 ⟨"NestedDeedsModel", "addPart", "(II)I"⟩ ∈ tb := tb_mem (List.mem_of_getElem? (i := 971) (by decide +kernel)) rfl
set_option maxRecDepth 20000 in
theorem tw_973 : Cond.instanceMethod ⟨"NestedDeedsModel", "addPart", "(II)I"⟩ ∈ tb := tb_mem (List.mem_of_getElem? (i := 973) (by decide +kernel)) rfl
set_option maxRecDepth 20000 in
theorem tw_974 : Cond.code ⟨"NestedDeedsModel", "addPart", "(II)I"⟩ prog_14_method_5_code 3 (some .int) ∈ tb := tb_mem (List.mem_of_getElem? (i := 974) (by decide +kernel)) rfl
set_option maxRecDepth 20000 in
theorem tw_975 : Cond.methodLink "NestedDeedsLaw" 26 ⟨"NestedDeedsModel", "chain", "(IIIII)I"⟩ ∈ tb := tb_mem (List.mem_of_getElem? (i := 975) (by decide +kernel)) rfl
set_option maxRecDepth 20000 in
theorem tw_976 : Cond.instanceMethod ⟨"NestedDeedsModel", "chain", "(IIIII)I"⟩ ∈ tb := tb_mem (List.mem_of_getElem? (i := 976) (by decide +kernel)) rfl
set_option maxRecDepth 20000 in
theorem tw_977 : Cond.selects "NestedDeedsModel" ⟨"NestedDeedsModel", "chain", "(IIIII)I"⟩ ⟨"NestedDeedsModel", "chain", "(IIIII)I"⟩ ∈ tb := tb_mem (List.mem_of_getElem? (i := 977) (by decide +kernel)) rfl
set_option maxRecDepth 20000 in
theorem tw_978 : Cond.code ⟨"NestedDeedsModel", "chain", "(IIIII)I"⟩ prog_14_method_8_code 11 (some .int) ∈ tb := tb_mem (List.mem_of_getElem? (i := 978) (by decide +kernel)) rfl
set_option maxRecDepth 20000 in
theorem tw_979 : Cond.methodLink "NestedDeedsLaw" 31 ⟨"NestedDeedsModel", "way", "(I)I"⟩ ∈ tb := tb_mem (List.mem_of_getElem? (i := 979) (by decide +kernel)) rfl
set_option maxRecDepth 20000 in
theorem tw_980 : Cond.instanceMethod ⟨"NestedDeedsModel", "way", "(I)I"⟩ ∈ tb := tb_mem (List.mem_of_getElem? (i := 980) (by decide +kernel)) rfl
set_option maxRecDepth 20000 in
theorem tw_981 : Cond.selects "NestedDeedsModel" ⟨"NestedDeedsModel", "way", "(I)I"⟩ ⟨"NestedDeedsModel", "way", "(I)I"⟩ ∈ tb := tb_mem (List.mem_of_getElem? (i := 981) (by decide +kernel)) rfl
set_option maxRecDepth 20000 in
theorem tw_982 : Cond.code ⟨"NestedDeedsModel", "way", "(I)I"⟩ prog_14_method_9_code 3 (some .int) ∈ tb := tb_mem (List.mem_of_getElem? (i := 982) (by decide +kernel)) rfl
set_option maxRecDepth 20000 in
theorem tw_983 : Cond.methodLink "NestedDeedsLaw" 35 ⟨"NestedDeedsModel", "meter", "(I)I"⟩ ∈ tb := tb_mem (List.mem_of_getElem? (i := 983) (by decide +kernel)) rfl
set_option maxRecDepth 20000 in
theorem tw_984 : Cond.instanceMethod ⟨"NestedDeedsModel", "meter", "(I)I"⟩ ∈ tb := tb_mem (List.mem_of_getElem? (i := 984) (by decide +kernel)) rfl
set_option maxRecDepth 20000 in
theorem tw_985 : Cond.selects "NestedDeedsModel" ⟨"NestedDeedsModel", "meter", "(I)I"⟩ ⟨"NestedDeedsModel", "meter", "(I)I"⟩ ∈ tb := tb_mem (List.mem_of_getElem? (i := 985) (by decide +kernel)) rfl
set_option maxRecDepth 20000 in
theorem tw_986 : Cond.code ⟨"NestedDeedsModel", "meter", "(I)I"⟩ prog_14_method_10_code 3 (some .int) ∈ tb := tb_mem (List.mem_of_getElem? (i := 986) (by decide +kernel)) rfl
set_option maxRecDepth 20000 in
theorem tw_987 : Cond.methodLink "NestedDeedsLaw" 39 ⟨"NestedDeedsModel", "of", "(II)I"⟩ ∈ tb := tb_mem (List.mem_of_getElem? (i := 987) (by decide +kernel)) rfl
set_option maxRecDepth 20000 in
theorem tw_988 : Cond.instanceMethod ⟨"NestedDeedsModel", "of", "(II)I"⟩ ∈ tb := tb_mem (List.mem_of_getElem? (i := 988) (by decide +kernel)) rfl
set_option maxRecDepth 20000 in
theorem tw_989 : Cond.selects "NestedDeedsModel" ⟨"NestedDeedsModel", "of", "(II)I"⟩ ⟨"NestedDeedsModel", "of", "(II)I"⟩ ∈ tb := tb_mem (List.mem_of_getElem? (i := 989) (by decide +kernel)) rfl
set_option maxRecDepth 20000 in
theorem tw_990 : Cond.code ⟨"NestedDeedsModel", "of", "(II)I"⟩ prog_14_method_11_code 3 (some .int) ∈ tb := tb_mem (List.mem_of_getElem? (i := 990) (by decide +kernel)) rfl
set_option maxRecDepth 20000 in
theorem tw_991 : Cond.constant "NestedDeedsModel" 114 (-2147483648 : Int32) ∈ tb := tb_mem (List.mem_of_getElem? (i := 991) (by decide +kernel)) rfl
set_option maxRecDepth 20000 in
theorem tw_992 : Cond.methodLink "NestedDeedsLaw" 43 ⟨"NestedDeedsModel", "part", "(II)I"⟩ ∈ tb := tb_mem (List.mem_of_getElem? (i := 992) (by decide +kernel)) rfl
set_option maxRecDepth 20000 in
theorem tw_993 : Cond.instanceMethod ⟨"NestedDeedsModel", "part", "(II)I"⟩ ∈ tb := tb_mem (List.mem_of_getElem? (i := 993) (by decide +kernel)) rfl
set_option maxRecDepth 20000 in
theorem tw_994 : Cond.selects "NestedDeedsModel" ⟨"NestedDeedsModel", "part", "(II)I"⟩ ⟨"NestedDeedsModel", "part", "(II)I"⟩ ∈ tb := tb_mem (List.mem_of_getElem? (i := 994) (by decide +kernel)) rfl
set_option maxRecDepth 20000 in
theorem tw_995 : Cond.code ⟨"NestedDeedsModel", "part", "(II)I"⟩ prog_14_method_13_code 3 (some .int) ∈ tb := tb_mem (List.mem_of_getElem? (i := 995) (by decide +kernel)) rfl
set_option maxRecDepth 20000 in
theorem tw_996 : Cond.methodLink "NestedDeedsModel" 115 ⟨"NestedDeedsModel", "partAt", "(II)I"⟩ ∈ tb := tb_mem (List.mem_of_getElem? (i := 996) (by decide +kernel)) rfl
set_option maxRecDepth 20000 in
theorem tw_998 : Cond.instanceMethod ⟨"NestedDeedsModel", "partAt", "(II)I"⟩ ∈ tb := tb_mem (List.mem_of_getElem? (i := 998) (by decide +kernel)) rfl
set_option maxRecDepth 20000 in
theorem tw_999 : Cond.code ⟨"NestedDeedsModel", "partAt", "(II)I"⟩ prog_14_method_12_code 5 (some .int) ∈ tb := tb_mem (List.mem_of_getElem? (i := 999) (by decide +kernel)) rfl
set_option maxRecDepth 20000 in
theorem tw_1000 : Cond.methodLink "NestedDeedsLaw" 47 ⟨"NestedDeedsModel", "size", "(I)I"⟩ ∈ tb := tb_mem (List.mem_of_getElem? (i := 1000) (by decide +kernel)) rfl
set_option maxRecDepth 20000 in
theorem tw_1001 : Cond.instanceMethod ⟨"NestedDeedsModel", "size", "(I)I"⟩ ∈ tb := tb_mem (List.mem_of_getElem? (i := 1001) (by decide +kernel)) rfl
set_option maxRecDepth 20000 in
theorem tw_1002 : Cond.selects "NestedDeedsModel" ⟨"NestedDeedsModel", "size", "(I)I"⟩ ⟨"NestedDeedsModel", "size", "(I)I"⟩ ∈ tb := tb_mem (List.mem_of_getElem? (i := 1002) (by decide +kernel)) rfl
set_option maxRecDepth 20000 in
theorem tw_1003 : Cond.code ⟨"NestedDeedsModel", "size", "(I)I"⟩ prog_14_method_28_code 2 (some .int) ∈ tb := tb_mem (List.mem_of_getElem? (i := 1003) (by decide +kernel)) rfl
set_option maxRecDepth 20000 in
theorem tw_1004 : Cond.methodLink "NestedDeedsModel" 182 ⟨"NestedDeedsModel", "bad", "()I"⟩ ∈ tb := tb_mem (List.mem_of_getElem? (i := 1004) (by decide +kernel)) rfl
set_option maxRecDepth 20000 in
theorem tw_1006 : Cond.instanceMethod ⟨"NestedDeedsModel", "bad", "()I"⟩ ∈ tb := tb_mem (List.mem_of_getElem? (i := 1006) (by decide +kernel)) rfl
set_option maxRecDepth 20000 in
theorem tw_1007 : Cond.code ⟨"NestedDeedsModel", "bad", "()I"⟩ prog_14_method_24_code 1 (some .int) ∈ tb := tb_mem (List.mem_of_getElem? (i := 1007) (by decide +kernel)) rfl
set_option maxRecDepth 20000 in
theorem tw_1008 : Cond.methodLink "NestedDeedsModel" 185 ⟨"NestedDeedsModel", "walkAll", "(I)I"⟩ ∈ tb := tb_mem (List.mem_of_getElem? (i := 1008) (by decide +kernel)) rfl
set_option maxRecDepth 20000 in
theorem tw_1010 : Cond.instanceMethod ⟨"NestedDeedsModel", "walkAll", "(I)I"⟩ ∈ tb := tb_mem (List.mem_of_getElem? (i := 1010) (by decide +kernel)) rfl
set_option maxRecDepth 20000 in
theorem tw_1011 : Cond.code ⟨"NestedDeedsModel", "walkAll", "(I)I"⟩ prog_14_method_27_code 2 (some .int) ∈ tb := tb_mem (List.mem_of_getElem? (i := 1011) (by decide +kernel)) rfl
set_option maxRecDepth 20000 in
theorem tw_1012 : Cond.methodLink "NestedDeedsModel" 178 ⟨"NestedDeedsModel", "walk", "(IZZII)I"⟩ ∈ tb := tb_mem (List.mem_of_getElem? (i := 1012) (by decide +kernel)) rfl
set_option maxRecDepth 20000 in
theorem tw_1014 : Cond.instanceMethod ⟨"NestedDeedsModel", "walk", "(IZZII)I"⟩ ∈ tb := tb_mem (List.mem_of_getElem? (i := 1014) (by decide +kernel)) rfl
set_option maxRecDepth 20000 in
theorem tw_1015 : Cond.code ⟨"NestedDeedsModel", "walk", "(IZZII)I"⟩ prog_14_method_26_code 9 (some .int) ∈ tb := tb_mem (List.mem_of_getElem? (i := 1015) (by decide +kernel)) rfl
set_option maxRecDepth 20000 in
theorem tw_1016 : Cond.methodLink "NestedDeedsModel" 163 ⟨"NestedDeedsModel", "begin", "()V"⟩ ∈ tb := tb_mem (List.mem_of_getElem? (i := 1016) (by decide +kernel)) rfl
set_option maxRecDepth 20000 in
theorem tw_1018 : Cond.instanceMethod ⟨"NestedDeedsModel", "begin", "()V"⟩ ∈ tb := tb_mem (List.mem_of_getElem? (i := 1018) (by decide +kernel)) rfl
set_option maxRecDepth 20000 in
theorem tw_1019 : Cond.code ⟨"NestedDeedsModel", "begin", "()V"⟩ prog_14_method_21_code 1 none ∈ tb := tb_mem (List.mem_of_getElem? (i := 1019) (by decide +kernel)) rfl
set_option maxRecDepth 20000 in
theorem tw_1020 : Cond.methodLink "NestedDeedsModel" 166 ⟨"NestedDeedsModel", "visit", "(II)Z"⟩ ∈ tb := tb_mem (List.mem_of_getElem? (i := 1020) (by decide +kernel)) rfl
set_option maxRecDepth 20000 in
theorem tw_1022 : Cond.instanceMethod ⟨"NestedDeedsModel", "visit", "(II)Z"⟩ ∈ tb := tb_mem (List.mem_of_getElem? (i := 1022) (by decide +kernel)) rfl
set_option maxRecDepth 20000 in
theorem tw_1023 : Cond.code ⟨"NestedDeedsModel", "visit", "(II)Z"⟩ prog_14_method_22_code 3 (some .boolean) ∈ tb := tb_mem (List.mem_of_getElem? (i := 1023) (by decide +kernel)) rfl
set_option maxRecDepth 20000 in
theorem tw_1024 : Cond.methodLink "NestedDeedsModel" 170 ⟨"NestedDeedsModel", "nextFrom", "(Z)I"⟩ ∈ tb := tb_mem (List.mem_of_getElem? (i := 1024) (by decide +kernel)) rfl
set_option maxRecDepth 20000 in
theorem tw_1026 : Cond.instanceMethod ⟨"NestedDeedsModel", "nextFrom", "(Z)I"⟩ ∈ tb := tb_mem (List.mem_of_getElem? (i := 1026) (by decide +kernel)) rfl
set_option maxRecDepth 20000 in
theorem tw_1027 : Cond.code ⟨"NestedDeedsModel", "nextFrom", "(Z)I"⟩ prog_14_method_25_code 5 (some .int) ∈ tb := tb_mem (List.mem_of_getElem? (i := 1027) (by decide +kernel)) rfl
set_option maxRecDepth 20000 in
theorem tw_1028 : Cond.methodLink "NestedDeedsModel" 126 ⟨"NestedDeedsModel", "lookedAt", "(I)I"⟩ ∈ tb := tb_mem (List.mem_of_getElem? (i := 1028) (by decide +kernel)) rfl
set_option maxRecDepth 20000 in
theorem tw_1030 : Cond.instanceMethod ⟨"NestedDeedsModel", "lookedAt", "(I)I"⟩ ∈ tb := tb_mem (List.mem_of_getElem? (i := 1030) (by decide +kernel)) rfl
set_option maxRecDepth 20000 in
theorem tw_1031 : Cond.code ⟨"NestedDeedsModel", "lookedAt", "(I)I"⟩ prog_14_method_17_code 4 (some .int) ∈ tb := tb_mem (List.mem_of_getElem? (i := 1031) (by decide +kernel)) rfl
set_option maxRecDepth 20000 in
theorem tw_1032 : Cond.methodLink "NestedDeedsModel" 122 ⟨"NestedDeedsModel", "chosen", "(I)I"⟩ ∈ tb := tb_mem (List.mem_of_getElem? (i := 1032) (by decide +kernel)) rfl
set_option maxRecDepth 20000 in
theorem tw_1034 : Cond.instanceMethod ⟨"NestedDeedsModel", "chosen", "(I)I"⟩ ∈ tb := tb_mem (List.mem_of_getElem? (i := 1034) (by decide +kernel)) rfl
set_option maxRecDepth 20000 in
theorem tw_1035 : Cond.code ⟨"NestedDeedsModel", "chosen", "(I)I"⟩ prog_14_method_16_code 7 (some .int) ∈ tb := tb_mem (List.mem_of_getElem? (i := 1035) (by decide +kernel)) rfl
set_option maxRecDepth 20000 in
theorem tw_1036 : Cond.methodLink "NestedDeedsModel" 174 ⟨"NestedDeedsModel", "ended", "()I"⟩ ∈ tb := tb_mem (List.mem_of_getElem? (i := 1036) (by decide +kernel)) rfl
set_option maxRecDepth 20000 in
theorem tw_1038 : Cond.instanceMethod ⟨"NestedDeedsModel", "ended", "()I"⟩ ∈ tb := tb_mem (List.mem_of_getElem? (i := 1038) (by decide +kernel)) rfl
set_option maxRecDepth 20000 in
theorem tw_1039 : Cond.code ⟨"NestedDeedsModel", "ended", "()I"⟩ prog_14_method_23_code 1 (some .int) ∈ tb := tb_mem (List.mem_of_getElem? (i := 1039) (by decide +kernel)) rfl
set_option maxRecDepth 20000 in
theorem tw_1040 : Cond.methodLink "NestedDeedsLaw" 51 ⟨"NestedDeedsModel", "depth", "(I)I"⟩ ∈ tb := tb_mem (List.mem_of_getElem? (i := 1040) (by decide +kernel)) rfl
set_option maxRecDepth 20000 in
theorem tw_1041 : Cond.instanceMethod ⟨"NestedDeedsModel", "depth", "(I)I"⟩ ∈ tb := tb_mem (List.mem_of_getElem? (i := 1041) (by decide +kernel)) rfl
set_option maxRecDepth 20000 in
theorem tw_1042 : Cond.selects "NestedDeedsModel" ⟨"NestedDeedsModel", "depth", "(I)I"⟩ ⟨"NestedDeedsModel", "depth", "(I)I"⟩ ∈ tb := tb_mem (List.mem_of_getElem? (i := 1042) (by decide +kernel)) rfl
set_option maxRecDepth 20000 in
theorem tw_1043 : Cond.code ⟨"NestedDeedsModel", "depth", "(I)I"⟩ prog_14_method_29_code 2 (some .int) ∈ tb := tb_mem (List.mem_of_getElem? (i := 1043) (by decide +kernel)) rfl
set_option maxRecDepth 20000 in
theorem tw_1044 : Cond.methodLink "NestedDeedsLaw" 56 ⟨"NestedDeedsModel", "worth", "(I)J"⟩ ∈ tb := tb_mem (List.mem_of_getElem? (i := 1044) (by decide +kernel)) rfl
set_option maxRecDepth 20000 in
theorem tw_1045 : Cond.instanceMethod ⟨"NestedDeedsModel", "worth", "(I)J"⟩ ∈ tb := tb_mem (List.mem_of_getElem? (i := 1045) (by decide +kernel)) rfl
set_option maxRecDepth 20000 in
theorem tw_1046 : Cond.selects "NestedDeedsModel" ⟨"NestedDeedsModel", "worth", "(I)J"⟩ ⟨"NestedDeedsModel", "worth", "(I)J"⟩ ∈ tb := tb_mem (List.mem_of_getElem? (i := 1046) (by decide +kernel)) rfl
set_option maxRecDepth 20000 in
theorem tw_1047 : Cond.code ⟨"NestedDeedsModel", "worth", "(I)J"⟩ prog_14_method_30_code 2 (some .long) ∈ tb := tb_mem (List.mem_of_getElem? (i := 1047) (by decide +kernel)) rfl
set_option maxRecDepth 20000 in
theorem tw_1048 : Cond.methodLink "NestedDeedsModel" 188 ⟨"NestedDeedsModel", "workOut", "(I)V"⟩ ∈ tb := tb_mem (List.mem_of_getElem? (i := 1048) (by decide +kernel)) rfl
set_option maxRecDepth 20000 in
theorem tw_1050 : Cond.instanceMethod ⟨"NestedDeedsModel", "workOut", "(I)V"⟩ ∈ tb := tb_mem (List.mem_of_getElem? (i := 1050) (by decide +kernel)) rfl
set_option maxRecDepth 20000 in
theorem tw_1051 : Cond.code ⟨"NestedDeedsModel", "workOut", "(I)V"⟩ prog_14_method_20_code 3 none ∈ tb := tb_mem (List.mem_of_getElem? (i := 1051) (by decide +kernel)) rfl
set_option maxRecDepth 20000 in
theorem tw_1052 : Cond.methodLink "NestedDeedsModel" 139 ⟨"NestedDeedsModel", "worthIn", "(I)J"⟩ ∈ tb := tb_mem (List.mem_of_getElem? (i := 1052) (by decide +kernel)) rfl
set_option maxRecDepth 20000 in
theorem tw_1054 : Cond.instanceMethod ⟨"NestedDeedsModel", "worthIn", "(I)J"⟩ ∈ tb := tb_mem (List.mem_of_getElem? (i := 1054) (by decide +kernel)) rfl
set_option maxRecDepth 20000 in
theorem tw_1055 : Cond.code ⟨"NestedDeedsModel", "worthIn", "(I)J"⟩ prog_14_method_18_code 5 (some .long) ∈ tb := tb_mem (List.mem_of_getElem? (i := 1055) (by decide +kernel)) rfl
set_option maxRecDepth 20000 in
theorem tw_1056 : Cond.methodLink "NestedDeedsModel" 129 ⟨"NestedDeedsModel", "byAll", "(I)J"⟩ ∈ tb := tb_mem (List.mem_of_getElem? (i := 1056) (by decide +kernel)) rfl
set_option maxRecDepth 20000 in
theorem tw_1058 : Cond.instanceMethod ⟨"NestedDeedsModel", "byAll", "(I)J"⟩ ∈ tb := tb_mem (List.mem_of_getElem? (i := 1058) (by decide +kernel)) rfl
set_option maxRecDepth 20000 in
theorem tw_1059 : Cond.code ⟨"NestedDeedsModel", "byAll", "(I)J"⟩ prog_14_method_15_code 9 (some .long) ∈ tb := tb_mem (List.mem_of_getElem? (i := 1059) (by decide +kernel)) rfl
set_option maxRecDepth 20000 in
theorem tw_1060 : Cond.methodLink "NestedDeedsModel" 118 ⟨"NestedDeedsModel", "turned", "(JI)J"⟩ ∈ tb := tb_mem (List.mem_of_getElem? (i := 1060) (by decide +kernel)) rfl
set_option maxRecDepth 20000 in
theorem tw_1061 : Cond.static ⟨"NestedDeedsModel", "turned", "(JI)J"⟩ ∈ tb := tb_mem (List.mem_of_getElem? (i := 1061) (by decide +kernel)) rfl
set_option maxRecDepth 20000 in
theorem tw_1062 : Cond.code ⟨"NestedDeedsModel", "turned", "(JI)J"⟩ prog_14_method_14_code 4 (some .long) ∈ tb := tb_mem (List.mem_of_getElem? (i := 1062) (by decide +kernel)) rfl
set_option maxRecDepth 20000 in
theorem tw_1063 : Cond.methodLink "NestedDeedsModel" 142 ⟨"NestedDeedsModel", "markIn", "(I)J"⟩ ∈ tb := tb_mem (List.mem_of_getElem? (i := 1063) (by decide +kernel)) rfl
set_option maxRecDepth 20000 in
theorem tw_1065 : Cond.instanceMethod ⟨"NestedDeedsModel", "markIn", "(I)J"⟩ ∈ tb := tb_mem (List.mem_of_getElem? (i := 1065) (by decide +kernel)) rfl
set_option maxRecDepth 20000 in
theorem tw_1066 : Cond.code ⟨"NestedDeedsModel", "markIn", "(I)J"⟩ prog_14_method_19_code 5 (some .long) ∈ tb := tb_mem (List.mem_of_getElem? (i := 1066) (by decide +kernel)) rfl
set_option maxRecDepth 20000 in
theorem tw_1067 : Cond.constantLong "NestedDeedsModel" 133 (7 : Int64) ∈ tb := tb_mem (List.mem_of_getElem? (i := 1067) (by decide +kernel)) rfl
set_option maxRecDepth 20000 in
theorem tw_1068 : Cond.constantLong "NestedDeedsModel" 135 (31 : Int64) ∈ tb := tb_mem (List.mem_of_getElem? (i := 1068) (by decide +kernel)) rfl
set_option maxRecDepth 20000 in
theorem tw_1069 : Cond.constantLong "NestedDeedsModel" 137 (1000003 : Int64) ∈ tb := tb_mem (List.mem_of_getElem? (i := 1069) (by decide +kernel)) rfl
set_option maxRecDepth 20000 in
theorem tw_1070 : Cond.methodLink "NestedDeedsLaw" 60 ⟨"NestedDeedsModel", "mark", "(I)J"⟩ ∈ tb := tb_mem (List.mem_of_getElem? (i := 1070) (by decide +kernel)) rfl
set_option maxRecDepth 20000 in
theorem tw_1071 : Cond.instanceMethod ⟨"NestedDeedsModel", "mark", "(I)J"⟩ ∈ tb := tb_mem (List.mem_of_getElem? (i := 1071) (by decide +kernel)) rfl
set_option maxRecDepth 20000 in
theorem tw_1072 : Cond.selects "NestedDeedsModel" ⟨"NestedDeedsModel", "mark", "(I)J"⟩ ⟨"NestedDeedsModel", "mark", "(I)J"⟩ ∈ tb := tb_mem (List.mem_of_getElem? (i := 1072) (by decide +kernel)) rfl
set_option maxRecDepth 20000 in
theorem tw_1073 : Cond.code ⟨"NestedDeedsModel", "mark", "(I)J"⟩ prog_14_method_31_code 2 (some .long) ∈ tb := tb_mem (List.mem_of_getElem? (i := 1073) (by decide +kernel)) rfl
set_option maxRecDepth 20000 in
theorem tw_1074 : Cond.methodLink "NestedDeedsLaw" 64 ⟨"NestedDeedsModel", "alike", "(II)I"⟩ ∈ tb := tb_mem (List.mem_of_getElem? (i := 1074) (by decide +kernel)) rfl
set_option maxRecDepth 20000 in
theorem tw_1075 : Cond.instanceMethod ⟨"NestedDeedsModel", "alike", "(II)I"⟩ ∈ tb := tb_mem (List.mem_of_getElem? (i := 1075) (by decide +kernel)) rfl
set_option maxRecDepth 20000 in
theorem tw_1076 : Cond.selects "NestedDeedsModel" ⟨"NestedDeedsModel", "alike", "(II)I"⟩ ⟨"NestedDeedsModel", "alike", "(II)I"⟩ ∈ tb := tb_mem (List.mem_of_getElem? (i := 1076) (by decide +kernel)) rfl
set_option maxRecDepth 20000 in
theorem tw_1077 : Cond.code ⟨"NestedDeedsModel", "alike", "(II)I"⟩ prog_14_method_33_code 8 (some .int) ∈ tb := tb_mem (List.mem_of_getElem? (i := 1077) (by decide +kernel)) rfl
set_option maxRecDepth 20000 in
theorem tw_1078 : Cond.methodLink "NestedDeedsModel" 192 ⟨"NestedDeedsModel", "differ", "(II)Z"⟩ ∈ tb := tb_mem (List.mem_of_getElem? (i := 1078) (by decide +kernel)) rfl
set_option maxRecDepth 20000 in
theorem tw_1080 : Cond.instanceMethod ⟨"NestedDeedsModel", "differ", "(II)Z"⟩ ∈ tb := tb_mem (List.mem_of_getElem? (i := 1080) (by decide +kernel)) rfl
set_option maxRecDepth 20000 in
theorem tw_1081 : Cond.code ⟨"NestedDeedsModel", "differ", "(II)Z"⟩ prog_14_method_32_code 3 (some .boolean) ∈ tb := tb_mem (List.mem_of_getElem? (i := 1081) (by decide +kernel)) rfl
set_option maxRecDepth 20000 in
theorem tw_1082 : Cond.methodLink "NestedDeedsLaw" 68 ⟨"NestedDeedsModel", "write", "(I)I"⟩ ∈ tb := tb_mem (List.mem_of_getElem? (i := 1082) (by decide +kernel)) rfl
set_option maxRecDepth 20000 in
theorem tw_1083 : Cond.instanceMethod ⟨"NestedDeedsModel", "write", "(I)I"⟩ ∈ tb := tb_mem (List.mem_of_getElem? (i := 1083) (by decide +kernel)) rfl
set_option maxRecDepth 20000 in
theorem tw_1084 : Cond.selects "NestedDeedsModel" ⟨"NestedDeedsModel", "write", "(I)I"⟩ ⟨"NestedDeedsModel", "write", "(I)I"⟩ ∈ tb := tb_mem (List.mem_of_getElem? (i := 1084) (by decide +kernel)) rfl
set_option maxRecDepth 20000 in
theorem tw_1085 : Cond.code ⟨"NestedDeedsModel", "write", "(I)I"⟩ prog_14_method_36_code 6 (some .int) ∈ tb := tb_mem (List.mem_of_getElem? (i := 1085) (by decide +kernel)) rfl
set_option maxRecDepth 20000 in
theorem tw_1086 : Cond.methodLink "NestedDeedsModel" 209 ⟨"NestedDeedsModel", "putDeed", "(I)V"⟩ ∈ tb := tb_mem (List.mem_of_getElem? (i := 1086) (by decide +kernel)) rfl
set_option maxRecDepth 20000 in
theorem tw_1088 : Cond.instanceMethod ⟨"NestedDeedsModel", "putDeed", "(I)V"⟩ ∈ tb := tb_mem (List.mem_of_getElem? (i := 1088) (by decide +kernel)) rfl
set_option maxRecDepth 20000 in
theorem tw_1089 : Cond.code ⟨"NestedDeedsModel", "putDeed", "(I)V"⟩ prog_14_method_35_code 8 none ∈ tb := tb_mem (List.mem_of_getElem? (i := 1089) (by decide +kernel)) rfl
set_option maxRecDepth 20000 in
theorem tw_1090 : Cond.methodLink "NestedDeedsModel" 202 ⟨"NestedDeedsModel", "put", "(I)V"⟩ ∈ tb := tb_mem (List.mem_of_getElem? (i := 1090) (by decide +kernel)) rfl
set_option maxRecDepth 20000 in
theorem tw_1092 : Cond.instanceMethod ⟨"NestedDeedsModel", "put", "(I)V"⟩ ∈ tb := tb_mem (List.mem_of_getElem? (i := 1092) (by decide +kernel)) rfl
set_option maxRecDepth 20000 in
theorem tw_1093 : Cond.code ⟨"NestedDeedsModel", "put", "(I)V"⟩ prog_14_method_34_code 2 none ∈ tb := tb_mem (List.mem_of_getElem? (i := 1093) (by decide +kernel)) rfl
set_option maxRecDepth 20000 in
theorem tw_1094 : Cond.constantLong "NestedDeedsModel" 205 (9 : Int64) ∈ tb := tb_mem (List.mem_of_getElem? (i := 1094) (by decide +kernel)) rfl
set_option maxRecDepth 20000 in
theorem tw_1095 : Cond.constantLong "NestedDeedsModel" 207 (10 : Int64) ∈ tb := tb_mem (List.mem_of_getElem? (i := 1095) (by decide +kernel)) rfl
set_option maxRecDepth 20000 in
theorem tw_1096 : Cond.methodLink "NestedDeedsLaw" 73 ⟨"NestedDeedsModel", "find", "(III)I"⟩ ∈ tb := tb_mem (List.mem_of_getElem? (i := 1096) (by decide +kernel)) rfl
set_option maxRecDepth 20000 in
theorem tw_1097 : Cond.instanceMethod ⟨"NestedDeedsModel", "find", "(III)I"⟩ ∈ tb := tb_mem (List.mem_of_getElem? (i := 1097) (by decide +kernel)) rfl
set_option maxRecDepth 20000 in
theorem tw_1098 : Cond.selects "NestedDeedsModel" ⟨"NestedDeedsModel", "find", "(III)I"⟩ ⟨"NestedDeedsModel", "find", "(III)I"⟩ ∈ tb := tb_mem (List.mem_of_getElem? (i := 1098) (by decide +kernel)) rfl
set_option maxRecDepth 20000 in
theorem tw_1099 : Cond.code ⟨"NestedDeedsModel", "find", "(III)I"⟩ prog_14_method_37_code 4 (some .int) ∈ tb := tb_mem (List.mem_of_getElem? (i := 1099) (by decide +kernel)) rfl
set_option maxRecDepth 20000 in
theorem tw_1100 : Cond.methodLink "NestedDeedsLaw" 77 ⟨"NestedDeedsModel", "widest", "(II)I"⟩ ∈ tb := tb_mem (List.mem_of_getElem? (i := 1100) (by decide +kernel)) rfl
set_option maxRecDepth 20000 in
theorem tw_1101 : Cond.instanceMethod ⟨"NestedDeedsModel", "widest", "(II)I"⟩ ∈ tb := tb_mem (List.mem_of_getElem? (i := 1101) (by decide +kernel)) rfl
set_option maxRecDepth 20000 in
theorem tw_1102 : Cond.selects "NestedDeedsModel" ⟨"NestedDeedsModel", "widest", "(II)I"⟩ ⟨"NestedDeedsModel", "widest", "(II)I"⟩ ∈ tb := tb_mem (List.mem_of_getElem? (i := 1102) (by decide +kernel)) rfl
set_option maxRecDepth 20000 in
theorem tw_1103 : Cond.code ⟨"NestedDeedsModel", "widest", "(II)I"⟩ prog_14_method_38_code 5 (some .int) ∈ tb := tb_mem (List.mem_of_getElem? (i := 1103) (by decide +kernel)) rfl
set_option maxRecDepth 20000 in
theorem tw_1104 : Cond.methodLink "NestedDeedsLaw" 81 ⟨"NestedDeedsModel", "copy", "(I)I"⟩ ∈ tb := tb_mem (List.mem_of_getElem? (i := 1104) (by decide +kernel)) rfl
set_option maxRecDepth 20000 in
theorem tw_1105 : Cond.instanceMethod ⟨"NestedDeedsModel", "copy", "(I)I"⟩ ∈ tb := tb_mem (List.mem_of_getElem? (i := 1105) (by decide +kernel)) rfl
set_option maxRecDepth 20000 in
theorem tw_1106 : Cond.selects "NestedDeedsModel" ⟨"NestedDeedsModel", "copy", "(I)I"⟩ ⟨"NestedDeedsModel", "copy", "(I)I"⟩ ∈ tb := tb_mem (List.mem_of_getElem? (i := 1106) (by decide +kernel)) rfl
set_option maxRecDepth 20000 in
theorem tw_1107 : Cond.code ⟨"NestedDeedsModel", "copy", "(I)I"⟩ prog_14_method_43_code 2 (some .int) ∈ tb := tb_mem (List.mem_of_getElem? (i := 1107) (by decide +kernel)) rfl
set_option maxRecDepth 20000 in
theorem tw_1108 : Cond.methodLink "NestedDeedsModel" 230 ⟨"NestedDeedsModel", "anew", "(IZIZ)I"⟩ ∈ tb := tb_mem (List.mem_of_getElem? (i := 1108) (by decide +kernel)) rfl
set_option maxRecDepth 20000 in
theorem tw_1110 : Cond.instanceMethod ⟨"NestedDeedsModel", "anew", "(IZIZ)I"⟩ ∈ tb := tb_mem (List.mem_of_getElem? (i := 1110) (by decide +kernel)) rfl
set_option maxRecDepth 20000 in
theorem tw_1111 : Cond.code ⟨"NestedDeedsModel", "anew", "(IZIZ)I"⟩ prog_14_method_42_code 5 (some .int) ∈ tb := tb_mem (List.mem_of_getElem? (i := 1111) (by decide +kernel)) rfl
set_option maxRecDepth 20000 in
theorem tw_1112 : Cond.methodLink "NestedDeedsModel" 226 ⟨"NestedDeedsModel", "build", "(ZIZ)I"⟩ ∈ tb := tb_mem (List.mem_of_getElem? (i := 1112) (by decide +kernel)) rfl
set_option maxRecDepth 20000 in
theorem tw_1114 : Cond.instanceMethod ⟨"NestedDeedsModel", "build", "(ZIZ)I"⟩ ∈ tb := tb_mem (List.mem_of_getElem? (i := 1114) (by decide +kernel)) rfl
set_option maxRecDepth 20000 in
theorem tw_1115 : Cond.code ⟨"NestedDeedsModel", "build", "(ZIZ)I"⟩ prog_14_method_41_code 8 (some .int) ∈ tb := tb_mem (List.mem_of_getElem? (i := 1115) (by decide +kernel)) rfl
set_option maxRecDepth 20000 in
theorem tw_1116 : Cond.constant "NestedDeedsModel" 218 (100000 : Int32) ∈ tb := tb_mem (List.mem_of_getElem? (i := 1116) (by decide +kernel)) rfl
set_option maxRecDepth 20000 in
theorem tw_1117 : Cond.methodLink "NestedDeedsModel" 219 ⟨"NestedDeedsModel", "plant", "(IIJIZ)V"⟩ ∈ tb := tb_mem (List.mem_of_getElem? (i := 1117) (by decide +kernel)) rfl
set_option maxRecDepth 20000 in
theorem tw_1119 : Cond.instanceMethod ⟨"NestedDeedsModel", "plant", "(IIJIZ)V"⟩ ∈ tb := tb_mem (List.mem_of_getElem? (i := 1119) (by decide +kernel)) rfl
set_option maxRecDepth 20000 in
theorem tw_1120 : Cond.code ⟨"NestedDeedsModel", "plant", "(IIJIZ)V"⟩ prog_14_method_39_code 10 none ∈ tb := tb_mem (List.mem_of_getElem? (i := 1120) (by decide +kernel)) rfl
set_option maxRecDepth 20000 in
theorem tw_1121 : Cond.methodLink "NestedDeedsModel" 223 ⟨"NestedDeedsModel", "grow", "()I"⟩ ∈ tb := tb_mem (List.mem_of_getElem? (i := 1121) (by decide +kernel)) rfl
set_option maxRecDepth 20000 in
theorem tw_1123 : Cond.instanceMethod ⟨"NestedDeedsModel", "grow", "()I"⟩ ∈ tb := tb_mem (List.mem_of_getElem? (i := 1123) (by decide +kernel)) rfl
set_option maxRecDepth 20000 in
theorem tw_1124 : Cond.code ⟨"NestedDeedsModel", "grow", "()I"⟩ prog_14_method_40_code 3 (some .int) ∈ tb := tb_mem (List.mem_of_getElem? (i := 1124) (by decide +kernel)) rfl
set_option maxRecDepth 20000 in
theorem tw_1125 : Cond.methodLink "NestedDeedsLaw" 85 ⟨"NestedDeedsModel", "thin", "(II)I"⟩ ∈ tb := tb_mem (List.mem_of_getElem? (i := 1125) (by decide +kernel)) rfl
set_option maxRecDepth 20000 in
theorem tw_1126 : Cond.instanceMethod ⟨"NestedDeedsModel", "thin", "(II)I"⟩ ∈ tb := tb_mem (List.mem_of_getElem? (i := 1126) (by decide +kernel)) rfl
set_option maxRecDepth 20000 in
theorem tw_1127 : Cond.selects "NestedDeedsModel" ⟨"NestedDeedsModel", "thin", "(II)I"⟩ ⟨"NestedDeedsModel", "thin", "(II)I"⟩ ∈ tb := tb_mem (List.mem_of_getElem? (i := 1127) (by decide +kernel)) rfl
set_option maxRecDepth 20000 in
theorem tw_1128 : Cond.code ⟨"NestedDeedsModel", "thin", "(II)I"⟩ prog_14_method_44_code 3 (some .int) ∈ tb := tb_mem (List.mem_of_getElem? (i := 1128) (by decide +kernel)) rfl
set_option maxRecDepth 20000 in
theorem tw_1129 : Cond.methodLink "NestedDeedsLaw" 89 ⟨"NestedDeedsModel", "order", "(I)I"⟩ ∈ tb := tb_mem (List.mem_of_getElem? (i := 1129) (by decide +kernel)) rfl
set_option maxRecDepth 20000 in
theorem tw_1130 : Cond.instanceMethod ⟨"NestedDeedsModel", "order", "(I)I"⟩ ∈ tb := tb_mem (List.mem_of_getElem? (i := 1130) (by decide +kernel)) rfl
set_option maxRecDepth 20000 in
theorem tw_1131 : Cond.selects "NestedDeedsModel" ⟨"NestedDeedsModel", "order", "(I)I"⟩ ⟨"NestedDeedsModel", "order", "(I)I"⟩ ∈ tb := tb_mem (List.mem_of_getElem? (i := 1131) (by decide +kernel)) rfl
set_option maxRecDepth 20000 in
theorem tw_1132 : Cond.code ⟨"NestedDeedsModel", "order", "(I)I"⟩ prog_14_method_45_code 2 (some .int) ∈ tb := tb_mem (List.mem_of_getElem? (i := 1132) (by decide +kernel)) rfl
set_option maxRecDepth 20000 in
theorem tw_1133 : Cond.methodLink "NestedDeedsLaw" 96 ⟨"NestedDeedsModel", "feed", "(JI)I"⟩ ∈ tb := tb_mem (List.mem_of_getElem? (i := 1133) (by decide +kernel)) rfl
set_option maxRecDepth 20000 in
theorem tw_1134 : Cond.instanceMethod ⟨"NestedDeedsModel", "feed", "(JI)I"⟩ ∈ tb := tb_mem (List.mem_of_getElem? (i := 1134) (by decide +kernel)) rfl
set_option maxRecDepth 20000 in
theorem tw_1135 : Cond.selects "NestedDeedsModel" ⟨"NestedDeedsModel", "feed", "(JI)I"⟩ ⟨"NestedDeedsModel", "feed", "(JI)I"⟩ ∈ tb := tb_mem (List.mem_of_getElem? (i := 1135) (by decide +kernel)) rfl
set_option maxRecDepth 20000 in
theorem tw_1136 : Cond.code ⟨"NestedDeedsModel", "feed", "(JI)I"⟩ prog_14_method_46_code 5 (some .int) ∈ tb := tb_mem (List.mem_of_getElem? (i := 1136) (by decide +kernel)) rfl
set_option maxRecDepth 20000 in
theorem tw_1137 : Cond.constantLong "NestedDeedsModel" 234 (255 : Int64) ∈ tb := tb_mem (List.mem_of_getElem? (i := 1137) (by decide +kernel)) rfl
set_option maxRecDepth 20000 in
theorem tw_1138 : Cond.methodLink "NestedDeedsLaw" 101 ⟨"NestedDeedsModel", "tear", "()I"⟩ ∈ tb := tb_mem (List.mem_of_getElem? (i := 1138) (by decide +kernel)) rfl
set_option maxRecDepth 20000 in
theorem tw_1139 : Cond.instanceMethod ⟨"NestedDeedsModel", "tear", "()I"⟩ ∈ tb := tb_mem (List.mem_of_getElem? (i := 1139) (by decide +kernel)) rfl
set_option maxRecDepth 20000 in
theorem tw_1140 : Cond.selects "NestedDeedsModel" ⟨"NestedDeedsModel", "tear", "()I"⟩ ⟨"NestedDeedsModel", "tear", "()I"⟩ ∈ tb := tb_mem (List.mem_of_getElem? (i := 1140) (by decide +kernel)) rfl
set_option maxRecDepth 20000 in
theorem tw_1141 : Cond.code ⟨"NestedDeedsModel", "tear", "()I"⟩ prog_14_method_47_code 2 (some .int) ∈ tb := tb_mem (List.mem_of_getElem? (i := 1141) (by decide +kernel)) rfl
set_option maxRecDepth 20000 in
theorem tw_1142 : Cond.methodLink "NestedDeedsLaw" 105 ⟨"NestedDeedsModel", "byteAt", "(I)I"⟩ ∈ tb := tb_mem (List.mem_of_getElem? (i := 1142) (by decide +kernel)) rfl
set_option maxRecDepth 20000 in
theorem tw_1143 : Cond.instanceMethod ⟨"NestedDeedsModel", "byteAt", "(I)I"⟩ ∈ tb := tb_mem (List.mem_of_getElem? (i := 1143) (by decide +kernel)) rfl
set_option maxRecDepth 20000 in
theorem tw_1144 : Cond.selects "NestedDeedsModel" ⟨"NestedDeedsModel", "byteAt", "(I)I"⟩ ⟨"NestedDeedsModel", "byteAt", "(I)I"⟩ ∈ tb := tb_mem (List.mem_of_getElem? (i := 1144) (by decide +kernel)) rfl
set_option maxRecDepth 20000 in
theorem tw_1145 : Cond.code ⟨"NestedDeedsModel", "byteAt", "(I)I"⟩ prog_14_method_48_code 2 (some .int) ∈ tb := tb_mem (List.mem_of_getElem? (i := 1145) (by decide +kernel)) rfl
set_option maxRecDepth 20000 in
theorem tw_1146 : Cond.methodLink "NestedDeedsLaw" 109 ⟨"NestedDeedsModel", "read", "()I"⟩ ∈ tb := tb_mem (List.mem_of_getElem? (i := 1146) (by decide +kernel)) rfl
set_option maxRecDepth 20000 in
theorem tw_1147 : Cond.instanceMethod ⟨"NestedDeedsModel", "read", "()I"⟩ ∈ tb := tb_mem (List.mem_of_getElem? (i := 1147) (by decide +kernel)) rfl
set_option maxRecDepth 20000 in
theorem tw_1148 : Cond.selects "NestedDeedsModel" ⟨"NestedDeedsModel", "read", "()I"⟩ ⟨"NestedDeedsModel", "read", "()I"⟩ ∈ tb := tb_mem (List.mem_of_getElem? (i := 1148) (by decide +kernel)) rfl
set_option maxRecDepth 20000 in
theorem tw_1149 : Cond.code ⟨"NestedDeedsModel", "read", "()I"⟩ prog_14_method_53_code 4 (some .int) ∈ tb := tb_mem (List.mem_of_getElem? (i := 1149) (by decide +kernel)) rfl
set_option maxRecDepth 20000 in
theorem tw_1150 : Cond.methodLink "NestedDeedsModel" 254 ⟨"NestedDeedsModel", "readOne", "(I)V"⟩ ∈ tb := tb_mem (List.mem_of_getElem? (i := 1150) (by decide +kernel)) rfl
set_option maxRecDepth 20000 in
theorem tw_1152 : Cond.instanceMethod ⟨"NestedDeedsModel", "readOne", "(I)V"⟩ ∈ tb := tb_mem (List.mem_of_getElem? (i := 1152) (by decide +kernel)) rfl
set_option maxRecDepth 20000 in
theorem tw_1153 : Cond.code ⟨"NestedDeedsModel", "readOne", "(I)V"⟩ prog_14_method_52_code 4 none ∈ tb := tb_mem (List.mem_of_getElem? (i := 1153) (by decide +kernel)) rfl
set_option maxRecDepth 20000 in
theorem tw_1154 : Cond.methodLink "NestedDeedsModel" 239 ⟨"NestedDeedsModel", "now", "()I"⟩ ∈ tb := tb_mem (List.mem_of_getElem? (i := 1154) (by decide +kernel)) rfl
set_option maxRecDepth 20000 in
theorem tw_1156 : Cond.instanceMethod ⟨"NestedDeedsModel", "now", "()I"⟩ ∈ tb := tb_mem (List.mem_of_getElem? (i := 1156) (by decide +kernel)) rfl
set_option maxRecDepth 20000 in
theorem tw_1157 : Cond.code ⟨"NestedDeedsModel", "now", "()I"⟩ prog_14_method_49_code 1 (some .int) ∈ tb := tb_mem (List.mem_of_getElem? (i := 1157) (by decide +kernel)) rfl
set_option maxRecDepth 20000 in
theorem tw_1158 : Cond.methodLink "NestedDeedsModel" 251 ⟨"NestedDeedsModel", "figures", "()I"⟩ ∈ tb := tb_mem (List.mem_of_getElem? (i := 1158) (by decide +kernel)) rfl
set_option maxRecDepth 20000 in
theorem tw_1160 : Cond.instanceMethod ⟨"NestedDeedsModel", "figures", "()I"⟩ ∈ tb := tb_mem (List.mem_of_getElem? (i := 1160) (by decide +kernel)) rfl
set_option maxRecDepth 20000 in
theorem tw_1161 : Cond.code ⟨"NestedDeedsModel", "figures", "()I"⟩ prog_14_method_51_code 6 (some .int) ∈ tb := tb_mem (List.mem_of_getElem? (i := 1161) (by decide +kernel)) rfl
set_option maxRecDepth 20000 in
theorem tw_1162 : Cond.methodLink "NestedDeedsModel" 242 ⟨"NestedDeedsModel", "isFigure", "()Z"⟩ ∈ tb := tb_mem (List.mem_of_getElem? (i := 1162) (by decide +kernel)) rfl
set_option maxRecDepth 20000 in
theorem tw_1164 : Cond.instanceMethod ⟨"NestedDeedsModel", "isFigure", "()Z"⟩ ∈ tb := tb_mem (List.mem_of_getElem? (i := 1164) (by decide +kernel)) rfl
set_option maxRecDepth 20000 in
theorem tw_1165 : Cond.code ⟨"NestedDeedsModel", "isFigure", "()Z"⟩ prog_14_method_50_code 1 (some .boolean) ∈ tb := tb_mem (List.mem_of_getElem? (i := 1165) (by decide +kernel)) rfl
set_option maxRecDepth 20000 in
theorem tw_1166 : Cond.constantLong "NestedDeedsModel" 249 (48 : Int64) ∈ tb := tb_mem (List.mem_of_getElem? (i := 1166) (by decide +kernel)) rfl
set_option maxRecDepth 20000 in
theorem tw_1167 : Cond.methodLink "NestedDeedsLaw" 113 ⟨"NestedDeedsModel", "answer", "()I"⟩ ∈ tb := tb_mem (List.mem_of_getElem? (i := 1167) (by decide +kernel)) rfl
set_option maxRecDepth 20000 in
theorem tw_1168 : Cond.instanceMethod ⟨"NestedDeedsModel", "answer", "()I"⟩ ∈ tb := tb_mem (List.mem_of_getElem? (i := 1168) (by decide +kernel)) rfl
set_option maxRecDepth 20000 in
theorem tw_1169 : Cond.selects "NestedDeedsModel" ⟨"NestedDeedsModel", "answer", "()I"⟩ ⟨"NestedDeedsModel", "answer", "()I"⟩ ∈ tb := tb_mem (List.mem_of_getElem? (i := 1169) (by decide +kernel)) rfl
set_option maxRecDepth 20000 in
theorem tw_1170 : Cond.code ⟨"NestedDeedsModel", "answer", "()I"⟩ prog_14_method_54_code 1 (some .int) ∈ tb := tb_mem (List.mem_of_getElem? (i := 1170) (by decide +kernel)) rfl
set_option maxRecDepth 20000 in
theorem tw_1171 : Cond.methodLink "NestedDeedsLaw" 117 ⟨"NestedDeedsModel", "count", "(I)I"⟩ ∈ tb := tb_mem (List.mem_of_getElem? (i := 1171) (by decide +kernel)) rfl
set_option maxRecDepth 20000 in
theorem tw_1172 : Cond.instanceMethod ⟨"NestedDeedsModel", "count", "(I)I"⟩ ∈ tb := tb_mem (List.mem_of_getElem? (i := 1172) (by decide +kernel)) rfl
set_option maxRecDepth 20000 in
theorem tw_1173 : Cond.selects "NestedDeedsModel" ⟨"NestedDeedsModel", "count", "(I)I"⟩ ⟨"NestedDeedsModel", "count", "(I)I"⟩ ∈ tb := tb_mem (List.mem_of_getElem? (i := 1173) (by decide +kernel)) rfl
set_option maxRecDepth 20000 in
theorem tw_1174 : Cond.code ⟨"NestedDeedsModel", "count", "(I)I"⟩ prog_14_method_55_code 2 (some .int) ∈ tb := tb_mem (List.mem_of_getElem? (i := 1174) (by decide +kernel)) rfl
set_option maxRecDepth 20000 in
theorem tw_1175 : Cond.constantLong "NestedDeedsLaw" 90 (4294967295 : Int64) ∈ tb := tb_mem (List.mem_of_getElem? (i := 1175) (by decide +kernel)) rfl
