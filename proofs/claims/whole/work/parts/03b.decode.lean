theorem dX12_init_0 : decode cX12_init 0 = .ok (.aload_n 0, 1) := by decide +kernel
theorem dX12_init_1 : decode cX12_init 1 = .ok (.invokespecial 1, 3) := by decide +kernel
theorem dX12_init_4 : decode cX12_init 4 = .ok (.aload_n 0, 1) := by decide +kernel
theorem dX12_init_5 : decode cX12_init 5 = .ok (.sipush 1500, 3) := by decide +kernel
theorem dX12_init_8 : decode cX12_init 8 = .ok (.newarray .int, 2) := by decide +kernel
theorem dX12_init_10 : decode cX12_init 10 = .ok (.putfield 7, 3) := by decide +kernel
theorem dX12_init_13 : decode cX12_init 13 = .ok (.aload_n 0, 1) := by decide +kernel
theorem dX12_init_14 : decode cX12_init 14 = .ok (.sipush 1500, 3) := by decide +kernel
theorem dX12_init_17 : decode cX12_init 17 = .ok (.newarray .int, 2) := by decide +kernel
theorem dX12_init_19 : decode cX12_init 19 = .ok (.putfield 13, 3) := by decide +kernel
theorem dX12_init_22 : decode cX12_init 22 = .ok (.aload_n 0, 1) := by decide +kernel
theorem dX12_init_23 : decode cX12_init 23 = .ok (.sipush 1500, 3) := by decide +kernel
theorem dX12_init_26 : decode cX12_init 26 = .ok (.newarray .int, 2) := by decide +kernel
theorem dX12_init_28 : decode cX12_init 28 = .ok (.putfield 16, 3) := by decide +kernel
theorem dX12_init_31 : decode cX12_init 31 = .ok (.aload_n 0, 1) := by decide +kernel
theorem dX12_init_32 : decode cX12_init 32 = .ok (.sipush 1500, 3) := by decide +kernel
theorem dX12_init_35 : decode cX12_init 35 = .ok (.newarray .int, 2) := by decide +kernel
theorem dX12_init_37 : decode cX12_init 37 = .ok (.putfield 19, 3) := by decide +kernel
theorem dX12_init_40 : decode cX12_init 40 = .ok (.aload_n 0, 1) := by decide +kernel
theorem dX12_init_41 : decode cX12_init 41 = .ok (.sipush 1500, 3) := by decide +kernel
theorem dX12_init_44 : decode cX12_init 44 = .ok (.newarray .int, 2) := by decide +kernel
theorem dX12_init_46 : decode cX12_init 46 = .ok (.putfield 22, 3) := by decide +kernel
theorem dX12_init_49 : decode cX12_init 49 = .ok (.aload_n 0, 1) := by decide +kernel
theorem dX12_init_50 : decode cX12_init 50 = .ok (.sipush 4000, 3) := by decide +kernel
theorem dX12_init_53 : decode cX12_init 53 = .ok (.newarray .int, 2) := by decide +kernel
theorem dX12_init_55 : decode cX12_init 55 = .ok (.putfield 25, 3) := by decide +kernel
theorem dX12_init_58 : decode cX12_init 58 = .ok (.aload_n 0, 1) := by decide +kernel
theorem dX12_init_59 : decode cX12_init 59 = .ok (.sipush 4000, 3) := by decide +kernel
theorem dX12_init_62 : decode cX12_init 62 = .ok (.newarray .int, 2) := by decide +kernel
theorem dX12_init_64 : decode cX12_init 64 = .ok (.putfield 28, 3) := by decide +kernel
theorem dX12_init_67 : decode cX12_init 67 = .ok (.aload_n 0, 1) := by decide +kernel
theorem dX12_init_68 : decode cX12_init 68 = .ok (.bipush 100, 2) := by decide +kernel
theorem dX12_init_70 : decode cX12_init 70 = .ok (.putfield 31, 3) := by decide +kernel
theorem dX12_init_73 : decode cX12_init 73 = .ok (.aload_n 0, 1) := by decide +kernel
theorem dX12_init_74 : decode cX12_init 74 = .ok (.sipush 6000, 3) := by decide +kernel
theorem dX12_init_77 : decode cX12_init 77 = .ok (.newarray .int, 2) := by decide +kernel
theorem dX12_init_79 : decode cX12_init 79 = .ok (.putfield 35, 3) := by decide +kernel
theorem dX12_init_82 : decode cX12_init 82 = .ok (.aload_n 0, 1) := by decide +kernel
theorem dX12_init_83 : decode cX12_init 83 = .ok (.sipush 1500, 3) := by decide +kernel
theorem dX12_init_86 : decode cX12_init 86 = .ok (.newarray .long, 2) := by decide +kernel
theorem dX12_init_88 : decode cX12_init 88 = .ok (.putfield 38, 3) := by decide +kernel
theorem dX12_init_91 : decode cX12_init 91 = .ok (.aload_n 0, 1) := by decide +kernel
theorem dX12_init_92 : decode cX12_init 92 = .ok (.sipush 1500, 3) := by decide +kernel
theorem dX12_init_95 : decode cX12_init 95 = .ok (.newarray .long, 2) := by decide +kernel
theorem dX12_init_97 : decode cX12_init 97 = .ok (.putfield 42, 3) := by decide +kernel
theorem dX12_init_100 : decode cX12_init 100 = .ok (.aload_n 0, 1) := by decide +kernel
theorem dX12_init_101 : decode cX12_init 101 = .ok (.sipush 1501, 3) := by decide +kernel
theorem dX12_init_104 : decode cX12_init 104 = .ok (.newarray .int, 2) := by decide +kernel
theorem dX12_init_106 : decode cX12_init 106 = .ok (.putfield 45, 3) := by decide +kernel
theorem dX12_init_109 : decode cX12_init 109 = .ok (.aload_n 0, 1) := by decide +kernel
theorem dX12_init_110 : decode cX12_init 110 = .ok (.sipush 1501, 3) := by decide +kernel
theorem dX12_init_113 : decode cX12_init 113 = .ok (.newarray .int, 2) := by decide +kernel
theorem dX12_init_115 : decode cX12_init 115 = .ok (.putfield 48, 3) := by decide +kernel
theorem dX12_init_118 : decode cX12_init 118 = .ok (.aload_n 0, 1) := by decide +kernel
theorem dX12_init_119 : decode cX12_init 119 = .ok (.sipush 1501, 3) := by decide +kernel
theorem dX12_init_122 : decode cX12_init 122 = .ok (.newarray .int, 2) := by decide +kernel
theorem dX12_init_124 : decode cX12_init 124 = .ok (.putfield 51, 3) := by decide +kernel
theorem dX12_init_127 : decode cX12_init 127 = .ok (.aload_n 0, 1) := by decide +kernel
theorem dX12_init_128 : decode cX12_init 128 = .ok (.sipush 20000, 3) := by decide +kernel
theorem dX12_init_131 : decode cX12_init 131 = .ok (.newarray .int, 2) := by decide +kernel
theorem dX12_init_133 : decode cX12_init 133 = .ok (.putfield 54, 3) := by decide +kernel
theorem dX12_init_136 : decode cX12_init 136 = .ok (.aload_n 0, 1) := by decide +kernel
theorem dX12_init_137 : decode cX12_init 137 = .ok (.sipush 20000, 3) := by decide +kernel
theorem dX12_init_140 : decode cX12_init 140 = .ok (.newarray .int, 2) := by decide +kernel
theorem dX12_init_142 : decode cX12_init 142 = .ok (.putfield 57, 3) := by decide +kernel
theorem dX12_init_145 : decode cX12_init 145 = .ok (.aload_n 0, 1) := by decide +kernel
theorem dX12_init_146 : decode cX12_init 146 = .ok (.sipush 6000, 3) := by decide +kernel
theorem dX12_init_149 : decode cX12_init 149 = .ok (.newarray .int, 2) := by decide +kernel
theorem dX12_init_151 : decode cX12_init 151 = .ok (.putfield 60, 3) := by decide +kernel
theorem dX12_init_154 : decode cX12_init 154 = .ok (.aload_n 0, 1) := by decide +kernel
theorem dX12_init_155 : decode cX12_init 155 = .ok (.sipush 1502, 3) := by decide +kernel
theorem dX12_init_158 : decode cX12_init 158 = .ok (.newarray .int, 2) := by decide +kernel
theorem dX12_init_160 : decode cX12_init 160 = .ok (.putfield 63, 3) := by decide +kernel
theorem dX12_init_163 : decode cX12_init 163 = .ok (.aload_n 0, 1) := by decide +kernel
theorem dX12_init_164 : decode cX12_init 164 = .ok (.sipush 20000, 3) := by decide +kernel
theorem dX12_init_167 : decode cX12_init 167 = .ok (.newarray .int, 2) := by decide +kernel
theorem dX12_init_169 : decode cX12_init 169 = .ok (.putfield 66, 3) := by decide +kernel
theorem dX12_init_172 : decode cX12_init 172 = .ok (.aload_n 0, 1) := by decide +kernel
theorem dX12_init_173 : decode cX12_init 173 = .ok (.sipush 20000, 3) := by decide +kernel
theorem dX12_init_176 : decode cX12_init 176 = .ok (.newarray .int, 2) := by decide +kernel
theorem dX12_init_178 : decode cX12_init 178 = .ok (.putfield 69, 3) := by decide +kernel
theorem dX12_init_181 : decode cX12_init 181 = .ok (.aload_n 0, 1) := by decide +kernel
theorem dX12_init_182 : decode cX12_init 182 = .ok (.sipush 20000, 3) := by decide +kernel
theorem dX12_init_185 : decode cX12_init 185 = .ok (.newarray .long, 2) := by decide +kernel
theorem dX12_init_187 : decode cX12_init 187 = .ok (.putfield 72, 3) := by decide +kernel
theorem dX12_init_190 : decode cX12_init 190 = .ok (.aload_n 0, 1) := by decide +kernel
theorem dX12_init_191 : decode cX12_init 191 = .ok (.sipush 20000, 3) := by decide +kernel
theorem dX12_init_194 : decode cX12_init 194 = .ok (.newarray .int, 2) := by decide +kernel
theorem dX12_init_196 : decode cX12_init 196 = .ok (.putfield 75, 3) := by decide +kernel
theorem dX12_init_199 : decode cX12_init 199 = .ok (.aload_n 0, 1) := by decide +kernel
theorem dX12_init_200 : decode cX12_init 200 = .ok (.sipush 20000, 3) := by decide +kernel
theorem dX12_init_203 : decode cX12_init 203 = .ok (.newarray .int, 2) := by decide +kernel
theorem dX12_init_205 : decode cX12_init 205 = .ok (.putfield 78, 3) := by decide +kernel
theorem dX12_init_208 : decode cX12_init 208 = .ok (.aload_n 0, 1) := by decide +kernel
theorem dX12_init_209 : decode cX12_init 209 = .ok (.sipush 20000, 3) := by decide +kernel
theorem dX12_init_212 : decode cX12_init 212 = .ok (.newarray .int, 2) := by decide +kernel
theorem dX12_init_214 : decode cX12_init 214 = .ok (.putfield 81, 3) := by decide +kernel
theorem dX12_init_217 : decode cX12_init 217 = .ok (.aload_n 0, 1) := by decide +kernel
theorem dX12_init_218 : decode cX12_init 218 = .ok (.sipush 20000, 3) := by decide +kernel
theorem dX12_init_221 : decode cX12_init 221 = .ok (.newarray .int, 2) := by decide +kernel
theorem dX12_init_223 : decode cX12_init 223 = .ok (.putfield 84, 3) := by decide +kernel
theorem dX12_init_226 : decode cX12_init 226 = .ok (.aload_n 0, 1) := by decide +kernel
theorem dX12_init_227 : decode cX12_init 227 = .ok (.sipush 1502, 3) := by decide +kernel
theorem dX12_init_230 : decode cX12_init 230 = .ok (.newarray .int, 2) := by decide +kernel
theorem dX12_init_232 : decode cX12_init 232 = .ok (.putfield 87, 3) := by decide +kernel
theorem dX12_init_235 : decode cX12_init 235 = .ok (.return_, 1) := by decide +kernel
theorem dX12_in_0 : decode cX12_in 0 = .ok (.iload_n 0, 1) := by decide +kernel
theorem dX12_in_1 : decode cX12_in 1 = .ok (.iload_n 1, 1) := by decide +kernel
theorem dX12_in_2 : decode cX12_in 2 = .ok (.if_icmp .lt 12, 3) := by decide +kernel
theorem dX12_in_5 : decode cX12_in 5 = .ok (.iload_n 0, 1) := by decide +kernel
theorem dX12_in_6 : decode cX12_in 6 = .ok (.iload_n 2, 1) := by decide +kernel
theorem dX12_in_7 : decode cX12_in 7 = .ok (.if_icmp .gt 7, 3) := by decide +kernel
theorem dX12_in_10 : decode cX12_in 10 = .ok (.iconst 1, 1) := by decide +kernel
theorem dX12_in_11 : decode cX12_in 11 = .ok (.goto 4, 3) := by decide +kernel
theorem dX12_in_14 : decode cX12_in 14 = .ok (.iconst 0, 1) := by decide +kernel
theorem dX12_in_15 : decode cX12_in 15 = .ok (.ireturn, 1) := by decide +kernel
theorem dX12_isDeed_0 : decode cX12_isDeed 0 = .ok (.iload_n 1, 1) := by decide +kernel
theorem dX12_isDeed_1 : decode cX12_isDeed 1 = .ok (.iconst 0, 1) := by decide +kernel
theorem dX12_isDeed_2 : decode cX12_isDeed 2 = .ok (.aload_n 0, 1) := by decide +kernel
theorem dX12_isDeed_3 : decode cX12_isDeed 3 = .ok (.getfield 90, 3) := by decide +kernel
theorem dX12_isDeed_6 : decode cX12_isDeed 6 = .ok (.iconst 1, 1) := by decide +kernel
theorem dX12_isDeed_7 : decode cX12_isDeed 7 = .ok (.isub, 1) := by decide +kernel
theorem dX12_isDeed_8 : decode cX12_isDeed 8 = .ok (.invokestatic 93, 3) := by decide +kernel
theorem dX12_isDeed_11 : decode cX12_isDeed 11 = .ok (.ireturn, 1) := by decide +kernel
theorem dX12_add_0 : decode cX12_add 0 = .ok (.aload_n 0, 1) := by decide +kernel
theorem dX12_add_1 : decode cX12_add 1 = .ok (.getfield 7, 3) := by decide +kernel
theorem dX12_add_4 : decode cX12_add 4 = .ok (.aload_n 0, 1) := by decide +kernel
theorem dX12_add_5 : decode cX12_add 5 = .ok (.getfield 90, 3) := by decide +kernel
theorem dX12_add_8 : decode cX12_add 8 = .ok (.iload_n 1, 1) := by decide +kernel
theorem dX12_add_9 : decode cX12_add 9 = .ok (.iastore, 1) := by decide +kernel
theorem dX12_add_10 : decode cX12_add 10 = .ok (.aload_n 0, 1) := by decide +kernel
theorem dX12_add_11 : decode cX12_add 11 = .ok (.getfield 13, 3) := by decide +kernel
theorem dX12_add_14 : decode cX12_add 14 = .ok (.aload_n 0, 1) := by decide +kernel
theorem dX12_add_15 : decode cX12_add 15 = .ok (.getfield 90, 3) := by decide +kernel
theorem dX12_add_18 : decode cX12_add 18 = .ok (.iload_n 2, 1) := by decide +kernel
theorem dX12_add_19 : decode cX12_add 19 = .ok (.iastore, 1) := by decide +kernel
theorem dX12_add_20 : decode cX12_add 20 = .ok (.aload_n 0, 1) := by decide +kernel
theorem dX12_add_21 : decode cX12_add 21 = .ok (.getfield 16, 3) := by decide +kernel
theorem dX12_add_24 : decode cX12_add 24 = .ok (.aload_n 0, 1) := by decide +kernel
theorem dX12_add_25 : decode cX12_add 25 = .ok (.getfield 90, 3) := by decide +kernel
theorem dX12_add_28 : decode cX12_add 28 = .ok (.iconst 0, 1) := by decide +kernel
theorem dX12_add_29 : decode cX12_add 29 = .ok (.iastore, 1) := by decide +kernel
theorem dX12_add_30 : decode cX12_add 30 = .ok (.aload_n 0, 1) := by decide +kernel
theorem dX12_add_31 : decode cX12_add 31 = .ok (.getfield 19, 3) := by decide +kernel
theorem dX12_add_34 : decode cX12_add 34 = .ok (.aload_n 0, 1) := by decide +kernel
theorem dX12_add_35 : decode cX12_add 35 = .ok (.getfield 90, 3) := by decide +kernel
theorem dX12_add_38 : decode cX12_add 38 = .ok (.iconst (-1), 1) := by decide +kernel
theorem dX12_add_39 : decode cX12_add 39 = .ok (.iastore, 1) := by decide +kernel
theorem dX12_add_40 : decode cX12_add 40 = .ok (.aload_n 0, 1) := by decide +kernel
theorem dX12_add_41 : decode cX12_add 41 = .ok (.getfield 22, 3) := by decide +kernel
theorem dX12_add_44 : decode cX12_add 44 = .ok (.aload_n 0, 1) := by decide +kernel
theorem dX12_add_45 : decode cX12_add 45 = .ok (.getfield 90, 3) := by decide +kernel
theorem dX12_add_48 : decode cX12_add 48 = .ok (.iconst (-1), 1) := by decide +kernel
theorem dX12_add_49 : decode cX12_add 49 = .ok (.iastore, 1) := by decide +kernel
theorem dX12_add_50 : decode cX12_add 50 = .ok (.aload_n 0, 1) := by decide +kernel
theorem dX12_add_51 : decode cX12_add 51 = .ok (.dup, 1) := by decide +kernel
theorem dX12_add_52 : decode cX12_add 52 = .ok (.getfield 90, 3) := by decide +kernel
theorem dX12_add_55 : decode cX12_add 55 = .ok (.iconst 1, 1) := by decide +kernel
theorem dX12_add_56 : decode cX12_add 56 = .ok (.iadd, 1) := by decide +kernel
theorem dX12_add_57 : decode cX12_add 57 = .ok (.putfield 90, 3) := by decide +kernel
theorem dX12_add_60 : decode cX12_add 60 = .ok (.aload_n 0, 1) := by decide +kernel
theorem dX12_add_61 : decode cX12_add 61 = .ok (.getfield 90, 3) := by decide +kernel
theorem dX12_add_64 : decode cX12_add 64 = .ok (.iconst 1, 1) := by decide +kernel
theorem dX12_add_65 : decode cX12_add 65 = .ok (.isub, 1) := by decide +kernel
theorem dX12_add_66 : decode cX12_add 66 = .ok (.ireturn, 1) := by decide +kernel
theorem dX12_addPart_0 : decode cX12_addPart 0 = .ok (.aload_n 0, 1) := by decide +kernel
theorem dX12_addPart_1 : decode cX12_addPart 1 = .ok (.getfield 25, 3) := by decide +kernel
theorem dX12_addPart_4 : decode cX12_addPart 4 = .ok (.aload_n 0, 1) := by decide +kernel
theorem dX12_addPart_5 : decode cX12_addPart 5 = .ok (.getfield 97, 3) := by decide +kernel
theorem dX12_addPart_8 : decode cX12_addPart 8 = .ok (.iload_n 2, 1) := by decide +kernel
theorem dX12_addPart_9 : decode cX12_addPart 9 = .ok (.iastore, 1) := by decide +kernel
theorem dX12_addPart_10 : decode cX12_addPart 10 = .ok (.aload_n 0, 1) := by decide +kernel
theorem dX12_addPart_11 : decode cX12_addPart 11 = .ok (.getfield 28, 3) := by decide +kernel
theorem dX12_addPart_14 : decode cX12_addPart 14 = .ok (.aload_n 0, 1) := by decide +kernel
theorem dX12_addPart_15 : decode cX12_addPart 15 = .ok (.getfield 97, 3) := by decide +kernel
theorem dX12_addPart_18 : decode cX12_addPart 18 = .ok (.iconst (-1), 1) := by decide +kernel
theorem dX12_addPart_19 : decode cX12_addPart 19 = .ok (.iastore, 1) := by decide +kernel
theorem dX12_addPart_20 : decode cX12_addPart 20 = .ok (.aload_n 0, 1) := by decide +kernel
theorem dX12_addPart_21 : decode cX12_addPart 21 = .ok (.getfield 16, 3) := by decide +kernel
theorem dX12_addPart_24 : decode cX12_addPart 24 = .ok (.iload_n 1, 1) := by decide +kernel
theorem dX12_addPart_25 : decode cX12_addPart 25 = .ok (.iaload, 1) := by decide +kernel
theorem dX12_addPart_26 : decode cX12_addPart 26 = .ok (.ifCond .ne 16, 3) := by decide +kernel
theorem dX12_addPart_29 : decode cX12_addPart 29 = .ok (.aload_n 0, 1) := by decide +kernel
theorem dX12_addPart_30 : decode cX12_addPart 30 = .ok (.getfield 19, 3) := by decide +kernel
theorem dX12_addPart_33 : decode cX12_addPart 33 = .ok (.iload_n 1, 1) := by decide +kernel
theorem dX12_addPart_34 : decode cX12_addPart 34 = .ok (.aload_n 0, 1) := by decide +kernel
theorem dX12_addPart_35 : decode cX12_addPart 35 = .ok (.getfield 97, 3) := by decide +kernel
theorem dX12_addPart_38 : decode cX12_addPart 38 = .ok (.iastore, 1) := by decide +kernel
theorem dX12_addPart_39 : decode cX12_addPart 39 = .ok (.goto 18, 3) := by decide +kernel
theorem dX12_addPart_42 : decode cX12_addPart 42 = .ok (.aload_n 0, 1) := by decide +kernel
theorem dX12_addPart_43 : decode cX12_addPart 43 = .ok (.getfield 28, 3) := by decide +kernel
theorem dX12_addPart_46 : decode cX12_addPart 46 = .ok (.aload_n 0, 1) := by decide +kernel
theorem dX12_addPart_47 : decode cX12_addPart 47 = .ok (.getfield 22, 3) := by decide +kernel
theorem dX12_addPart_50 : decode cX12_addPart 50 = .ok (.iload_n 1, 1) := by decide +kernel
theorem dX12_addPart_51 : decode cX12_addPart 51 = .ok (.iaload, 1) := by decide +kernel
theorem dX12_addPart_52 : decode cX12_addPart 52 = .ok (.aload_n 0, 1) := by decide +kernel
theorem dX12_addPart_53 : decode cX12_addPart 53 = .ok (.getfield 97, 3) := by decide +kernel
theorem dX12_addPart_56 : decode cX12_addPart 56 = .ok (.iastore, 1) := by decide +kernel
theorem dX12_addPart_57 : decode cX12_addPart 57 = .ok (.aload_n 0, 1) := by decide +kernel
theorem dX12_addPart_58 : decode cX12_addPart 58 = .ok (.getfield 22, 3) := by decide +kernel
theorem dX12_addPart_61 : decode cX12_addPart 61 = .ok (.iload_n 1, 1) := by decide +kernel
theorem dX12_addPart_62 : decode cX12_addPart 62 = .ok (.aload_n 0, 1) := by decide +kernel
theorem dX12_addPart_63 : decode cX12_addPart 63 = .ok (.getfield 97, 3) := by decide +kernel
theorem dX12_addPart_66 : decode cX12_addPart 66 = .ok (.iastore, 1) := by decide +kernel
theorem dX12_addPart_67 : decode cX12_addPart 67 = .ok (.aload_n 0, 1) := by decide +kernel
theorem dX12_addPart_68 : decode cX12_addPart 68 = .ok (.dup, 1) := by decide +kernel
theorem dX12_addPart_69 : decode cX12_addPart 69 = .ok (.getfield 97, 3) := by decide +kernel
theorem dX12_addPart_72 : decode cX12_addPart 72 = .ok (.iconst 1, 1) := by decide +kernel
theorem dX12_addPart_73 : decode cX12_addPart 73 = .ok (.iadd, 1) := by decide +kernel
theorem dX12_addPart_74 : decode cX12_addPart 74 = .ok (.putfield 97, 3) := by decide +kernel
theorem dX12_addPart_77 : decode cX12_addPart 77 = .ok (.aload_n 0, 1) := by decide +kernel
theorem dX12_addPart_78 : decode cX12_addPart 78 = .ok (.getfield 16, 3) := by decide +kernel
theorem dX12_addPart_81 : decode cX12_addPart 81 = .ok (.iload_n 1, 1) := by decide +kernel
theorem dX12_addPart_82 : decode cX12_addPart 82 = .ok (.dup2, 1) := by decide +kernel
theorem dX12_addPart_83 : decode cX12_addPart 83 = .ok (.iaload, 1) := by decide +kernel
theorem dX12_addPart_84 : decode cX12_addPart 84 = .ok (.iconst 1, 1) := by decide +kernel
theorem dX12_addPart_85 : decode cX12_addPart 85 = .ok (.iadd, 1) := by decide +kernel
theorem dX12_addPart_86 : decode cX12_addPart 86 = .ok (.iastore, 1) := by decide +kernel
theorem dX12_addPart_87 : decode cX12_addPart 87 = .ok (.aload_n 0, 1) := by decide +kernel
theorem dX12_addPart_88 : decode cX12_addPart 88 = .ok (.getfield 16, 3) := by decide +kernel
theorem dX12_addPart_91 : decode cX12_addPart 91 = .ok (.iload_n 1, 1) := by decide +kernel
theorem dX12_addPart_92 : decode cX12_addPart 92 = .ok (.iaload, 1) := by decide +kernel
theorem dX12_addPart_93 : decode cX12_addPart 93 = .ok (.ireturn, 1) := by decide +kernel
theorem dX12_deed_0 : decode cX12_deed 0 = .ok (.iload_n 1, 1) := by decide +kernel
theorem dX12_deed_1 : decode cX12_deed 1 = .ok (.iconst 0, 1) := by decide +kernel
theorem dX12_deed_2 : decode cX12_deed 2 = .ok (.bipush 11, 2) := by decide +kernel
theorem dX12_deed_4 : decode cX12_deed 4 = .ok (.invokestatic 93, 3) := by decide +kernel
theorem dX12_deed_7 : decode cX12_deed 7 = .ok (.ifCond .ne 6, 3) := by decide +kernel
theorem dX12_deed_10 : decode cX12_deed 10 = .ok (.bipush (-2), 2) := by decide +kernel
theorem dX12_deed_12 : decode cX12_deed 12 = .ok (.ireturn, 1) := by decide +kernel
theorem dX12_deed_13 : decode cX12_deed 13 = .ok (.aload_n 0, 1) := by decide +kernel
theorem dX12_deed_14 : decode cX12_deed 14 = .ok (.getfield 90, 3) := by decide +kernel
theorem dX12_deed_17 : decode cX12_deed 17 = .ok (.sipush 1500, 3) := by decide +kernel
theorem dX12_deed_20 : decode cX12_deed 20 = .ok (.if_icmp .ne 8, 3) := by decide +kernel
theorem dX12_deed_23 : decode cX12_deed 23 = .ok (.bipush (-4), 2) := by decide +kernel
theorem dX12_deed_25 : decode cX12_deed 25 = .ok (.goto 9, 3) := by decide +kernel
theorem dX12_deed_28 : decode cX12_deed 28 = .ok (.aload_n 0, 1) := by decide +kernel
theorem dX12_deed_29 : decode cX12_deed 29 = .ok (.iload_n 1, 1) := by decide +kernel
theorem dX12_deed_30 : decode cX12_deed 30 = .ok (.iload_n 2, 1) := by decide +kernel
theorem dX12_deed_31 : decode cX12_deed 31 = .ok (.invokevirtual 100, 3) := by decide +kernel
theorem dX12_deed_34 : decode cX12_deed 34 = .ok (.ireturn, 1) := by decide +kernel
theorem dX12_enclose_0 : decode cX12_enclose 0 = .ok (.aload_n 0, 1) := by decide +kernel
theorem dX12_enclose_1 : decode cX12_enclose 1 = .ok (.iload_n 1, 1) := by decide +kernel
theorem dX12_enclose_2 : decode cX12_enclose 2 = .ok (.invokevirtual 104, 3) := by decide +kernel
theorem dX12_enclose_5 : decode cX12_enclose 5 = .ok (.ifCond .eq 11, 3) := by decide +kernel
theorem dX12_enclose_8 : decode cX12_enclose 8 = .ok (.aload_n 0, 1) := by decide +kernel
theorem dX12_enclose_9 : decode cX12_enclose 9 = .ok (.iload_n 2, 1) := by decide +kernel
theorem dX12_enclose_10 : decode cX12_enclose 10 = .ok (.invokevirtual 104, 3) := by decide +kernel
theorem dX12_enclose_13 : decode cX12_enclose 13 = .ok (.ifCond .ne 6, 3) := by decide +kernel
theorem dX12_enclose_16 : decode cX12_enclose 16 = .ok (.bipush (-2), 2) := by decide +kernel
theorem dX12_enclose_18 : decode cX12_enclose 18 = .ok (.ireturn, 1) := by decide +kernel
theorem dX12_enclose_19 : decode cX12_enclose 19 = .ok (.iload_n 2, 1) := by decide +kernel
theorem dX12_enclose_20 : decode cX12_enclose 20 = .ok (.iload_n 1, 1) := by decide +kernel
theorem dX12_enclose_21 : decode cX12_enclose 21 = .ok (.if_icmp .lt 6, 3) := by decide +kernel
theorem dX12_enclose_24 : decode cX12_enclose 24 = .ok (.bipush (-3), 2) := by decide +kernel
theorem dX12_enclose_26 : decode cX12_enclose 26 = .ok (.ireturn, 1) := by decide +kernel
theorem dX12_enclose_27 : decode cX12_enclose 27 = .ok (.aload_n 0, 1) := by decide +kernel
theorem dX12_enclose_28 : decode cX12_enclose 28 = .ok (.getfield 97, 3) := by decide +kernel
theorem dX12_enclose_31 : decode cX12_enclose 31 = .ok (.sipush 4000, 3) := by decide +kernel
theorem dX12_enclose_34 : decode cX12_enclose 34 = .ok (.if_icmp .ne 8, 3) := by decide +kernel
theorem dX12_enclose_37 : decode cX12_enclose 37 = .ok (.bipush (-4), 2) := by decide +kernel
theorem dX12_enclose_39 : decode cX12_enclose 39 = .ok (.goto 9, 3) := by decide +kernel
theorem dX12_enclose_42 : decode cX12_enclose 42 = .ok (.aload_n 0, 1) := by decide +kernel
theorem dX12_enclose_43 : decode cX12_enclose 43 = .ok (.iload_n 1, 1) := by decide +kernel
theorem dX12_enclose_44 : decode cX12_enclose 44 = .ok (.iload_n 2, 1) := by decide +kernel
theorem dX12_enclose_45 : decode cX12_enclose 45 = .ok (.invokevirtual 108, 3) := by decide +kernel
theorem dX12_enclose_48 : decode cX12_enclose 48 = .ok (.ireturn, 1) := by decide +kernel
theorem dX12_chain_0 : decode cX12_chain 0 = .ok (.iload_n 1, 1) := by decide +kernel
theorem dX12_chain_1 : decode cX12_chain 1 = .ok (.iconst 1, 1) := by decide +kernel
theorem dX12_chain_2 : decode cX12_chain 2 = .ok (.sipush 400, 3) := by decide +kernel
theorem dX12_chain_5 : decode cX12_chain 5 = .ok (.invokestatic 93, 3) := by decide +kernel
theorem dX12_chain_8 : decode cX12_chain 8 = .ok (.ifCond .eq 38, 3) := by decide +kernel
theorem dX12_chain_11 : decode cX12_chain 11 = .ok (.iload_n 2, 1) := by decide +kernel
theorem dX12_chain_12 : decode cX12_chain 12 = .ok (.iconst 0, 1) := by decide +kernel
theorem dX12_chain_13 : decode cX12_chain 13 = .ok (.bipush 11, 2) := by decide +kernel
theorem dX12_chain_15 : decode cX12_chain 15 = .ok (.invokestatic 93, 3) := by decide +kernel
theorem dX12_chain_18 : decode cX12_chain 18 = .ok (.ifCond .eq 28, 3) := by decide +kernel
theorem dX12_chain_21 : decode cX12_chain 21 = .ok (.iload 4, 2) := by decide +kernel
theorem dX12_chain_23 : decode cX12_chain 23 = .ok (.iconst 1, 1) := by decide +kernel
theorem dX12_chain_24 : decode cX12_chain 24 = .ok (.iconst 4, 1) := by decide +kernel
theorem dX12_chain_25 : decode cX12_chain 25 = .ok (.invokestatic 93, 3) := by decide +kernel
theorem dX12_chain_28 : decode cX12_chain 28 = .ok (.ifCond .eq 18, 3) := by decide +kernel
theorem dX12_chain_31 : decode cX12_chain 31 = .ok (.iload 5, 2) := by decide +kernel
theorem dX12_chain_33 : decode cX12_chain 33 = .ok (.iconst (-1), 1) := by decide +kernel
theorem dX12_chain_34 : decode cX12_chain 34 = .ok (.if_icmp .eq 15, 3) := by decide +kernel
theorem dX12_chain_37 : decode cX12_chain 37 = .ok (.aload_n 0, 1) := by decide +kernel
theorem dX12_chain_38 : decode cX12_chain 38 = .ok (.iload 5, 2) := by decide +kernel
theorem dX12_chain_40 : decode cX12_chain 40 = .ok (.invokevirtual 104, 3) := by decide +kernel
theorem dX12_chain_43 : decode cX12_chain 43 = .ok (.ifCond .ne 6, 3) := by decide +kernel
theorem dX12_chain_46 : decode cX12_chain 46 = .ok (.bipush (-2), 2) := by decide +kernel
theorem dX12_chain_48 : decode cX12_chain 48 = .ok (.ireturn, 1) := by decide +kernel
theorem dX12_chain_49 : decode cX12_chain 49 = .ok (.iload 5, 2) := by decide +kernel
theorem dX12_chain_51 : decode cX12_chain 51 = .ok (.iconst (-1), 1) := by decide +kernel
theorem dX12_chain_52 : decode cX12_chain 52 = .ok (.if_icmp .ne 9, 3) := by decide +kernel
theorem dX12_chain_55 : decode cX12_chain 55 = .ok (.iload_n 1, 1) := by decide +kernel
theorem dX12_chain_56 : decode cX12_chain 56 = .ok (.iconst 1, 1) := by decide +kernel
theorem dX12_chain_57 : decode cX12_chain 57 = .ok (.isub, 1) := by decide +kernel
theorem dX12_chain_58 : decode cX12_chain 58 = .ok (.goto 4, 3) := by decide +kernel
theorem dX12_chain_61 : decode cX12_chain 61 = .ok (.iload_n 1, 1) := by decide +kernel
theorem dX12_chain_62 : decode cX12_chain 62 = .ok (.iload 4, 2) := by decide +kernel
theorem dX12_chain_64 : decode cX12_chain 64 = .ok (.imul, 1) := by decide +kernel
theorem dX12_chain_65 : decode cX12_chain 65 = .ok (.istore 6, 2) := by decide +kernel
theorem dX12_chain_67 : decode cX12_chain 67 = .ok (.aload_n 0, 1) := by decide +kernel
theorem dX12_chain_68 : decode cX12_chain 68 = .ok (.getfield 90, 3) := by decide +kernel
theorem dX12_chain_71 : decode cX12_chain 71 = .ok (.iload_n 1, 1) := by decide +kernel
theorem dX12_chain_72 : decode cX12_chain 72 = .ok (.iadd, 1) := by decide +kernel
theorem dX12_chain_73 : decode cX12_chain 73 = .ok (.sipush 1500, 3) := by decide +kernel
theorem dX12_chain_76 : decode cX12_chain 76 = .ok (.if_icmp .gt 16, 3) := by decide +kernel
theorem dX12_chain_79 : decode cX12_chain 79 = .ok (.aload_n 0, 1) := by decide +kernel
theorem dX12_chain_80 : decode cX12_chain 80 = .ok (.getfield 97, 3) := by decide +kernel
theorem dX12_chain_83 : decode cX12_chain 83 = .ok (.iload 6, 2) := by decide +kernel
theorem dX12_chain_85 : decode cX12_chain 85 = .ok (.iadd, 1) := by decide +kernel
theorem dX12_chain_86 : decode cX12_chain 86 = .ok (.sipush 4000, 3) := by decide +kernel
theorem dX12_chain_89 : decode cX12_chain 89 = .ok (.if_icmp .le 6, 3) := by decide +kernel
theorem dX12_chain_92 : decode cX12_chain 92 = .ok (.bipush (-4), 2) := by decide +kernel
theorem dX12_chain_94 : decode cX12_chain 94 = .ok (.ireturn, 1) := by decide +kernel
theorem dX12_chain_95 : decode cX12_chain 95 = .ok (.iload 5, 2) := by decide +kernel
theorem dX12_chain_97 : decode cX12_chain 97 = .ok (.istore 7, 2) := by decide +kernel
theorem dX12_chain_99 : decode cX12_chain 99 = .ok (.iconst 0, 1) := by decide +kernel
theorem dX12_chain_100 : decode cX12_chain 100 = .ok (.istore 8, 2) := by decide +kernel
theorem dX12_chain_102 : decode cX12_chain 102 = .ok (.iload 8, 2) := by decide +kernel
theorem dX12_chain_104 : decode cX12_chain 104 = .ok (.iload_n 1, 1) := by decide +kernel
theorem dX12_chain_105 : decode cX12_chain 105 = .ok (.if_icmp .ge 52, 3) := by decide +kernel
theorem dX12_chain_108 : decode cX12_chain 108 = .ok (.aload_n 0, 1) := by decide +kernel
theorem dX12_chain_109 : decode cX12_chain 109 = .ok (.iload_n 2, 1) := by decide +kernel
theorem dX12_chain_110 : decode cX12_chain 110 = .ok (.iload_n 3, 1) := by decide +kernel
theorem dX12_chain_111 : decode cX12_chain 111 = .ok (.invokevirtual 100, 3) := by decide +kernel
theorem dX12_chain_114 : decode cX12_chain 114 = .ok (.istore 9, 2) := by decide +kernel
theorem dX12_chain_116 : decode cX12_chain 116 = .ok (.iconst 0, 1) := by decide +kernel
theorem dX12_chain_117 : decode cX12_chain 117 = .ok (.istore 10, 2) := by decide +kernel
theorem dX12_chain_119 : decode cX12_chain 119 = .ok (.iload 10, 2) := by decide +kernel
theorem dX12_chain_121 : decode cX12_chain 121 = .ok (.iload 4, 2) := by decide +kernel
theorem dX12_chain_123 : decode cX12_chain 123 = .ok (.if_icmp .ge 24, 3) := by decide +kernel
theorem dX12_chain_126 : decode cX12_chain 126 = .ok (.iload 7, 2) := by decide +kernel
theorem dX12_chain_128 : decode cX12_chain 128 = .ok (.iconst (-1), 1) := by decide +kernel
theorem dX12_chain_129 : decode cX12_chain 129 = .ok (.if_icmp .eq 18, 3) := by decide +kernel
theorem dX12_chain_132 : decode cX12_chain 132 = .ok (.aload_n 0, 1) := by decide +kernel
theorem dX12_chain_133 : decode cX12_chain 133 = .ok (.iload 9, 2) := by decide +kernel
theorem dX12_chain_135 : decode cX12_chain 135 = .ok (.iload 7, 2) := by decide +kernel
theorem dX12_chain_137 : decode cX12_chain 137 = .ok (.invokevirtual 108, 3) := by decide +kernel
theorem dX12_chain_140 : decode cX12_chain 140 = .ok (.pop, 1) := by decide +kernel
theorem dX12_chain_141 : decode cX12_chain 141 = .ok (.iinc 10 1, 3) := by decide +kernel
theorem dX12_chain_144 : decode cX12_chain 144 = .ok (.goto (-25), 3) := by decide +kernel
theorem dX12_chain_147 : decode cX12_chain 147 = .ok (.iload 9, 2) := by decide +kernel
theorem dX12_chain_149 : decode cX12_chain 149 = .ok (.istore 7, 2) := by decide +kernel
theorem dX12_chain_151 : decode cX12_chain 151 = .ok (.iinc 8 1, 3) := by decide +kernel
theorem dX12_chain_154 : decode cX12_chain 154 = .ok (.goto (-52), 3) := by decide +kernel
theorem dX12_chain_157 : decode cX12_chain 157 = .ok (.iload 7, 2) := by decide +kernel
theorem dX12_chain_159 : decode cX12_chain 159 = .ok (.ireturn, 1) := by decide +kernel
theorem dX12_way_0 : decode cX12_way 0 = .ok (.iload_n 1, 1) := by decide +kernel
theorem dX12_way_1 : decode cX12_way 1 = .ok (.iconst 0, 1) := by decide +kernel
theorem dX12_way_2 : decode cX12_way 2 = .ok (.iconst 3, 1) := by decide +kernel
theorem dX12_way_3 : decode cX12_way 3 = .ok (.invokestatic 93, 3) := by decide +kernel
theorem dX12_way_6 : decode cX12_way 6 = .ok (.ifCond .ne 6, 3) := by decide +kernel
theorem dX12_way_9 : decode cX12_way 9 = .ok (.bipush (-2), 2) := by decide +kernel
theorem dX12_way_11 : decode cX12_way 11 = .ok (.ireturn, 1) := by decide +kernel
theorem dX12_way_12 : decode cX12_way 12 = .ok (.aload_n 0, 1) := by decide +kernel
theorem dX12_way_13 : decode cX12_way 13 = .ok (.getfield 111, 3) := by decide +kernel
theorem dX12_way_16 : decode cX12_way 16 = .ok (.istore_n 2, 1) := by decide +kernel
theorem dX12_way_17 : decode cX12_way 17 = .ok (.aload_n 0, 1) := by decide +kernel
theorem dX12_way_18 : decode cX12_way 18 = .ok (.iload_n 1, 1) := by decide +kernel
theorem dX12_way_19 : decode cX12_way 19 = .ok (.putfield 111, 3) := by decide +kernel
theorem dX12_way_22 : decode cX12_way 22 = .ok (.iload_n 2, 1) := by decide +kernel
theorem dX12_way_23 : decode cX12_way 23 = .ok (.ireturn, 1) := by decide +kernel
theorem dX12_meter_0 : decode cX12_meter 0 = .ok (.iload_n 1, 1) := by decide +kernel
theorem dX12_meter_1 : decode cX12_meter 1 = .ok (.iconst 1, 1) := by decide +kernel
theorem dX12_meter_2 : decode cX12_meter 2 = .ok (.sipush 300, 3) := by decide +kernel
theorem dX12_meter_5 : decode cX12_meter 5 = .ok (.invokestatic 93, 3) := by decide +kernel
theorem dX12_meter_8 : decode cX12_meter 8 = .ok (.ifCond .ne 6, 3) := by decide +kernel
theorem dX12_meter_11 : decode cX12_meter 11 = .ok (.bipush (-2), 2) := by decide +kernel
theorem dX12_meter_13 : decode cX12_meter 13 = .ok (.ireturn, 1) := by decide +kernel
theorem dX12_meter_14 : decode cX12_meter 14 = .ok (.aload_n 0, 1) := by decide +kernel
theorem dX12_meter_15 : decode cX12_meter 15 = .ok (.getfield 31, 3) := by decide +kernel
theorem dX12_meter_18 : decode cX12_meter 18 = .ok (.istore_n 2, 1) := by decide +kernel
theorem dX12_meter_19 : decode cX12_meter 19 = .ok (.aload_n 0, 1) := by decide +kernel
theorem dX12_meter_20 : decode cX12_meter 20 = .ok (.iload_n 1, 1) := by decide +kernel
theorem dX12_meter_21 : decode cX12_meter 21 = .ok (.putfield 31, 3) := by decide +kernel
theorem dX12_meter_24 : decode cX12_meter 24 = .ok (.iload_n 2, 1) := by decide +kernel
theorem dX12_meter_25 : decode cX12_meter 25 = .ok (.ireturn, 1) := by decide +kernel
theorem dX12_of_0 : decode cX12_of 0 = .ok (.aload_n 0, 1) := by decide +kernel
theorem dX12_of_1 : decode cX12_of 1 = .ok (.iload_n 1, 1) := by decide +kernel
theorem dX12_of_2 : decode cX12_of 2 = .ok (.invokevirtual 104, 3) := by decide +kernel
theorem dX12_of_5 : decode cX12_of 5 = .ok (.ifCond .eq 12, 3) := by decide +kernel
theorem dX12_of_8 : decode cX12_of 8 = .ok (.iload_n 2, 1) := by decide +kernel
theorem dX12_of_9 : decode cX12_of 9 = .ok (.iconst 0, 1) := by decide +kernel
theorem dX12_of_10 : decode cX12_of 10 = .ok (.iconst 2, 1) := by decide +kernel
theorem dX12_of_11 : decode cX12_of 11 = .ok (.invokestatic 93, 3) := by decide +kernel
theorem dX12_of_14 : decode cX12_of 14 = .ok (.ifCond .ne 6, 3) := by decide +kernel
theorem dX12_of_17 : decode cX12_of 17 = .ok (.ldc 114, 2) := by decide +kernel
theorem dX12_of_19 : decode cX12_of 19 = .ok (.ireturn, 1) := by decide +kernel
theorem dX12_of_20 : decode cX12_of 20 = .ok (.iload_n 2, 1) := by decide +kernel
theorem dX12_of_21 : decode cX12_of 21 = .ok (.ifCond .ne 12, 3) := by decide +kernel
theorem dX12_of_24 : decode cX12_of 24 = .ok (.aload_n 0, 1) := by decide +kernel
theorem dX12_of_25 : decode cX12_of 25 = .ok (.getfield 7, 3) := by decide +kernel
theorem dX12_of_28 : decode cX12_of 28 = .ok (.iload_n 1, 1) := by decide +kernel
theorem dX12_of_29 : decode cX12_of 29 = .ok (.iaload, 1) := by decide +kernel
theorem dX12_of_30 : decode cX12_of 30 = .ok (.goto 23, 3) := by decide +kernel
theorem dX12_of_33 : decode cX12_of 33 = .ok (.iload_n 2, 1) := by decide +kernel
theorem dX12_of_34 : decode cX12_of 34 = .ok (.iconst 1, 1) := by decide +kernel
theorem dX12_of_35 : decode cX12_of 35 = .ok (.if_icmp .ne 12, 3) := by decide +kernel
theorem dX12_of_38 : decode cX12_of 38 = .ok (.aload_n 0, 1) := by decide +kernel
theorem dX12_of_39 : decode cX12_of 39 = .ok (.getfield 16, 3) := by decide +kernel
theorem dX12_of_42 : decode cX12_of 42 = .ok (.iload_n 1, 1) := by decide +kernel
theorem dX12_of_43 : decode cX12_of 43 = .ok (.iaload, 1) := by decide +kernel
theorem dX12_of_44 : decode cX12_of 44 = .ok (.goto 9, 3) := by decide +kernel
theorem dX12_of_47 : decode cX12_of 47 = .ok (.aload_n 0, 1) := by decide +kernel
theorem dX12_of_48 : decode cX12_of 48 = .ok (.getfield 13, 3) := by decide +kernel
theorem dX12_of_51 : decode cX12_of 51 = .ok (.iload_n 1, 1) := by decide +kernel
theorem dX12_of_52 : decode cX12_of 52 = .ok (.iaload, 1) := by decide +kernel
theorem dX12_of_53 : decode cX12_of 53 = .ok (.ireturn, 1) := by decide +kernel
theorem dX12_partAt_0 : decode cX12_partAt 0 = .ok (.aload_n 0, 1) := by decide +kernel
theorem dX12_partAt_1 : decode cX12_partAt 1 = .ok (.getfield 19, 3) := by decide +kernel
theorem dX12_partAt_4 : decode cX12_partAt 4 = .ok (.iload_n 1, 1) := by decide +kernel
theorem dX12_partAt_5 : decode cX12_partAt 5 = .ok (.iaload, 1) := by decide +kernel
theorem dX12_partAt_6 : decode cX12_partAt 6 = .ok (.istore_n 3, 1) := by decide +kernel
theorem dX12_partAt_7 : decode cX12_partAt 7 = .ok (.iconst 0, 1) := by decide +kernel
theorem dX12_partAt_8 : decode cX12_partAt 8 = .ok (.istore 4, 2) := by decide +kernel
theorem dX12_partAt_10 : decode cX12_partAt 10 = .ok (.iload 4, 2) := by decide +kernel
theorem dX12_partAt_12 : decode cX12_partAt 12 = .ok (.iload_n 2, 1) := by decide +kernel
theorem dX12_partAt_13 : decode cX12_partAt 13 = .ok (.if_icmp .ge 16, 3) := by decide +kernel
theorem dX12_partAt_16 : decode cX12_partAt 16 = .ok (.aload_n 0, 1) := by decide +kernel
theorem dX12_partAt_17 : decode cX12_partAt 17 = .ok (.getfield 28, 3) := by decide +kernel
theorem dX12_partAt_20 : decode cX12_partAt 20 = .ok (.iload_n 3, 1) := by decide +kernel
theorem dX12_partAt_21 : decode cX12_partAt 21 = .ok (.iaload, 1) := by decide +kernel
theorem dX12_partAt_22 : decode cX12_partAt 22 = .ok (.istore_n 3, 1) := by decide +kernel
theorem dX12_partAt_23 : decode cX12_partAt 23 = .ok (.iinc 4 1, 3) := by decide +kernel
theorem dX12_partAt_26 : decode cX12_partAt 26 = .ok (.goto (-16), 3) := by decide +kernel
theorem dX12_partAt_29 : decode cX12_partAt 29 = .ok (.aload_n 0, 1) := by decide +kernel
theorem dX12_partAt_30 : decode cX12_partAt 30 = .ok (.getfield 25, 3) := by decide +kernel
theorem dX12_partAt_33 : decode cX12_partAt 33 = .ok (.iload_n 3, 1) := by decide +kernel
theorem dX12_partAt_34 : decode cX12_partAt 34 = .ok (.iaload, 1) := by decide +kernel
theorem dX12_partAt_35 : decode cX12_partAt 35 = .ok (.ireturn, 1) := by decide +kernel
theorem dX12_part_0 : decode cX12_part 0 = .ok (.aload_n 0, 1) := by decide +kernel
theorem dX12_part_1 : decode cX12_part 1 = .ok (.iload_n 1, 1) := by decide +kernel
theorem dX12_part_2 : decode cX12_part 2 = .ok (.invokevirtual 104, 3) := by decide +kernel
theorem dX12_part_5 : decode cX12_part 5 = .ok (.ifCond .eq 28, 3) := by decide +kernel
theorem dX12_part_8 : decode cX12_part 8 = .ok (.iload_n 2, 1) := by decide +kernel
theorem dX12_part_9 : decode cX12_part 9 = .ok (.iconst 0, 1) := by decide +kernel
theorem dX12_part_10 : decode cX12_part 10 = .ok (.aload_n 0, 1) := by decide +kernel
theorem dX12_part_11 : decode cX12_part 11 = .ok (.getfield 16, 3) := by decide +kernel
theorem dX12_part_14 : decode cX12_part 14 = .ok (.iload_n 1, 1) := by decide +kernel
theorem dX12_part_15 : decode cX12_part 15 = .ok (.iaload, 1) := by decide +kernel
theorem dX12_part_16 : decode cX12_part 16 = .ok (.iconst 1, 1) := by decide +kernel
theorem dX12_part_17 : decode cX12_part 17 = .ok (.isub, 1) := by decide +kernel
theorem dX12_part_18 : decode cX12_part 18 = .ok (.invokestatic 93, 3) := by decide +kernel
theorem dX12_part_21 : decode cX12_part 21 = .ok (.ifCond .eq 12, 3) := by decide +kernel
theorem dX12_part_24 : decode cX12_part 24 = .ok (.aload_n 0, 1) := by decide +kernel
theorem dX12_part_25 : decode cX12_part 25 = .ok (.iload_n 1, 1) := by decide +kernel
theorem dX12_part_26 : decode cX12_part 26 = .ok (.iload_n 2, 1) := by decide +kernel
theorem dX12_part_27 : decode cX12_part 27 = .ok (.invokevirtual 115, 3) := by decide +kernel
theorem dX12_part_30 : decode cX12_part 30 = .ok (.goto 5, 3) := by decide +kernel
theorem dX12_part_33 : decode cX12_part 33 = .ok (.bipush (-2), 2) := by decide +kernel
theorem dX12_part_35 : decode cX12_part 35 = .ok (.ireturn, 1) := by decide +kernel
theorem dX12_turned_0 : decode cX12_turned 0 = .ok (.iload_n 2, 1) := by decide +kernel
theorem dX12_turned_1 : decode cX12_turned 1 = .ok (.bipush 64, 2) := by decide +kernel
theorem dX12_turned_3 : decode cX12_turned 3 = .ok (.irem, 1) := by decide +kernel
theorem dX12_turned_4 : decode cX12_turned 4 = .ok (.istore_n 3, 1) := by decide +kernel
theorem dX12_turned_5 : decode cX12_turned 5 = .ok (.iload_n 3, 1) := by decide +kernel
theorem dX12_turned_6 : decode cX12_turned 6 = .ok (.ifCond .ne 7, 3) := by decide +kernel
theorem dX12_turned_9 : decode cX12_turned 9 = .ok (.lload_n 0, 1) := by decide +kernel
theorem dX12_turned_10 : decode cX12_turned 10 = .ok (.goto 13, 3) := by decide +kernel
theorem dX12_turned_13 : decode cX12_turned 13 = .ok (.lload_n 0, 1) := by decide +kernel
theorem dX12_turned_14 : decode cX12_turned 14 = .ok (.iload_n 3, 1) := by decide +kernel
theorem dX12_turned_15 : decode cX12_turned 15 = .ok (.lshl, 1) := by decide +kernel
theorem dX12_turned_16 : decode cX12_turned 16 = .ok (.lload_n 0, 1) := by decide +kernel
theorem dX12_turned_17 : decode cX12_turned 17 = .ok (.bipush 64, 2) := by decide +kernel
theorem dX12_turned_19 : decode cX12_turned 19 = .ok (.iload_n 3, 1) := by decide +kernel
theorem dX12_turned_20 : decode cX12_turned 20 = .ok (.isub, 1) := by decide +kernel
theorem dX12_turned_21 : decode cX12_turned 21 = .ok (.lushr, 1) := by decide +kernel
theorem dX12_turned_22 : decode cX12_turned 22 = .ok (.lor, 1) := by decide +kernel
theorem dX12_turned_23 : decode cX12_turned 23 = .ok (.lreturn, 1) := by decide +kernel
theorem dX12_byAll_0 : decode cX12_byAll 0 = .ok (.aload_n 0, 1) := by decide +kernel
theorem dX12_byAll_1 : decode cX12_byAll 1 = .ok (.getfield 7, 3) := by decide +kernel
theorem dX12_byAll_4 : decode cX12_byAll 4 = .ok (.iload_n 1, 1) := by decide +kernel
theorem dX12_byAll_5 : decode cX12_byAll 5 = .ok (.iaload, 1) := by decide +kernel
theorem dX12_byAll_6 : decode cX12_byAll 6 = .ok (.bipush 6, 2) := by decide +kernel
theorem dX12_byAll_8 : decode cX12_byAll 8 = .ok (.if_icmp .ne 7, 3) := by decide +kernel
theorem dX12_byAll_11 : decode cX12_byAll 11 = .ok (.lconst 0, 1) := by decide +kernel
theorem dX12_byAll_12 : decode cX12_byAll 12 = .ok (.goto 10, 3) := by decide +kernel
theorem dX12_byAll_15 : decode cX12_byAll 15 = .ok (.aload_n 0, 1) := by decide +kernel
theorem dX12_byAll_16 : decode cX12_byAll 16 = .ok (.getfield 13, 3) := by decide +kernel
theorem dX12_byAll_19 : decode cX12_byAll 19 = .ok (.iload_n 1, 1) := by decide +kernel
theorem dX12_byAll_20 : decode cX12_byAll 20 = .ok (.iaload, 1) := by decide +kernel
theorem dX12_byAll_21 : decode cX12_byAll 21 = .ok (.i2l, 1) := by decide +kernel
theorem dX12_byAll_22 : decode cX12_byAll 22 = .ok (.lstore_n 2, 1) := by decide +kernel
theorem dX12_byAll_23 : decode cX12_byAll 23 = .ok (.iconst 1, 1) := by decide +kernel
theorem dX12_byAll_24 : decode cX12_byAll 24 = .ok (.istore 4, 2) := by decide +kernel
theorem dX12_byAll_26 : decode cX12_byAll 26 = .ok (.iconst 0, 1) := by decide +kernel
theorem dX12_byAll_27 : decode cX12_byAll 27 = .ok (.istore 5, 2) := by decide +kernel
theorem dX12_byAll_29 : decode cX12_byAll 29 = .ok (.aload_n 0, 1) := by decide +kernel
theorem dX12_byAll_30 : decode cX12_byAll 30 = .ok (.getfield 19, 3) := by decide +kernel
theorem dX12_byAll_33 : decode cX12_byAll 33 = .ok (.iload_n 1, 1) := by decide +kernel
theorem dX12_byAll_34 : decode cX12_byAll 34 = .ok (.iaload, 1) := by decide +kernel
theorem dX12_byAll_35 : decode cX12_byAll 35 = .ok (.istore 6, 2) := by decide +kernel
theorem dX12_byAll_37 : decode cX12_byAll 37 = .ok (.iload 6, 2) := by decide +kernel
theorem dX12_byAll_39 : decode cX12_byAll 39 = .ok (.iconst (-1), 1) := by decide +kernel
theorem dX12_byAll_40 : decode cX12_byAll 40 = .ok (.if_icmp .eq 224, 3) := by decide +kernel
theorem dX12_byAll_43 : decode cX12_byAll 43 = .ok (.aload_n 0, 1) := by decide +kernel
theorem dX12_byAll_44 : decode cX12_byAll 44 = .ok (.getfield 38, 3) := by decide +kernel
theorem dX12_byAll_47 : decode cX12_byAll 47 = .ok (.aload_n 0, 1) := by decide +kernel
theorem dX12_byAll_48 : decode cX12_byAll 48 = .ok (.getfield 25, 3) := by decide +kernel
theorem dX12_byAll_51 : decode cX12_byAll 51 = .ok (.iload 6, 2) := by decide +kernel
theorem dX12_byAll_53 : decode cX12_byAll 53 = .ok (.iaload, 1) := by decide +kernel
theorem dX12_byAll_54 : decode cX12_byAll 54 = .ok (.laload, 1) := by decide +kernel
theorem dX12_byAll_55 : decode cX12_byAll 55 = .ok (.lstore 7, 2) := by decide +kernel
theorem dX12_byAll_57 : decode cX12_byAll 57 = .ok (.iload 4, 2) := by decide +kernel
theorem dX12_byAll_59 : decode cX12_byAll 59 = .ok (.ifCond .eq 29, 3) := by decide +kernel
theorem dX12_byAll_62 : decode cX12_byAll 62 = .ok (.lload 7, 2) := by decide +kernel
theorem dX12_byAll_64 : decode cX12_byAll 64 = .ok (.aload_n 0, 1) := by decide +kernel
theorem dX12_byAll_65 : decode cX12_byAll 65 = .ok (.getfield 38, 3) := by decide +kernel
theorem dX12_byAll_68 : decode cX12_byAll 68 = .ok (.aload_n 0, 1) := by decide +kernel
theorem dX12_byAll_69 : decode cX12_byAll 69 = .ok (.getfield 25, 3) := by decide +kernel
theorem dX12_byAll_72 : decode cX12_byAll 72 = .ok (.aload_n 0, 1) := by decide +kernel
theorem dX12_byAll_73 : decode cX12_byAll 73 = .ok (.getfield 19, 3) := by decide +kernel
theorem dX12_byAll_76 : decode cX12_byAll 76 = .ok (.iload_n 1, 1) := by decide +kernel
theorem dX12_byAll_77 : decode cX12_byAll 77 = .ok (.iaload, 1) := by decide +kernel
theorem dX12_byAll_78 : decode cX12_byAll 78 = .ok (.iaload, 1) := by decide +kernel
theorem dX12_byAll_79 : decode cX12_byAll 79 = .ok (.laload, 1) := by decide +kernel
theorem dX12_byAll_80 : decode cX12_byAll 80 = .ok (.lcmp, 1) := by decide +kernel
theorem dX12_byAll_81 : decode cX12_byAll 81 = .ok (.ifCond .ne 7, 3) := by decide +kernel
theorem dX12_byAll_84 : decode cX12_byAll 84 = .ok (.iconst 1, 1) := by decide +kernel
theorem dX12_byAll_85 : decode cX12_byAll 85 = .ok (.goto 4, 3) := by decide +kernel
theorem dX12_byAll_88 : decode cX12_byAll 88 = .ok (.iconst 0, 1) := by decide +kernel
theorem dX12_byAll_89 : decode cX12_byAll 89 = .ok (.istore 4, 2) := by decide +kernel
theorem dX12_byAll_91 : decode cX12_byAll 91 = .ok (.aload_n 0, 1) := by decide +kernel
theorem dX12_byAll_92 : decode cX12_byAll 92 = .ok (.getfield 7, 3) := by decide +kernel
theorem dX12_byAll_95 : decode cX12_byAll 95 = .ok (.iload_n 1, 1) := by decide +kernel
theorem dX12_byAll_96 : decode cX12_byAll 96 = .ok (.iaload, 1) := by decide +kernel
theorem dX12_byAll_97 : decode cX12_byAll 97 = .ok (.tableswitch 152 1 10 #[55, 63, 71, 89, 106, 123, 152, 152, 152, 139], 55) := by decide +kernel
theorem dX12_byAll_152 : decode cX12_byAll 152 = .ok (.lload_n 2, 1) := by decide +kernel
theorem dX12_byAll_153 : decode cX12_byAll 153 = .ok (.lload 7, 2) := by decide +kernel
theorem dX12_byAll_155 : decode cX12_byAll 155 = .ok (.ladd, 1) := by decide +kernel
theorem dX12_byAll_156 : decode cX12_byAll 156 = .ok (.lstore_n 2, 1) := by decide +kernel
theorem dX12_byAll_157 : decode cX12_byAll 157 = .ok (.goto 92, 3) := by decide +kernel
theorem dX12_byAll_160 : decode cX12_byAll 160 = .ok (.lload_n 2, 1) := by decide +kernel
theorem dX12_byAll_161 : decode cX12_byAll 161 = .ok (.lload 7, 2) := by decide +kernel
theorem dX12_byAll_163 : decode cX12_byAll 163 = .ok (.lmul, 1) := by decide +kernel
theorem dX12_byAll_164 : decode cX12_byAll 164 = .ok (.lstore_n 2, 1) := by decide +kernel
theorem dX12_byAll_165 : decode cX12_byAll 165 = .ok (.goto 84, 3) := by decide +kernel
theorem dX12_byAll_168 : decode cX12_byAll 168 = .ok (.iload 5, 2) := by decide +kernel
theorem dX12_byAll_170 : decode cX12_byAll 170 = .ok (.ifCond .ne 8, 3) := by decide +kernel
theorem dX12_byAll_173 : decode cX12_byAll 173 = .ok (.lload 7, 2) := by decide +kernel
theorem dX12_byAll_175 : decode cX12_byAll 175 = .ok (.goto 7, 3) := by decide +kernel
theorem dX12_byAll_178 : decode cX12_byAll 178 = .ok (.lload_n 2, 1) := by decide +kernel
theorem dX12_byAll_179 : decode cX12_byAll 179 = .ok (.lload 7, 2) := by decide +kernel
theorem dX12_byAll_181 : decode cX12_byAll 181 = .ok (.lsub, 1) := by decide +kernel
theorem dX12_byAll_182 : decode cX12_byAll 182 = .ok (.lstore_n 2, 1) := by decide +kernel
theorem dX12_byAll_183 : decode cX12_byAll 183 = .ok (.goto 66, 3) := by decide +kernel
theorem dX12_byAll_186 : decode cX12_byAll 186 = .ok (.lload 7, 2) := by decide +kernel
theorem dX12_byAll_188 : decode cX12_byAll 188 = .ok (.lload_n 2, 1) := by decide +kernel
theorem dX12_byAll_189 : decode cX12_byAll 189 = .ok (.lcmp, 1) := by decide +kernel
theorem dX12_byAll_190 : decode cX12_byAll 190 = .ok (.ifCond .le 8, 3) := by decide +kernel
theorem dX12_byAll_193 : decode cX12_byAll 193 = .ok (.lload 7, 2) := by decide +kernel
theorem dX12_byAll_195 : decode cX12_byAll 195 = .ok (.goto 4, 3) := by decide +kernel
theorem dX12_byAll_198 : decode cX12_byAll 198 = .ok (.lload_n 2, 1) := by decide +kernel
theorem dX12_byAll_199 : decode cX12_byAll 199 = .ok (.lstore_n 2, 1) := by decide +kernel
theorem dX12_byAll_200 : decode cX12_byAll 200 = .ok (.goto 49, 3) := by decide +kernel
theorem dX12_byAll_203 : decode cX12_byAll 203 = .ok (.lload 7, 2) := by decide +kernel
theorem dX12_byAll_205 : decode cX12_byAll 205 = .ok (.lload_n 2, 1) := by decide +kernel
theorem dX12_byAll_206 : decode cX12_byAll 206 = .ok (.lcmp, 1) := by decide +kernel
theorem dX12_byAll_207 : decode cX12_byAll 207 = .ok (.ifCond .ge 8, 3) := by decide +kernel
theorem dX12_byAll_210 : decode cX12_byAll 210 = .ok (.lload 7, 2) := by decide +kernel
theorem dX12_byAll_212 : decode cX12_byAll 212 = .ok (.goto 4, 3) := by decide +kernel
theorem dX12_byAll_215 : decode cX12_byAll 215 = .ok (.lload_n 2, 1) := by decide +kernel
theorem dX12_byAll_216 : decode cX12_byAll 216 = .ok (.lstore_n 2, 1) := by decide +kernel
theorem dX12_byAll_217 : decode cX12_byAll 217 = .ok (.goto 32, 3) := by decide +kernel
theorem dX12_byAll_220 : decode cX12_byAll 220 = .ok (.lload_n 2, 1) := by decide +kernel
theorem dX12_byAll_221 : decode cX12_byAll 221 = .ok (.aload_n 0, 1) := by decide +kernel
theorem dX12_byAll_222 : decode cX12_byAll 222 = .ok (.getfield 13, 3) := by decide +kernel
theorem dX12_byAll_225 : decode cX12_byAll 225 = .ok (.iload_n 1, 1) := by decide +kernel
theorem dX12_byAll_226 : decode cX12_byAll 226 = .ok (.iaload, 1) := by decide +kernel
theorem dX12_byAll_227 : decode cX12_byAll 227 = .ok (.i2l, 1) := by decide +kernel
theorem dX12_byAll_228 : decode cX12_byAll 228 = .ok (.lmul, 1) := by decide +kernel
theorem dX12_byAll_229 : decode cX12_byAll 229 = .ok (.lload 7, 2) := by decide +kernel
theorem dX12_byAll_231 : decode cX12_byAll 231 = .ok (.ladd, 1) := by decide +kernel
theorem dX12_byAll_232 : decode cX12_byAll 232 = .ok (.lstore_n 2, 1) := by decide +kernel
theorem dX12_byAll_233 : decode cX12_byAll 233 = .ok (.goto 16, 3) := by decide +kernel
theorem dX12_byAll_236 : decode cX12_byAll 236 = .ok (.lload_n 2, 1) := by decide +kernel
theorem dX12_byAll_237 : decode cX12_byAll 237 = .ok (.lload 7, 2) := by decide +kernel
theorem dX12_byAll_239 : decode cX12_byAll 239 = .ok (.iload 5, 2) := by decide +kernel
theorem dX12_byAll_241 : decode cX12_byAll 241 = .ok (.invokestatic 118, 3) := by decide +kernel
theorem dX12_byAll_244 : decode cX12_byAll 244 = .ok (.lxor, 1) := by decide +kernel
theorem dX12_byAll_245 : decode cX12_byAll 245 = .ok (.lstore_n 2, 1) := by decide +kernel
theorem dX12_byAll_246 : decode cX12_byAll 246 = .ok (.goto 3, 3) := by decide +kernel
theorem dX12_byAll_249 : decode cX12_byAll 249 = .ok (.iinc 5 1, 3) := by decide +kernel
theorem dX12_byAll_252 : decode cX12_byAll 252 = .ok (.aload_n 0, 1) := by decide +kernel
theorem dX12_byAll_253 : decode cX12_byAll 253 = .ok (.getfield 28, 3) := by decide +kernel
theorem dX12_byAll_256 : decode cX12_byAll 256 = .ok (.iload 6, 2) := by decide +kernel
theorem dX12_byAll_258 : decode cX12_byAll 258 = .ok (.iaload, 1) := by decide +kernel
theorem dX12_byAll_259 : decode cX12_byAll 259 = .ok (.istore 6, 2) := by decide +kernel
theorem dX12_byAll_261 : decode cX12_byAll 261 = .ok (.goto (-224), 3) := by decide +kernel
theorem dX12_byAll_264 : decode cX12_byAll 264 = .ok (.aload_n 0, 1) := by decide +kernel
theorem dX12_byAll_265 : decode cX12_byAll 265 = .ok (.getfield 7, 3) := by decide +kernel
theorem dX12_byAll_268 : decode cX12_byAll 268 = .ok (.iload_n 1, 1) := by decide +kernel
theorem dX12_byAll_269 : decode cX12_byAll 269 = .ok (.iaload, 1) := by decide +kernel
theorem dX12_byAll_270 : decode cX12_byAll 270 = .ok (.bipush 9, 2) := by decide +kernel
theorem dX12_byAll_272 : decode cX12_byAll 272 = .ok (.if_icmp .ne 16, 3) := by decide +kernel
theorem dX12_byAll_275 : decode cX12_byAll 275 = .ok (.iload 4, 2) := by decide +kernel
theorem dX12_byAll_277 : decode cX12_byAll 277 = .ok (.ifCond .eq 7, 3) := by decide +kernel
theorem dX12_byAll_280 : decode cX12_byAll 280 = .ok (.lconst 1, 1) := by decide +kernel
theorem dX12_byAll_281 : decode cX12_byAll 281 = .ok (.goto 37, 3) := by decide +kernel
theorem dX12_byAll_284 : decode cX12_byAll 284 = .ok (.lconst 0, 1) := by decide +kernel
theorem dX12_byAll_285 : decode cX12_byAll 285 = .ok (.goto 33, 3) := by decide +kernel
theorem dX12_byAll_288 : decode cX12_byAll 288 = .ok (.aload_n 0, 1) := by decide +kernel
theorem dX12_byAll_289 : decode cX12_byAll 289 = .ok (.getfield 7, 3) := by decide +kernel
theorem dX12_byAll_292 : decode cX12_byAll 292 = .ok (.iload_n 1, 1) := by decide +kernel
theorem dX12_byAll_293 : decode cX12_byAll 293 = .ok (.iaload, 1) := by decide +kernel
theorem dX12_byAll_294 : decode cX12_byAll 294 = .ok (.bipush 11, 2) := by decide +kernel
theorem dX12_byAll_296 : decode cX12_byAll 296 = .ok (.if_icmp .ne 21, 3) := by decide +kernel
theorem dX12_byAll_299 : decode cX12_byAll 299 = .ok (.aload_n 0, 1) := by decide +kernel
theorem dX12_byAll_300 : decode cX12_byAll 300 = .ok (.getfield 13, 3) := by decide +kernel
theorem dX12_byAll_303 : decode cX12_byAll 303 = .ok (.iload_n 1, 1) := by decide +kernel
theorem dX12_byAll_304 : decode cX12_byAll 304 = .ok (.iaload, 1) := by decide +kernel
theorem dX12_byAll_305 : decode cX12_byAll 305 = .ok (.i2l, 1) := by decide +kernel
theorem dX12_byAll_306 : decode cX12_byAll 306 = .ok (.aload_n 0, 1) := by decide +kernel
theorem dX12_byAll_307 : decode cX12_byAll 307 = .ok (.getfield 16, 3) := by decide +kernel
theorem dX12_byAll_310 : decode cX12_byAll 310 = .ok (.iload_n 1, 1) := by decide +kernel
theorem dX12_byAll_311 : decode cX12_byAll 311 = .ok (.iaload, 1) := by decide +kernel
theorem dX12_byAll_312 : decode cX12_byAll 312 = .ok (.i2l, 1) := by decide +kernel
theorem dX12_byAll_313 : decode cX12_byAll 313 = .ok (.ladd, 1) := by decide +kernel
theorem dX12_byAll_314 : decode cX12_byAll 314 = .ok (.goto 4, 3) := by decide +kernel
theorem dX12_byAll_317 : decode cX12_byAll 317 = .ok (.lload_n 2, 1) := by decide +kernel
theorem dX12_byAll_318 : decode cX12_byAll 318 = .ok (.lreturn, 1) := by decide +kernel
theorem dX12_chosen_0 : decode cX12_chosen 0 = .ok (.aload_n 0, 1) := by decide +kernel
theorem dX12_chosen_1 : decode cX12_chosen 1 = .ok (.getfield 38, 3) := by decide +kernel
theorem dX12_chosen_4 : decode cX12_chosen 4 = .ok (.aload_n 0, 1) := by decide +kernel
theorem dX12_chosen_5 : decode cX12_chosen 5 = .ok (.getfield 25, 3) := by decide +kernel
theorem dX12_chosen_8 : decode cX12_chosen 8 = .ok (.aload_n 0, 1) := by decide +kernel
theorem dX12_chosen_9 : decode cX12_chosen 9 = .ok (.getfield 19, 3) := by decide +kernel
theorem dX12_chosen_12 : decode cX12_chosen 12 = .ok (.iload_n 1, 1) := by decide +kernel
theorem dX12_chosen_13 : decode cX12_chosen 13 = .ok (.iaload, 1) := by decide +kernel
theorem dX12_chosen_14 : decode cX12_chosen 14 = .ok (.iaload, 1) := by decide +kernel
theorem dX12_chosen_15 : decode cX12_chosen 15 = .ok (.laload, 1) := by decide +kernel
theorem dX12_chosen_16 : decode cX12_chosen 16 = .ok (.lstore_n 2, 1) := by decide +kernel
theorem dX12_chosen_17 : decode cX12_chosen 17 = .ok (.aload_n 0, 1) := by decide +kernel
theorem dX12_chosen_18 : decode cX12_chosen 18 = .ok (.getfield 16, 3) := by decide +kernel
theorem dX12_chosen_21 : decode cX12_chosen 21 = .ok (.iload_n 1, 1) := by decide +kernel
theorem dX12_chosen_22 : decode cX12_chosen 22 = .ok (.iaload, 1) := by decide +kernel
theorem dX12_chosen_23 : decode cX12_chosen 23 = .ok (.iconst 1, 1) := by decide +kernel
theorem dX12_chosen_24 : decode cX12_chosen 24 = .ok (.isub, 1) := by decide +kernel
theorem dX12_chosen_25 : decode cX12_chosen 25 = .ok (.istore 4, 2) := by decide +kernel
theorem dX12_chosen_27 : decode cX12_chosen 27 = .ok (.lload_n 2, 1) := by decide +kernel
theorem dX12_chosen_28 : decode cX12_chosen 28 = .ok (.iload 4, 2) := by decide +kernel
theorem dX12_chosen_30 : decode cX12_chosen 30 = .ok (.i2l, 1) := by decide +kernel
theorem dX12_chosen_31 : decode cX12_chosen 31 = .ok (.lrem, 1) := by decide +kernel
theorem dX12_chosen_32 : decode cX12_chosen 32 = .ok (.lstore 5, 2) := by decide +kernel
theorem dX12_chosen_34 : decode cX12_chosen 34 = .ok (.iconst 1, 1) := by decide +kernel
theorem dX12_chosen_35 : decode cX12_chosen 35 = .ok (.lload 5, 2) := by decide +kernel
theorem dX12_chosen_37 : decode cX12_chosen 37 = .ok (.lconst 0, 1) := by decide +kernel
theorem dX12_chosen_38 : decode cX12_chosen 38 = .ok (.lcmp, 1) := by decide +kernel
theorem dX12_chosen_39 : decode cX12_chosen 39 = .ok (.ifCond .ge 12, 3) := by decide +kernel
theorem dX12_chosen_42 : decode cX12_chosen 42 = .ok (.lload 5, 2) := by decide +kernel
theorem dX12_chosen_44 : decode cX12_chosen 44 = .ok (.iload 4, 2) := by decide +kernel
theorem dX12_chosen_46 : decode cX12_chosen 46 = .ok (.i2l, 1) := by decide +kernel
theorem dX12_chosen_47 : decode cX12_chosen 47 = .ok (.ladd, 1) := by decide +kernel
theorem dX12_chosen_48 : decode cX12_chosen 48 = .ok (.goto 5, 3) := by decide +kernel
theorem dX12_chosen_51 : decode cX12_chosen 51 = .ok (.lload 5, 2) := by decide +kernel
theorem dX12_chosen_53 : decode cX12_chosen 53 = .ok (.l2i, 1) := by decide +kernel
theorem dX12_chosen_54 : decode cX12_chosen 54 = .ok (.iadd, 1) := by decide +kernel
theorem dX12_chosen_55 : decode cX12_chosen 55 = .ok (.ireturn, 1) := by decide +kernel
theorem dX12_lookedAt_0 : decode cX12_lookedAt 0 = .ok (.iconst 0, 1) := by decide +kernel
theorem dX12_lookedAt_1 : decode cX12_lookedAt 1 = .ok (.istore_n 2, 1) := by decide +kernel
theorem dX12_lookedAt_2 : decode cX12_lookedAt 2 = .ok (.aload_n 0, 1) := by decide +kernel
theorem dX12_lookedAt_3 : decode cX12_lookedAt 3 = .ok (.getfield 19, 3) := by decide +kernel
theorem dX12_lookedAt_6 : decode cX12_lookedAt 6 = .ok (.iload_n 1, 1) := by decide +kernel
theorem dX12_lookedAt_7 : decode cX12_lookedAt 7 = .ok (.iaload, 1) := by decide +kernel
theorem dX12_lookedAt_8 : decode cX12_lookedAt 8 = .ok (.istore_n 3, 1) := by decide +kernel
theorem dX12_lookedAt_9 : decode cX12_lookedAt 9 = .ok (.iload_n 3, 1) := by decide +kernel
theorem dX12_lookedAt_10 : decode cX12_lookedAt 10 = .ok (.iconst (-1), 1) := by decide +kernel
theorem dX12_lookedAt_11 : decode cX12_lookedAt 11 = .ok (.if_icmp .eq 34, 3) := by decide +kernel
theorem dX12_lookedAt_14 : decode cX12_lookedAt 14 = .ok (.iinc 2 1, 3) := by decide +kernel
theorem dX12_lookedAt_17 : decode cX12_lookedAt 17 = .ok (.aload_n 0, 1) := by decide +kernel
theorem dX12_lookedAt_18 : decode cX12_lookedAt 18 = .ok (.getfield 38, 3) := by decide +kernel
theorem dX12_lookedAt_21 : decode cX12_lookedAt 21 = .ok (.aload_n 0, 1) := by decide +kernel
theorem dX12_lookedAt_22 : decode cX12_lookedAt 22 = .ok (.getfield 25, 3) := by decide +kernel
theorem dX12_lookedAt_25 : decode cX12_lookedAt 25 = .ok (.iload_n 3, 1) := by decide +kernel
theorem dX12_lookedAt_26 : decode cX12_lookedAt 26 = .ok (.iaload, 1) := by decide +kernel
theorem dX12_lookedAt_27 : decode cX12_lookedAt 27 = .ok (.laload, 1) := by decide +kernel
theorem dX12_lookedAt_28 : decode cX12_lookedAt 28 = .ok (.lconst 0, 1) := by decide +kernel
theorem dX12_lookedAt_29 : decode cX12_lookedAt 29 = .ok (.lcmp, 1) := by decide +kernel
theorem dX12_lookedAt_30 : decode cX12_lookedAt 30 = .ok (.ifCond .eq 5, 3) := by decide +kernel
theorem dX12_lookedAt_33 : decode cX12_lookedAt 33 = .ok (.iload_n 2, 1) := by decide +kernel
theorem dX12_lookedAt_34 : decode cX12_lookedAt 34 = .ok (.ireturn, 1) := by decide +kernel
theorem dX12_lookedAt_35 : decode cX12_lookedAt 35 = .ok (.aload_n 0, 1) := by decide +kernel
theorem dX12_lookedAt_36 : decode cX12_lookedAt 36 = .ok (.getfield 28, 3) := by decide +kernel
theorem dX12_lookedAt_39 : decode cX12_lookedAt 39 = .ok (.iload_n 3, 1) := by decide +kernel
theorem dX12_lookedAt_40 : decode cX12_lookedAt 40 = .ok (.iaload, 1) := by decide +kernel
theorem dX12_lookedAt_41 : decode cX12_lookedAt 41 = .ok (.istore_n 3, 1) := by decide +kernel
theorem dX12_lookedAt_42 : decode cX12_lookedAt 42 = .ok (.goto (-33), 3) := by decide +kernel
theorem dX12_lookedAt_45 : decode cX12_lookedAt 45 = .ok (.iload_n 2, 1) := by decide +kernel
theorem dX12_lookedAt_46 : decode cX12_lookedAt 46 = .ok (.ireturn, 1) := by decide +kernel
theorem dX12_worthIn_0 : decode cX12_worthIn 0 = .ok (.aload_n 0, 1) := by decide +kernel
theorem dX12_worthIn_1 : decode cX12_worthIn 1 = .ok (.getfield 16, 3) := by decide +kernel
theorem dX12_worthIn_4 : decode cX12_worthIn 4 = .ok (.iload_n 1, 1) := by decide +kernel
theorem dX12_worthIn_5 : decode cX12_worthIn 5 = .ok (.iaload, 1) := by decide +kernel
theorem dX12_worthIn_6 : decode cX12_worthIn 6 = .ok (.istore_n 2, 1) := by decide +kernel
theorem dX12_worthIn_7 : decode cX12_worthIn 7 = .ok (.aload_n 0, 1) := by decide +kernel
theorem dX12_worthIn_8 : decode cX12_worthIn 8 = .ok (.getfield 7, 3) := by decide +kernel
theorem dX12_worthIn_11 : decode cX12_worthIn 11 = .ok (.iload_n 1, 1) := by decide +kernel
theorem dX12_worthIn_12 : decode cX12_worthIn 12 = .ok (.iaload, 1) := by decide +kernel
theorem dX12_worthIn_13 : decode cX12_worthIn 13 = .ok (.ifCond .eq 29, 3) := by decide +kernel
theorem dX12_worthIn_16 : decode cX12_worthIn 16 = .ok (.iload_n 2, 1) := by decide +kernel
theorem dX12_worthIn_17 : decode cX12_worthIn 17 = .ok (.ifCond .ne 33, 3) := by decide +kernel
theorem dX12_worthIn_20 : decode cX12_worthIn 20 = .ok (.aload_n 0, 1) := by decide +kernel
theorem dX12_worthIn_21 : decode cX12_worthIn 21 = .ok (.getfield 7, 3) := by decide +kernel
theorem dX12_worthIn_24 : decode cX12_worthIn 24 = .ok (.iload_n 1, 1) := by decide +kernel
theorem dX12_worthIn_25 : decode cX12_worthIn 25 = .ok (.iaload, 1) := by decide +kernel
theorem dX12_worthIn_26 : decode cX12_worthIn 26 = .ok (.bipush 7, 2) := by decide +kernel
theorem dX12_worthIn_28 : decode cX12_worthIn 28 = .ok (.if_icmp .eq 14, 3) := by decide +kernel
theorem dX12_worthIn_31 : decode cX12_worthIn 31 = .ok (.aload_n 0, 1) := by decide +kernel
theorem dX12_worthIn_32 : decode cX12_worthIn 32 = .ok (.getfield 7, 3) := by decide +kernel
theorem dX12_worthIn_35 : decode cX12_worthIn 35 = .ok (.iload_n 1, 1) := by decide +kernel
theorem dX12_worthIn_36 : decode cX12_worthIn 36 = .ok (.iaload, 1) := by decide +kernel
theorem dX12_worthIn_37 : decode cX12_worthIn 37 = .ok (.bipush 8, 2) := by decide +kernel
theorem dX12_worthIn_39 : decode cX12_worthIn 39 = .ok (.if_icmp .ne 11, 3) := by decide +kernel
theorem dX12_worthIn_42 : decode cX12_worthIn 42 = .ok (.aload_n 0, 1) := by decide +kernel
theorem dX12_worthIn_43 : decode cX12_worthIn 43 = .ok (.getfield 13, 3) := by decide +kernel
theorem dX12_worthIn_46 : decode cX12_worthIn 46 = .ok (.iload_n 1, 1) := by decide +kernel
theorem dX12_worthIn_47 : decode cX12_worthIn 47 = .ok (.iaload, 1) := by decide +kernel
theorem dX12_worthIn_48 : decode cX12_worthIn 48 = .ok (.i2l, 1) := by decide +kernel
theorem dX12_worthIn_49 : decode cX12_worthIn 49 = .ok (.lreturn, 1) := by decide +kernel
theorem dX12_worthIn_50 : decode cX12_worthIn 50 = .ok (.aload_n 0, 1) := by decide +kernel
theorem dX12_worthIn_51 : decode cX12_worthIn 51 = .ok (.getfield 7, 3) := by decide +kernel
theorem dX12_worthIn_54 : decode cX12_worthIn 54 = .ok (.iload_n 1, 1) := by decide +kernel
theorem dX12_worthIn_55 : decode cX12_worthIn 55 = .ok (.iaload, 1) := by decide +kernel
theorem dX12_worthIn_56 : decode cX12_worthIn 56 = .ok (.bipush 7, 2) := by decide +kernel
theorem dX12_worthIn_58 : decode cX12_worthIn 58 = .ok (.if_icmp .ne 33, 3) := by decide +kernel
theorem dX12_worthIn_61 : decode cX12_worthIn 61 = .ok (.aload_n 0, 1) := by decide +kernel
theorem dX12_worthIn_62 : decode cX12_worthIn 62 = .ok (.getfield 38, 3) := by decide +kernel
theorem dX12_worthIn_65 : decode cX12_worthIn 65 = .ok (.iload_n 2, 1) := by decide +kernel
theorem dX12_worthIn_66 : decode cX12_worthIn 66 = .ok (.iconst 1, 1) := by decide +kernel
theorem dX12_worthIn_67 : decode cX12_worthIn 67 = .ok (.if_icmp .ne 12, 3) := by decide +kernel
theorem dX12_worthIn_70 : decode cX12_worthIn 70 = .ok (.aload_n 0, 1) := by decide +kernel
theorem dX12_worthIn_71 : decode cX12_worthIn 71 = .ok (.iload_n 1, 1) := by decide +kernel
theorem dX12_worthIn_72 : decode cX12_worthIn 72 = .ok (.iconst 0, 1) := by decide +kernel
theorem dX12_worthIn_73 : decode cX12_worthIn 73 = .ok (.invokevirtual 115, 3) := by decide +kernel
theorem dX12_worthIn_76 : decode cX12_worthIn 76 = .ok (.goto 13, 3) := by decide +kernel
theorem dX12_worthIn_79 : decode cX12_worthIn 79 = .ok (.aload_n 0, 1) := by decide +kernel
theorem dX12_worthIn_80 : decode cX12_worthIn 80 = .ok (.iload_n 1, 1) := by decide +kernel
theorem dX12_worthIn_81 : decode cX12_worthIn 81 = .ok (.aload_n 0, 1) := by decide +kernel
theorem dX12_worthIn_82 : decode cX12_worthIn 82 = .ok (.iload_n 1, 1) := by decide +kernel
theorem dX12_worthIn_83 : decode cX12_worthIn 83 = .ok (.invokevirtual 122, 3) := by decide +kernel
theorem dX12_worthIn_86 : decode cX12_worthIn 86 = .ok (.invokevirtual 115, 3) := by decide +kernel
theorem dX12_worthIn_89 : decode cX12_worthIn 89 = .ok (.laload, 1) := by decide +kernel
theorem dX12_worthIn_90 : decode cX12_worthIn 90 = .ok (.lreturn, 1) := by decide +kernel
theorem dX12_worthIn_91 : decode cX12_worthIn 91 = .ok (.aload_n 0, 1) := by decide +kernel
theorem dX12_worthIn_92 : decode cX12_worthIn 92 = .ok (.getfield 7, 3) := by decide +kernel
theorem dX12_worthIn_95 : decode cX12_worthIn 95 = .ok (.iload_n 1, 1) := by decide +kernel
theorem dX12_worthIn_96 : decode cX12_worthIn 96 = .ok (.iaload, 1) := by decide +kernel
theorem dX12_worthIn_97 : decode cX12_worthIn 97 = .ok (.bipush 8, 2) := by decide +kernel
theorem dX12_worthIn_99 : decode cX12_worthIn 99 = .ok (.if_icmp .ne 39, 3) := by decide +kernel
theorem dX12_worthIn_102 : decode cX12_worthIn 102 = .ok (.aload_n 0, 1) := by decide +kernel
theorem dX12_worthIn_103 : decode cX12_worthIn 103 = .ok (.getfield 38, 3) := by decide +kernel
theorem dX12_worthIn_106 : decode cX12_worthIn 106 = .ok (.aload_n 0, 1) := by decide +kernel
theorem dX12_worthIn_107 : decode cX12_worthIn 107 = .ok (.iload_n 1, 1) := by decide +kernel
theorem dX12_worthIn_108 : decode cX12_worthIn 108 = .ok (.aload_n 0, 1) := by decide +kernel
theorem dX12_worthIn_109 : decode cX12_worthIn 109 = .ok (.iload_n 1, 1) := by decide +kernel
theorem dX12_worthIn_110 : decode cX12_worthIn 110 = .ok (.invokevirtual 126, 3) := by decide +kernel
theorem dX12_worthIn_113 : decode cX12_worthIn 113 = .ok (.iconst 1, 1) := by decide +kernel
theorem dX12_worthIn_114 : decode cX12_worthIn 114 = .ok (.isub, 1) := by decide +kernel
theorem dX12_worthIn_115 : decode cX12_worthIn 115 = .ok (.invokevirtual 115, 3) := by decide +kernel
theorem dX12_worthIn_118 : decode cX12_worthIn 118 = .ok (.laload, 1) := by decide +kernel
theorem dX12_worthIn_119 : decode cX12_worthIn 119 = .ok (.lstore_n 3, 1) := by decide +kernel
theorem dX12_worthIn_120 : decode cX12_worthIn 120 = .ok (.lload_n 3, 1) := by decide +kernel
theorem dX12_worthIn_121 : decode cX12_worthIn 121 = .ok (.lconst 0, 1) := by decide +kernel
theorem dX12_worthIn_122 : decode cX12_worthIn 122 = .ok (.lcmp, 1) := by decide +kernel
theorem dX12_worthIn_123 : decode cX12_worthIn 123 = .ok (.ifCond .eq 7, 3) := by decide +kernel
theorem dX12_worthIn_126 : decode cX12_worthIn 126 = .ok (.lload_n 3, 1) := by decide +kernel
theorem dX12_worthIn_127 : decode cX12_worthIn 127 = .ok (.goto 10, 3) := by decide +kernel
theorem dX12_worthIn_130 : decode cX12_worthIn 130 = .ok (.aload_n 0, 1) := by decide +kernel
theorem dX12_worthIn_131 : decode cX12_worthIn 131 = .ok (.getfield 13, 3) := by decide +kernel
theorem dX12_worthIn_134 : decode cX12_worthIn 134 = .ok (.iload_n 1, 1) := by decide +kernel
theorem dX12_worthIn_135 : decode cX12_worthIn 135 = .ok (.iaload, 1) := by decide +kernel
theorem dX12_worthIn_136 : decode cX12_worthIn 136 = .ok (.i2l, 1) := by decide +kernel
theorem dX12_worthIn_137 : decode cX12_worthIn 137 = .ok (.lreturn, 1) := by decide +kernel
theorem dX12_worthIn_138 : decode cX12_worthIn 138 = .ok (.aload_n 0, 1) := by decide +kernel
theorem dX12_worthIn_139 : decode cX12_worthIn 139 = .ok (.iload_n 1, 1) := by decide +kernel
theorem dX12_worthIn_140 : decode cX12_worthIn 140 = .ok (.invokevirtual 129, 3) := by decide +kernel
theorem dX12_worthIn_143 : decode cX12_worthIn 143 = .ok (.lreturn, 1) := by decide +kernel
theorem dX12_markIn_0 : decode cX12_markIn 0 = .ok (.ldc2_w 133, 3) := by decide +kernel
theorem dX12_markIn_3 : decode cX12_markIn 3 = .ok (.lstore_n 2, 1) := by decide +kernel
theorem dX12_markIn_4 : decode cX12_markIn 4 = .ok (.lload_n 2, 1) := by decide +kernel
theorem dX12_markIn_5 : decode cX12_markIn 5 = .ok (.ldc2_w 135, 3) := by decide +kernel
theorem dX12_markIn_8 : decode cX12_markIn 8 = .ok (.lmul, 1) := by decide +kernel
theorem dX12_markIn_9 : decode cX12_markIn 9 = .ok (.aload_n 0, 1) := by decide +kernel
theorem dX12_markIn_10 : decode cX12_markIn 10 = .ok (.getfield 7, 3) := by decide +kernel
theorem dX12_markIn_13 : decode cX12_markIn 13 = .ok (.iload_n 1, 1) := by decide +kernel
theorem dX12_markIn_14 : decode cX12_markIn 14 = .ok (.iaload, 1) := by decide +kernel
theorem dX12_markIn_15 : decode cX12_markIn 15 = .ok (.i2l, 1) := by decide +kernel
theorem dX12_markIn_16 : decode cX12_markIn 16 = .ok (.ladd, 1) := by decide +kernel
theorem dX12_markIn_17 : decode cX12_markIn 17 = .ok (.lstore_n 2, 1) := by decide +kernel
theorem dX12_markIn_18 : decode cX12_markIn 18 = .ok (.lload_n 2, 1) := by decide +kernel
theorem dX12_markIn_19 : decode cX12_markIn 19 = .ok (.ldc2_w 135, 3) := by decide +kernel
theorem dX12_markIn_22 : decode cX12_markIn 22 = .ok (.lmul, 1) := by decide +kernel
theorem dX12_markIn_23 : decode cX12_markIn 23 = .ok (.aload_n 0, 1) := by decide +kernel
theorem dX12_markIn_24 : decode cX12_markIn 24 = .ok (.getfield 13, 3) := by decide +kernel
theorem dX12_markIn_27 : decode cX12_markIn 27 = .ok (.iload_n 1, 1) := by decide +kernel
theorem dX12_markIn_28 : decode cX12_markIn 28 = .ok (.iaload, 1) := by decide +kernel
theorem dX12_markIn_29 : decode cX12_markIn 29 = .ok (.i2l, 1) := by decide +kernel
theorem dX12_markIn_30 : decode cX12_markIn 30 = .ok (.ladd, 1) := by decide +kernel
theorem dX12_markIn_31 : decode cX12_markIn 31 = .ok (.lstore_n 2, 1) := by decide +kernel
theorem dX12_markIn_32 : decode cX12_markIn 32 = .ok (.aload_n 0, 1) := by decide +kernel
theorem dX12_markIn_33 : decode cX12_markIn 33 = .ok (.getfield 19, 3) := by decide +kernel
theorem dX12_markIn_36 : decode cX12_markIn 36 = .ok (.iload_n 1, 1) := by decide +kernel
theorem dX12_markIn_37 : decode cX12_markIn 37 = .ok (.iaload, 1) := by decide +kernel
theorem dX12_markIn_38 : decode cX12_markIn 38 = .ok (.istore 4, 2) := by decide +kernel
theorem dX12_markIn_40 : decode cX12_markIn 40 = .ok (.iload 4, 2) := by decide +kernel
theorem dX12_markIn_42 : decode cX12_markIn 42 = .ok (.iconst (-1), 1) := by decide +kernel
theorem dX12_markIn_43 : decode cX12_markIn 43 = .ok (.if_icmp .eq 34, 3) := by decide +kernel
theorem dX12_markIn_46 : decode cX12_markIn 46 = .ok (.lload_n 2, 1) := by decide +kernel
theorem dX12_markIn_47 : decode cX12_markIn 47 = .ok (.ldc2_w 137, 3) := by decide +kernel
theorem dX12_markIn_50 : decode cX12_markIn 50 = .ok (.lmul, 1) := by decide +kernel
theorem dX12_markIn_51 : decode cX12_markIn 51 = .ok (.aload_n 0, 1) := by decide +kernel
theorem dX12_markIn_52 : decode cX12_markIn 52 = .ok (.getfield 42, 3) := by decide +kernel
theorem dX12_markIn_55 : decode cX12_markIn 55 = .ok (.aload_n 0, 1) := by decide +kernel
theorem dX12_markIn_56 : decode cX12_markIn 56 = .ok (.getfield 25, 3) := by decide +kernel
theorem dX12_markIn_59 : decode cX12_markIn 59 = .ok (.iload 4, 2) := by decide +kernel
theorem dX12_markIn_61 : decode cX12_markIn 61 = .ok (.iaload, 1) := by decide +kernel
theorem dX12_markIn_62 : decode cX12_markIn 62 = .ok (.laload, 1) := by decide +kernel
theorem dX12_markIn_63 : decode cX12_markIn 63 = .ok (.lxor, 1) := by decide +kernel
theorem dX12_markIn_64 : decode cX12_markIn 64 = .ok (.lstore_n 2, 1) := by decide +kernel
theorem dX12_markIn_65 : decode cX12_markIn 65 = .ok (.aload_n 0, 1) := by decide +kernel
theorem dX12_markIn_66 : decode cX12_markIn 66 = .ok (.getfield 28, 3) := by decide +kernel
theorem dX12_markIn_69 : decode cX12_markIn 69 = .ok (.iload 4, 2) := by decide +kernel
theorem dX12_markIn_71 : decode cX12_markIn 71 = .ok (.iaload, 1) := by decide +kernel
theorem dX12_markIn_72 : decode cX12_markIn 72 = .ok (.istore 4, 2) := by decide +kernel
theorem dX12_markIn_74 : decode cX12_markIn 74 = .ok (.goto (-34), 3) := by decide +kernel
theorem dX12_markIn_77 : decode cX12_markIn 77 = .ok (.lload_n 2, 1) := by decide +kernel
theorem dX12_markIn_78 : decode cX12_markIn 78 = .ok (.lload_n 2, 1) := by decide +kernel
theorem dX12_markIn_79 : decode cX12_markIn 79 = .ok (.bipush 29, 2) := by decide +kernel
theorem dX12_markIn_81 : decode cX12_markIn 81 = .ok (.lushr, 1) := by decide +kernel
theorem dX12_markIn_82 : decode cX12_markIn 82 = .ok (.lxor, 1) := by decide +kernel
theorem dX12_markIn_83 : decode cX12_markIn 83 = .ok (.lreturn, 1) := by decide +kernel
theorem dX12_workOut_0 : decode cX12_workOut 0 = .ok (.iconst 0, 1) := by decide +kernel
theorem dX12_workOut_1 : decode cX12_workOut 1 = .ok (.istore_n 2, 1) := by decide +kernel
theorem dX12_workOut_2 : decode cX12_workOut 2 = .ok (.iload_n 2, 1) := by decide +kernel
theorem dX12_workOut_3 : decode cX12_workOut 3 = .ok (.iload_n 1, 1) := by decide +kernel
theorem dX12_workOut_4 : decode cX12_workOut 4 = .ok (.if_icmp .gt 31, 3) := by decide +kernel
theorem dX12_workOut_7 : decode cX12_workOut 7 = .ok (.aload_n 0, 1) := by decide +kernel
theorem dX12_workOut_8 : decode cX12_workOut 8 = .ok (.getfield 38, 3) := by decide +kernel
theorem dX12_workOut_11 : decode cX12_workOut 11 = .ok (.iload_n 2, 1) := by decide +kernel
theorem dX12_workOut_12 : decode cX12_workOut 12 = .ok (.aload_n 0, 1) := by decide +kernel
theorem dX12_workOut_13 : decode cX12_workOut 13 = .ok (.iload_n 2, 1) := by decide +kernel
theorem dX12_workOut_14 : decode cX12_workOut 14 = .ok (.invokevirtual 139, 3) := by decide +kernel
theorem dX12_workOut_17 : decode cX12_workOut 17 = .ok (.lastore, 1) := by decide +kernel
theorem dX12_workOut_18 : decode cX12_workOut 18 = .ok (.aload_n 0, 1) := by decide +kernel
theorem dX12_workOut_19 : decode cX12_workOut 19 = .ok (.getfield 42, 3) := by decide +kernel
theorem dX12_workOut_22 : decode cX12_workOut 22 = .ok (.iload_n 2, 1) := by decide +kernel
theorem dX12_workOut_23 : decode cX12_workOut 23 = .ok (.aload_n 0, 1) := by decide +kernel
theorem dX12_workOut_24 : decode cX12_workOut 24 = .ok (.iload_n 2, 1) := by decide +kernel
theorem dX12_workOut_25 : decode cX12_workOut 25 = .ok (.invokevirtual 142, 3) := by decide +kernel
theorem dX12_workOut_28 : decode cX12_workOut 28 = .ok (.lastore, 1) := by decide +kernel
theorem dX12_workOut_29 : decode cX12_workOut 29 = .ok (.iinc 2 1, 3) := by decide +kernel
theorem dX12_workOut_32 : decode cX12_workOut 32 = .ok (.goto (-30), 3) := by decide +kernel
theorem dX12_workOut_35 : decode cX12_workOut 35 = .ok (.return_, 1) := by decide +kernel
theorem dX12_begin_0 : decode cX12_begin 0 = .ok (.aload_n 0, 1) := by decide +kernel
theorem dX12_begin_1 : decode cX12_begin 1 = .ok (.iconst 0, 1) := by decide +kernel
theorem dX12_begin_2 : decode cX12_begin 2 = .ok (.putfield 145, 3) := by decide +kernel
theorem dX12_begin_5 : decode cX12_begin 5 = .ok (.aload_n 0, 1) := by decide +kernel
theorem dX12_begin_6 : decode cX12_begin 6 = .ok (.iconst 0, 1) := by decide +kernel
theorem dX12_begin_7 : decode cX12_begin 7 = .ok (.putfield 148, 3) := by decide +kernel
theorem dX12_begin_10 : decode cX12_begin 10 = .ok (.aload_n 0, 1) := by decide +kernel
theorem dX12_begin_11 : decode cX12_begin 11 = .ok (.iconst 0, 1) := by decide +kernel
theorem dX12_begin_12 : decode cX12_begin 12 = .ok (.putfield 151, 3) := by decide +kernel
theorem dX12_begin_15 : decode cX12_begin 15 = .ok (.aload_n 0, 1) := by decide +kernel
theorem dX12_begin_16 : decode cX12_begin 16 = .ok (.iconst 0, 1) := by decide +kernel
theorem dX12_begin_17 : decode cX12_begin 17 = .ok (.putfield 154, 3) := by decide +kernel
theorem dX12_begin_20 : decode cX12_begin 20 = .ok (.return_, 1) := by decide +kernel
theorem dX12_visit_0 : decode cX12_visit 0 = .ok (.aload_n 0, 1) := by decide +kernel
theorem dX12_visit_1 : decode cX12_visit 1 = .ok (.getfield 148, 3) := by decide +kernel
theorem dX12_visit_4 : decode cX12_visit 4 = .ok (.sipush 20000, 3) := by decide +kernel
theorem dX12_visit_7 : decode cX12_visit 7 = .ok (.if_icmp .ne 11, 3) := by decide +kernel
theorem dX12_visit_10 : decode cX12_visit 10 = .ok (.aload_n 0, 1) := by decide +kernel
theorem dX12_visit_11 : decode cX12_visit 11 = .ok (.bipush (-5), 2) := by decide +kernel
theorem dX12_visit_13 : decode cX12_visit 13 = .ok (.putfield 154, 3) := by decide +kernel
theorem dX12_visit_16 : decode cX12_visit 16 = .ok (.iconst 0, 1) := by decide +kernel
theorem dX12_visit_17 : decode cX12_visit 17 = .ok (.ireturn, 1) := by decide +kernel
theorem dX12_visit_18 : decode cX12_visit 18 = .ok (.aload_n 0, 1) := by decide +kernel
theorem dX12_visit_19 : decode cX12_visit 19 = .ok (.getfield 111, 3) := by decide +kernel
theorem dX12_visit_22 : decode cX12_visit 22 = .ok (.ifCond .ne 24, 3) := by decide +kernel
theorem dX12_visit_25 : decode cX12_visit 25 = .ok (.aload_n 0, 1) := by decide +kernel
theorem dX12_visit_26 : decode cX12_visit 26 = .ok (.getfield 145, 3) := by decide +kernel
theorem dX12_visit_29 : decode cX12_visit 29 = .ok (.iconst 1, 1) := by decide +kernel
theorem dX12_visit_30 : decode cX12_visit 30 = .ok (.iadd, 1) := by decide +kernel
theorem dX12_visit_31 : decode cX12_visit 31 = .ok (.aload_n 0, 1) := by decide +kernel
theorem dX12_visit_32 : decode cX12_visit 32 = .ok (.getfield 31, 3) := by decide +kernel
theorem dX12_visit_35 : decode cX12_visit 35 = .ok (.if_icmp .le 11, 3) := by decide +kernel
theorem dX12_visit_38 : decode cX12_visit 38 = .ok (.aload_n 0, 1) := by decide +kernel
theorem dX12_visit_39 : decode cX12_visit 39 = .ok (.bipush (-6), 2) := by decide +kernel
theorem dX12_visit_41 : decode cX12_visit 41 = .ok (.putfield 154, 3) := by decide +kernel
theorem dX12_visit_44 : decode cX12_visit 44 = .ok (.iconst 0, 1) := by decide +kernel
theorem dX12_visit_45 : decode cX12_visit 45 = .ok (.ireturn, 1) := by decide +kernel
theorem dX12_visit_46 : decode cX12_visit 46 = .ok (.aload_n 0, 1) := by decide +kernel
theorem dX12_visit_47 : decode cX12_visit 47 = .ok (.getfield 45, 3) := by decide +kernel
theorem dX12_visit_50 : decode cX12_visit 50 = .ok (.aload_n 0, 1) := by decide +kernel
theorem dX12_visit_51 : decode cX12_visit 51 = .ok (.getfield 145, 3) := by decide +kernel
theorem dX12_visit_54 : decode cX12_visit 54 = .ok (.iload_n 1, 1) := by decide +kernel
theorem dX12_visit_55 : decode cX12_visit 55 = .ok (.iastore, 1) := by decide +kernel
theorem dX12_visit_56 : decode cX12_visit 56 = .ok (.aload_n 0, 1) := by decide +kernel
theorem dX12_visit_57 : decode cX12_visit 57 = .ok (.getfield 48, 3) := by decide +kernel
theorem dX12_visit_60 : decode cX12_visit 60 = .ok (.aload_n 0, 1) := by decide +kernel
theorem dX12_visit_61 : decode cX12_visit 61 = .ok (.getfield 145, 3) := by decide +kernel
theorem dX12_visit_64 : decode cX12_visit 64 = .ok (.iload_n 2, 1) := by decide +kernel
theorem dX12_visit_65 : decode cX12_visit 65 = .ok (.iastore, 1) := by decide +kernel
theorem dX12_visit_66 : decode cX12_visit 66 = .ok (.aload_n 0, 1) := by decide +kernel
theorem dX12_visit_67 : decode cX12_visit 67 = .ok (.getfield 51, 3) := by decide +kernel
theorem dX12_visit_70 : decode cX12_visit 70 = .ok (.aload_n 0, 1) := by decide +kernel
theorem dX12_visit_71 : decode cX12_visit 71 = .ok (.getfield 145, 3) := by decide +kernel
theorem dX12_visit_74 : decode cX12_visit 74 = .ok (.iconst 0, 1) := by decide +kernel
theorem dX12_visit_75 : decode cX12_visit 75 = .ok (.iastore, 1) := by decide +kernel
theorem dX12_visit_76 : decode cX12_visit 76 = .ok (.aload_n 0, 1) := by decide +kernel
theorem dX12_visit_77 : decode cX12_visit 77 = .ok (.dup, 1) := by decide +kernel
theorem dX12_visit_78 : decode cX12_visit 78 = .ok (.getfield 145, 3) := by decide +kernel
theorem dX12_visit_81 : decode cX12_visit 81 = .ok (.iconst 1, 1) := by decide +kernel
theorem dX12_visit_82 : decode cX12_visit 82 = .ok (.iadd, 1) := by decide +kernel
theorem dX12_visit_83 : decode cX12_visit 83 = .ok (.putfield 145, 3) := by decide +kernel
theorem dX12_visit_86 : decode cX12_visit 86 = .ok (.aload_n 0, 1) := by decide +kernel
theorem dX12_visit_87 : decode cX12_visit 87 = .ok (.getfield 54, 3) := by decide +kernel
theorem dX12_visit_90 : decode cX12_visit 90 = .ok (.aload_n 0, 1) := by decide +kernel
theorem dX12_visit_91 : decode cX12_visit 91 = .ok (.getfield 148, 3) := by decide +kernel
theorem dX12_visit_94 : decode cX12_visit 94 = .ok (.iload_n 1, 1) := by decide +kernel
theorem dX12_visit_95 : decode cX12_visit 95 = .ok (.iastore, 1) := by decide +kernel
theorem dX12_visit_96 : decode cX12_visit 96 = .ok (.aload_n 0, 1) := by decide +kernel
theorem dX12_visit_97 : decode cX12_visit 97 = .ok (.getfield 57, 3) := by decide +kernel
theorem dX12_visit_100 : decode cX12_visit 100 = .ok (.aload_n 0, 1) := by decide +kernel
theorem dX12_visit_101 : decode cX12_visit 101 = .ok (.getfield 148, 3) := by decide +kernel
theorem dX12_visit_104 : decode cX12_visit 104 = .ok (.aload_n 0, 1) := by decide +kernel
theorem dX12_visit_105 : decode cX12_visit 105 = .ok (.getfield 145, 3) := by decide +kernel
theorem dX12_visit_108 : decode cX12_visit 108 = .ok (.iastore, 1) := by decide +kernel
theorem dX12_visit_109 : decode cX12_visit 109 = .ok (.aload_n 0, 1) := by decide +kernel
theorem dX12_visit_110 : decode cX12_visit 110 = .ok (.dup, 1) := by decide +kernel
theorem dX12_visit_111 : decode cX12_visit 111 = .ok (.getfield 148, 3) := by decide +kernel
theorem dX12_visit_114 : decode cX12_visit 114 = .ok (.iconst 1, 1) := by decide +kernel
theorem dX12_visit_115 : decode cX12_visit 115 = .ok (.iadd, 1) := by decide +kernel
theorem dX12_visit_116 : decode cX12_visit 116 = .ok (.putfield 148, 3) := by decide +kernel
theorem dX12_visit_119 : decode cX12_visit 119 = .ok (.aload_n 0, 1) := by decide +kernel
theorem dX12_visit_120 : decode cX12_visit 120 = .ok (.aload_n 0, 1) := by decide +kernel
theorem dX12_visit_121 : decode cX12_visit 121 = .ok (.getfield 145, 3) := by decide +kernel
theorem dX12_visit_124 : decode cX12_visit 124 = .ok (.aload_n 0, 1) := by decide +kernel
theorem dX12_visit_125 : decode cX12_visit 125 = .ok (.getfield 151, 3) := by decide +kernel
theorem dX12_visit_128 : decode cX12_visit 128 = .ok (.if_icmp .le 10, 3) := by decide +kernel
theorem dX12_visit_131 : decode cX12_visit 131 = .ok (.aload_n 0, 1) := by decide +kernel
theorem dX12_visit_132 : decode cX12_visit 132 = .ok (.getfield 145, 3) := by decide +kernel
theorem dX12_visit_135 : decode cX12_visit 135 = .ok (.goto 7, 3) := by decide +kernel
theorem dX12_visit_138 : decode cX12_visit 138 = .ok (.aload_n 0, 1) := by decide +kernel
theorem dX12_visit_139 : decode cX12_visit 139 = .ok (.getfield 151, 3) := by decide +kernel
theorem dX12_visit_142 : decode cX12_visit 142 = .ok (.putfield 151, 3) := by decide +kernel
theorem dX12_visit_145 : decode cX12_visit 145 = .ok (.iconst 1, 1) := by decide +kernel
theorem dX12_visit_146 : decode cX12_visit 146 = .ok (.ireturn, 1) := by decide +kernel
theorem dX12_ended_0 : decode cX12_ended 0 = .ok (.aload_n 0, 1) := by decide +kernel
theorem dX12_ended_1 : decode cX12_ended 1 = .ok (.aload_n 0, 1) := by decide +kernel
theorem dX12_ended_2 : decode cX12_ended 2 = .ok (.getfield 148, 3) := by decide +kernel
theorem dX12_ended_5 : decode cX12_ended 5 = .ok (.putfield 157, 3) := by decide +kernel
theorem dX12_ended_8 : decode cX12_ended 8 = .ok (.aload_n 0, 1) := by decide +kernel
theorem dX12_ended_9 : decode cX12_ended 9 = .ok (.aload_n 0, 1) := by decide +kernel
theorem dX12_ended_10 : decode cX12_ended 10 = .ok (.getfield 111, 3) := by decide +kernel
theorem dX12_ended_13 : decode cX12_ended 13 = .ok (.ifCond .ne 10, 3) := by decide +kernel
theorem dX12_ended_16 : decode cX12_ended 16 = .ok (.aload_n 0, 1) := by decide +kernel
theorem dX12_ended_17 : decode cX12_ended 17 = .ok (.getfield 151, 3) := by decide +kernel
theorem dX12_ended_20 : decode cX12_ended 20 = .ok (.goto 37, 3) := by decide +kernel
theorem dX12_ended_23 : decode cX12_ended 23 = .ok (.aload_n 0, 1) := by decide +kernel
theorem dX12_ended_24 : decode cX12_ended 24 = .ok (.getfield 111, 3) := by decide +kernel
theorem dX12_ended_27 : decode cX12_ended 27 = .ok (.iconst 3, 1) := by decide +kernel
theorem dX12_ended_28 : decode cX12_ended 28 = .ok (.if_icmp .ne 28, 3) := by decide +kernel
theorem dX12_ended_31 : decode cX12_ended 31 = .ok (.aload_n 0, 1) := by decide +kernel
theorem dX12_ended_32 : decode cX12_ended 32 = .ok (.getfield 151, 3) := by decide +kernel
theorem dX12_ended_35 : decode cX12_ended 35 = .ok (.aload_n 0, 1) := by decide +kernel
theorem dX12_ended_36 : decode cX12_ended 36 = .ok (.getfield 31, 3) := by decide +kernel
theorem dX12_ended_39 : decode cX12_ended 39 = .ok (.if_icmp .ge 10, 3) := by decide +kernel
theorem dX12_ended_42 : decode cX12_ended 42 = .ok (.aload_n 0, 1) := by decide +kernel
theorem dX12_ended_43 : decode cX12_ended 43 = .ok (.getfield 151, 3) := by decide +kernel
theorem dX12_ended_46 : decode cX12_ended 46 = .ok (.goto 11, 3) := by decide +kernel
theorem dX12_ended_49 : decode cX12_ended 49 = .ok (.aload_n 0, 1) := by decide +kernel
theorem dX12_ended_50 : decode cX12_ended 50 = .ok (.getfield 31, 3) := by decide +kernel
theorem dX12_ended_53 : decode cX12_ended 53 = .ok (.goto 4, 3) := by decide +kernel
theorem dX12_ended_56 : decode cX12_ended 56 = .ok (.iconst 0, 1) := by decide +kernel
theorem dX12_ended_57 : decode cX12_ended 57 = .ok (.putfield 160, 3) := by decide +kernel
theorem dX12_ended_60 : decode cX12_ended 60 = .ok (.aload_n 0, 1) := by decide +kernel
theorem dX12_ended_61 : decode cX12_ended 61 = .ok (.getfield 154, 3) := by decide +kernel
theorem dX12_ended_64 : decode cX12_ended 64 = .ok (.ireturn, 1) := by decide +kernel
theorem dX12_bad_0 : decode cX12_bad 0 = .ok (.aload_n 0, 1) := by decide +kernel
theorem dX12_bad_1 : decode cX12_bad 1 = .ok (.bipush (-2), 2) := by decide +kernel
theorem dX12_bad_3 : decode cX12_bad 3 = .ok (.putfield 154, 3) := by decide +kernel
theorem dX12_bad_6 : decode cX12_bad 6 = .ok (.bipush (-2), 2) := by decide +kernel
theorem dX12_bad_8 : decode cX12_bad 8 = .ok (.ireturn, 1) := by decide +kernel
theorem dX12_nextFrom_0 : decode cX12_nextFrom 0 = .ok (.aload_n 0, 1) := by decide +kernel
theorem dX12_nextFrom_1 : decode cX12_nextFrom 1 = .ok (.getfield 45, 3) := by decide +kernel
theorem dX12_nextFrom_4 : decode cX12_nextFrom 4 = .ok (.aload_n 0, 1) := by decide +kernel
theorem dX12_nextFrom_5 : decode cX12_nextFrom 5 = .ok (.getfield 145, 3) := by decide +kernel
theorem dX12_nextFrom_8 : decode cX12_nextFrom 8 = .ok (.iconst 1, 1) := by decide +kernel
theorem dX12_nextFrom_9 : decode cX12_nextFrom 9 = .ok (.isub, 1) := by decide +kernel
theorem dX12_nextFrom_10 : decode cX12_nextFrom 10 = .ok (.iaload, 1) := by decide +kernel
theorem dX12_nextFrom_11 : decode cX12_nextFrom 11 = .ok (.istore_n 2, 1) := by decide +kernel
theorem dX12_nextFrom_12 : decode cX12_nextFrom 12 = .ok (.aload_n 0, 1) := by decide +kernel
theorem dX12_nextFrom_13 : decode cX12_nextFrom 13 = .ok (.getfield 51, 3) := by decide +kernel
theorem dX12_nextFrom_16 : decode cX12_nextFrom 16 = .ok (.aload_n 0, 1) := by decide +kernel
theorem dX12_nextFrom_17 : decode cX12_nextFrom 17 = .ok (.getfield 145, 3) := by decide +kernel
theorem dX12_nextFrom_20 : decode cX12_nextFrom 20 = .ok (.iconst 1, 1) := by decide +kernel
theorem dX12_nextFrom_21 : decode cX12_nextFrom 21 = .ok (.isub, 1) := by decide +kernel
theorem dX12_nextFrom_22 : decode cX12_nextFrom 22 = .ok (.iaload, 1) := by decide +kernel
theorem dX12_nextFrom_23 : decode cX12_nextFrom 23 = .ok (.istore_n 3, 1) := by decide +kernel
theorem dX12_nextFrom_24 : decode cX12_nextFrom 24 = .ok (.aload_n 0, 1) := by decide +kernel
theorem dX12_nextFrom_25 : decode cX12_nextFrom 25 = .ok (.getfield 16, 3) := by decide +kernel
theorem dX12_nextFrom_28 : decode cX12_nextFrom 28 = .ok (.iload_n 2, 1) := by decide +kernel
theorem dX12_nextFrom_29 : decode cX12_nextFrom 29 = .ok (.iaload, 1) := by decide +kernel
theorem dX12_nextFrom_30 : decode cX12_nextFrom 30 = .ok (.istore 4, 2) := by decide +kernel
theorem dX12_nextFrom_32 : decode cX12_nextFrom 32 = .ok (.iload_n 1, 1) := by decide +kernel
theorem dX12_nextFrom_33 : decode cX12_nextFrom 33 = .ok (.ifCond .eq 18, 3) := by decide +kernel
theorem dX12_nextFrom_36 : decode cX12_nextFrom 36 = .ok (.aload_n 0, 1) := by decide +kernel
theorem dX12_nextFrom_37 : decode cX12_nextFrom 37 = .ok (.getfield 7, 3) := by decide +kernel
theorem dX12_nextFrom_40 : decode cX12_nextFrom 40 = .ok (.iload_n 2, 1) := by decide +kernel
theorem dX12_nextFrom_41 : decode cX12_nextFrom 41 = .ok (.iaload, 1) := by decide +kernel
theorem dX12_nextFrom_42 : decode cX12_nextFrom 42 = .ok (.ifCond .ne 9, 3) := by decide +kernel
theorem dX12_nextFrom_45 : decode cX12_nextFrom 45 = .ok (.iconst 0, 1) := by decide +kernel
theorem dX12_nextFrom_46 : decode cX12_nextFrom 46 = .ok (.istore 4, 2) := by decide +kernel
theorem dX12_nextFrom_48 : decode cX12_nextFrom 48 = .ok (.goto 52, 3) := by decide +kernel
theorem dX12_nextFrom_51 : decode cX12_nextFrom 51 = .ok (.iload_n 1, 1) := by decide +kernel
theorem dX12_nextFrom_52 : decode cX12_nextFrom 52 = .ok (.ifCond .eq 26, 3) := by decide +kernel
theorem dX12_nextFrom_55 : decode cX12_nextFrom 55 = .ok (.aload_n 0, 1) := by decide +kernel
theorem dX12_nextFrom_56 : decode cX12_nextFrom 56 = .ok (.getfield 7, 3) := by decide +kernel
theorem dX12_nextFrom_59 : decode cX12_nextFrom 59 = .ok (.iload_n 2, 1) := by decide +kernel
theorem dX12_nextFrom_60 : decode cX12_nextFrom 60 = .ok (.iaload, 1) := by decide +kernel
theorem dX12_nextFrom_61 : decode cX12_nextFrom 61 = .ok (.bipush 7, 2) := by decide +kernel
theorem dX12_nextFrom_63 : decode cX12_nextFrom 63 = .ok (.if_icmp .ne 15, 3) := by decide +kernel
theorem dX12_nextFrom_66 : decode cX12_nextFrom 66 = .ok (.iload 4, 2) := by decide +kernel
theorem dX12_nextFrom_68 : decode cX12_nextFrom 68 = .ok (.iconst 1, 1) := by decide +kernel
theorem dX12_nextFrom_69 : decode cX12_nextFrom 69 = .ok (.if_icmp .le 9, 3) := by decide +kernel
theorem dX12_nextFrom_72 : decode cX12_nextFrom 72 = .ok (.iconst 2, 1) := by decide +kernel
theorem dX12_nextFrom_73 : decode cX12_nextFrom 73 = .ok (.istore 4, 2) := by decide +kernel
theorem dX12_nextFrom_75 : decode cX12_nextFrom 75 = .ok (.goto 25, 3) := by decide +kernel
theorem dX12_nextFrom_78 : decode cX12_nextFrom 78 = .ok (.iload_n 1, 1) := by decide +kernel
theorem dX12_nextFrom_79 : decode cX12_nextFrom 79 = .ok (.ifCond .eq 21, 3) := by decide +kernel
theorem dX12_nextFrom_82 : decode cX12_nextFrom 82 = .ok (.aload_n 0, 1) := by decide +kernel
theorem dX12_nextFrom_83 : decode cX12_nextFrom 83 = .ok (.getfield 7, 3) := by decide +kernel
theorem dX12_nextFrom_86 : decode cX12_nextFrom 86 = .ok (.iload_n 2, 1) := by decide +kernel
theorem dX12_nextFrom_87 : decode cX12_nextFrom 87 = .ok (.iaload, 1) := by decide +kernel
theorem dX12_nextFrom_88 : decode cX12_nextFrom 88 = .ok (.bipush 8, 2) := by decide +kernel
theorem dX12_nextFrom_90 : decode cX12_nextFrom 90 = .ok (.if_icmp .ne 10, 3) := by decide +kernel
theorem dX12_nextFrom_93 : decode cX12_nextFrom 93 = .ok (.aload_n 0, 1) := by decide +kernel
theorem dX12_nextFrom_94 : decode cX12_nextFrom 94 = .ok (.iload_n 2, 1) := by decide +kernel
theorem dX12_nextFrom_95 : decode cX12_nextFrom 95 = .ok (.invokevirtual 126, 3) := by decide +kernel
theorem dX12_nextFrom_98 : decode cX12_nextFrom 98 = .ok (.istore 4, 2) := by decide +kernel
theorem dX12_nextFrom_100 : decode cX12_nextFrom 100 = .ok (.iload_n 3, 1) := by decide +kernel
theorem dX12_nextFrom_101 : decode cX12_nextFrom 101 = .ok (.iload 4, 2) := by decide +kernel
theorem dX12_nextFrom_103 : decode cX12_nextFrom 103 = .ok (.if_icmp .lt 5, 3) := by decide +kernel
theorem dX12_nextFrom_106 : decode cX12_nextFrom 106 = .ok (.iconst (-1), 1) := by decide +kernel
theorem dX12_nextFrom_107 : decode cX12_nextFrom 107 = .ok (.ireturn, 1) := by decide +kernel
theorem dX12_nextFrom_108 : decode cX12_nextFrom 108 = .ok (.aload_n 0, 1) := by decide +kernel
theorem dX12_nextFrom_109 : decode cX12_nextFrom 109 = .ok (.getfield 51, 3) := by decide +kernel
theorem dX12_nextFrom_112 : decode cX12_nextFrom 112 = .ok (.aload_n 0, 1) := by decide +kernel
theorem dX12_nextFrom_113 : decode cX12_nextFrom 113 = .ok (.getfield 145, 3) := by decide +kernel
theorem dX12_nextFrom_116 : decode cX12_nextFrom 116 = .ok (.iconst 1, 1) := by decide +kernel
theorem dX12_nextFrom_117 : decode cX12_nextFrom 117 = .ok (.isub, 1) := by decide +kernel
theorem dX12_nextFrom_118 : decode cX12_nextFrom 118 = .ok (.dup2, 1) := by decide +kernel
theorem dX12_nextFrom_119 : decode cX12_nextFrom 119 = .ok (.iaload, 1) := by decide +kernel
theorem dX12_nextFrom_120 : decode cX12_nextFrom 120 = .ok (.iconst 1, 1) := by decide +kernel
theorem dX12_nextFrom_121 : decode cX12_nextFrom 121 = .ok (.iadd, 1) := by decide +kernel
theorem dX12_nextFrom_122 : decode cX12_nextFrom 122 = .ok (.iastore, 1) := by decide +kernel
theorem dX12_nextFrom_123 : decode cX12_nextFrom 123 = .ok (.aload_n 0, 1) := by decide +kernel
theorem dX12_nextFrom_124 : decode cX12_nextFrom 124 = .ok (.iload_n 2, 1) := by decide +kernel
theorem dX12_nextFrom_125 : decode cX12_nextFrom 125 = .ok (.iload_n 1, 1) := by decide +kernel
theorem dX12_nextFrom_126 : decode cX12_nextFrom 126 = .ok (.ifCond .eq 27, 3) := by decide +kernel
theorem dX12_nextFrom_129 : decode cX12_nextFrom 129 = .ok (.aload_n 0, 1) := by decide +kernel
theorem dX12_nextFrom_130 : decode cX12_nextFrom 130 = .ok (.getfield 7, 3) := by decide +kernel
theorem dX12_nextFrom_133 : decode cX12_nextFrom 133 = .ok (.iload_n 2, 1) := by decide +kernel
theorem dX12_nextFrom_134 : decode cX12_nextFrom 134 = .ok (.iaload, 1) := by decide +kernel
theorem dX12_nextFrom_135 : decode cX12_nextFrom 135 = .ok (.bipush 7, 2) := by decide +kernel
theorem dX12_nextFrom_137 : decode cX12_nextFrom 137 = .ok (.if_icmp .ne 16, 3) := by decide +kernel
theorem dX12_nextFrom_140 : decode cX12_nextFrom 140 = .ok (.iload_n 3, 1) := by decide +kernel
theorem dX12_nextFrom_141 : decode cX12_nextFrom 141 = .ok (.iconst 1, 1) := by decide +kernel
theorem dX12_nextFrom_142 : decode cX12_nextFrom 142 = .ok (.if_icmp .ne 11, 3) := by decide +kernel
theorem dX12_nextFrom_145 : decode cX12_nextFrom 145 = .ok (.aload_n 0, 1) := by decide +kernel
theorem dX12_nextFrom_146 : decode cX12_nextFrom 146 = .ok (.iload_n 2, 1) := by decide +kernel
theorem dX12_nextFrom_147 : decode cX12_nextFrom 147 = .ok (.invokevirtual 122, 3) := by decide +kernel
theorem dX12_nextFrom_150 : decode cX12_nextFrom 150 = .ok (.goto 4, 3) := by decide +kernel
theorem dX12_nextFrom_153 : decode cX12_nextFrom 153 = .ok (.iload_n 3, 1) := by decide +kernel
theorem dX12_nextFrom_154 : decode cX12_nextFrom 154 = .ok (.invokevirtual 115, 3) := by decide +kernel
theorem dX12_nextFrom_157 : decode cX12_nextFrom 157 = .ok (.ireturn, 1) := by decide +kernel
theorem dX12_walk_0 : decode cX12_walk 0 = .ok (.aload_n 0, 1) := by decide +kernel
theorem dX12_walk_1 : decode cX12_walk 1 = .ok (.invokevirtual 163, 3) := by decide +kernel
theorem dX12_walk_4 : decode cX12_walk 4 = .ok (.aload_n 0, 1) := by decide +kernel
theorem dX12_walk_5 : decode cX12_walk 5 = .ok (.iload_n 1, 1) := by decide +kernel
theorem dX12_walk_6 : decode cX12_walk 6 = .ok (.iconst (-1), 1) := by decide +kernel
theorem dX12_walk_7 : decode cX12_walk 7 = .ok (.invokevirtual 166, 3) := by decide +kernel
theorem dX12_walk_10 : decode cX12_walk 10 = .ok (.istore 6, 2) := by decide +kernel
theorem dX12_walk_12 : decode cX12_walk 12 = .ok (.iload 6, 2) := by decide +kernel
theorem dX12_walk_14 : decode cX12_walk 14 = .ok (.ifCond .eq 33, 3) := by decide +kernel
theorem dX12_walk_17 : decode cX12_walk 17 = .ok (.iload_n 3, 1) := by decide +kernel
theorem dX12_walk_18 : decode cX12_walk 18 = .ok (.ifCond .eq 29, 3) := by decide +kernel
theorem dX12_walk_21 : decode cX12_walk 21 = .ok (.aload_n 0, 1) := by decide +kernel
theorem dX12_walk_22 : decode cX12_walk 22 = .ok (.getfield 7, 3) := by decide +kernel
theorem dX12_walk_25 : decode cX12_walk 25 = .ok (.iload_n 1, 1) := by decide +kernel
theorem dX12_walk_26 : decode cX12_walk 26 = .ok (.iaload, 1) := by decide +kernel
theorem dX12_walk_27 : decode cX12_walk 27 = .ok (.iload 4, 2) := by decide +kernel
theorem dX12_walk_29 : decode cX12_walk 29 = .ok (.if_icmp .ne 18, 3) := by decide +kernel
theorem dX12_walk_32 : decode cX12_walk 32 = .ok (.aload_n 0, 1) := by decide +kernel
theorem dX12_walk_33 : decode cX12_walk 33 = .ok (.getfield 13, 3) := by decide +kernel
theorem dX12_walk_36 : decode cX12_walk 36 = .ok (.iload_n 1, 1) := by decide +kernel
theorem dX12_walk_37 : decode cX12_walk 37 = .ok (.iaload, 1) := by decide +kernel
theorem dX12_walk_38 : decode cX12_walk 38 = .ok (.iload 5, 2) := by decide +kernel
theorem dX12_walk_40 : decode cX12_walk 40 = .ok (.if_icmp .ne 7, 3) := by decide +kernel
theorem dX12_walk_43 : decode cX12_walk 43 = .ok (.iconst 1, 1) := by decide +kernel
theorem dX12_walk_44 : decode cX12_walk 44 = .ok (.goto 4, 3) := by decide +kernel
theorem dX12_walk_47 : decode cX12_walk 47 = .ok (.iconst 0, 1) := by decide +kernel
theorem dX12_walk_48 : decode cX12_walk 48 = .ok (.istore 7, 2) := by decide +kernel
theorem dX12_walk_50 : decode cX12_walk 50 = .ok (.iload 6, 2) := by decide +kernel
theorem dX12_walk_52 : decode cX12_walk 52 = .ok (.ifCond .eq 93, 3) := by decide +kernel
theorem dX12_walk_55 : decode cX12_walk 55 = .ok (.aload_n 0, 1) := by decide +kernel
theorem dX12_walk_56 : decode cX12_walk 56 = .ok (.getfield 145, 3) := by decide +kernel
theorem dX12_walk_59 : decode cX12_walk 59 = .ok (.ifCond .le 86, 3) := by decide +kernel
theorem dX12_walk_62 : decode cX12_walk 62 = .ok (.iload 7, 2) := by decide +kernel
theorem dX12_walk_64 : decode cX12_walk 64 = .ok (.ifCond .ne 81, 3) := by decide +kernel
theorem dX12_walk_67 : decode cX12_walk 67 = .ok (.aload_n 0, 1) := by decide +kernel
theorem dX12_walk_68 : decode cX12_walk 68 = .ok (.iload_n 2, 1) := by decide +kernel
theorem dX12_walk_69 : decode cX12_walk 69 = .ok (.invokevirtual 170, 3) := by decide +kernel
theorem dX12_walk_72 : decode cX12_walk 72 = .ok (.istore 8, 2) := by decide +kernel
theorem dX12_walk_74 : decode cX12_walk 74 = .ok (.iload 8, 2) := by decide +kernel
theorem dX12_walk_76 : decode cX12_walk 76 = .ok (.iconst (-1), 1) := by decide +kernel
theorem dX12_walk_77 : decode cX12_walk 77 = .ok (.if_icmp .ne 16, 3) := by decide +kernel
theorem dX12_walk_80 : decode cX12_walk 80 = .ok (.aload_n 0, 1) := by decide +kernel
theorem dX12_walk_81 : decode cX12_walk 81 = .ok (.dup, 1) := by decide +kernel
theorem dX12_walk_82 : decode cX12_walk 82 = .ok (.getfield 145, 3) := by decide +kernel
theorem dX12_walk_85 : decode cX12_walk 85 = .ok (.iconst 1, 1) := by decide +kernel
theorem dX12_walk_86 : decode cX12_walk 86 = .ok (.isub, 1) := by decide +kernel
theorem dX12_walk_87 : decode cX12_walk 87 = .ok (.putfield 145, 3) := by decide +kernel
theorem dX12_walk_90 : decode cX12_walk 90 = .ok (.goto 52, 3) := by decide +kernel
theorem dX12_walk_93 : decode cX12_walk 93 = .ok (.aload_n 0, 1) := by decide +kernel
theorem dX12_walk_94 : decode cX12_walk 94 = .ok (.iload 8, 2) := by decide +kernel
theorem dX12_walk_96 : decode cX12_walk 96 = .ok (.iconst (-1), 1) := by decide +kernel
theorem dX12_walk_97 : decode cX12_walk 97 = .ok (.invokevirtual 166, 3) := by decide +kernel
theorem dX12_walk_100 : decode cX12_walk 100 = .ok (.istore 6, 2) := by decide +kernel
theorem dX12_walk_102 : decode cX12_walk 102 = .ok (.iload 6, 2) := by decide +kernel
theorem dX12_walk_104 : decode cX12_walk 104 = .ok (.ifCond .eq 35, 3) := by decide +kernel
theorem dX12_walk_107 : decode cX12_walk 107 = .ok (.iload_n 3, 1) := by decide +kernel
theorem dX12_walk_108 : decode cX12_walk 108 = .ok (.ifCond .eq 31, 3) := by decide +kernel
theorem dX12_walk_111 : decode cX12_walk 111 = .ok (.aload_n 0, 1) := by decide +kernel
theorem dX12_walk_112 : decode cX12_walk 112 = .ok (.getfield 7, 3) := by decide +kernel
theorem dX12_walk_115 : decode cX12_walk 115 = .ok (.iload 8, 2) := by decide +kernel
theorem dX12_walk_117 : decode cX12_walk 117 = .ok (.iaload, 1) := by decide +kernel
theorem dX12_walk_118 : decode cX12_walk 118 = .ok (.iload 4, 2) := by decide +kernel
theorem dX12_walk_120 : decode cX12_walk 120 = .ok (.if_icmp .ne 19, 3) := by decide +kernel
theorem dX12_walk_123 : decode cX12_walk 123 = .ok (.aload_n 0, 1) := by decide +kernel
theorem dX12_walk_124 : decode cX12_walk 124 = .ok (.getfield 13, 3) := by decide +kernel
theorem dX12_walk_127 : decode cX12_walk 127 = .ok (.iload 8, 2) := by decide +kernel
theorem dX12_walk_129 : decode cX12_walk 129 = .ok (.iaload, 1) := by decide +kernel
theorem dX12_walk_130 : decode cX12_walk 130 = .ok (.iload 5, 2) := by decide +kernel
theorem dX12_walk_132 : decode cX12_walk 132 = .ok (.if_icmp .ne 7, 3) := by decide +kernel
theorem dX12_walk_135 : decode cX12_walk 135 = .ok (.iconst 1, 1) := by decide +kernel
theorem dX12_walk_136 : decode cX12_walk 136 = .ok (.goto 4, 3) := by decide +kernel
theorem dX12_walk_139 : decode cX12_walk 139 = .ok (.iconst 0, 1) := by decide +kernel
theorem dX12_walk_140 : decode cX12_walk 140 = .ok (.istore 7, 2) := by decide +kernel
theorem dX12_walk_142 : decode cX12_walk 142 = .ok (.goto (-92), 3) := by decide +kernel
theorem dX12_walk_145 : decode cX12_walk 145 = .ok (.aload_n 0, 1) := by decide +kernel
theorem dX12_walk_146 : decode cX12_walk 146 = .ok (.invokevirtual 174, 3) := by decide +kernel
theorem dX12_walk_149 : decode cX12_walk 149 = .ok (.pop, 1) := by decide +kernel
theorem dX12_walk_150 : decode cX12_walk 150 = .ok (.aload_n 0, 1) := by decide +kernel
theorem dX12_walk_151 : decode cX12_walk 151 = .ok (.getfield 154, 3) := by decide +kernel
theorem dX12_walk_154 : decode cX12_walk 154 = .ok (.ifCond .eq 10, 3) := by decide +kernel
theorem dX12_walk_157 : decode cX12_walk 157 = .ok (.aload_n 0, 1) := by decide +kernel
theorem dX12_walk_158 : decode cX12_walk 158 = .ok (.getfield 154, 3) := by decide +kernel
theorem dX12_walk_161 : decode cX12_walk 161 = .ok (.goto 18, 3) := by decide +kernel
theorem dX12_walk_164 : decode cX12_walk 164 = .ok (.iload 7, 2) := by decide +kernel
theorem dX12_walk_166 : decode cX12_walk 166 = .ok (.ifCond .eq 12, 3) := by decide +kernel
theorem dX12_walk_169 : decode cX12_walk 169 = .ok (.aload_n 0, 1) := by decide +kernel
theorem dX12_walk_170 : decode cX12_walk 170 = .ok (.getfield 148, 3) := by decide +kernel
theorem dX12_walk_173 : decode cX12_walk 173 = .ok (.iconst 1, 1) := by decide +kernel
theorem dX12_walk_174 : decode cX12_walk 174 = .ok (.isub, 1) := by decide +kernel
theorem dX12_walk_175 : decode cX12_walk 175 = .ok (.goto 4, 3) := by decide +kernel
theorem dX12_walk_178 : decode cX12_walk 178 = .ok (.iconst (-1), 1) := by decide +kernel
theorem dX12_walk_179 : decode cX12_walk 179 = .ok (.ireturn, 1) := by decide +kernel
theorem dX12_walkAll_0 : decode cX12_walkAll 0 = .ok (.aload_n 0, 1) := by decide +kernel
theorem dX12_walkAll_1 : decode cX12_walkAll 1 = .ok (.iload_n 1, 1) := by decide +kernel
theorem dX12_walkAll_2 : decode cX12_walkAll 2 = .ok (.iconst 0, 1) := by decide +kernel
theorem dX12_walkAll_3 : decode cX12_walkAll 3 = .ok (.iconst 0, 1) := by decide +kernel
theorem dX12_walkAll_4 : decode cX12_walkAll 4 = .ok (.iconst 0, 1) := by decide +kernel
theorem dX12_walkAll_5 : decode cX12_walkAll 5 = .ok (.iconst 0, 1) := by decide +kernel
theorem dX12_walkAll_6 : decode cX12_walkAll 6 = .ok (.invokevirtual 178, 3) := by decide +kernel
theorem dX12_walkAll_9 : decode cX12_walkAll 9 = .ok (.pop, 1) := by decide +kernel
theorem dX12_walkAll_10 : decode cX12_walkAll 10 = .ok (.aload_n 0, 1) := by decide +kernel
theorem dX12_walkAll_11 : decode cX12_walkAll 11 = .ok (.getfield 154, 3) := by decide +kernel
theorem dX12_walkAll_14 : decode cX12_walkAll 14 = .ok (.ireturn, 1) := by decide +kernel
theorem dX12_size_0 : decode cX12_size 0 = .ok (.aload_n 0, 1) := by decide +kernel
theorem dX12_size_1 : decode cX12_size 1 = .ok (.iload_n 1, 1) := by decide +kernel
theorem dX12_size_2 : decode cX12_size 2 = .ok (.invokevirtual 104, 3) := by decide +kernel
theorem dX12_size_5 : decode cX12_size 5 = .ok (.ifCond .ne 8, 3) := by decide +kernel
theorem dX12_size_8 : decode cX12_size 8 = .ok (.aload_n 0, 1) := by decide +kernel
theorem dX12_size_9 : decode cX12_size 9 = .ok (.invokevirtual 182, 3) := by decide +kernel
theorem dX12_size_12 : decode cX12_size 12 = .ok (.ireturn, 1) := by decide +kernel
theorem dX12_size_13 : decode cX12_size 13 = .ok (.aload_n 0, 1) := by decide +kernel
theorem dX12_size_14 : decode cX12_size 14 = .ok (.iload_n 1, 1) := by decide +kernel
theorem dX12_size_15 : decode cX12_size 15 = .ok (.invokevirtual 185, 3) := by decide +kernel
theorem dX12_size_18 : decode cX12_size 18 = .ok (.ifCond .eq 10, 3) := by decide +kernel
theorem dX12_size_21 : decode cX12_size 21 = .ok (.aload_n 0, 1) := by decide +kernel
theorem dX12_size_22 : decode cX12_size 22 = .ok (.getfield 154, 3) := by decide +kernel
theorem dX12_size_25 : decode cX12_size 25 = .ok (.goto 7, 3) := by decide +kernel
theorem dX12_size_28 : decode cX12_size 28 = .ok (.aload_n 0, 1) := by decide +kernel
theorem dX12_size_29 : decode cX12_size 29 = .ok (.getfield 148, 3) := by decide +kernel
theorem dX12_size_32 : decode cX12_size 32 = .ok (.ireturn, 1) := by decide +kernel
theorem dX12_depth_0 : decode cX12_depth 0 = .ok (.aload_n 0, 1) := by decide +kernel
theorem dX12_depth_1 : decode cX12_depth 1 = .ok (.iload_n 1, 1) := by decide +kernel
theorem dX12_depth_2 : decode cX12_depth 2 = .ok (.invokevirtual 104, 3) := by decide +kernel
theorem dX12_depth_5 : decode cX12_depth 5 = .ok (.ifCond .ne 8, 3) := by decide +kernel
theorem dX12_depth_8 : decode cX12_depth 8 = .ok (.aload_n 0, 1) := by decide +kernel
theorem dX12_depth_9 : decode cX12_depth 9 = .ok (.invokevirtual 182, 3) := by decide +kernel
theorem dX12_depth_12 : decode cX12_depth 12 = .ok (.ireturn, 1) := by decide +kernel
theorem dX12_depth_13 : decode cX12_depth 13 = .ok (.aload_n 0, 1) := by decide +kernel
theorem dX12_depth_14 : decode cX12_depth 14 = .ok (.iload_n 1, 1) := by decide +kernel
theorem dX12_depth_15 : decode cX12_depth 15 = .ok (.invokevirtual 185, 3) := by decide +kernel
theorem dX12_depth_18 : decode cX12_depth 18 = .ok (.ifCond .eq 10, 3) := by decide +kernel
theorem dX12_depth_21 : decode cX12_depth 21 = .ok (.aload_n 0, 1) := by decide +kernel
theorem dX12_depth_22 : decode cX12_depth 22 = .ok (.getfield 154, 3) := by decide +kernel
theorem dX12_depth_25 : decode cX12_depth 25 = .ok (.goto 7, 3) := by decide +kernel
theorem dX12_depth_28 : decode cX12_depth 28 = .ok (.aload_n 0, 1) := by decide +kernel
theorem dX12_depth_29 : decode cX12_depth 29 = .ok (.getfield 151, 3) := by decide +kernel
theorem dX12_depth_32 : decode cX12_depth 32 = .ok (.ireturn, 1) := by decide +kernel
theorem dX12_worth_0 : decode cX12_worth 0 = .ok (.aload_n 0, 1) := by decide +kernel
theorem dX12_worth_1 : decode cX12_worth 1 = .ok (.iload_n 1, 1) := by decide +kernel
theorem dX12_worth_2 : decode cX12_worth 2 = .ok (.invokevirtual 104, 3) := by decide +kernel
theorem dX12_worth_5 : decode cX12_worth 5 = .ok (.ifCond .ne 10, 3) := by decide +kernel
theorem dX12_worth_8 : decode cX12_worth 8 = .ok (.aload_n 0, 1) := by decide +kernel
theorem dX12_worth_9 : decode cX12_worth 9 = .ok (.invokevirtual 182, 3) := by decide +kernel
theorem dX12_worth_12 : decode cX12_worth 12 = .ok (.pop, 1) := by decide +kernel
theorem dX12_worth_13 : decode cX12_worth 13 = .ok (.lconst 0, 1) := by decide +kernel
theorem dX12_worth_14 : decode cX12_worth 14 = .ok (.lreturn, 1) := by decide +kernel
theorem dX12_worth_15 : decode cX12_worth 15 = .ok (.aload_n 0, 1) := by decide +kernel
theorem dX12_worth_16 : decode cX12_worth 16 = .ok (.iload_n 1, 1) := by decide +kernel
theorem dX12_worth_17 : decode cX12_worth 17 = .ok (.invokevirtual 188, 3) := by decide +kernel
theorem dX12_worth_20 : decode cX12_worth 20 = .ok (.aload_n 0, 1) := by decide +kernel
theorem dX12_worth_21 : decode cX12_worth 21 = .ok (.iload_n 1, 1) := by decide +kernel
theorem dX12_worth_22 : decode cX12_worth 22 = .ok (.iconst 1, 1) := by decide +kernel
theorem dX12_worth_23 : decode cX12_worth 23 = .ok (.iconst 0, 1) := by decide +kernel
theorem dX12_worth_24 : decode cX12_worth 24 = .ok (.iconst 0, 1) := by decide +kernel
theorem dX12_worth_25 : decode cX12_worth 25 = .ok (.iconst 0, 1) := by decide +kernel
theorem dX12_worth_26 : decode cX12_worth 26 = .ok (.invokevirtual 178, 3) := by decide +kernel
theorem dX12_worth_29 : decode cX12_worth 29 = .ok (.pop, 1) := by decide +kernel
theorem dX12_worth_30 : decode cX12_worth 30 = .ok (.aload_n 0, 1) := by decide +kernel
theorem dX12_worth_31 : decode cX12_worth 31 = .ok (.getfield 154, 3) := by decide +kernel
theorem dX12_worth_34 : decode cX12_worth 34 = .ok (.ifCond .eq 7, 3) := by decide +kernel
theorem dX12_worth_37 : decode cX12_worth 37 = .ok (.lconst 0, 1) := by decide +kernel
theorem dX12_worth_38 : decode cX12_worth 38 = .ok (.goto 9, 3) := by decide +kernel
theorem dX12_worth_41 : decode cX12_worth 41 = .ok (.aload_n 0, 1) := by decide +kernel
theorem dX12_worth_42 : decode cX12_worth 42 = .ok (.getfield 38, 3) := by decide +kernel
theorem dX12_worth_45 : decode cX12_worth 45 = .ok (.iload_n 1, 1) := by decide +kernel
theorem dX12_worth_46 : decode cX12_worth 46 = .ok (.laload, 1) := by decide +kernel
theorem dX12_worth_47 : decode cX12_worth 47 = .ok (.lreturn, 1) := by decide +kernel
theorem dX12_mark_0 : decode cX12_mark 0 = .ok (.aload_n 0, 1) := by decide +kernel
theorem dX12_mark_1 : decode cX12_mark 1 = .ok (.iload_n 1, 1) := by decide +kernel
theorem dX12_mark_2 : decode cX12_mark 2 = .ok (.invokevirtual 104, 3) := by decide +kernel
theorem dX12_mark_5 : decode cX12_mark 5 = .ok (.ifCond .ne 10, 3) := by decide +kernel
theorem dX12_mark_8 : decode cX12_mark 8 = .ok (.aload_n 0, 1) := by decide +kernel
theorem dX12_mark_9 : decode cX12_mark 9 = .ok (.invokevirtual 182, 3) := by decide +kernel
theorem dX12_mark_12 : decode cX12_mark 12 = .ok (.pop, 1) := by decide +kernel
theorem dX12_mark_13 : decode cX12_mark 13 = .ok (.lconst 0, 1) := by decide +kernel
theorem dX12_mark_14 : decode cX12_mark 14 = .ok (.lreturn, 1) := by decide +kernel
theorem dX12_mark_15 : decode cX12_mark 15 = .ok (.aload_n 0, 1) := by decide +kernel
theorem dX12_mark_16 : decode cX12_mark 16 = .ok (.iload_n 1, 1) := by decide +kernel
theorem dX12_mark_17 : decode cX12_mark 17 = .ok (.invokevirtual 188, 3) := by decide +kernel
theorem dX12_mark_20 : decode cX12_mark 20 = .ok (.aload_n 0, 1) := by decide +kernel
theorem dX12_mark_21 : decode cX12_mark 21 = .ok (.iload_n 1, 1) := by decide +kernel
theorem dX12_mark_22 : decode cX12_mark 22 = .ok (.invokevirtual 185, 3) := by decide +kernel
theorem dX12_mark_25 : decode cX12_mark 25 = .ok (.ifCond .eq 7, 3) := by decide +kernel
theorem dX12_mark_28 : decode cX12_mark 28 = .ok (.lconst 0, 1) := by decide +kernel
theorem dX12_mark_29 : decode cX12_mark 29 = .ok (.goto 9, 3) := by decide +kernel
theorem dX12_mark_32 : decode cX12_mark 32 = .ok (.aload_n 0, 1) := by decide +kernel
theorem dX12_mark_33 : decode cX12_mark 33 = .ok (.getfield 42, 3) := by decide +kernel
theorem dX12_mark_36 : decode cX12_mark 36 = .ok (.iload_n 1, 1) := by decide +kernel
theorem dX12_mark_37 : decode cX12_mark 37 = .ok (.laload, 1) := by decide +kernel
theorem dX12_mark_38 : decode cX12_mark 38 = .ok (.lreturn, 1) := by decide +kernel
theorem dX12_differ_0 : decode cX12_differ 0 = .ok (.aload_n 0, 1) := by decide +kernel
theorem dX12_differ_1 : decode cX12_differ 1 = .ok (.getfield 7, 3) := by decide +kernel
theorem dX12_differ_4 : decode cX12_differ 4 = .ok (.iload_n 1, 1) := by decide +kernel
theorem dX12_differ_5 : decode cX12_differ 5 = .ok (.iaload, 1) := by decide +kernel
theorem dX12_differ_6 : decode cX12_differ 6 = .ok (.aload_n 0, 1) := by decide +kernel
theorem dX12_differ_7 : decode cX12_differ 7 = .ok (.getfield 7, 3) := by decide +kernel
theorem dX12_differ_10 : decode cX12_differ 10 = .ok (.iload_n 2, 1) := by decide +kernel
theorem dX12_differ_11 : decode cX12_differ 11 = .ok (.iaload, 1) := by decide +kernel
theorem dX12_differ_12 : decode cX12_differ 12 = .ok (.if_icmp .ne 33, 3) := by decide +kernel
theorem dX12_differ_15 : decode cX12_differ 15 = .ok (.aload_n 0, 1) := by decide +kernel
theorem dX12_differ_16 : decode cX12_differ 16 = .ok (.getfield 13, 3) := by decide +kernel
theorem dX12_differ_19 : decode cX12_differ 19 = .ok (.iload_n 1, 1) := by decide +kernel
theorem dX12_differ_20 : decode cX12_differ 20 = .ok (.iaload, 1) := by decide +kernel
theorem dX12_differ_21 : decode cX12_differ 21 = .ok (.aload_n 0, 1) := by decide +kernel
theorem dX12_differ_22 : decode cX12_differ 22 = .ok (.getfield 13, 3) := by decide +kernel
theorem dX12_differ_25 : decode cX12_differ 25 = .ok (.iload_n 2, 1) := by decide +kernel
theorem dX12_differ_26 : decode cX12_differ 26 = .ok (.iaload, 1) := by decide +kernel
theorem dX12_differ_27 : decode cX12_differ 27 = .ok (.if_icmp .ne 18, 3) := by decide +kernel
theorem dX12_differ_30 : decode cX12_differ 30 = .ok (.aload_n 0, 1) := by decide +kernel
theorem dX12_differ_31 : decode cX12_differ 31 = .ok (.getfield 16, 3) := by decide +kernel
theorem dX12_differ_34 : decode cX12_differ 34 = .ok (.iload_n 1, 1) := by decide +kernel
theorem dX12_differ_35 : decode cX12_differ 35 = .ok (.iaload, 1) := by decide +kernel
theorem dX12_differ_36 : decode cX12_differ 36 = .ok (.aload_n 0, 1) := by decide +kernel
theorem dX12_differ_37 : decode cX12_differ 37 = .ok (.getfield 16, 3) := by decide +kernel
theorem dX12_differ_40 : decode cX12_differ 40 = .ok (.iload_n 2, 1) := by decide +kernel
theorem dX12_differ_41 : decode cX12_differ 41 = .ok (.iaload, 1) := by decide +kernel
theorem dX12_differ_42 : decode cX12_differ 42 = .ok (.if_icmp .eq 7, 3) := by decide +kernel
theorem dX12_differ_45 : decode cX12_differ 45 = .ok (.iconst 1, 1) := by decide +kernel
theorem dX12_differ_46 : decode cX12_differ 46 = .ok (.goto 4, 3) := by decide +kernel
theorem dX12_differ_49 : decode cX12_differ 49 = .ok (.iconst 0, 1) := by decide +kernel
theorem dX12_differ_50 : decode cX12_differ 50 = .ok (.ireturn, 1) := by decide +kernel
theorem dX12_alike_0 : decode cX12_alike 0 = .ok (.aload_n 0, 1) := by decide +kernel
theorem dX12_alike_1 : decode cX12_alike 1 = .ok (.iload_n 1, 1) := by decide +kernel
theorem dX12_alike_2 : decode cX12_alike 2 = .ok (.invokevirtual 104, 3) := by decide +kernel
theorem dX12_alike_5 : decode cX12_alike 5 = .ok (.ifCond .eq 11, 3) := by decide +kernel
theorem dX12_alike_8 : decode cX12_alike 8 = .ok (.aload_n 0, 1) := by decide +kernel
theorem dX12_alike_9 : decode cX12_alike 9 = .ok (.iload_n 2, 1) := by decide +kernel
theorem dX12_alike_10 : decode cX12_alike 10 = .ok (.invokevirtual 104, 3) := by decide +kernel
theorem dX12_alike_13 : decode cX12_alike 13 = .ok (.ifCond .ne 8, 3) := by decide +kernel
theorem dX12_alike_16 : decode cX12_alike 16 = .ok (.aload_n 0, 1) := by decide +kernel
theorem dX12_alike_17 : decode cX12_alike 17 = .ok (.invokevirtual 182, 3) := by decide +kernel
theorem dX12_alike_20 : decode cX12_alike 20 = .ok (.ireturn, 1) := by decide +kernel
theorem dX12_alike_21 : decode cX12_alike 21 = .ok (.aload_n 0, 1) := by decide +kernel
theorem dX12_alike_22 : decode cX12_alike 22 = .ok (.invokevirtual 163, 3) := by decide +kernel
theorem dX12_alike_25 : decode cX12_alike 25 = .ok (.aload_n 0, 1) := by decide +kernel
theorem dX12_alike_26 : decode cX12_alike 26 = .ok (.iload_n 1, 1) := by decide +kernel
theorem dX12_alike_27 : decode cX12_alike 27 = .ok (.iload_n 2, 1) := by decide +kernel
theorem dX12_alike_28 : decode cX12_alike 28 = .ok (.invokevirtual 166, 3) := by decide +kernel
theorem dX12_alike_31 : decode cX12_alike 31 = .ok (.istore_n 3, 1) := by decide +kernel
theorem dX12_alike_32 : decode cX12_alike 32 = .ok (.iconst 1, 1) := by decide +kernel
theorem dX12_alike_33 : decode cX12_alike 33 = .ok (.istore 4, 2) := by decide +kernel
theorem dX12_alike_35 : decode cX12_alike 35 = .ok (.iload_n 3, 1) := by decide +kernel
theorem dX12_alike_36 : decode cX12_alike 36 = .ok (.ifCond .eq 148, 3) := by decide +kernel
theorem dX12_alike_39 : decode cX12_alike 39 = .ok (.aload_n 0, 1) := by decide +kernel
theorem dX12_alike_40 : decode cX12_alike 40 = .ok (.getfield 145, 3) := by decide +kernel
theorem dX12_alike_43 : decode cX12_alike 43 = .ok (.ifCond .le 141, 3) := by decide +kernel
theorem dX12_alike_46 : decode cX12_alike 46 = .ok (.iload 4, 2) := by decide +kernel
theorem dX12_alike_48 : decode cX12_alike 48 = .ok (.ifCond .eq 136, 3) := by decide +kernel
theorem dX12_alike_51 : decode cX12_alike 51 = .ok (.aload_n 0, 1) := by decide +kernel
theorem dX12_alike_52 : decode cX12_alike 52 = .ok (.getfield 45, 3) := by decide +kernel
theorem dX12_alike_55 : decode cX12_alike 55 = .ok (.aload_n 0, 1) := by decide +kernel
theorem dX12_alike_56 : decode cX12_alike 56 = .ok (.getfield 145, 3) := by decide +kernel
theorem dX12_alike_59 : decode cX12_alike 59 = .ok (.iconst 1, 1) := by decide +kernel
theorem dX12_alike_60 : decode cX12_alike 60 = .ok (.isub, 1) := by decide +kernel
theorem dX12_alike_61 : decode cX12_alike 61 = .ok (.iaload, 1) := by decide +kernel
theorem dX12_alike_62 : decode cX12_alike 62 = .ok (.istore 5, 2) := by decide +kernel
theorem dX12_alike_64 : decode cX12_alike 64 = .ok (.aload_n 0, 1) := by decide +kernel
theorem dX12_alike_65 : decode cX12_alike 65 = .ok (.getfield 48, 3) := by decide +kernel
theorem dX12_alike_68 : decode cX12_alike 68 = .ok (.aload_n 0, 1) := by decide +kernel
theorem dX12_alike_69 : decode cX12_alike 69 = .ok (.getfield 145, 3) := by decide +kernel
theorem dX12_alike_72 : decode cX12_alike 72 = .ok (.iconst 1, 1) := by decide +kernel
theorem dX12_alike_73 : decode cX12_alike 73 = .ok (.isub, 1) := by decide +kernel
theorem dX12_alike_74 : decode cX12_alike 74 = .ok (.iaload, 1) := by decide +kernel
theorem dX12_alike_75 : decode cX12_alike 75 = .ok (.istore 6, 2) := by decide +kernel
theorem dX12_alike_77 : decode cX12_alike 77 = .ok (.aload_n 0, 1) := by decide +kernel
theorem dX12_alike_78 : decode cX12_alike 78 = .ok (.getfield 51, 3) := by decide +kernel
theorem dX12_alike_81 : decode cX12_alike 81 = .ok (.aload_n 0, 1) := by decide +kernel
theorem dX12_alike_82 : decode cX12_alike 82 = .ok (.getfield 145, 3) := by decide +kernel
theorem dX12_alike_85 : decode cX12_alike 85 = .ok (.iconst 1, 1) := by decide +kernel
theorem dX12_alike_86 : decode cX12_alike 86 = .ok (.isub, 1) := by decide +kernel
theorem dX12_alike_87 : decode cX12_alike 87 = .ok (.iaload, 1) := by decide +kernel
theorem dX12_alike_88 : decode cX12_alike 88 = .ok (.istore 7, 2) := by decide +kernel
theorem dX12_alike_90 : decode cX12_alike 90 = .ok (.aload_n 0, 1) := by decide +kernel
theorem dX12_alike_91 : decode cX12_alike 91 = .ok (.iload 5, 2) := by decide +kernel
theorem dX12_alike_93 : decode cX12_alike 93 = .ok (.iload 6, 2) := by decide +kernel
theorem dX12_alike_95 : decode cX12_alike 95 = .ok (.invokevirtual 192, 3) := by decide +kernel
theorem dX12_alike_98 : decode cX12_alike 98 = .ok (.ifCond .ne 7, 3) := by decide +kernel
theorem dX12_alike_101 : decode cX12_alike 101 = .ok (.iconst 1, 1) := by decide +kernel
theorem dX12_alike_102 : decode cX12_alike 102 = .ok (.goto 4, 3) := by decide +kernel
theorem dX12_alike_105 : decode cX12_alike 105 = .ok (.iconst 0, 1) := by decide +kernel
theorem dX12_alike_106 : decode cX12_alike 106 = .ok (.istore 4, 2) := by decide +kernel
theorem dX12_alike_108 : decode cX12_alike 108 = .ok (.iload 5, 2) := by decide +kernel
theorem dX12_alike_110 : decode cX12_alike 110 = .ok (.iload 6, 2) := by decide +kernel
theorem dX12_alike_112 : decode cX12_alike 112 = .ok (.if_icmp .eq 15, 3) := by decide +kernel
theorem dX12_alike_115 : decode cX12_alike 115 = .ok (.iload 7, 2) := by decide +kernel
theorem dX12_alike_117 : decode cX12_alike 117 = .ok (.aload_n 0, 1) := by decide +kernel
theorem dX12_alike_118 : decode cX12_alike 118 = .ok (.getfield 16, 3) := by decide +kernel
theorem dX12_alike_121 : decode cX12_alike 121 = .ok (.iload 5, 2) := by decide +kernel
theorem dX12_alike_123 : decode cX12_alike 123 = .ok (.iaload, 1) := by decide +kernel
theorem dX12_alike_124 : decode cX12_alike 124 = .ok (.if_icmp .lt 16, 3) := by decide +kernel
theorem dX12_alike_127 : decode cX12_alike 127 = .ok (.aload_n 0, 1) := by decide +kernel
theorem dX12_alike_128 : decode cX12_alike 128 = .ok (.dup, 1) := by decide +kernel
theorem dX12_alike_129 : decode cX12_alike 129 = .ok (.getfield 145, 3) := by decide +kernel
theorem dX12_alike_132 : decode cX12_alike 132 = .ok (.iconst 1, 1) := by decide +kernel
theorem dX12_alike_133 : decode cX12_alike 133 = .ok (.isub, 1) := by decide +kernel
theorem dX12_alike_134 : decode cX12_alike 134 = .ok (.putfield 145, 3) := by decide +kernel
theorem dX12_alike_137 : decode cX12_alike 137 = .ok (.goto 44, 3) := by decide +kernel
theorem dX12_alike_140 : decode cX12_alike 140 = .ok (.iload 4, 2) := by decide +kernel
theorem dX12_alike_142 : decode cX12_alike 142 = .ok (.ifCond .eq 39, 3) := by decide +kernel
theorem dX12_alike_145 : decode cX12_alike 145 = .ok (.aload_n 0, 1) := by decide +kernel
theorem dX12_alike_146 : decode cX12_alike 146 = .ok (.getfield 51, 3) := by decide +kernel
theorem dX12_alike_149 : decode cX12_alike 149 = .ok (.aload_n 0, 1) := by decide +kernel
theorem dX12_alike_150 : decode cX12_alike 150 = .ok (.getfield 145, 3) := by decide +kernel
theorem dX12_alike_153 : decode cX12_alike 153 = .ok (.iconst 1, 1) := by decide +kernel
theorem dX12_alike_154 : decode cX12_alike 154 = .ok (.isub, 1) := by decide +kernel
theorem dX12_alike_155 : decode cX12_alike 155 = .ok (.dup2, 1) := by decide +kernel
theorem dX12_alike_156 : decode cX12_alike 156 = .ok (.iaload, 1) := by decide +kernel
theorem dX12_alike_157 : decode cX12_alike 157 = .ok (.iconst 1, 1) := by decide +kernel
theorem dX12_alike_158 : decode cX12_alike 158 = .ok (.iadd, 1) := by decide +kernel
theorem dX12_alike_159 : decode cX12_alike 159 = .ok (.iastore, 1) := by decide +kernel
theorem dX12_alike_160 : decode cX12_alike 160 = .ok (.aload_n 0, 1) := by decide +kernel
theorem dX12_alike_161 : decode cX12_alike 161 = .ok (.aload_n 0, 1) := by decide +kernel
theorem dX12_alike_162 : decode cX12_alike 162 = .ok (.iload 5, 2) := by decide +kernel
theorem dX12_alike_164 : decode cX12_alike 164 = .ok (.iload 7, 2) := by decide +kernel
theorem dX12_alike_166 : decode cX12_alike 166 = .ok (.invokevirtual 115, 3) := by decide +kernel
theorem dX12_alike_169 : decode cX12_alike 169 = .ok (.aload_n 0, 1) := by decide +kernel
theorem dX12_alike_170 : decode cX12_alike 170 = .ok (.iload 6, 2) := by decide +kernel
theorem dX12_alike_172 : decode cX12_alike 172 = .ok (.iload 7, 2) := by decide +kernel
theorem dX12_alike_174 : decode cX12_alike 174 = .ok (.invokevirtual 115, 3) := by decide +kernel
theorem dX12_alike_177 : decode cX12_alike 177 = .ok (.invokevirtual 166, 3) := by decide +kernel
theorem dX12_alike_180 : decode cX12_alike 180 = .ok (.istore_n 3, 1) := by decide +kernel
theorem dX12_alike_181 : decode cX12_alike 181 = .ok (.goto (-146), 3) := by decide +kernel
theorem dX12_alike_184 : decode cX12_alike 184 = .ok (.aload_n 0, 1) := by decide +kernel
theorem dX12_alike_185 : decode cX12_alike 185 = .ok (.invokevirtual 174, 3) := by decide +kernel
theorem dX12_alike_188 : decode cX12_alike 188 = .ok (.ifCond .eq 10, 3) := by decide +kernel
theorem dX12_alike_191 : decode cX12_alike 191 = .ok (.aload_n 0, 1) := by decide +kernel
theorem dX12_alike_192 : decode cX12_alike 192 = .ok (.getfield 154, 3) := by decide +kernel
theorem dX12_alike_195 : decode cX12_alike 195 = .ok (.goto 13, 3) := by decide +kernel
theorem dX12_alike_198 : decode cX12_alike 198 = .ok (.iload 4, 2) := by decide +kernel
theorem dX12_alike_200 : decode cX12_alike 200 = .ok (.ifCond .eq 7, 3) := by decide +kernel
theorem dX12_alike_203 : decode cX12_alike 203 = .ok (.iconst 1, 1) := by decide +kernel
theorem dX12_alike_204 : decode cX12_alike 204 = .ok (.goto 4, 3) := by decide +kernel
theorem dX12_alike_207 : decode cX12_alike 207 = .ok (.iconst 0, 1) := by decide +kernel
theorem dX12_alike_208 : decode cX12_alike 208 = .ok (.ireturn, 1) := by decide +kernel
theorem dX12_put_0 : decode cX12_put 0 = .ok (.aload_n 0, 1) := by decide +kernel
theorem dX12_put_1 : decode cX12_put 1 = .ok (.getfield 195, 3) := by decide +kernel
theorem dX12_put_4 : decode cX12_put 4 = .ok (.sipush 6000, 3) := by decide +kernel
theorem dX12_put_7 : decode cX12_put 7 = .ok (.if_icmp .ne 9, 3) := by decide +kernel
theorem dX12_put_10 : decode cX12_put 10 = .ok (.aload_n 0, 1) := by decide +kernel
theorem dX12_put_11 : decode cX12_put 11 = .ok (.iconst 1, 1) := by decide +kernel
theorem dX12_put_12 : decode cX12_put 12 = .ok (.putfield 198, 3) := by decide +kernel
theorem dX12_put_15 : decode cX12_put 15 = .ok (.return_, 1) := by decide +kernel
theorem dX12_put_16 : decode cX12_put 16 = .ok (.aload_n 0, 1) := by decide +kernel
theorem dX12_put_17 : decode cX12_put 17 = .ok (.getfield 60, 3) := by decide +kernel
theorem dX12_put_20 : decode cX12_put 20 = .ok (.aload_n 0, 1) := by decide +kernel
theorem dX12_put_21 : decode cX12_put 21 = .ok (.getfield 195, 3) := by decide +kernel
theorem dX12_put_24 : decode cX12_put 24 = .ok (.iload_n 1, 1) := by decide +kernel
theorem dX12_put_25 : decode cX12_put 25 = .ok (.iastore, 1) := by decide +kernel
theorem dX12_put_26 : decode cX12_put 26 = .ok (.aload_n 0, 1) := by decide +kernel
theorem dX12_put_27 : decode cX12_put 27 = .ok (.dup, 1) := by decide +kernel
theorem dX12_put_28 : decode cX12_put 28 = .ok (.getfield 195, 3) := by decide +kernel
theorem dX12_put_31 : decode cX12_put 31 = .ok (.iconst 1, 1) := by decide +kernel
theorem dX12_put_32 : decode cX12_put 32 = .ok (.iadd, 1) := by decide +kernel
theorem dX12_put_33 : decode cX12_put 33 = .ok (.putfield 195, 3) := by decide +kernel
theorem dX12_put_36 : decode cX12_put 36 = .ok (.return_, 1) := by decide +kernel
theorem dX12_putDeed_0 : decode cX12_putDeed 0 = .ok (.aload_n 0, 1) := by decide +kernel
theorem dX12_putDeed_1 : decode cX12_putDeed 1 = .ok (.bipush 97, 2) := by decide +kernel
theorem dX12_putDeed_3 : decode cX12_putDeed 3 = .ok (.aload_n 0, 1) := by decide +kernel
theorem dX12_putDeed_4 : decode cX12_putDeed 4 = .ok (.getfield 7, 3) := by decide +kernel
theorem dX12_putDeed_7 : decode cX12_putDeed 7 = .ok (.iload_n 1, 1) := by decide +kernel
theorem dX12_putDeed_8 : decode cX12_putDeed 8 = .ok (.iaload, 1) := by decide +kernel
theorem dX12_putDeed_9 : decode cX12_putDeed 9 = .ok (.iadd, 1) := by decide +kernel
theorem dX12_putDeed_10 : decode cX12_putDeed 10 = .ok (.invokevirtual 202, 3) := by decide +kernel
theorem dX12_putDeed_13 : decode cX12_putDeed 13 = .ok (.aload_n 0, 1) := by decide +kernel
theorem dX12_putDeed_14 : decode cX12_putDeed 14 = .ok (.getfield 13, 3) := by decide +kernel
theorem dX12_putDeed_17 : decode cX12_putDeed 17 = .ok (.iload_n 1, 1) := by decide +kernel
theorem dX12_putDeed_18 : decode cX12_putDeed 18 = .ok (.iaload, 1) := by decide +kernel
theorem dX12_putDeed_19 : decode cX12_putDeed 19 = .ok (.i2l, 1) := by decide +kernel
theorem dX12_putDeed_20 : decode cX12_putDeed 20 = .ok (.lstore_n 2, 1) := by decide +kernel
theorem dX12_putDeed_21 : decode cX12_putDeed 21 = .ok (.lload_n 2, 1) := by decide +kernel
theorem dX12_putDeed_22 : decode cX12_putDeed 22 = .ok (.lconst 0, 1) := by decide +kernel
theorem dX12_putDeed_23 : decode cX12_putDeed 23 = .ok (.lcmp, 1) := by decide +kernel
theorem dX12_putDeed_24 : decode cX12_putDeed 24 = .ok (.ifCond .ge 12, 3) := by decide +kernel
theorem dX12_putDeed_27 : decode cX12_putDeed 27 = .ok (.aload_n 0, 1) := by decide +kernel
theorem dX12_putDeed_28 : decode cX12_putDeed 28 = .ok (.bipush 45, 2) := by decide +kernel
theorem dX12_putDeed_30 : decode cX12_putDeed 30 = .ok (.invokevirtual 202, 3) := by decide +kernel
theorem dX12_putDeed_33 : decode cX12_putDeed 33 = .ok (.lload_n 2, 1) := by decide +kernel
theorem dX12_putDeed_34 : decode cX12_putDeed 34 = .ok (.lneg, 1) := by decide +kernel
theorem dX12_putDeed_35 : decode cX12_putDeed 35 = .ok (.lstore_n 2, 1) := by decide +kernel
theorem dX12_putDeed_36 : decode cX12_putDeed 36 = .ok (.lconst 1, 1) := by decide +kernel
theorem dX12_putDeed_37 : decode cX12_putDeed 37 = .ok (.lstore 4, 2) := by decide +kernel
theorem dX12_putDeed_39 : decode cX12_putDeed 39 = .ok (.lload_n 2, 1) := by decide +kernel
theorem dX12_putDeed_40 : decode cX12_putDeed 40 = .ok (.lload 4, 2) := by decide +kernel
theorem dX12_putDeed_42 : decode cX12_putDeed 42 = .ok (.ldiv, 1) := by decide +kernel
theorem dX12_putDeed_43 : decode cX12_putDeed 43 = .ok (.ldc2_w 205, 3) := by decide +kernel
theorem dX12_putDeed_46 : decode cX12_putDeed 46 = .ok (.lcmp, 1) := by decide +kernel
theorem dX12_putDeed_47 : decode cX12_putDeed 47 = .ok (.ifCond .le 14, 3) := by decide +kernel
theorem dX12_putDeed_50 : decode cX12_putDeed 50 = .ok (.lload 4, 2) := by decide +kernel
theorem dX12_putDeed_52 : decode cX12_putDeed 52 = .ok (.ldc2_w 207, 3) := by decide +kernel
theorem dX12_putDeed_55 : decode cX12_putDeed 55 = .ok (.lmul, 1) := by decide +kernel
theorem dX12_putDeed_56 : decode cX12_putDeed 56 = .ok (.lstore 4, 2) := by decide +kernel
theorem dX12_putDeed_58 : decode cX12_putDeed 58 = .ok (.goto (-19), 3) := by decide +kernel
theorem dX12_putDeed_61 : decode cX12_putDeed 61 = .ok (.lload 4, 2) := by decide +kernel
theorem dX12_putDeed_63 : decode cX12_putDeed 63 = .ok (.lstore 6, 2) := by decide +kernel
theorem dX12_putDeed_65 : decode cX12_putDeed 65 = .ok (.lload 6, 2) := by decide +kernel
theorem dX12_putDeed_67 : decode cX12_putDeed 67 = .ok (.lconst 0, 1) := by decide +kernel
theorem dX12_putDeed_68 : decode cX12_putDeed 68 = .ok (.lcmp, 1) := by decide +kernel
theorem dX12_putDeed_69 : decode cX12_putDeed 69 = .ok (.ifCond .le 30, 3) := by decide +kernel
theorem dX12_putDeed_72 : decode cX12_putDeed 72 = .ok (.aload_n 0, 1) := by decide +kernel
theorem dX12_putDeed_73 : decode cX12_putDeed 73 = .ok (.bipush 48, 2) := by decide +kernel
theorem dX12_putDeed_75 : decode cX12_putDeed 75 = .ok (.lload_n 2, 1) := by decide +kernel
theorem dX12_putDeed_76 : decode cX12_putDeed 76 = .ok (.lload 6, 2) := by decide +kernel
theorem dX12_putDeed_78 : decode cX12_putDeed 78 = .ok (.ldiv, 1) := by decide +kernel
theorem dX12_putDeed_79 : decode cX12_putDeed 79 = .ok (.ldc2_w 207, 3) := by decide +kernel
theorem dX12_putDeed_82 : decode cX12_putDeed 82 = .ok (.lrem, 1) := by decide +kernel
theorem dX12_putDeed_83 : decode cX12_putDeed 83 = .ok (.l2i, 1) := by decide +kernel
theorem dX12_putDeed_84 : decode cX12_putDeed 84 = .ok (.iadd, 1) := by decide +kernel
theorem dX12_putDeed_85 : decode cX12_putDeed 85 = .ok (.invokevirtual 202, 3) := by decide +kernel
theorem dX12_putDeed_88 : decode cX12_putDeed 88 = .ok (.lload 6, 2) := by decide +kernel
theorem dX12_putDeed_90 : decode cX12_putDeed 90 = .ok (.ldc2_w 207, 3) := by decide +kernel
theorem dX12_putDeed_93 : decode cX12_putDeed 93 = .ok (.ldiv, 1) := by decide +kernel
theorem dX12_putDeed_94 : decode cX12_putDeed 94 = .ok (.lstore 6, 2) := by decide +kernel
theorem dX12_putDeed_96 : decode cX12_putDeed 96 = .ok (.goto (-31), 3) := by decide +kernel
theorem dX12_putDeed_99 : decode cX12_putDeed 99 = .ok (.return_, 1) := by decide +kernel
theorem dX12_write_0 : decode cX12_write 0 = .ok (.aload_n 0, 1) := by decide +kernel
theorem dX12_write_1 : decode cX12_write 1 = .ok (.iload_n 1, 1) := by decide +kernel
theorem dX12_write_2 : decode cX12_write 2 = .ok (.invokevirtual 104, 3) := by decide +kernel
theorem dX12_write_5 : decode cX12_write 5 = .ok (.ifCond .ne 8, 3) := by decide +kernel
theorem dX12_write_8 : decode cX12_write 8 = .ok (.aload_n 0, 1) := by decide +kernel
theorem dX12_write_9 : decode cX12_write 9 = .ok (.invokevirtual 182, 3) := by decide +kernel
theorem dX12_write_12 : decode cX12_write 12 = .ok (.ireturn, 1) := by decide +kernel
theorem dX12_write_13 : decode cX12_write 13 = .ok (.aload_n 0, 1) := by decide +kernel
theorem dX12_write_14 : decode cX12_write 14 = .ok (.invokevirtual 163, 3) := by decide +kernel
theorem dX12_write_17 : decode cX12_write 17 = .ok (.aload_n 0, 1) := by decide +kernel
theorem dX12_write_18 : decode cX12_write 18 = .ok (.iconst 0, 1) := by decide +kernel
theorem dX12_write_19 : decode cX12_write 19 = .ok (.putfield 195, 3) := by decide +kernel
theorem dX12_write_22 : decode cX12_write 22 = .ok (.aload_n 0, 1) := by decide +kernel
theorem dX12_write_23 : decode cX12_write 23 = .ok (.iconst 0, 1) := by decide +kernel
theorem dX12_write_24 : decode cX12_write 24 = .ok (.putfield 198, 3) := by decide +kernel
theorem dX12_write_27 : decode cX12_write 27 = .ok (.aload_n 0, 1) := by decide +kernel
theorem dX12_write_28 : decode cX12_write 28 = .ok (.iload_n 1, 1) := by decide +kernel
theorem dX12_write_29 : decode cX12_write 29 = .ok (.iconst (-1), 1) := by decide +kernel
theorem dX12_write_30 : decode cX12_write 30 = .ok (.invokevirtual 166, 3) := by decide +kernel
theorem dX12_write_33 : decode cX12_write 33 = .ok (.istore_n 2, 1) := by decide +kernel
theorem dX12_write_34 : decode cX12_write 34 = .ok (.iload_n 2, 1) := by decide +kernel
theorem dX12_write_35 : decode cX12_write 35 = .ok (.ifCond .eq 8, 3) := by decide +kernel
theorem dX12_write_38 : decode cX12_write 38 = .ok (.aload_n 0, 1) := by decide +kernel
theorem dX12_write_39 : decode cX12_write 39 = .ok (.iload_n 1, 1) := by decide +kernel
theorem dX12_write_40 : decode cX12_write 40 = .ok (.invokevirtual 209, 3) := by decide +kernel
theorem dX12_write_43 : decode cX12_write 43 = .ok (.iload_n 2, 1) := by decide +kernel
theorem dX12_write_44 : decode cX12_write 44 = .ok (.ifCond .eq 135, 3) := by decide +kernel
theorem dX12_write_47 : decode cX12_write 47 = .ok (.aload_n 0, 1) := by decide +kernel
theorem dX12_write_48 : decode cX12_write 48 = .ok (.getfield 145, 3) := by decide +kernel
theorem dX12_write_51 : decode cX12_write 51 = .ok (.ifCond .le 128, 3) := by decide +kernel
theorem dX12_write_54 : decode cX12_write 54 = .ok (.aload_n 0, 1) := by decide +kernel
theorem dX12_write_55 : decode cX12_write 55 = .ok (.getfield 198, 3) := by decide +kernel
theorem dX12_write_58 : decode cX12_write 58 = .ok (.ifCond .ne 121, 3) := by decide +kernel
theorem dX12_write_61 : decode cX12_write 61 = .ok (.aload_n 0, 1) := by decide +kernel
theorem dX12_write_62 : decode cX12_write 62 = .ok (.getfield 45, 3) := by decide +kernel
theorem dX12_write_65 : decode cX12_write 65 = .ok (.aload_n 0, 1) := by decide +kernel
theorem dX12_write_66 : decode cX12_write 66 = .ok (.getfield 145, 3) := by decide +kernel
theorem dX12_write_69 : decode cX12_write 69 = .ok (.iconst 1, 1) := by decide +kernel
theorem dX12_write_70 : decode cX12_write 70 = .ok (.isub, 1) := by decide +kernel
theorem dX12_write_71 : decode cX12_write 71 = .ok (.iaload, 1) := by decide +kernel
theorem dX12_write_72 : decode cX12_write 72 = .ok (.istore_n 3, 1) := by decide +kernel
theorem dX12_write_73 : decode cX12_write 73 = .ok (.aload_n 0, 1) := by decide +kernel
theorem dX12_write_74 : decode cX12_write 74 = .ok (.getfield 51, 3) := by decide +kernel
theorem dX12_write_77 : decode cX12_write 77 = .ok (.aload_n 0, 1) := by decide +kernel
theorem dX12_write_78 : decode cX12_write 78 = .ok (.getfield 145, 3) := by decide +kernel
theorem dX12_write_81 : decode cX12_write 81 = .ok (.iconst 1, 1) := by decide +kernel
theorem dX12_write_82 : decode cX12_write 82 = .ok (.isub, 1) := by decide +kernel
theorem dX12_write_83 : decode cX12_write 83 = .ok (.iaload, 1) := by decide +kernel
theorem dX12_write_84 : decode cX12_write 84 = .ok (.istore 4, 2) := by decide +kernel
theorem dX12_write_86 : decode cX12_write 86 = .ok (.aload_n 0, 1) := by decide +kernel
theorem dX12_write_87 : decode cX12_write 87 = .ok (.iconst 0, 1) := by decide +kernel
theorem dX12_write_88 : decode cX12_write 88 = .ok (.invokevirtual 170, 3) := by decide +kernel
theorem dX12_write_91 : decode cX12_write 91 = .ok (.istore 5, 2) := by decide +kernel
theorem dX12_write_93 : decode cX12_write 93 = .ok (.iload 5, 2) := by decide +kernel
theorem dX12_write_95 : decode cX12_write 95 = .ok (.iconst (-1), 1) := by decide +kernel
theorem dX12_write_96 : decode cX12_write 96 = .ok (.if_icmp .ne 31, 3) := by decide +kernel
theorem dX12_write_99 : decode cX12_write 99 = .ok (.aload_n 0, 1) := by decide +kernel
theorem dX12_write_100 : decode cX12_write 100 = .ok (.getfield 16, 3) := by decide +kernel
theorem dX12_write_103 : decode cX12_write 103 = .ok (.iload_n 3, 1) := by decide +kernel
theorem dX12_write_104 : decode cX12_write 104 = .ok (.iaload, 1) := by decide +kernel
theorem dX12_write_105 : decode cX12_write 105 = .ok (.ifCond .le 9, 3) := by decide +kernel
theorem dX12_write_108 : decode cX12_write 108 = .ok (.aload_n 0, 1) := by decide +kernel
theorem dX12_write_109 : decode cX12_write 109 = .ok (.bipush 41, 2) := by decide +kernel
theorem dX12_write_111 : decode cX12_write 111 = .ok (.invokevirtual 202, 3) := by decide +kernel
theorem dX12_write_114 : decode cX12_write 114 = .ok (.aload_n 0, 1) := by decide +kernel
theorem dX12_write_115 : decode cX12_write 115 = .ok (.dup, 1) := by decide +kernel
theorem dX12_write_116 : decode cX12_write 116 = .ok (.getfield 145, 3) := by decide +kernel
theorem dX12_write_119 : decode cX12_write 119 = .ok (.iconst 1, 1) := by decide +kernel
theorem dX12_write_120 : decode cX12_write 120 = .ok (.isub, 1) := by decide +kernel
theorem dX12_write_121 : decode cX12_write 121 = .ok (.putfield 145, 3) := by decide +kernel
theorem dX12_write_124 : decode cX12_write 124 = .ok (.goto 52, 3) := by decide +kernel
theorem dX12_write_127 : decode cX12_write 127 = .ok (.aload_n 0, 1) := by decide +kernel
theorem dX12_write_128 : decode cX12_write 128 = .ok (.iload 4, 2) := by decide +kernel
theorem dX12_write_130 : decode cX12_write 130 = .ok (.ifCond .ne 8, 3) := by decide +kernel
theorem dX12_write_133 : decode cX12_write 133 = .ok (.bipush 40, 2) := by decide +kernel
theorem dX12_write_135 : decode cX12_write 135 = .ok (.goto 5, 3) := by decide +kernel
theorem dX12_write_138 : decode cX12_write 138 = .ok (.bipush 44, 2) := by decide +kernel
theorem dX12_write_140 : decode cX12_write 140 = .ok (.invokevirtual 202, 3) := by decide +kernel
theorem dX12_write_143 : decode cX12_write 143 = .ok (.aload_n 0, 1) := by decide +kernel
theorem dX12_write_144 : decode cX12_write 144 = .ok (.getfield 198, 3) := by decide +kernel
theorem dX12_write_147 : decode cX12_write 147 = .ok (.ifCond .ne 17, 3) := by decide +kernel
theorem dX12_write_150 : decode cX12_write 150 = .ok (.aload_n 0, 1) := by decide +kernel
theorem dX12_write_151 : decode cX12_write 151 = .ok (.iload 5, 2) := by decide +kernel
theorem dX12_write_153 : decode cX12_write 153 = .ok (.iconst (-1), 1) := by decide +kernel
theorem dX12_write_154 : decode cX12_write 154 = .ok (.invokevirtual 166, 3) := by decide +kernel
theorem dX12_write_157 : decode cX12_write 157 = .ok (.ifCond .eq 7, 3) := by decide +kernel
theorem dX12_write_160 : decode cX12_write 160 = .ok (.iconst 1, 1) := by decide +kernel
theorem dX12_write_161 : decode cX12_write 161 = .ok (.goto 4, 3) := by decide +kernel
theorem dX12_write_164 : decode cX12_write 164 = .ok (.iconst 0, 1) := by decide +kernel
theorem dX12_write_165 : decode cX12_write 165 = .ok (.istore_n 2, 1) := by decide +kernel
theorem dX12_write_166 : decode cX12_write 166 = .ok (.iload_n 2, 1) := by decide +kernel
theorem dX12_write_167 : decode cX12_write 167 = .ok (.ifCond .eq 9, 3) := by decide +kernel
theorem dX12_write_170 : decode cX12_write 170 = .ok (.aload_n 0, 1) := by decide +kernel
theorem dX12_write_171 : decode cX12_write 171 = .ok (.iload 5, 2) := by decide +kernel
theorem dX12_write_173 : decode cX12_write 173 = .ok (.invokevirtual 209, 3) := by decide +kernel
theorem dX12_write_176 : decode cX12_write 176 = .ok (.goto (-133), 3) := by decide +kernel
theorem dX12_write_179 : decode cX12_write 179 = .ok (.aload_n 0, 1) := by decide +kernel
theorem dX12_write_180 : decode cX12_write 180 = .ok (.invokevirtual 174, 3) := by decide +kernel
theorem dX12_write_183 : decode cX12_write 183 = .ok (.ifCond .eq 8, 3) := by decide +kernel
theorem dX12_write_186 : decode cX12_write 186 = .ok (.aload_n 0, 1) := by decide +kernel
theorem dX12_write_187 : decode cX12_write 187 = .ok (.getfield 154, 3) := by decide +kernel
theorem dX12_write_190 : decode cX12_write 190 = .ok (.ireturn, 1) := by decide +kernel
theorem dX12_write_191 : decode cX12_write 191 = .ok (.aload_n 0, 1) := by decide +kernel
theorem dX12_write_192 : decode cX12_write 192 = .ok (.getfield 198, 3) := by decide +kernel
theorem dX12_write_195 : decode cX12_write 195 = .ok (.ifCond .eq 6, 3) := by decide +kernel
theorem dX12_write_198 : decode cX12_write 198 = .ok (.bipush (-4), 2) := by decide +kernel
theorem dX12_write_200 : decode cX12_write 200 = .ok (.ireturn, 1) := by decide +kernel
theorem dX12_write_201 : decode cX12_write 201 = .ok (.iconst 0, 1) := by decide +kernel
theorem dX12_write_202 : decode cX12_write 202 = .ok (.istore_n 3, 1) := by decide +kernel
theorem dX12_write_203 : decode cX12_write 203 = .ok (.iload_n 3, 1) := by decide +kernel
theorem dX12_write_204 : decode cX12_write 204 = .ok (.aload_n 0, 1) := by decide +kernel
theorem dX12_write_205 : decode cX12_write 205 = .ok (.getfield 195, 3) := by decide +kernel
theorem dX12_write_208 : decode cX12_write 208 = .ok (.if_icmp .ge 21, 3) := by decide +kernel
theorem dX12_write_211 : decode cX12_write 211 = .ok (.aload_n 0, 1) := by decide +kernel
theorem dX12_write_212 : decode cX12_write 212 = .ok (.getfield 35, 3) := by decide +kernel
theorem dX12_write_215 : decode cX12_write 215 = .ok (.iload_n 3, 1) := by decide +kernel
theorem dX12_write_216 : decode cX12_write 216 = .ok (.aload_n 0, 1) := by decide +kernel
theorem dX12_write_217 : decode cX12_write 217 = .ok (.getfield 60, 3) := by decide +kernel
theorem dX12_write_220 : decode cX12_write 220 = .ok (.iload_n 3, 1) := by decide +kernel
theorem dX12_write_221 : decode cX12_write 221 = .ok (.iaload, 1) := by decide +kernel
theorem dX12_write_222 : decode cX12_write 222 = .ok (.iastore, 1) := by decide +kernel
theorem dX12_write_223 : decode cX12_write 223 = .ok (.iinc 3 1, 3) := by decide +kernel
theorem dX12_write_226 : decode cX12_write 226 = .ok (.goto (-23), 3) := by decide +kernel
theorem dX12_write_229 : decode cX12_write 229 = .ok (.aload_n 0, 1) := by decide +kernel
theorem dX12_write_230 : decode cX12_write 230 = .ok (.aload_n 0, 1) := by decide +kernel
theorem dX12_write_231 : decode cX12_write 231 = .ok (.getfield 195, 3) := by decide +kernel
theorem dX12_write_234 : decode cX12_write 234 = .ok (.putfield 212, 3) := by decide +kernel
theorem dX12_write_237 : decode cX12_write 237 = .ok (.aload_n 0, 1) := by decide +kernel
theorem dX12_write_238 : decode cX12_write 238 = .ok (.getfield 212, 3) := by decide +kernel
theorem dX12_write_241 : decode cX12_write 241 = .ok (.ireturn, 1) := by decide +kernel
theorem dX12_find_0 : decode cX12_find 0 = .ok (.aload_n 0, 1) := by decide +kernel
theorem dX12_find_1 : decode cX12_find 1 = .ok (.iload_n 1, 1) := by decide +kernel
theorem dX12_find_2 : decode cX12_find 2 = .ok (.invokevirtual 104, 3) := by decide +kernel
theorem dX12_find_5 : decode cX12_find 5 = .ok (.ifCond .eq 13, 3) := by decide +kernel
theorem dX12_find_8 : decode cX12_find 8 = .ok (.iload_n 2, 1) := by decide +kernel
theorem dX12_find_9 : decode cX12_find 9 = .ok (.iconst 0, 1) := by decide +kernel
theorem dX12_find_10 : decode cX12_find 10 = .ok (.bipush 11, 2) := by decide +kernel
theorem dX12_find_12 : decode cX12_find 12 = .ok (.invokestatic 93, 3) := by decide +kernel
theorem dX12_find_15 : decode cX12_find 15 = .ok (.ifCond .ne 8, 3) := by decide +kernel
theorem dX12_find_18 : decode cX12_find 18 = .ok (.aload_n 0, 1) := by decide +kernel
theorem dX12_find_19 : decode cX12_find 19 = .ok (.invokevirtual 182, 3) := by decide +kernel
theorem dX12_find_22 : decode cX12_find 22 = .ok (.ireturn, 1) := by decide +kernel
theorem dX12_find_23 : decode cX12_find 23 = .ok (.aload_n 0, 1) := by decide +kernel
theorem dX12_find_24 : decode cX12_find 24 = .ok (.iload_n 1, 1) := by decide +kernel
theorem dX12_find_25 : decode cX12_find 25 = .ok (.iconst 0, 1) := by decide +kernel
theorem dX12_find_26 : decode cX12_find 26 = .ok (.iconst 1, 1) := by decide +kernel
theorem dX12_find_27 : decode cX12_find 27 = .ok (.iload_n 2, 1) := by decide +kernel
theorem dX12_find_28 : decode cX12_find 28 = .ok (.iload_n 3, 1) := by decide +kernel
theorem dX12_find_29 : decode cX12_find 29 = .ok (.invokevirtual 178, 3) := by decide +kernel
theorem dX12_find_32 : decode cX12_find 32 = .ok (.ireturn, 1) := by decide +kernel
theorem dX12_widest_0 : decode cX12_widest 0 = .ok (.aload_n 0, 1) := by decide +kernel
theorem dX12_widest_1 : decode cX12_widest 1 = .ok (.iload_n 1, 1) := by decide +kernel
theorem dX12_widest_2 : decode cX12_widest 2 = .ok (.invokevirtual 104, 3) := by decide +kernel
theorem dX12_widest_5 : decode cX12_widest 5 = .ok (.ifCond .eq 12, 3) := by decide +kernel
theorem dX12_widest_8 : decode cX12_widest 8 = .ok (.iload_n 2, 1) := by decide +kernel
theorem dX12_widest_9 : decode cX12_widest 9 = .ok (.iconst 0, 1) := by decide +kernel
theorem dX12_widest_10 : decode cX12_widest 10 = .ok (.iconst 1, 1) := by decide +kernel
theorem dX12_widest_11 : decode cX12_widest 11 = .ok (.invokestatic 93, 3) := by decide +kernel
theorem dX12_widest_14 : decode cX12_widest 14 = .ok (.ifCond .ne 8, 3) := by decide +kernel
theorem dX12_widest_17 : decode cX12_widest 17 = .ok (.aload_n 0, 1) := by decide +kernel
theorem dX12_widest_18 : decode cX12_widest 18 = .ok (.invokevirtual 182, 3) := by decide +kernel
theorem dX12_widest_21 : decode cX12_widest 21 = .ok (.ireturn, 1) := by decide +kernel
theorem dX12_widest_22 : decode cX12_widest 22 = .ok (.aload_n 0, 1) := by decide +kernel
theorem dX12_widest_23 : decode cX12_widest 23 = .ok (.iload_n 1, 1) := by decide +kernel
theorem dX12_widest_24 : decode cX12_widest 24 = .ok (.invokevirtual 185, 3) := by decide +kernel
theorem dX12_widest_27 : decode cX12_widest 27 = .ok (.ifCond .eq 8, 3) := by decide +kernel
theorem dX12_widest_30 : decode cX12_widest 30 = .ok (.aload_n 0, 1) := by decide +kernel
theorem dX12_widest_31 : decode cX12_widest 31 = .ok (.getfield 154, 3) := by decide +kernel
theorem dX12_widest_34 : decode cX12_widest 34 = .ok (.ireturn, 1) := by decide +kernel
theorem dX12_widest_35 : decode cX12_widest 35 = .ok (.iconst 0, 1) := by decide +kernel
theorem dX12_widest_36 : decode cX12_widest 36 = .ok (.istore_n 3, 1) := by decide +kernel
theorem dX12_widest_37 : decode cX12_widest 37 = .ok (.iload_n 3, 1) := by decide +kernel
theorem dX12_widest_38 : decode cX12_widest 38 = .ok (.aload_n 0, 1) := by decide +kernel
theorem dX12_widest_39 : decode cX12_widest 39 = .ok (.getfield 151, 3) := by decide +kernel
theorem dX12_widest_42 : decode cX12_widest 42 = .ok (.if_icmp .gt 16, 3) := by decide +kernel
theorem dX12_widest_45 : decode cX12_widest 45 = .ok (.aload_n 0, 1) := by decide +kernel
theorem dX12_widest_46 : decode cX12_widest 46 = .ok (.getfield 63, 3) := by decide +kernel
theorem dX12_widest_49 : decode cX12_widest 49 = .ok (.iload_n 3, 1) := by decide +kernel
theorem dX12_widest_50 : decode cX12_widest 50 = .ok (.iconst 0, 1) := by decide +kernel
theorem dX12_widest_51 : decode cX12_widest 51 = .ok (.iastore, 1) := by decide +kernel
theorem dX12_widest_52 : decode cX12_widest 52 = .ok (.iinc 3 1, 3) := by decide +kernel
theorem dX12_widest_55 : decode cX12_widest 55 = .ok (.goto (-18), 3) := by decide +kernel
theorem dX12_widest_58 : decode cX12_widest 58 = .ok (.iconst 1, 1) := by decide +kernel
theorem dX12_widest_59 : decode cX12_widest 59 = .ok (.istore_n 3, 1) := by decide +kernel
theorem dX12_widest_60 : decode cX12_widest 60 = .ok (.iconst 0, 1) := by decide +kernel
theorem dX12_widest_61 : decode cX12_widest 61 = .ok (.istore 4, 2) := by decide +kernel
theorem dX12_widest_63 : decode cX12_widest 63 = .ok (.iload 4, 2) := by decide +kernel
theorem dX12_widest_65 : decode cX12_widest 65 = .ok (.aload_n 0, 1) := by decide +kernel
theorem dX12_widest_66 : decode cX12_widest 66 = .ok (.getfield 148, 3) := by decide +kernel
theorem dX12_widest_69 : decode cX12_widest 69 = .ok (.if_icmp .ge 25, 3) := by decide +kernel
theorem dX12_widest_72 : decode cX12_widest 72 = .ok (.aload_n 0, 1) := by decide +kernel
theorem dX12_widest_73 : decode cX12_widest 73 = .ok (.getfield 63, 3) := by decide +kernel
theorem dX12_widest_76 : decode cX12_widest 76 = .ok (.aload_n 0, 1) := by decide +kernel
theorem dX12_widest_77 : decode cX12_widest 77 = .ok (.getfield 57, 3) := by decide +kernel
theorem dX12_widest_80 : decode cX12_widest 80 = .ok (.iload 4, 2) := by decide +kernel
theorem dX12_widest_82 : decode cX12_widest 82 = .ok (.iaload, 1) := by decide +kernel
theorem dX12_widest_83 : decode cX12_widest 83 = .ok (.dup2, 1) := by decide +kernel
theorem dX12_widest_84 : decode cX12_widest 84 = .ok (.iaload, 1) := by decide +kernel
theorem dX12_widest_85 : decode cX12_widest 85 = .ok (.iconst 1, 1) := by decide +kernel
theorem dX12_widest_86 : decode cX12_widest 86 = .ok (.iadd, 1) := by decide +kernel
theorem dX12_widest_87 : decode cX12_widest 87 = .ok (.iastore, 1) := by decide +kernel
theorem dX12_widest_88 : decode cX12_widest 88 = .ok (.iinc 4 1, 3) := by decide +kernel
theorem dX12_widest_91 : decode cX12_widest 91 = .ok (.goto (-28), 3) := by decide +kernel
theorem dX12_widest_94 : decode cX12_widest 94 = .ok (.iconst 2, 1) := by decide +kernel
theorem dX12_widest_95 : decode cX12_widest 95 = .ok (.istore 4, 2) := by decide +kernel
theorem dX12_widest_97 : decode cX12_widest 97 = .ok (.iload 4, 2) := by decide +kernel
theorem dX12_widest_99 : decode cX12_widest 99 = .ok (.aload_n 0, 1) := by decide +kernel
theorem dX12_widest_100 : decode cX12_widest 100 = .ok (.getfield 151, 3) := by decide +kernel
theorem dX12_widest_103 : decode cX12_widest 103 = .ok (.if_icmp .gt 32, 3) := by decide +kernel
theorem dX12_widest_106 : decode cX12_widest 106 = .ok (.aload_n 0, 1) := by decide +kernel
theorem dX12_widest_107 : decode cX12_widest 107 = .ok (.getfield 63, 3) := by decide +kernel
theorem dX12_widest_110 : decode cX12_widest 110 = .ok (.iload 4, 2) := by decide +kernel
theorem dX12_widest_112 : decode cX12_widest 112 = .ok (.iaload, 1) := by decide +kernel
theorem dX12_widest_113 : decode cX12_widest 113 = .ok (.aload_n 0, 1) := by decide +kernel
theorem dX12_widest_114 : decode cX12_widest 114 = .ok (.getfield 63, 3) := by decide +kernel
theorem dX12_widest_117 : decode cX12_widest 117 = .ok (.iload_n 3, 1) := by decide +kernel
theorem dX12_widest_118 : decode cX12_widest 118 = .ok (.iaload, 1) := by decide +kernel
theorem dX12_widest_119 : decode cX12_widest 119 = .ok (.if_icmp .le 8, 3) := by decide +kernel
theorem dX12_widest_122 : decode cX12_widest 122 = .ok (.iload 4, 2) := by decide +kernel
theorem dX12_widest_124 : decode cX12_widest 124 = .ok (.goto 4, 3) := by decide +kernel
theorem dX12_widest_127 : decode cX12_widest 127 = .ok (.iload_n 3, 1) := by decide +kernel
theorem dX12_widest_128 : decode cX12_widest 128 = .ok (.istore_n 3, 1) := by decide +kernel
theorem dX12_widest_129 : decode cX12_widest 129 = .ok (.iinc 4 1, 3) := by decide +kernel
theorem dX12_widest_132 : decode cX12_widest 132 = .ok (.goto (-35), 3) := by decide +kernel
theorem dX12_widest_135 : decode cX12_widest 135 = .ok (.iload_n 2, 1) := by decide +kernel
theorem dX12_widest_136 : decode cX12_widest 136 = .ok (.ifCond .ne 7, 3) := by decide +kernel
theorem dX12_widest_139 : decode cX12_widest 139 = .ok (.iload_n 3, 1) := by decide +kernel
theorem dX12_widest_140 : decode cX12_widest 140 = .ok (.goto 9, 3) := by decide +kernel
theorem dX12_widest_143 : decode cX12_widest 143 = .ok (.aload_n 0, 1) := by decide +kernel
theorem dX12_widest_144 : decode cX12_widest 144 = .ok (.getfield 63, 3) := by decide +kernel
theorem dX12_widest_147 : decode cX12_widest 147 = .ok (.iload_n 3, 1) := by decide +kernel
theorem dX12_widest_148 : decode cX12_widest 148 = .ok (.iaload, 1) := by decide +kernel
theorem dX12_widest_149 : decode cX12_widest 149 = .ok (.ireturn, 1) := by decide +kernel
theorem dX12_plant_0 : decode cX12_plant 0 = .ok (.aload_n 0, 1) := by decide +kernel
theorem dX12_plant_1 : decode cX12_plant 1 = .ok (.getfield 215, 3) := by decide +kernel
theorem dX12_plant_4 : decode cX12_plant 4 = .ok (.istore 7, 2) := by decide +kernel
theorem dX12_plant_6 : decode cX12_plant 6 = .ok (.aload_n 0, 1) := by decide +kernel
theorem dX12_plant_7 : decode cX12_plant 7 = .ok (.getfield 66, 3) := by decide +kernel
theorem dX12_plant_10 : decode cX12_plant 10 = .ok (.iload 7, 2) := by decide +kernel
theorem dX12_plant_12 : decode cX12_plant 12 = .ok (.iload_n 1, 1) := by decide +kernel
theorem dX12_plant_13 : decode cX12_plant 13 = .ok (.iastore, 1) := by decide +kernel
theorem dX12_plant_14 : decode cX12_plant 14 = .ok (.aload_n 0, 1) := by decide +kernel
theorem dX12_plant_15 : decode cX12_plant 15 = .ok (.getfield 69, 3) := by decide +kernel
theorem dX12_plant_18 : decode cX12_plant 18 = .ok (.iload 7, 2) := by decide +kernel
theorem dX12_plant_20 : decode cX12_plant 20 = .ok (.iload_n 2, 1) := by decide +kernel
theorem dX12_plant_21 : decode cX12_plant 21 = .ok (.iastore, 1) := by decide +kernel
theorem dX12_plant_22 : decode cX12_plant 22 = .ok (.aload_n 0, 1) := by decide +kernel
theorem dX12_plant_23 : decode cX12_plant 23 = .ok (.getfield 72, 3) := by decide +kernel
theorem dX12_plant_26 : decode cX12_plant 26 = .ok (.iload 7, 2) := by decide +kernel
theorem dX12_plant_28 : decode cX12_plant 28 = .ok (.lload_n 3, 1) := by decide +kernel
theorem dX12_plant_29 : decode cX12_plant 29 = .ok (.lastore, 1) := by decide +kernel
theorem dX12_plant_30 : decode cX12_plant 30 = .ok (.aload_n 0, 1) := by decide +kernel
theorem dX12_plant_31 : decode cX12_plant 31 = .ok (.getfield 75, 3) := by decide +kernel
theorem dX12_plant_34 : decode cX12_plant 34 = .ok (.iload 7, 2) := by decide +kernel
theorem dX12_plant_36 : decode cX12_plant 36 = .ok (.iconst (-1), 1) := by decide +kernel
theorem dX12_plant_37 : decode cX12_plant 37 = .ok (.iastore, 1) := by decide +kernel
theorem dX12_plant_38 : decode cX12_plant 38 = .ok (.aload_n 0, 1) := by decide +kernel
theorem dX12_plant_39 : decode cX12_plant 39 = .ok (.getfield 78, 3) := by decide +kernel
theorem dX12_plant_42 : decode cX12_plant 42 = .ok (.iload 7, 2) := by decide +kernel
theorem dX12_plant_44 : decode cX12_plant 44 = .ok (.iconst (-1), 1) := by decide +kernel
theorem dX12_plant_45 : decode cX12_plant 45 = .ok (.iastore, 1) := by decide +kernel
theorem dX12_plant_46 : decode cX12_plant 46 = .ok (.aload_n 0, 1) := by decide +kernel
theorem dX12_plant_47 : decode cX12_plant 47 = .ok (.getfield 81, 3) := by decide +kernel
theorem dX12_plant_50 : decode cX12_plant 50 = .ok (.iload 7, 2) := by decide +kernel
theorem dX12_plant_52 : decode cX12_plant 52 = .ok (.iload 5, 2) := by decide +kernel
theorem dX12_plant_54 : decode cX12_plant 54 = .ok (.iastore, 1) := by decide +kernel
theorem dX12_plant_55 : decode cX12_plant 55 = .ok (.aload_n 0, 1) := by decide +kernel
theorem dX12_plant_56 : decode cX12_plant 56 = .ok (.dup, 1) := by decide +kernel
theorem dX12_plant_57 : decode cX12_plant 57 = .ok (.getfield 215, 3) := by decide +kernel
theorem dX12_plant_60 : decode cX12_plant 60 = .ok (.iconst 1, 1) := by decide +kernel
theorem dX12_plant_61 : decode cX12_plant 61 = .ok (.iadd, 1) := by decide +kernel
theorem dX12_plant_62 : decode cX12_plant 62 = .ok (.putfield 215, 3) := by decide +kernel
theorem dX12_plant_65 : decode cX12_plant 65 = .ok (.iload 5, 2) := by decide +kernel
theorem dX12_plant_67 : decode cX12_plant 67 = .ok (.iconst (-1), 1) := by decide +kernel
theorem dX12_plant_68 : decode cX12_plant 68 = .ok (.if_icmp .ne 4, 3) := by decide +kernel
theorem dX12_plant_71 : decode cX12_plant 71 = .ok (.return_, 1) := by decide +kernel
theorem dX12_plant_72 : decode cX12_plant 72 = .ok (.iconst (-1), 1) := by decide +kernel
theorem dX12_plant_73 : decode cX12_plant 73 = .ok (.istore 8, 2) := by decide +kernel
theorem dX12_plant_75 : decode cX12_plant 75 = .ok (.aload_n 0, 1) := by decide +kernel
theorem dX12_plant_76 : decode cX12_plant 76 = .ok (.getfield 75, 3) := by decide +kernel
theorem dX12_plant_79 : decode cX12_plant 79 = .ok (.iload 5, 2) := by decide +kernel
theorem dX12_plant_81 : decode cX12_plant 81 = .ok (.iaload, 1) := by decide +kernel
theorem dX12_plant_82 : decode cX12_plant 82 = .ok (.istore 9, 2) := by decide +kernel
theorem dX12_plant_84 : decode cX12_plant 84 = .ok (.iload 9, 2) := by decide +kernel
theorem dX12_plant_86 : decode cX12_plant 86 = .ok (.iconst (-1), 1) := by decide +kernel
theorem dX12_plant_87 : decode cX12_plant 87 = .ok (.if_icmp .eq 36, 3) := by decide +kernel
theorem dX12_plant_90 : decode cX12_plant 90 = .ok (.iload 6, 2) := by decide +kernel
theorem dX12_plant_92 : decode cX12_plant 92 = .ok (.ifCond .eq 15, 3) := by decide +kernel
theorem dX12_plant_95 : decode cX12_plant 95 = .ok (.aload_n 0, 1) := by decide +kernel
theorem dX12_plant_96 : decode cX12_plant 96 = .ok (.getfield 72, 3) := by decide +kernel
theorem dX12_plant_99 : decode cX12_plant 99 = .ok (.iload 9, 2) := by decide +kernel
theorem dX12_plant_101 : decode cX12_plant 101 = .ok (.laload, 1) := by decide +kernel
theorem dX12_plant_102 : decode cX12_plant 102 = .ok (.lload_n 3, 1) := by decide +kernel
theorem dX12_plant_103 : decode cX12_plant 103 = .ok (.lcmp, 1) := by decide +kernel
theorem dX12_plant_104 : decode cX12_plant 104 = .ok (.ifCond .gt 19, 3) := by decide +kernel
theorem dX12_plant_107 : decode cX12_plant 107 = .ok (.iload 9, 2) := by decide +kernel
theorem dX12_plant_109 : decode cX12_plant 109 = .ok (.istore 8, 2) := by decide +kernel
theorem dX12_plant_111 : decode cX12_plant 111 = .ok (.aload_n 0, 1) := by decide +kernel
theorem dX12_plant_112 : decode cX12_plant 112 = .ok (.getfield 78, 3) := by decide +kernel
theorem dX12_plant_115 : decode cX12_plant 115 = .ok (.iload 9, 2) := by decide +kernel
theorem dX12_plant_117 : decode cX12_plant 117 = .ok (.iaload, 1) := by decide +kernel
theorem dX12_plant_118 : decode cX12_plant 118 = .ok (.istore 9, 2) := by decide +kernel
theorem dX12_plant_120 : decode cX12_plant 120 = .ok (.goto (-36), 3) := by decide +kernel
theorem dX12_plant_123 : decode cX12_plant 123 = .ok (.aload_n 0, 1) := by decide +kernel
theorem dX12_plant_124 : decode cX12_plant 124 = .ok (.getfield 78, 3) := by decide +kernel
theorem dX12_plant_127 : decode cX12_plant 127 = .ok (.iload 7, 2) := by decide +kernel
theorem dX12_plant_129 : decode cX12_plant 129 = .ok (.iload 9, 2) := by decide +kernel
theorem dX12_plant_131 : decode cX12_plant 131 = .ok (.iastore, 1) := by decide +kernel
theorem dX12_plant_132 : decode cX12_plant 132 = .ok (.iload 8, 2) := by decide +kernel
theorem dX12_plant_134 : decode cX12_plant 134 = .ok (.iconst (-1), 1) := by decide +kernel
theorem dX12_plant_135 : decode cX12_plant 135 = .ok (.if_icmp .ne 15, 3) := by decide +kernel
theorem dX12_plant_138 : decode cX12_plant 138 = .ok (.aload_n 0, 1) := by decide +kernel
theorem dX12_plant_139 : decode cX12_plant 139 = .ok (.getfield 75, 3) := by decide +kernel
theorem dX12_plant_142 : decode cX12_plant 142 = .ok (.iload 5, 2) := by decide +kernel
theorem dX12_plant_144 : decode cX12_plant 144 = .ok (.iload 7, 2) := by decide +kernel
theorem dX12_plant_146 : decode cX12_plant 146 = .ok (.iastore, 1) := by decide +kernel
theorem dX12_plant_147 : decode cX12_plant 147 = .ok (.goto 12, 3) := by decide +kernel
theorem dX12_plant_150 : decode cX12_plant 150 = .ok (.aload_n 0, 1) := by decide +kernel
theorem dX12_plant_151 : decode cX12_plant 151 = .ok (.getfield 78, 3) := by decide +kernel
theorem dX12_plant_154 : decode cX12_plant 154 = .ok (.iload 8, 2) := by decide +kernel
theorem dX12_plant_156 : decode cX12_plant 156 = .ok (.iload 7, 2) := by decide +kernel
theorem dX12_plant_158 : decode cX12_plant 158 = .ok (.iastore, 1) := by decide +kernel
theorem dX12_plant_159 : decode cX12_plant 159 = .ok (.return_, 1) := by decide +kernel
theorem dX12_grow_0 : decode cX12_grow 0 = .ok (.aload_n 0, 1) := by decide +kernel
theorem dX12_grow_1 : decode cX12_grow 1 = .ok (.getfield 90, 3) := by decide +kernel
theorem dX12_grow_4 : decode cX12_grow 4 = .ok (.aload_n 0, 1) := by decide +kernel
theorem dX12_grow_5 : decode cX12_grow 5 = .ok (.getfield 215, 3) := by decide +kernel
theorem dX12_grow_8 : decode cX12_grow 8 = .ok (.iadd, 1) := by decide +kernel
theorem dX12_grow_9 : decode cX12_grow 9 = .ok (.sipush 1500, 3) := by decide +kernel
theorem dX12_grow_12 : decode cX12_grow 12 = .ok (.if_icmp .gt 20, 3) := by decide +kernel
theorem dX12_grow_15 : decode cX12_grow 15 = .ok (.aload_n 0, 1) := by decide +kernel
theorem dX12_grow_16 : decode cX12_grow 16 = .ok (.getfield 97, 3) := by decide +kernel
theorem dX12_grow_19 : decode cX12_grow 19 = .ok (.aload_n 0, 1) := by decide +kernel
theorem dX12_grow_20 : decode cX12_grow 20 = .ok (.getfield 215, 3) := by decide +kernel
theorem dX12_grow_23 : decode cX12_grow 23 = .ok (.iadd, 1) := by decide +kernel
theorem dX12_grow_24 : decode cX12_grow 24 = .ok (.iconst 1, 1) := by decide +kernel
theorem dX12_grow_25 : decode cX12_grow 25 = .ok (.isub, 1) := by decide +kernel
theorem dX12_grow_26 : decode cX12_grow 26 = .ok (.sipush 4000, 3) := by decide +kernel
theorem dX12_grow_29 : decode cX12_grow 29 = .ok (.if_icmp .le 6, 3) := by decide +kernel
theorem dX12_grow_32 : decode cX12_grow 32 = .ok (.bipush (-4), 2) := by decide +kernel
theorem dX12_grow_34 : decode cX12_grow 34 = .ok (.ireturn, 1) := by decide +kernel
theorem dX12_grow_35 : decode cX12_grow 35 = .ok (.iconst 0, 1) := by decide +kernel
theorem dX12_grow_36 : decode cX12_grow 36 = .ok (.istore_n 1, 1) := by decide +kernel
theorem dX12_grow_37 : decode cX12_grow 37 = .ok (.aload_n 0, 1) := by decide +kernel
theorem dX12_grow_38 : decode cX12_grow 38 = .ok (.getfield 75, 3) := by decide +kernel
theorem dX12_grow_41 : decode cX12_grow 41 = .ok (.iload_n 1, 1) := by decide +kernel
theorem dX12_grow_42 : decode cX12_grow 42 = .ok (.iaload, 1) := by decide +kernel
theorem dX12_grow_43 : decode cX12_grow 43 = .ok (.iconst (-1), 1) := by decide +kernel
theorem dX12_grow_44 : decode cX12_grow 44 = .ok (.if_icmp .eq 13, 3) := by decide +kernel
theorem dX12_grow_47 : decode cX12_grow 47 = .ok (.aload_n 0, 1) := by decide +kernel
theorem dX12_grow_48 : decode cX12_grow 48 = .ok (.getfield 75, 3) := by decide +kernel
theorem dX12_grow_51 : decode cX12_grow 51 = .ok (.iload_n 1, 1) := by decide +kernel
theorem dX12_grow_52 : decode cX12_grow 52 = .ok (.iaload, 1) := by decide +kernel
theorem dX12_grow_53 : decode cX12_grow 53 = .ok (.istore_n 1, 1) := by decide +kernel
theorem dX12_grow_54 : decode cX12_grow 54 = .ok (.goto (-17), 3) := by decide +kernel
theorem dX12_grow_57 : decode cX12_grow 57 = .ok (.iload_n 1, 1) := by decide +kernel
theorem dX12_grow_58 : decode cX12_grow 58 = .ok (.iconst (-1), 1) := by decide +kernel
theorem dX12_grow_59 : decode cX12_grow 59 = .ok (.if_icmp .eq 115, 3) := by decide +kernel
theorem dX12_grow_62 : decode cX12_grow 62 = .ok (.aload_n 0, 1) := by decide +kernel
theorem dX12_grow_63 : decode cX12_grow 63 = .ok (.getfield 84, 3) := by decide +kernel
theorem dX12_grow_66 : decode cX12_grow 66 = .ok (.iload_n 1, 1) := by decide +kernel
theorem dX12_grow_67 : decode cX12_grow 67 = .ok (.aload_n 0, 1) := by decide +kernel
theorem dX12_grow_68 : decode cX12_grow 68 = .ok (.aload_n 0, 1) := by decide +kernel
theorem dX12_grow_69 : decode cX12_grow 69 = .ok (.getfield 66, 3) := by decide +kernel
theorem dX12_grow_72 : decode cX12_grow 72 = .ok (.iload_n 1, 1) := by decide +kernel
theorem dX12_grow_73 : decode cX12_grow 73 = .ok (.iaload, 1) := by decide +kernel
theorem dX12_grow_74 : decode cX12_grow 74 = .ok (.aload_n 0, 1) := by decide +kernel
theorem dX12_grow_75 : decode cX12_grow 75 = .ok (.getfield 69, 3) := by decide +kernel
theorem dX12_grow_78 : decode cX12_grow 78 = .ok (.iload_n 1, 1) := by decide +kernel
theorem dX12_grow_79 : decode cX12_grow 79 = .ok (.iaload, 1) := by decide +kernel
theorem dX12_grow_80 : decode cX12_grow 80 = .ok (.invokevirtual 100, 3) := by decide +kernel
theorem dX12_grow_83 : decode cX12_grow 83 = .ok (.iastore, 1) := by decide +kernel
theorem dX12_grow_84 : decode cX12_grow 84 = .ok (.aload_n 0, 1) := by decide +kernel
theorem dX12_grow_85 : decode cX12_grow 85 = .ok (.getfield 75, 3) := by decide +kernel
theorem dX12_grow_88 : decode cX12_grow 88 = .ok (.iload_n 1, 1) := by decide +kernel
theorem dX12_grow_89 : decode cX12_grow 89 = .ok (.iaload, 1) := by decide +kernel
theorem dX12_grow_90 : decode cX12_grow 90 = .ok (.istore_n 2, 1) := by decide +kernel
theorem dX12_grow_91 : decode cX12_grow 91 = .ok (.iload_n 2, 1) := by decide +kernel
theorem dX12_grow_92 : decode cX12_grow 92 = .ok (.iconst (-1), 1) := by decide +kernel
theorem dX12_grow_93 : decode cX12_grow 93 = .ok (.if_icmp .eq 30, 3) := by decide +kernel
theorem dX12_grow_96 : decode cX12_grow 96 = .ok (.aload_n 0, 1) := by decide +kernel
theorem dX12_grow_97 : decode cX12_grow 97 = .ok (.aload_n 0, 1) := by decide +kernel
theorem dX12_grow_98 : decode cX12_grow 98 = .ok (.getfield 84, 3) := by decide +kernel
theorem dX12_grow_101 : decode cX12_grow 101 = .ok (.iload_n 1, 1) := by decide +kernel
theorem dX12_grow_102 : decode cX12_grow 102 = .ok (.iaload, 1) := by decide +kernel
theorem dX12_grow_103 : decode cX12_grow 103 = .ok (.aload_n 0, 1) := by decide +kernel
theorem dX12_grow_104 : decode cX12_grow 104 = .ok (.getfield 84, 3) := by decide +kernel
theorem dX12_grow_107 : decode cX12_grow 107 = .ok (.iload_n 2, 1) := by decide +kernel
theorem dX12_grow_108 : decode cX12_grow 108 = .ok (.iaload, 1) := by decide +kernel
theorem dX12_grow_109 : decode cX12_grow 109 = .ok (.invokevirtual 108, 3) := by decide +kernel
theorem dX12_grow_112 : decode cX12_grow 112 = .ok (.pop, 1) := by decide +kernel
theorem dX12_grow_113 : decode cX12_grow 113 = .ok (.aload_n 0, 1) := by decide +kernel
theorem dX12_grow_114 : decode cX12_grow 114 = .ok (.getfield 78, 3) := by decide +kernel
theorem dX12_grow_117 : decode cX12_grow 117 = .ok (.iload_n 2, 1) := by decide +kernel
theorem dX12_grow_118 : decode cX12_grow 118 = .ok (.iaload, 1) := by decide +kernel
theorem dX12_grow_119 : decode cX12_grow 119 = .ok (.istore_n 2, 1) := by decide +kernel
theorem dX12_grow_120 : decode cX12_grow 120 = .ok (.goto (-29), 3) := by decide +kernel
theorem dX12_grow_123 : decode cX12_grow 123 = .ok (.aload_n 0, 1) := by decide +kernel
theorem dX12_grow_124 : decode cX12_grow 124 = .ok (.getfield 78, 3) := by decide +kernel
theorem dX12_grow_127 : decode cX12_grow 127 = .ok (.iload_n 1, 1) := by decide +kernel
theorem dX12_grow_128 : decode cX12_grow 128 = .ok (.iaload, 1) := by decide +kernel
theorem dX12_grow_129 : decode cX12_grow 129 = .ok (.iconst (-1), 1) := by decide +kernel
theorem dX12_grow_130 : decode cX12_grow 130 = .ok (.if_icmp .eq 7, 3) := by decide +kernel
theorem dX12_grow_133 : decode cX12_grow 133 = .ok (.iload_n 1, 1) := by decide +kernel
theorem dX12_grow_134 : decode cX12_grow 134 = .ok (.ifCond .ne 13, 3) := by decide +kernel
theorem dX12_grow_137 : decode cX12_grow 137 = .ok (.aload_n 0, 1) := by decide +kernel
theorem dX12_grow_138 : decode cX12_grow 138 = .ok (.getfield 81, 3) := by decide +kernel
theorem dX12_grow_141 : decode cX12_grow 141 = .ok (.iload_n 1, 1) := by decide +kernel
theorem dX12_grow_142 : decode cX12_grow 142 = .ok (.iaload, 1) := by decide +kernel
theorem dX12_grow_143 : decode cX12_grow 143 = .ok (.istore_n 1, 1) := by decide +kernel
theorem dX12_grow_144 : decode cX12_grow 144 = .ok (.goto (-87), 3) := by decide +kernel
theorem dX12_grow_147 : decode cX12_grow 147 = .ok (.aload_n 0, 1) := by decide +kernel
theorem dX12_grow_148 : decode cX12_grow 148 = .ok (.getfield 78, 3) := by decide +kernel
theorem dX12_grow_151 : decode cX12_grow 151 = .ok (.iload_n 1, 1) := by decide +kernel
theorem dX12_grow_152 : decode cX12_grow 152 = .ok (.iaload, 1) := by decide +kernel
theorem dX12_grow_153 : decode cX12_grow 153 = .ok (.istore_n 1, 1) := by decide +kernel
theorem dX12_grow_154 : decode cX12_grow 154 = .ok (.aload_n 0, 1) := by decide +kernel
theorem dX12_grow_155 : decode cX12_grow 155 = .ok (.getfield 75, 3) := by decide +kernel
theorem dX12_grow_158 : decode cX12_grow 158 = .ok (.iload_n 1, 1) := by decide +kernel
theorem dX12_grow_159 : decode cX12_grow 159 = .ok (.iaload, 1) := by decide +kernel
theorem dX12_grow_160 : decode cX12_grow 160 = .ok (.iconst (-1), 1) := by decide +kernel
theorem dX12_grow_161 : decode cX12_grow 161 = .ok (.if_icmp .eq (-104), 3) := by decide +kernel
theorem dX12_grow_164 : decode cX12_grow 164 = .ok (.aload_n 0, 1) := by decide +kernel
theorem dX12_grow_165 : decode cX12_grow 165 = .ok (.getfield 75, 3) := by decide +kernel
theorem dX12_grow_168 : decode cX12_grow 168 = .ok (.iload_n 1, 1) := by decide +kernel
theorem dX12_grow_169 : decode cX12_grow 169 = .ok (.iaload, 1) := by decide +kernel
theorem dX12_grow_170 : decode cX12_grow 170 = .ok (.istore_n 1, 1) := by decide +kernel
theorem dX12_grow_171 : decode cX12_grow 171 = .ok (.goto (-17), 3) := by decide +kernel
theorem dX12_grow_174 : decode cX12_grow 174 = .ok (.aload_n 0, 1) := by decide +kernel
theorem dX12_grow_175 : decode cX12_grow 175 = .ok (.getfield 84, 3) := by decide +kernel
theorem dX12_grow_178 : decode cX12_grow 178 = .ok (.iconst 0, 1) := by decide +kernel
theorem dX12_grow_179 : decode cX12_grow 179 = .ok (.iaload, 1) := by decide +kernel
theorem dX12_grow_180 : decode cX12_grow 180 = .ok (.ireturn, 1) := by decide +kernel
theorem dX12_build_0 : decode cX12_build 0 = .ok (.aload_n 0, 1) := by decide +kernel
theorem dX12_build_1 : decode cX12_build 1 = .ok (.iconst 0, 1) := by decide +kernel
theorem dX12_build_2 : decode cX12_build 2 = .ok (.putfield 215, 3) := by decide +kernel
theorem dX12_build_5 : decode cX12_build 5 = .ok (.ldc 218, 2) := by decide +kernel
theorem dX12_build_7 : decode cX12_build 7 = .ok (.istore 4, 2) := by decide +kernel
theorem dX12_build_9 : decode cX12_build 9 = .ok (.iconst 0, 1) := by decide +kernel
theorem dX12_build_10 : decode cX12_build 10 = .ok (.istore 5, 2) := by decide +kernel
theorem dX12_build_12 : decode cX12_build 12 = .ok (.iload 5, 2) := by decide +kernel
theorem dX12_build_14 : decode cX12_build 14 = .ok (.aload_n 0, 1) := by decide +kernel
theorem dX12_build_15 : decode cX12_build 15 = .ok (.getfield 148, 3) := by decide +kernel
theorem dX12_build_18 : decode cX12_build 18 = .ok (.if_icmp .ge 155, 3) := by decide +kernel
theorem dX12_build_21 : decode cX12_build 21 = .ok (.aload_n 0, 1) := by decide +kernel
theorem dX12_build_22 : decode cX12_build 22 = .ok (.getfield 54, 3) := by decide +kernel
theorem dX12_build_25 : decode cX12_build 25 = .ok (.iload 5, 2) := by decide +kernel
theorem dX12_build_27 : decode cX12_build 27 = .ok (.iaload, 1) := by decide +kernel
theorem dX12_build_28 : decode cX12_build 28 = .ok (.istore 6, 2) := by decide +kernel
theorem dX12_build_30 : decode cX12_build 30 = .ok (.aload_n 0, 1) := by decide +kernel
theorem dX12_build_31 : decode cX12_build 31 = .ok (.getfield 57, 3) := by decide +kernel
theorem dX12_build_34 : decode cX12_build 34 = .ok (.iload 5, 2) := by decide +kernel
theorem dX12_build_36 : decode cX12_build 36 = .ok (.iaload, 1) := by decide +kernel
theorem dX12_build_37 : decode cX12_build 37 = .ok (.istore 7, 2) := by decide +kernel
theorem dX12_build_39 : decode cX12_build 39 = .ok (.iload 7, 2) := by decide +kernel
theorem dX12_build_41 : decode cX12_build 41 = .ok (.iload 4, 2) := by decide +kernel
theorem dX12_build_43 : decode cX12_build 43 = .ok (.if_icmp .le 6, 3) := by decide +kernel
theorem dX12_build_46 : decode cX12_build 46 = .ok (.goto 121, 3) := by decide +kernel
theorem dX12_build_49 : decode cX12_build 49 = .ok (.iload_n 1, 1) := by decide +kernel
theorem dX12_build_50 : decode cX12_build 50 = .ok (.ifCond .eq 34, 3) := by decide +kernel
theorem dX12_build_53 : decode cX12_build 53 = .ok (.iload 5, 2) := by decide +kernel
theorem dX12_build_55 : decode cX12_build 55 = .ok (.ifCond .le 29, 3) := by decide +kernel
theorem dX12_build_58 : decode cX12_build 58 = .ok (.aload_n 0, 1) := by decide +kernel
theorem dX12_build_59 : decode cX12_build 59 = .ok (.getfield 7, 3) := by decide +kernel
theorem dX12_build_62 : decode cX12_build 62 = .ok (.iload 6, 2) := by decide +kernel
theorem dX12_build_64 : decode cX12_build 64 = .ok (.iaload, 1) := by decide +kernel
theorem dX12_build_65 : decode cX12_build 65 = .ok (.ifCond .ne 19, 3) := by decide +kernel
theorem dX12_build_68 : decode cX12_build 68 = .ok (.aload_n 0, 1) := by decide +kernel
theorem dX12_build_69 : decode cX12_build 69 = .ok (.getfield 13, 3) := by decide +kernel
theorem dX12_build_72 : decode cX12_build 72 = .ok (.iload 6, 2) := by decide +kernel
theorem dX12_build_74 : decode cX12_build 74 = .ok (.iaload, 1) := by decide +kernel
theorem dX12_build_75 : decode cX12_build 75 = .ok (.iload_n 2, 1) := by decide +kernel
theorem dX12_build_76 : decode cX12_build 76 = .ok (.if_icmp .le 8, 3) := by decide +kernel
theorem dX12_build_79 : decode cX12_build 79 = .ok (.iload 7, 2) := by decide +kernel
theorem dX12_build_81 : decode cX12_build 81 = .ok (.goto 5, 3) := by decide +kernel
theorem dX12_build_84 : decode cX12_build 84 = .ok (.ldc 218, 2) := by decide +kernel
theorem dX12_build_86 : decode cX12_build 86 = .ok (.istore 4, 2) := by decide +kernel
theorem dX12_build_88 : decode cX12_build 88 = .ok (.iload 4, 2) := by decide +kernel
theorem dX12_build_90 : decode cX12_build 90 = .ok (.iload 7, 2) := by decide +kernel
theorem dX12_build_92 : decode cX12_build 92 = .ok (.if_icmp .ne 6, 3) := by decide +kernel
theorem dX12_build_95 : decode cX12_build 95 = .ok (.goto 72, 3) := by decide +kernel
theorem dX12_build_98 : decode cX12_build 98 = .ok (.aload_n 0, 1) := by decide +kernel
theorem dX12_build_99 : decode cX12_build 99 = .ok (.getfield 215, 3) := by decide +kernel
theorem dX12_build_102 : decode cX12_build 102 = .ok (.sipush 1500, 3) := by decide +kernel
theorem dX12_build_105 : decode cX12_build 105 = .ok (.if_icmp .le 6, 3) := by decide +kernel
theorem dX12_build_108 : decode cX12_build 108 = .ok (.bipush (-4), 2) := by decide +kernel
theorem dX12_build_110 : decode cX12_build 110 = .ok (.ireturn, 1) := by decide +kernel
theorem dX12_build_111 : decode cX12_build 111 = .ok (.aload_n 0, 1) := by decide +kernel
theorem dX12_build_112 : decode cX12_build 112 = .ok (.getfield 87, 3) := by decide +kernel
theorem dX12_build_115 : decode cX12_build 115 = .ok (.iload 7, 2) := by decide +kernel
theorem dX12_build_117 : decode cX12_build 117 = .ok (.aload_n 0, 1) := by decide +kernel
theorem dX12_build_118 : decode cX12_build 118 = .ok (.getfield 215, 3) := by decide +kernel
theorem dX12_build_121 : decode cX12_build 121 = .ok (.iastore, 1) := by decide +kernel
theorem dX12_build_122 : decode cX12_build 122 = .ok (.aload_n 0, 1) := by decide +kernel
theorem dX12_build_123 : decode cX12_build 123 = .ok (.aload_n 0, 1) := by decide +kernel
theorem dX12_build_124 : decode cX12_build 124 = .ok (.getfield 7, 3) := by decide +kernel
theorem dX12_build_127 : decode cX12_build 127 = .ok (.iload 6, 2) := by decide +kernel
theorem dX12_build_129 : decode cX12_build 129 = .ok (.iaload, 1) := by decide +kernel
theorem dX12_build_130 : decode cX12_build 130 = .ok (.aload_n 0, 1) := by decide +kernel
theorem dX12_build_131 : decode cX12_build 131 = .ok (.getfield 13, 3) := by decide +kernel
theorem dX12_build_134 : decode cX12_build 134 = .ok (.iload 6, 2) := by decide +kernel
theorem dX12_build_136 : decode cX12_build 136 = .ok (.iaload, 1) := by decide +kernel
theorem dX12_build_137 : decode cX12_build 137 = .ok (.aload_n 0, 1) := by decide +kernel
theorem dX12_build_138 : decode cX12_build 138 = .ok (.getfield 42, 3) := by decide +kernel
theorem dX12_build_141 : decode cX12_build 141 = .ok (.iload 6, 2) := by decide +kernel
theorem dX12_build_143 : decode cX12_build 143 = .ok (.laload, 1) := by decide +kernel
theorem dX12_build_144 : decode cX12_build 144 = .ok (.iload 7, 2) := by decide +kernel
theorem dX12_build_146 : decode cX12_build 146 = .ok (.iconst 1, 1) := by decide +kernel
theorem dX12_build_147 : decode cX12_build 147 = .ok (.if_icmp .ne 7, 3) := by decide +kernel
theorem dX12_build_150 : decode cX12_build 150 = .ok (.iconst (-1), 1) := by decide +kernel
theorem dX12_build_151 : decode cX12_build 151 = .ok (.goto 12, 3) := by decide +kernel
theorem dX12_build_154 : decode cX12_build 154 = .ok (.aload_n 0, 1) := by decide +kernel
theorem dX12_build_155 : decode cX12_build 155 = .ok (.getfield 87, 3) := by decide +kernel
theorem dX12_build_158 : decode cX12_build 158 = .ok (.iload 7, 2) := by decide +kernel
theorem dX12_build_160 : decode cX12_build 160 = .ok (.iconst 1, 1) := by decide +kernel
theorem dX12_build_161 : decode cX12_build 161 = .ok (.isub, 1) := by decide +kernel
theorem dX12_build_162 : decode cX12_build 162 = .ok (.iaload, 1) := by decide +kernel
theorem dX12_build_163 : decode cX12_build 163 = .ok (.iload_n 3, 1) := by decide +kernel
theorem dX12_build_164 : decode cX12_build 164 = .ok (.invokevirtual 219, 3) := by decide +kernel
theorem dX12_build_167 : decode cX12_build 167 = .ok (.iinc 5 1, 3) := by decide +kernel
theorem dX12_build_170 : decode cX12_build 170 = .ok (.goto (-158), 3) := by decide +kernel
theorem dX12_build_173 : decode cX12_build 173 = .ok (.aload_n 0, 1) := by decide +kernel
theorem dX12_build_174 : decode cX12_build 174 = .ok (.invokevirtual 223, 3) := by decide +kernel
theorem dX12_build_177 : decode cX12_build 177 = .ok (.ireturn, 1) := by decide +kernel
theorem dX12_anew_0 : decode cX12_anew 0 = .ok (.aload_n 0, 1) := by decide +kernel
theorem dX12_anew_1 : decode cX12_anew 1 = .ok (.iload_n 1, 1) := by decide +kernel
theorem dX12_anew_2 : decode cX12_anew 2 = .ok (.invokevirtual 104, 3) := by decide +kernel
theorem dX12_anew_5 : decode cX12_anew 5 = .ok (.ifCond .ne 8, 3) := by decide +kernel
theorem dX12_anew_8 : decode cX12_anew 8 = .ok (.aload_n 0, 1) := by decide +kernel
theorem dX12_anew_9 : decode cX12_anew 9 = .ok (.invokevirtual 182, 3) := by decide +kernel
theorem dX12_anew_12 : decode cX12_anew 12 = .ok (.ireturn, 1) := by decide +kernel
theorem dX12_anew_13 : decode cX12_anew 13 = .ok (.aload_n 0, 1) := by decide +kernel
theorem dX12_anew_14 : decode cX12_anew 14 = .ok (.iload_n 1, 1) := by decide +kernel
theorem dX12_anew_15 : decode cX12_anew 15 = .ok (.invokevirtual 188, 3) := by decide +kernel
theorem dX12_anew_18 : decode cX12_anew 18 = .ok (.aload_n 0, 1) := by decide +kernel
theorem dX12_anew_19 : decode cX12_anew 19 = .ok (.iload_n 1, 1) := by decide +kernel
theorem dX12_anew_20 : decode cX12_anew 20 = .ok (.invokevirtual 185, 3) := by decide +kernel
theorem dX12_anew_23 : decode cX12_anew 23 = .ok (.ifCond .eq 10, 3) := by decide +kernel
theorem dX12_anew_26 : decode cX12_anew 26 = .ok (.aload_n 0, 1) := by decide +kernel
theorem dX12_anew_27 : decode cX12_anew 27 = .ok (.getfield 154, 3) := by decide +kernel
theorem dX12_anew_30 : decode cX12_anew 30 = .ok (.goto 11, 3) := by decide +kernel
theorem dX12_anew_33 : decode cX12_anew 33 = .ok (.aload_n 0, 1) := by decide +kernel
theorem dX12_anew_34 : decode cX12_anew 34 = .ok (.iload_n 2, 1) := by decide +kernel
theorem dX12_anew_35 : decode cX12_anew 35 = .ok (.iload_n 3, 1) := by decide +kernel
theorem dX12_anew_36 : decode cX12_anew 36 = .ok (.iload 4, 2) := by decide +kernel
theorem dX12_anew_38 : decode cX12_anew 38 = .ok (.invokevirtual 226, 3) := by decide +kernel
theorem dX12_anew_41 : decode cX12_anew 41 = .ok (.ireturn, 1) := by decide +kernel
theorem dX12_copy_0 : decode cX12_copy 0 = .ok (.aload_n 0, 1) := by decide +kernel
theorem dX12_copy_1 : decode cX12_copy 1 = .ok (.iload_n 1, 1) := by decide +kernel
theorem dX12_copy_2 : decode cX12_copy 2 = .ok (.iconst 0, 1) := by decide +kernel
theorem dX12_copy_3 : decode cX12_copy 3 = .ok (.iconst 0, 1) := by decide +kernel
theorem dX12_copy_4 : decode cX12_copy 4 = .ok (.iconst 0, 1) := by decide +kernel
theorem dX12_copy_5 : decode cX12_copy 5 = .ok (.invokevirtual 230, 3) := by decide +kernel
theorem dX12_copy_8 : decode cX12_copy 8 = .ok (.ireturn, 1) := by decide +kernel
theorem dX12_thin_0 : decode cX12_thin 0 = .ok (.aload_n 0, 1) := by decide +kernel
theorem dX12_thin_1 : decode cX12_thin 1 = .ok (.iload_n 1, 1) := by decide +kernel
theorem dX12_thin_2 : decode cX12_thin 2 = .ok (.iconst 1, 1) := by decide +kernel
theorem dX12_thin_3 : decode cX12_thin 3 = .ok (.iload_n 2, 1) := by decide +kernel
theorem dX12_thin_4 : decode cX12_thin 4 = .ok (.iconst 0, 1) := by decide +kernel
theorem dX12_thin_5 : decode cX12_thin 5 = .ok (.invokevirtual 230, 3) := by decide +kernel
theorem dX12_thin_8 : decode cX12_thin 8 = .ok (.ireturn, 1) := by decide +kernel
theorem dX12_order_0 : decode cX12_order 0 = .ok (.aload_n 0, 1) := by decide +kernel
theorem dX12_order_1 : decode cX12_order 1 = .ok (.iload_n 1, 1) := by decide +kernel
theorem dX12_order_2 : decode cX12_order 2 = .ok (.iconst 0, 1) := by decide +kernel
theorem dX12_order_3 : decode cX12_order 3 = .ok (.iconst 0, 1) := by decide +kernel
theorem dX12_order_4 : decode cX12_order 4 = .ok (.iconst 1, 1) := by decide +kernel
theorem dX12_order_5 : decode cX12_order 5 = .ok (.invokevirtual 230, 3) := by decide +kernel
theorem dX12_order_8 : decode cX12_order 8 = .ok (.ireturn, 1) := by decide +kernel
theorem dX12_feed_0 : decode cX12_feed 0 = .ok (.iload_n 3, 1) := by decide +kernel
theorem dX12_feed_1 : decode cX12_feed 1 = .ok (.iconst 1, 1) := by decide +kernel
theorem dX12_feed_2 : decode cX12_feed 2 = .ok (.bipush 8, 2) := by decide +kernel
theorem dX12_feed_4 : decode cX12_feed 4 = .ok (.invokestatic 93, 3) := by decide +kernel
theorem dX12_feed_7 : decode cX12_feed 7 = .ok (.ifCond .ne 6, 3) := by decide +kernel
theorem dX12_feed_10 : decode cX12_feed 10 = .ok (.bipush (-2), 2) := by decide +kernel
theorem dX12_feed_12 : decode cX12_feed 12 = .ok (.ireturn, 1) := by decide +kernel
theorem dX12_feed_13 : decode cX12_feed 13 = .ok (.aload_n 0, 1) := by decide +kernel
theorem dX12_feed_14 : decode cX12_feed 14 = .ok (.getfield 212, 3) := by decide +kernel
theorem dX12_feed_17 : decode cX12_feed 17 = .ok (.iload_n 3, 1) := by decide +kernel
theorem dX12_feed_18 : decode cX12_feed 18 = .ok (.iadd, 1) := by decide +kernel
theorem dX12_feed_19 : decode cX12_feed 19 = .ok (.sipush 6000, 3) := by decide +kernel
theorem dX12_feed_22 : decode cX12_feed 22 = .ok (.if_icmp .le 6, 3) := by decide +kernel
theorem dX12_feed_25 : decode cX12_feed 25 = .ok (.bipush (-4), 2) := by decide +kernel
theorem dX12_feed_27 : decode cX12_feed 27 = .ok (.ireturn, 1) := by decide +kernel
theorem dX12_feed_28 : decode cX12_feed 28 = .ok (.iload_n 3, 1) := by decide +kernel
theorem dX12_feed_29 : decode cX12_feed 29 = .ok (.iconst 1, 1) := by decide +kernel
theorem dX12_feed_30 : decode cX12_feed 30 = .ok (.isub, 1) := by decide +kernel
theorem dX12_feed_31 : decode cX12_feed 31 = .ok (.istore 4, 2) := by decide +kernel
theorem dX12_feed_33 : decode cX12_feed 33 = .ok (.iload 4, 2) := by decide +kernel
theorem dX12_feed_35 : decode cX12_feed 35 = .ok (.ifCond .lt 40, 3) := by decide +kernel
theorem dX12_feed_38 : decode cX12_feed 38 = .ok (.aload_n 0, 1) := by decide +kernel
theorem dX12_feed_39 : decode cX12_feed 39 = .ok (.getfield 35, 3) := by decide +kernel
theorem dX12_feed_42 : decode cX12_feed 42 = .ok (.aload_n 0, 1) := by decide +kernel
theorem dX12_feed_43 : decode cX12_feed 43 = .ok (.getfield 212, 3) := by decide +kernel
theorem dX12_feed_46 : decode cX12_feed 46 = .ok (.lload_n 1, 1) := by decide +kernel
theorem dX12_feed_47 : decode cX12_feed 47 = .ok (.bipush 8, 2) := by decide +kernel
theorem dX12_feed_49 : decode cX12_feed 49 = .ok (.iload 4, 2) := by decide +kernel
theorem dX12_feed_51 : decode cX12_feed 51 = .ok (.imul, 1) := by decide +kernel
theorem dX12_feed_52 : decode cX12_feed 52 = .ok (.lshr, 1) := by decide +kernel
theorem dX12_feed_53 : decode cX12_feed 53 = .ok (.ldc2_w 234, 3) := by decide +kernel
theorem dX12_feed_56 : decode cX12_feed 56 = .ok (.land, 1) := by decide +kernel
theorem dX12_feed_57 : decode cX12_feed 57 = .ok (.l2i, 1) := by decide +kernel
theorem dX12_feed_58 : decode cX12_feed 58 = .ok (.iastore, 1) := by decide +kernel
theorem dX12_feed_59 : decode cX12_feed 59 = .ok (.aload_n 0, 1) := by decide +kernel
theorem dX12_feed_60 : decode cX12_feed 60 = .ok (.dup, 1) := by decide +kernel
theorem dX12_feed_61 : decode cX12_feed 61 = .ok (.getfield 212, 3) := by decide +kernel
theorem dX12_feed_64 : decode cX12_feed 64 = .ok (.iconst 1, 1) := by decide +kernel
theorem dX12_feed_65 : decode cX12_feed 65 = .ok (.iadd, 1) := by decide +kernel
theorem dX12_feed_66 : decode cX12_feed 66 = .ok (.putfield 212, 3) := by decide +kernel
theorem dX12_feed_69 : decode cX12_feed 69 = .ok (.iinc 4 (-1), 3) := by decide +kernel
theorem dX12_feed_72 : decode cX12_feed 72 = .ok (.goto (-39), 3) := by decide +kernel
theorem dX12_feed_75 : decode cX12_feed 75 = .ok (.aload_n 0, 1) := by decide +kernel
theorem dX12_feed_76 : decode cX12_feed 76 = .ok (.getfield 212, 3) := by decide +kernel
theorem dX12_feed_79 : decode cX12_feed 79 = .ok (.ireturn, 1) := by decide +kernel
theorem dX12_tear_0 : decode cX12_tear 0 = .ok (.aload_n 0, 1) := by decide +kernel
theorem dX12_tear_1 : decode cX12_tear 1 = .ok (.getfield 212, 3) := by decide +kernel
theorem dX12_tear_4 : decode cX12_tear 4 = .ok (.istore_n 1, 1) := by decide +kernel
theorem dX12_tear_5 : decode cX12_tear 5 = .ok (.aload_n 0, 1) := by decide +kernel
theorem dX12_tear_6 : decode cX12_tear 6 = .ok (.iconst 0, 1) := by decide +kernel
theorem dX12_tear_7 : decode cX12_tear 7 = .ok (.putfield 212, 3) := by decide +kernel
theorem dX12_tear_10 : decode cX12_tear 10 = .ok (.iload_n 1, 1) := by decide +kernel
theorem dX12_tear_11 : decode cX12_tear 11 = .ok (.ireturn, 1) := by decide +kernel
theorem dX12_byteAt_0 : decode cX12_byteAt 0 = .ok (.iload_n 1, 1) := by decide +kernel
theorem dX12_byteAt_1 : decode cX12_byteAt 1 = .ok (.iconst 0, 1) := by decide +kernel
theorem dX12_byteAt_2 : decode cX12_byteAt 2 = .ok (.aload_n 0, 1) := by decide +kernel
theorem dX12_byteAt_3 : decode cX12_byteAt 3 = .ok (.getfield 212, 3) := by decide +kernel
theorem dX12_byteAt_6 : decode cX12_byteAt 6 = .ok (.iconst 1, 1) := by decide +kernel
theorem dX12_byteAt_7 : decode cX12_byteAt 7 = .ok (.isub, 1) := by decide +kernel
theorem dX12_byteAt_8 : decode cX12_byteAt 8 = .ok (.invokestatic 93, 3) := by decide +kernel
theorem dX12_byteAt_11 : decode cX12_byteAt 11 = .ok (.ifCond .eq 12, 3) := by decide +kernel
theorem dX12_byteAt_14 : decode cX12_byteAt 14 = .ok (.aload_n 0, 1) := by decide +kernel
theorem dX12_byteAt_15 : decode cX12_byteAt 15 = .ok (.getfield 35, 3) := by decide +kernel
theorem dX12_byteAt_18 : decode cX12_byteAt 18 = .ok (.iload_n 1, 1) := by decide +kernel
theorem dX12_byteAt_19 : decode cX12_byteAt 19 = .ok (.iaload, 1) := by decide +kernel
theorem dX12_byteAt_20 : decode cX12_byteAt 20 = .ok (.goto 4, 3) := by decide +kernel
theorem dX12_byteAt_23 : decode cX12_byteAt 23 = .ok (.iconst (-1), 1) := by decide +kernel
theorem dX12_byteAt_24 : decode cX12_byteAt 24 = .ok (.ireturn, 1) := by decide +kernel
theorem dX12_now_0 : decode cX12_now 0 = .ok (.aload_n 0, 1) := by decide +kernel
theorem dX12_now_1 : decode cX12_now 1 = .ok (.getfield 236, 3) := by decide +kernel
theorem dX12_now_4 : decode cX12_now 4 = .ok (.aload_n 0, 1) := by decide +kernel
theorem dX12_now_5 : decode cX12_now 5 = .ok (.getfield 212, 3) := by decide +kernel
theorem dX12_now_8 : decode cX12_now 8 = .ok (.if_icmp .ge 15, 3) := by decide +kernel
theorem dX12_now_11 : decode cX12_now 11 = .ok (.aload_n 0, 1) := by decide +kernel
theorem dX12_now_12 : decode cX12_now 12 = .ok (.getfield 35, 3) := by decide +kernel
theorem dX12_now_15 : decode cX12_now 15 = .ok (.aload_n 0, 1) := by decide +kernel
theorem dX12_now_16 : decode cX12_now 16 = .ok (.getfield 236, 3) := by decide +kernel
theorem dX12_now_19 : decode cX12_now 19 = .ok (.iaload, 1) := by decide +kernel
theorem dX12_now_20 : decode cX12_now 20 = .ok (.goto 4, 3) := by decide +kernel
theorem dX12_now_23 : decode cX12_now 23 = .ok (.iconst (-1), 1) := by decide +kernel
theorem dX12_now_24 : decode cX12_now 24 = .ok (.ireturn, 1) := by decide +kernel
theorem dX12_isFigure_0 : decode cX12_isFigure 0 = .ok (.aload_n 0, 1) := by decide +kernel
theorem dX12_isFigure_1 : decode cX12_isFigure 1 = .ok (.invokevirtual 239, 3) := by decide +kernel
theorem dX12_isFigure_4 : decode cX12_isFigure 4 = .ok (.bipush 48, 2) := by decide +kernel
theorem dX12_isFigure_6 : decode cX12_isFigure 6 = .ok (.bipush 57, 2) := by decide +kernel
theorem dX12_isFigure_8 : decode cX12_isFigure 8 = .ok (.invokestatic 93, 3) := by decide +kernel
theorem dX12_isFigure_11 : decode cX12_isFigure 11 = .ok (.ireturn, 1) := by decide +kernel
theorem dX12_figures_0 : decode cX12_figures 0 = .ok (.aload_n 0, 1) := by decide +kernel
theorem dX12_figures_1 : decode cX12_figures 1 = .ok (.getfield 236, 3) := by decide +kernel
theorem dX12_figures_4 : decode cX12_figures 4 = .ok (.istore_n 1, 1) := by decide +kernel
theorem dX12_figures_5 : decode cX12_figures 5 = .ok (.aload_n 0, 1) := by decide +kernel
theorem dX12_figures_6 : decode cX12_figures 6 = .ok (.invokevirtual 239, 3) := by decide +kernel
theorem dX12_figures_9 : decode cX12_figures 9 = .ok (.bipush 45, 2) := by decide +kernel
theorem dX12_figures_11 : decode cX12_figures 11 = .ok (.if_icmp .ne 7, 3) := by decide +kernel
theorem dX12_figures_14 : decode cX12_figures 14 = .ok (.iconst 1, 1) := by decide +kernel
theorem dX12_figures_15 : decode cX12_figures 15 = .ok (.goto 4, 3) := by decide +kernel
theorem dX12_figures_18 : decode cX12_figures 18 = .ok (.iconst 0, 1) := by decide +kernel
theorem dX12_figures_19 : decode cX12_figures 19 = .ok (.istore_n 2, 1) := by decide +kernel
theorem dX12_figures_20 : decode cX12_figures 20 = .ok (.iload_n 2, 1) := by decide +kernel
theorem dX12_figures_21 : decode cX12_figures 21 = .ok (.ifCond .eq 13, 3) := by decide +kernel
theorem dX12_figures_24 : decode cX12_figures 24 = .ok (.aload_n 0, 1) := by decide +kernel
theorem dX12_figures_25 : decode cX12_figures 25 = .ok (.dup, 1) := by decide +kernel
theorem dX12_figures_26 : decode cX12_figures 26 = .ok (.getfield 236, 3) := by decide +kernel
theorem dX12_figures_29 : decode cX12_figures 29 = .ok (.iconst 1, 1) := by decide +kernel
theorem dX12_figures_30 : decode cX12_figures 30 = .ok (.iadd, 1) := by decide +kernel
theorem dX12_figures_31 : decode cX12_figures 31 = .ok (.putfield 236, 3) := by decide +kernel
theorem dX12_figures_34 : decode cX12_figures 34 = .ok (.aload_n 0, 1) := by decide +kernel
theorem dX12_figures_35 : decode cX12_figures 35 = .ok (.invokevirtual 242, 3) := by decide +kernel
theorem dX12_figures_38 : decode cX12_figures 38 = .ok (.ifCond .eq 16, 3) := by decide +kernel
theorem dX12_figures_41 : decode cX12_figures 41 = .ok (.iload_n 2, 1) := by decide +kernel
theorem dX12_figures_42 : decode cX12_figures 42 = .ok (.ifCond .eq 22, 3) := by decide +kernel
theorem dX12_figures_45 : decode cX12_figures 45 = .ok (.aload_n 0, 1) := by decide +kernel
theorem dX12_figures_46 : decode cX12_figures 46 = .ok (.invokevirtual 239, 3) := by decide +kernel
theorem dX12_figures_49 : decode cX12_figures 49 = .ok (.bipush 48, 2) := by decide +kernel
theorem dX12_figures_51 : decode cX12_figures 51 = .ok (.if_icmp .ne 13, 3) := by decide +kernel
theorem dX12_figures_54 : decode cX12_figures 54 = .ok (.aload_n 0, 1) := by decide +kernel
theorem dX12_figures_55 : decode cX12_figures 55 = .ok (.aload_n 0, 1) := by decide +kernel
theorem dX12_figures_56 : decode cX12_figures 56 = .ok (.getfield 236, 3) := by decide +kernel
theorem dX12_figures_59 : decode cX12_figures 59 = .ok (.putfield 246, 3) := by decide +kernel
theorem dX12_figures_62 : decode cX12_figures 62 = .ok (.iconst 0, 1) := by decide +kernel
theorem dX12_figures_63 : decode cX12_figures 63 = .ok (.ireturn, 1) := by decide +kernel
theorem dX12_figures_64 : decode cX12_figures 64 = .ok (.aload_n 0, 1) := by decide +kernel
theorem dX12_figures_65 : decode cX12_figures 65 = .ok (.invokevirtual 239, 3) := by decide +kernel
theorem dX12_figures_68 : decode cX12_figures 68 = .ok (.bipush 48, 2) := by decide +kernel
theorem dX12_figures_70 : decode cX12_figures 70 = .ok (.if_icmp .ne 37, 3) := by decide +kernel
theorem dX12_figures_73 : decode cX12_figures 73 = .ok (.aload_n 0, 1) := by decide +kernel
theorem dX12_figures_74 : decode cX12_figures 74 = .ok (.dup, 1) := by decide +kernel
theorem dX12_figures_75 : decode cX12_figures 75 = .ok (.getfield 236, 3) := by decide +kernel
theorem dX12_figures_78 : decode cX12_figures 78 = .ok (.iconst 1, 1) := by decide +kernel
theorem dX12_figures_79 : decode cX12_figures 79 = .ok (.iadd, 1) := by decide +kernel
theorem dX12_figures_80 : decode cX12_figures 80 = .ok (.putfield 236, 3) := by decide +kernel
theorem dX12_figures_83 : decode cX12_figures 83 = .ok (.aload_n 0, 1) := by decide +kernel
theorem dX12_figures_84 : decode cX12_figures 84 = .ok (.aload_n 0, 1) := by decide +kernel
theorem dX12_figures_85 : decode cX12_figures 85 = .ok (.invokevirtual 242, 3) := by decide +kernel
theorem dX12_figures_88 : decode cX12_figures 88 = .ok (.ifCond .eq 10, 3) := by decide +kernel
theorem dX12_figures_91 : decode cX12_figures 91 = .ok (.aload_n 0, 1) := by decide +kernel
theorem dX12_figures_92 : decode cX12_figures 92 = .ok (.getfield 236, 3) := by decide +kernel
theorem dX12_figures_95 : decode cX12_figures 95 = .ok (.goto 7, 3) := by decide +kernel
theorem dX12_figures_98 : decode cX12_figures 98 = .ok (.aload_n 0, 1) := by decide +kernel
theorem dX12_figures_99 : decode cX12_figures 99 = .ok (.getfield 246, 3) := by decide +kernel
theorem dX12_figures_102 : decode cX12_figures 102 = .ok (.putfield 246, 3) := by decide +kernel
theorem dX12_figures_105 : decode cX12_figures 105 = .ok (.iconst 0, 1) := by decide +kernel
theorem dX12_figures_106 : decode cX12_figures 106 = .ok (.ireturn, 1) := by decide +kernel
theorem dX12_figures_107 : decode cX12_figures 107 = .ok (.lconst 0, 1) := by decide +kernel
theorem dX12_figures_108 : decode cX12_figures 108 = .ok (.lstore_n 3, 1) := by decide +kernel
theorem dX12_figures_109 : decode cX12_figures 109 = .ok (.iconst 0, 1) := by decide +kernel
theorem dX12_figures_110 : decode cX12_figures 110 = .ok (.istore 5, 2) := by decide +kernel
theorem dX12_figures_112 : decode cX12_figures 112 = .ok (.aload_n 0, 1) := by decide +kernel
theorem dX12_figures_113 : decode cX12_figures 113 = .ok (.invokevirtual 242, 3) := by decide +kernel
theorem dX12_figures_116 : decode cX12_figures 116 = .ok (.ifCond .eq 46, 3) := by decide +kernel
theorem dX12_figures_119 : decode cX12_figures 119 = .ok (.iload 5, 2) := by decide +kernel
theorem dX12_figures_121 : decode cX12_figures 121 = .ok (.bipush 11, 2) := by decide +kernel
theorem dX12_figures_123 : decode cX12_figures 123 = .ok (.if_icmp .ge 21, 3) := by decide +kernel
theorem dX12_figures_126 : decode cX12_figures 126 = .ok (.ldc2_w 207, 3) := by decide +kernel
theorem dX12_figures_129 : decode cX12_figures 129 = .ok (.lload_n 3, 1) := by decide +kernel
theorem dX12_figures_130 : decode cX12_figures 130 = .ok (.lmul, 1) := by decide +kernel
theorem dX12_figures_131 : decode cX12_figures 131 = .ok (.aload_n 0, 1) := by decide +kernel
theorem dX12_figures_132 : decode cX12_figures 132 = .ok (.invokevirtual 239, 3) := by decide +kernel
theorem dX12_figures_135 : decode cX12_figures 135 = .ok (.i2l, 1) := by decide +kernel
theorem dX12_figures_136 : decode cX12_figures 136 = .ok (.ladd, 1) := by decide +kernel
theorem dX12_figures_137 : decode cX12_figures 137 = .ok (.ldc2_w 249, 3) := by decide +kernel
theorem dX12_figures_140 : decode cX12_figures 140 = .ok (.lsub, 1) := by decide +kernel
theorem dX12_figures_141 : decode cX12_figures 141 = .ok (.goto 4, 3) := by decide +kernel
theorem dX12_figures_144 : decode cX12_figures 144 = .ok (.lload_n 3, 1) := by decide +kernel
theorem dX12_figures_145 : decode cX12_figures 145 = .ok (.lstore_n 3, 1) := by decide +kernel
theorem dX12_figures_146 : decode cX12_figures 146 = .ok (.iinc 5 1, 3) := by decide +kernel
theorem dX12_figures_149 : decode cX12_figures 149 = .ok (.aload_n 0, 1) := by decide +kernel
theorem dX12_figures_150 : decode cX12_figures 150 = .ok (.dup, 1) := by decide +kernel
theorem dX12_figures_151 : decode cX12_figures 151 = .ok (.getfield 236, 3) := by decide +kernel
theorem dX12_figures_154 : decode cX12_figures 154 = .ok (.iconst 1, 1) := by decide +kernel
theorem dX12_figures_155 : decode cX12_figures 155 = .ok (.iadd, 1) := by decide +kernel
theorem dX12_figures_156 : decode cX12_figures 156 = .ok (.putfield 236, 3) := by decide +kernel
theorem dX12_figures_159 : decode cX12_figures 159 = .ok (.goto (-47), 3) := by decide +kernel
theorem dX12_figures_162 : decode cX12_figures 162 = .ok (.iload_n 2, 1) := by decide +kernel
theorem dX12_figures_163 : decode cX12_figures 163 = .ok (.ifCond .eq 8, 3) := by decide +kernel
theorem dX12_figures_166 : decode cX12_figures 166 = .ok (.lload_n 3, 1) := by decide +kernel
theorem dX12_figures_167 : decode cX12_figures 167 = .ok (.lneg, 1) := by decide +kernel
theorem dX12_figures_168 : decode cX12_figures 168 = .ok (.goto 4, 3) := by decide +kernel
theorem dX12_figures_171 : decode cX12_figures 171 = .ok (.lload_n 3, 1) := by decide +kernel
theorem dX12_figures_172 : decode cX12_figures 172 = .ok (.lstore_n 3, 1) := by decide +kernel
theorem dX12_figures_173 : decode cX12_figures 173 = .ok (.iload 5, 2) := by decide +kernel
theorem dX12_figures_175 : decode cX12_figures 175 = .ok (.bipush 10, 2) := by decide +kernel
theorem dX12_figures_177 : decode cX12_figures 177 = .ok (.if_icmp .gt 11, 3) := by decide +kernel
theorem dX12_figures_180 : decode cX12_figures 180 = .ok (.lload_n 3, 1) := by decide +kernel
theorem dX12_figures_181 : decode cX12_figures 181 = .ok (.lload_n 3, 1) := by decide +kernel
theorem dX12_figures_182 : decode cX12_figures 182 = .ok (.l2i, 1) := by decide +kernel
theorem dX12_figures_183 : decode cX12_figures 183 = .ok (.i2l, 1) := by decide +kernel
theorem dX12_figures_184 : decode cX12_figures 184 = .ok (.lcmp, 1) := by decide +kernel
theorem dX12_figures_185 : decode cX12_figures 185 = .ok (.ifCond .eq 8, 3) := by decide +kernel
theorem dX12_figures_188 : decode cX12_figures 188 = .ok (.aload_n 0, 1) := by decide +kernel
theorem dX12_figures_189 : decode cX12_figures 189 = .ok (.iload_n 1, 1) := by decide +kernel
theorem dX12_figures_190 : decode cX12_figures 190 = .ok (.putfield 246, 3) := by decide +kernel
theorem dX12_figures_193 : decode cX12_figures 193 = .ok (.lload_n 3, 1) := by decide +kernel
theorem dX12_figures_194 : decode cX12_figures 194 = .ok (.l2i, 1) := by decide +kernel
theorem dX12_figures_195 : decode cX12_figures 195 = .ok (.ireturn, 1) := by decide +kernel
theorem dX12_readOne_0 : decode cX12_readOne 0 = .ok (.aload_n 0, 1) := by decide +kernel
theorem dX12_readOne_1 : decode cX12_readOne 1 = .ok (.invokevirtual 239, 3) := by decide +kernel
theorem dX12_readOne_4 : decode cX12_readOne 4 = .ok (.bipush 97, 2) := by decide +kernel
theorem dX12_readOne_6 : decode cX12_readOne 6 = .ok (.isub, 1) := by decide +kernel
theorem dX12_readOne_7 : decode cX12_readOne 7 = .ok (.istore_n 2, 1) := by decide +kernel
theorem dX12_readOne_8 : decode cX12_readOne 8 = .ok (.iload_n 2, 1) := by decide +kernel
theorem dX12_readOne_9 : decode cX12_readOne 9 = .ok (.iconst 0, 1) := by decide +kernel
theorem dX12_readOne_10 : decode cX12_readOne 10 = .ok (.bipush 11, 2) := by decide +kernel
theorem dX12_readOne_12 : decode cX12_readOne 12 = .ok (.invokestatic 93, 3) := by decide +kernel
theorem dX12_readOne_15 : decode cX12_readOne 15 = .ok (.ifCond .ne 12, 3) := by decide +kernel
theorem dX12_readOne_18 : decode cX12_readOne 18 = .ok (.aload_n 0, 1) := by decide +kernel
theorem dX12_readOne_19 : decode cX12_readOne 19 = .ok (.aload_n 0, 1) := by decide +kernel
theorem dX12_readOne_20 : decode cX12_readOne 20 = .ok (.getfield 236, 3) := by decide +kernel
theorem dX12_readOne_23 : decode cX12_readOne 23 = .ok (.putfield 246, 3) := by decide +kernel
theorem dX12_readOne_26 : decode cX12_readOne 26 = .ok (.return_, 1) := by decide +kernel
theorem dX12_readOne_27 : decode cX12_readOne 27 = .ok (.aload_n 0, 1) := by decide +kernel
theorem dX12_readOne_28 : decode cX12_readOne 28 = .ok (.dup, 1) := by decide +kernel
theorem dX12_readOne_29 : decode cX12_readOne 29 = .ok (.getfield 236, 3) := by decide +kernel
theorem dX12_readOne_32 : decode cX12_readOne 32 = .ok (.iconst 1, 1) := by decide +kernel
theorem dX12_readOne_33 : decode cX12_readOne 33 = .ok (.iadd, 1) := by decide +kernel
theorem dX12_readOne_34 : decode cX12_readOne 34 = .ok (.putfield 236, 3) := by decide +kernel
theorem dX12_readOne_37 : decode cX12_readOne 37 = .ok (.aload_n 0, 1) := by decide +kernel
theorem dX12_readOne_38 : decode cX12_readOne 38 = .ok (.invokevirtual 251, 3) := by decide +kernel
theorem dX12_readOne_41 : decode cX12_readOne 41 = .ok (.istore_n 3, 1) := by decide +kernel
theorem dX12_readOne_42 : decode cX12_readOne 42 = .ok (.aload_n 0, 1) := by decide +kernel
theorem dX12_readOne_43 : decode cX12_readOne 43 = .ok (.getfield 246, 3) := by decide +kernel
theorem dX12_readOne_46 : decode cX12_readOne 46 = .ok (.iconst (-1), 1) := by decide +kernel
theorem dX12_readOne_47 : decode cX12_readOne 47 = .ok (.if_icmp .ne 12, 3) := by decide +kernel
theorem dX12_readOne_50 : decode cX12_readOne 50 = .ok (.aload_n 0, 1) := by decide +kernel
theorem dX12_readOne_51 : decode cX12_readOne 51 = .ok (.iload_n 2, 1) := by decide +kernel
theorem dX12_readOne_52 : decode cX12_readOne 52 = .ok (.iload_n 3, 1) := by decide +kernel
theorem dX12_readOne_53 : decode cX12_readOne 53 = .ok (.lconst 0, 1) := by decide +kernel
theorem dX12_readOne_54 : decode cX12_readOne 54 = .ok (.iload_n 1, 1) := by decide +kernel
theorem dX12_readOne_55 : decode cX12_readOne 55 = .ok (.iconst 0, 1) := by decide +kernel
theorem dX12_readOne_56 : decode cX12_readOne 56 = .ok (.invokevirtual 219, 3) := by decide +kernel
theorem dX12_readOne_59 : decode cX12_readOne 59 = .ok (.return_, 1) := by decide +kernel
theorem dX12_read_0 : decode cX12_read 0 = .ok (.aload_n 0, 1) := by decide +kernel
theorem dX12_read_1 : decode cX12_read 1 = .ok (.iconst 0, 1) := by decide +kernel
theorem dX12_read_2 : decode cX12_read 2 = .ok (.putfield 215, 3) := by decide +kernel
theorem dX12_read_5 : decode cX12_read 5 = .ok (.aload_n 0, 1) := by decide +kernel
theorem dX12_read_6 : decode cX12_read 6 = .ok (.iconst 0, 1) := by decide +kernel
theorem dX12_read_7 : decode cX12_read 7 = .ok (.putfield 236, 3) := by decide +kernel
theorem dX12_read_10 : decode cX12_read 10 = .ok (.aload_n 0, 1) := by decide +kernel
theorem dX12_read_11 : decode cX12_read 11 = .ok (.iconst (-1), 1) := by decide +kernel
theorem dX12_read_12 : decode cX12_read 12 = .ok (.putfield 246, 3) := by decide +kernel
theorem dX12_read_15 : decode cX12_read 15 = .ok (.aload_n 0, 1) := by decide +kernel
theorem dX12_read_16 : decode cX12_read 16 = .ok (.iconst (-1), 1) := by decide +kernel
theorem dX12_read_17 : decode cX12_read 17 = .ok (.invokevirtual 254, 3) := by decide +kernel
theorem dX12_read_20 : decode cX12_read 20 = .ok (.iconst 0, 1) := by decide +kernel
theorem dX12_read_21 : decode cX12_read 21 = .ok (.istore_n 1, 1) := by decide +kernel
theorem dX12_read_22 : decode cX12_read 22 = .ok (.iconst 1, 1) := by decide +kernel
theorem dX12_read_23 : decode cX12_read 23 = .ok (.istore_n 2, 1) := by decide +kernel
theorem dX12_read_24 : decode cX12_read 24 = .ok (.aload_n 0, 1) := by decide +kernel
theorem dX12_read_25 : decode cX12_read 25 = .ok (.getfield 246, 3) := by decide +kernel
theorem dX12_read_28 : decode cX12_read 28 = .ok (.iconst (-1), 1) := by decide +kernel
theorem dX12_read_29 : decode cX12_read 29 = .ok (.if_icmp .ne 141, 3) := by decide +kernel
theorem dX12_read_32 : decode cX12_read 32 = .ok (.iload_n 1, 1) := by decide +kernel
theorem dX12_read_33 : decode cX12_read 33 = .ok (.ifCond .ne 16, 3) := by decide +kernel
theorem dX12_read_36 : decode cX12_read 36 = .ok (.iload_n 2, 1) := by decide +kernel
theorem dX12_read_37 : decode cX12_read 37 = .ok (.ifCond .eq 133, 3) := by decide +kernel
theorem dX12_read_40 : decode cX12_read 40 = .ok (.aload_n 0, 1) := by decide +kernel
theorem dX12_read_41 : decode cX12_read 41 = .ok (.invokevirtual 239, 3) := by decide +kernel
theorem dX12_read_44 : decode cX12_read 44 = .ok (.bipush 40, 2) := by decide +kernel
theorem dX12_read_46 : decode cX12_read 46 = .ok (.if_icmp .ne 124, 3) := by decide +kernel
theorem dX12_read_49 : decode cX12_read 49 = .ok (.iload_n 2, 1) := by decide +kernel
theorem dX12_read_50 : decode cX12_read 50 = .ok (.ifCond .eq 37, 3) := by decide +kernel
theorem dX12_read_53 : decode cX12_read 53 = .ok (.aload_n 0, 1) := by decide +kernel
theorem dX12_read_54 : decode cX12_read 54 = .ok (.invokevirtual 239, 3) := by decide +kernel
theorem dX12_read_57 : decode cX12_read 57 = .ok (.bipush 40, 2) := by decide +kernel
theorem dX12_read_59 : decode cX12_read 59 = .ok (.if_icmp .ne 28, 3) := by decide +kernel
theorem dX12_read_62 : decode cX12_read 62 = .ok (.aload_n 0, 1) := by decide +kernel
theorem dX12_read_63 : decode cX12_read 63 = .ok (.dup, 1) := by decide +kernel
theorem dX12_read_64 : decode cX12_read 64 = .ok (.getfield 236, 3) := by decide +kernel
theorem dX12_read_67 : decode cX12_read 67 = .ok (.iconst 1, 1) := by decide +kernel
theorem dX12_read_68 : decode cX12_read 68 = .ok (.iadd, 1) := by decide +kernel
theorem dX12_read_69 : decode cX12_read 69 = .ok (.putfield 236, 3) := by decide +kernel
theorem dX12_read_72 : decode cX12_read 72 = .ok (.iload_n 1, 1) := by decide +kernel
theorem dX12_read_73 : decode cX12_read 73 = .ok (.istore_n 3, 1) := by decide +kernel
theorem dX12_read_74 : decode cX12_read 74 = .ok (.aload_n 0, 1) := by decide +kernel
theorem dX12_read_75 : decode cX12_read 75 = .ok (.getfield 215, 3) := by decide +kernel
theorem dX12_read_78 : decode cX12_read 78 = .ok (.istore_n 1, 1) := by decide +kernel
theorem dX12_read_79 : decode cX12_read 79 = .ok (.aload_n 0, 1) := by decide +kernel
theorem dX12_read_80 : decode cX12_read 80 = .ok (.iload_n 3, 1) := by decide +kernel
theorem dX12_read_81 : decode cX12_read 81 = .ok (.invokevirtual 254, 3) := by decide +kernel
theorem dX12_read_84 : decode cX12_read 84 = .ok (.goto (-60), 3) := by decide +kernel
theorem dX12_read_87 : decode cX12_read 87 = .ok (.aload_n 0, 1) := by decide +kernel
theorem dX12_read_88 : decode cX12_read 88 = .ok (.invokevirtual 239, 3) := by decide +kernel
theorem dX12_read_91 : decode cX12_read 91 = .ok (.bipush 44, 2) := by decide +kernel
theorem dX12_read_93 : decode cX12_read 93 = .ok (.if_icmp .ne 35, 3) := by decide +kernel
theorem dX12_read_96 : decode cX12_read 96 = .ok (.aload_n 0, 1) := by decide +kernel
theorem dX12_read_97 : decode cX12_read 97 = .ok (.dup, 1) := by decide +kernel
theorem dX12_read_98 : decode cX12_read 98 = .ok (.getfield 236, 3) := by decide +kernel
theorem dX12_read_101 : decode cX12_read 101 = .ok (.iconst 1, 1) := by decide +kernel
theorem dX12_read_102 : decode cX12_read 102 = .ok (.iadd, 1) := by decide +kernel
theorem dX12_read_103 : decode cX12_read 103 = .ok (.putfield 236, 3) := by decide +kernel
theorem dX12_read_106 : decode cX12_read 106 = .ok (.aload_n 0, 1) := by decide +kernel
theorem dX12_read_107 : decode cX12_read 107 = .ok (.getfield 81, 3) := by decide +kernel
theorem dX12_read_110 : decode cX12_read 110 = .ok (.iload_n 1, 1) := by decide +kernel
theorem dX12_read_111 : decode cX12_read 111 = .ok (.iaload, 1) := by decide +kernel
theorem dX12_read_112 : decode cX12_read 112 = .ok (.istore_n 3, 1) := by decide +kernel
theorem dX12_read_113 : decode cX12_read 113 = .ok (.aload_n 0, 1) := by decide +kernel
theorem dX12_read_114 : decode cX12_read 114 = .ok (.getfield 215, 3) := by decide +kernel
theorem dX12_read_117 : decode cX12_read 117 = .ok (.istore_n 1, 1) := by decide +kernel
theorem dX12_read_118 : decode cX12_read 118 = .ok (.iconst 1, 1) := by decide +kernel
theorem dX12_read_119 : decode cX12_read 119 = .ok (.istore_n 2, 1) := by decide +kernel
theorem dX12_read_120 : decode cX12_read 120 = .ok (.aload_n 0, 1) := by decide +kernel
theorem dX12_read_121 : decode cX12_read 121 = .ok (.iload_n 3, 1) := by decide +kernel
theorem dX12_read_122 : decode cX12_read 122 = .ok (.invokevirtual 254, 3) := by decide +kernel
theorem dX12_read_125 : decode cX12_read 125 = .ok (.goto (-101), 3) := by decide +kernel
theorem dX12_read_128 : decode cX12_read 128 = .ok (.aload_n 0, 1) := by decide +kernel
theorem dX12_read_129 : decode cX12_read 129 = .ok (.invokevirtual 239, 3) := by decide +kernel
theorem dX12_read_132 : decode cX12_read 132 = .ok (.bipush 41, 2) := by decide +kernel
theorem dX12_read_134 : decode cX12_read 134 = .ok (.if_icmp .ne 25, 3) := by decide +kernel
theorem dX12_read_137 : decode cX12_read 137 = .ok (.aload_n 0, 1) := by decide +kernel
theorem dX12_read_138 : decode cX12_read 138 = .ok (.dup, 1) := by decide +kernel
theorem dX12_read_139 : decode cX12_read 139 = .ok (.getfield 236, 3) := by decide +kernel
theorem dX12_read_142 : decode cX12_read 142 = .ok (.iconst 1, 1) := by decide +kernel
theorem dX12_read_143 : decode cX12_read 143 = .ok (.iadd, 1) := by decide +kernel
theorem dX12_read_144 : decode cX12_read 144 = .ok (.putfield 236, 3) := by decide +kernel
theorem dX12_read_147 : decode cX12_read 147 = .ok (.aload_n 0, 1) := by decide +kernel
theorem dX12_read_148 : decode cX12_read 148 = .ok (.getfield 81, 3) := by decide +kernel
theorem dX12_read_151 : decode cX12_read 151 = .ok (.iload_n 1, 1) := by decide +kernel
theorem dX12_read_152 : decode cX12_read 152 = .ok (.iaload, 1) := by decide +kernel
theorem dX12_read_153 : decode cX12_read 153 = .ok (.istore_n 1, 1) := by decide +kernel
theorem dX12_read_154 : decode cX12_read 154 = .ok (.iconst 0, 1) := by decide +kernel
theorem dX12_read_155 : decode cX12_read 155 = .ok (.istore_n 2, 1) := by decide +kernel
theorem dX12_read_156 : decode cX12_read 156 = .ok (.goto (-132), 3) := by decide +kernel
theorem dX12_read_159 : decode cX12_read 159 = .ok (.aload_n 0, 1) := by decide +kernel
theorem dX12_read_160 : decode cX12_read 160 = .ok (.aload_n 0, 1) := by decide +kernel
theorem dX12_read_161 : decode cX12_read 161 = .ok (.getfield 236, 3) := by decide +kernel
theorem dX12_read_164 : decode cX12_read 164 = .ok (.putfield 246, 3) := by decide +kernel
theorem dX12_read_167 : decode cX12_read 167 = .ok (.goto (-143), 3) := by decide +kernel
theorem dX12_read_170 : decode cX12_read 170 = .ok (.aload_n 0, 1) := by decide +kernel
theorem dX12_read_171 : decode cX12_read 171 = .ok (.getfield 246, 3) := by decide +kernel
theorem dX12_read_174 : decode cX12_read 174 = .ok (.iconst (-1), 1) := by decide +kernel
theorem dX12_read_175 : decode cX12_read 175 = .ok (.if_icmp .ne 22, 3) := by decide +kernel
theorem dX12_read_178 : decode cX12_read 178 = .ok (.aload_n 0, 1) := by decide +kernel
theorem dX12_read_179 : decode cX12_read 179 = .ok (.getfield 236, 3) := by decide +kernel
theorem dX12_read_182 : decode cX12_read 182 = .ok (.aload_n 0, 1) := by decide +kernel
theorem dX12_read_183 : decode cX12_read 183 = .ok (.getfield 212, 3) := by decide +kernel
theorem dX12_read_186 : decode cX12_read 186 = .ok (.if_icmp .ge 11, 3) := by decide +kernel
theorem dX12_read_189 : decode cX12_read 189 = .ok (.aload_n 0, 1) := by decide +kernel
theorem dX12_read_190 : decode cX12_read 190 = .ok (.aload_n 0, 1) := by decide +kernel
theorem dX12_read_191 : decode cX12_read 191 = .ok (.getfield 236, 3) := by decide +kernel
theorem dX12_read_194 : decode cX12_read 194 = .ok (.putfield 246, 3) := by decide +kernel
theorem dX12_read_197 : decode cX12_read 197 = .ok (.aload_n 0, 1) := by decide +kernel
theorem dX12_read_198 : decode cX12_read 198 = .ok (.getfield 246, 3) := by decide +kernel
theorem dX12_read_201 : decode cX12_read 201 = .ok (.iconst (-1), 1) := by decide +kernel
theorem dX12_read_202 : decode cX12_read 202 = .ok (.if_icmp .eq 13, 3) := by decide +kernel
theorem dX12_read_205 : decode cX12_read 205 = .ok (.bipush (-10), 2) := by decide +kernel
theorem dX12_read_207 : decode cX12_read 207 = .ok (.aload_n 0, 1) := by decide +kernel
theorem dX12_read_208 : decode cX12_read 208 = .ok (.getfield 246, 3) := by decide +kernel
theorem dX12_read_211 : decode cX12_read 211 = .ok (.isub, 1) := by decide +kernel
theorem dX12_read_212 : decode cX12_read 212 = .ok (.goto 7, 3) := by decide +kernel
theorem dX12_read_215 : decode cX12_read 215 = .ok (.aload_n 0, 1) := by decide +kernel
theorem dX12_read_216 : decode cX12_read 216 = .ok (.invokevirtual 223, 3) := by decide +kernel
theorem dX12_read_219 : decode cX12_read 219 = .ok (.ireturn, 1) := by decide +kernel
theorem dX12_answer_0 : decode cX12_answer 0 = .ok (.aload_n 0, 1) := by decide +kernel
theorem dX12_answer_1 : decode cX12_answer 1 = .ok (.getfield 154, 3) := by decide +kernel
theorem dX12_answer_4 : decode cX12_answer 4 = .ok (.ireturn, 1) := by decide +kernel
theorem dX12_count_0 : decode cX12_count 0 = .ok (.iload_n 1, 1) := by decide +kernel
theorem dX12_count_1 : decode cX12_count 1 = .ok (.tableswitch 60 0 4 #[35, 40, 45, 50, 55], 35) := by decide +kernel
theorem dX12_count_36 : decode cX12_count 36 = .ok (.aload_n 0, 1) := by decide +kernel
theorem dX12_count_37 : decode cX12_count 37 = .ok (.getfield 90, 3) := by decide +kernel
theorem dX12_count_40 : decode cX12_count 40 = .ok (.ireturn, 1) := by decide +kernel
theorem dX12_count_41 : decode cX12_count 41 = .ok (.aload_n 0, 1) := by decide +kernel
theorem dX12_count_42 : decode cX12_count 42 = .ok (.getfield 97, 3) := by decide +kernel
theorem dX12_count_45 : decode cX12_count 45 = .ok (.ireturn, 1) := by decide +kernel
theorem dX12_count_46 : decode cX12_count 46 = .ok (.aload_n 0, 1) := by decide +kernel
theorem dX12_count_47 : decode cX12_count 47 = .ok (.getfield 212, 3) := by decide +kernel
theorem dX12_count_50 : decode cX12_count 50 = .ok (.ireturn, 1) := by decide +kernel
theorem dX12_count_51 : decode cX12_count 51 = .ok (.aload_n 0, 1) := by decide +kernel
theorem dX12_count_52 : decode cX12_count 52 = .ok (.getfield 157, 3) := by decide +kernel
theorem dX12_count_55 : decode cX12_count 55 = .ok (.ireturn, 1) := by decide +kernel
theorem dX12_count_56 : decode cX12_count 56 = .ok (.aload_n 0, 1) := by decide +kernel
theorem dX12_count_57 : decode cX12_count 57 = .ok (.getfield 160, 3) := by decide +kernel
theorem dX12_count_60 : decode cX12_count 60 = .ok (.ireturn, 1) := by decide +kernel
theorem dX12_count_61 : decode cX12_count 61 = .ok (.bipush (-2), 2) := by decide +kernel
theorem dX12_count_63 : decode cX12_count 63 = .ok (.ireturn, 1) := by decide +kernel
