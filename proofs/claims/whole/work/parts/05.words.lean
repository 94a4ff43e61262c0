/-! the words, by their places in the tables -/
theorem un_mem {w : Cond} (h : w ∈ tables_1) (g : wsNb w = true) : w ∈ wsN := List.mem_filter.mpr ⟨h, g⟩
theorem un_1 {i : Nat} {w : Cond} (h : tables_1_1[i]? = some w) (g : wsNb w = true) : w ∈ wsN := un_mem (List.mem_append_left _ (List.mem_of_getElem? h)) g
theorem un_2 {i : Nat} {w : Cond} (h : tables_1_2[i]? = some w) (g : wsNb w = true) : w ∈ wsN := un_mem (List.mem_append_right _ (List.mem_append_left _ (List.mem_of_getElem? h))) g
theorem un_3 {i : Nat} {w : Cond} (h : tables_1_3[i]? = some w) (g : wsNb w = true) : w ∈ wsN := un_mem (List.mem_append_right _ (List.mem_append_right _ (List.mem_append_left _ (List.mem_of_getElem? h)))) g
theorem un_4 {i : Nat} {w : Cond} (h : tables_1_4[i]? = some w) (g : wsNb w = true) : w ∈ wsN := un_mem (List.mem_append_right _ (List.mem_append_right _ (List.mem_append_right _ (List.mem_append_left _ (List.mem_of_getElem? h))))) g
theorem un_5 {i : Nat} {w : Cond} (h : tables_1_5[i]? = some w) (g : wsNb w = true) : w ∈ wsN := un_mem (List.mem_append_right _ (List.mem_append_right _ (List.mem_append_right _ (List.mem_append_right _ (List.mem_append_left _ (List.mem_of_getElem? h)))))) g
theorem un_6 {i : Nat} {w : Cond} (h : tables_1_6[i]? = some w) (g : wsNb w = true) : w ∈ wsN := un_mem (List.mem_append_right _ (List.mem_append_right _ (List.mem_append_right _ (List.mem_append_right _ (List.mem_append_right _ (List.mem_of_getElem? h)))))) g
theorem uk_1_0 : (.initialized RL : Cond) ∈ wsU := uq_1 (i := 0) rfl rfl
theorem uk_1_1 : (.initialized RX6 : Cond) ∈ wsU := uq_1 (i := 1) rfl rfl
theorem uk_1_2 : (.initialized RJxa1e45 : Cond) ∈ wsU := uq_1 (i := 2) rfl rfl
theorem uk_1_3 : (.initialized RJxc12de : Cond) ∈ wsU := uq_1 (i := 3) rfl rfl
theorem uk_1_4 : (.initialized RJx4a65c : Cond) ∈ wsU := uq_1 (i := 4) rfl rfl
theorem uk_1_5 : (.initialized RX1 : Cond) ∈ wsU := uq_1 (i := 5) rfl rfl
theorem uk_1_6 : (.initialized RX0 : Cond) ∈ wsU := uq_1 (i := 6) rfl rfl
theorem uk_1_7 : (.initialized RX2 : Cond) ∈ wsU := uq_1 (i := 7) rfl rfl
theorem uk_1_8 : (.initialized RX5 : Cond) ∈ wsU := uq_1 (i := 8) rfl rfl
theorem uk_1_9 : (.initialized RX7 : Cond) ∈ wsU := uq_1 (i := 9) rfl rfl
theorem uk_1_10 : (.initialized "java/lang/Throwable" : Cond) ∈ wsU := uq_1 (i := 10) rfl rfl
theorem uk_1_11 : (.initialized "java/lang/Exception" : Cond) ∈ wsU := uq_1 (i := 11) rfl rfl
theorem uk_1_12 : (.initialized "java/lang/RuntimeException" : Cond) ∈ wsU := uq_1 (i := 12) rfl rfl
theorem uk_1_13 : (.initialized "java/lang/IndexOutOfBoundsException" : Cond) ∈ wsU := uq_1 (i := 13) rfl rfl
theorem uk_1_14 : (.initialized "java/lang/IllegalArgumentException" : Cond) ∈ wsU := uq_1 (i := 14) rfl rfl
theorem uk_1_15 : (.initialized "java/lang/IllegalStateException" : Cond) ∈ wsU := uq_1 (i := 15) rfl rfl
theorem uk_1_16 : (.initialized RX3 : Cond) ∈ wsU := uq_1 (i := 16) rfl rfl
theorem uk_1_17 : (.initialized RJ8 : Cond) ∈ wsU := uq_1 (i := 17) rfl rfl
theorem uk_1_18 : (.initialized RJ9 : Cond) ∈ wsU := uq_1 (i := 18) rfl rfl
theorem uk_1_19 : (.initialized RJ7 : Cond) ∈ wsU := uq_1 (i := 19) rfl rfl
theorem uk_1_20 : (.initialized RJ10 : Cond) ∈ wsU := uq_1 (i := 20) rfl rfl
theorem uk_1_21 : (.initialized RJ15 : Cond) ∈ wsU := uq_1 (i := 21) rfl rfl
theorem uk_1_22 : (.initialized RJ3 : Cond) ∈ wsU := uq_1 (i := 22) rfl rfl
theorem uk_1_23 : (.initialized RX4 : Cond) ∈ wsU := uq_1 (i := 23) rfl rfl
theorem uk_1_24 : (.classLink RL 8 RX6 : Cond) ∈ wsU := uq_1 (i := 24) rfl rfl
theorem uk_1_25 : (.instantiable RX6 10 : Cond) ∈ wsU := uq_1 (i := 25) rfl rfl
theorem uk_1_26 : (.methodLink RL 115 yX6_init : Cond) ∈ wsU := uq_1 (i := 26) rfl rfl
theorem uk_1_27 : (.instanceMethod yX6_init : Cond) ∈ wsU := uq_1 (i := 27) rfl rfl
theorem uk_1_28 : (.code yX6_init cX6_init 2 (none : Option FieldType) : Cond) ∈ wsU := uq_1 (i := 28) rfl rfl
theorem uk_1_29 : (.methodLink RX6 1 ⟨"java/lang/Object", "<init>", "()V"⟩ : Cond) ∈ wsU := uq_1 (i := 29) rfl rfl
theorem uk_1_30 : (.instanceMethod ⟨"java/lang/Object", "<init>", "()V"⟩ : Cond) ∈ wsU := uq_1 (i := 30) rfl rfl
theorem uk_1_31 : (.code ⟨"java/lang/Object", "<init>", "()V"⟩ object_method_1_code 1 (none : Option FieldType) : Cond) ∈ wsU := uq_1 (i := 31) rfl rfl
theorem uk_1_32 : (.classLink RX6 7 RJx4a65c : Cond) ∈ wsU := uq_1 (i := 32) rfl rfl
theorem uk_1_33 : (.instantiable RJx4a65c 3 : Cond) ∈ wsU := uq_1 (i := 33) rfl rfl
theorem uk_1_34 : (.methodLink RX6 9 yJx4a65c_init_da8c8 : Cond) ∈ wsU := uq_1 (i := 34) rfl rfl
theorem uk_1_35 : (.instanceMethod yJx4a65c_init_da8c8 : Cond) ∈ wsU := uq_1 (i := 35) rfl rfl
theorem uk_1_36 : (.code yJx4a65c_init_da8c8 cJx4a65c_init_da8c8 1 (none : Option FieldType) : Cond) ∈ wsU := uq_1 (i := 36) rfl rfl
theorem uk_1_37 : (.methodLink RJx4a65c 1 yJxc12de_init_da8c8 : Cond) ∈ wsU := uq_1 (i := 37) rfl rfl
theorem uk_1_38 : (.instanceMethod yJxc12de_init_da8c8 : Cond) ∈ wsU := uq_1 (i := 38) rfl rfl
theorem uk_1_39 : (.code yJxc12de_init_da8c8 cJxc12de_init_da8c8 1 (none : Option FieldType) : Cond) ∈ wsU := uq_1 (i := 39) rfl rfl
theorem uk_1_40 : (.methodLink RJxc12de 1 yJxa1e45_init_da8c8 : Cond) ∈ wsU := uq_1 (i := 40) rfl rfl
theorem uk_1_41 : (.instanceMethod yJxa1e45_init_da8c8 : Cond) ∈ wsU := uq_1 (i := 41) rfl rfl
theorem uk_1_42 : (.code yJxa1e45_init_da8c8 cJxa1e45_init_da8c8 1 (none : Option FieldType) : Cond) ∈ wsU := uq_1 (i := 42) rfl rfl
theorem uk_1_43 : (.methodLink RJxa1e45 1 ⟨"java/lang/Object", "<init>", "()V"⟩ : Cond) ∈ wsU := uq_1 (i := 43) rfl rfl
theorem uk_1_44 : (.fieldLink RJx4a65c 39 "java/util/ArrayList" "DEFAULTCAPACITY_EMPTY_ELEMENTDATA" "[Ljava/lang/Object;" : Cond) ∈ wsU := uq_1 (i := 44) rfl rfl
theorem uk_1_46 : (.fieldLink RJx4a65c 9 "java/util/ArrayList" "elementData" "[Ljava/lang/Object;" : Cond) ∈ wsU := uq_1 (i := 46) rfl rfl
theorem uk_1_47 : (.fieldLink RJx4a65c 48 "java/util/ArrayList" "size" "I" : Cond) ∈ wsU := uq_1 (i := 47) rfl rfl
theorem uk_1_48 : (.fieldLink RJxc12de 7 "java/util/AbstractList" "modCount" "I" : Cond) ∈ wsU := uq_1 (i := 48) rfl rfl
theorem uk_1_49 : (.fieldLink RJx4a65c 63 "java/util/ArrayList" "modCount" "I" : Cond) ∈ wsU := uq_1 (i := 49) rfl rfl
theorem uk_1_50 : (.sameField RJx4a65c "java/util/AbstractList" "modCount" "I" : Cond) ∈ wsU := uq_1 (i := 50) rfl rfl
theorem uk_1_58 : (.classLink RX6 23 RX1 : Cond) ∈ wsU := uq_1 (i := 58) rfl rfl
theorem uk_1_60 : (.instantiable RX1 3 : Cond) ∈ wsU := uq_1 (i := 60) rfl rfl
theorem uk_1_62 : (.instanceMethod yX1_init : Cond) ∈ wsU := uq_1 (i := 62) rfl rfl
theorem uk_1_63 : (.code yX1_init cX1_init 1 (none : Option FieldType) : Cond) ∈ wsU := uq_1 (i := 63) rfl rfl
theorem uk_1_64 : (.methodLink RX1 1 ⟨"java/lang/Object", "<init>", "()V"⟩ : Cond) ∈ wsU := uq_1 (i := 64) rfl rfl
theorem uk_1_65 : (.fieldLink RX1 7 "Pledgehouse$Expert" "bias" "I" : Cond) ∈ wsU := uq_1 (i := 65) rfl rfl
theorem uk_1_66 : (.fieldLink RX6 91 "Pledgehouse$Expert" "bias" "I" : Cond) ∈ wsU := uq_1 (i := 66) rfl rfl
theorem uk_1_67 : (.fieldLink RX1 13 "Pledgehouse$Expert" "charged" "I" : Cond) ∈ wsU := uq_1 (i := 67) rfl rfl
theorem uk_1_68 : (.fieldLink RX6 226 "Pledgehouse$Expert" "charged" "I" : Cond) ∈ wsU := uq_1 (i := 68) rfl rfl
theorem uk_1_69 : (.fieldLink RX1 16 "Pledgehouse$Expert" "judgement" "I" : Cond) ∈ wsU := uq_1 (i := 69) rfl rfl
theorem uk_1_70 : (.fieldLink RX6 268 "Pledgehouse$Expert" "judgement" "I" : Cond) ∈ wsU := uq_1 (i := 70) rfl rfl
theorem uk_1_78 : (.arrayClass FieldType.int : Cond) ∈ wsU := uq_1 (i := 78) rfl rfl
theorem uk_1_79 : (.classLink RX6 30 RX0 : Cond) ∈ wsU := uq_1 (i := 79) rfl rfl
theorem uk_1_81 : (.instantiable RX0 3 : Cond) ∈ wsU := uq_1 (i := 81) rfl rfl
theorem uk_1_82 : (.methodLink RX6 32 yX0_init : Cond) ∈ wsU := uq_1 (i := 82) rfl rfl
theorem uk_1_83 : (.instanceMethod yX0_init : Cond) ∈ wsU := uq_1 (i := 83) rfl rfl
theorem uk_1_84 : (.code yX0_init cX0_init 2 (none : Option FieldType) : Cond) ∈ wsU := uq_1 (i := 84) rfl rfl
theorem uk_1_85 : (.methodLink RX0 1 ⟨"java/lang/Object", "<init>", "()V"⟩ : Cond) ∈ wsU := uq_1 (i := 85) rfl rfl
theorem uk_1_86 : (.fieldLink RX0 16 "Pledgehouse$Charter" "ofClass" "I" : Cond) ∈ wsU := uq_1 (i := 86) rfl rfl
theorem uk_1_87 : (.fieldLink RX6 94 "Pledgehouse$Charter" "ofClass" "I" : Cond) ∈ wsU := uq_1 (i := 87) rfl rfl
theorem uk_1_88 : (.fieldLink RX0 7 "Pledgehouse$Charter" "share" "I" : Cond) ∈ wsU := uq_1 (i := 88) rfl rfl
theorem uk_1_89 : (.fieldLink RX6 98 "Pledgehouse$Charter" "share" "I" : Cond) ∈ wsU := uq_1 (i := 89) rfl rfl
theorem uk_1_90 : (.fieldLink RX0 13 "Pledgehouse$Charter" "cap" "I" : Cond) ∈ wsU := uq_1 (i := 90) rfl rfl
theorem uk_1_91 : (.fieldLink RX6 101 "Pledgehouse$Charter" "cap" "I" : Cond) ∈ wsU := uq_1 (i := 91) rfl rfl
theorem uk_1_99 : (.classLink RX6 42 RX2 : Cond) ∈ wsU := uq_1 (i := 99) rfl rfl
theorem uk_1_100 : (.instantiable RX2 7 : Cond) ∈ wsU := uq_1 (i := 100) rfl rfl
theorem uk_1_102 : (.instanceMethod yX2_init : Cond) ∈ wsU := uq_1 (i := 102) rfl rfl
theorem uk_1_103 : (.code yX2_init cX2_init 1 (none : Option FieldType) : Cond) ∈ wsU := uq_1 (i := 103) rfl rfl
theorem uk_1_104 : (.methodLink RX2 1 ⟨"java/lang/Object", "<init>", "()V"⟩ : Cond) ∈ wsU := uq_1 (i := 104) rfl rfl
theorem uk_1_105 : (.fieldLink RX2 9 "Pledgehouse$Tariff" "rateDays" "[I" : Cond) ∈ wsU := uq_1 (i := 105) rfl rfl
theorem uk_1_106 : (.fieldLink RX2 13 "Pledgehouse$Tariff" "rateSteps" "[I" : Cond) ∈ wsU := uq_1 (i := 106) rfl rfl
theorem uk_1_107 : (.fieldLink RX2 16 "Pledgehouse$Tariff" "rateValues" "[I" : Cond) ∈ wsU := uq_1 (i := 107) rfl rfl
theorem uk_1_108 : (.fieldLink RX2 19 "Pledgehouse$Tariff" "rates" "I" : Cond) ∈ wsU := uq_1 (i := 108) rfl rfl
theorem uk_1_109 : (.fieldLink RX2 23 "Pledgehouse$Tariff" "amnestyFrom" "[I" : Cond) ∈ wsU := uq_1 (i := 109) rfl rfl
theorem uk_1_110 : (.fieldLink RX2 26 "Pledgehouse$Tariff" "amnestyTo" "[I" : Cond) ∈ wsU := uq_1 (i := 110) rfl rfl
theorem uk_1_111 : (.fieldLink RX2 29 "Pledgehouse$Tariff" "amnesties" "I" : Cond) ∈ wsU := uq_1 (i := 111) rfl rfl
theorem uk_1_112 : (.fieldLink RX6 121 "Pledgehouse$Tariff" "amnesties" "I" : Cond) ∈ wsU := uq_1 (i := 112) rfl rfl
theorem uk_1_128 : (.classLink RX6 49 RX5 : Cond) ∈ wsU := uq_1 (i := 128) rfl rfl
theorem uk_1_129 : (.instantiable RX5 5 : Cond) ∈ wsU := uq_1 (i := 129) rfl rfl
theorem uk_1_131 : (.instanceMethod yX5_init : Cond) ∈ wsU := uq_1 (i := 131) rfl rfl
theorem uk_1_132 : (.code yX5_init cX5_init 1 (none : Option FieldType) : Cond) ∈ wsU := uq_1 (i := 132) rfl rfl
theorem uk_1_133 : (.methodLink RX5 1 ⟨"java/lang/Object", "<init>", "()V"⟩ : Cond) ∈ wsU := uq_1 (i := 133) rfl rfl
theorem uk_1_134 : (.fieldLink RX5 7 "Pledgehouse$Till" "inHouse" "I" : Cond) ∈ wsU := uq_1 (i := 134) rfl rfl
theorem uk_1_135 : (.fieldLink RX6 286 "Pledgehouse$Till" "inHouse" "I" : Cond) ∈ wsU := uq_1 (i := 135) rfl rfl
theorem uk_1_136 : (.fieldLink RX5 13 "Pledgehouse$Till" "kept" "I" : Cond) ∈ wsU := uq_1 (i := 136) rfl rfl
theorem uk_1_137 : (.fieldLink RX6 280 "Pledgehouse$Till" "kept" "I" : Cond) ∈ wsU := uq_1 (i := 137) rfl rfl
theorem uk_1_138 : (.fieldLink RX5 16 "Pledgehouse$Till" "gift" "I" : Cond) ∈ wsU := uq_1 (i := 138) rfl rfl
theorem uk_1_139 : (.fieldLink RX6 313 "Pledgehouse$Till" "gift" "I" : Cond) ∈ wsU := uq_1 (i := 139) rfl rfl
theorem uk_1_140 : (.fieldLink RX5 19 "Pledgehouse$Till" "moves" "[I" : Cond) ∈ wsU := uq_1 (i := 140) rfl rfl
theorem uk_1_141 : (.fieldLink RX5 23 "Pledgehouse$Till" "moveCount" "I" : Cond) ∈ wsU := uq_1 (i := 141) rfl rfl
theorem uk_1_153 : (.fieldLink RX6 10 "Pledgehouse" "things" "Ljava/util/ArrayList;" : Cond) ∈ wsU := uq_1 (i := 153) rfl rfl
theorem uk_1_154 : (.fieldLink RX6 16 "Pledgehouse" "tickets" "Ljava/util/ArrayList;" : Cond) ∈ wsU := uq_1 (i := 154) rfl rfl
theorem uk_1_155 : (.fieldLink RX6 19 "Pledgehouse" "fashions" "[I" : Cond) ∈ wsU := uq_1 (i := 155) rfl rfl
theorem uk_1_156 : (.fieldLink RX6 26 "Pledgehouse" "experts" "[LPledgehouse$Expert;" : Cond) ∈ wsU := uq_1 (i := 156) rfl rfl
theorem uk_1_157 : (.fieldLink RX6 35 "Pledgehouse" "charters" "[LPledgehouse$Charter;" : Cond) ∈ wsU := uq_1 (i := 157) rfl rfl
theorem uk_1_158 : (.fieldLink RX6 39 "Pledgehouse" "charterOfPerson" "[LPledgehouse$Charter;" : Cond) ∈ wsU := uq_1 (i := 158) rfl rfl
theorem uk_1_159 : (.fieldLink RX6 45 "Pledgehouse" "tariff" "LPledgehouse$Tariff;" : Cond) ∈ wsU := uq_1 (i := 159) rfl rfl
theorem uk_1_160 : (.fieldLink RX6 52 "Pledgehouse" "till" "LPledgehouse$Till;" : Cond) ∈ wsU := uq_1 (i := 160) rfl rfl
theorem uk_1_161 : (.fieldLink RX6 56 "Pledgehouse" "termDays" "I" : Cond) ∈ wsU := uq_1 (i := 161) rfl rfl
theorem uk_1_162 : (.fieldLink RX6 60 "Pledgehouse" "today" "I" : Cond) ∈ wsU := uq_1 (i := 162) rfl rfl
theorem uk_1_184 : (.methodLink RL 207 yX6_day : Cond) ∈ wsU := uq_1 (i := 184) rfl rfl
theorem uk_1_185 : (.instanceMethod yX6_day : Cond) ∈ wsU := uq_1 (i := 185) rfl rfl
theorem uk_1_186 : (.selects RX6 yX6_day yX6_day : Cond) ∈ wsU := uq_1 (i := 186) rfl rfl
theorem uk_1_187 : (.code yX6_day cX6_day 1 (some FieldType.int) : Cond) ∈ wsU := uq_1 (i := 187) rfl rfl
theorem uk_1_188 : (.methodLink RL 229 yX6_moneyAnew : Cond) ∈ wsU := uq_1 (i := 188) rfl rfl
theorem uk_1_189 : (.instanceMethod yX6_moneyAnew : Cond) ∈ wsU := uq_1 (i := 189) rfl rfl
theorem uk_1_190 : (.selects RX6 yX6_moneyAnew yX6_moneyAnew : Cond) ∈ wsU := uq_1 (i := 190) rfl rfl
theorem uk_1_191 : (.code yX6_moneyAnew cX6_moneyAnew 1 (some FieldType.int) : Cond) ∈ wsU := uq_1 (i := 191) rfl rfl
theorem uk_1_192 : (.methodLink RX6 316 yX5_sumOfMoves : Cond) ∈ wsU := uq_1 (i := 192) rfl rfl
theorem uk_1_193 : (.instanceMethod yX5_sumOfMoves : Cond) ∈ wsU := uq_1 (i := 193) rfl rfl
theorem uk_1_194 : (.selects RX5 yX5_sumOfMoves yX5_sumOfMoves : Cond) ∈ wsU := uq_1 (i := 194) rfl rfl
theorem uk_1_195 : (.code yX5_sumOfMoves cX5_sumOfMoves 3 (some FieldType.int) : Cond) ∈ wsU := uq_1 (i := 195) rfl rfl
theorem uk_1_196 : (.methodLink RL 119 yL_thing : Cond) ∈ wsU := uq_1 (i := 196) rfl rfl
theorem uk_1_197 : (.static yL_thing : Cond) ∈ wsU := uq_1 (i := 197) rfl rfl
theorem uk_1_198 : (.codeWith yL_thing cL_thing 6 (some FieldType.int) [(0, 12, 15, 13), (0, 12, 19, 15), (0, 12, 23, 17)] : Cond) ∈ wsU := uq_1 (i := 198) rfl rfl
theorem uk_1_199 : (.classLink RL 13 "java/lang/IndexOutOfBoundsException" : Cond) ∈ wsU := uq_1 (i := 199) rfl rfl
theorem uk_1_200 : (.classLink RL 15 "java/lang/IllegalArgumentException" : Cond) ∈ wsU := uq_1 (i := 200) rfl rfl
theorem uk_1_201 : (.classLink RL 17 "java/lang/IllegalStateException" : Cond) ∈ wsU := uq_1 (i := 201) rfl rfl
theorem uk_1_202 : (.methodLink RL 7 yX6_thing : Cond) ∈ wsU := uq_1 (i := 202) rfl rfl
theorem uk_1_203 : (.instanceMethod yX6_thing : Cond) ∈ wsU := uq_1 (i := 203) rfl rfl
theorem uk_1_204 : (.selects RX6 yX6_thing yX6_thing : Cond) ∈ wsU := uq_1 (i := 204) rfl rfl
theorem uk_1_205 : (.code yX6_thing cX6_thing 5 (some FieldType.int) : Cond) ∈ wsU := uq_1 (i := 205) rfl rfl
theorem uk_1_206 : (.methodLink RX6 63 yX6_needIndex : Cond) ∈ wsU := uq_1 (i := 206) rfl rfl
theorem uk_1_207 : (.static yX6_needIndex : Cond) ∈ wsU := uq_1 (i := 207) rfl rfl
theorem uk_1_208 : (.code yX6_needIndex cX6_needIndex 2 (none : Option FieldType) : Cond) ∈ wsU := uq_1 (i := 208) rfl rfl
theorem uk_1_209 : (.classLink RX6 319 "java/lang/IndexOutOfBoundsException" : Cond) ∈ wsU := uq_1 (i := 209) rfl rfl
theorem uk_1_210 : (.instantiable "java/lang/IndexOutOfBoundsException" 6 : Cond) ∈ wsU := uq_1 (i := 210) rfl rfl
theorem un_1_211 : (.castable "java/lang/IndexOutOfBoundsException" "java/lang/IndexOutOfBoundsException" : Cond) ∈ wsN := un_1 (i := 211) rfl rfl
theorem un_1_212 : (.declares ⟨"java/lang/RuntimeException", "<init>", "()V"⟩ : Cond) ∈ wsN := un_1 (i := 212) rfl rfl
theorem un_1_213 : (.declares ⟨"java/lang/RuntimeException", "<init>", "(Ljava/lang/String;)V"⟩ : Cond) ∈ wsN := un_1 (i := 213) rfl rfl
theorem un_1_214 : (.declares ⟨"java/lang/Exception", "<init>", "()V"⟩ : Cond) ∈ wsN := un_1 (i := 214) rfl rfl
theorem un_1_215 : (.declares ⟨"java/lang/Exception", "<init>", "(Ljava/lang/String;)V"⟩ : Cond) ∈ wsN := un_1 (i := 215) rfl rfl
theorem un_1_216 : (.declares ⟨"java/lang/Throwable", "<init>", "()V"⟩ : Cond) ∈ wsN := un_1 (i := 216) rfl rfl
theorem un_1_217 : (.declares ⟨"java/lang/Throwable", "<init>", "(Ljava/lang/String;)V"⟩ : Cond) ∈ wsN := un_1 (i := 217) rfl rfl
theorem uk_1_218 : (.selects "java/lang/IndexOutOfBoundsException" ⟨"java/lang/Throwable", "fillInStackTrace", "(I)Ljava/lang/Throwable;"⟩ ⟨"java/lang/Throwable", "fillInStackTrace", "(I)Ljava/lang/Throwable;"⟩ : Cond) ∈ wsU := uq_1 (i := 218) rfl rfl
theorem uk_1_219 : (.selects "java/lang/IndexOutOfBoundsException" ⟨"java/lang/Throwable", "fillInStackTrace", "()Ljava/lang/Throwable;"⟩ ⟨"java/lang/Throwable", "fillInStackTrace", "()Ljava/lang/Throwable;"⟩ : Cond) ∈ wsU := uq_1 (i := 219) rfl rfl
theorem uk_1_230 : (.fieldLink "java/lang/Throwable" 198 "java/lang/Throwable" "backtrace" "Ljava/lang/Object;" : Cond) ∈ wsU := uq_1 (i := 230) rfl rfl
theorem uk_1_232 : (.instanceMethod ⟨"java/lang/Throwable", "<init>", "()V"⟩ : Cond) ∈ wsU := uq_1 (i := 232) rfl rfl
theorem uk_1_233 : (.code ⟨"java/lang/Throwable", "<init>", "()V"⟩ prog_20_method_1_code 1 (none : Option FieldType) : Cond) ∈ wsU := uq_1 (i := 233) rfl rfl
theorem uk_1_234 : (.methodLink "java/lang/Throwable" 1 ⟨"java/lang/Object", "<init>", "()V"⟩ : Cond) ∈ wsU := uq_1 (i := 234) rfl rfl
theorem uk_1_235 : (.fieldLink "java/lang/Throwable" 13 "java/lang/Throwable" "UNASSIGNED_STACK" "[Ljava/lang/StackTraceElement;" : Cond) ∈ wsU := uq_1 (i := 235) rfl rfl
theorem uk_1_237 : (.fieldLink "java/lang/Throwable" 20 "java/lang/Throwable" "SUPPRESSED_SENTINEL" "Ljava/util/List;" : Cond) ∈ wsU := uq_1 (i := 237) rfl rfl
theorem uk_1_239 : (.methodLink "java/lang/Throwable" 27 ⟨"java/lang/Throwable", "fillInStackTrace", "()Ljava/lang/Throwable;"⟩ : Cond) ∈ wsU := uq_1 (i := 239) rfl rfl
theorem uk_2_0 : (.instanceMethod ⟨"java/lang/Throwable", "fillInStackTrace", "()Ljava/lang/Throwable;"⟩ : Cond) ∈ wsU := uq_2 (i := 0) rfl rfl
theorem uk_2_1 : (.sameMethod "java/lang/Throwable" "java/lang/Throwable" "fillInStackTrace" "()Ljava/lang/Throwable;" : Cond) ∈ wsU := uq_2 (i := 1) rfl rfl
theorem uk_2_2 : (.selects "java/lang/IllegalArgumentException" ⟨"java/lang/Throwable", "fillInStackTrace", "()Ljava/lang/Throwable;"⟩ ⟨"java/lang/Throwable", "fillInStackTrace", "()Ljava/lang/Throwable;"⟩ : Cond) ∈ wsU := uq_2 (i := 2) rfl rfl
theorem uk_2_3 : (.selects "java/lang/IllegalStateException" ⟨"java/lang/Throwable", "fillInStackTrace", "()Ljava/lang/Throwable;"⟩ ⟨"java/lang/Throwable", "fillInStackTrace", "()Ljava/lang/Throwable;"⟩ : Cond) ∈ wsU := uq_2 (i := 3) rfl rfl
theorem uk_2_5 : (.methodLink "java/lang/Throwable" 202 ⟨"java/lang/Throwable", "fillInStackTrace", "(I)Ljava/lang/Throwable;"⟩ : Cond) ∈ wsU := uq_2 (i := 5) rfl rfl
theorem uk_2_7 : (.instanceMethod ⟨"java/lang/Throwable", "fillInStackTrace", "(I)Ljava/lang/Throwable;"⟩ : Cond) ∈ wsU := uq_2 (i := 7) rfl rfl
theorem uk_2_8 : (.instantiable "java/lang/Throwable" 6 : Cond) ∈ wsU := uq_2 (i := 8) rfl rfl
theorem uk_2_9 : (.native ⟨"java/lang/Throwable", "fillInStackTrace", "(I)Ljava/lang/Throwable;"⟩ : Cond) ∈ wsU := uq_2 (i := 9) rfl rfl
theorem uk_2_10 : (.methodLink RX6 321 ⟨"java/lang/IndexOutOfBoundsException", "<init>", "()V"⟩ : Cond) ∈ wsU := uq_2 (i := 10) rfl rfl
theorem uk_2_11 : (.instanceMethod ⟨"java/lang/IndexOutOfBoundsException", "<init>", "()V"⟩ : Cond) ∈ wsU := uq_2 (i := 11) rfl rfl
theorem uk_2_12 : (.code ⟨"java/lang/IndexOutOfBoundsException", "<init>", "()V"⟩ prog_15_method_1_code 1 (none : Option FieldType) : Cond) ∈ wsU := uq_2 (i := 12) rfl rfl
theorem uk_2_13 : (.methodLink "java/lang/IndexOutOfBoundsException" 1 ⟨"java/lang/RuntimeException", "<init>", "()V"⟩ : Cond) ∈ wsU := uq_2 (i := 13) rfl rfl
theorem uk_2_14 : (.instanceMethod ⟨"java/lang/RuntimeException", "<init>", "()V"⟩ : Cond) ∈ wsU := uq_2 (i := 14) rfl rfl
theorem uk_2_15 : (.code ⟨"java/lang/RuntimeException", "<init>", "()V"⟩ prog_18_method_1_code 1 (none : Option FieldType) : Cond) ∈ wsU := uq_2 (i := 15) rfl rfl
theorem uk_2_16 : (.methodLink "java/lang/RuntimeException" 1 ⟨"java/lang/Exception", "<init>", "()V"⟩ : Cond) ∈ wsU := uq_2 (i := 16) rfl rfl
theorem uk_2_17 : (.instanceMethod ⟨"java/lang/Exception", "<init>", "()V"⟩ : Cond) ∈ wsU := uq_2 (i := 17) rfl rfl
theorem uk_2_18 : (.code ⟨"java/lang/Exception", "<init>", "()V"⟩ prog_12_method_1_code 1 (none : Option FieldType) : Cond) ∈ wsU := uq_2 (i := 18) rfl rfl
theorem uk_2_19 : (.methodLink "java/lang/Exception" 1 ⟨"java/lang/Throwable", "<init>", "()V"⟩ : Cond) ∈ wsU := uq_2 (i := 19) rfl rfl
theorem uk_2_20 : (.fieldLink "java/lang/Throwable" 198 "java/lang/Throwable" "backtrace" "Ljava/lang/Object;" : Cond) ∈ wsU := uq_2 (i := 20) rfl rfl
theorem uk_2_21 : (.fieldLink "java/lang/Throwable" 7 "java/lang/Throwable" "cause" "Ljava/lang/Throwable;" : Cond) ∈ wsU := uq_2 (i := 21) rfl rfl
theorem uk_2_22 : (.fieldLink "java/lang/Throwable" 17 "java/lang/Throwable" "stackTrace" "[Ljava/lang/StackTraceElement;" : Cond) ∈ wsU := uq_2 (i := 22) rfl rfl
theorem uk_2_23 : (.fieldLink "java/lang/Throwable" 24 "java/lang/Throwable" "suppressedExceptions" "Ljava/util/List;" : Cond) ∈ wsU := uq_2 (i := 23) rfl rfl
theorem uk_2_32 : (.methodLink RX6 67 yX6_needRange : Cond) ∈ wsU := uq_2 (i := 32) rfl rfl
theorem uk_2_33 : (.static yX6_needRange : Cond) ∈ wsU := uq_2 (i := 33) rfl rfl
theorem uk_2_34 : (.code yX6_needRange cX6_needRange 3 (none : Option FieldType) : Cond) ∈ wsU := uq_2 (i := 34) rfl rfl
theorem uk_2_35 : (.classLink RX6 322 "java/lang/IllegalArgumentException" : Cond) ∈ wsU := uq_2 (i := 35) rfl rfl
theorem uk_2_36 : (.instantiable "java/lang/IllegalArgumentException" 6 : Cond) ∈ wsU := uq_2 (i := 36) rfl rfl
theorem un_2_37 : (.castable "java/lang/IllegalArgumentException" "java/lang/IllegalArgumentException" : Cond) ∈ wsN := un_2 (i := 37) rfl rfl
theorem uk_2_38 : (.selects "java/lang/IllegalArgumentException" ⟨"java/lang/Throwable", "fillInStackTrace", "(I)Ljava/lang/Throwable;"⟩ ⟨"java/lang/Throwable", "fillInStackTrace", "(I)Ljava/lang/Throwable;"⟩ : Cond) ∈ wsU := uq_2 (i := 38) rfl rfl
theorem uk_2_44 : (.methodLink RX6 324 ⟨"java/lang/IllegalArgumentException", "<init>", "()V"⟩ : Cond) ∈ wsU := uq_2 (i := 44) rfl rfl
theorem uk_2_45 : (.instanceMethod ⟨"java/lang/IllegalArgumentException", "<init>", "()V"⟩ : Cond) ∈ wsU := uq_2 (i := 45) rfl rfl
theorem uk_2_46 : (.code ⟨"java/lang/IllegalArgumentException", "<init>", "()V"⟩ prog_13_method_1_code 1 (none : Option FieldType) : Cond) ∈ wsU := uq_2 (i := 46) rfl rfl
theorem uk_2_47 : (.methodLink "java/lang/IllegalArgumentException" 1 ⟨"java/lang/RuntimeException", "<init>", "()V"⟩ : Cond) ∈ wsU := uq_2 (i := 47) rfl rfl
theorem uk_2_50 : (.methodLink RX6 71 yJx4a65c_size_8abf5 : Cond) ∈ wsU := uq_2 (i := 50) rfl rfl
theorem uk_2_51 : (.instanceMethod yJx4a65c_size_8abf5 : Cond) ∈ wsU := uq_2 (i := 51) rfl rfl
theorem uk_2_52 : (.selects RJx4a65c yJx4a65c_size_8abf5 yJx4a65c_size_8abf5 : Cond) ∈ wsU := uq_2 (i := 52) rfl rfl
theorem uk_2_53 : (.code yJx4a65c_size_8abf5 cJx4a65c_size_8abf5 1 (some FieldType.int) : Cond) ∈ wsU := uq_2 (i := 53) rfl rfl
theorem uk_2_54 : (.methodLink RX6 75 yX6_needState : Cond) ∈ wsU := uq_2 (i := 54) rfl rfl
theorem uk_2_55 : (.static yX6_needState : Cond) ∈ wsU := uq_2 (i := 55) rfl rfl
theorem uk_2_56 : (.code yX6_needState cX6_needState 1 (none : Option FieldType) : Cond) ∈ wsU := uq_2 (i := 56) rfl rfl
theorem uk_2_57 : (.classLink RX6 325 "java/lang/IllegalStateException" : Cond) ∈ wsU := uq_2 (i := 57) rfl rfl
theorem uk_2_58 : (.instantiable "java/lang/IllegalStateException" 6 : Cond) ∈ wsU := uq_2 (i := 58) rfl rfl
theorem un_2_59 : (.castable "java/lang/IllegalStateException" "java/lang/IllegalStateException" : Cond) ∈ wsN := un_2 (i := 59) rfl rfl
theorem uk_2_60 : (.selects "java/lang/IllegalStateException" ⟨"java/lang/Throwable", "fillInStackTrace", "(I)Ljava/lang/Throwable;"⟩ ⟨"java/lang/Throwable", "fillInStackTrace", "(I)Ljava/lang/Throwable;"⟩ : Cond) ∈ wsU := uq_2 (i := 60) rfl rfl
theorem uk_2_66 : (.methodLink RX6 327 ⟨"java/lang/IllegalStateException", "<init>", "()V"⟩ : Cond) ∈ wsU := uq_2 (i := 66) rfl rfl
theorem uk_2_67 : (.instanceMethod ⟨"java/lang/IllegalStateException", "<init>", "()V"⟩ : Cond) ∈ wsU := uq_2 (i := 67) rfl rfl
theorem uk_2_68 : (.code ⟨"java/lang/IllegalStateException", "<init>", "()V"⟩ prog_14_method_1_code 1 (none : Option FieldType) : Cond) ∈ wsU := uq_2 (i := 68) rfl rfl
theorem uk_2_69 : (.methodLink "java/lang/IllegalStateException" 1 ⟨"java/lang/RuntimeException", "<init>", "()V"⟩ : Cond) ∈ wsU := uq_2 (i := 69) rfl rfl
theorem uk_2_72 : (.classLink RX6 79 RX3 : Cond) ∈ wsU := uq_2 (i := 72) rfl rfl
theorem uk_2_73 : (.instantiable RX3 12 : Cond) ∈ wsU := uq_2 (i := 73) rfl rfl
theorem uk_2_74 : (.methodLink RX6 81 yX3_init : Cond) ∈ wsU := uq_2 (i := 74) rfl rfl
theorem uk_2_75 : (.instanceMethod yX3_init : Cond) ∈ wsU := uq_2 (i := 75) rfl rfl
theorem uk_2_76 : (.code yX3_init cX3_init 5 (none : Option FieldType) : Cond) ∈ wsU := uq_2 (i := 76) rfl rfl
theorem uk_2_77 : (.methodLink RX3 3 ⟨"java/lang/Object", "<init>", "()V"⟩ : Cond) ∈ wsU := uq_2 (i := 77) rfl rfl
theorem uk_2_78 : (.fieldLink RX3 38 "Pledgehouse$Thing" "number" "I" : Cond) ∈ wsU := uq_2 (i := 78) rfl rfl
theorem uk_2_79 : (.fieldLink RX6 88 "Pledgehouse$Thing" "number" "I" : Cond) ∈ wsU := uq_2 (i := 79) rfl rfl
theorem uk_2_80 : (.fieldLink RX3 41 "Pledgehouse$Thing" "kind" "I" : Cond) ∈ wsU := uq_2 (i := 80) rfl rfl
theorem uk_2_81 : (.fieldLink RX6 245 "Pledgehouse$Thing" "kind" "I" : Cond) ∈ wsU := uq_2 (i := 81) rfl rfl
theorem uk_2_82 : (.fieldLink RX3 44 "Pledgehouse$Thing" "weight" "I" : Cond) ∈ wsU := uq_2 (i := 82) rfl rfl
theorem uk_2_83 : (.fieldLink RX6 340 "Pledgehouse$Thing" "weight" "I" : Cond) ∈ wsU := uq_2 (i := 83) rfl rfl
theorem uk_2_84 : (.fieldLink RX3 47 "Pledgehouse$Thing" "worth" "I" : Cond) ∈ wsU := uq_2 (i := 84) rfl rfl
theorem uk_2_85 : (.fieldLink RX6 328 "Pledgehouse$Thing" "worth" "I" : Cond) ∈ wsU := uq_2 (i := 85) rfl rfl
theorem uk_2_86 : (.fieldLink RX3 9 "Pledgehouse$Thing" "wear" "I" : Cond) ∈ wsU := uq_2 (i := 86) rfl rfl
theorem uk_2_87 : (.fieldLink RX6 293 "Pledgehouse$Thing" "wear" "I" : Cond) ∈ wsU := uq_2 (i := 87) rfl rfl
theorem uk_2_88 : (.fieldLink RX3 15 "Pledgehouse$Thing" "isStored" "Z" : Cond) ∈ wsU := uq_2 (i := 88) rfl rfl
theorem uk_2_89 : (.fieldLink RX6 128 "Pledgehouse$Thing" "isStored" "Z" : Cond) ∈ wsU := uq_2 (i := 89) rfl rfl
theorem uk_2_90 : (.fieldLink RX3 19 "Pledgehouse$Thing" "isListed" "Z" : Cond) ∈ wsU := uq_2 (i := 90) rfl rfl
theorem uk_2_91 : (.fieldLink RX4 68 "Pledgehouse$Thing" "isListed" "Z" : Cond) ∈ wsU := uq_2 (i := 91) rfl rfl
theorem uk_2_92 : (.fieldLink RX6 132 "Pledgehouse$Thing" "isListed" "Z" : Cond) ∈ wsU := uq_2 (i := 92) rfl rfl
theorem uk_2_93 : (.fieldLink RX3 22 "Pledgehouse$Thing" "bookPlace" "I" : Cond) ∈ wsU := uq_2 (i := 93) rfl rfl
theorem uk_2_94 : (.fieldLink RX6 242 "Pledgehouse$Thing" "bookPlace" "I" : Cond) ∈ wsU := uq_2 (i := 94) rfl rfl
theorem uk_2_95 : (.fieldLink RX3 25 "Pledgehouse$Thing" "truePlace" "I" : Cond) ∈ wsU := uq_2 (i := 95) rfl rfl
theorem uk_2_96 : (.fieldLink RX6 236 "Pledgehouse$Thing" "truePlace" "I" : Cond) ∈ wsU := uq_2 (i := 96) rfl rfl
theorem uk_2_97 : (.fieldLink RX3 28 "Pledgehouse$Thing" "comeDay" "I" : Cond) ∈ wsU := uq_2 (i := 97) rfl rfl
theorem uk_2_98 : (.fieldLink RX3 31 "Pledgehouse$Thing" "windDay" "I" : Cond) ∈ wsU := uq_2 (i := 98) rfl rfl
theorem uk_2_99 : (.fieldLink RX6 248 "Pledgehouse$Thing" "windDay" "I" : Cond) ∈ wsU := uq_2 (i := 99) rfl rfl
theorem uk_2_100 : (.fieldLink RX3 34 "Pledgehouse$Thing" "openTicket" "LPledgehouse$Ticket;" : Cond) ∈ wsU := uq_2 (i := 100) rfl rfl
theorem uk_2_101 : (.fieldLink RX6 218 "Pledgehouse$Thing" "openTicket" "LPledgehouse$Ticket;" : Cond) ∈ wsU := uq_2 (i := 101) rfl rfl
theorem uk_2_127 : (.methodLink RX6 84 yJx4a65c_add_9ea2d : Cond) ∈ wsU := uq_2 (i := 127) rfl rfl
theorem uk_2_128 : (.instanceMethod yJx4a65c_add_9ea2d : Cond) ∈ wsU := uq_2 (i := 128) rfl rfl
theorem uk_2_129 : (.selects RJx4a65c yJx4a65c_add_9ea2d yJx4a65c_add_9ea2d : Cond) ∈ wsU := uq_2 (i := 129) rfl rfl
theorem uk_2_130 : (.code yJx4a65c_add_9ea2d cJx4a65c_add_9ea2d 2 (some FieldType.boolean) : Cond) ∈ wsU := uq_2 (i := 130) rfl rfl
theorem uk_2_131 : (.methodLink RJx4a65c 131 yJx4a65c_add_72be8 : Cond) ∈ wsU := uq_2 (i := 131) rfl rfl
theorem uk_2_133 : (.instanceMethod yJx4a65c_add_72be8 : Cond) ∈ wsU := uq_2 (i := 133) rfl rfl
theorem uk_2_134 : (.code yJx4a65c_add_72be8 cJx4a65c_add_72be8 4 (none : Option FieldType) : Cond) ∈ wsU := uq_2 (i := 134) rfl rfl
theorem uk_2_135 : (.methodLink RJx4a65c 129 yJx4a65c_grow_d5877 : Cond) ∈ wsU := uq_2 (i := 135) rfl rfl
theorem uk_2_137 : (.instanceMethod yJx4a65c_grow_d5877 : Cond) ∈ wsU := uq_2 (i := 137) rfl rfl
theorem uk_2_138 : (.code yJx4a65c_grow_d5877 cJx4a65c_grow_d5877 1 (some (FieldType.array (FieldType.object "java/lang/Object"))) : Cond) ∈ wsU := uq_2 (i := 138) rfl rfl
theorem uk_2_139 : (.methodLink RJx4a65c 69 yJx4a65c_grow_92f84 : Cond) ∈ wsU := uq_2 (i := 139) rfl rfl
theorem uk_2_141 : (.instanceMethod yJx4a65c_grow_92f84 : Cond) ∈ wsU := uq_2 (i := 141) rfl rfl
theorem uk_2_142 : (.code yJx4a65c_grow_92f84 cJx4a65c_grow_92f84 4 (some (FieldType.array (FieldType.object "java/lang/Object"))) : Cond) ∈ wsU := uq_2 (i := 142) rfl rfl
theorem uk_2_143 : (.methodLink RJx4a65c 73 yJ8_newLength_cabcc : Cond) ∈ wsU := uq_2 (i := 143) rfl rfl
theorem uk_2_144 : (.static yJ8_newLength_cabcc : Cond) ∈ wsU := uq_2 (i := 144) rfl rfl
theorem uk_2_145 : (.code yJ8_newLength_cabcc cJ8_newLength_cabcc 4 (some FieldType.int) : Cond) ∈ wsU := uq_2 (i := 145) rfl rfl
theorem uk_2_146 : (.methodLink RJ8 194 yJ9_max_7cf53 : Cond) ∈ wsU := uq_2 (i := 146) rfl rfl
theorem uk_2_147 : (.static yJ9_max_7cf53 : Cond) ∈ wsU := uq_2 (i := 147) rfl rfl
theorem uk_2_148 : (.code yJ9_max_7cf53 cJ9_max_7cf53 2 (some FieldType.int) : Cond) ∈ wsU := uq_2 (i := 148) rfl rfl
theorem uk_2_149 : (.constant RJ8 200 (2147483639) : Cond) ∈ wsU := uq_2 (i := 149) rfl rfl
theorem uk_2_150 : (.methodLink RJ8 201 yJ8_hugeLength_7cf53 : Cond) ∈ wsU := uq_2 (i := 150) rfl rfl
theorem uk_2_151 : (.static yJ8_hugeLength_7cf53 : Cond) ∈ wsU := uq_2 (i := 151) rfl rfl
theorem uk_2_152 : (.code yJ8_hugeLength_7cf53 cJ8_hugeLength_7cf53 3 (some FieldType.int) : Cond) ∈ wsU := uq_2 (i := 152) rfl rfl
theorem uk_2_153 : (.methodLink RJx4a65c 66 yJ7_copyOf_1904c : Cond) ∈ wsU := uq_2 (i := 153) rfl rfl
theorem uk_2_154 : (.static yJ7_copyOf_1904c : Cond) ∈ wsU := uq_2 (i := 154) rfl rfl
theorem uk_2_155 : (.code yJ7_copyOf_1904c cJ7_copyOf_1904c 2 (some (FieldType.array (FieldType.object "java/lang/Object"))) : Cond) ∈ wsU := uq_2 (i := 155) rfl rfl
theorem uk_2_156 : (.methodLink RJ7 86 ⟨"java/lang/Object", "getClass", "()Ljava/lang/Class;"⟩ : Cond) ∈ wsU := uq_2 (i := 156) rfl rfl
theorem uk_2_157 : (.instanceMethod ⟨"java/lang/Object", "getClass", "()Ljava/lang/Class;"⟩ : Cond) ∈ wsU := uq_2 (i := 157) rfl rfl
theorem uk_2_158 : (.sameMethod "java/lang/Object" "java/lang/Object" "getClass" "()Ljava/lang/Class;" : Cond) ∈ wsU := uq_2 (i := 158) rfl rfl
theorem uk_2_159 : (.selects RX6 ⟨"java/lang/Object", "getClass", "()Ljava/lang/Class;"⟩ ⟨"java/lang/Object", "getClass", "()Ljava/lang/Class;"⟩ : Cond) ∈ wsU := uq_2 (i := 159) rfl rfl
theorem uk_2_160 : (.selects RX0 ⟨"java/lang/Object", "getClass", "()Ljava/lang/Class;"⟩ ⟨"java/lang/Object", "getClass", "()Ljava/lang/Class;"⟩ : Cond) ∈ wsU := uq_2 (i := 160) rfl rfl
theorem uk_2_161 : (.selects RX1 ⟨"java/lang/Object", "getClass", "()Ljava/lang/Class;"⟩ ⟨"java/lang/Object", "getClass", "()Ljava/lang/Class;"⟩ : Cond) ∈ wsU := uq_2 (i := 161) rfl rfl
theorem uk_2_162 : (.selects RX2 ⟨"java/lang/Object", "getClass", "()Ljava/lang/Class;"⟩ ⟨"java/lang/Object", "getClass", "()Ljava/lang/Class;"⟩ : Cond) ∈ wsU := uq_2 (i := 162) rfl rfl
theorem uk_2_163 : (.selects RX3 ⟨"java/lang/Object", "getClass", "()Ljava/lang/Class;"⟩ ⟨"java/lang/Object", "getClass", "()Ljava/lang/Class;"⟩ : Cond) ∈ wsU := uq_2 (i := 163) rfl rfl
theorem uk_2_164 : (.selects RX4 ⟨"java/lang/Object", "getClass", "()Ljava/lang/Class;"⟩ ⟨"java/lang/Object", "getClass", "()Ljava/lang/Class;"⟩ : Cond) ∈ wsU := uq_2 (i := 164) rfl rfl
theorem uk_2_165 : (.selects RX5 ⟨"java/lang/Object", "getClass", "()Ljava/lang/Class;"⟩ ⟨"java/lang/Object", "getClass", "()Ljava/lang/Class;"⟩ : Cond) ∈ wsU := uq_2 (i := 165) rfl rfl
theorem uk_2_166 : (.selects RX7 ⟨"java/lang/Object", "getClass", "()Ljava/lang/Class;"⟩ ⟨"java/lang/Object", "getClass", "()Ljava/lang/Class;"⟩ : Cond) ∈ wsU := uq_2 (i := 166) rfl rfl
theorem uk_2_167 : (.selects "java/lang/IllegalArgumentException" ⟨"java/lang/Object", "getClass", "()Ljava/lang/Class;"⟩ ⟨"java/lang/Object", "getClass", "()Ljava/lang/Class;"⟩ : Cond) ∈ wsU := uq_2 (i := 167) rfl rfl
theorem uk_2_168 : (.selects "java/lang/IllegalStateException" ⟨"java/lang/Object", "getClass", "()Ljava/lang/Class;"⟩ ⟨"java/lang/Object", "getClass", "()Ljava/lang/Class;"⟩ : Cond) ∈ wsU := uq_2 (i := 168) rfl rfl
theorem uk_2_169 : (.selects "java/lang/IndexOutOfBoundsException" ⟨"java/lang/Object", "getClass", "()Ljava/lang/Class;"⟩ ⟨"java/lang/Object", "getClass", "()Ljava/lang/Class;"⟩ : Cond) ∈ wsU := uq_2 (i := 169) rfl rfl
theorem uk_2_170 : (.selects RJx4a65c ⟨"java/lang/Object", "getClass", "()Ljava/lang/Class;"⟩ ⟨"java/lang/Object", "getClass", "()Ljava/lang/Class;"⟩ : Cond) ∈ wsU := uq_2 (i := 170) rfl rfl
theorem uk_2_171 : (.native ⟨"java/lang/Object", "getClass", "()Ljava/lang/Class;"⟩ : Cond) ∈ wsU := uq_2 (i := 171) rfl rfl
theorem uk_2_172 : (.methodLink RJ7 300 yJ7_copyOf_6403c : Cond) ∈ wsU := uq_2 (i := 172) rfl rfl
theorem uk_2_173 : (.static yJ7_copyOf_6403c : Cond) ∈ wsU := uq_2 (i := 173) rfl rfl
theorem uk_2_174 : (.code yJ7_copyOf_6403c cJ7_copyOf_6403c 4 (some (FieldType.array (FieldType.object "java/lang/Object"))) : Cond) ∈ wsU := uq_2 (i := 174) rfl rfl
theorem uk_2_175 : (.classLink RJ7 110 "[Ljava/lang/Object;" : Cond) ∈ wsU := uq_2 (i := 175) rfl rfl
theorem uk_2_177 : (.classLink RJ7 2 "java/lang/Object" : Cond) ∈ wsU := uq_2 (i := 177) rfl rfl
theorem uk_2_178 : (.methodLink RJ7 304 yJ9_min_7cf53 : Cond) ∈ wsU := uq_2 (i := 178) rfl rfl
theorem uk_2_179 : (.static yJ9_min_7cf53 : Cond) ∈ wsU := uq_2 (i := 179) rfl rfl
theorem uk_2_180 : (.code yJ9_min_7cf53 cJ9_min_7cf53 2 (some FieldType.int) : Cond) ∈ wsU := uq_2 (i := 180) rfl rfl
theorem uk_2_181 : (.methodLink RJ7 150 ⟨"java/lang/System", "arraycopy", "(Ljava/lang/Object;ILjava/lang/Object;II)V"⟩ : Cond) ∈ wsU := uq_2 (i := 181) rfl rfl
theorem uk_2_182 : (.static ⟨"java/lang/System", "arraycopy", "(Ljava/lang/Object;ILjava/lang/Object;II)V"⟩ : Cond) ∈ wsU := uq_2 (i := 182) rfl rfl
theorem uk_2_183 : (.native ⟨"java/lang/System", "arraycopy", "(Ljava/lang/Object;ILjava/lang/Object;II)V"⟩ : Cond) ∈ wsU := uq_2 (i := 183) rfl rfl
theorem uk_2_184 : (.methodLink RJx4a65c 79 yJ9_max_7cf53 : Cond) ∈ wsU := uq_2 (i := 184) rfl rfl
theorem uk_2_185 : (.classLink RJx4a65c 7 "java/lang/Object" : Cond) ∈ wsU := uq_2 (i := 185) rfl rfl
theorem uk_2_186 : (.methodLink RL 129 yL_fashion : Cond) ∈ wsU := uq_2 (i := 186) rfl rfl
theorem uk_2_187 : (.static yL_fashion : Cond) ∈ wsU := uq_2 (i := 187) rfl rfl
theorem uk_2_188 : (.codeWith yL_fashion cL_fashion 5 (some FieldType.int) [(0, 10, 13, 13), (0, 10, 17, 15)] : Cond) ∈ wsU := uq_2 (i := 188) rfl rfl
theorem uk_2_189 : (.methodLink RL 19 yX6_fashion : Cond) ∈ wsU := uq_2 (i := 189) rfl rfl
theorem uk_2_190 : (.instanceMethod yX6_fashion : Cond) ∈ wsU := uq_2 (i := 190) rfl rfl
theorem uk_2_191 : (.selects RX6 yX6_fashion yX6_fashion : Cond) ∈ wsU := uq_2 (i := 191) rfl rfl
theorem uk_2_192 : (.code yX6_fashion cX6_fashion 4 (some FieldType.int) : Cond) ∈ wsU := uq_2 (i := 192) rfl rfl
theorem uk_2_193 : (.methodLink RL 133 yL_bias : Cond) ∈ wsU := uq_2 (i := 193) rfl rfl
theorem uk_2_194 : (.static yL_bias : Cond) ∈ wsU := uq_2 (i := 194) rfl rfl
theorem uk_2_195 : (.codeWith yL_bias cL_bias 5 (some FieldType.int) [(0, 10, 13, 13), (0, 10, 17, 15)] : Cond) ∈ wsU := uq_2 (i := 195) rfl rfl
theorem uk_2_196 : (.methodLink RL 23 yX6_bias : Cond) ∈ wsU := uq_2 (i := 196) rfl rfl
theorem uk_2_197 : (.instanceMethod yX6_bias : Cond) ∈ wsU := uq_2 (i := 197) rfl rfl
theorem uk_2_198 : (.selects RX6 yX6_bias yX6_bias : Cond) ∈ wsU := uq_2 (i := 198) rfl rfl
theorem uk_2_199 : (.code yX6_bias cX6_bias 4 (some FieldType.int) : Cond) ∈ wsU := uq_2 (i := 199) rfl rfl
theorem uk_2_200 : (.methodLink RL 136 yL_classOf : Cond) ∈ wsU := uq_2 (i := 200) rfl rfl
theorem uk_2_201 : (.static yL_classOf : Cond) ∈ wsU := uq_2 (i := 201) rfl rfl
theorem uk_2_202 : (.codeWith yL_classOf cL_classOf 5 (some FieldType.int) [(0, 10, 13, 13)] : Cond) ∈ wsU := uq_2 (i := 202) rfl rfl
theorem uk_2_203 : (.methodLink RL 26 yX6_classOf : Cond) ∈ wsU := uq_2 (i := 203) rfl rfl
theorem uk_2_204 : (.instanceMethod yX6_classOf : Cond) ∈ wsU := uq_2 (i := 204) rfl rfl
theorem uk_2_205 : (.selects RX6 yX6_classOf yX6_classOf : Cond) ∈ wsU := uq_2 (i := 205) rfl rfl
theorem uk_2_206 : (.code yX6_classOf cX6_classOf 4 (some FieldType.int) : Cond) ∈ wsU := uq_2 (i := 206) rfl rfl
theorem uk_2_207 : (.methodLink RL 139 yL_charter : Cond) ∈ wsU := uq_2 (i := 207) rfl rfl
theorem uk_2_208 : (.static yL_charter : Cond) ∈ wsU := uq_2 (i := 208) rfl rfl
theorem uk_2_209 : (.codeWith yL_charter cL_charter 5 (some FieldType.int) [(0, 7, 10, 13), (0, 7, 14, 15)] : Cond) ∈ wsU := uq_2 (i := 209) rfl rfl
theorem uk_2_210 : (.methodLink RL 29 yX6_charter : Cond) ∈ wsU := uq_2 (i := 210) rfl rfl
theorem uk_2_211 : (.instanceMethod yX6_charter : Cond) ∈ wsU := uq_2 (i := 211) rfl rfl
theorem uk_2_212 : (.selects RX6 yX6_charter yX6_charter : Cond) ∈ wsU := uq_2 (i := 212) rfl rfl
theorem uk_2_213 : (.code yX6_charter cX6_charter 4 (none : Option FieldType) : Cond) ∈ wsU := uq_2 (i := 213) rfl rfl
theorem uk_2_214 : (.constant RX6 97 (100000) : Cond) ∈ wsU := uq_2 (i := 214) rfl rfl
theorem uk_2_215 : (.methodLink RL 143 yL_rate : Cond) ∈ wsU := uq_2 (i := 215) rfl rfl
theorem uk_2_216 : (.static yL_rate : Cond) ∈ wsU := uq_2 (i := 216) rfl rfl
theorem uk_2_217 : (.codeWith yL_rate cL_rate 5 (some FieldType.int) [(0, 10, 13, 13), (0, 10, 17, 15), (0, 10, 21, 17)] : Cond) ∈ wsU := uq_2 (i := 217) rfl rfl
theorem uk_2_218 : (.methodLink RL 33 yX6_rate : Cond) ∈ wsU := uq_2 (i := 218) rfl rfl
theorem uk_2_219 : (.instanceMethod yX6_rate : Cond) ∈ wsU := uq_2 (i := 219) rfl rfl
theorem uk_2_220 : (.selects RX6 yX6_rate yX6_rate : Cond) ∈ wsU := uq_2 (i := 220) rfl rfl
theorem uk_2_221 : (.code yX6_rate cX6_rate 4 (some FieldType.int) : Cond) ∈ wsU := uq_2 (i := 221) rfl rfl
theorem uk_2_222 : (.methodLink RX6 104 yX2_takesRate : Cond) ∈ wsU := uq_2 (i := 222) rfl rfl
theorem uk_2_223 : (.instanceMethod yX2_takesRate : Cond) ∈ wsU := uq_2 (i := 223) rfl rfl
theorem uk_2_224 : (.selects RX2 yX2_takesRate yX2_takesRate : Cond) ∈ wsU := uq_2 (i := 224) rfl rfl
theorem uk_2_225 : (.code yX2_takesRate cX2_takesRate 1 (some FieldType.boolean) : Cond) ∈ wsU := uq_2 (i := 225) rfl rfl
theorem uk_2_226 : (.methodLink RX6 108 yX2_rateOn : Cond) ∈ wsU := uq_2 (i := 226) rfl rfl
theorem uk_2_227 : (.instanceMethod yX2_rateOn : Cond) ∈ wsU := uq_2 (i := 227) rfl rfl
theorem uk_2_228 : (.selects RX2 yX2_rateOn yX2_rateOn : Cond) ∈ wsU := uq_2 (i := 228) rfl rfl
theorem uk_2_229 : (.code yX2_rateOn cX2_rateOn 4 (some FieldType.int) : Cond) ∈ wsU := uq_2 (i := 229) rfl rfl
theorem uk_2_230 : (.methodLink RX2 39 yX2_firstRate : Cond) ∈ wsU := uq_2 (i := 230) rfl rfl
theorem uk_2_231 : (.static yX2_firstRate : Cond) ∈ wsU := uq_2 (i := 231) rfl rfl
theorem uk_2_232 : (.code yX2_firstRate cX2_firstRate 1 (some FieldType.int) : Cond) ∈ wsU := uq_2 (i := 232) rfl rfl
theorem uk_2_233 : (.methodLink RX6 112 yX2_addRate : Cond) ∈ wsU := uq_2 (i := 233) rfl rfl
theorem uk_2_234 : (.instanceMethod yX2_addRate : Cond) ∈ wsU := uq_2 (i := 234) rfl rfl
theorem uk_2_235 : (.selects RX2 yX2_addRate yX2_addRate : Cond) ∈ wsU := uq_2 (i := 235) rfl rfl
theorem uk_2_236 : (.code yX2_addRate cX2_addRate 4 (none : Option FieldType) : Cond) ∈ wsU := uq_2 (i := 236) rfl rfl
theorem uk_2_237 : (.methodLink RX2 32 yX2_takesRate : Cond) ∈ wsU := uq_2 (i := 237) rfl rfl
theorem uk_2_238 : (.methodLink RL 146 yL_term : Cond) ∈ wsU := uq_2 (i := 238) rfl rfl
theorem uk_2_239 : (.static yL_term : Cond) ∈ wsU := uq_2 (i := 239) rfl rfl
theorem uk_3_0 : (.codeWith yL_term cL_term 4 (some FieldType.int) [(0, 9, 12, 15)] : Cond) ∈ wsU := uq_3 (i := 0) rfl rfl
theorem uk_3_1 : (.methodLink RL 36 yX6_term : Cond) ∈ wsU := uq_3 (i := 1) rfl rfl
theorem uk_3_2 : (.instanceMethod yX6_term : Cond) ∈ wsU := uq_3 (i := 2) rfl rfl
theorem uk_3_3 : (.selects RX6 yX6_term yX6_term : Cond) ∈ wsU := uq_3 (i := 3) rfl rfl
theorem uk_3_4 : (.code yX6_term cX6_term 3 (some FieldType.int) : Cond) ∈ wsU := uq_3 (i := 4) rfl rfl
theorem uk_3_5 : (.methodLink RL 150 yL_amnesty : Cond) ∈ wsU := uq_3 (i := 5) rfl rfl
theorem uk_3_6 : (.static yL_amnesty : Cond) ∈ wsU := uq_3 (i := 6) rfl rfl
theorem uk_3_7 : (.codeWith yL_amnesty cL_amnesty 5 (some FieldType.int) [(0, 10, 13, 15), (0, 10, 17, 17)] : Cond) ∈ wsU := uq_3 (i := 7) rfl rfl
theorem uk_3_8 : (.methodLink RL 40 yX6_amnesty : Cond) ∈ wsU := uq_3 (i := 8) rfl rfl
theorem uk_3_9 : (.instanceMethod yX6_amnesty : Cond) ∈ wsU := uq_3 (i := 9) rfl rfl
theorem uk_3_10 : (.selects RX6 yX6_amnesty yX6_amnesty : Cond) ∈ wsU := uq_3 (i := 10) rfl rfl
theorem uk_3_11 : (.code yX6_amnesty cX6_amnesty 3 (some FieldType.int) : Cond) ∈ wsU := uq_3 (i := 11) rfl rfl
theorem uk_3_12 : (.methodLink RX6 115 yX2_takesAmnesty : Cond) ∈ wsU := uq_3 (i := 12) rfl rfl
theorem uk_3_13 : (.instanceMethod yX2_takesAmnesty : Cond) ∈ wsU := uq_3 (i := 13) rfl rfl
theorem uk_3_14 : (.selects RX2 yX2_takesAmnesty yX2_takesAmnesty : Cond) ∈ wsU := uq_3 (i := 14) rfl rfl
theorem uk_3_15 : (.code yX2_takesAmnesty cX2_takesAmnesty 1 (some FieldType.boolean) : Cond) ∈ wsU := uq_3 (i := 15) rfl rfl
theorem uk_3_16 : (.methodLink RX6 118 yX2_addAmnesty : Cond) ∈ wsU := uq_3 (i := 16) rfl rfl
theorem uk_3_17 : (.instanceMethod yX2_addAmnesty : Cond) ∈ wsU := uq_3 (i := 17) rfl rfl
theorem uk_3_18 : (.selects RX2 yX2_addAmnesty yX2_addAmnesty : Cond) ∈ wsU := uq_3 (i := 18) rfl rfl
theorem uk_3_19 : (.code yX2_addAmnesty cX2_addAmnesty 3 (none : Option FieldType) : Cond) ∈ wsU := uq_3 (i := 19) rfl rfl
theorem uk_3_20 : (.methodLink RX2 36 yX2_takesAmnesty : Cond) ∈ wsU := uq_3 (i := 20) rfl rfl
theorem uk_3_21 : (.methodLink RL 153 yL_pledge : Cond) ∈ wsU := uq_3 (i := 21) rfl rfl
theorem uk_3_22 : (.static yL_pledge : Cond) ∈ wsU := uq_3 (i := 22) rfl rfl
theorem uk_3_23 : (.codeWith yL_pledge cL_pledge 9 (some FieldType.int) [(0, 18, 21, 13), (0, 18, 25, 15), (0, 18, 29, 17)] : Cond) ∈ wsU := uq_3 (i := 23) rfl rfl
theorem uk_3_24 : (.methodLink RL 43 yX6_pledge : Cond) ∈ wsU := uq_3 (i := 24) rfl rfl
theorem uk_3_25 : (.instanceMethod yX6_pledge : Cond) ∈ wsU := uq_3 (i := 25) rfl rfl
theorem uk_3_26 : (.selects RX6 yX6_pledge yX6_pledge : Cond) ∈ wsU := uq_3 (i := 26) rfl rfl
theorem uk_3_27 : (.code yX6_pledge cX6_pledge 11 (some FieldType.int) : Cond) ∈ wsU := uq_3 (i := 27) rfl rfl
theorem uk_3_28 : (.methodLink RX6 124 yX6_thingAt : Cond) ∈ wsU := uq_3 (i := 28) rfl rfl
theorem uk_3_30 : (.instanceMethod yX6_thingAt : Cond) ∈ wsU := uq_3 (i := 30) rfl rfl
theorem uk_3_31 : (.code yX6_thingAt cX6_thingAt 2 (some (FieldType.object "Pledgehouse$Thing")) : Cond) ∈ wsU := uq_3 (i := 31) rfl rfl
theorem uk_3_32 : (.methodLink RX6 232 yJx4a65c_get_915e3 : Cond) ∈ wsU := uq_3 (i := 32) rfl rfl
theorem uk_3_33 : (.instanceMethod yJx4a65c_get_915e3 : Cond) ∈ wsU := uq_3 (i := 33) rfl rfl
theorem uk_3_34 : (.selects RJx4a65c yJx4a65c_get_915e3 yJx4a65c_get_915e3 : Cond) ∈ wsU := uq_3 (i := 34) rfl rfl
theorem uk_3_35 : (.code yJx4a65c_get_915e3 cJx4a65c_get_915e3 2 (some (FieldType.object "java/lang/Object")) : Cond) ∈ wsU := uq_3 (i := 35) rfl rfl
theorem uk_3_36 : (.methodLink RJx4a65c 118 yJ15_checkIndex_7cf53 : Cond) ∈ wsU := uq_3 (i := 36) rfl rfl
theorem uk_3_37 : (.static yJ15_checkIndex_7cf53 : Cond) ∈ wsU := uq_3 (i := 37) rfl rfl
theorem uk_3_38 : (.code yJ15_checkIndex_7cf53 cJ15_checkIndex_7cf53 2 (some FieldType.int) : Cond) ∈ wsU := uq_3 (i := 38) rfl rfl
theorem uk_3_39 : (.methodLink RJ15 105 yJ3_checkIndex_8e157 : Cond) ∈ wsU := uq_3 (i := 39) rfl rfl
theorem uk_3_40 : (.static yJ3_checkIndex_8e157 : Cond) ∈ wsU := uq_3 (i := 40) rfl rfl
theorem uk_3_41 : (.code yJ3_checkIndex_8e157 cJ3_checkIndex_8e157 3 (some FieldType.int) : Cond) ∈ wsU := uq_3 (i := 41) rfl rfl
theorem uk_3_42 : (.methodLink RJx4a65c 123 yJx4a65c_elementData_915e3 : Cond) ∈ wsU := uq_3 (i := 42) rfl rfl
theorem uk_3_43 : (.instanceMethod yJx4a65c_elementData_915e3 : Cond) ∈ wsU := uq_3 (i := 43) rfl rfl
theorem uk_3_44 : (.selects RJx4a65c yJx4a65c_elementData_915e3 yJx4a65c_elementData_915e3 : Cond) ∈ wsU := uq_3 (i := 44) rfl rfl
theorem uk_3_45 : (.code yJx4a65c_elementData_915e3 cJx4a65c_elementData_915e3 2 (some (FieldType.object "java/lang/Object")) : Cond) ∈ wsU := uq_3 (i := 45) rfl rfl
theorem uk_3_46 : (.methodLink RX6 135 yX6_valueNow : Cond) ∈ wsU := uq_3 (i := 46) rfl rfl
theorem uk_3_48 : (.instanceMethod yX6_valueNow : Cond) ∈ wsU := uq_3 (i := 48) rfl rfl
theorem uk_3_49 : (.code yX6_valueNow cX6_valueNow 3 (some FieldType.int) : Cond) ∈ wsU := uq_3 (i := 49) rfl rfl
theorem uk_3_50 : (.methodLink RX6 139 yX1_valueBy : Cond) ∈ wsU := uq_3 (i := 50) rfl rfl
theorem uk_3_51 : (.instanceMethod yX1_valueBy : Cond) ∈ wsU := uq_3 (i := 51) rfl rfl
theorem uk_3_52 : (.selects RX1 yX1_valueBy yX1_valueBy : Cond) ∈ wsU := uq_3 (i := 52) rfl rfl
theorem uk_3_53 : (.code yX1_valueBy cX1_valueBy 2 (some FieldType.int) : Cond) ∈ wsU := uq_3 (i := 53) rfl rfl
theorem uk_3_54 : (.methodLink RX6 143 yX6_mayLend : Cond) ∈ wsU := uq_3 (i := 54) rfl rfl
theorem uk_3_56 : (.instanceMethod yX6_mayLend : Cond) ∈ wsU := uq_3 (i := 56) rfl rfl
theorem uk_3_57 : (.code yX6_mayLend cX6_mayLend 5 (some FieldType.boolean) : Cond) ∈ wsU := uq_3 (i := 57) rfl rfl
theorem uk_3_58 : (.methodLink RX6 290 yX5_free : Cond) ∈ wsU := uq_3 (i := 58) rfl rfl
theorem uk_3_59 : (.instanceMethod yX5_free : Cond) ∈ wsU := uq_3 (i := 59) rfl rfl
theorem uk_3_60 : (.selects RX5 yX5_free yX5_free : Cond) ∈ wsU := uq_3 (i := 60) rfl rfl
theorem uk_3_61 : (.code yX5_free cX5_free 1 (some FieldType.int) : Cond) ∈ wsU := uq_3 (i := 61) rfl rfl
theorem uk_3_62 : (.methodLink RX6 331 yX6_openLoansOf : Cond) ∈ wsU := uq_3 (i := 62) rfl rfl
theorem uk_3_64 : (.instanceMethod yX6_openLoansOf : Cond) ∈ wsU := uq_3 (i := 64) rfl rfl
theorem uk_3_65 : (.code yX6_openLoansOf cX6_openLoansOf 5 (some FieldType.int) : Cond) ∈ wsU := uq_3 (i := 65) rfl rfl
theorem uk_3_66 : (.classLink RX6 151 RX4 : Cond) ∈ wsU := uq_3 (i := 66) rfl rfl
theorem uk_3_67 : (.methodLink RX6 147 yX6_shelfFor : Cond) ∈ wsU := uq_3 (i := 67) rfl rfl
theorem uk_3_69 : (.instanceMethod yX6_shelfFor : Cond) ∈ wsU := uq_3 (i := 69) rfl rfl
theorem uk_3_70 : (.code yX6_shelfFor cX6_shelfFor 6 (some FieldType.int) : Cond) ∈ wsU := uq_3 (i := 70) rfl rfl
theorem uk_3_71 : (.methodLink RX6 159 yX6_placeOf : Cond) ∈ wsU := uq_3 (i := 71) rfl rfl
theorem uk_3_72 : (.static yX6_placeOf : Cond) ∈ wsU := uq_3 (i := 72) rfl rfl
theorem uk_3_73 : (.code yX6_placeOf cX6_placeOf 2 (some FieldType.int) : Cond) ∈ wsU := uq_3 (i := 73) rfl rfl
theorem uk_3_74 : (.methodLink RX6 309 yX6_roomAt : Cond) ∈ wsU := uq_3 (i := 74) rfl rfl
theorem uk_3_76 : (.instanceMethod yX6_roomAt : Cond) ∈ wsU := uq_3 (i := 76) rfl rfl
theorem uk_3_77 : (.code yX6_roomAt cX6_roomAt 6 (some FieldType.int) : Cond) ∈ wsU := uq_3 (i := 77) rfl rfl
theorem uk_3_78 : (.instantiable RX4 16 : Cond) ∈ wsU := uq_3 (i := 78) rfl rfl
theorem uk_3_79 : (.methodLink RX6 153 yX4_init : Cond) ∈ wsU := uq_3 (i := 79) rfl rfl
theorem uk_3_80 : (.instanceMethod yX4_init : Cond) ∈ wsU := uq_3 (i := 80) rfl rfl
theorem uk_3_81 : (.code yX4_init cX4_init 8 (none : Option FieldType) : Cond) ∈ wsU := uq_3 (i := 81) rfl rfl
theorem uk_3_82 : (.methodLink RX4 3 ⟨"java/lang/Object", "<init>", "()V"⟩ : Cond) ∈ wsU := uq_3 (i := 82) rfl rfl
theorem uk_3_83 : (.fieldLink RX4 36 "Pledgehouse$Ticket" "number" "I" : Cond) ∈ wsU := uq_3 (i := 83) rfl rfl
theorem uk_3_84 : (.fieldLink RX3 50 "Pledgehouse$Ticket" "number" "I" : Cond) ∈ wsU := uq_3 (i := 84) rfl rfl
theorem uk_3_85 : (.fieldLink RX6 169 "Pledgehouse$Ticket" "number" "I" : Cond) ∈ wsU := uq_3 (i := 85) rfl rfl
theorem uk_3_86 : (.fieldLink RX4 39 "Pledgehouse$Ticket" "thing" "LPledgehouse$Thing;" : Cond) ∈ wsU := uq_3 (i := 86) rfl rfl
theorem uk_3_87 : (.fieldLink RX6 183 "Pledgehouse$Ticket" "thing" "LPledgehouse$Thing;" : Cond) ∈ wsU := uq_3 (i := 87) rfl rfl
theorem uk_3_88 : (.fieldLink RX4 43 "Pledgehouse$Ticket" "pledger" "I" : Cond) ∈ wsU := uq_3 (i := 88) rfl rfl
theorem uk_3_89 : (.fieldLink RX6 334 "Pledgehouse$Ticket" "pledger" "I" : Cond) ∈ wsU := uq_3 (i := 89) rfl rfl
theorem uk_3_90 : (.fieldLink RX4 49 "Pledgehouse$Ticket" "isNamed" "Z" : Cond) ∈ wsU := uq_3 (i := 90) rfl rfl
theorem uk_3_91 : (.fieldLink RX6 200 "Pledgehouse$Ticket" "isNamed" "Z" : Cond) ∈ wsU := uq_3 (i := 91) rfl rfl
theorem uk_3_92 : (.fieldLink RX4 53 "Pledgehouse$Ticket" "expert" "LPledgehouse$Expert;" : Cond) ∈ wsU := uq_3 (i := 92) rfl rfl
theorem uk_3_93 : (.fieldLink RX6 222 "Pledgehouse$Ticket" "expert" "LPledgehouse$Expert;" : Cond) ∈ wsU := uq_3 (i := 93) rfl rfl
theorem uk_3_94 : (.fieldLink RX4 57 "Pledgehouse$Ticket" "valuedAt" "I" : Cond) ∈ wsU := uq_3 (i := 94) rfl rfl
theorem uk_3_95 : (.fieldLink RX6 271 "Pledgehouse$Ticket" "valuedAt" "I" : Cond) ∈ wsU := uq_3 (i := 95) rfl rfl
theorem uk_3_96 : (.fieldLink RX4 46 "Pledgehouse$Ticket" "holder" "I" : Cond) ∈ wsU := uq_3 (i := 96) rfl rfl
theorem uk_3_97 : (.fieldLink RX6 180 "Pledgehouse$Ticket" "holder" "I" : Cond) ∈ wsU := uq_3 (i := 97) rfl rfl
theorem uk_3_98 : (.fieldLink RX4 9 "Pledgehouse$Ticket" "state" "I" : Cond) ∈ wsU := uq_3 (i := 98) rfl rfl
theorem uk_3_99 : (.fieldLink RX6 174 "Pledgehouse$Ticket" "state" "I" : Cond) ∈ wsU := uq_3 (i := 99) rfl rfl
theorem uk_3_100 : (.fieldLink RX4 60 "Pledgehouse$Ticket" "loan" "I" : Cond) ∈ wsU := uq_3 (i := 100) rfl rfl
theorem uk_3_101 : (.fieldLink RX6 190 "Pledgehouse$Ticket" "loan" "I" : Cond) ∈ wsU := uq_3 (i := 101) rfl rfl
theorem uk_3_102 : (.fieldLink RX4 15 "Pledgehouse$Ticket" "beginDay" "I" : Cond) ∈ wsU := uq_3 (i := 102) rfl rfl
theorem uk_3_103 : (.fieldLink RX6 296 "Pledgehouse$Ticket" "beginDay" "I" : Cond) ∈ wsU := uq_3 (i := 103) rfl rfl
theorem uk_3_104 : (.fieldLink RX4 18 "Pledgehouse$Ticket" "ownTerm" "I" : Cond) ∈ wsU := uq_3 (i := 104) rfl rfl
theorem uk_3_105 : (.fieldLink RX4 21 "Pledgehouse$Ticket" "noticeBy" "I" : Cond) ∈ wsU := uq_3 (i := 105) rfl rfl
theorem uk_3_106 : (.fieldLink RX6 209 "Pledgehouse$Ticket" "noticeBy" "I" : Cond) ∈ wsU := uq_3 (i := 106) rfl rfl
theorem uk_3_107 : (.fieldLink RX4 24 "Pledgehouse$Ticket" "noticeDay" "I" : Cond) ∈ wsU := uq_3 (i := 107) rfl rfl
theorem uk_3_108 : (.fieldLink RX6 212 "Pledgehouse$Ticket" "noticeDay" "I" : Cond) ∈ wsU := uq_3 (i := 108) rfl rfl
theorem uk_3_109 : (.fieldLink RX4 27 "Pledgehouse$Ticket" "timesInVain" "I" : Cond) ∈ wsU := uq_3 (i := 109) rfl rfl
theorem uk_3_110 : (.fieldLink RX6 262 "Pledgehouse$Ticket" "timesInVain" "I" : Cond) ∈ wsU := uq_3 (i := 110) rfl rfl
theorem uk_3_111 : (.fieldLink RX4 30 "Pledgehouse$Ticket" "surplus" "I" : Cond) ∈ wsU := uq_3 (i := 111) rfl rfl
theorem uk_3_112 : (.fieldLink RX6 274 "Pledgehouse$Ticket" "surplus" "I" : Cond) ∈ wsU := uq_3 (i := 112) rfl rfl
theorem uk_3_113 : (.fieldLink RX4 33 "Pledgehouse$Ticket" "soldDay" "I" : Cond) ∈ wsU := uq_3 (i := 113) rfl rfl
theorem uk_3_114 : (.fieldLink RX6 277 "Pledgehouse$Ticket" "soldDay" "I" : Cond) ∈ wsU := uq_3 (i := 114) rfl rfl
theorem uk_3_148 : (.methodLink RX6 156 yX4_begin : Cond) ∈ wsU := uq_3 (i := 148) rfl rfl
theorem uk_3_149 : (.instanceMethod yX4_begin : Cond) ∈ wsU := uq_3 (i := 149) rfl rfl
theorem uk_3_150 : (.selects RX4 yX4_begin yX4_begin : Cond) ∈ wsU := uq_3 (i := 150) rfl rfl
theorem uk_3_151 : (.code yX4_begin cX4_begin 3 (none : Option FieldType) : Cond) ∈ wsU := uq_3 (i := 151) rfl rfl
theorem uk_3_152 : (.methodLink RX6 162 yX3_store : Cond) ∈ wsU := uq_3 (i := 152) rfl rfl
theorem uk_3_153 : (.instanceMethod yX3_store : Cond) ∈ wsU := uq_3 (i := 153) rfl rfl
theorem uk_3_154 : (.selects RX3 yX3_store yX3_store : Cond) ∈ wsU := uq_3 (i := 154) rfl rfl
theorem uk_3_155 : (.code yX3_store cX3_store 4 (none : Option FieldType) : Cond) ∈ wsU := uq_3 (i := 155) rfl rfl
theorem uk_3_156 : (.methodLink RX6 166 yX5_move : Cond) ∈ wsU := uq_3 (i := 156) rfl rfl
theorem uk_3_157 : (.instanceMethod yX5_move : Cond) ∈ wsU := uq_3 (i := 157) rfl rfl
theorem uk_3_158 : (.selects RX5 yX5_move yX5_move : Cond) ∈ wsU := uq_3 (i := 158) rfl rfl
theorem uk_3_159 : (.code yX5_move cX5_move 2 (none : Option FieldType) : Cond) ∈ wsU := uq_3 (i := 159) rfl rfl
theorem uk_3_160 : (.methodLink RL 157 yL_redeem : Cond) ∈ wsU := uq_3 (i := 160) rfl rfl
theorem uk_3_161 : (.static yL_redeem : Cond) ∈ wsU := uq_3 (i := 161) rfl rfl
theorem uk_3_162 : (.codeWith yL_redeem cL_redeem 5 (some FieldType.int) [(0, 10, 13, 13), (0, 10, 17, 17)] : Cond) ∈ wsU := uq_3 (i := 162) rfl rfl
theorem uk_3_163 : (.methodLink RL 47 yX6_redeem : Cond) ∈ wsU := uq_3 (i := 163) rfl rfl
theorem uk_3_164 : (.instanceMethod yX6_redeem : Cond) ∈ wsU := uq_3 (i := 164) rfl rfl
theorem uk_3_165 : (.selects RX6 yX6_redeem yX6_redeem : Cond) ∈ wsU := uq_3 (i := 165) rfl rfl
theorem uk_3_166 : (.code yX6_redeem cX6_redeem 5 (some FieldType.int) : Cond) ∈ wsU := uq_3 (i := 166) rfl rfl
theorem uk_3_167 : (.methodLink RX6 170 yX6_ticketAt : Cond) ∈ wsU := uq_3 (i := 167) rfl rfl
theorem uk_3_169 : (.instanceMethod yX6_ticketAt : Cond) ∈ wsU := uq_3 (i := 169) rfl rfl
theorem uk_3_170 : (.code yX6_ticketAt cX6_ticketAt 2 (some (FieldType.object "Pledgehouse$Ticket")) : Cond) ∈ wsU := uq_3 (i := 170) rfl rfl
theorem uk_3_171 : (.methodLink RX6 177 yX4_isBarred : Cond) ∈ wsU := uq_3 (i := 171) rfl rfl
theorem uk_3_172 : (.instanceMethod yX4_isBarred : Cond) ∈ wsU := uq_3 (i := 172) rfl rfl
theorem uk_3_173 : (.selects RX4 yX4_isBarred yX4_isBarred : Cond) ∈ wsU := uq_3 (i := 173) rfl rfl
theorem uk_3_174 : (.code yX4_isBarred cX4_isBarred 1 (some FieldType.boolean) : Cond) ∈ wsU := uq_3 (i := 174) rfl rfl
theorem uk_3_175 : (.methodLink RX4 71 yX4_hasNotice : Cond) ∈ wsU := uq_3 (i := 175) rfl rfl
theorem uk_3_176 : (.instanceMethod yX4_hasNotice : Cond) ∈ wsU := uq_3 (i := 176) rfl rfl
theorem uk_3_177 : (.selects RX4 yX4_hasNotice yX4_hasNotice : Cond) ∈ wsU := uq_3 (i := 177) rfl rfl
theorem uk_3_178 : (.code yX4_hasNotice cX4_hasNotice 1 (some FieldType.boolean) : Cond) ∈ wsU := uq_3 (i := 178) rfl rfl
theorem uk_3_179 : (.methodLink RX4 75 yX4_isBarredByList : Cond) ∈ wsU := uq_3 (i := 179) rfl rfl
theorem uk_3_180 : (.instanceMethod yX4_isBarredByList : Cond) ∈ wsU := uq_3 (i := 180) rfl rfl
theorem uk_3_181 : (.selects RX4 yX4_isBarredByList yX4_isBarredByList : Cond) ∈ wsU := uq_3 (i := 181) rfl rfl
theorem uk_3_182 : (.code yX4_isBarredByList cX4_isBarredByList 1 (some FieldType.boolean) : Cond) ∈ wsU := uq_3 (i := 182) rfl rfl
theorem uk_3_183 : (.methodLink RX6 187 yX3_canBeFound : Cond) ∈ wsU := uq_3 (i := 183) rfl rfl
theorem uk_3_184 : (.instanceMethod yX3_canBeFound : Cond) ∈ wsU := uq_3 (i := 184) rfl rfl
theorem uk_3_185 : (.selects RX3 yX3_canBeFound yX3_canBeFound : Cond) ∈ wsU := uq_3 (i := 185) rfl rfl
theorem uk_3_186 : (.code yX3_canBeFound cX3_canBeFound 1 (some FieldType.boolean) : Cond) ∈ wsU := uq_3 (i := 186) rfl rfl
theorem uk_3_187 : (.methodLink RX6 193 yX6_interestNow : Cond) ∈ wsU := uq_3 (i := 187) rfl rfl
theorem uk_3_189 : (.instanceMethod yX6_interestNow : Cond) ∈ wsU := uq_3 (i := 189) rfl rfl
theorem uk_3_190 : (.code yX6_interestNow cX6_interestNow 2 (some FieldType.int) : Cond) ∈ wsU := uq_3 (i := 190) rfl rfl
theorem uk_3_191 : (.methodLink RX6 337 yX2_interest : Cond) ∈ wsU := uq_3 (i := 191) rfl rfl
theorem uk_3_192 : (.instanceMethod yX2_interest : Cond) ∈ wsU := uq_3 (i := 192) rfl rfl
theorem uk_3_193 : (.selects RX2 yX2_interest yX2_interest : Cond) ∈ wsU := uq_3 (i := 193) rfl rfl
theorem uk_3_194 : (.code yX2_interest cX2_interest 7 (some FieldType.int) : Cond) ∈ wsU := uq_3 (i := 194) rfl rfl
theorem uk_3_195 : (.methodLink RX2 54 yX2_costOf : Cond) ∈ wsU := uq_3 (i := 195) rfl rfl
theorem uk_3_196 : (.instanceMethod yX2_costOf : Cond) ∈ wsU := uq_3 (i := 196) rfl rfl
theorem uk_3_197 : (.selects RX2 yX2_costOf yX2_costOf : Cond) ∈ wsU := uq_3 (i := 197) rfl rfl
theorem uk_3_198 : (.code yX2_costOf cX2_costOf 4 (some FieldType.int) : Cond) ∈ wsU := uq_3 (i := 198) rfl rfl
theorem uk_3_199 : (.methodLink RX2 43 yX2_isFree : Cond) ∈ wsU := uq_3 (i := 199) rfl rfl
theorem uk_3_200 : (.instanceMethod yX2_isFree : Cond) ∈ wsU := uq_3 (i := 200) rfl rfl
theorem uk_3_201 : (.selects RX2 yX2_isFree yX2_isFree : Cond) ∈ wsU := uq_3 (i := 201) rfl rfl
theorem uk_3_202 : (.code yX2_isFree cX2_isFree 3 (some FieldType.boolean) : Cond) ∈ wsU := uq_3 (i := 202) rfl rfl
theorem uk_3_203 : (.methodLink RX2 47 yX2_stepOf : Cond) ∈ wsU := uq_3 (i := 203) rfl rfl
theorem uk_3_204 : (.static yX2_stepOf : Cond) ∈ wsU := uq_3 (i := 204) rfl rfl
theorem uk_3_205 : (.code yX2_stepOf cX2_stepOf 1 (some FieldType.int) : Cond) ∈ wsU := uq_3 (i := 205) rfl rfl
theorem uk_3_206 : (.methodLink RX2 50 yX2_rateOn : Cond) ∈ wsU := uq_3 (i := 206) rfl rfl
theorem uk_3_207 : (.methodLink RX6 197 yX4_close : Cond) ∈ wsU := uq_3 (i := 207) rfl rfl
theorem uk_3_208 : (.instanceMethod yX4_close : Cond) ∈ wsU := uq_3 (i := 208) rfl rfl
theorem uk_3_209 : (.selects RX4 yX4_close yX4_close : Cond) ∈ wsU := uq_3 (i := 209) rfl rfl
theorem uk_3_210 : (.code yX4_close cX4_close 2 (none : Option FieldType) : Cond) ∈ wsU := uq_3 (i := 210) rfl rfl
theorem uk_3_211 : (.methodLink RX4 63 yX3_leave : Cond) ∈ wsU := uq_3 (i := 211) rfl rfl
theorem uk_3_212 : (.instanceMethod yX3_leave : Cond) ∈ wsU := uq_3 (i := 212) rfl rfl
theorem uk_3_213 : (.selects RX3 yX3_leave yX3_leave : Cond) ∈ wsU := uq_3 (i := 213) rfl rfl
theorem uk_3_214 : (.code yX3_leave cX3_leave 1 (none : Option FieldType) : Cond) ∈ wsU := uq_3 (i := 214) rfl rfl
theorem uk_3_215 : (.methodLink RL 160 yL_renew : Cond) ∈ wsU := uq_3 (i := 215) rfl rfl
theorem uk_3_216 : (.static yL_renew : Cond) ∈ wsU := uq_3 (i := 216) rfl rfl
theorem uk_3_217 : (.codeWith yL_renew cL_renew 6 (some FieldType.int) [(0, 12, 15, 13), (0, 12, 19, 15), (0, 12, 23, 17)] : Cond) ∈ wsU := uq_3 (i := 217) rfl rfl
theorem uk_3_218 : (.methodLink RL 50 yX6_renew : Cond) ∈ wsU := uq_3 (i := 218) rfl rfl
theorem uk_3_219 : (.instanceMethod yX6_renew : Cond) ∈ wsU := uq_3 (i := 219) rfl rfl
theorem uk_3_220 : (.selects RX6 yX6_renew yX6_renew : Cond) ∈ wsU := uq_3 (i := 220) rfl rfl
theorem uk_3_221 : (.code yX6_renew cX6_renew 6 (some FieldType.int) : Cond) ∈ wsU := uq_3 (i := 221) rfl rfl
theorem uk_3_222 : (.methodLink RL 163 yL_give : Cond) ∈ wsU := uq_3 (i := 222) rfl rfl
theorem uk_3_223 : (.static yL_give : Cond) ∈ wsU := uq_3 (i := 223) rfl rfl
theorem uk_3_224 : (.codeWith yL_give cL_give 5 (some FieldType.int) [(0, 10, 13, 13), (0, 10, 17, 17)] : Cond) ∈ wsU := uq_3 (i := 224) rfl rfl
theorem uk_3_225 : (.methodLink RL 53 yX6_give : Cond) ∈ wsU := uq_3 (i := 225) rfl rfl
theorem uk_3_226 : (.instanceMethod yX6_give : Cond) ∈ wsU := uq_3 (i := 226) rfl rfl
theorem uk_3_227 : (.selects RX6 yX6_give yX6_give : Cond) ∈ wsU := uq_3 (i := 227) rfl rfl
theorem uk_3_228 : (.code yX6_give cX6_give 5 (some FieldType.int) : Cond) ∈ wsU := uq_3 (i := 228) rfl rfl
theorem uk_3_229 : (.methodLink RX6 203 yX4_isOpenOrSold : Cond) ∈ wsU := uq_3 (i := 229) rfl rfl
theorem uk_3_230 : (.instanceMethod yX4_isOpenOrSold : Cond) ∈ wsU := uq_3 (i := 230) rfl rfl
theorem uk_3_231 : (.selects RX4 yX4_isOpenOrSold yX4_isOpenOrSold : Cond) ∈ wsU := uq_3 (i := 231) rfl rfl
theorem uk_3_232 : (.code yX4_isOpenOrSold cX4_isOpenOrSold 1 (some FieldType.boolean) : Cond) ∈ wsU := uq_3 (i := 232) rfl rfl
theorem uk_3_233 : (.methodLink RL 166 yL_notice : Cond) ∈ wsU := uq_3 (i := 233) rfl rfl
theorem uk_3_234 : (.static yL_notice : Cond) ∈ wsU := uq_3 (i := 234) rfl rfl
theorem uk_3_235 : (.codeWith yL_notice cL_notice 4 (some FieldType.int) [(0, 6, 9, 13), (0, 6, 12, 17)] : Cond) ∈ wsU := uq_3 (i := 235) rfl rfl
theorem uk_3_236 : (.methodLink RL 56 yX6_notice : Cond) ∈ wsU := uq_3 (i := 236) rfl rfl
theorem uk_3_237 : (.instanceMethod yX6_notice : Cond) ∈ wsU := uq_3 (i := 237) rfl rfl
theorem uk_3_238 : (.selects RX6 yX6_notice yX6_notice : Cond) ∈ wsU := uq_3 (i := 238) rfl rfl
theorem uk_3_239 : (.code yX6_notice cX6_notice 4 (none : Option FieldType) : Cond) ∈ wsU := uq_3 (i := 239) rfl rfl
theorem uk_4_0 : (.methodLink RX6 206 yX4_hasNotice : Cond) ∈ wsU := uq_4 (i := 0) rfl rfl
theorem uk_4_1 : (.methodLink RL 170 yL_show : Cond) ∈ wsU := uq_4 (i := 1) rfl rfl
theorem uk_4_2 : (.static yL_show : Cond) ∈ wsU := uq_4 (i := 2) rfl rfl
theorem uk_4_3 : (.codeWith yL_show cL_show 4 (some FieldType.int) [(0, 9, 12, 13), (0, 9, 15, 17)] : Cond) ∈ wsU := uq_4 (i := 3) rfl rfl
theorem uk_4_4 : (.methodLink RL 60 yX6_show : Cond) ∈ wsU := uq_4 (i := 4) rfl rfl
theorem uk_4_5 : (.instanceMethod yX6_show : Cond) ∈ wsU := uq_4 (i := 5) rfl rfl
theorem uk_4_6 : (.selects RX6 yX6_show yX6_show : Cond) ∈ wsU := uq_4 (i := 6) rfl rfl
theorem uk_4_7 : (.code yX6_show cX6_show 4 (some FieldType.int) : Cond) ∈ wsU := uq_4 (i := 7) rfl rfl
theorem uk_4_8 : (.methodLink RL 173 yL_police : Cond) ∈ wsU := uq_4 (i := 8) rfl rfl
theorem uk_4_9 : (.static yL_police : Cond) ∈ wsU := uq_4 (i := 9) rfl rfl
theorem uk_4_10 : (.codeWith yL_police cL_police 4 (some FieldType.int) [(0, 9, 12, 13), (0, 9, 15, 17)] : Cond) ∈ wsU := uq_4 (i := 10) rfl rfl
theorem uk_4_11 : (.methodLink RL 63 yX6_police : Cond) ∈ wsU := uq_4 (i := 11) rfl rfl
theorem uk_4_12 : (.instanceMethod yX6_police : Cond) ∈ wsU := uq_4 (i := 12) rfl rfl
theorem uk_4_13 : (.selects RX6 yX6_police yX6_police : Cond) ∈ wsU := uq_4 (i := 13) rfl rfl
theorem uk_4_14 : (.code yX6_police cX6_police 3 (some FieldType.int) : Cond) ∈ wsU := uq_4 (i := 14) rfl rfl
theorem uk_4_15 : (.methodLink RX6 215 yX3_openTicketNumber : Cond) ∈ wsU := uq_4 (i := 15) rfl rfl
theorem uk_4_16 : (.instanceMethod yX3_openTicketNumber : Cond) ∈ wsU := uq_4 (i := 16) rfl rfl
theorem uk_4_17 : (.selects RX3 yX3_openTicketNumber yX3_openTicketNumber : Cond) ∈ wsU := uq_4 (i := 17) rfl rfl
theorem uk_4_18 : (.code yX3_openTicketNumber cX3_openTicketNumber 1 (some FieldType.int) : Cond) ∈ wsU := uq_4 (i := 18) rfl rfl
theorem uk_4_19 : (.methodLink RL 176 yL_court : Cond) ∈ wsU := uq_4 (i := 19) rfl rfl
theorem uk_4_20 : (.static yL_court : Cond) ∈ wsU := uq_4 (i := 20) rfl rfl
theorem uk_4_21 : (.codeWith yL_court cL_court 5 (some FieldType.int) [(0, 10, 13, 13), (0, 10, 17, 17)] : Cond) ∈ wsU := uq_4 (i := 21) rfl rfl
theorem uk_4_22 : (.methodLink RL 66 yX6_court : Cond) ∈ wsU := uq_4 (i := 22) rfl rfl
theorem uk_4_23 : (.instanceMethod yX6_court : Cond) ∈ wsU := uq_4 (i := 23) rfl rfl
theorem uk_4_24 : (.selects RX6 yX6_court yX6_court : Cond) ∈ wsU := uq_4 (i := 24) rfl rfl
theorem uk_4_25 : (.code yX6_court cX6_court 5 (some FieldType.int) : Cond) ∈ wsU := uq_4 (i := 25) rfl rfl
theorem uk_4_26 : (.methodLink RL 180 yL_stray : Cond) ∈ wsU := uq_4 (i := 26) rfl rfl
theorem uk_4_27 : (.static yL_stray : Cond) ∈ wsU := uq_4 (i := 27) rfl rfl
theorem uk_4_28 : (.codeWith yL_stray cL_stray 5 (some FieldType.int) [(0, 7, 10, 13), (0, 7, 14, 17)] : Cond) ∈ wsU := uq_4 (i := 28) rfl rfl
theorem uk_4_29 : (.methodLink RL 70 yX6_stray : Cond) ∈ wsU := uq_4 (i := 29) rfl rfl
theorem uk_4_30 : (.instanceMethod yX6_stray : Cond) ∈ wsU := uq_4 (i := 30) rfl rfl
theorem uk_4_31 : (.selects RX6 yX6_stray yX6_stray : Cond) ∈ wsU := uq_4 (i := 31) rfl rfl
theorem uk_4_32 : (.code yX6_stray cX6_stray 5 (none : Option FieldType) : Cond) ∈ wsU := uq_4 (i := 32) rfl rfl
theorem uk_4_33 : (.methodLink RX6 229 yX3_comeTo : Cond) ∈ wsU := uq_4 (i := 33) rfl rfl
theorem uk_4_34 : (.instanceMethod yX3_comeTo : Cond) ∈ wsU := uq_4 (i := 34) rfl rfl
theorem uk_4_35 : (.selects RX3 yX3_comeTo yX3_comeTo : Cond) ∈ wsU := uq_4 (i := 35) rfl rfl
theorem uk_4_36 : (.code yX3_comeTo cX3_comeTo 3 (none : Option FieldType) : Cond) ∈ wsU := uq_4 (i := 36) rfl rfl
theorem uk_4_37 : (.methodLink RL 183 yL_count : Cond) ∈ wsU := uq_4 (i := 37) rfl rfl
theorem uk_4_38 : (.static yL_count : Cond) ∈ wsU := uq_4 (i := 38) rfl rfl
theorem uk_4_39 : (.codeWith yL_count cL_count 4 (some FieldType.int) [(0, 9, 12, 13)] : Cond) ∈ wsU := uq_4 (i := 39) rfl rfl
theorem uk_4_40 : (.methodLink RL 73 yX6_count : Cond) ∈ wsU := uq_4 (i := 40) rfl rfl
theorem uk_4_41 : (.instanceMethod yX6_count : Cond) ∈ wsU := uq_4 (i := 41) rfl rfl
theorem uk_4_42 : (.selects RX6 yX6_count yX6_count : Cond) ∈ wsU := uq_4 (i := 42) rfl rfl
theorem uk_4_43 : (.code yX6_count cX6_count 6 (some FieldType.int) : Cond) ∈ wsU := uq_4 (i := 43) rfl rfl
theorem uk_4_44 : (.methodLink RX6 239 yX6_branchOf : Cond) ∈ wsU := uq_4 (i := 44) rfl rfl
theorem uk_4_45 : (.static yX6_branchOf : Cond) ∈ wsU := uq_4 (i := 45) rfl rfl
theorem uk_4_46 : (.code yX6_branchOf cX6_branchOf 1 (some FieldType.int) : Cond) ∈ wsU := uq_4 (i := 46) rfl rfl
theorem uk_4_47 : (.methodLink RL 186 yL_transfer : Cond) ∈ wsU := uq_4 (i := 47) rfl rfl
theorem uk_4_48 : (.static yL_transfer : Cond) ∈ wsU := uq_4 (i := 48) rfl rfl
theorem uk_4_49 : (.codeWith yL_transfer cL_transfer 5 (some FieldType.int) [(0, 10, 13, 13), (0, 10, 17, 17)] : Cond) ∈ wsU := uq_4 (i := 49) rfl rfl
theorem uk_4_50 : (.methodLink RL 76 yX6_transfer : Cond) ∈ wsU := uq_4 (i := 50) rfl rfl
theorem uk_4_51 : (.instanceMethod yX6_transfer : Cond) ∈ wsU := uq_4 (i := 51) rfl rfl
theorem uk_4_52 : (.selects RX6 yX6_transfer yX6_transfer : Cond) ∈ wsU := uq_4 (i := 52) rfl rfl
theorem uk_4_53 : (.code yX6_transfer cX6_transfer 5 (some FieldType.int) : Cond) ∈ wsU := uq_4 (i := 53) rfl rfl
theorem uk_4_54 : (.methodLink RL 189 yL_wind : Cond) ∈ wsU := uq_4 (i := 54) rfl rfl
theorem uk_4_55 : (.static yL_wind : Cond) ∈ wsU := uq_4 (i := 55) rfl rfl
theorem uk_4_56 : (.codeWith yL_wind cL_wind 4 (some FieldType.int) [(0, 9, 12, 13)] : Cond) ∈ wsU := uq_4 (i := 56) rfl rfl
theorem uk_4_57 : (.methodLink RL 79 yX6_wind : Cond) ∈ wsU := uq_4 (i := 57) rfl rfl
theorem uk_4_58 : (.instanceMethod yX6_wind : Cond) ∈ wsU := uq_4 (i := 58) rfl rfl
theorem uk_4_59 : (.selects RX6 yX6_wind yX6_wind : Cond) ∈ wsU := uq_4 (i := 59) rfl rfl
theorem uk_4_60 : (.code yX6_wind cX6_wind 5 (some FieldType.int) : Cond) ∈ wsU := uq_4 (i := 60) rfl rfl
theorem uk_4_61 : (.methodLink RL 192 yL_pass : Cond) ∈ wsU := uq_4 (i := 61) rfl rfl
theorem uk_4_62 : (.static yL_pass : Cond) ∈ wsU := uq_4 (i := 62) rfl rfl
theorem uk_4_63 : (.codeWith yL_pass cL_pass 4 (some FieldType.int) [(0, 9, 12, 15), (0, 9, 15, 17)] : Cond) ∈ wsU := uq_4 (i := 63) rfl rfl
theorem uk_4_64 : (.methodLink RL 82 yX6_pass : Cond) ∈ wsU := uq_4 (i := 64) rfl rfl
theorem uk_4_65 : (.instanceMethod yX6_pass : Cond) ∈ wsU := uq_4 (i := 65) rfl rfl
theorem uk_4_66 : (.selects RX6 yX6_pass yX6_pass : Cond) ∈ wsU := uq_4 (i := 66) rfl rfl
theorem uk_4_67 : (.code yX6_pass cX6_pass 3 (some FieldType.int) : Cond) ∈ wsU := uq_4 (i := 67) rfl rfl
theorem uk_4_68 : (.methodLink RX6 251 yX6_passOneDay : Cond) ∈ wsU := uq_4 (i := 68) rfl rfl
theorem uk_4_70 : (.instanceMethod yX6_passOneDay : Cond) ∈ wsU := uq_4 (i := 70) rfl rfl
theorem uk_4_71 : (.code yX6_passOneDay cX6_passOneDay 3 (none : Option FieldType) : Cond) ∈ wsU := uq_4 (i := 71) rfl rfl
theorem uk_4_72 : (.methodLink RX6 343 yX3_wearOn : Cond) ∈ wsU := uq_4 (i := 72) rfl rfl
theorem uk_4_73 : (.instanceMethod yX3_wearOn : Cond) ∈ wsU := uq_4 (i := 73) rfl rfl
theorem uk_4_74 : (.selects RX3 yX3_wearOn yX3_wearOn : Cond) ∈ wsU := uq_4 (i := 74) rfl rfl
theorem uk_4_75 : (.code yX3_wearOn cX3_wearOn 2 (none : Option FieldType) : Cond) ∈ wsU := uq_4 (i := 75) rfl rfl
theorem uk_4_76 : (.methodLink RX3 53 yX3_furWearsOn : Cond) ∈ wsU := uq_4 (i := 76) rfl rfl
theorem uk_4_78 : (.instanceMethod yX3_furWearsOn : Cond) ∈ wsU := uq_4 (i := 78) rfl rfl
theorem uk_4_79 : (.code yX3_furWearsOn cX3_furWearsOn 2 (some FieldType.boolean) : Cond) ∈ wsU := uq_4 (i := 79) rfl rfl
theorem uk_4_80 : (.methodLink RX3 57 yX3_clockWearsOn : Cond) ∈ wsU := uq_4 (i := 80) rfl rfl
theorem uk_4_82 : (.instanceMethod yX3_clockWearsOn : Cond) ∈ wsU := uq_4 (i := 82) rfl rfl
theorem uk_4_83 : (.code yX3_clockWearsOn cX3_clockWearsOn 2 (some FieldType.boolean) : Cond) ∈ wsU := uq_4 (i := 83) rfl rfl
theorem uk_4_84 : (.methodLink RX6 346 yX4_endNoticeOn : Cond) ∈ wsU := uq_4 (i := 84) rfl rfl
theorem uk_4_85 : (.instanceMethod yX4_endNoticeOn : Cond) ∈ wsU := uq_4 (i := 85) rfl rfl
theorem uk_4_86 : (.selects RX4 yX4_endNoticeOn yX4_endNoticeOn : Cond) ∈ wsU := uq_4 (i := 86) rfl rfl
theorem uk_4_87 : (.code yX4_endNoticeOn cX4_endNoticeOn 2 (none : Option FieldType) : Cond) ∈ wsU := uq_4 (i := 87) rfl rfl
theorem uk_4_88 : (.methodLink RX6 349 yX4_surplusEndsOn : Cond) ∈ wsU := uq_4 (i := 88) rfl rfl
theorem uk_4_89 : (.instanceMethod yX4_surplusEndsOn : Cond) ∈ wsU := uq_4 (i := 89) rfl rfl
theorem uk_4_90 : (.selects RX4 yX4_surplusEndsOn yX4_surplusEndsOn : Cond) ∈ wsU := uq_4 (i := 90) rfl rfl
theorem uk_4_91 : (.code yX4_surplusEndsOn cX4_surplusEndsOn 2 (some FieldType.boolean) : Cond) ∈ wsU := uq_4 (i := 91) rfl rfl
theorem uk_4_92 : (.methodLink RX6 283 yX6_releaseSurplus : Cond) ∈ wsU := uq_4 (i := 92) rfl rfl
theorem uk_4_94 : (.instanceMethod yX6_releaseSurplus : Cond) ∈ wsU := uq_4 (i := 94) rfl rfl
theorem uk_4_95 : (.code yX6_releaseSurplus cX6_releaseSurplus 3 (some FieldType.int) : Cond) ∈ wsU := uq_4 (i := 95) rfl rfl
theorem uk_4_96 : (.methodLink RL 195 yL_offer : Cond) ∈ wsU := uq_4 (i := 96) rfl rfl
theorem uk_4_97 : (.static yL_offer : Cond) ∈ wsU := uq_4 (i := 97) rfl rfl
theorem uk_4_98 : (.codeWith yL_offer cL_offer 5 (some FieldType.int) [(0, 10, 13, 13), (0, 10, 17, 15), (0, 10, 21, 17)] : Cond) ∈ wsU := uq_4 (i := 98) rfl rfl
theorem uk_4_99 : (.methodLink RL 85 yX6_offer : Cond) ∈ wsU := uq_4 (i := 99) rfl rfl
theorem uk_4_100 : (.instanceMethod yX6_offer : Cond) ∈ wsU := uq_4 (i := 100) rfl rfl
theorem uk_4_101 : (.selects RX6 yX6_offer yX6_offer : Cond) ∈ wsU := uq_4 (i := 101) rfl rfl
theorem uk_4_102 : (.code yX6_offer cX6_offer 7 (some FieldType.int) : Cond) ∈ wsU := uq_4 (i := 102) rfl rfl
theorem uk_4_103 : (.methodLink RX6 254 yX6_mayBeOffered : Cond) ∈ wsU := uq_4 (i := 103) rfl rfl
theorem uk_4_105 : (.instanceMethod yX6_mayBeOffered : Cond) ∈ wsU := uq_4 (i := 105) rfl rfl
theorem uk_4_106 : (.code yX6_mayBeOffered cX6_mayBeOffered 2 (some FieldType.boolean) : Cond) ∈ wsU := uq_4 (i := 106) rfl rfl
theorem uk_4_107 : (.methodLink RX6 299 yX4_lastDay : Cond) ∈ wsU := uq_4 (i := 107) rfl rfl
theorem uk_4_108 : (.instanceMethod yX4_lastDay : Cond) ∈ wsU := uq_4 (i := 108) rfl rfl
theorem uk_4_109 : (.selects RX4 yX4_lastDay yX4_lastDay : Cond) ∈ wsU := uq_4 (i := 109) rfl rfl
theorem uk_4_110 : (.code yX4_lastDay cX4_lastDay 1 (some FieldType.int) : Cond) ∈ wsU := uq_4 (i := 110) rfl rfl
theorem uk_4_111 : (.methodLink RX6 258 yX6_reserveOf : Cond) ∈ wsU := uq_4 (i := 111) rfl rfl
theorem uk_4_112 : (.static yX6_reserveOf : Cond) ∈ wsU := uq_4 (i := 112) rfl rfl
theorem uk_4_113 : (.code yX6_reserveOf cX6_reserveOf 2 (some FieldType.int) : Cond) ∈ wsU := uq_4 (i := 113) rfl rfl
theorem uk_4_114 : (.constant RX6 267 (-2147483648) : Cond) ∈ wsU := uq_4 (i := 114) rfl rfl
theorem uk_4_115 : (.methodLink RL 198 yL_claim : Cond) ∈ wsU := uq_4 (i := 115) rfl rfl
theorem uk_4_116 : (.static yL_claim : Cond) ∈ wsU := uq_4 (i := 116) rfl rfl
theorem uk_4_117 : (.codeWith yL_claim cL_claim 5 (some FieldType.int) [(0, 10, 13, 13), (0, 10, 17, 17)] : Cond) ∈ wsU := uq_4 (i := 117) rfl rfl
theorem uk_4_118 : (.methodLink RL 88 yX6_claim : Cond) ∈ wsU := uq_4 (i := 118) rfl rfl
theorem uk_4_119 : (.instanceMethod yX6_claim : Cond) ∈ wsU := uq_4 (i := 119) rfl rfl
theorem uk_4_120 : (.selects RX6 yX6_claim yX6_claim : Cond) ∈ wsU := uq_4 (i := 120) rfl rfl
theorem uk_4_121 : (.code yX6_claim cX6_claim 4 (some FieldType.int) : Cond) ∈ wsU := uq_4 (i := 121) rfl rfl
theorem uk_4_122 : (.methodLink RL 201 yL_deposit : Cond) ∈ wsU := uq_4 (i := 122) rfl rfl
theorem uk_4_123 : (.static yL_deposit : Cond) ∈ wsU := uq_4 (i := 123) rfl rfl
theorem uk_4_124 : (.codeWith yL_deposit cL_deposit 4 (some FieldType.int) [(0, 9, 12, 15), (0, 9, 15, 17)] : Cond) ∈ wsU := uq_4 (i := 124) rfl rfl
theorem uk_4_125 : (.methodLink RL 91 yX6_deposit : Cond) ∈ wsU := uq_4 (i := 125) rfl rfl
theorem uk_4_126 : (.instanceMethod yX6_deposit : Cond) ∈ wsU := uq_4 (i := 126) rfl rfl
theorem uk_4_127 : (.selects RX6 yX6_deposit yX6_deposit : Cond) ∈ wsU := uq_4 (i := 127) rfl rfl
theorem uk_4_128 : (.code yX6_deposit cX6_deposit 2 (some FieldType.int) : Cond) ∈ wsU := uq_4 (i := 128) rfl rfl
theorem uk_4_129 : (.constant RX6 289 (100000000) : Cond) ∈ wsU := uq_4 (i := 129) rfl rfl
theorem uk_4_130 : (.methodLink RL 204 yL_withdraw : Cond) ∈ wsU := uq_4 (i := 130) rfl rfl
theorem uk_4_131 : (.static yL_withdraw : Cond) ∈ wsU := uq_4 (i := 131) rfl rfl
theorem uk_4_132 : (.codeWith yL_withdraw cL_withdraw 4 (some FieldType.int) [(0, 9, 12, 15), (0, 9, 15, 17)] : Cond) ∈ wsU := uq_4 (i := 132) rfl rfl
theorem uk_4_133 : (.methodLink RL 94 yX6_withdraw : Cond) ∈ wsU := uq_4 (i := 133) rfl rfl
theorem uk_4_134 : (.instanceMethod yX6_withdraw : Cond) ∈ wsU := uq_4 (i := 134) rfl rfl
theorem uk_4_135 : (.selects RX6 yX6_withdraw yX6_withdraw : Cond) ∈ wsU := uq_4 (i := 135) rfl rfl
theorem uk_4_136 : (.code yX6_withdraw cX6_withdraw 2 (some FieldType.int) : Cond) ∈ wsU := uq_4 (i := 136) rfl rfl
theorem uk_4_137 : (.methodLink RL 211 yL_thingOf : Cond) ∈ wsU := uq_4 (i := 137) rfl rfl
theorem uk_4_138 : (.static yL_thingOf : Cond) ∈ wsU := uq_4 (i := 138) rfl rfl
theorem uk_4_139 : (.codeWith yL_thingOf cL_thingOf 5 (some FieldType.int) [(0, 10, 13, 13), (0, 10, 17, 15)] : Cond) ∈ wsU := uq_4 (i := 139) rfl rfl
theorem uk_4_140 : (.methodLink RL 97 yX6_thingOf : Cond) ∈ wsU := uq_4 (i := 140) rfl rfl
theorem uk_4_141 : (.instanceMethod yX6_thingOf : Cond) ∈ wsU := uq_4 (i := 141) rfl rfl
theorem uk_4_142 : (.selects RX6 yX6_thingOf yX6_thingOf : Cond) ∈ wsU := uq_4 (i := 142) rfl rfl
theorem uk_4_143 : (.code yX6_thingOf cX6_thingOf 4 (some FieldType.int) : Cond) ∈ wsU := uq_4 (i := 143) rfl rfl
theorem uk_4_144 : (.methodLink RL 214 yL_ticketOf : Cond) ∈ wsU := uq_4 (i := 144) rfl rfl
theorem uk_4_145 : (.static yL_ticketOf : Cond) ∈ wsU := uq_4 (i := 145) rfl rfl
theorem uk_4_146 : (.codeWith yL_ticketOf cL_ticketOf 5 (some FieldType.int) [(0, 10, 13, 13), (0, 10, 17, 15)] : Cond) ∈ wsU := uq_4 (i := 146) rfl rfl
theorem uk_4_147 : (.methodLink RL 100 yX6_ticketOf : Cond) ∈ wsU := uq_4 (i := 147) rfl rfl
theorem uk_4_148 : (.instanceMethod yX6_ticketOf : Cond) ∈ wsU := uq_4 (i := 148) rfl rfl
theorem uk_4_149 : (.selects RX6 yX6_ticketOf yX6_ticketOf : Cond) ∈ wsU := uq_4 (i := 149) rfl rfl
theorem uk_4_150 : (.code yX6_ticketOf cX6_ticketOf 4 (some FieldType.int) : Cond) ∈ wsU := uq_4 (i := 150) rfl rfl
theorem uk_4_151 : (.methodLink RX6 302 yX4_isBarredByList : Cond) ∈ wsU := uq_4 (i := 151) rfl rfl
theorem uk_4_152 : (.methodLink RL 217 yL_interestAnew : Cond) ∈ wsU := uq_4 (i := 152) rfl rfl
theorem uk_4_153 : (.static yL_interestAnew : Cond) ∈ wsU := uq_4 (i := 153) rfl rfl
theorem uk_4_154 : (.codeWith yL_interestAnew cL_interestAnew 4 (some FieldType.int) [(0, 9, 12, 13)] : Cond) ∈ wsU := uq_4 (i := 154) rfl rfl
theorem uk_4_155 : (.methodLink RL 103 yX6_interestAnew : Cond) ∈ wsU := uq_4 (i := 155) rfl rfl
theorem uk_4_156 : (.instanceMethod yX6_interestAnew : Cond) ∈ wsU := uq_4 (i := 156) rfl rfl
theorem uk_4_157 : (.selects RX6 yX6_interestAnew yX6_interestAnew : Cond) ∈ wsU := uq_4 (i := 157) rfl rfl
theorem uk_4_158 : (.code yX6_interestAnew cX6_interestAnew 3 (some FieldType.int) : Cond) ∈ wsU := uq_4 (i := 158) rfl rfl
theorem uk_4_159 : (.methodLink RX6 305 yX2_interestByDays : Cond) ∈ wsU := uq_4 (i := 159) rfl rfl
theorem uk_4_160 : (.instanceMethod yX2_interestByDays : Cond) ∈ wsU := uq_4 (i := 160) rfl rfl
theorem uk_4_161 : (.selects RX2 yX2_interestByDays yX2_interestByDays : Cond) ∈ wsU := uq_4 (i := 161) rfl rfl
theorem uk_4_162 : (.code yX2_interestByDays cX2_interestByDays 8 (some FieldType.int) : Cond) ∈ wsU := uq_4 (i := 162) rfl rfl
theorem uk_4_163 : (.methodLink RL 220 yL_expertOf : Cond) ∈ wsU := uq_4 (i := 163) rfl rfl
theorem uk_4_164 : (.static yL_expertOf : Cond) ∈ wsU := uq_4 (i := 164) rfl rfl
theorem uk_4_165 : (.codeWith yL_expertOf cL_expertOf 5 (some FieldType.int) [(0, 10, 13, 13), (0, 10, 17, 15)] : Cond) ∈ wsU := uq_4 (i := 165) rfl rfl
theorem uk_4_166 : (.methodLink RL 106 yX6_expertOf : Cond) ∈ wsU := uq_4 (i := 166) rfl rfl
theorem uk_4_167 : (.instanceMethod yX6_expertOf : Cond) ∈ wsU := uq_4 (i := 167) rfl rfl
theorem uk_4_168 : (.selects RX6 yX6_expertOf yX6_expertOf : Cond) ∈ wsU := uq_4 (i := 168) rfl rfl
theorem uk_4_169 : (.code yX6_expertOf cX6_expertOf 3 (some FieldType.int) : Cond) ∈ wsU := uq_4 (i := 169) rfl rfl
theorem uk_4_170 : (.methodLink RL 223 yL_bears : Cond) ∈ wsU := uq_4 (i := 170) rfl rfl
theorem uk_4_171 : (.static yL_bears : Cond) ∈ wsU := uq_4 (i := 171) rfl rfl
theorem uk_4_172 : (.codeWith yL_bears cL_bears 5 (some FieldType.int) [(0, 10, 13, 13)] : Cond) ∈ wsU := uq_4 (i := 172) rfl rfl
theorem uk_4_173 : (.methodLink RL 109 yX6_bears : Cond) ∈ wsU := uq_4 (i := 173) rfl rfl
theorem uk_4_174 : (.instanceMethod yX6_bears : Cond) ∈ wsU := uq_4 (i := 174) rfl rfl
theorem uk_4_175 : (.selects RX6 yX6_bears yX6_bears : Cond) ∈ wsU := uq_4 (i := 175) rfl rfl
theorem uk_4_176 : (.code yX6_bears cX6_bears 3 (some FieldType.int) : Cond) ∈ wsU := uq_4 (i := 176) rfl rfl
theorem uk_4_177 : (.methodLink RL 226 yL_money : Cond) ∈ wsU := uq_4 (i := 177) rfl rfl
theorem uk_4_178 : (.static yL_money : Cond) ∈ wsU := uq_4 (i := 178) rfl rfl
theorem uk_4_179 : (.codeWith yL_money cL_money 4 (some FieldType.int) [(0, 9, 12, 15)] : Cond) ∈ wsU := uq_4 (i := 179) rfl rfl
theorem uk_4_180 : (.methodLink RL 112 yX6_money : Cond) ∈ wsU := uq_4 (i := 180) rfl rfl
theorem uk_4_181 : (.instanceMethod yX6_money : Cond) ∈ wsU := uq_4 (i := 181) rfl rfl
theorem uk_4_182 : (.selects RX6 yX6_money yX6_money : Cond) ∈ wsU := uq_4 (i := 182) rfl rfl
theorem uk_4_183 : (.code yX6_money cX6_money 2 (some FieldType.int) : Cond) ∈ wsU := uq_4 (i := 183) rfl rfl
theorem uk_4_184 : (.classLink RL 116 RX7 : Cond) ∈ wsU := uq_4 (i := 184) rfl rfl
theorem uk_4_185 : (.instantiable RX7 47 : Cond) ∈ wsU := uq_4 (i := 185) rfl rfl
theorem uk_4_186 : (.methodLink RL 118 yX7_init : Cond) ∈ wsU := uq_4 (i := 186) rfl rfl
theorem uk_4_187 : (.instanceMethod yX7_init : Cond) ∈ wsU := uq_4 (i := 187) rfl rfl
theorem uk_4_188 : (.code yX7_init cX7_init 2 (none : Option FieldType) : Cond) ∈ wsU := uq_4 (i := 188) rfl rfl
theorem uk_4_189 : (.methodLink RX7 1 ⟨"java/lang/Object", "<init>", "()V"⟩ : Cond) ∈ wsU := uq_4 (i := 189) rfl rfl
theorem uk_4_190 : (.fieldLink RX7 126 "PledgehouseModel" "refusal" "I" : Cond) ∈ wsU := uq_4 (i := 190) rfl rfl
theorem uk_4_191 : (.fieldLink RX7 150 "PledgehouseModel" "day" "I" : Cond) ∈ wsU := uq_4 (i := 191) rfl rfl
theorem uk_4_192 : (.fieldLink RX7 129 "PledgehouseModel" "things" "I" : Cond) ∈ wsU := uq_4 (i := 192) rfl rfl
theorem uk_4_193 : (.fieldLink RX7 7 "PledgehouseModel" "kind" "[I" : Cond) ∈ wsU := uq_4 (i := 193) rfl rfl
theorem uk_4_194 : (.fieldLink RX7 13 "PledgehouseModel" "weight" "[I" : Cond) ∈ wsU := uq_4 (i := 194) rfl rfl
theorem uk_4_195 : (.fieldLink RX7 16 "PledgehouseModel" "worth" "[I" : Cond) ∈ wsU := uq_4 (i := 195) rfl rfl
theorem uk_4_196 : (.fieldLink RX7 19 "PledgehouseModel" "wear" "[I" : Cond) ∈ wsU := uq_4 (i := 196) rfl rfl
theorem uk_4_197 : (.fieldLink RX7 22 "PledgehouseModel" "isStored" "[Z" : Cond) ∈ wsU := uq_4 (i := 197) rfl rfl
theorem uk_4_198 : (.fieldLink RX7 26 "PledgehouseModel" "isListed" "[Z" : Cond) ∈ wsU := uq_4 (i := 198) rfl rfl
theorem uk_4_199 : (.fieldLink RX7 29 "PledgehouseModel" "book" "[I" : Cond) ∈ wsU := uq_4 (i := 199) rfl rfl
theorem uk_4_200 : (.fieldLink RX7 32 "PledgehouseModel" "place" "[I" : Cond) ∈ wsU := uq_4 (i := 200) rfl rfl
theorem uk_4_201 : (.fieldLink RX7 35 "PledgehouseModel" "came" "[I" : Cond) ∈ wsU := uq_4 (i := 201) rfl rfl
theorem uk_4_202 : (.fieldLink RX7 38 "PledgehouseModel" "wound" "[I" : Cond) ∈ wsU := uq_4 (i := 202) rfl rfl
theorem uk_4_203 : (.fieldLink RX7 41 "PledgehouseModel" "fashion" "[I" : Cond) ∈ wsU := uq_4 (i := 203) rfl rfl
theorem uk_4_204 : (.fieldLink RX7 44 "PledgehouseModel" "bias" "[I" : Cond) ∈ wsU := uq_4 (i := 204) rfl rfl
theorem uk_4_205 : (.fieldLink RX7 47 "PledgehouseModel" "charged" "[I" : Cond) ∈ wsU := uq_4 (i := 205) rfl rfl
theorem uk_4_206 : (.fieldLink RX7 50 "PledgehouseModel" "judged" "[I" : Cond) ∈ wsU := uq_4 (i := 206) rfl rfl
theorem uk_4_207 : (.fieldLink RX7 53 "PledgehouseModel" "classes" "[I" : Cond) ∈ wsU := uq_4 (i := 207) rfl rfl
theorem uk_4_208 : (.fieldLink RX7 56 "PledgehouseModel" "share" "[I" : Cond) ∈ wsU := uq_4 (i := 208) rfl rfl
theorem uk_4_209 : (.fieldLink RX7 59 "PledgehouseModel" "cap" "[I" : Cond) ∈ wsU := uq_4 (i := 209) rfl rfl
theorem uk_4_210 : (.fieldLink RX7 147 "PledgehouseModel" "told" "I" : Cond) ∈ wsU := uq_4 (i := 210) rfl rfl
theorem uk_4_211 : (.fieldLink RX7 62 "PledgehouseModel" "toldStep" "[I" : Cond) ∈ wsU := uq_4 (i := 211) rfl rfl
theorem uk_4_212 : (.fieldLink RX7 65 "PledgehouseModel" "toldDay" "[I" : Cond) ∈ wsU := uq_4 (i := 212) rfl rfl
theorem uk_4_213 : (.fieldLink RX7 68 "PledgehouseModel" "toldRate" "[I" : Cond) ∈ wsU := uq_4 (i := 213) rfl rfl
theorem uk_4_214 : (.fieldLink RX7 157 "PledgehouseModel" "amnesties" "I" : Cond) ∈ wsU := uq_4 (i := 214) rfl rfl
theorem uk_4_215 : (.fieldLink RX7 71 "PledgehouseModel" "freeFrom" "[I" : Cond) ∈ wsU := uq_4 (i := 215) rfl rfl
theorem uk_4_216 : (.fieldLink RX7 74 "PledgehouseModel" "freeTo" "[I" : Cond) ∈ wsU := uq_4 (i := 216) rfl rfl
theorem uk_4_217 : (.fieldLink RX7 77 "PledgehouseModel" "term" "I" : Cond) ∈ wsU := uq_4 (i := 217) rfl rfl
theorem uk_4_218 : (.fieldLink RX7 136 "PledgehouseModel" "tickets" "I" : Cond) ∈ wsU := uq_4 (i := 218) rfl rfl
theorem uk_4_219 : (.fieldLink RX7 81 "PledgehouseModel" "thingOf" "[I" : Cond) ∈ wsU := uq_4 (i := 219) rfl rfl
theorem uk_4_220 : (.fieldLink RX7 84 "PledgehouseModel" "expertOf" "[I" : Cond) ∈ wsU := uq_4 (i := 220) rfl rfl
theorem uk_4_221 : (.fieldLink RX7 87 "PledgehouseModel" "pledger" "[I" : Cond) ∈ wsU := uq_4 (i := 221) rfl rfl
theorem uk_4_222 : (.fieldLink RX7 90 "PledgehouseModel" "holder" "[I" : Cond) ∈ wsU := uq_4 (i := 222) rfl rfl
theorem uk_4_223 : (.fieldLink RX7 93 "PledgehouseModel" "isNamed" "[Z" : Cond) ∈ wsU := uq_4 (i := 223) rfl rfl
theorem uk_4_224 : (.fieldLink RX7 96 "PledgehouseModel" "loan" "[I" : Cond) ∈ wsU := uq_4 (i := 224) rfl rfl
theorem uk_4_225 : (.fieldLink RX7 99 "PledgehouseModel" "value" "[I" : Cond) ∈ wsU := uq_4 (i := 225) rfl rfl
theorem uk_4_226 : (.fieldLink RX7 102 "PledgehouseModel" "began" "[I" : Cond) ∈ wsU := uq_4 (i := 226) rfl rfl
theorem uk_4_227 : (.fieldLink RX7 105 "PledgehouseModel" "runs" "[I" : Cond) ∈ wsU := uq_4 (i := 227) rfl rfl
theorem uk_4_228 : (.fieldLink RX7 108 "PledgehouseModel" "state" "[I" : Cond) ∈ wsU := uq_4 (i := 228) rfl rfl
theorem uk_4_229 : (.fieldLink RX7 111 "PledgehouseModel" "vain" "[I" : Cond) ∈ wsU := uq_4 (i := 229) rfl rfl
theorem uk_4_230 : (.fieldLink RX7 114 "PledgehouseModel" "noticed" "[I" : Cond) ∈ wsU := uq_4 (i := 230) rfl rfl
theorem uk_4_231 : (.fieldLink RX7 117 "PledgehouseModel" "noticer" "[I" : Cond) ∈ wsU := uq_4 (i := 231) rfl rfl
theorem uk_4_232 : (.fieldLink RX7 120 "PledgehouseModel" "surplus" "[I" : Cond) ∈ wsU := uq_4 (i := 232) rfl rfl
theorem uk_4_233 : (.fieldLink RX7 123 "PledgehouseModel" "soldOn" "[I" : Cond) ∈ wsU := uq_4 (i := 233) rfl rfl
theorem uk_4_234 : (.fieldLink RX7 173 "PledgehouseModel" "money" "I" : Cond) ∈ wsU := uq_4 (i := 234) rfl rfl
theorem uk_4_235 : (.fieldLink RX7 176 "PledgehouseModel" "kept" "I" : Cond) ∈ wsU := uq_4 (i := 235) rfl rfl
theorem uk_4_236 : (.fieldLink RX7 207 "PledgehouseModel" "gift" "I" : Cond) ∈ wsU := uq_4 (i := 236) rfl rfl
theorem uk_5_92 : (.arrayClass FieldType.boolean : Cond) ∈ wsU := uq_5 (i := 92) rfl rfl
theorem uk_5_93 : (.methodLink RL 125 yX7_thrown : Cond) ∈ wsU := uq_5 (i := 93) rfl rfl
theorem uk_5_94 : (.instanceMethod yX7_thrown : Cond) ∈ wsU := uq_5 (i := 94) rfl rfl
theorem uk_5_95 : (.selects RX7 yX7_thrown yX7_thrown : Cond) ∈ wsU := uq_5 (i := 95) rfl rfl
theorem uk_5_96 : (.code yX7_thrown cX7_thrown 1 (some FieldType.int) : Cond) ∈ wsU := uq_5 (i := 96) rfl rfl
theorem uk_5_97 : (.methodLink RL 124 yX7_thing : Cond) ∈ wsU := uq_5 (i := 97) rfl rfl
theorem uk_5_98 : (.instanceMethod yX7_thing : Cond) ∈ wsU := uq_5 (i := 98) rfl rfl
theorem uk_5_99 : (.selects RX7 yX7_thing yX7_thing : Cond) ∈ wsU := uq_5 (i := 99) rfl rfl
theorem uk_5_100 : (.code yX7_thing cX7_thing 5 (some FieldType.int) : Cond) ∈ wsU := uq_5 (i := 100) rfl rfl
theorem uk_5_101 : (.methodLink RX7 132 yX7_is : Cond) ∈ wsU := uq_5 (i := 101) rfl rfl
theorem uk_5_102 : (.static yX7_is : Cond) ∈ wsU := uq_5 (i := 102) rfl rfl
theorem uk_5_103 : (.code yX7_is cX7_is 3 (some FieldType.boolean) : Cond) ∈ wsU := uq_5 (i := 103) rfl rfl
theorem uk_5_104 : (.methodLink RX7 139 yX7_refused : Cond) ∈ wsU := uq_5 (i := 104) rfl rfl
theorem uk_5_106 : (.instanceMethod yX7_refused : Cond) ∈ wsU := uq_5 (i := 106) rfl rfl
theorem uk_5_107 : (.code yX7_refused cX7_refused 2 (some FieldType.boolean) : Cond) ∈ wsU := uq_5 (i := 107) rfl rfl
theorem uk_5_108 : (.methodLink RL 132 yX7_fashion : Cond) ∈ wsU := uq_5 (i := 108) rfl rfl
theorem uk_5_109 : (.instanceMethod yX7_fashion : Cond) ∈ wsU := uq_5 (i := 109) rfl rfl
theorem uk_5_110 : (.selects RX7 yX7_fashion yX7_fashion : Cond) ∈ wsU := uq_5 (i := 110) rfl rfl
theorem uk_5_111 : (.code yX7_fashion cX7_fashion 4 (some FieldType.int) : Cond) ∈ wsU := uq_5 (i := 111) rfl rfl
theorem uk_5_112 : (.methodLink RL 135 yX7_bias : Cond) ∈ wsU := uq_5 (i := 112) rfl rfl
theorem uk_5_113 : (.instanceMethod yX7_bias : Cond) ∈ wsU := uq_5 (i := 113) rfl rfl
theorem uk_5_114 : (.selects RX7 yX7_bias yX7_bias : Cond) ∈ wsU := uq_5 (i := 114) rfl rfl
theorem uk_5_115 : (.code yX7_bias cX7_bias 4 (some FieldType.int) : Cond) ∈ wsU := uq_5 (i := 115) rfl rfl
theorem uk_5_116 : (.methodLink RL 138 yX7_classOf : Cond) ∈ wsU := uq_5 (i := 116) rfl rfl
theorem uk_5_117 : (.instanceMethod yX7_classOf : Cond) ∈ wsU := uq_5 (i := 117) rfl rfl
theorem uk_5_118 : (.selects RX7 yX7_classOf yX7_classOf : Cond) ∈ wsU := uq_5 (i := 118) rfl rfl
theorem uk_5_119 : (.code yX7_classOf cX7_classOf 4 (some FieldType.int) : Cond) ∈ wsU := uq_5 (i := 119) rfl rfl
theorem uk_5_120 : (.methodLink RX7 143 yX7_isPerson : Cond) ∈ wsU := uq_5 (i := 120) rfl rfl
theorem uk_5_121 : (.static yX7_isPerson : Cond) ∈ wsU := uq_5 (i := 121) rfl rfl
theorem uk_5_122 : (.code yX7_isPerson cX7_isPerson 1 (some FieldType.boolean) : Cond) ∈ wsU := uq_5 (i := 122) rfl rfl
theorem uk_5_123 : (.methodLink RL 142 yX7_charter : Cond) ∈ wsU := uq_5 (i := 123) rfl rfl
theorem uk_5_124 : (.instanceMethod yX7_charter : Cond) ∈ wsU := uq_5 (i := 124) rfl rfl
theorem uk_5_125 : (.selects RX7 yX7_charter yX7_charter : Cond) ∈ wsU := uq_5 (i := 125) rfl rfl
theorem uk_5_126 : (.code yX7_charter cX7_charter 5 (none : Option FieldType) : Cond) ∈ wsU := uq_5 (i := 126) rfl rfl
theorem uk_5_127 : (.constant RX7 146 (100000) : Cond) ∈ wsU := uq_5 (i := 127) rfl rfl
theorem uk_5_128 : (.methodLink RL 145 yX7_rate : Cond) ∈ wsU := uq_5 (i := 128) rfl rfl
theorem uk_5_129 : (.instanceMethod yX7_rate : Cond) ∈ wsU := uq_5 (i := 129) rfl rfl
theorem uk_5_130 : (.selects RX7 yX7_rate yX7_rate : Cond) ∈ wsU := uq_5 (i := 130) rfl rfl
theorem uk_5_131 : (.code yX7_rate cX7_rate 4 (some FieldType.int) : Cond) ∈ wsU := uq_5 (i := 131) rfl rfl
theorem uk_5_132 : (.methodLink RX7 153 yX7_rateOn : Cond) ∈ wsU := uq_5 (i := 132) rfl rfl
theorem uk_5_134 : (.instanceMethod yX7_rateOn : Cond) ∈ wsU := uq_5 (i := 134) rfl rfl
theorem uk_5_135 : (.code yX7_rateOn cX7_rateOn 5 (some FieldType.int) : Cond) ∈ wsU := uq_5 (i := 135) rfl rfl
theorem uk_5_136 : (.methodLink RL 149 yX7_term : Cond) ∈ wsU := uq_5 (i := 136) rfl rfl
theorem uk_5_137 : (.instanceMethod yX7_term : Cond) ∈ wsU := uq_5 (i := 137) rfl rfl
theorem uk_5_138 : (.selects RX7 yX7_term yX7_term : Cond) ∈ wsU := uq_5 (i := 138) rfl rfl
theorem uk_5_139 : (.code yX7_term cX7_term 3 (some FieldType.int) : Cond) ∈ wsU := uq_5 (i := 139) rfl rfl
theorem uk_5_140 : (.methodLink RL 152 yX7_amnesty : Cond) ∈ wsU := uq_5 (i := 140) rfl rfl
theorem uk_5_141 : (.instanceMethod yX7_amnesty : Cond) ∈ wsU := uq_5 (i := 141) rfl rfl
theorem uk_5_142 : (.selects RX7 yX7_amnesty yX7_amnesty : Cond) ∈ wsU := uq_5 (i := 142) rfl rfl
theorem uk_5_143 : (.code yX7_amnesty cX7_amnesty 4 (some FieldType.int) : Cond) ∈ wsU := uq_5 (i := 143) rfl rfl
theorem uk_5_144 : (.methodLink RL 156 yX7_pledge : Cond) ∈ wsU := uq_5 (i := 144) rfl rfl
theorem uk_5_145 : (.instanceMethod yX7_pledge : Cond) ∈ wsU := uq_5 (i := 145) rfl rfl
theorem uk_5_146 : (.selects RX7 yX7_pledge yX7_pledge : Cond) ∈ wsU := uq_5 (i := 146) rfl rfl
theorem uk_5_147 : (.code yX7_pledge cX7_pledge 13 (some FieldType.int) : Cond) ∈ wsU := uq_5 (i := 147) rfl rfl
theorem uk_5_148 : (.methodLink RX7 166 yX7_isThing : Cond) ∈ wsU := uq_5 (i := 148) rfl rfl
theorem uk_5_150 : (.instanceMethod yX7_isThing : Cond) ∈ wsU := uq_5 (i := 150) rfl rfl
theorem uk_5_151 : (.code yX7_isThing cX7_isThing 2 (some FieldType.boolean) : Cond) ∈ wsU := uq_5 (i := 151) rfl rfl
theorem uk_5_152 : (.methodLink RX7 169 yX7_valueNow : Cond) ∈ wsU := uq_5 (i := 152) rfl rfl
theorem uk_5_154 : (.instanceMethod yX7_valueNow : Cond) ∈ wsU := uq_5 (i := 154) rfl rfl
theorem uk_5_155 : (.code yX7_valueNow cX7_valueNow 2 (some FieldType.int) : Cond) ∈ wsU := uq_5 (i := 155) rfl rfl
theorem uk_5_156 : (.methodLink RX7 179 yX7_owes : Cond) ∈ wsU := uq_5 (i := 156) rfl rfl
theorem uk_5_158 : (.instanceMethod yX7_owes : Cond) ∈ wsU := uq_5 (i := 158) rfl rfl
theorem uk_5_159 : (.code yX7_owes cX7_owes 4 (some FieldType.int) : Cond) ∈ wsU := uq_5 (i := 159) rfl rfl
theorem uk_5_160 : (.methodLink RX7 182 yX7_shelfFor : Cond) ∈ wsU := uq_5 (i := 160) rfl rfl
theorem uk_5_162 : (.instanceMethod yX7_shelfFor : Cond) ∈ wsU := uq_5 (i := 162) rfl rfl
theorem uk_5_163 : (.code yX7_shelfFor cX7_shelfFor 5 (some FieldType.int) : Cond) ∈ wsU := uq_5 (i := 163) rfl rfl
theorem uk_5_164 : (.methodLink RX7 163 yX7_rest : Cond) ∈ wsU := uq_5 (i := 164) rfl rfl
theorem uk_5_166 : (.instanceMethod yX7_rest : Cond) ∈ wsU := uq_5 (i := 166) rfl rfl
theorem uk_5_167 : (.code yX7_rest cX7_rest 5 (some FieldType.int) : Cond) ∈ wsU := uq_5 (i := 167) rfl rfl
theorem uk_5_168 : (.methodLink RL 159 yX7_redeem : Cond) ∈ wsU := uq_5 (i := 168) rfl rfl
theorem uk_5_169 : (.instanceMethod yX7_redeem : Cond) ∈ wsU := uq_5 (i := 169) rfl rfl
theorem uk_5_170 : (.selects RX7 yX7_redeem yX7_redeem : Cond) ∈ wsU := uq_5 (i := 170) rfl rfl
theorem uk_5_171 : (.code yX7_redeem cX7_redeem 6 (some FieldType.int) : Cond) ∈ wsU := uq_5 (i := 171) rfl rfl
theorem uk_5_172 : (.methodLink RX7 185 yX7_isTicket : Cond) ∈ wsU := uq_5 (i := 172) rfl rfl
theorem uk_5_174 : (.instanceMethod yX7_isTicket : Cond) ∈ wsU := uq_5 (i := 174) rfl rfl
theorem uk_5_175 : (.code yX7_isTicket cX7_isTicket 2 (some FieldType.boolean) : Cond) ∈ wsU := uq_5 (i := 175) rfl rfl
theorem uk_5_176 : (.methodLink RX7 188 yX7_bars : Cond) ∈ wsU := uq_5 (i := 176) rfl rfl
theorem uk_5_178 : (.instanceMethod yX7_bars : Cond) ∈ wsU := uq_5 (i := 178) rfl rfl
theorem uk_5_179 : (.code yX7_bars cX7_bars 2 (some FieldType.int) : Cond) ∈ wsU := uq_5 (i := 179) rfl rfl
theorem uk_5_180 : (.methodLink RX7 191 yX7_isFound : Cond) ∈ wsU := uq_5 (i := 180) rfl rfl
theorem uk_5_182 : (.instanceMethod yX7_isFound : Cond) ∈ wsU := uq_5 (i := 182) rfl rfl
theorem uk_5_183 : (.code yX7_isFound cX7_isFound 2 (some FieldType.boolean) : Cond) ∈ wsU := uq_5 (i := 183) rfl rfl
theorem uk_5_184 : (.methodLink RX7 194 yX7_interest : Cond) ∈ wsU := uq_5 (i := 184) rfl rfl
theorem uk_5_186 : (.instanceMethod yX7_interest : Cond) ∈ wsU := uq_5 (i := 186) rfl rfl
theorem uk_5_187 : (.code yX7_interest cX7_interest 6 (some FieldType.int) : Cond) ∈ wsU := uq_5 (i := 187) rfl rfl
theorem uk_5_188 : (.methodLink RX7 160 yX7_isFree : Cond) ∈ wsU := uq_5 (i := 188) rfl rfl
theorem uk_5_190 : (.instanceMethod yX7_isFree : Cond) ∈ wsU := uq_5 (i := 190) rfl rfl
theorem uk_5_191 : (.code yX7_isFree cX7_isFree 4 (some FieldType.boolean) : Cond) ∈ wsU := uq_5 (i := 191) rfl rfl
theorem uk_5_192 : (.methodLink RL 162 yX7_renew : Cond) ∈ wsU := uq_5 (i := 192) rfl rfl
theorem uk_5_193 : (.instanceMethod yX7_renew : Cond) ∈ wsU := uq_5 (i := 193) rfl rfl
theorem uk_5_194 : (.selects RX7 yX7_renew yX7_renew : Cond) ∈ wsU := uq_5 (i := 194) rfl rfl
theorem uk_5_195 : (.code yX7_renew cX7_renew 8 (some FieldType.int) : Cond) ∈ wsU := uq_5 (i := 195) rfl rfl
theorem uk_5_196 : (.methodLink RL 165 yX7_give : Cond) ∈ wsU := uq_5 (i := 196) rfl rfl
theorem uk_5_197 : (.instanceMethod yX7_give : Cond) ∈ wsU := uq_5 (i := 197) rfl rfl
theorem uk_5_198 : (.selects RX7 yX7_give yX7_give : Cond) ∈ wsU := uq_5 (i := 198) rfl rfl
theorem uk_5_199 : (.code yX7_give cX7_give 6 (some FieldType.int) : Cond) ∈ wsU := uq_5 (i := 199) rfl rfl
theorem uk_5_200 : (.methodLink RL 169 yX7_notice : Cond) ∈ wsU := uq_5 (i := 200) rfl rfl
theorem uk_5_201 : (.instanceMethod yX7_notice : Cond) ∈ wsU := uq_5 (i := 201) rfl rfl
theorem uk_5_202 : (.selects RX7 yX7_notice yX7_notice : Cond) ∈ wsU := uq_5 (i := 202) rfl rfl
theorem uk_5_203 : (.code yX7_notice cX7_notice 5 (none : Option FieldType) : Cond) ∈ wsU := uq_5 (i := 203) rfl rfl
theorem uk_5_204 : (.methodLink RL 172 yX7_show : Cond) ∈ wsU := uq_5 (i := 204) rfl rfl
theorem uk_5_205 : (.instanceMethod yX7_show : Cond) ∈ wsU := uq_5 (i := 205) rfl rfl
theorem uk_5_206 : (.selects RX7 yX7_show yX7_show : Cond) ∈ wsU := uq_5 (i := 206) rfl rfl
theorem uk_5_207 : (.code yX7_show cX7_show 3 (some FieldType.int) : Cond) ∈ wsU := uq_5 (i := 207) rfl rfl
theorem uk_5_208 : (.methodLink RL 175 yX7_police : Cond) ∈ wsU := uq_5 (i := 208) rfl rfl
theorem uk_5_209 : (.instanceMethod yX7_police : Cond) ∈ wsU := uq_5 (i := 209) rfl rfl
theorem uk_5_210 : (.selects RX7 yX7_police yX7_police : Cond) ∈ wsU := uq_5 (i := 210) rfl rfl
theorem uk_5_211 : (.code yX7_police cX7_police 3 (some FieldType.int) : Cond) ∈ wsU := uq_5 (i := 211) rfl rfl
theorem uk_5_212 : (.methodLink RX7 197 yX7_openOf : Cond) ∈ wsU := uq_5 (i := 212) rfl rfl
theorem uk_5_214 : (.instanceMethod yX7_openOf : Cond) ∈ wsU := uq_5 (i := 214) rfl rfl
theorem uk_5_215 : (.code yX7_openOf cX7_openOf 4 (some FieldType.int) : Cond) ∈ wsU := uq_5 (i := 215) rfl rfl
theorem uk_5_216 : (.methodLink RL 179 yX7_court : Cond) ∈ wsU := uq_5 (i := 216) rfl rfl
theorem uk_5_217 : (.instanceMethod yX7_court : Cond) ∈ wsU := uq_5 (i := 217) rfl rfl
theorem uk_5_218 : (.selects RX7 yX7_court yX7_court : Cond) ∈ wsU := uq_5 (i := 218) rfl rfl
theorem uk_5_219 : (.code yX7_court cX7_court 5 (some FieldType.int) : Cond) ∈ wsU := uq_5 (i := 219) rfl rfl
theorem uk_5_220 : (.methodLink RL 182 yX7_stray : Cond) ∈ wsU := uq_5 (i := 220) rfl rfl
theorem uk_5_221 : (.instanceMethod yX7_stray : Cond) ∈ wsU := uq_5 (i := 221) rfl rfl
theorem uk_5_222 : (.selects RX7 yX7_stray yX7_stray : Cond) ∈ wsU := uq_5 (i := 222) rfl rfl
theorem uk_5_223 : (.code yX7_stray cX7_stray 5 (none : Option FieldType) : Cond) ∈ wsU := uq_5 (i := 223) rfl rfl
theorem uk_5_224 : (.methodLink RX7 200 yX7_come : Cond) ∈ wsU := uq_5 (i := 224) rfl rfl
theorem uk_5_226 : (.instanceMethod yX7_come : Cond) ∈ wsU := uq_5 (i := 226) rfl rfl
theorem uk_5_227 : (.code yX7_come cX7_come 3 (none : Option FieldType) : Cond) ∈ wsU := uq_5 (i := 227) rfl rfl
theorem uk_5_228 : (.methodLink RL 185 yX7_count : Cond) ∈ wsU := uq_5 (i := 228) rfl rfl
theorem uk_5_229 : (.instanceMethod yX7_count : Cond) ∈ wsU := uq_5 (i := 229) rfl rfl
theorem uk_5_230 : (.selects RX7 yX7_count yX7_count : Cond) ∈ wsU := uq_5 (i := 230) rfl rfl
theorem uk_5_231 : (.code yX7_count cX7_count 6 (some FieldType.int) : Cond) ∈ wsU := uq_5 (i := 231) rfl rfl
theorem uk_5_232 : (.methodLink RL 188 yX7_transfer : Cond) ∈ wsU := uq_5 (i := 232) rfl rfl
theorem uk_5_233 : (.instanceMethod yX7_transfer : Cond) ∈ wsU := uq_5 (i := 233) rfl rfl
theorem uk_5_234 : (.selects RX7 yX7_transfer yX7_transfer : Cond) ∈ wsU := uq_5 (i := 234) rfl rfl
theorem uk_5_235 : (.code yX7_transfer cX7_transfer 5 (some FieldType.int) : Cond) ∈ wsU := uq_5 (i := 235) rfl rfl
theorem uk_5_236 : (.methodLink RL 191 yX7_wind : Cond) ∈ wsU := uq_5 (i := 236) rfl rfl
theorem uk_5_237 : (.instanceMethod yX7_wind : Cond) ∈ wsU := uq_5 (i := 237) rfl rfl
theorem uk_5_238 : (.selects RX7 yX7_wind yX7_wind : Cond) ∈ wsU := uq_5 (i := 238) rfl rfl
theorem uk_5_239 : (.code yX7_wind cX7_wind 5 (some FieldType.int) : Cond) ∈ wsU := uq_5 (i := 239) rfl rfl
theorem uk_6_0 : (.methodLink RL 194 yX7_pass : Cond) ∈ wsU := uq_6 (i := 0) rfl rfl
theorem uk_6_1 : (.instanceMethod yX7_pass : Cond) ∈ wsU := uq_6 (i := 1) rfl rfl
theorem uk_6_2 : (.selects RX7 yX7_pass yX7_pass : Cond) ∈ wsU := uq_6 (i := 2) rfl rfl
theorem uk_6_3 : (.code yX7_pass cX7_pass 3 (some FieldType.int) : Cond) ∈ wsU := uq_6 (i := 3) rfl rfl
theorem uk_6_4 : (.methodLink RX7 204 yX7_passOne : Cond) ∈ wsU := uq_6 (i := 4) rfl rfl
theorem uk_6_6 : (.instanceMethod yX7_passOne : Cond) ∈ wsU := uq_6 (i := 6) rfl rfl
theorem uk_6_7 : (.code yX7_passOne cX7_passOne 4 (none : Option FieldType) : Cond) ∈ wsU := uq_6 (i := 7) rfl rfl
theorem uk_6_8 : (.methodLink RL 197 yX7_offer : Cond) ∈ wsU := uq_6 (i := 8) rfl rfl
theorem uk_6_9 : (.instanceMethod yX7_offer : Cond) ∈ wsU := uq_6 (i := 9) rfl rfl
theorem uk_6_10 : (.selects RX7 yX7_offer yX7_offer : Cond) ∈ wsU := uq_6 (i := 10) rfl rfl
theorem uk_6_11 : (.code yX7_offer cX7_offer 8 (some FieldType.int) : Cond) ∈ wsU := uq_6 (i := 11) rfl rfl
theorem uk_6_12 : (.constant RX7 210 (-2147483648) : Cond) ∈ wsU := uq_6 (i := 12) rfl rfl
theorem uk_6_13 : (.methodLink RL 200 yX7_claim : Cond) ∈ wsU := uq_6 (i := 13) rfl rfl
theorem uk_6_14 : (.instanceMethod yX7_claim : Cond) ∈ wsU := uq_6 (i := 14) rfl rfl
theorem uk_6_15 : (.selects RX7 yX7_claim yX7_claim : Cond) ∈ wsU := uq_6 (i := 15) rfl rfl
theorem uk_6_16 : (.code yX7_claim cX7_claim 6 (some FieldType.int) : Cond) ∈ wsU := uq_6 (i := 16) rfl rfl
theorem uk_6_17 : (.methodLink RL 203 yX7_deposit : Cond) ∈ wsU := uq_6 (i := 17) rfl rfl
theorem uk_6_18 : (.instanceMethod yX7_deposit : Cond) ∈ wsU := uq_6 (i := 18) rfl rfl
theorem uk_6_19 : (.selects RX7 yX7_deposit yX7_deposit : Cond) ∈ wsU := uq_6 (i := 19) rfl rfl
theorem uk_6_20 : (.code yX7_deposit cX7_deposit 2 (some FieldType.int) : Cond) ∈ wsU := uq_6 (i := 20) rfl rfl
theorem uk_6_21 : (.constant RX7 211 (100000000) : Cond) ∈ wsU := uq_6 (i := 21) rfl rfl
theorem uk_6_22 : (.methodLink RL 206 yX7_withdraw : Cond) ∈ wsU := uq_6 (i := 22) rfl rfl
theorem uk_6_23 : (.instanceMethod yX7_withdraw : Cond) ∈ wsU := uq_6 (i := 23) rfl rfl
theorem uk_6_24 : (.selects RX7 yX7_withdraw yX7_withdraw : Cond) ∈ wsU := uq_6 (i := 24) rfl rfl
theorem uk_6_25 : (.code yX7_withdraw cX7_withdraw 2 (some FieldType.int) : Cond) ∈ wsU := uq_6 (i := 25) rfl rfl
theorem uk_6_26 : (.methodLink RL 210 yX7_day : Cond) ∈ wsU := uq_6 (i := 26) rfl rfl
theorem uk_6_27 : (.instanceMethod yX7_day : Cond) ∈ wsU := uq_6 (i := 27) rfl rfl
theorem uk_6_28 : (.selects RX7 yX7_day yX7_day : Cond) ∈ wsU := uq_6 (i := 28) rfl rfl
theorem uk_6_29 : (.code yX7_day cX7_day 1 (some FieldType.int) : Cond) ∈ wsU := uq_6 (i := 29) rfl rfl
theorem uk_6_30 : (.methodLink RL 213 yX7_thingOf : Cond) ∈ wsU := uq_6 (i := 30) rfl rfl
theorem uk_6_31 : (.instanceMethod yX7_thingOf : Cond) ∈ wsU := uq_6 (i := 31) rfl rfl
theorem uk_6_32 : (.selects RX7 yX7_thingOf yX7_thingOf : Cond) ∈ wsU := uq_6 (i := 32) rfl rfl
theorem uk_6_33 : (.code yX7_thingOf cX7_thingOf 3 (some FieldType.int) : Cond) ∈ wsU := uq_6 (i := 33) rfl rfl
theorem uk_6_34 : (.methodLink RL 216 yX7_ticketOf : Cond) ∈ wsU := uq_6 (i := 34) rfl rfl
theorem uk_6_35 : (.instanceMethod yX7_ticketOf : Cond) ∈ wsU := uq_6 (i := 35) rfl rfl
theorem uk_6_36 : (.selects RX7 yX7_ticketOf yX7_ticketOf : Cond) ∈ wsU := uq_6 (i := 36) rfl rfl
theorem uk_6_37 : (.code yX7_ticketOf cX7_ticketOf 3 (some FieldType.int) : Cond) ∈ wsU := uq_6 (i := 37) rfl rfl
theorem uk_6_38 : (.methodLink RL 219 yX7_interestAnew : Cond) ∈ wsU := uq_6 (i := 38) rfl rfl
theorem uk_6_39 : (.instanceMethod yX7_interestAnew : Cond) ∈ wsU := uq_6 (i := 39) rfl rfl
theorem uk_6_40 : (.selects RX7 yX7_interestAnew yX7_interestAnew : Cond) ∈ wsU := uq_6 (i := 40) rfl rfl
theorem uk_6_41 : (.code yX7_interestAnew cX7_interestAnew 2 (some FieldType.int) : Cond) ∈ wsU := uq_6 (i := 41) rfl rfl
theorem uk_6_42 : (.methodLink RL 222 yX7_expertOf : Cond) ∈ wsU := uq_6 (i := 42) rfl rfl
theorem uk_6_43 : (.instanceMethod yX7_expertOf : Cond) ∈ wsU := uq_6 (i := 43) rfl rfl
theorem uk_6_44 : (.selects RX7 yX7_expertOf yX7_expertOf : Cond) ∈ wsU := uq_6 (i := 44) rfl rfl
theorem uk_6_45 : (.code yX7_expertOf cX7_expertOf 3 (some FieldType.int) : Cond) ∈ wsU := uq_6 (i := 45) rfl rfl
theorem uk_6_46 : (.methodLink RL 225 yX7_bears : Cond) ∈ wsU := uq_6 (i := 46) rfl rfl
theorem uk_6_47 : (.instanceMethod yX7_bears : Cond) ∈ wsU := uq_6 (i := 47) rfl rfl
theorem uk_6_48 : (.selects RX7 yX7_bears yX7_bears : Cond) ∈ wsU := uq_6 (i := 48) rfl rfl
theorem uk_6_49 : (.code yX7_bears cX7_bears 3 (some FieldType.int) : Cond) ∈ wsU := uq_6 (i := 49) rfl rfl
theorem uk_6_50 : (.methodLink RL 228 yX7_money : Cond) ∈ wsU := uq_6 (i := 50) rfl rfl
theorem uk_6_51 : (.instanceMethod yX7_money : Cond) ∈ wsU := uq_6 (i := 51) rfl rfl
theorem uk_6_52 : (.selects RX7 yX7_money yX7_money : Cond) ∈ wsU := uq_6 (i := 52) rfl rfl
theorem uk_6_53 : (.code yX7_money cX7_money 2 (some FieldType.int) : Cond) ∈ wsU := uq_6 (i := 53) rfl rfl
theorem uk_6_54 : (.methodLink RL 232 yX7_moneyAnew : Cond) ∈ wsU := uq_6 (i := 54) rfl rfl
theorem uk_6_55 : (.instanceMethod yX7_moneyAnew : Cond) ∈ wsU := uq_6 (i := 55) rfl rfl
theorem uk_6_56 : (.selects RX7 yX7_moneyAnew yX7_moneyAnew : Cond) ∈ wsU := uq_6 (i := 56) rfl rfl
theorem uk_6_57 : (.code yX7_moneyAnew cX7_moneyAnew 1 (some FieldType.int) : Cond) ∈ wsU := uq_6 (i := 57) rfl rfl
theorem uk_6_58 : (.arrayClass FieldType.long : Cond) ∈ wsU := uq_6 (i := 58) rfl rfl
theorem uk_6_59 : (.sameMethod "java/lang/Throwable" "java/lang/Throwable" "fillInStackTrace" "(I)Ljava/lang/Throwable;" : Cond) ∈ wsU := uq_6 (i := 59) rfl rfl
theorem un_6_60 : (.castable RX1 "java/lang/Object" : Cond) ∈ wsN := un_6 (i := 60) rfl rfl
theorem un_6_61 : (.castable RX0 "java/lang/Object" : Cond) ∈ wsN := un_6 (i := 61) rfl rfl
theorem un_6_62 : (.castable RX6 "java/lang/Object" : Cond) ∈ wsN := un_6 (i := 62) rfl rfl
theorem un_6_63 : (.castable RJx4a65c "java/lang/Object" : Cond) ∈ wsN := un_6 (i := 63) rfl rfl
theorem un_6_64 : (.castable RX2 "java/lang/Object" : Cond) ∈ wsN := un_6 (i := 64) rfl rfl
theorem un_6_65 : (.castable RX5 "java/lang/Object" : Cond) ∈ wsN := un_6 (i := 65) rfl rfl
theorem un_6_66 : (.castable RX7 "java/lang/Object" : Cond) ∈ wsN := un_6 (i := 66) rfl rfl
theorem un_6_67 : (.castable "java/lang/IndexOutOfBoundsException" "java/lang/Object" : Cond) ∈ wsN := un_6 (i := 67) rfl rfl
theorem un_6_68 : (.castable "java/lang/IllegalArgumentException" "java/lang/Object" : Cond) ∈ wsN := un_6 (i := 68) rfl rfl
theorem un_6_69 : (.castable "java/lang/IllegalStateException" "java/lang/Object" : Cond) ∈ wsN := un_6 (i := 69) rfl rfl
theorem un_6_70 : (.castable RX3 "java/lang/Object" : Cond) ∈ wsN := un_6 (i := 70) rfl rfl
theorem un_6_71 : (.castable RX4 "java/lang/Object" : Cond) ∈ wsN := un_6 (i := 71) rfl rfl
theorem un_6_72 : (.castable "java/lang/Throwable" "java/lang/Object" : Cond) ∈ wsN := un_6 (i := 72) rfl rfl
theorem uk_6_73 : (.sameMethod "[Ljava/lang/Object;" "java/lang/Object" "getClass" "()Ljava/lang/Class;" : Cond) ∈ wsU := uq_6 (i := 73) rfl rfl
theorem uk_6_74 : (.selects "[Ljava/lang/Object;" ⟨"java/lang/Object", "getClass", "()Ljava/lang/Class;"⟩ ⟨"java/lang/Object", "getClass", "()Ljava/lang/Class;"⟩ : Cond) ∈ wsU := uq_6 (i := 74) rfl rfl
theorem un_6_75 : (.declares ⟨"java/lang/Object", "getClass", "()Ljava/lang/Class;"⟩ : Cond) ∈ wsN := un_6 (i := 75) rfl rfl
theorem un_6_76 : (.castable "[LPledgehouse$Expert;" "java/lang/Object" : Cond) ∈ wsN := un_6 (i := 76) rfl rfl
theorem un_6_77 : (.castable "[I" "java/lang/Object" : Cond) ∈ wsN := un_6 (i := 77) rfl rfl
theorem un_6_78 : (.castable "[LPledgehouse$Charter;" "java/lang/Object" : Cond) ∈ wsN := un_6 (i := 78) rfl rfl
theorem un_6_79 : (.castable "[Ljava/lang/Object;" "java/lang/Object" : Cond) ∈ wsN := un_6 (i := 79) rfl rfl
theorem un_6_80 : (.castable "[Z" "java/lang/Object" : Cond) ∈ wsN := un_6 (i := 80) rfl rfl
theorem un_6_81 : (.castable "[J" "java/lang/Object" : Cond) ∈ wsN := un_6 (i := 81) rfl rfl
theorem uk_0_1 : (.selects RJx4a65c yJx4a65c_add_72be8 yJx4a65c_add_72be8 : Cond) ∈ wsU := uq_0 (i := 1) rfl rfl
theorem uk_0_2 : (.selects RJx4a65c yJx4a65c_grow_d5877 yJx4a65c_grow_d5877 : Cond) ∈ wsU := uq_0 (i := 2) rfl rfl
theorem uk_0_3 : (.selects RJx4a65c yJx4a65c_grow_92f84 yJx4a65c_grow_92f84 : Cond) ∈ wsU := uq_0 (i := 3) rfl rfl
theorem uk_0_4 : (.selects RX6 yX6_thingAt yX6_thingAt : Cond) ∈ wsU := uq_0 (i := 4) rfl rfl
theorem uk_0_5 : (.selects RX6 yX6_valueNow yX6_valueNow : Cond) ∈ wsU := uq_0 (i := 5) rfl rfl
theorem uk_0_6 : (.selects RX6 yX6_mayLend yX6_mayLend : Cond) ∈ wsU := uq_0 (i := 6) rfl rfl
theorem uk_0_7 : (.selects RX6 yX6_openLoansOf yX6_openLoansOf : Cond) ∈ wsU := uq_0 (i := 7) rfl rfl
theorem uk_0_8 : (.selects RX6 yX6_shelfFor yX6_shelfFor : Cond) ∈ wsU := uq_0 (i := 8) rfl rfl
theorem uk_0_9 : (.selects RX6 yX6_roomAt yX6_roomAt : Cond) ∈ wsU := uq_0 (i := 9) rfl rfl
theorem uk_0_10 : (.selects RX6 yX6_ticketAt yX6_ticketAt : Cond) ∈ wsU := uq_0 (i := 10) rfl rfl
theorem uk_0_11 : (.selects RX6 yX6_interestNow yX6_interestNow : Cond) ∈ wsU := uq_0 (i := 11) rfl rfl
theorem uk_0_12 : (.selects RX6 yX6_passOneDay yX6_passOneDay : Cond) ∈ wsU := uq_0 (i := 12) rfl rfl
theorem uk_0_13 : (.selects RX3 yX3_furWearsOn yX3_furWearsOn : Cond) ∈ wsU := uq_0 (i := 13) rfl rfl
theorem uk_0_14 : (.selects RX3 yX3_clockWearsOn yX3_clockWearsOn : Cond) ∈ wsU := uq_0 (i := 14) rfl rfl
theorem uk_0_15 : (.selects RX6 yX6_releaseSurplus yX6_releaseSurplus : Cond) ∈ wsU := uq_0 (i := 15) rfl rfl
theorem uk_0_16 : (.selects RX6 yX6_mayBeOffered yX6_mayBeOffered : Cond) ∈ wsU := uq_0 (i := 16) rfl rfl
theorem uk_0_17 : (.selects RX7 yX7_refused yX7_refused : Cond) ∈ wsU := uq_0 (i := 17) rfl rfl
theorem uk_0_18 : (.selects RX7 yX7_rateOn yX7_rateOn : Cond) ∈ wsU := uq_0 (i := 18) rfl rfl
theorem uk_0_19 : (.selects RX7 yX7_isThing yX7_isThing : Cond) ∈ wsU := uq_0 (i := 19) rfl rfl
theorem uk_0_20 : (.selects RX7 yX7_valueNow yX7_valueNow : Cond) ∈ wsU := uq_0 (i := 20) rfl rfl
theorem uk_0_21 : (.selects RX7 yX7_owes yX7_owes : Cond) ∈ wsU := uq_0 (i := 21) rfl rfl
theorem uk_0_22 : (.selects RX7 yX7_shelfFor yX7_shelfFor : Cond) ∈ wsU := uq_0 (i := 22) rfl rfl
theorem uk_0_23 : (.selects RX7 yX7_rest yX7_rest : Cond) ∈ wsU := uq_0 (i := 23) rfl rfl
theorem uk_0_24 : (.selects RX7 yX7_isTicket yX7_isTicket : Cond) ∈ wsU := uq_0 (i := 24) rfl rfl
theorem uk_0_25 : (.selects RX7 yX7_bars yX7_bars : Cond) ∈ wsU := uq_0 (i := 25) rfl rfl
theorem uk_0_26 : (.selects RX7 yX7_isFound yX7_isFound : Cond) ∈ wsU := uq_0 (i := 26) rfl rfl
theorem uk_0_27 : (.selects RX7 yX7_interest yX7_interest : Cond) ∈ wsU := uq_0 (i := 27) rfl rfl
theorem uk_0_28 : (.selects RX7 yX7_isFree yX7_isFree : Cond) ∈ wsU := uq_0 (i := 28) rfl rfl
theorem uk_0_29 : (.selects RX7 yX7_openOf yX7_openOf : Cond) ∈ wsU := uq_0 (i := 29) rfl rfl
theorem uk_0_30 : (.selects RX7 yX7_come yX7_come : Cond) ∈ wsU := uq_0 (i := 30) rfl rfl
theorem uk_0_31 : (.selects RX7 yX7_passOne yX7_passOne : Cond) ∈ wsU := uq_0 (i := 31) rfl rfl
