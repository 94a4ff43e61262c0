/-! the words, by their places in the tables -/
theorem un_mem {w : Cond} (h : w ∈ tables_1) (g : wsNb w = true) : w ∈ wsN := List.mem_filter.mpr ⟨h, g⟩
theorem un_1 {i : Nat} {w : Cond} (h : tables_1_1[i]? = some w) (g : wsNb w = true) : w ∈ wsN := un_mem (List.mem_append_left _ (List.mem_of_getElem? h)) g
theorem un_2 {i : Nat} {w : Cond} (h : tables_1_2[i]? = some w) (g : wsNb w = true) : w ∈ wsN := un_mem (List.mem_append_right _ (List.mem_append_left _ (List.mem_of_getElem? h))) g
theorem un_3 {i : Nat} {w : Cond} (h : tables_1_3[i]? = some w) (g : wsNb w = true) : w ∈ wsN := un_mem (List.mem_append_right _ (List.mem_append_right _ (List.mem_append_left _ (List.mem_of_getElem? h)))) g
theorem un_4 {i : Nat} {w : Cond} (h : tables_1_4[i]? = some w) (g : wsNb w = true) : w ∈ wsN := un_mem (List.mem_append_right _ (List.mem_append_right _ (List.mem_append_right _ (List.mem_of_getElem? h)))) g


theorem uk_1_0 : (.initialized RL : Cond) ∈ wsU := uq_1 (i := 0) rfl rfl
theorem uk_1_1 : (.initialized RX6 : Cond) ∈ wsU := uq_1 (i := 1) rfl rfl
theorem uk_1_2 : (.initialized RJxa1e45 : Cond) ∈ wsU := uq_1 (i := 2) rfl rfl
theorem uk_1_3 : (.initialized RJxc12de : Cond) ∈ wsU := uq_1 (i := 3) rfl rfl
theorem uk_1_4 : (.initialized RJx4a65c : Cond) ∈ wsU := uq_1 (i := 4) rfl rfl
theorem uk_1_5 : (.initialized RX1 : Cond) ∈ wsU := uq_1 (i := 5) rfl rfl
theorem uk_1_6 : (.initialized RX0 : Cond) ∈ wsU := uq_1 (i := 6) rfl rfl
theorem uk_1_7 : (.initialized RX2 : Cond) ∈ wsU := uq_1 (i := 7) rfl rfl
theorem uk_1_8 : (.initialized RX5 : Cond) ∈ wsU := uq_1 (i := 8) rfl rfl
theorem uk_1_9 : (.initialized "java/lang/Throwable" : Cond) ∈ wsU := uq_1 (i := 9) rfl rfl
theorem uk_1_10 : (.initialized "java/lang/Exception" : Cond) ∈ wsU := uq_1 (i := 10) rfl rfl
theorem uk_1_11 : (.initialized "java/lang/RuntimeException" : Cond) ∈ wsU := uq_1 (i := 11) rfl rfl
theorem uk_1_12 : (.initialized "java/lang/IllegalArgumentException" : Cond) ∈ wsU := uq_1 (i := 12) rfl rfl
theorem uk_1_13 : (.initialized "java/lang/IllegalStateException" : Cond) ∈ wsU := uq_1 (i := 13) rfl rfl
theorem uk_1_14 : (.initialized "java/lang/IndexOutOfBoundsException" : Cond) ∈ wsU := uq_1 (i := 14) rfl rfl
theorem uk_1_15 : (.initialized RX3 : Cond) ∈ wsU := uq_1 (i := 15) rfl rfl
theorem uk_1_16 : (.initialized RJ8 : Cond) ∈ wsU := uq_1 (i := 16) rfl rfl
theorem uk_1_17 : (.initialized RJ9 : Cond) ∈ wsU := uq_1 (i := 17) rfl rfl
theorem uk_1_18 : (.initialized RJ7 : Cond) ∈ wsU := uq_1 (i := 18) rfl rfl
theorem uk_1_19 : (.initialized RJ10 : Cond) ∈ wsU := uq_1 (i := 19) rfl rfl
theorem uk_1_20 : (.initialized RJ15 : Cond) ∈ wsU := uq_1 (i := 20) rfl rfl
theorem uk_1_21 : (.initialized RJ3 : Cond) ∈ wsU := uq_1 (i := 21) rfl rfl
theorem uk_1_22 : (.initialized RX4 : Cond) ∈ wsU := uq_1 (i := 22) rfl rfl
theorem uk_1_23 : (.classLink RL 10 RX6 : Cond) ∈ wsU := uq_1 (i := 23) rfl rfl
theorem uk_1_24 : (.instantiable RX6 10 : Cond) ∈ wsU := uq_1 (i := 24) rfl rfl
theorem uk_1_25 : (.methodLink RL 213 yX6_init : Cond) ∈ wsU := uq_1 (i := 25) rfl rfl
theorem uk_1_26 : (.instanceMethod yX6_init : Cond) ∈ wsU := uq_1 (i := 26) rfl rfl
theorem uk_1_27 : (.code yX6_init cX6_init 2 (none : Option FieldType) : Cond) ∈ wsU := uq_1 (i := 27) rfl rfl
theorem uk_1_28 : (.methodLink RX6 1 ⟨"java/lang/Object", "<init>", "()V"⟩ : Cond) ∈ wsU := uq_1 (i := 28) rfl rfl
theorem uk_1_29 : (.instanceMethod ⟨"java/lang/Object", "<init>", "()V"⟩ : Cond) ∈ wsU := uq_1 (i := 29) rfl rfl
theorem uk_1_30 : (.code ⟨"java/lang/Object", "<init>", "()V"⟩ object_method_1_code 1 (none : Option FieldType) : Cond) ∈ wsU := uq_1 (i := 30) rfl rfl
theorem uk_1_31 : (.classLink RX6 7 RJx4a65c : Cond) ∈ wsU := uq_1 (i := 31) rfl rfl
theorem uk_1_32 : (.instantiable RJx4a65c 3 : Cond) ∈ wsU := uq_1 (i := 32) rfl rfl
theorem uk_1_33 : (.methodLink RX6 9 yJx4a65c_init_da8c8 : Cond) ∈ wsU := uq_1 (i := 33) rfl rfl
theorem uk_1_34 : (.instanceMethod yJx4a65c_init_da8c8 : Cond) ∈ wsU := uq_1 (i := 34) rfl rfl
theorem uk_1_35 : (.code yJx4a65c_init_da8c8 cJx4a65c_init_da8c8 1 (none : Option FieldType) : Cond) ∈ wsU := uq_1 (i := 35) rfl rfl
theorem uk_1_36 : (.methodLink RJx4a65c 1 yJxc12de_init_da8c8 : Cond) ∈ wsU := uq_1 (i := 36) rfl rfl
theorem uk_1_37 : (.instanceMethod yJxc12de_init_da8c8 : Cond) ∈ wsU := uq_1 (i := 37) rfl rfl
theorem uk_1_38 : (.code yJxc12de_init_da8c8 cJxc12de_init_da8c8 1 (none : Option FieldType) : Cond) ∈ wsU := uq_1 (i := 38) rfl rfl
theorem uk_1_39 : (.methodLink RJxc12de 1 yJxa1e45_init_da8c8 : Cond) ∈ wsU := uq_1 (i := 39) rfl rfl
theorem uk_1_40 : (.instanceMethod yJxa1e45_init_da8c8 : Cond) ∈ wsU := uq_1 (i := 40) rfl rfl
theorem uk_1_41 : (.code yJxa1e45_init_da8c8 cJxa1e45_init_da8c8 1 (none : Option FieldType) : Cond) ∈ wsU := uq_1 (i := 41) rfl rfl
theorem uk_1_42 : (.methodLink RJxa1e45 1 ⟨"java/lang/Object", "<init>", "()V"⟩ : Cond) ∈ wsU := uq_1 (i := 42) rfl rfl
theorem uk_1_43 : (.fieldLink RJx4a65c 39 "java/util/ArrayList" "DEFAULTCAPACITY_EMPTY_ELEMENTDATA" "[Ljava/lang/Object;" : Cond) ∈ wsU := uq_1 (i := 43) rfl rfl
theorem uk_1_45 : (.fieldLink RJx4a65c 9 "java/util/ArrayList" "elementData" "[Ljava/lang/Object;" : Cond) ∈ wsU := uq_1 (i := 45) rfl rfl
theorem uk_1_46 : (.fieldLink RJx4a65c 48 "java/util/ArrayList" "size" "I" : Cond) ∈ wsU := uq_1 (i := 46) rfl rfl
theorem uk_1_47 : (.fieldLink RJxc12de 7 "java/util/AbstractList" "modCount" "I" : Cond) ∈ wsU := uq_1 (i := 47) rfl rfl
theorem uk_1_48 : (.fieldLink RJx4a65c 63 "java/util/ArrayList" "modCount" "I" : Cond) ∈ wsU := uq_1 (i := 48) rfl rfl
theorem uk_1_49 : (.sameField RJx4a65c "java/util/AbstractList" "modCount" "I" : Cond) ∈ wsU := uq_1 (i := 49) rfl rfl
theorem uk_1_57 : (.classLink RX6 23 RX1 : Cond) ∈ wsU := uq_1 (i := 57) rfl rfl
theorem uk_1_59 : (.instantiable RX1 3 : Cond) ∈ wsU := uq_1 (i := 59) rfl rfl
theorem uk_1_61 : (.instanceMethod yX1_init : Cond) ∈ wsU := uq_1 (i := 61) rfl rfl
theorem uk_1_62 : (.code yX1_init cX1_init 1 (none : Option FieldType) : Cond) ∈ wsU := uq_1 (i := 62) rfl rfl
theorem uk_1_63 : (.methodLink RX1 1 ⟨"java/lang/Object", "<init>", "()V"⟩ : Cond) ∈ wsU := uq_1 (i := 63) rfl rfl
theorem uk_1_64 : (.fieldLink RX1 7 "Pledgehouse$Expert" "bias" "I" : Cond) ∈ wsU := uq_1 (i := 64) rfl rfl
theorem uk_1_65 : (.fieldLink RX6 91 "Pledgehouse$Expert" "bias" "I" : Cond) ∈ wsU := uq_1 (i := 65) rfl rfl
theorem uk_1_66 : (.fieldLink RX1 13 "Pledgehouse$Expert" "charged" "I" : Cond) ∈ wsU := uq_1 (i := 66) rfl rfl
theorem uk_1_67 : (.fieldLink RX6 226 "Pledgehouse$Expert" "charged" "I" : Cond) ∈ wsU := uq_1 (i := 67) rfl rfl
theorem uk_1_68 : (.fieldLink RX1 16 "Pledgehouse$Expert" "judgement" "I" : Cond) ∈ wsU := uq_1 (i := 68) rfl rfl
theorem uk_1_69 : (.fieldLink RX6 268 "Pledgehouse$Expert" "judgement" "I" : Cond) ∈ wsU := uq_1 (i := 69) rfl rfl
theorem uk_1_77 : (.arrayClass FieldType.int : Cond) ∈ wsU := uq_1 (i := 77) rfl rfl
theorem uk_1_78 : (.classLink RX6 30 RX0 : Cond) ∈ wsU := uq_1 (i := 78) rfl rfl
theorem uk_1_80 : (.instantiable RX0 3 : Cond) ∈ wsU := uq_1 (i := 80) rfl rfl
theorem uk_1_81 : (.methodLink RX6 32 yX0_init : Cond) ∈ wsU := uq_1 (i := 81) rfl rfl
theorem uk_1_82 : (.instanceMethod yX0_init : Cond) ∈ wsU := uq_1 (i := 82) rfl rfl
theorem uk_1_83 : (.code yX0_init cX0_init 2 (none : Option FieldType) : Cond) ∈ wsU := uq_1 (i := 83) rfl rfl
theorem uk_1_84 : (.methodLink RX0 1 ⟨"java/lang/Object", "<init>", "()V"⟩ : Cond) ∈ wsU := uq_1 (i := 84) rfl rfl
theorem uk_1_85 : (.fieldLink RX0 16 "Pledgehouse$Charter" "ofClass" "I" : Cond) ∈ wsU := uq_1 (i := 85) rfl rfl
theorem uk_1_86 : (.fieldLink RX6 94 "Pledgehouse$Charter" "ofClass" "I" : Cond) ∈ wsU := uq_1 (i := 86) rfl rfl
theorem uk_1_87 : (.fieldLink RX0 7 "Pledgehouse$Charter" "share" "I" : Cond) ∈ wsU := uq_1 (i := 87) rfl rfl
theorem uk_1_88 : (.fieldLink RX6 98 "Pledgehouse$Charter" "share" "I" : Cond) ∈ wsU := uq_1 (i := 88) rfl rfl
theorem uk_1_89 : (.fieldLink RX0 13 "Pledgehouse$Charter" "cap" "I" : Cond) ∈ wsU := uq_1 (i := 89) rfl rfl
theorem uk_1_90 : (.fieldLink RX6 101 "Pledgehouse$Charter" "cap" "I" : Cond) ∈ wsU := uq_1 (i := 90) rfl rfl
theorem uk_1_98 : (.classLink RX6 42 RX2 : Cond) ∈ wsU := uq_1 (i := 98) rfl rfl
theorem uk_1_99 : (.instantiable RX2 7 : Cond) ∈ wsU := uq_1 (i := 99) rfl rfl
theorem uk_1_101 : (.instanceMethod yX2_init : Cond) ∈ wsU := uq_1 (i := 101) rfl rfl
theorem uk_1_102 : (.code yX2_init cX2_init 1 (none : Option FieldType) : Cond) ∈ wsU := uq_1 (i := 102) rfl rfl
theorem uk_1_103 : (.methodLink RX2 1 ⟨"java/lang/Object", "<init>", "()V"⟩ : Cond) ∈ wsU := uq_1 (i := 103) rfl rfl
theorem uk_1_104 : (.fieldLink RX2 9 "Pledgehouse$Tariff" "rateDays" "[I" : Cond) ∈ wsU := uq_1 (i := 104) rfl rfl
theorem uk_1_105 : (.fieldLink RX2 13 "Pledgehouse$Tariff" "rateSteps" "[I" : Cond) ∈ wsU := uq_1 (i := 105) rfl rfl
theorem uk_1_106 : (.fieldLink RX2 16 "Pledgehouse$Tariff" "rateValues" "[I" : Cond) ∈ wsU := uq_1 (i := 106) rfl rfl
theorem uk_1_107 : (.fieldLink RX2 19 "Pledgehouse$Tariff" "rates" "I" : Cond) ∈ wsU := uq_1 (i := 107) rfl rfl
theorem uk_1_108 : (.fieldLink RX2 23 "Pledgehouse$Tariff" "amnestyFrom" "[I" : Cond) ∈ wsU := uq_1 (i := 108) rfl rfl
theorem uk_1_109 : (.fieldLink RX2 26 "Pledgehouse$Tariff" "amnestyTo" "[I" : Cond) ∈ wsU := uq_1 (i := 109) rfl rfl
theorem uk_1_110 : (.fieldLink RX2 29 "Pledgehouse$Tariff" "amnesties" "I" : Cond) ∈ wsU := uq_1 (i := 110) rfl rfl
theorem uk_1_111 : (.fieldLink RX6 121 "Pledgehouse$Tariff" "amnesties" "I" : Cond) ∈ wsU := uq_1 (i := 111) rfl rfl
theorem uk_1_127 : (.classLink RX6 49 RX5 : Cond) ∈ wsU := uq_1 (i := 127) rfl rfl
theorem uk_1_128 : (.instantiable RX5 5 : Cond) ∈ wsU := uq_1 (i := 128) rfl rfl
theorem uk_1_130 : (.instanceMethod yX5_init : Cond) ∈ wsU := uq_1 (i := 130) rfl rfl
theorem uk_1_131 : (.code yX5_init cX5_init 1 (none : Option FieldType) : Cond) ∈ wsU := uq_1 (i := 131) rfl rfl
theorem uk_1_132 : (.methodLink RX5 1 ⟨"java/lang/Object", "<init>", "()V"⟩ : Cond) ∈ wsU := uq_1 (i := 132) rfl rfl
theorem uk_1_133 : (.fieldLink RX5 7 "Pledgehouse$Till" "inHouse" "I" : Cond) ∈ wsU := uq_1 (i := 133) rfl rfl
theorem uk_1_134 : (.fieldLink RX6 286 "Pledgehouse$Till" "inHouse" "I" : Cond) ∈ wsU := uq_1 (i := 134) rfl rfl
theorem uk_1_135 : (.fieldLink RX5 13 "Pledgehouse$Till" "kept" "I" : Cond) ∈ wsU := uq_1 (i := 135) rfl rfl
theorem uk_1_136 : (.fieldLink RX6 280 "Pledgehouse$Till" "kept" "I" : Cond) ∈ wsU := uq_1 (i := 136) rfl rfl
theorem uk_1_137 : (.fieldLink RX5 16 "Pledgehouse$Till" "gift" "I" : Cond) ∈ wsU := uq_1 (i := 137) rfl rfl
theorem uk_1_138 : (.fieldLink RX6 313 "Pledgehouse$Till" "gift" "I" : Cond) ∈ wsU := uq_1 (i := 138) rfl rfl
theorem uk_1_139 : (.fieldLink RX5 19 "Pledgehouse$Till" "moves" "[I" : Cond) ∈ wsU := uq_1 (i := 139) rfl rfl
theorem uk_1_140 : (.fieldLink RX5 23 "Pledgehouse$Till" "moveCount" "I" : Cond) ∈ wsU := uq_1 (i := 140) rfl rfl
theorem uk_1_152 : (.fieldLink RX6 10 "Pledgehouse" "things" "Ljava/util/ArrayList;" : Cond) ∈ wsU := uq_1 (i := 152) rfl rfl
theorem uk_1_153 : (.fieldLink RX6 16 "Pledgehouse" "tickets" "Ljava/util/ArrayList;" : Cond) ∈ wsU := uq_1 (i := 153) rfl rfl
theorem uk_1_154 : (.fieldLink RX6 19 "Pledgehouse" "fashions" "[I" : Cond) ∈ wsU := uq_1 (i := 154) rfl rfl
theorem uk_1_155 : (.fieldLink RX6 26 "Pledgehouse" "experts" "[LPledgehouse$Expert;" : Cond) ∈ wsU := uq_1 (i := 155) rfl rfl
theorem uk_1_156 : (.fieldLink RX6 35 "Pledgehouse" "charters" "[LPledgehouse$Charter;" : Cond) ∈ wsU := uq_1 (i := 156) rfl rfl
theorem uk_1_157 : (.fieldLink RX6 39 "Pledgehouse" "charterOfPerson" "[LPledgehouse$Charter;" : Cond) ∈ wsU := uq_1 (i := 157) rfl rfl
theorem uk_1_158 : (.fieldLink RX6 45 "Pledgehouse" "tariff" "LPledgehouse$Tariff;" : Cond) ∈ wsU := uq_1 (i := 158) rfl rfl
theorem uk_1_159 : (.fieldLink RX6 52 "Pledgehouse" "till" "LPledgehouse$Till;" : Cond) ∈ wsU := uq_1 (i := 159) rfl rfl
theorem uk_1_160 : (.fieldLink RX6 56 "Pledgehouse" "termDays" "I" : Cond) ∈ wsU := uq_1 (i := 160) rfl rfl
theorem uk_1_161 : (.fieldLink RX6 60 "Pledgehouse" "today" "I" : Cond) ∈ wsU := uq_1 (i := 161) rfl rfl
theorem uk_1_183 : (.methodLink RL 149 yX6_day : Cond) ∈ wsU := uq_1 (i := 183) rfl rfl
theorem uk_1_184 : (.instanceMethod yX6_day : Cond) ∈ wsU := uq_1 (i := 184) rfl rfl
theorem uk_1_185 : (.selects RX6 yX6_day yX6_day : Cond) ∈ wsU := uq_1 (i := 185) rfl rfl
theorem uk_1_186 : (.code yX6_day cX6_day 1 (some FieldType.int) : Cond) ∈ wsU := uq_1 (i := 186) rfl rfl
theorem uk_1_187 : (.methodLink RL 217 yL_draw : Cond) ∈ wsU := uq_1 (i := 187) rfl rfl
theorem uk_1_188 : (.static yL_draw : Cond) ∈ wsU := uq_1 (i := 188) rfl rfl
theorem uk_1_189 : (.code yL_draw cL_draw 2 (some FieldType.int) : Cond) ∈ wsU := uq_1 (i := 189) rfl rfl
theorem uk_1_190 : (.constant RL 7 (15595837) : Cond) ∈ wsU := uq_1 (i := 190) rfl rfl
theorem uk_1_191 : (.constant RL 8 (2147483647) : Cond) ∈ wsU := uq_1 (i := 191) rfl rfl
theorem uk_1_192 : (.methodLink RL 152 yL_thing : Cond) ∈ wsU := uq_1 (i := 192) rfl rfl
theorem uk_1_193 : (.static yL_thing : Cond) ∈ wsU := uq_1 (i := 193) rfl rfl
theorem uk_1_194 : (.codeWith yL_thing cL_thing 5 (some FieldType.long) [(0, 8, 9, 15), (0, 8, 15, 19), (0, 8, 21, 23)] : Cond) ∈ wsU := uq_1 (i := 194) rfl rfl
theorem uk_1_195 : (.classLink RL 15 "java/lang/IndexOutOfBoundsException" : Cond) ∈ wsU := uq_1 (i := 195) rfl rfl
theorem uk_1_196 : (.classLink RL 19 "java/lang/IllegalArgumentException" : Cond) ∈ wsU := uq_1 (i := 196) rfl rfl
theorem uk_1_197 : (.classLink RL 23 "java/lang/IllegalStateException" : Cond) ∈ wsU := uq_1 (i := 197) rfl rfl
theorem uk_1_198 : (.methodLink RL 9 yX6_thing : Cond) ∈ wsU := uq_1 (i := 198) rfl rfl
theorem uk_1_199 : (.instanceMethod yX6_thing : Cond) ∈ wsU := uq_1 (i := 199) rfl rfl
theorem uk_1_200 : (.selects RX6 yX6_thing yX6_thing : Cond) ∈ wsU := uq_1 (i := 200) rfl rfl
theorem uk_1_201 : (.code yX6_thing cX6_thing 5 (some FieldType.int) : Cond) ∈ wsU := uq_1 (i := 201) rfl rfl
theorem uk_1_202 : (.methodLink RX6 63 yX6_needIndex : Cond) ∈ wsU := uq_1 (i := 202) rfl rfl
theorem uk_1_203 : (.static yX6_needIndex : Cond) ∈ wsU := uq_1 (i := 203) rfl rfl
theorem uk_1_204 : (.code yX6_needIndex cX6_needIndex 2 (none : Option FieldType) : Cond) ∈ wsU := uq_1 (i := 204) rfl rfl
theorem uk_1_205 : (.classLink RX6 319 "java/lang/IndexOutOfBoundsException" : Cond) ∈ wsU := uq_1 (i := 205) rfl rfl
theorem uk_1_206 : (.instantiable "java/lang/IndexOutOfBoundsException" 6 : Cond) ∈ wsU := uq_1 (i := 206) rfl rfl
theorem un_1_207 : (.castable "java/lang/IndexOutOfBoundsException" "java/lang/IndexOutOfBoundsException" : Cond) ∈ wsN := un_1 (i := 207) rfl rfl
theorem un_1_208 : (.declares ⟨"java/lang/RuntimeException", "<init>", "()V"⟩ : Cond) ∈ wsN := un_1 (i := 208) rfl rfl
theorem un_1_209 : (.declares ⟨"java/lang/RuntimeException", "<init>", "(Ljava/lang/String;)V"⟩ : Cond) ∈ wsN := un_1 (i := 209) rfl rfl
theorem un_1_210 : (.declares ⟨"java/lang/Exception", "<init>", "()V"⟩ : Cond) ∈ wsN := un_1 (i := 210) rfl rfl
theorem un_1_211 : (.declares ⟨"java/lang/Exception", "<init>", "(Ljava/lang/String;)V"⟩ : Cond) ∈ wsN := un_1 (i := 211) rfl rfl
theorem un_1_212 : (.declares ⟨"java/lang/Throwable", "<init>", "()V"⟩ : Cond) ∈ wsN := un_1 (i := 212) rfl rfl
theorem un_1_213 : (.declares ⟨"java/lang/Throwable", "<init>", "(Ljava/lang/String;)V"⟩ : Cond) ∈ wsN := un_1 (i := 213) rfl rfl
theorem uk_1_214 : (.selects "java/lang/IndexOutOfBoundsException" ⟨"java/lang/Throwable", "fillInStackTrace", "(I)Ljava/lang/Throwable;"⟩ ⟨"java/lang/Throwable", "fillInStackTrace", "(I)Ljava/lang/Throwable;"⟩ : Cond) ∈ wsU := uq_1 (i := 214) rfl rfl
theorem uk_1_215 : (.selects "java/lang/IndexOutOfBoundsException" ⟨"java/lang/Throwable", "fillInStackTrace", "()Ljava/lang/Throwable;"⟩ ⟨"java/lang/Throwable", "fillInStackTrace", "()Ljava/lang/Throwable;"⟩ : Cond) ∈ wsU := uq_1 (i := 215) rfl rfl
theorem uk_1_226 : (.fieldLink "java/lang/Throwable" 198 "java/lang/Throwable" "backtrace" "Ljava/lang/Object;" : Cond) ∈ wsU := uq_1 (i := 226) rfl rfl
theorem uk_1_228 : (.instanceMethod ⟨"java/lang/Throwable", "<init>", "()V"⟩ : Cond) ∈ wsU := uq_1 (i := 228) rfl rfl
theorem uk_1_229 : (.code ⟨"java/lang/Throwable", "<init>", "()V"⟩ prog_20_method_1_code 1 (none : Option FieldType) : Cond) ∈ wsU := uq_1 (i := 229) rfl rfl
theorem uk_1_230 : (.methodLink "java/lang/Throwable" 1 ⟨"java/lang/Object", "<init>", "()V"⟩ : Cond) ∈ wsU := uq_1 (i := 230) rfl rfl
theorem uk_1_231 : (.fieldLink "java/lang/Throwable" 13 "java/lang/Throwable" "UNASSIGNED_STACK" "[Ljava/lang/StackTraceElement;" : Cond) ∈ wsU := uq_1 (i := 231) rfl rfl
theorem uk_1_233 : (.fieldLink "java/lang/Throwable" 20 "java/lang/Throwable" "SUPPRESSED_SENTINEL" "Ljava/util/List;" : Cond) ∈ wsU := uq_1 (i := 233) rfl rfl
theorem uk_1_235 : (.methodLink "java/lang/Throwable" 27 ⟨"java/lang/Throwable", "fillInStackTrace", "()Ljava/lang/Throwable;"⟩ : Cond) ∈ wsU := uq_1 (i := 235) rfl rfl
theorem uk_1_236 : (.instanceMethod ⟨"java/lang/Throwable", "fillInStackTrace", "()Ljava/lang/Throwable;"⟩ : Cond) ∈ wsU := uq_1 (i := 236) rfl rfl
theorem uk_1_237 : (.sameMethod "java/lang/Throwable" "java/lang/Throwable" "fillInStackTrace" "()Ljava/lang/Throwable;" : Cond) ∈ wsU := uq_1 (i := 237) rfl rfl
theorem uk_1_238 : (.selects "java/lang/IllegalArgumentException" ⟨"java/lang/Throwable", "fillInStackTrace", "()Ljava/lang/Throwable;"⟩ ⟨"java/lang/Throwable", "fillInStackTrace", "()Ljava/lang/Throwable;"⟩ : Cond) ∈ wsU := uq_1 (i := 238) rfl rfl
theorem uk_1_239 : (.selects "java/lang/IllegalStateException" ⟨"java/lang/Throwable", "fillInStackTrace", "()Ljava/lang/Throwable;"⟩ ⟨"java/lang/Throwable", "fillInStackTrace", "()Ljava/lang/Throwable;"⟩ : Cond) ∈ wsU := uq_1 (i := 239) rfl rfl
theorem uk_2_1 : (.methodLink "java/lang/Throwable" 202 ⟨"java/lang/Throwable", "fillInStackTrace", "(I)Ljava/lang/Throwable;"⟩ : Cond) ∈ wsU := uq_2 (i := 1) rfl rfl
theorem uk_2_3 : (.instanceMethod ⟨"java/lang/Throwable", "fillInStackTrace", "(I)Ljava/lang/Throwable;"⟩ : Cond) ∈ wsU := uq_2 (i := 3) rfl rfl
theorem uk_2_4 : (.instantiable "java/lang/Throwable" 6 : Cond) ∈ wsU := uq_2 (i := 4) rfl rfl
theorem uk_2_5 : (.native ⟨"java/lang/Throwable", "fillInStackTrace", "(I)Ljava/lang/Throwable;"⟩ : Cond) ∈ wsU := uq_2 (i := 5) rfl rfl
theorem uk_2_6 : (.methodLink RX6 321 ⟨"java/lang/IndexOutOfBoundsException", "<init>", "()V"⟩ : Cond) ∈ wsU := uq_2 (i := 6) rfl rfl
theorem uk_2_7 : (.instanceMethod ⟨"java/lang/IndexOutOfBoundsException", "<init>", "()V"⟩ : Cond) ∈ wsU := uq_2 (i := 7) rfl rfl
theorem uk_2_8 : (.code ⟨"java/lang/IndexOutOfBoundsException", "<init>", "()V"⟩ prog_15_method_1_code 1 (none : Option FieldType) : Cond) ∈ wsU := uq_2 (i := 8) rfl rfl
theorem uk_2_9 : (.methodLink "java/lang/IndexOutOfBoundsException" 1 ⟨"java/lang/RuntimeException", "<init>", "()V"⟩ : Cond) ∈ wsU := uq_2 (i := 9) rfl rfl
theorem uk_2_10 : (.instanceMethod ⟨"java/lang/RuntimeException", "<init>", "()V"⟩ : Cond) ∈ wsU := uq_2 (i := 10) rfl rfl
theorem uk_2_11 : (.code ⟨"java/lang/RuntimeException", "<init>", "()V"⟩ prog_18_method_1_code 1 (none : Option FieldType) : Cond) ∈ wsU := uq_2 (i := 11) rfl rfl
theorem uk_2_12 : (.methodLink "java/lang/RuntimeException" 1 ⟨"java/lang/Exception", "<init>", "()V"⟩ : Cond) ∈ wsU := uq_2 (i := 12) rfl rfl
theorem uk_2_13 : (.instanceMethod ⟨"java/lang/Exception", "<init>", "()V"⟩ : Cond) ∈ wsU := uq_2 (i := 13) rfl rfl
theorem uk_2_14 : (.code ⟨"java/lang/Exception", "<init>", "()V"⟩ prog_12_method_1_code 1 (none : Option FieldType) : Cond) ∈ wsU := uq_2 (i := 14) rfl rfl
theorem uk_2_15 : (.methodLink "java/lang/Exception" 1 ⟨"java/lang/Throwable", "<init>", "()V"⟩ : Cond) ∈ wsU := uq_2 (i := 15) rfl rfl
theorem uk_2_16 : (.fieldLink "java/lang/Throwable" 198 "java/lang/Throwable" "backtrace" "Ljava/lang/Object;" : Cond) ∈ wsU := uq_2 (i := 16) rfl rfl
theorem uk_2_17 : (.fieldLink "java/lang/Throwable" 7 "java/lang/Throwable" "cause" "Ljava/lang/Throwable;" : Cond) ∈ wsU := uq_2 (i := 17) rfl rfl
theorem uk_2_18 : (.fieldLink "java/lang/Throwable" 17 "java/lang/Throwable" "stackTrace" "[Ljava/lang/StackTraceElement;" : Cond) ∈ wsU := uq_2 (i := 18) rfl rfl
theorem uk_2_19 : (.fieldLink "java/lang/Throwable" 24 "java/lang/Throwable" "suppressedExceptions" "Ljava/util/List;" : Cond) ∈ wsU := uq_2 (i := 19) rfl rfl
theorem uk_2_28 : (.methodLink RX6 67 yX6_needRange : Cond) ∈ wsU := uq_2 (i := 28) rfl rfl
theorem uk_2_29 : (.static yX6_needRange : Cond) ∈ wsU := uq_2 (i := 29) rfl rfl
theorem uk_2_30 : (.code yX6_needRange cX6_needRange 3 (none : Option FieldType) : Cond) ∈ wsU := uq_2 (i := 30) rfl rfl
theorem uk_2_31 : (.classLink RX6 322 "java/lang/IllegalArgumentException" : Cond) ∈ wsU := uq_2 (i := 31) rfl rfl
theorem uk_2_32 : (.instantiable "java/lang/IllegalArgumentException" 6 : Cond) ∈ wsU := uq_2 (i := 32) rfl rfl
theorem un_2_33 : (.castable "java/lang/IllegalArgumentException" "java/lang/IllegalArgumentException" : Cond) ∈ wsN := un_2 (i := 33) rfl rfl
theorem uk_2_34 : (.selects "java/lang/IllegalArgumentException" ⟨"java/lang/Throwable", "fillInStackTrace", "(I)Ljava/lang/Throwable;"⟩ ⟨"java/lang/Throwable", "fillInStackTrace", "(I)Ljava/lang/Throwable;"⟩ : Cond) ∈ wsU := uq_2 (i := 34) rfl rfl
theorem uk_2_40 : (.methodLink RX6 324 ⟨"java/lang/IllegalArgumentException", "<init>", "()V"⟩ : Cond) ∈ wsU := uq_2 (i := 40) rfl rfl
theorem uk_2_41 : (.instanceMethod ⟨"java/lang/IllegalArgumentException", "<init>", "()V"⟩ : Cond) ∈ wsU := uq_2 (i := 41) rfl rfl
theorem uk_2_42 : (.code ⟨"java/lang/IllegalArgumentException", "<init>", "()V"⟩ prog_13_method_1_code 1 (none : Option FieldType) : Cond) ∈ wsU := uq_2 (i := 42) rfl rfl
theorem uk_2_43 : (.methodLink "java/lang/IllegalArgumentException" 1 ⟨"java/lang/RuntimeException", "<init>", "()V"⟩ : Cond) ∈ wsU := uq_2 (i := 43) rfl rfl
theorem uk_2_46 : (.methodLink RX6 71 yJx4a65c_size_8abf5 : Cond) ∈ wsU := uq_2 (i := 46) rfl rfl
theorem uk_2_47 : (.instanceMethod yJx4a65c_size_8abf5 : Cond) ∈ wsU := uq_2 (i := 47) rfl rfl
theorem uk_2_48 : (.selects RJx4a65c yJx4a65c_size_8abf5 yJx4a65c_size_8abf5 : Cond) ∈ wsU := uq_2 (i := 48) rfl rfl
theorem uk_2_49 : (.code yJx4a65c_size_8abf5 cJx4a65c_size_8abf5 1 (some FieldType.int) : Cond) ∈ wsU := uq_2 (i := 49) rfl rfl
theorem uk_2_50 : (.methodLink RX6 75 yX6_needState : Cond) ∈ wsU := uq_2 (i := 50) rfl rfl
theorem uk_2_51 : (.static yX6_needState : Cond) ∈ wsU := uq_2 (i := 51) rfl rfl
theorem uk_2_52 : (.code yX6_needState cX6_needState 1 (none : Option FieldType) : Cond) ∈ wsU := uq_2 (i := 52) rfl rfl
theorem uk_2_53 : (.classLink RX6 325 "java/lang/IllegalStateException" : Cond) ∈ wsU := uq_2 (i := 53) rfl rfl
theorem uk_2_54 : (.instantiable "java/lang/IllegalStateException" 6 : Cond) ∈ wsU := uq_2 (i := 54) rfl rfl
theorem un_2_55 : (.castable "java/lang/IllegalStateException" "java/lang/IllegalStateException" : Cond) ∈ wsN := un_2 (i := 55) rfl rfl
theorem uk_2_56 : (.selects "java/lang/IllegalStateException" ⟨"java/lang/Throwable", "fillInStackTrace", "(I)Ljava/lang/Throwable;"⟩ ⟨"java/lang/Throwable", "fillInStackTrace", "(I)Ljava/lang/Throwable;"⟩ : Cond) ∈ wsU := uq_2 (i := 56) rfl rfl
theorem uk_2_62 : (.methodLink RX6 327 ⟨"java/lang/IllegalStateException", "<init>", "()V"⟩ : Cond) ∈ wsU := uq_2 (i := 62) rfl rfl
theorem uk_2_63 : (.instanceMethod ⟨"java/lang/IllegalStateException", "<init>", "()V"⟩ : Cond) ∈ wsU := uq_2 (i := 63) rfl rfl
theorem uk_2_64 : (.code ⟨"java/lang/IllegalStateException", "<init>", "()V"⟩ prog_14_method_1_code 1 (none : Option FieldType) : Cond) ∈ wsU := uq_2 (i := 64) rfl rfl
theorem uk_2_65 : (.methodLink "java/lang/IllegalStateException" 1 ⟨"java/lang/RuntimeException", "<init>", "()V"⟩ : Cond) ∈ wsU := uq_2 (i := 65) rfl rfl
theorem uk_2_68 : (.classLink RX6 79 RX3 : Cond) ∈ wsU := uq_2 (i := 68) rfl rfl
theorem uk_2_69 : (.instantiable RX3 12 : Cond) ∈ wsU := uq_2 (i := 69) rfl rfl
theorem uk_2_70 : (.methodLink RX6 81 yX3_init : Cond) ∈ wsU := uq_2 (i := 70) rfl rfl
theorem uk_2_71 : (.instanceMethod yX3_init : Cond) ∈ wsU := uq_2 (i := 71) rfl rfl
theorem uk_2_72 : (.code yX3_init cX3_init 5 (none : Option FieldType) : Cond) ∈ wsU := uq_2 (i := 72) rfl rfl
theorem uk_2_73 : (.methodLink RX3 3 ⟨"java/lang/Object", "<init>", "()V"⟩ : Cond) ∈ wsU := uq_2 (i := 73) rfl rfl
theorem uk_2_74 : (.fieldLink RX3 38 "Pledgehouse$Thing" "number" "I" : Cond) ∈ wsU := uq_2 (i := 74) rfl rfl
theorem uk_2_75 : (.fieldLink RX6 88 "Pledgehouse$Thing" "number" "I" : Cond) ∈ wsU := uq_2 (i := 75) rfl rfl
theorem uk_2_76 : (.fieldLink RX3 41 "Pledgehouse$Thing" "kind" "I" : Cond) ∈ wsU := uq_2 (i := 76) rfl rfl
theorem uk_2_77 : (.fieldLink RX6 245 "Pledgehouse$Thing" "kind" "I" : Cond) ∈ wsU := uq_2 (i := 77) rfl rfl
theorem uk_2_78 : (.fieldLink RX3 44 "Pledgehouse$Thing" "weight" "I" : Cond) ∈ wsU := uq_2 (i := 78) rfl rfl
theorem uk_2_79 : (.fieldLink RX6 340 "Pledgehouse$Thing" "weight" "I" : Cond) ∈ wsU := uq_2 (i := 79) rfl rfl
theorem uk_2_80 : (.fieldLink RX3 47 "Pledgehouse$Thing" "worth" "I" : Cond) ∈ wsU := uq_2 (i := 80) rfl rfl
theorem uk_2_81 : (.fieldLink RX6 328 "Pledgehouse$Thing" "worth" "I" : Cond) ∈ wsU := uq_2 (i := 81) rfl rfl
theorem uk_2_82 : (.fieldLink RX3 9 "Pledgehouse$Thing" "wear" "I" : Cond) ∈ wsU := uq_2 (i := 82) rfl rfl
theorem uk_2_83 : (.fieldLink RX6 293 "Pledgehouse$Thing" "wear" "I" : Cond) ∈ wsU := uq_2 (i := 83) rfl rfl
theorem uk_2_84 : (.fieldLink RX3 15 "Pledgehouse$Thing" "isStored" "Z" : Cond) ∈ wsU := uq_2 (i := 84) rfl rfl
theorem uk_2_85 : (.fieldLink RX6 128 "Pledgehouse$Thing" "isStored" "Z" : Cond) ∈ wsU := uq_2 (i := 85) rfl rfl
theorem uk_2_86 : (.fieldLink RX3 19 "Pledgehouse$Thing" "isListed" "Z" : Cond) ∈ wsU := uq_2 (i := 86) rfl rfl
theorem uk_2_87 : (.fieldLink RX4 68 "Pledgehouse$Thing" "isListed" "Z" : Cond) ∈ wsU := uq_2 (i := 87) rfl rfl
theorem uk_2_88 : (.fieldLink RX6 132 "Pledgehouse$Thing" "isListed" "Z" : Cond) ∈ wsU := uq_2 (i := 88) rfl rfl
theorem uk_2_89 : (.fieldLink RX3 22 "Pledgehouse$Thing" "bookPlace" "I" : Cond) ∈ wsU := uq_2 (i := 89) rfl rfl
theorem uk_2_90 : (.fieldLink RX6 242 "Pledgehouse$Thing" "bookPlace" "I" : Cond) ∈ wsU := uq_2 (i := 90) rfl rfl
theorem uk_2_91 : (.fieldLink RX3 25 "Pledgehouse$Thing" "truePlace" "I" : Cond) ∈ wsU := uq_2 (i := 91) rfl rfl
theorem uk_2_92 : (.fieldLink RX6 236 "Pledgehouse$Thing" "truePlace" "I" : Cond) ∈ wsU := uq_2 (i := 92) rfl rfl
theorem uk_2_93 : (.fieldLink RX3 28 "Pledgehouse$Thing" "comeDay" "I" : Cond) ∈ wsU := uq_2 (i := 93) rfl rfl
theorem uk_2_94 : (.fieldLink RX3 31 "Pledgehouse$Thing" "windDay" "I" : Cond) ∈ wsU := uq_2 (i := 94) rfl rfl
theorem uk_2_95 : (.fieldLink RX6 248 "Pledgehouse$Thing" "windDay" "I" : Cond) ∈ wsU := uq_2 (i := 95) rfl rfl
theorem uk_2_96 : (.fieldLink RX3 34 "Pledgehouse$Thing" "openTicket" "LPledgehouse$Ticket;" : Cond) ∈ wsU := uq_2 (i := 96) rfl rfl
theorem uk_2_97 : (.fieldLink RX6 218 "Pledgehouse$Thing" "openTicket" "LPledgehouse$Ticket;" : Cond) ∈ wsU := uq_2 (i := 97) rfl rfl
theorem uk_2_123 : (.methodLink RX6 84 yJx4a65c_add_9ea2d : Cond) ∈ wsU := uq_2 (i := 123) rfl rfl
theorem uk_2_124 : (.instanceMethod yJx4a65c_add_9ea2d : Cond) ∈ wsU := uq_2 (i := 124) rfl rfl
theorem uk_2_125 : (.selects RJx4a65c yJx4a65c_add_9ea2d yJx4a65c_add_9ea2d : Cond) ∈ wsU := uq_2 (i := 125) rfl rfl
theorem uk_2_126 : (.code yJx4a65c_add_9ea2d cJx4a65c_add_9ea2d 2 (some FieldType.boolean) : Cond) ∈ wsU := uq_2 (i := 126) rfl rfl
theorem uk_2_127 : (.methodLink RJx4a65c 131 yJx4a65c_add_72be8 : Cond) ∈ wsU := uq_2 (i := 127) rfl rfl
theorem uk_2_129 : (.instanceMethod yJx4a65c_add_72be8 : Cond) ∈ wsU := uq_2 (i := 129) rfl rfl
theorem uk_2_130 : (.code yJx4a65c_add_72be8 cJx4a65c_add_72be8 4 (none : Option FieldType) : Cond) ∈ wsU := uq_2 (i := 130) rfl rfl
theorem uk_2_131 : (.methodLink RJx4a65c 129 yJx4a65c_grow_d5877 : Cond) ∈ wsU := uq_2 (i := 131) rfl rfl
theorem uk_2_133 : (.instanceMethod yJx4a65c_grow_d5877 : Cond) ∈ wsU := uq_2 (i := 133) rfl rfl
theorem uk_2_134 : (.code yJx4a65c_grow_d5877 cJx4a65c_grow_d5877 1 (some (FieldType.array (FieldType.object "java/lang/Object"))) : Cond) ∈ wsU := uq_2 (i := 134) rfl rfl
theorem uk_2_135 : (.methodLink RJx4a65c 69 yJx4a65c_grow_92f84 : Cond) ∈ wsU := uq_2 (i := 135) rfl rfl
theorem uk_2_137 : (.instanceMethod yJx4a65c_grow_92f84 : Cond) ∈ wsU := uq_2 (i := 137) rfl rfl
theorem uk_2_138 : (.code yJx4a65c_grow_92f84 cJx4a65c_grow_92f84 4 (some (FieldType.array (FieldType.object "java/lang/Object"))) : Cond) ∈ wsU := uq_2 (i := 138) rfl rfl
theorem uk_2_139 : (.methodLink RJx4a65c 73 yJ8_newLength_cabcc : Cond) ∈ wsU := uq_2 (i := 139) rfl rfl
theorem uk_2_140 : (.static yJ8_newLength_cabcc : Cond) ∈ wsU := uq_2 (i := 140) rfl rfl
theorem uk_2_141 : (.code yJ8_newLength_cabcc cJ8_newLength_cabcc 4 (some FieldType.int) : Cond) ∈ wsU := uq_2 (i := 141) rfl rfl
theorem uk_2_142 : (.methodLink RJ8 194 yJ9_max_7cf53 : Cond) ∈ wsU := uq_2 (i := 142) rfl rfl
theorem uk_2_143 : (.static yJ9_max_7cf53 : Cond) ∈ wsU := uq_2 (i := 143) rfl rfl
theorem uk_2_144 : (.code yJ9_max_7cf53 cJ9_max_7cf53 2 (some FieldType.int) : Cond) ∈ wsU := uq_2 (i := 144) rfl rfl
theorem uk_2_145 : (.constant RJ8 200 (2147483639) : Cond) ∈ wsU := uq_2 (i := 145) rfl rfl
theorem uk_2_146 : (.methodLink RJ8 201 yJ8_hugeLength_7cf53 : Cond) ∈ wsU := uq_2 (i := 146) rfl rfl
theorem uk_2_147 : (.static yJ8_hugeLength_7cf53 : Cond) ∈ wsU := uq_2 (i := 147) rfl rfl
theorem uk_2_148 : (.code yJ8_hugeLength_7cf53 cJ8_hugeLength_7cf53 3 (some FieldType.int) : Cond) ∈ wsU := uq_2 (i := 148) rfl rfl
theorem uk_2_149 : (.methodLink RJx4a65c 66 yJ7_copyOf_1904c : Cond) ∈ wsU := uq_2 (i := 149) rfl rfl
theorem uk_2_150 : (.static yJ7_copyOf_1904c : Cond) ∈ wsU := uq_2 (i := 150) rfl rfl
theorem uk_2_151 : (.code yJ7_copyOf_1904c cJ7_copyOf_1904c 2 (some (FieldType.array (FieldType.object "java/lang/Object"))) : Cond) ∈ wsU := uq_2 (i := 151) rfl rfl
theorem uk_2_152 : (.methodLink RJ7 86 ⟨"java/lang/Object", "getClass", "()Ljava/lang/Class;"⟩ : Cond) ∈ wsU := uq_2 (i := 152) rfl rfl
theorem uk_2_153 : (.instanceMethod ⟨"java/lang/Object", "getClass", "()Ljava/lang/Class;"⟩ : Cond) ∈ wsU := uq_2 (i := 153) rfl rfl
theorem uk_2_154 : (.sameMethod "java/lang/Object" "java/lang/Object" "getClass" "()Ljava/lang/Class;" : Cond) ∈ wsU := uq_2 (i := 154) rfl rfl
theorem uk_2_155 : (.selects RX6 ⟨"java/lang/Object", "getClass", "()Ljava/lang/Class;"⟩ ⟨"java/lang/Object", "getClass", "()Ljava/lang/Class;"⟩ : Cond) ∈ wsU := uq_2 (i := 155) rfl rfl
theorem uk_2_156 : (.selects RX0 ⟨"java/lang/Object", "getClass", "()Ljava/lang/Class;"⟩ ⟨"java/lang/Object", "getClass", "()Ljava/lang/Class;"⟩ : Cond) ∈ wsU := uq_2 (i := 156) rfl rfl
theorem uk_2_157 : (.selects RX1 ⟨"java/lang/Object", "getClass", "()Ljava/lang/Class;"⟩ ⟨"java/lang/Object", "getClass", "()Ljava/lang/Class;"⟩ : Cond) ∈ wsU := uq_2 (i := 157) rfl rfl
theorem uk_2_158 : (.selects RX2 ⟨"java/lang/Object", "getClass", "()Ljava/lang/Class;"⟩ ⟨"java/lang/Object", "getClass", "()Ljava/lang/Class;"⟩ : Cond) ∈ wsU := uq_2 (i := 158) rfl rfl
theorem uk_2_159 : (.selects RX3 ⟨"java/lang/Object", "getClass", "()Ljava/lang/Class;"⟩ ⟨"java/lang/Object", "getClass", "()Ljava/lang/Class;"⟩ : Cond) ∈ wsU := uq_2 (i := 159) rfl rfl
theorem uk_2_160 : (.selects RX4 ⟨"java/lang/Object", "getClass", "()Ljava/lang/Class;"⟩ ⟨"java/lang/Object", "getClass", "()Ljava/lang/Class;"⟩ : Cond) ∈ wsU := uq_2 (i := 160) rfl rfl
theorem uk_2_161 : (.selects RX5 ⟨"java/lang/Object", "getClass", "()Ljava/lang/Class;"⟩ ⟨"java/lang/Object", "getClass", "()Ljava/lang/Class;"⟩ : Cond) ∈ wsU := uq_2 (i := 161) rfl rfl
theorem uk_2_162 : (.selects "java/lang/IllegalArgumentException" ⟨"java/lang/Object", "getClass", "()Ljava/lang/Class;"⟩ ⟨"java/lang/Object", "getClass", "()Ljava/lang/Class;"⟩ : Cond) ∈ wsU := uq_2 (i := 162) rfl rfl
theorem uk_2_163 : (.selects "java/lang/IllegalStateException" ⟨"java/lang/Object", "getClass", "()Ljava/lang/Class;"⟩ ⟨"java/lang/Object", "getClass", "()Ljava/lang/Class;"⟩ : Cond) ∈ wsU := uq_2 (i := 163) rfl rfl
theorem uk_2_164 : (.selects "java/lang/IndexOutOfBoundsException" ⟨"java/lang/Object", "getClass", "()Ljava/lang/Class;"⟩ ⟨"java/lang/Object", "getClass", "()Ljava/lang/Class;"⟩ : Cond) ∈ wsU := uq_2 (i := 164) rfl rfl
theorem uk_2_165 : (.selects RJx4a65c ⟨"java/lang/Object", "getClass", "()Ljava/lang/Class;"⟩ ⟨"java/lang/Object", "getClass", "()Ljava/lang/Class;"⟩ : Cond) ∈ wsU := uq_2 (i := 165) rfl rfl
theorem uk_2_166 : (.native ⟨"java/lang/Object", "getClass", "()Ljava/lang/Class;"⟩ : Cond) ∈ wsU := uq_2 (i := 166) rfl rfl
theorem uk_2_167 : (.methodLink RJ7 300 yJ7_copyOf_6403c : Cond) ∈ wsU := uq_2 (i := 167) rfl rfl
theorem uk_2_168 : (.static yJ7_copyOf_6403c : Cond) ∈ wsU := uq_2 (i := 168) rfl rfl
theorem uk_2_169 : (.code yJ7_copyOf_6403c cJ7_copyOf_6403c 4 (some (FieldType.array (FieldType.object "java/lang/Object"))) : Cond) ∈ wsU := uq_2 (i := 169) rfl rfl
theorem uk_2_170 : (.classLink RJ7 110 "[Ljava/lang/Object;" : Cond) ∈ wsU := uq_2 (i := 170) rfl rfl
theorem uk_2_172 : (.classLink RJ7 2 "java/lang/Object" : Cond) ∈ wsU := uq_2 (i := 172) rfl rfl
theorem uk_2_173 : (.methodLink RJ7 304 yJ9_min_7cf53 : Cond) ∈ wsU := uq_2 (i := 173) rfl rfl
theorem uk_2_174 : (.static yJ9_min_7cf53 : Cond) ∈ wsU := uq_2 (i := 174) rfl rfl
theorem uk_2_175 : (.code yJ9_min_7cf53 cJ9_min_7cf53 2 (some FieldType.int) : Cond) ∈ wsU := uq_2 (i := 175) rfl rfl
theorem uk_2_176 : (.methodLink RJ7 150 ⟨"java/lang/System", "arraycopy", "(Ljava/lang/Object;ILjava/lang/Object;II)V"⟩ : Cond) ∈ wsU := uq_2 (i := 176) rfl rfl
theorem uk_2_177 : (.static ⟨"java/lang/System", "arraycopy", "(Ljava/lang/Object;ILjava/lang/Object;II)V"⟩ : Cond) ∈ wsU := uq_2 (i := 177) rfl rfl
theorem uk_2_178 : (.native ⟨"java/lang/System", "arraycopy", "(Ljava/lang/Object;ILjava/lang/Object;II)V"⟩ : Cond) ∈ wsU := uq_2 (i := 178) rfl rfl
theorem uk_2_179 : (.methodLink RJx4a65c 79 yJ9_max_7cf53 : Cond) ∈ wsU := uq_2 (i := 179) rfl rfl
theorem uk_2_180 : (.classLink RJx4a65c 7 "java/lang/Object" : Cond) ∈ wsU := uq_2 (i := 180) rfl rfl
theorem uk_2_181 : (.constantLong RL 17 (-9000000000000000001) : Cond) ∈ wsU := uq_2 (i := 181) rfl rfl
theorem uk_2_182 : (.constantLong RL 21 (-9000000000000000002) : Cond) ∈ wsU := uq_2 (i := 182) rfl rfl
theorem uk_2_183 : (.constantLong RL 25 (-9000000000000000003) : Cond) ∈ wsU := uq_2 (i := 183) rfl rfl
theorem uk_2_184 : (.methodLink RL 155 yL_fashion : Cond) ∈ wsU := uq_2 (i := 184) rfl rfl
theorem uk_2_185 : (.static yL_fashion : Cond) ∈ wsU := uq_2 (i := 185) rfl rfl
theorem uk_2_186 : (.codeWith yL_fashion cL_fashion 4 (some FieldType.long) [(0, 7, 8, 15), (0, 7, 13, 19)] : Cond) ∈ wsU := uq_2 (i := 186) rfl rfl
theorem uk_2_187 : (.methodLink RL 27 yX6_fashion : Cond) ∈ wsU := uq_2 (i := 187) rfl rfl
theorem uk_2_188 : (.instanceMethod yX6_fashion : Cond) ∈ wsU := uq_2 (i := 188) rfl rfl
theorem uk_2_189 : (.selects RX6 yX6_fashion yX6_fashion : Cond) ∈ wsU := uq_2 (i := 189) rfl rfl
theorem uk_2_190 : (.code yX6_fashion cX6_fashion 4 (some FieldType.int) : Cond) ∈ wsU := uq_2 (i := 190) rfl rfl
theorem uk_2_191 : (.methodLink RL 161 yL_charter : Cond) ∈ wsU := uq_2 (i := 191) rfl rfl
theorem uk_2_192 : (.static yL_charter : Cond) ∈ wsU := uq_2 (i := 192) rfl rfl
theorem uk_2_193 : (.codeWith yL_charter cL_charter 5 (some FieldType.long) [(0, 8, 9, 15), (0, 8, 15, 19)] : Cond) ∈ wsU := uq_2 (i := 193) rfl rfl
theorem uk_2_194 : (.methodLink RL 37 yX6_charter : Cond) ∈ wsU := uq_2 (i := 194) rfl rfl
theorem uk_2_195 : (.instanceMethod yX6_charter : Cond) ∈ wsU := uq_2 (i := 195) rfl rfl
theorem uk_2_196 : (.selects RX6 yX6_charter yX6_charter : Cond) ∈ wsU := uq_2 (i := 196) rfl rfl
theorem uk_2_197 : (.code yX6_charter cX6_charter 4 (none : Option FieldType) : Cond) ∈ wsU := uq_2 (i := 197) rfl rfl
theorem uk_2_198 : (.constant RX6 97 (100000) : Cond) ∈ wsU := uq_2 (i := 198) rfl rfl
theorem uk_2_199 : (.methodLink RL 163 yL_rate : Cond) ∈ wsU := uq_2 (i := 199) rfl rfl
theorem uk_2_200 : (.static yL_rate : Cond) ∈ wsU := uq_2 (i := 200) rfl rfl
theorem uk_2_201 : (.codeWith yL_rate cL_rate 4 (some FieldType.long) [(0, 7, 8, 15), (0, 7, 13, 19), (0, 7, 18, 23)] : Cond) ∈ wsU := uq_2 (i := 201) rfl rfl
theorem uk_2_202 : (.methodLink RL 41 yX6_rate : Cond) ∈ wsU := uq_2 (i := 202) rfl rfl
theorem uk_2_203 : (.instanceMethod yX6_rate : Cond) ∈ wsU := uq_2 (i := 203) rfl rfl
theorem uk_2_204 : (.selects RX6 yX6_rate yX6_rate : Cond) ∈ wsU := uq_2 (i := 204) rfl rfl
theorem uk_2_205 : (.code yX6_rate cX6_rate 4 (some FieldType.int) : Cond) ∈ wsU := uq_2 (i := 205) rfl rfl
theorem uk_2_206 : (.methodLink RX6 104 yX2_takesRate : Cond) ∈ wsU := uq_2 (i := 206) rfl rfl
theorem uk_2_207 : (.instanceMethod yX2_takesRate : Cond) ∈ wsU := uq_2 (i := 207) rfl rfl
theorem uk_2_208 : (.selects RX2 yX2_takesRate yX2_takesRate : Cond) ∈ wsU := uq_2 (i := 208) rfl rfl
theorem uk_2_209 : (.code yX2_takesRate cX2_takesRate 1 (some FieldType.boolean) : Cond) ∈ wsU := uq_2 (i := 209) rfl rfl
theorem uk_2_210 : (.methodLink RX6 108 yX2_rateOn : Cond) ∈ wsU := uq_2 (i := 210) rfl rfl
theorem uk_2_211 : (.instanceMethod yX2_rateOn : Cond) ∈ wsU := uq_2 (i := 211) rfl rfl
theorem uk_2_212 : (.selects RX2 yX2_rateOn yX2_rateOn : Cond) ∈ wsU := uq_2 (i := 212) rfl rfl
theorem uk_2_213 : (.code yX2_rateOn cX2_rateOn 4 (some FieldType.int) : Cond) ∈ wsU := uq_2 (i := 213) rfl rfl
theorem uk_2_214 : (.methodLink RX2 39 yX2_firstRate : Cond) ∈ wsU := uq_2 (i := 214) rfl rfl
theorem uk_2_215 : (.static yX2_firstRate : Cond) ∈ wsU := uq_2 (i := 215) rfl rfl
theorem uk_2_216 : (.code yX2_firstRate cX2_firstRate 1 (some FieldType.int) : Cond) ∈ wsU := uq_2 (i := 216) rfl rfl
theorem uk_2_217 : (.methodLink RX6 112 yX2_addRate : Cond) ∈ wsU := uq_2 (i := 217) rfl rfl
theorem uk_2_218 : (.instanceMethod yX2_addRate : Cond) ∈ wsU := uq_2 (i := 218) rfl rfl
theorem uk_2_219 : (.selects RX2 yX2_addRate yX2_addRate : Cond) ∈ wsU := uq_2 (i := 219) rfl rfl
theorem uk_2_220 : (.code yX2_addRate cX2_addRate 4 (none : Option FieldType) : Cond) ∈ wsU := uq_2 (i := 220) rfl rfl
theorem uk_2_221 : (.methodLink RX2 32 yX2_takesRate : Cond) ∈ wsU := uq_2 (i := 221) rfl rfl
theorem uk_2_222 : (.methodLink RL 165 yL_term : Cond) ∈ wsU := uq_2 (i := 222) rfl rfl
theorem uk_2_223 : (.static yL_term : Cond) ∈ wsU := uq_2 (i := 223) rfl rfl
theorem uk_2_224 : (.codeWith yL_term cL_term 3 (some FieldType.long) [(0, 6, 7, 19)] : Cond) ∈ wsU := uq_2 (i := 224) rfl rfl
theorem uk_2_225 : (.methodLink RL 44 yX6_term : Cond) ∈ wsU := uq_2 (i := 225) rfl rfl
theorem uk_2_226 : (.instanceMethod yX6_term : Cond) ∈ wsU := uq_2 (i := 226) rfl rfl
theorem uk_2_227 : (.selects RX6 yX6_term yX6_term : Cond) ∈ wsU := uq_2 (i := 227) rfl rfl
theorem uk_2_228 : (.code yX6_term cX6_term 3 (some FieldType.int) : Cond) ∈ wsU := uq_2 (i := 228) rfl rfl
theorem uk_2_229 : (.methodLink RL 167 yL_amnesty : Cond) ∈ wsU := uq_2 (i := 229) rfl rfl
theorem uk_2_230 : (.static yL_amnesty : Cond) ∈ wsU := uq_2 (i := 230) rfl rfl
theorem uk_2_231 : (.codeWith yL_amnesty cL_amnesty 4 (some FieldType.long) [(0, 7, 8, 19), (0, 7, 13, 23)] : Cond) ∈ wsU := uq_2 (i := 231) rfl rfl
theorem uk_2_232 : (.methodLink RL 48 yX6_amnesty : Cond) ∈ wsU := uq_2 (i := 232) rfl rfl
theorem uk_2_233 : (.instanceMethod yX6_amnesty : Cond) ∈ wsU := uq_2 (i := 233) rfl rfl
theorem uk_2_234 : (.selects RX6 yX6_amnesty yX6_amnesty : Cond) ∈ wsU := uq_2 (i := 234) rfl rfl
theorem uk_2_235 : (.code yX6_amnesty cX6_amnesty 3 (some FieldType.int) : Cond) ∈ wsU := uq_2 (i := 235) rfl rfl
theorem uk_2_236 : (.methodLink RX6 115 yX2_takesAmnesty : Cond) ∈ wsU := uq_2 (i := 236) rfl rfl
theorem uk_2_237 : (.instanceMethod yX2_takesAmnesty : Cond) ∈ wsU := uq_2 (i := 237) rfl rfl
theorem uk_2_238 : (.selects RX2 yX2_takesAmnesty yX2_takesAmnesty : Cond) ∈ wsU := uq_2 (i := 238) rfl rfl
theorem uk_2_239 : (.code yX2_takesAmnesty cX2_takesAmnesty 1 (some FieldType.boolean) : Cond) ∈ wsU := uq_2 (i := 239) rfl rfl
theorem uk_3_0 : (.methodLink RX6 118 yX2_addAmnesty : Cond) ∈ wsU := uq_3 (i := 0) rfl rfl
theorem uk_3_1 : (.instanceMethod yX2_addAmnesty : Cond) ∈ wsU := uq_3 (i := 1) rfl rfl
theorem uk_3_2 : (.selects RX2 yX2_addAmnesty yX2_addAmnesty : Cond) ∈ wsU := uq_3 (i := 2) rfl rfl
theorem uk_3_3 : (.code yX2_addAmnesty cX2_addAmnesty 3 (none : Option FieldType) : Cond) ∈ wsU := uq_3 (i := 3) rfl rfl
theorem uk_3_4 : (.methodLink RX2 36 yX2_takesAmnesty : Cond) ∈ wsU := uq_3 (i := 4) rfl rfl
theorem uk_3_5 : (.methodLink RL 169 yL_pledge : Cond) ∈ wsU := uq_3 (i := 5) rfl rfl
theorem uk_3_6 : (.static yL_pledge : Cond) ∈ wsU := uq_3 (i := 6) rfl rfl
theorem uk_3_7 : (.codeWith yL_pledge cL_pledge 8 (some FieldType.long) [(0, 14, 15, 15), (0, 14, 21, 19), (0, 14, 27, 23)] : Cond) ∈ wsU := uq_3 (i := 7) rfl rfl
theorem uk_3_8 : (.methodLink RL 51 yX6_pledge : Cond) ∈ wsU := uq_3 (i := 8) rfl rfl
theorem uk_3_9 : (.instanceMethod yX6_pledge : Cond) ∈ wsU := uq_3 (i := 9) rfl rfl
theorem uk_3_10 : (.selects RX6 yX6_pledge yX6_pledge : Cond) ∈ wsU := uq_3 (i := 10) rfl rfl
theorem uk_3_11 : (.code yX6_pledge cX6_pledge 11 (some FieldType.int) : Cond) ∈ wsU := uq_3 (i := 11) rfl rfl
theorem uk_3_12 : (.methodLink RX6 124 yX6_thingAt : Cond) ∈ wsU := uq_3 (i := 12) rfl rfl
theorem uk_3_14 : (.instanceMethod yX6_thingAt : Cond) ∈ wsU := uq_3 (i := 14) rfl rfl
theorem uk_3_15 : (.code yX6_thingAt cX6_thingAt 2 (some (FieldType.object "Pledgehouse$Thing")) : Cond) ∈ wsU := uq_3 (i := 15) rfl rfl
theorem uk_3_16 : (.methodLink RX6 232 yJx4a65c_get_915e3 : Cond) ∈ wsU := uq_3 (i := 16) rfl rfl
theorem uk_3_17 : (.instanceMethod yJx4a65c_get_915e3 : Cond) ∈ wsU := uq_3 (i := 17) rfl rfl
theorem uk_3_18 : (.selects RJx4a65c yJx4a65c_get_915e3 yJx4a65c_get_915e3 : Cond) ∈ wsU := uq_3 (i := 18) rfl rfl
theorem uk_3_19 : (.code yJx4a65c_get_915e3 cJx4a65c_get_915e3 2 (some (FieldType.object "java/lang/Object")) : Cond) ∈ wsU := uq_3 (i := 19) rfl rfl
theorem uk_3_20 : (.methodLink RJx4a65c 118 yJ15_checkIndex_7cf53 : Cond) ∈ wsU := uq_3 (i := 20) rfl rfl
theorem uk_3_21 : (.static yJ15_checkIndex_7cf53 : Cond) ∈ wsU := uq_3 (i := 21) rfl rfl
theorem uk_3_22 : (.code yJ15_checkIndex_7cf53 cJ15_checkIndex_7cf53 2 (some FieldType.int) : Cond) ∈ wsU := uq_3 (i := 22) rfl rfl
theorem uk_3_23 : (.methodLink RJ15 105 yJ3_checkIndex_8e157 : Cond) ∈ wsU := uq_3 (i := 23) rfl rfl
theorem uk_3_24 : (.static yJ3_checkIndex_8e157 : Cond) ∈ wsU := uq_3 (i := 24) rfl rfl
theorem uk_3_25 : (.code yJ3_checkIndex_8e157 cJ3_checkIndex_8e157 3 (some FieldType.int) : Cond) ∈ wsU := uq_3 (i := 25) rfl rfl
theorem uk_3_26 : (.methodLink RJx4a65c 123 yJx4a65c_elementData_915e3 : Cond) ∈ wsU := uq_3 (i := 26) rfl rfl
theorem uk_3_27 : (.instanceMethod yJx4a65c_elementData_915e3 : Cond) ∈ wsU := uq_3 (i := 27) rfl rfl
theorem uk_3_28 : (.selects RJx4a65c yJx4a65c_elementData_915e3 yJx4a65c_elementData_915e3 : Cond) ∈ wsU := uq_3 (i := 28) rfl rfl
theorem uk_3_29 : (.code yJx4a65c_elementData_915e3 cJx4a65c_elementData_915e3 2 (some (FieldType.object "java/lang/Object")) : Cond) ∈ wsU := uq_3 (i := 29) rfl rfl
theorem uk_3_30 : (.methodLink RX6 135 yX6_valueNow : Cond) ∈ wsU := uq_3 (i := 30) rfl rfl
theorem uk_3_32 : (.instanceMethod yX6_valueNow : Cond) ∈ wsU := uq_3 (i := 32) rfl rfl
theorem uk_3_33 : (.code yX6_valueNow cX6_valueNow 3 (some FieldType.int) : Cond) ∈ wsU := uq_3 (i := 33) rfl rfl
theorem uk_3_34 : (.methodLink RX6 139 yX1_valueBy : Cond) ∈ wsU := uq_3 (i := 34) rfl rfl
theorem uk_3_35 : (.instanceMethod yX1_valueBy : Cond) ∈ wsU := uq_3 (i := 35) rfl rfl
theorem uk_3_36 : (.selects RX1 yX1_valueBy yX1_valueBy : Cond) ∈ wsU := uq_3 (i := 36) rfl rfl
theorem uk_3_37 : (.code yX1_valueBy cX1_valueBy 2 (some FieldType.int) : Cond) ∈ wsU := uq_3 (i := 37) rfl rfl
theorem uk_3_38 : (.methodLink RX6 143 yX6_mayLend : Cond) ∈ wsU := uq_3 (i := 38) rfl rfl
theorem uk_3_40 : (.instanceMethod yX6_mayLend : Cond) ∈ wsU := uq_3 (i := 40) rfl rfl
theorem uk_3_41 : (.code yX6_mayLend cX6_mayLend 5 (some FieldType.boolean) : Cond) ∈ wsU := uq_3 (i := 41) rfl rfl
theorem uk_3_42 : (.methodLink RX6 290 yX5_free : Cond) ∈ wsU := uq_3 (i := 42) rfl rfl
theorem uk_3_43 : (.instanceMethod yX5_free : Cond) ∈ wsU := uq_3 (i := 43) rfl rfl
theorem uk_3_44 : (.selects RX5 yX5_free yX5_free : Cond) ∈ wsU := uq_3 (i := 44) rfl rfl
theorem uk_3_45 : (.code yX5_free cX5_free 1 (some FieldType.int) : Cond) ∈ wsU := uq_3 (i := 45) rfl rfl
theorem uk_3_46 : (.methodLink RX6 331 yX6_openLoansOf : Cond) ∈ wsU := uq_3 (i := 46) rfl rfl
theorem uk_3_48 : (.instanceMethod yX6_openLoansOf : Cond) ∈ wsU := uq_3 (i := 48) rfl rfl
theorem uk_3_49 : (.code yX6_openLoansOf cX6_openLoansOf 5 (some FieldType.int) : Cond) ∈ wsU := uq_3 (i := 49) rfl rfl
theorem uk_3_50 : (.classLink RX6 151 RX4 : Cond) ∈ wsU := uq_3 (i := 50) rfl rfl
theorem uk_3_51 : (.methodLink RX6 147 yX6_shelfFor : Cond) ∈ wsU := uq_3 (i := 51) rfl rfl
theorem uk_3_53 : (.instanceMethod yX6_shelfFor : Cond) ∈ wsU := uq_3 (i := 53) rfl rfl
theorem uk_3_54 : (.code yX6_shelfFor cX6_shelfFor 6 (some FieldType.int) : Cond) ∈ wsU := uq_3 (i := 54) rfl rfl
theorem uk_3_55 : (.methodLink RX6 159 yX6_placeOf : Cond) ∈ wsU := uq_3 (i := 55) rfl rfl
theorem uk_3_56 : (.static yX6_placeOf : Cond) ∈ wsU := uq_3 (i := 56) rfl rfl
theorem uk_3_57 : (.code yX6_placeOf cX6_placeOf 2 (some FieldType.int) : Cond) ∈ wsU := uq_3 (i := 57) rfl rfl
theorem uk_3_58 : (.methodLink RX6 309 yX6_roomAt : Cond) ∈ wsU := uq_3 (i := 58) rfl rfl
theorem uk_3_60 : (.instanceMethod yX6_roomAt : Cond) ∈ wsU := uq_3 (i := 60) rfl rfl
theorem uk_3_61 : (.code yX6_roomAt cX6_roomAt 6 (some FieldType.int) : Cond) ∈ wsU := uq_3 (i := 61) rfl rfl
theorem uk_3_62 : (.instantiable RX4 16 : Cond) ∈ wsU := uq_3 (i := 62) rfl rfl
theorem uk_3_63 : (.methodLink RX6 153 yX4_init : Cond) ∈ wsU := uq_3 (i := 63) rfl rfl
theorem uk_3_64 : (.instanceMethod yX4_init : Cond) ∈ wsU := uq_3 (i := 64) rfl rfl
theorem uk_3_65 : (.code yX4_init cX4_init 8 (none : Option FieldType) : Cond) ∈ wsU := uq_3 (i := 65) rfl rfl
theorem uk_3_66 : (.methodLink RX4 3 ⟨"java/lang/Object", "<init>", "()V"⟩ : Cond) ∈ wsU := uq_3 (i := 66) rfl rfl
theorem uk_3_67 : (.fieldLink RX4 36 "Pledgehouse$Ticket" "number" "I" : Cond) ∈ wsU := uq_3 (i := 67) rfl rfl
theorem uk_3_68 : (.fieldLink RX3 50 "Pledgehouse$Ticket" "number" "I" : Cond) ∈ wsU := uq_3 (i := 68) rfl rfl
theorem uk_3_69 : (.fieldLink RX6 169 "Pledgehouse$Ticket" "number" "I" : Cond) ∈ wsU := uq_3 (i := 69) rfl rfl
theorem uk_3_70 : (.fieldLink RX4 39 "Pledgehouse$Ticket" "thing" "LPledgehouse$Thing;" : Cond) ∈ wsU := uq_3 (i := 70) rfl rfl
theorem uk_3_71 : (.fieldLink RX6 183 "Pledgehouse$Ticket" "thing" "LPledgehouse$Thing;" : Cond) ∈ wsU := uq_3 (i := 71) rfl rfl
theorem uk_3_72 : (.fieldLink RX4 43 "Pledgehouse$Ticket" "pledger" "I" : Cond) ∈ wsU := uq_3 (i := 72) rfl rfl
theorem uk_3_73 : (.fieldLink RX6 334 "Pledgehouse$Ticket" "pledger" "I" : Cond) ∈ wsU := uq_3 (i := 73) rfl rfl
theorem uk_3_74 : (.fieldLink RX4 49 "Pledgehouse$Ticket" "isNamed" "Z" : Cond) ∈ wsU := uq_3 (i := 74) rfl rfl
theorem uk_3_75 : (.fieldLink RX6 200 "Pledgehouse$Ticket" "isNamed" "Z" : Cond) ∈ wsU := uq_3 (i := 75) rfl rfl
theorem uk_3_76 : (.fieldLink RX4 53 "Pledgehouse$Ticket" "expert" "LPledgehouse$Expert;" : Cond) ∈ wsU := uq_3 (i := 76) rfl rfl
theorem uk_3_77 : (.fieldLink RX6 222 "Pledgehouse$Ticket" "expert" "LPledgehouse$Expert;" : Cond) ∈ wsU := uq_3 (i := 77) rfl rfl
theorem uk_3_78 : (.fieldLink RX4 57 "Pledgehouse$Ticket" "valuedAt" "I" : Cond) ∈ wsU := uq_3 (i := 78) rfl rfl
theorem uk_3_79 : (.fieldLink RX6 271 "Pledgehouse$Ticket" "valuedAt" "I" : Cond) ∈ wsU := uq_3 (i := 79) rfl rfl
theorem uk_3_80 : (.fieldLink RX4 46 "Pledgehouse$Ticket" "holder" "I" : Cond) ∈ wsU := uq_3 (i := 80) rfl rfl
theorem uk_3_81 : (.fieldLink RX6 180 "Pledgehouse$Ticket" "holder" "I" : Cond) ∈ wsU := uq_3 (i := 81) rfl rfl
theorem uk_3_82 : (.fieldLink RX4 9 "Pledgehouse$Ticket" "state" "I" : Cond) ∈ wsU := uq_3 (i := 82) rfl rfl
theorem uk_3_83 : (.fieldLink RX6 174 "Pledgehouse$Ticket" "state" "I" : Cond) ∈ wsU := uq_3 (i := 83) rfl rfl
theorem uk_3_84 : (.fieldLink RX4 60 "Pledgehouse$Ticket" "loan" "I" : Cond) ∈ wsU := uq_3 (i := 84) rfl rfl
theorem uk_3_85 : (.fieldLink RX6 190 "Pledgehouse$Ticket" "loan" "I" : Cond) ∈ wsU := uq_3 (i := 85) rfl rfl
theorem uk_3_86 : (.fieldLink RX4 15 "Pledgehouse$Ticket" "beginDay" "I" : Cond) ∈ wsU := uq_3 (i := 86) rfl rfl
theorem uk_3_87 : (.fieldLink RX6 296 "Pledgehouse$Ticket" "beginDay" "I" : Cond) ∈ wsU := uq_3 (i := 87) rfl rfl
theorem uk_3_88 : (.fieldLink RX4 18 "Pledgehouse$Ticket" "ownTerm" "I" : Cond) ∈ wsU := uq_3 (i := 88) rfl rfl
theorem uk_3_89 : (.fieldLink RX4 21 "Pledgehouse$Ticket" "noticeBy" "I" : Cond) ∈ wsU := uq_3 (i := 89) rfl rfl
theorem uk_3_90 : (.fieldLink RX6 209 "Pledgehouse$Ticket" "noticeBy" "I" : Cond) ∈ wsU := uq_3 (i := 90) rfl rfl
theorem uk_3_91 : (.fieldLink RX4 24 "Pledgehouse$Ticket" "noticeDay" "I" : Cond) ∈ wsU := uq_3 (i := 91) rfl rfl
theorem uk_3_92 : (.fieldLink RX6 212 "Pledgehouse$Ticket" "noticeDay" "I" : Cond) ∈ wsU := uq_3 (i := 92) rfl rfl
theorem uk_3_93 : (.fieldLink RX4 27 "Pledgehouse$Ticket" "timesInVain" "I" : Cond) ∈ wsU := uq_3 (i := 93) rfl rfl
theorem uk_3_94 : (.fieldLink RX6 262 "Pledgehouse$Ticket" "timesInVain" "I" : Cond) ∈ wsU := uq_3 (i := 94) rfl rfl
theorem uk_3_95 : (.fieldLink RX4 30 "Pledgehouse$Ticket" "surplus" "I" : Cond) ∈ wsU := uq_3 (i := 95) rfl rfl
theorem uk_3_96 : (.fieldLink RX6 274 "Pledgehouse$Ticket" "surplus" "I" : Cond) ∈ wsU := uq_3 (i := 96) rfl rfl
theorem uk_3_97 : (.fieldLink RX4 33 "Pledgehouse$Ticket" "soldDay" "I" : Cond) ∈ wsU := uq_3 (i := 97) rfl rfl
theorem uk_3_98 : (.fieldLink RX6 277 "Pledgehouse$Ticket" "soldDay" "I" : Cond) ∈ wsU := uq_3 (i := 98) rfl rfl
theorem uk_3_132 : (.methodLink RX6 156 yX4_begin : Cond) ∈ wsU := uq_3 (i := 132) rfl rfl
theorem uk_3_133 : (.instanceMethod yX4_begin : Cond) ∈ wsU := uq_3 (i := 133) rfl rfl
theorem uk_3_134 : (.selects RX4 yX4_begin yX4_begin : Cond) ∈ wsU := uq_3 (i := 134) rfl rfl
theorem uk_3_135 : (.code yX4_begin cX4_begin 3 (none : Option FieldType) : Cond) ∈ wsU := uq_3 (i := 135) rfl rfl
theorem uk_3_136 : (.methodLink RX6 162 yX3_store : Cond) ∈ wsU := uq_3 (i := 136) rfl rfl
theorem uk_3_137 : (.instanceMethod yX3_store : Cond) ∈ wsU := uq_3 (i := 137) rfl rfl
theorem uk_3_138 : (.selects RX3 yX3_store yX3_store : Cond) ∈ wsU := uq_3 (i := 138) rfl rfl
theorem uk_3_139 : (.code yX3_store cX3_store 4 (none : Option FieldType) : Cond) ∈ wsU := uq_3 (i := 139) rfl rfl
theorem uk_3_140 : (.methodLink RX6 166 yX5_move : Cond) ∈ wsU := uq_3 (i := 140) rfl rfl
theorem uk_3_141 : (.instanceMethod yX5_move : Cond) ∈ wsU := uq_3 (i := 141) rfl rfl
theorem uk_3_142 : (.selects RX5 yX5_move yX5_move : Cond) ∈ wsU := uq_3 (i := 142) rfl rfl
theorem uk_3_143 : (.code yX5_move cX5_move 2 (none : Option FieldType) : Cond) ∈ wsU := uq_3 (i := 143) rfl rfl
theorem uk_3_144 : (.methodLink RL 176 yL_give : Cond) ∈ wsU := uq_3 (i := 144) rfl rfl
theorem uk_3_145 : (.static yL_give : Cond) ∈ wsU := uq_3 (i := 145) rfl rfl
theorem uk_3_146 : (.codeWith yL_give cL_give 4 (some FieldType.long) [(0, 7, 8, 15), (0, 7, 13, 23)] : Cond) ∈ wsU := uq_3 (i := 146) rfl rfl
theorem uk_3_147 : (.methodLink RL 61 yX6_give : Cond) ∈ wsU := uq_3 (i := 147) rfl rfl
theorem uk_3_148 : (.instanceMethod yX6_give : Cond) ∈ wsU := uq_3 (i := 148) rfl rfl
theorem uk_3_149 : (.selects RX6 yX6_give yX6_give : Cond) ∈ wsU := uq_3 (i := 149) rfl rfl
theorem uk_3_150 : (.code yX6_give cX6_give 5 (some FieldType.int) : Cond) ∈ wsU := uq_3 (i := 150) rfl rfl
theorem uk_3_151 : (.methodLink RX6 170 yX6_ticketAt : Cond) ∈ wsU := uq_3 (i := 151) rfl rfl
theorem uk_3_153 : (.instanceMethod yX6_ticketAt : Cond) ∈ wsU := uq_3 (i := 153) rfl rfl
theorem uk_3_154 : (.code yX6_ticketAt cX6_ticketAt 2 (some (FieldType.object "Pledgehouse$Ticket")) : Cond) ∈ wsU := uq_3 (i := 154) rfl rfl
theorem uk_3_155 : (.methodLink RX6 203 yX4_isOpenOrSold : Cond) ∈ wsU := uq_3 (i := 155) rfl rfl
theorem uk_3_156 : (.instanceMethod yX4_isOpenOrSold : Cond) ∈ wsU := uq_3 (i := 156) rfl rfl
theorem uk_3_157 : (.selects RX4 yX4_isOpenOrSold yX4_isOpenOrSold : Cond) ∈ wsU := uq_3 (i := 157) rfl rfl
theorem uk_3_158 : (.code yX4_isOpenOrSold cX4_isOpenOrSold 1 (some FieldType.boolean) : Cond) ∈ wsU := uq_3 (i := 158) rfl rfl
theorem uk_3_159 : (.methodLink RL 178 yL_notice : Cond) ∈ wsU := uq_3 (i := 159) rfl rfl
theorem uk_3_160 : (.static yL_notice : Cond) ∈ wsU := uq_3 (i := 160) rfl rfl
theorem uk_3_161 : (.codeWith yL_notice cL_notice 4 (some FieldType.long) [(0, 7, 8, 15), (0, 7, 13, 23)] : Cond) ∈ wsU := uq_3 (i := 161) rfl rfl
theorem uk_3_162 : (.methodLink RL 64 yX6_notice : Cond) ∈ wsU := uq_3 (i := 162) rfl rfl
theorem uk_3_163 : (.instanceMethod yX6_notice : Cond) ∈ wsU := uq_3 (i := 163) rfl rfl
theorem uk_3_164 : (.selects RX6 yX6_notice yX6_notice : Cond) ∈ wsU := uq_3 (i := 164) rfl rfl
theorem uk_3_165 : (.code yX6_notice cX6_notice 4 (none : Option FieldType) : Cond) ∈ wsU := uq_3 (i := 165) rfl rfl
theorem uk_3_166 : (.methodLink RX6 206 yX4_hasNotice : Cond) ∈ wsU := uq_3 (i := 166) rfl rfl
theorem uk_3_167 : (.instanceMethod yX4_hasNotice : Cond) ∈ wsU := uq_3 (i := 167) rfl rfl
theorem uk_3_168 : (.selects RX4 yX4_hasNotice yX4_hasNotice : Cond) ∈ wsU := uq_3 (i := 168) rfl rfl
theorem uk_3_169 : (.code yX4_hasNotice cX4_hasNotice 1 (some FieldType.boolean) : Cond) ∈ wsU := uq_3 (i := 169) rfl rfl
theorem uk_3_170 : (.methodLink RL 180 yL_show : Cond) ∈ wsU := uq_3 (i := 170) rfl rfl
theorem uk_3_171 : (.static yL_show : Cond) ∈ wsU := uq_3 (i := 171) rfl rfl
theorem uk_3_172 : (.codeWith yL_show cL_show 3 (some FieldType.long) [(0, 6, 7, 15), (0, 6, 12, 23)] : Cond) ∈ wsU := uq_3 (i := 172) rfl rfl
theorem uk_3_173 : (.methodLink RL 68 yX6_show : Cond) ∈ wsU := uq_3 (i := 173) rfl rfl
theorem uk_3_174 : (.instanceMethod yX6_show : Cond) ∈ wsU := uq_3 (i := 174) rfl rfl
theorem uk_3_175 : (.selects RX6 yX6_show yX6_show : Cond) ∈ wsU := uq_3 (i := 175) rfl rfl
theorem uk_3_176 : (.code yX6_show cX6_show 4 (some FieldType.int) : Cond) ∈ wsU := uq_3 (i := 176) rfl rfl
theorem uk_3_177 : (.methodLink RL 182 yL_police : Cond) ∈ wsU := uq_3 (i := 177) rfl rfl
theorem uk_3_178 : (.static yL_police : Cond) ∈ wsU := uq_3 (i := 178) rfl rfl
theorem uk_3_179 : (.codeWith yL_police cL_police 3 (some FieldType.long) [(0, 6, 7, 15), (0, 6, 12, 23)] : Cond) ∈ wsU := uq_3 (i := 179) rfl rfl
theorem uk_3_180 : (.methodLink RL 71 yX6_police : Cond) ∈ wsU := uq_3 (i := 180) rfl rfl
theorem uk_3_181 : (.instanceMethod yX6_police : Cond) ∈ wsU := uq_3 (i := 181) rfl rfl
theorem uk_3_182 : (.selects RX6 yX6_police yX6_police : Cond) ∈ wsU := uq_3 (i := 182) rfl rfl
theorem uk_3_183 : (.code yX6_police cX6_police 3 (some FieldType.int) : Cond) ∈ wsU := uq_3 (i := 183) rfl rfl
theorem uk_3_184 : (.methodLink RX6 215 yX3_openTicketNumber : Cond) ∈ wsU := uq_3 (i := 184) rfl rfl
theorem uk_3_185 : (.instanceMethod yX3_openTicketNumber : Cond) ∈ wsU := uq_3 (i := 185) rfl rfl
theorem uk_3_186 : (.selects RX3 yX3_openTicketNumber yX3_openTicketNumber : Cond) ∈ wsU := uq_3 (i := 186) rfl rfl
theorem uk_3_187 : (.code yX3_openTicketNumber cX3_openTicketNumber 1 (some FieldType.int) : Cond) ∈ wsU := uq_3 (i := 187) rfl rfl
theorem uk_3_188 : (.methodLink RL 184 yL_court : Cond) ∈ wsU := uq_3 (i := 188) rfl rfl
theorem uk_3_189 : (.static yL_court : Cond) ∈ wsU := uq_3 (i := 189) rfl rfl
theorem uk_3_190 : (.codeWith yL_court cL_court 4 (some FieldType.long) [(0, 7, 8, 15), (0, 7, 13, 23)] : Cond) ∈ wsU := uq_3 (i := 190) rfl rfl
theorem uk_3_191 : (.methodLink RL 74 yX6_court : Cond) ∈ wsU := uq_3 (i := 191) rfl rfl
theorem uk_3_192 : (.instanceMethod yX6_court : Cond) ∈ wsU := uq_3 (i := 192) rfl rfl
theorem uk_3_193 : (.selects RX6 yX6_court yX6_court : Cond) ∈ wsU := uq_3 (i := 193) rfl rfl
theorem uk_3_194 : (.code yX6_court cX6_court 5 (some FieldType.int) : Cond) ∈ wsU := uq_3 (i := 194) rfl rfl
theorem uk_3_195 : (.methodLink RX6 197 yX4_close : Cond) ∈ wsU := uq_3 (i := 195) rfl rfl
theorem uk_3_196 : (.instanceMethod yX4_close : Cond) ∈ wsU := uq_3 (i := 196) rfl rfl
theorem uk_3_197 : (.selects RX4 yX4_close yX4_close : Cond) ∈ wsU := uq_3 (i := 197) rfl rfl
theorem uk_3_198 : (.code yX4_close cX4_close 2 (none : Option FieldType) : Cond) ∈ wsU := uq_3 (i := 198) rfl rfl
theorem uk_3_199 : (.methodLink RX4 63 yX3_leave : Cond) ∈ wsU := uq_3 (i := 199) rfl rfl
theorem uk_3_200 : (.instanceMethod yX3_leave : Cond) ∈ wsU := uq_3 (i := 200) rfl rfl
theorem uk_3_201 : (.selects RX3 yX3_leave yX3_leave : Cond) ∈ wsU := uq_3 (i := 201) rfl rfl
theorem uk_3_202 : (.code yX3_leave cX3_leave 1 (none : Option FieldType) : Cond) ∈ wsU := uq_3 (i := 202) rfl rfl
theorem uk_3_203 : (.methodLink RL 187 yL_stray : Cond) ∈ wsU := uq_3 (i := 203) rfl rfl
theorem uk_3_204 : (.static yL_stray : Cond) ∈ wsU := uq_3 (i := 204) rfl rfl
theorem uk_3_205 : (.codeWith yL_stray cL_stray 5 (some FieldType.long) [(0, 8, 9, 15), (0, 8, 15, 23)] : Cond) ∈ wsU := uq_3 (i := 205) rfl rfl
theorem uk_3_206 : (.methodLink RL 78 yX6_stray : Cond) ∈ wsU := uq_3 (i := 206) rfl rfl
theorem uk_3_207 : (.instanceMethod yX6_stray : Cond) ∈ wsU := uq_3 (i := 207) rfl rfl
theorem uk_3_208 : (.selects RX6 yX6_stray yX6_stray : Cond) ∈ wsU := uq_3 (i := 208) rfl rfl
theorem uk_3_209 : (.code yX6_stray cX6_stray 5 (none : Option FieldType) : Cond) ∈ wsU := uq_3 (i := 209) rfl rfl
theorem uk_3_210 : (.methodLink RX6 229 yX3_comeTo : Cond) ∈ wsU := uq_3 (i := 210) rfl rfl
theorem uk_3_211 : (.instanceMethod yX3_comeTo : Cond) ∈ wsU := uq_3 (i := 211) rfl rfl
theorem uk_3_212 : (.selects RX3 yX3_comeTo yX3_comeTo : Cond) ∈ wsU := uq_3 (i := 212) rfl rfl
theorem uk_3_213 : (.code yX3_comeTo cX3_comeTo 3 (none : Option FieldType) : Cond) ∈ wsU := uq_3 (i := 213) rfl rfl
theorem uk_3_214 : (.methodLink RL 189 yL_count : Cond) ∈ wsU := uq_3 (i := 214) rfl rfl
theorem uk_3_215 : (.static yL_count : Cond) ∈ wsU := uq_3 (i := 215) rfl rfl
theorem uk_3_216 : (.codeWith yL_count cL_count 3 (some FieldType.long) [(0, 6, 7, 15)] : Cond) ∈ wsU := uq_3 (i := 216) rfl rfl
theorem uk_3_217 : (.methodLink RL 81 yX6_count : Cond) ∈ wsU := uq_3 (i := 217) rfl rfl
theorem uk_3_218 : (.instanceMethod yX6_count : Cond) ∈ wsU := uq_3 (i := 218) rfl rfl
theorem uk_3_219 : (.selects RX6 yX6_count yX6_count : Cond) ∈ wsU := uq_3 (i := 219) rfl rfl
theorem uk_3_220 : (.code yX6_count cX6_count 6 (some FieldType.int) : Cond) ∈ wsU := uq_3 (i := 220) rfl rfl
theorem uk_3_221 : (.methodLink RX6 187 yX3_canBeFound : Cond) ∈ wsU := uq_3 (i := 221) rfl rfl
theorem uk_3_222 : (.instanceMethod yX3_canBeFound : Cond) ∈ wsU := uq_3 (i := 222) rfl rfl
theorem uk_3_223 : (.selects RX3 yX3_canBeFound yX3_canBeFound : Cond) ∈ wsU := uq_3 (i := 223) rfl rfl
theorem uk_3_224 : (.code yX3_canBeFound cX3_canBeFound 1 (some FieldType.boolean) : Cond) ∈ wsU := uq_3 (i := 224) rfl rfl
theorem uk_3_225 : (.methodLink RX6 239 yX6_branchOf : Cond) ∈ wsU := uq_3 (i := 225) rfl rfl
theorem uk_3_226 : (.static yX6_branchOf : Cond) ∈ wsU := uq_3 (i := 226) rfl rfl
theorem uk_3_227 : (.code yX6_branchOf cX6_branchOf 1 (some FieldType.int) : Cond) ∈ wsU := uq_3 (i := 227) rfl rfl
theorem uk_3_228 : (.methodLink RL 191 yL_transfer : Cond) ∈ wsU := uq_3 (i := 228) rfl rfl
theorem uk_3_229 : (.static yL_transfer : Cond) ∈ wsU := uq_3 (i := 229) rfl rfl
theorem uk_3_230 : (.codeWith yL_transfer cL_transfer 4 (some FieldType.long) [(0, 7, 8, 15), (0, 7, 13, 23)] : Cond) ∈ wsU := uq_3 (i := 230) rfl rfl
theorem uk_3_231 : (.methodLink RL 84 yX6_transfer : Cond) ∈ wsU := uq_3 (i := 231) rfl rfl
theorem uk_3_232 : (.instanceMethod yX6_transfer : Cond) ∈ wsU := uq_3 (i := 232) rfl rfl
theorem uk_3_233 : (.selects RX6 yX6_transfer yX6_transfer : Cond) ∈ wsU := uq_3 (i := 233) rfl rfl
theorem uk_3_234 : (.code yX6_transfer cX6_transfer 5 (some FieldType.int) : Cond) ∈ wsU := uq_3 (i := 234) rfl rfl
theorem uk_3_235 : (.methodLink RL 193 yL_wind : Cond) ∈ wsU := uq_3 (i := 235) rfl rfl
theorem uk_3_236 : (.static yL_wind : Cond) ∈ wsU := uq_3 (i := 236) rfl rfl
theorem uk_3_237 : (.codeWith yL_wind cL_wind 3 (some FieldType.long) [(0, 6, 7, 15)] : Cond) ∈ wsU := uq_3 (i := 237) rfl rfl
theorem uk_3_238 : (.methodLink RL 87 yX6_wind : Cond) ∈ wsU := uq_3 (i := 238) rfl rfl
theorem uk_3_239 : (.instanceMethod yX6_wind : Cond) ∈ wsU := uq_3 (i := 239) rfl rfl
theorem uk_4_0 : (.selects RX6 yX6_wind yX6_wind : Cond) ∈ wsU := uq_4 (i := 0) rfl rfl
theorem uk_4_1 : (.code yX6_wind cX6_wind 5 (some FieldType.int) : Cond) ∈ wsU := uq_4 (i := 1) rfl rfl
theorem uk_4_2 : (.methodLink RL 195 yL_pass : Cond) ∈ wsU := uq_4 (i := 2) rfl rfl
theorem uk_4_3 : (.static yL_pass : Cond) ∈ wsU := uq_4 (i := 3) rfl rfl
theorem uk_4_4 : (.codeWith yL_pass cL_pass 3 (some FieldType.long) [(0, 6, 7, 19), (0, 6, 12, 23)] : Cond) ∈ wsU := uq_4 (i := 4) rfl rfl
theorem uk_4_5 : (.methodLink RL 90 yX6_pass : Cond) ∈ wsU := uq_4 (i := 5) rfl rfl
theorem uk_4_6 : (.instanceMethod yX6_pass : Cond) ∈ wsU := uq_4 (i := 6) rfl rfl
theorem uk_4_7 : (.selects RX6 yX6_pass yX6_pass : Cond) ∈ wsU := uq_4 (i := 7) rfl rfl
theorem uk_4_8 : (.code yX6_pass cX6_pass 3 (some FieldType.int) : Cond) ∈ wsU := uq_4 (i := 8) rfl rfl
theorem uk_4_9 : (.methodLink RX6 251 yX6_passOneDay : Cond) ∈ wsU := uq_4 (i := 9) rfl rfl
theorem uk_4_11 : (.instanceMethod yX6_passOneDay : Cond) ∈ wsU := uq_4 (i := 11) rfl rfl
theorem uk_4_12 : (.code yX6_passOneDay cX6_passOneDay 3 (none : Option FieldType) : Cond) ∈ wsU := uq_4 (i := 12) rfl rfl
theorem uk_4_13 : (.methodLink RX6 343 yX3_wearOn : Cond) ∈ wsU := uq_4 (i := 13) rfl rfl
theorem uk_4_14 : (.instanceMethod yX3_wearOn : Cond) ∈ wsU := uq_4 (i := 14) rfl rfl
theorem uk_4_15 : (.selects RX3 yX3_wearOn yX3_wearOn : Cond) ∈ wsU := uq_4 (i := 15) rfl rfl
theorem uk_4_16 : (.code yX3_wearOn cX3_wearOn 2 (none : Option FieldType) : Cond) ∈ wsU := uq_4 (i := 16) rfl rfl
theorem uk_4_17 : (.methodLink RX3 53 yX3_furWearsOn : Cond) ∈ wsU := uq_4 (i := 17) rfl rfl
theorem uk_4_19 : (.instanceMethod yX3_furWearsOn : Cond) ∈ wsU := uq_4 (i := 19) rfl rfl
theorem uk_4_20 : (.code yX3_furWearsOn cX3_furWearsOn 2 (some FieldType.boolean) : Cond) ∈ wsU := uq_4 (i := 20) rfl rfl
theorem uk_4_21 : (.methodLink RX3 57 yX3_clockWearsOn : Cond) ∈ wsU := uq_4 (i := 21) rfl rfl
theorem uk_4_23 : (.instanceMethod yX3_clockWearsOn : Cond) ∈ wsU := uq_4 (i := 23) rfl rfl
theorem uk_4_24 : (.code yX3_clockWearsOn cX3_clockWearsOn 2 (some FieldType.boolean) : Cond) ∈ wsU := uq_4 (i := 24) rfl rfl
theorem uk_4_25 : (.methodLink RX6 346 yX4_endNoticeOn : Cond) ∈ wsU := uq_4 (i := 25) rfl rfl
theorem uk_4_26 : (.instanceMethod yX4_endNoticeOn : Cond) ∈ wsU := uq_4 (i := 26) rfl rfl
theorem uk_4_27 : (.selects RX4 yX4_endNoticeOn yX4_endNoticeOn : Cond) ∈ wsU := uq_4 (i := 27) rfl rfl
theorem uk_4_28 : (.code yX4_endNoticeOn cX4_endNoticeOn 2 (none : Option FieldType) : Cond) ∈ wsU := uq_4 (i := 28) rfl rfl
theorem uk_4_29 : (.methodLink RX4 71 yX4_hasNotice : Cond) ∈ wsU := uq_4 (i := 29) rfl rfl
theorem uk_4_30 : (.methodLink RX6 349 yX4_surplusEndsOn : Cond) ∈ wsU := uq_4 (i := 30) rfl rfl
theorem uk_4_31 : (.instanceMethod yX4_surplusEndsOn : Cond) ∈ wsU := uq_4 (i := 31) rfl rfl
theorem uk_4_32 : (.selects RX4 yX4_surplusEndsOn yX4_surplusEndsOn : Cond) ∈ wsU := uq_4 (i := 32) rfl rfl
theorem uk_4_33 : (.code yX4_surplusEndsOn cX4_surplusEndsOn 2 (some FieldType.boolean) : Cond) ∈ wsU := uq_4 (i := 33) rfl rfl
theorem uk_4_34 : (.methodLink RX6 283 yX6_releaseSurplus : Cond) ∈ wsU := uq_4 (i := 34) rfl rfl
theorem uk_4_36 : (.instanceMethod yX6_releaseSurplus : Cond) ∈ wsU := uq_4 (i := 36) rfl rfl
theorem uk_4_37 : (.code yX6_releaseSurplus cX6_releaseSurplus 3 (some FieldType.int) : Cond) ∈ wsU := uq_4 (i := 37) rfl rfl
theorem uk_4_38 : (.methodLink RL 201 yL_deposit : Cond) ∈ wsU := uq_4 (i := 38) rfl rfl
theorem uk_4_39 : (.static yL_deposit : Cond) ∈ wsU := uq_4 (i := 39) rfl rfl
theorem uk_4_40 : (.codeWith yL_deposit cL_deposit 3 (some FieldType.long) [(0, 6, 7, 19), (0, 6, 12, 23)] : Cond) ∈ wsU := uq_4 (i := 40) rfl rfl
theorem uk_4_41 : (.methodLink RL 99 yX6_deposit : Cond) ∈ wsU := uq_4 (i := 41) rfl rfl
theorem uk_4_42 : (.instanceMethod yX6_deposit : Cond) ∈ wsU := uq_4 (i := 42) rfl rfl
theorem uk_4_43 : (.selects RX6 yX6_deposit yX6_deposit : Cond) ∈ wsU := uq_4 (i := 43) rfl rfl
theorem uk_4_44 : (.code yX6_deposit cX6_deposit 2 (some FieldType.int) : Cond) ∈ wsU := uq_4 (i := 44) rfl rfl
theorem uk_4_45 : (.constant RX6 289 (100000000) : Cond) ∈ wsU := uq_4 (i := 45) rfl rfl
theorem uk_4_46 : (.methodLink RL 125 yL_thingOf : Cond) ∈ wsU := uq_4 (i := 46) rfl rfl
theorem uk_4_47 : (.static yL_thingOf : Cond) ∈ wsU := uq_4 (i := 47) rfl rfl
theorem uk_4_48 : (.codeWith yL_thingOf cL_thingOf 4 (some FieldType.long) [(0, 7, 8, 15), (0, 7, 13, 19)] : Cond) ∈ wsU := uq_4 (i := 48) rfl rfl
theorem uk_4_49 : (.methodLink RL 105 yX6_thingOf : Cond) ∈ wsU := uq_4 (i := 49) rfl rfl
theorem uk_4_50 : (.instanceMethod yX6_thingOf : Cond) ∈ wsU := uq_4 (i := 50) rfl rfl
theorem uk_4_51 : (.selects RX6 yX6_thingOf yX6_thingOf : Cond) ∈ wsU := uq_4 (i := 51) rfl rfl
theorem uk_4_52 : (.code yX6_thingOf cX6_thingOf 4 (some FieldType.int) : Cond) ∈ wsU := uq_4 (i := 52) rfl rfl
theorem uk_4_53 : (.methodLink RL 132 yL_ticketOf : Cond) ∈ wsU := uq_4 (i := 53) rfl rfl
theorem uk_4_54 : (.static yL_ticketOf : Cond) ∈ wsU := uq_4 (i := 54) rfl rfl
theorem uk_4_55 : (.codeWith yL_ticketOf cL_ticketOf 4 (some FieldType.long) [(0, 7, 8, 15), (0, 7, 13, 19)] : Cond) ∈ wsU := uq_4 (i := 55) rfl rfl
theorem uk_4_56 : (.methodLink RL 108 yX6_ticketOf : Cond) ∈ wsU := uq_4 (i := 56) rfl rfl
theorem uk_4_57 : (.instanceMethod yX6_ticketOf : Cond) ∈ wsU := uq_4 (i := 57) rfl rfl
theorem uk_4_58 : (.selects RX6 yX6_ticketOf yX6_ticketOf : Cond) ∈ wsU := uq_4 (i := 58) rfl rfl
theorem uk_4_59 : (.code yX6_ticketOf cX6_ticketOf 4 (some FieldType.int) : Cond) ∈ wsU := uq_4 (i := 59) rfl rfl
theorem uk_4_60 : (.methodLink RX6 193 yX6_interestNow : Cond) ∈ wsU := uq_4 (i := 60) rfl rfl
theorem uk_4_62 : (.instanceMethod yX6_interestNow : Cond) ∈ wsU := uq_4 (i := 62) rfl rfl
theorem uk_4_63 : (.code yX6_interestNow cX6_interestNow 2 (some FieldType.int) : Cond) ∈ wsU := uq_4 (i := 63) rfl rfl
theorem uk_4_64 : (.methodLink RX6 337 yX2_interest : Cond) ∈ wsU := uq_4 (i := 64) rfl rfl
theorem uk_4_65 : (.instanceMethod yX2_interest : Cond) ∈ wsU := uq_4 (i := 65) rfl rfl
theorem uk_4_66 : (.selects RX2 yX2_interest yX2_interest : Cond) ∈ wsU := uq_4 (i := 66) rfl rfl
theorem uk_4_67 : (.code yX2_interest cX2_interest 7 (some FieldType.int) : Cond) ∈ wsU := uq_4 (i := 67) rfl rfl
theorem uk_4_68 : (.methodLink RX2 54 yX2_costOf : Cond) ∈ wsU := uq_4 (i := 68) rfl rfl
theorem uk_4_69 : (.instanceMethod yX2_costOf : Cond) ∈ wsU := uq_4 (i := 69) rfl rfl
theorem uk_4_70 : (.selects RX2 yX2_costOf yX2_costOf : Cond) ∈ wsU := uq_4 (i := 70) rfl rfl
theorem uk_4_71 : (.code yX2_costOf cX2_costOf 4 (some FieldType.int) : Cond) ∈ wsU := uq_4 (i := 71) rfl rfl
theorem uk_4_72 : (.methodLink RX2 43 yX2_isFree : Cond) ∈ wsU := uq_4 (i := 72) rfl rfl
theorem uk_4_73 : (.instanceMethod yX2_isFree : Cond) ∈ wsU := uq_4 (i := 73) rfl rfl
theorem uk_4_74 : (.selects RX2 yX2_isFree yX2_isFree : Cond) ∈ wsU := uq_4 (i := 74) rfl rfl
theorem uk_4_75 : (.code yX2_isFree cX2_isFree 3 (some FieldType.boolean) : Cond) ∈ wsU := uq_4 (i := 75) rfl rfl
theorem uk_4_76 : (.methodLink RX2 47 yX2_stepOf : Cond) ∈ wsU := uq_4 (i := 76) rfl rfl
theorem uk_4_77 : (.static yX2_stepOf : Cond) ∈ wsU := uq_4 (i := 77) rfl rfl
theorem uk_4_78 : (.code yX2_stepOf cX2_stepOf 1 (some FieldType.int) : Cond) ∈ wsU := uq_4 (i := 78) rfl rfl
theorem uk_4_79 : (.methodLink RX2 50 yX2_rateOn : Cond) ∈ wsU := uq_4 (i := 79) rfl rfl
theorem uk_4_80 : (.methodLink RX6 299 yX4_lastDay : Cond) ∈ wsU := uq_4 (i := 80) rfl rfl
theorem uk_4_81 : (.instanceMethod yX4_lastDay : Cond) ∈ wsU := uq_4 (i := 81) rfl rfl
theorem uk_4_82 : (.selects RX4 yX4_lastDay yX4_lastDay : Cond) ∈ wsU := uq_4 (i := 82) rfl rfl
theorem uk_4_83 : (.code yX4_lastDay cX4_lastDay 1 (some FieldType.int) : Cond) ∈ wsU := uq_4 (i := 83) rfl rfl
theorem uk_4_84 : (.methodLink RX6 302 yX4_isBarredByList : Cond) ∈ wsU := uq_4 (i := 84) rfl rfl
theorem uk_4_85 : (.instanceMethod yX4_isBarredByList : Cond) ∈ wsU := uq_4 (i := 85) rfl rfl
theorem uk_4_86 : (.selects RX4 yX4_isBarredByList yX4_isBarredByList : Cond) ∈ wsU := uq_4 (i := 86) rfl rfl
theorem uk_4_87 : (.code yX4_isBarredByList cX4_isBarredByList 1 (some FieldType.boolean) : Cond) ∈ wsU := uq_4 (i := 87) rfl rfl
theorem uk_4_88 : (.methodLink RL 143 yL_money : Cond) ∈ wsU := uq_4 (i := 88) rfl rfl
theorem uk_4_89 : (.static yL_money : Cond) ∈ wsU := uq_4 (i := 89) rfl rfl
theorem uk_4_90 : (.codeWith yL_money cL_money 3 (some FieldType.long) [(0, 6, 7, 19)] : Cond) ∈ wsU := uq_4 (i := 90) rfl rfl
theorem uk_4_91 : (.methodLink RL 120 yX6_money : Cond) ∈ wsU := uq_4 (i := 91) rfl rfl
theorem uk_4_92 : (.instanceMethod yX6_money : Cond) ∈ wsU := uq_4 (i := 92) rfl rfl
theorem uk_4_93 : (.selects RX6 yX6_money yX6_money : Cond) ∈ wsU := uq_4 (i := 93) rfl rfl
theorem uk_4_94 : (.code yX6_money cX6_money 2 (some FieldType.int) : Cond) ∈ wsU := uq_4 (i := 94) rfl rfl
theorem uk_4_95 : (.methodLink RL 229 yL_thingsHold : Cond) ∈ wsU := uq_4 (i := 95) rfl rfl
theorem uk_4_96 : (.static yL_thingsHold : Cond) ∈ wsU := uq_4 (i := 96) rfl rfl
theorem uk_4_97 : (.code yL_thingsHold cL_thingsHold 11 (some FieldType.boolean) : Cond) ∈ wsU := uq_4 (i := 97) rfl rfl
theorem uk_4_98 : (.constantLong RL 123 (720) : Cond) ∈ wsU := uq_4 (i := 98) rfl rfl
theorem uk_4_99 : (.constantLong RL 130 (10) : Cond) ∈ wsU := uq_4 (i := 99) rfl rfl
theorem uk_4_100 : (.methodLink RL 134 yL_bears : Cond) ∈ wsU := uq_4 (i := 100) rfl rfl
theorem uk_4_101 : (.static yL_bears : Cond) ∈ wsU := uq_4 (i := 101) rfl rfl
theorem uk_4_102 : (.codeWith yL_bears cL_bears 4 (some FieldType.long) [(0, 7, 8, 15)] : Cond) ∈ wsU := uq_4 (i := 102) rfl rfl
theorem uk_4_103 : (.methodLink RL 117 yX6_bears : Cond) ∈ wsU := uq_4 (i := 103) rfl rfl
theorem uk_4_104 : (.instanceMethod yX6_bears : Cond) ∈ wsU := uq_4 (i := 104) rfl rfl
theorem uk_4_105 : (.selects RX6 yX6_bears yX6_bears : Cond) ∈ wsU := uq_4 (i := 105) rfl rfl
theorem uk_4_106 : (.code yX6_bears cX6_bears 3 (some FieldType.int) : Cond) ∈ wsU := uq_4 (i := 106) rfl rfl
theorem uk_4_107 : (.methodLink RL 233 yL_moneyHolds : Cond) ∈ wsU := uq_4 (i := 107) rfl rfl
theorem uk_4_108 : (.static yL_moneyHolds : Cond) ∈ wsU := uq_4 (i := 108) rfl rfl
theorem uk_4_109 : (.code yL_moneyHolds cL_moneyHolds 8 (some FieldType.boolean) : Cond) ∈ wsU := uq_4 (i := 109) rfl rfl
theorem uk_4_110 : (.methodLink RL 136 yL_interestAnew : Cond) ∈ wsU := uq_4 (i := 110) rfl rfl
theorem uk_4_111 : (.static yL_interestAnew : Cond) ∈ wsU := uq_4 (i := 111) rfl rfl
theorem uk_4_112 : (.codeWith yL_interestAnew cL_interestAnew 3 (some FieldType.long) [(0, 6, 7, 15)] : Cond) ∈ wsU := uq_4 (i := 112) rfl rfl
theorem uk_4_113 : (.methodLink RL 111 yX6_interestAnew : Cond) ∈ wsU := uq_4 (i := 113) rfl rfl
theorem uk_4_114 : (.instanceMethod yX6_interestAnew : Cond) ∈ wsU := uq_4 (i := 114) rfl rfl
theorem uk_4_115 : (.selects RX6 yX6_interestAnew yX6_interestAnew : Cond) ∈ wsU := uq_4 (i := 115) rfl rfl
theorem uk_4_116 : (.code yX6_interestAnew cX6_interestAnew 3 (some FieldType.int) : Cond) ∈ wsU := uq_4 (i := 116) rfl rfl
theorem uk_4_117 : (.methodLink RX6 305 yX2_interestByDays : Cond) ∈ wsU := uq_4 (i := 117) rfl rfl
theorem uk_4_118 : (.instanceMethod yX2_interestByDays : Cond) ∈ wsU := uq_4 (i := 118) rfl rfl
theorem uk_4_119 : (.selects RX2 yX2_interestByDays yX2_interestByDays : Cond) ∈ wsU := uq_4 (i := 119) rfl rfl
theorem uk_4_120 : (.code yX2_interestByDays cX2_interestByDays 8 (some FieldType.int) : Cond) ∈ wsU := uq_4 (i := 120) rfl rfl
theorem uk_4_121 : (.constantLong RL 139 (2) : Cond) ∈ wsU := uq_4 (i := 121) rfl rfl
theorem uk_4_122 : (.constantLong RL 141 (3) : Cond) ∈ wsU := uq_4 (i := 122) rfl rfl
theorem uk_4_123 : (.methodLink RL 145 yX6_moneyAnew : Cond) ∈ wsU := uq_4 (i := 123) rfl rfl
theorem uk_4_124 : (.instanceMethod yX6_moneyAnew : Cond) ∈ wsU := uq_4 (i := 124) rfl rfl
theorem uk_4_125 : (.selects RX6 yX6_moneyAnew yX6_moneyAnew : Cond) ∈ wsU := uq_4 (i := 125) rfl rfl
theorem uk_4_126 : (.code yX6_moneyAnew cX6_moneyAnew 1 (some FieldType.int) : Cond) ∈ wsU := uq_4 (i := 126) rfl rfl
theorem uk_4_127 : (.methodLink RX6 316 yX5_sumOfMoves : Cond) ∈ wsU := uq_4 (i := 127) rfl rfl
theorem uk_4_128 : (.instanceMethod yX5_sumOfMoves : Cond) ∈ wsU := uq_4 (i := 128) rfl rfl
theorem uk_4_129 : (.selects RX5 yX5_sumOfMoves yX5_sumOfMoves : Cond) ∈ wsU := uq_4 (i := 129) rfl rfl
theorem uk_4_130 : (.code yX5_sumOfMoves cX5_sumOfMoves 3 (some FieldType.int) : Cond) ∈ wsU := uq_4 (i := 130) rfl rfl
theorem uk_4_131 : (.methodLink RL 237 yL_refuses : Cond) ∈ wsU := uq_4 (i := 131) rfl rfl
theorem uk_4_132 : (.static yL_refuses : Cond) ∈ wsU := uq_4 (i := 132) rfl rfl
theorem uk_4_133 : (.code yL_refuses cL_refuses 5 (some FieldType.boolean) : Cond) ∈ wsU := uq_4 (i := 133) rfl rfl
theorem uk_4_134 : (.methodLink RL 157 yL_bias : Cond) ∈ wsU := uq_4 (i := 134) rfl rfl
theorem uk_4_135 : (.static yL_bias : Cond) ∈ wsU := uq_4 (i := 135) rfl rfl
theorem uk_4_136 : (.codeWith yL_bias cL_bias 4 (some FieldType.long) [(0, 7, 8, 15), (0, 7, 13, 19)] : Cond) ∈ wsU := uq_4 (i := 136) rfl rfl
theorem uk_4_137 : (.methodLink RL 31 yX6_bias : Cond) ∈ wsU := uq_4 (i := 137) rfl rfl
theorem uk_4_138 : (.instanceMethod yX6_bias : Cond) ∈ wsU := uq_4 (i := 138) rfl rfl
theorem uk_4_139 : (.selects RX6 yX6_bias yX6_bias : Cond) ∈ wsU := uq_4 (i := 139) rfl rfl
theorem uk_4_140 : (.code yX6_bias cX6_bias 4 (some FieldType.int) : Cond) ∈ wsU := uq_4 (i := 140) rfl rfl
theorem uk_4_141 : (.methodLink RL 159 yL_classOf : Cond) ∈ wsU := uq_4 (i := 141) rfl rfl
theorem uk_4_142 : (.static yL_classOf : Cond) ∈ wsU := uq_4 (i := 142) rfl rfl
theorem uk_4_143 : (.codeWith yL_classOf cL_classOf 4 (some FieldType.long) [(0, 7, 8, 15)] : Cond) ∈ wsU := uq_4 (i := 143) rfl rfl
theorem uk_4_144 : (.methodLink RL 34 yX6_classOf : Cond) ∈ wsU := uq_4 (i := 144) rfl rfl
theorem uk_4_145 : (.instanceMethod yX6_classOf : Cond) ∈ wsU := uq_4 (i := 145) rfl rfl
theorem uk_4_146 : (.selects RX6 yX6_classOf yX6_classOf : Cond) ∈ wsU := uq_4 (i := 146) rfl rfl
theorem uk_4_147 : (.code yX6_classOf cX6_classOf 4 (some FieldType.int) : Cond) ∈ wsU := uq_4 (i := 147) rfl rfl
theorem uk_4_148 : (.methodLink RL 172 yL_redeem : Cond) ∈ wsU := uq_4 (i := 148) rfl rfl
theorem uk_4_149 : (.static yL_redeem : Cond) ∈ wsU := uq_4 (i := 149) rfl rfl
theorem uk_4_150 : (.codeWith yL_redeem cL_redeem 4 (some FieldType.long) [(0, 7, 8, 15), (0, 7, 13, 23)] : Cond) ∈ wsU := uq_4 (i := 150) rfl rfl
theorem uk_4_151 : (.methodLink RL 55 yX6_redeem : Cond) ∈ wsU := uq_4 (i := 151) rfl rfl
theorem uk_4_152 : (.instanceMethod yX6_redeem : Cond) ∈ wsU := uq_4 (i := 152) rfl rfl
theorem uk_4_153 : (.selects RX6 yX6_redeem yX6_redeem : Cond) ∈ wsU := uq_4 (i := 153) rfl rfl
theorem uk_4_154 : (.code yX6_redeem cX6_redeem 5 (some FieldType.int) : Cond) ∈ wsU := uq_4 (i := 154) rfl rfl
theorem uk_4_155 : (.methodLink RX6 177 yX4_isBarred : Cond) ∈ wsU := uq_4 (i := 155) rfl rfl
theorem uk_4_156 : (.instanceMethod yX4_isBarred : Cond) ∈ wsU := uq_4 (i := 156) rfl rfl
theorem uk_4_157 : (.selects RX4 yX4_isBarred yX4_isBarred : Cond) ∈ wsU := uq_4 (i := 157) rfl rfl
theorem uk_4_158 : (.code yX4_isBarred cX4_isBarred 1 (some FieldType.boolean) : Cond) ∈ wsU := uq_4 (i := 158) rfl rfl
theorem uk_4_159 : (.methodLink RX4 75 yX4_isBarredByList : Cond) ∈ wsU := uq_4 (i := 159) rfl rfl
theorem uk_4_160 : (.methodLink RL 174 yL_renew : Cond) ∈ wsU := uq_4 (i := 160) rfl rfl
theorem uk_4_161 : (.static yL_renew : Cond) ∈ wsU := uq_4 (i := 161) rfl rfl
theorem uk_4_162 : (.codeWith yL_renew cL_renew 5 (some FieldType.long) [(0, 8, 9, 15), (0, 8, 15, 19), (0, 8, 21, 23)] : Cond) ∈ wsU := uq_4 (i := 162) rfl rfl
theorem uk_4_163 : (.methodLink RL 58 yX6_renew : Cond) ∈ wsU := uq_4 (i := 163) rfl rfl
theorem uk_4_164 : (.instanceMethod yX6_renew : Cond) ∈ wsU := uq_4 (i := 164) rfl rfl
theorem uk_4_165 : (.selects RX6 yX6_renew yX6_renew : Cond) ∈ wsU := uq_4 (i := 165) rfl rfl
theorem uk_4_166 : (.code yX6_renew cX6_renew 6 (some FieldType.int) : Cond) ∈ wsU := uq_4 (i := 166) rfl rfl
theorem uk_4_167 : (.methodLink RL 197 yL_offer : Cond) ∈ wsU := uq_4 (i := 167) rfl rfl
theorem uk_4_168 : (.static yL_offer : Cond) ∈ wsU := uq_4 (i := 168) rfl rfl
theorem uk_4_169 : (.codeWith yL_offer cL_offer 4 (some FieldType.long) [(0, 7, 8, 15), (0, 7, 13, 19), (0, 7, 18, 23)] : Cond) ∈ wsU := uq_4 (i := 169) rfl rfl
theorem uk_4_170 : (.methodLink RL 93 yX6_offer : Cond) ∈ wsU := uq_4 (i := 170) rfl rfl
theorem uk_4_171 : (.instanceMethod yX6_offer : Cond) ∈ wsU := uq_4 (i := 171) rfl rfl
theorem uk_4_172 : (.selects RX6 yX6_offer yX6_offer : Cond) ∈ wsU := uq_4 (i := 172) rfl rfl
theorem uk_4_173 : (.code yX6_offer cX6_offer 7 (some FieldType.int) : Cond) ∈ wsU := uq_4 (i := 173) rfl rfl
theorem uk_4_174 : (.methodLink RX6 254 yX6_mayBeOffered : Cond) ∈ wsU := uq_4 (i := 174) rfl rfl
theorem uk_4_176 : (.instanceMethod yX6_mayBeOffered : Cond) ∈ wsU := uq_4 (i := 176) rfl rfl
theorem uk_4_177 : (.code yX6_mayBeOffered cX6_mayBeOffered 2 (some FieldType.boolean) : Cond) ∈ wsU := uq_4 (i := 177) rfl rfl
theorem uk_4_178 : (.methodLink RX6 258 yX6_reserveOf : Cond) ∈ wsU := uq_4 (i := 178) rfl rfl
theorem uk_4_179 : (.static yX6_reserveOf : Cond) ∈ wsU := uq_4 (i := 179) rfl rfl
theorem uk_4_180 : (.code yX6_reserveOf cX6_reserveOf 2 (some FieldType.int) : Cond) ∈ wsU := uq_4 (i := 180) rfl rfl
theorem uk_4_181 : (.constant RX6 267 (-2147483648) : Cond) ∈ wsU := uq_4 (i := 181) rfl rfl
theorem uk_4_182 : (.methodLink RL 199 yL_claim : Cond) ∈ wsU := uq_4 (i := 182) rfl rfl
theorem uk_4_183 : (.static yL_claim : Cond) ∈ wsU := uq_4 (i := 183) rfl rfl
theorem uk_4_184 : (.codeWith yL_claim cL_claim 4 (some FieldType.long) [(0, 7, 8, 15), (0, 7, 13, 23)] : Cond) ∈ wsU := uq_4 (i := 184) rfl rfl
theorem uk_4_185 : (.methodLink RL 96 yX6_claim : Cond) ∈ wsU := uq_4 (i := 185) rfl rfl
theorem uk_4_186 : (.instanceMethod yX6_claim : Cond) ∈ wsU := uq_4 (i := 186) rfl rfl
theorem uk_4_187 : (.selects RX6 yX6_claim yX6_claim : Cond) ∈ wsU := uq_4 (i := 187) rfl rfl
theorem uk_4_188 : (.code yX6_claim cX6_claim 4 (some FieldType.int) : Cond) ∈ wsU := uq_4 (i := 188) rfl rfl
theorem uk_4_189 : (.constant RL 203 (100001) : Cond) ∈ wsU := uq_4 (i := 189) rfl rfl
theorem uk_4_190 : (.methodLink RL 204 yL_withdraw : Cond) ∈ wsU := uq_4 (i := 190) rfl rfl
theorem uk_4_191 : (.static yL_withdraw : Cond) ∈ wsU := uq_4 (i := 191) rfl rfl
theorem uk_4_192 : (.codeWith yL_withdraw cL_withdraw 3 (some FieldType.long) [(0, 6, 7, 19), (0, 6, 12, 23)] : Cond) ∈ wsU := uq_4 (i := 192) rfl rfl
theorem uk_4_193 : (.methodLink RL 102 yX6_withdraw : Cond) ∈ wsU := uq_4 (i := 193) rfl rfl
theorem uk_4_194 : (.instanceMethod yX6_withdraw : Cond) ∈ wsU := uq_4 (i := 194) rfl rfl
theorem uk_4_195 : (.selects RX6 yX6_withdraw yX6_withdraw : Cond) ∈ wsU := uq_4 (i := 195) rfl rfl
theorem uk_4_196 : (.code yX6_withdraw cX6_withdraw 2 (some FieldType.int) : Cond) ∈ wsU := uq_4 (i := 196) rfl rfl
theorem uk_4_197 : (.constant RL 206 (100000) : Cond) ∈ wsU := uq_4 (i := 197) rfl rfl
theorem uk_4_198 : (.methodLink RL 207 yL_expertOf : Cond) ∈ wsU := uq_4 (i := 198) rfl rfl
theorem uk_4_199 : (.static yL_expertOf : Cond) ∈ wsU := uq_4 (i := 199) rfl rfl
theorem uk_4_200 : (.codeWith yL_expertOf cL_expertOf 4 (some FieldType.long) [(0, 7, 8, 15), (0, 7, 13, 19)] : Cond) ∈ wsU := uq_4 (i := 200) rfl rfl
theorem uk_4_201 : (.methodLink RL 114 yX6_expertOf : Cond) ∈ wsU := uq_4 (i := 201) rfl rfl
theorem uk_4_202 : (.instanceMethod yX6_expertOf : Cond) ∈ wsU := uq_4 (i := 202) rfl rfl
theorem uk_4_203 : (.selects RX6 yX6_expertOf yX6_expertOf : Cond) ∈ wsU := uq_4 (i := 203) rfl rfl
theorem uk_4_204 : (.code yX6_expertOf cX6_expertOf 3 (some FieldType.int) : Cond) ∈ wsU := uq_4 (i := 204) rfl rfl
theorem uk_4_205 : (.constantLong RL 209 (100000) : Cond) ∈ wsU := uq_4 (i := 205) rfl rfl
theorem uk_4_206 : (.methodLink RL 221 yL_ends : Cond) ∈ wsU := uq_4 (i := 206) rfl rfl
theorem uk_4_207 : (.static yL_ends : Cond) ∈ wsU := uq_4 (i := 207) rfl rfl
theorem uk_4_208 : (.code yL_ends cL_ends 26 (some FieldType.boolean) : Cond) ∈ wsU := uq_4 (i := 208) rfl rfl
theorem uk_4_209 : (.constantLong RL 211 (-2147483648) : Cond) ∈ wsU := uq_4 (i := 209) rfl rfl
theorem uk_4_210 : (.constant RL 214 (50000) : Cond) ∈ wsU := uq_4 (i := 210) rfl rfl
theorem uk_4_211 : (.constantLong RL 215 (50000) : Cond) ∈ wsU := uq_4 (i := 211) rfl rfl
theorem uk_4_212 : (.constantLong RL 225 (-1) : Cond) ∈ wsU := uq_4 (i := 212) rfl rfl
theorem uk_4_213 : (.constantLong RL 227 (14) : Cond) ∈ wsU := uq_4 (i := 213) rfl rfl
theorem uk_4_214 : (.sameMethod "java/lang/Throwable" "java/lang/Throwable" "fillInStackTrace" "(I)Ljava/lang/Throwable;" : Cond) ∈ wsU := uq_4 (i := 214) rfl rfl
theorem un_4_215 : (.castable RX1 "java/lang/Object" : Cond) ∈ wsN := un_4 (i := 215) rfl rfl
theorem un_4_216 : (.castable RX0 "java/lang/Object" : Cond) ∈ wsN := un_4 (i := 216) rfl rfl
theorem un_4_217 : (.castable RX6 "java/lang/Object" : Cond) ∈ wsN := un_4 (i := 217) rfl rfl
theorem un_4_218 : (.castable RJx4a65c "java/lang/Object" : Cond) ∈ wsN := un_4 (i := 218) rfl rfl
theorem un_4_219 : (.castable RX2 "java/lang/Object" : Cond) ∈ wsN := un_4 (i := 219) rfl rfl
theorem un_4_220 : (.castable RX5 "java/lang/Object" : Cond) ∈ wsN := un_4 (i := 220) rfl rfl
theorem un_4_221 : (.castable "java/lang/IllegalArgumentException" "java/lang/Object" : Cond) ∈ wsN := un_4 (i := 221) rfl rfl
theorem un_4_222 : (.castable "java/lang/IllegalStateException" "java/lang/Object" : Cond) ∈ wsN := un_4 (i := 222) rfl rfl
theorem un_4_223 : (.castable "java/lang/IndexOutOfBoundsException" "java/lang/Object" : Cond) ∈ wsN := un_4 (i := 223) rfl rfl
theorem un_4_224 : (.castable RX3 "java/lang/Object" : Cond) ∈ wsN := un_4 (i := 224) rfl rfl
theorem un_4_225 : (.castable RX4 "java/lang/Object" : Cond) ∈ wsN := un_4 (i := 225) rfl rfl
theorem un_4_226 : (.castable "java/lang/Throwable" "java/lang/Object" : Cond) ∈ wsN := un_4 (i := 226) rfl rfl
theorem uk_4_227 : (.sameMethod "[Ljava/lang/Object;" "java/lang/Object" "getClass" "()Ljava/lang/Class;" : Cond) ∈ wsU := uq_4 (i := 227) rfl rfl
theorem uk_4_228 : (.selects "[Ljava/lang/Object;" ⟨"java/lang/Object", "getClass", "()Ljava/lang/Class;"⟩ ⟨"java/lang/Object", "getClass", "()Ljava/lang/Class;"⟩ : Cond) ∈ wsU := uq_4 (i := 228) rfl rfl
theorem un_4_229 : (.declares ⟨"java/lang/Object", "getClass", "()Ljava/lang/Class;"⟩ : Cond) ∈ wsN := un_4 (i := 229) rfl rfl
theorem un_4_230 : (.castable "[LPledgehouse$Expert;" "java/lang/Object" : Cond) ∈ wsN := un_4 (i := 230) rfl rfl
theorem un_4_231 : (.castable "[I" "java/lang/Object" : Cond) ∈ wsN := un_4 (i := 231) rfl rfl
theorem un_4_232 : (.castable "[LPledgehouse$Charter;" "java/lang/Object" : Cond) ∈ wsN := un_4 (i := 232) rfl rfl
theorem un_4_233 : (.castable "[Ljava/lang/Object;" "java/lang/Object" : Cond) ∈ wsN := un_4 (i := 233) rfl rfl
theorem uk_0_1 : (.selects RJx4a65c yJx4a65c_add_72be8 yJx4a65c_add_72be8 : Cond) ∈ wsU := uq_0 (i := 1) rfl rfl
theorem uk_0_2 : (.selects RJx4a65c yJx4a65c_grow_d5877 yJx4a65c_grow_d5877 : Cond) ∈ wsU := uq_0 (i := 2) rfl rfl
theorem uk_0_3 : (.selects RJx4a65c yJx4a65c_grow_92f84 yJx4a65c_grow_92f84 : Cond) ∈ wsU := uq_0 (i := 3) rfl rfl
theorem uk_0_4 : (.selects RX6 yX6_thingAt yX6_thingAt : Cond) ∈ wsU := uq_0 (i := 4) rfl rfl
theorem uk_0_5 : (.selects RX6 yX6_valueNow yX6_valueNow : Cond) ∈ wsU := uq_0 (i := 5) rfl rfl
theorem uk_0_6 : (.selects RX6 yX6_mayLend yX6_mayLend : Cond) ∈ wsU := uq_0 (i := 6) rfl rfl
theorem uk_0_7 : (.selects RX6 yX6_openLoansOf yX6_openLoansOf : Cond) ∈ wsU := uq_0 (i := 7) rfl rfl
theorem uk_0_8 : (.selects RX6 yX6_shelfFor yX6_shelfFor : Cond) ∈ wsU := uq_0 (i := 8) rfl rfl
theorem uk_0_9 : (.selects RX6 yX6_roomAt yX6_roomAt : Cond) ∈ wsU := uq_0 (i := 9) rfl rfl
theorem uk_0_10 : (.selects RX6 yX6_ticketAt yX6_ticketAt : Cond) ∈ wsU := uq_0 (i := 10) rfl rfl
theorem uk_0_11 : (.selects RX6 yX6_passOneDay yX6_passOneDay : Cond) ∈ wsU := uq_0 (i := 11) rfl rfl
theorem uk_0_12 : (.selects RX3 yX3_furWearsOn yX3_furWearsOn : Cond) ∈ wsU := uq_0 (i := 12) rfl rfl
theorem uk_0_13 : (.selects RX3 yX3_clockWearsOn yX3_clockWearsOn : Cond) ∈ wsU := uq_0 (i := 13) rfl rfl
theorem uk_0_14 : (.selects RX6 yX6_releaseSurplus yX6_releaseSurplus : Cond) ∈ wsU := uq_0 (i := 14) rfl rfl
theorem uk_0_15 : (.selects RX6 yX6_interestNow yX6_interestNow : Cond) ∈ wsU := uq_0 (i := 15) rfl rfl
theorem uk_0_16 : (.selects RX6 yX6_mayBeOffered yX6_mayBeOffered : Cond) ∈ wsU := uq_0 (i := 16) rfl rfl
