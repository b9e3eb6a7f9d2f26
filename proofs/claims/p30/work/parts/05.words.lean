theorem zci_1 {w : Cond} (h : w ∈ tables_1_1) (hg : goodWord w = true) : w ∈ zT := List.mem_filter.mpr ⟨List.mem_append_right _ (List.mem_append_left _ h), hg⟩
theorem zci_2 {w : Cond} (h : w ∈ tables_1_2) (hg : goodWord w = true) : w ∈ zT := List.mem_filter.mpr ⟨List.mem_append_right _ (List.mem_append_right _ (List.mem_append_left _ h)), hg⟩
theorem zci_3 {w : Cond} (h : w ∈ tables_1_3) (hg : goodWord w = true) : w ∈ zT := List.mem_filter.mpr ⟨List.mem_append_right _ (List.mem_append_right _ (List.mem_append_right _ (List.mem_append_left _ h))), hg⟩
theorem zci_4 {w : Cond} (h : w ∈ tables_1_4) (hg : goodWord w = true) : w ∈ zT := List.mem_filter.mpr ⟨List.mem_append_right _ (List.mem_append_right _ (List.mem_append_right _ (List.mem_append_right _ (List.mem_append_left _ h)))), hg⟩
theorem zci_5 {w : Cond} (h : w ∈ tables_1_5) (hg : goodWord w = true) : w ∈ zT := List.mem_filter.mpr ⟨List.mem_append_right _ (List.mem_append_right _ (List.mem_append_right _ (List.mem_append_right _ (List.mem_append_right _ (List.mem_append_left _ h))))), hg⟩
theorem zci_6 {w : Cond} (h : w ∈ tables_1_6) (hg : goodWord w = true) : w ∈ zT := List.mem_filter.mpr ⟨List.mem_append_right _ (List.mem_append_right _ (List.mem_append_right _ (List.mem_append_right _ (List.mem_append_right _ (List.mem_append_right _ h))))), hg⟩
theorem zw_40 : Cond.initialized "SentRoads" ∈ zT := zci_1 (List.mem_of_getElem? (i := 1) rfl) rfl
theorem zw_41 : Cond.initialized "SentRoads$World" ∈ zT := zci_1 (List.mem_of_getElem? (i := 2) rfl) rfl
theorem zw_42 : Cond.initialized "SentRoads$Man" ∈ zT := zci_1 (List.mem_of_getElem? (i := 3) rfl) rfl
theorem zw_43 : Cond.initialized "SentRoads$Crime" ∈ zT := zci_1 (List.mem_of_getElem? (i := 4) rfl) rfl
theorem zw_44 : Cond.initialized "SentRoads$Deed" ∈ zT := zci_1 (List.mem_of_getElem? (i := 5) rfl) rfl
theorem zw_45 : Cond.initialized "SentRoads$Paper" ∈ zT := zci_1 (List.mem_of_getElem? (i := 6) rfl) rfl
theorem zw_46 : Cond.initialized "SentRoads$Demand" ∈ zT := zci_1 (List.mem_of_getElem? (i := 7) rfl) rfl
theorem zw_47 : Cond.initialized "SentRoads$Roads" ∈ zT := zci_1 (List.mem_of_getElem? (i := 8) rfl) rfl
theorem zw_48 : Cond.initialized "SentRoads$Tape" ∈ zT := zci_1 (List.mem_of_getElem? (i := 9) rfl) rfl
theorem zw_49 : Cond.initialized "SentRoads$Sheet" ∈ zT := zci_1 (List.mem_of_getElem? (i := 10) rfl) rfl
theorem zw_50 : Cond.initialized "SentRoadsModel" ∈ zT := zci_1 (List.mem_of_getElem? (i := 11) rfl) rfl
theorem zw_51 : Cond.initialized "java/lang/Math" ∈ zT := zci_1 (List.mem_of_getElem? (i := 12) rfl) rfl
theorem zw_52 : Cond.initialized "java/util/Arrays" ∈ zT := zci_1 (List.mem_of_getElem? (i := 13) rfl) rfl
theorem zw_53 : Cond.initialized "java/lang/String" ∈ zT := zci_1 (List.mem_of_getElem? (i := 14) rfl) rfl
theorem zw_54 : Cond.initialized "java/lang/StringLatin1" ∈ zT := zci_1 (List.mem_of_getElem? (i := 15) rfl) rfl
theorem zw_58 : Cond.initialized "java/lang/Integer" ∈ zT := zci_1 (List.mem_of_getElem? (i := 19) rfl) rfl
theorem zw_61 : Cond.methodLink "SentRoadsLaw" 9 yX9_init ∈ zT := zci_1 (List.mem_of_getElem? (i := 22) rfl) rfl
theorem zw_62 : Cond.instanceMethod yX9_init ∈ zT := zci_1 (List.mem_of_getElem? (i := 23) rfl) rfl
theorem zw_63 : Cond.code yX9_init cX9_init 3 none ∈ zT := zci_1 (List.mem_of_getElem? (i := 24) rfl) rfl
theorem zw_69 : Cond.methodLink "SentRoads" 9 yX8_init ∈ zT := zci_1 (List.mem_of_getElem? (i := 30) rfl) rfl
theorem zw_70 : Cond.instanceMethod yX8_init ∈ zT := zci_1 (List.mem_of_getElem? (i := 31) rfl) rfl
theorem zw_71 : Cond.code yX8_init cX8_init 2 none ∈ zT := zci_1 (List.mem_of_getElem? (i := 32) rfl) rfl
theorem zw_84 : Cond.instanceMethod yX3_init ∈ zT := zci_1 (List.mem_of_getElem? (i := 45) rfl) rfl
theorem zw_85 : Cond.code yX3_init cX3_init 1 none ∈ zT := zci_1 (List.mem_of_getElem? (i := 46) rfl) rfl
theorem zw_87 : Cond.fieldLink "SentRoads$Man" 29 "SentRoads$Man" "of" "I" ∈ zT := zci_1 (List.mem_of_getElem? (i := 48) rfl) rfl
theorem zw_88 : Cond.fieldLink "SentRoads$World" 104 "SentRoads$Man" "of" "I" ∈ zT := zci_1 (List.mem_of_getElem? (i := 49) rfl) rfl
theorem zw_89 : Cond.fieldLink "SentRoads" 229 "SentRoads$Man" "of" "I" ∈ zT := zci_1 (List.mem_of_getElem? (i := 50) rfl) rfl
theorem zw_90 : Cond.fieldLink "SentRoads$Man" 18 "SentRoads$Man" "at" "I" ∈ zT := zci_1 (List.mem_of_getElem? (i := 51) rfl) rfl
theorem zw_91 : Cond.fieldLink "SentRoads$Roads" 46 "SentRoads$Man" "at" "I" ∈ zT := zci_1 (List.mem_of_getElem? (i := 52) rfl) rfl
theorem zw_92 : Cond.fieldLink "SentRoads$World" 150 "SentRoads$Man" "at" "I" ∈ zT := zci_1 (List.mem_of_getElem? (i := 53) rfl) rfl
theorem zw_93 : Cond.fieldLink "SentRoads" 232 "SentRoads$Man" "at" "I" ∈ zT := zci_1 (List.mem_of_getElem? (i := 54) rfl) rfl
theorem zw_94 : Cond.fieldLink "SentRoads$Man" 32 "SentRoads$Man" "year" "I" ∈ zT := zci_1 (List.mem_of_getElem? (i := 55) rfl) rfl
theorem zw_95 : Cond.fieldLink "SentRoads$World" 133 "SentRoads$Man" "year" "I" ∈ zT := zci_1 (List.mem_of_getElem? (i := 56) rfl) rfl
theorem zw_96 : Cond.fieldLink "SentRoads" 238 "SentRoads$Man" "year" "I" ∈ zT := zci_1 (List.mem_of_getElem? (i := 57) rfl) rfl
theorem zw_97 : Cond.fieldLink "SentRoads$Man" 35 "SentRoads$Man" "sent" "I" ∈ zT := zci_1 (List.mem_of_getElem? (i := 58) rfl) rfl
theorem zw_98 : Cond.fieldLink "SentRoads" 224 "SentRoads$Man" "sent" "I" ∈ zT := zci_1 (List.mem_of_getElem? (i := 59) rfl) rfl
theorem zw_99 : Cond.fieldLink "SentRoads$Man" 21 "SentRoads$Man" "noDeath" "Z" ∈ zT := zci_1 (List.mem_of_getElem? (i := 60) rfl) rfl
theorem zw_100 : Cond.fieldLink "SentRoads" 244 "SentRoads$Man" "noDeath" "Z" ∈ zT := zci_1 (List.mem_of_getElem? (i := 61) rfl) rfl
theorem zw_101 : Cond.fieldLink "SentRoads$Man" 9 "SentRoads$Man" "onlyTo" "I" ∈ zT := zci_1 (List.mem_of_getElem? (i := 62) rfl) rfl
theorem zw_102 : Cond.fieldLink "SentRoads" 247 "SentRoads$Man" "onlyTo" "I" ∈ zT := zci_1 (List.mem_of_getElem? (i := 63) rfl) rfl
theorem zw_103 : Cond.fieldLink "SentRoads$Man" 15 "SentRoads$Man" "deeds" "I" ∈ zT := zci_1 (List.mem_of_getElem? (i := 64) rfl) rfl
theorem zw_104 : Cond.fieldLink "SentRoads$World" 156 "SentRoads$Man" "deeds" "I" ∈ zT := zci_1 (List.mem_of_getElem? (i := 65) rfl) rfl
theorem zw_105 : Cond.fieldLink "SentRoads" 250 "SentRoads$Man" "deeds" "I" ∈ zT := zci_1 (List.mem_of_getElem? (i := 66) rfl) rfl
theorem zw_123 : Cond.instanceMethod yX0_init ∈ zT := zci_1 (List.mem_of_getElem? (i := 84) rfl) rfl
theorem zw_124 : Cond.code yX0_init cX0_init 1 none ∈ zT := zci_1 (List.mem_of_getElem? (i := 85) rfl) rfl
theorem zw_126 : Cond.fieldLink "SentRoads$Crime" 7 "SentRoads$Crime" "land" "I" ∈ zT := zci_1 (List.mem_of_getElem? (i := 87) rfl) rfl
theorem zw_127 : Cond.fieldLink "SentRoads$Deed" 54 "SentRoads$Crime" "land" "I" ∈ zT := zci_1 (List.mem_of_getElem? (i := 88) rfl) rfl
theorem zw_128 : Cond.fieldLink "SentRoads$World" 95 "SentRoads$Crime" "land" "I" ∈ zT := zci_1 (List.mem_of_getElem? (i := 89) rfl) rfl
theorem zw_129 : Cond.fieldLink "SentRoads" 135 "SentRoads$Crime" "land" "I" ∈ zT := zci_1 (List.mem_of_getElem? (i := 90) rfl) rfl
theorem zw_130 : Cond.fieldLink "SentRoads$Crime" 13 "SentRoads$Crime" "must" "I" ∈ zT := zci_1 (List.mem_of_getElem? (i := 91) rfl) rfl
theorem zw_131 : Cond.fieldLink "SentRoads" 138 "SentRoads$Crime" "must" "I" ∈ zT := zci_1 (List.mem_of_getElem? (i := 92) rfl) rfl
theorem zw_132 : Cond.fieldLink "SentRoads$Crime" 16 "SentRoads$Crime" "but" "I" ∈ zT := zci_1 (List.mem_of_getElem? (i := 93) rfl) rfl
theorem zw_133 : Cond.fieldLink "SentRoads" 141 "SentRoads$Crime" "but" "I" ∈ zT := zci_1 (List.mem_of_getElem? (i := 94) rfl) rfl
theorem zw_134 : Cond.fieldLink "SentRoads$Crime" 19 "SentRoads$Crime" "least" "I" ∈ zT := zci_1 (List.mem_of_getElem? (i := 95) rfl) rfl
theorem zw_135 : Cond.fieldLink "SentRoads" 144 "SentRoads$Crime" "least" "I" ∈ zT := zci_1 (List.mem_of_getElem? (i := 96) rfl) rfl
theorem zw_136 : Cond.fieldLink "SentRoads$Crime" 22 "SentRoads$Crime" "most" "I" ∈ zT := zci_1 (List.mem_of_getElem? (i := 97) rfl) rfl
theorem zw_137 : Cond.fieldLink "SentRoads$Deed" 61 "SentRoads$Crime" "most" "I" ∈ zT := zci_1 (List.mem_of_getElem? (i := 98) rfl) rfl
theorem zw_138 : Cond.fieldLink "SentRoads" 147 "SentRoads$Crime" "most" "I" ∈ zT := zci_1 (List.mem_of_getElem? (i := 99) rfl) rfl
theorem zw_139 : Cond.fieldLink "SentRoads$Crime" 25 "SentRoads$Crime" "death" "Z" ∈ zT := zci_1 (List.mem_of_getElem? (i := 100) rfl) rfl
theorem zw_140 : Cond.fieldLink "SentRoads$Deed" 70 "SentRoads$Crime" "death" "Z" ∈ zT := zci_1 (List.mem_of_getElem? (i := 101) rfl) rfl
theorem zw_141 : Cond.fieldLink "SentRoads" 150 "SentRoads$Crime" "death" "Z" ∈ zT := zci_1 (List.mem_of_getElem? (i := 102) rfl) rfl
theorem zw_157 : Cond.instanceMethod yX1_init ∈ zT := zci_1 (List.mem_of_getElem? (i := 118) rfl) rfl
theorem zw_158 : Cond.code yX1_init cX1_init 1 none ∈ zT := zci_1 (List.mem_of_getElem? (i := 119) rfl) rfl
theorem zw_160 : Cond.fieldLink "SentRoads$Deed" 18 "SentRoads$Deed" "charged" "I" ∈ zT := zci_1 (List.mem_of_getElem? (i := 121) rfl) rfl
theorem zw_161 : Cond.fieldLink "SentRoads$Paper" 59 "SentRoads$Deed" "charged" "I" ∈ zT := zci_1 (List.mem_of_getElem? (i := 122) rfl) rfl
theorem zw_162 : Cond.fieldLink "SentRoads$World" 114 "SentRoads$Deed" "charged" "I" ∈ zT := zci_1 (List.mem_of_getElem? (i := 123) rfl) rfl
theorem zw_163 : Cond.fieldLink "SentRoads$Deed" 22 "SentRoads$Deed" "shown" "I" ∈ zT := zci_1 (List.mem_of_getElem? (i := 124) rfl) rfl
theorem zw_164 : Cond.fieldLink "SentRoads$Paper" 62 "SentRoads$Deed" "shown" "I" ∈ zT := zci_1 (List.mem_of_getElem? (i := 125) rfl) rfl
theorem zw_165 : Cond.fieldLink "SentRoads" 207 "SentRoads$Deed" "shown" "I" ∈ zT := zci_1 (List.mem_of_getElem? (i := 126) rfl) rfl
theorem zw_166 : Cond.fieldLink "SentRoads$Deed" 25 "SentRoads$Deed" "land" "I" ∈ zT := zci_1 (List.mem_of_getElem? (i := 127) rfl) rfl
theorem zw_167 : Cond.fieldLink "SentRoads$World" 126 "SentRoads$Deed" "land" "I" ∈ zT := zci_1 (List.mem_of_getElem? (i := 128) rfl) rfl
theorem zw_168 : Cond.fieldLink "SentRoads$Deed" 28 "SentRoads$Deed" "year" "I" ∈ zT := zci_1 (List.mem_of_getElem? (i := 129) rfl) rfl
theorem zw_169 : Cond.fieldLink "SentRoads$World" 136 "SentRoads$Deed" "year" "I" ∈ zT := zci_1 (List.mem_of_getElem? (i := 130) rfl) rfl
theorem zw_170 : Cond.fieldLink "SentRoads$Deed" 31 "SentRoads$Deed" "judged" "Z" ∈ zT := zci_1 (List.mem_of_getElem? (i := 131) rfl) rfl
theorem zw_171 : Cond.fieldLink "SentRoads$Roads" 120 "SentRoads$Deed" "judged" "Z" ∈ zT := zci_1 (List.mem_of_getElem? (i := 132) rfl) rfl
theorem zw_172 : Cond.fieldLink "SentRoads$World" 110 "SentRoads$Deed" "judged" "Z" ∈ zT := zci_1 (List.mem_of_getElem? (i := 133) rfl) rfl
theorem zw_173 : Cond.fieldLink "SentRoads" 241 "SentRoads$Deed" "judged" "Z" ∈ zT := zci_1 (List.mem_of_getElem? (i := 134) rfl) rfl
theorem zw_174 : Cond.fieldLink "SentRoads$Deed" 39 "SentRoads$Deed" "chargedCrimes" "I" ∈ zT := zci_1 (List.mem_of_getElem? (i := 135) rfl) rfl
theorem zw_175 : Cond.fieldLink "SentRoads$Paper" 56 "SentRoads$Deed" "chargedCrimes" "I" ∈ zT := zci_1 (List.mem_of_getElem? (i := 136) rfl) rfl
theorem zw_176 : Cond.fieldLink "SentRoads" 182 "SentRoads$Deed" "chargedCrimes" "I" ∈ zT := zci_1 (List.mem_of_getElem? (i := 137) rfl) rfl
theorem zw_177 : Cond.fieldLink "SentRoads$Deed" 42 "SentRoads$Deed" "shownCrimes" "I" ∈ zT := zci_1 (List.mem_of_getElem? (i := 138) rfl) rfl
theorem zw_178 : Cond.fieldLink "SentRoads" 185 "SentRoads$Deed" "shownCrimes" "I" ∈ zT := zci_1 (List.mem_of_getElem? (i := 139) rfl) rfl
theorem zw_179 : Cond.fieldLink "SentRoads$Deed" 45 "SentRoads$Deed" "deadlyLands" "I" ∈ zT := zci_1 (List.mem_of_getElem? (i := 140) rfl) rfl
theorem zw_180 : Cond.fieldLink "SentRoads$Deed" 9 "SentRoads$Deed" "chargedYears" "[I" ∈ zT := zci_1 (List.mem_of_getElem? (i := 141) rfl) rfl
theorem zw_181 : Cond.fieldLink "SentRoads$Paper" 53 "SentRoads$Deed" "chargedYears" "[I" ∈ zT := zci_1 (List.mem_of_getElem? (i := 142) rfl) rfl
theorem zw_182 : Cond.fieldLink "SentRoads" 188 "SentRoads$Deed" "chargedYears" "[I" ∈ zT := zci_1 (List.mem_of_getElem? (i := 143) rfl) rfl
theorem zw_183 : Cond.fieldLink "SentRoads$World" 170 "SentRoads$Deed" "chargedYears" "[I" ∈ zT := zci_1 (List.mem_of_getElem? (i := 144) rfl) rfl
theorem zw_184 : Cond.fieldLink "SentRoads$Deed" 15 "SentRoads$Deed" "shownYears" "[I" ∈ zT := zci_1 (List.mem_of_getElem? (i := 145) rfl) rfl
theorem zw_185 : Cond.fieldLink "SentRoads$Paper" 47 "SentRoads$Deed" "shownYears" "[I" ∈ zT := zci_1 (List.mem_of_getElem? (i := 146) rfl) rfl
theorem zw_186 : Cond.fieldLink "SentRoads" 192 "SentRoads$Deed" "shownYears" "[I" ∈ zT := zci_1 (List.mem_of_getElem? (i := 147) rfl) rfl
theorem zw_211 : Cond.instanceMethod yX4_init ∈ zT := zci_1 (List.mem_of_getElem? (i := 172) rfl) rfl
theorem zw_212 : Cond.code yX4_init cX4_init 1 none ∈ zT := zci_1 (List.mem_of_getElem? (i := 173) rfl) rfl
theorem zw_214 : Cond.fieldLink "SentRoads$Paper" 18 "SentRoads$Paper" "kind" "I" ∈ zT := zci_1 (List.mem_of_getElem? (i := 175) rfl) rfl
theorem zw_215 : Cond.fieldLink "SentRoads" 156 "SentRoads$Paper" "kind" "I" ∈ zT := zci_1 (List.mem_of_getElem? (i := 176) rfl) rfl
theorem zw_216 : Cond.fieldLink "SentRoads$Paper" 9 "SentRoads$Paper" "from" "I" ∈ zT := zci_1 (List.mem_of_getElem? (i := 177) rfl) rfl
theorem zw_217 : Cond.fieldLink "SentRoads$Man" 38 "SentRoads$Paper" "from" "I" ∈ zT := zci_1 (List.mem_of_getElem? (i := 178) rfl) rfl
theorem zw_218 : Cond.fieldLink "SentRoads" 159 "SentRoads$Paper" "from" "I" ∈ zT := zci_1 (List.mem_of_getElem? (i := 179) rfl) rfl
theorem zw_219 : Cond.fieldLink "SentRoads$World" 107 "SentRoads$Paper" "from" "I" ∈ zT := zci_1 (List.mem_of_getElem? (i := 180) rfl) rfl
theorem zw_220 : Cond.fieldLink "SentRoads$Paper" 15 "SentRoads$Paper" "to" "I" ∈ zT := zci_1 (List.mem_of_getElem? (i := 181) rfl) rfl
theorem zw_221 : Cond.fieldLink "SentRoads$Man" 43 "SentRoads$Paper" "to" "I" ∈ zT := zci_1 (List.mem_of_getElem? (i := 182) rfl) rfl
theorem zw_222 : Cond.fieldLink "SentRoads" 162 "SentRoads$Paper" "to" "I" ∈ zT := zci_1 (List.mem_of_getElem? (i := 183) rfl) rfl
theorem zw_223 : Cond.fieldLink "SentRoads$Roads" 102 "SentRoads$Paper" "to" "I" ∈ zT := zci_1 (List.mem_of_getElem? (i := 184) rfl) rfl
theorem zw_224 : Cond.fieldLink "SentRoads$World" 117 "SentRoads$Paper" "to" "I" ∈ zT := zci_1 (List.mem_of_getElem? (i := 185) rfl) rfl
theorem zw_225 : Cond.fieldLink "SentRoads$Paper" 21 "SentRoads$Paper" "n" "I" ∈ zT := zci_1 (List.mem_of_getElem? (i := 186) rfl) rfl
theorem zw_226 : Cond.fieldLink "SentRoads" 165 "SentRoads$Paper" "n" "I" ∈ zT := zci_1 (List.mem_of_getElem? (i := 187) rfl) rfl
theorem zw_227 : Cond.fieldLink "SentRoads$Paper" 24 "SentRoads$Paper" "crimes" "I" ∈ zT := zci_1 (List.mem_of_getElem? (i := 188) rfl) rfl
theorem zw_228 : Cond.fieldLink "SentRoads" 168 "SentRoads$Paper" "crimes" "I" ∈ zT := zci_1 (List.mem_of_getElem? (i := 189) rfl) rfl
theorem zw_229 : Cond.fieldLink "SentRoads$Paper" 27 "SentRoads$Paper" "bars" "I" ∈ zT := zci_1 (List.mem_of_getElem? (i := 190) rfl) rfl
theorem zw_230 : Cond.fieldLink "SentRoads" 170 "SentRoads$Paper" "bars" "I" ∈ zT := zci_1 (List.mem_of_getElem? (i := 191) rfl) rfl
theorem zw_231 : Cond.fieldLink "SentRoads$World" 127 "SentRoads$Paper" "bars" "I" ∈ zT := zci_1 (List.mem_of_getElem? (i := 192) rfl) rfl
theorem zw_232 : Cond.fieldLink "SentRoads$Paper" 30 "SentRoads$Paper" "age" "I" ∈ zT := zci_1 (List.mem_of_getElem? (i := 193) rfl) rfl
theorem zw_233 : Cond.fieldLink "SentRoads" 173 "SentRoads$Paper" "age" "I" ∈ zT := zci_1 (List.mem_of_getElem? (i := 194) rfl) rfl
theorem zw_234 : Cond.fieldLink "SentRoads$World" 130 "SentRoads$Paper" "age" "I" ∈ zT := zci_1 (List.mem_of_getElem? (i := 195) rfl) rfl
theorem zw_235 : Cond.fieldLink "SentRoads$Paper" 33 "SentRoads$Paper" "promised" "I" ∈ zT := zci_1 (List.mem_of_getElem? (i := 196) rfl) rfl
theorem zw_236 : Cond.fieldLink "SentRoads" 176 "SentRoads$Paper" "promised" "I" ∈ zT := zci_1 (List.mem_of_getElem? (i := 197) rfl) rfl
theorem zw_237 : Cond.fieldLink "SentRoads$Man" 46 "SentRoads$Paper" "open" "I" ∈ zT := zci_1 (List.mem_of_getElem? (i := 198) rfl) rfl
theorem zw_238 : Cond.fieldLink "SentRoads$World" 137 "SentRoads$Paper" "open" "I" ∈ zT := zci_1 (List.mem_of_getElem? (i := 199) rfl) rfl
theorem zw_239 : Cond.fieldLink "SentRoads$Man" 53 "SentRoads$Paper" "deadly" "I" ∈ zT := zci_1 (List.mem_of_getElem? (i := 200) rfl) rfl
theorem zw_240 : Cond.fieldLink "SentRoads$World" 140 "SentRoads$Paper" "deadly" "I" ∈ zT := zci_1 (List.mem_of_getElem? (i := 201) rfl) rfl
theorem zw_264 : Cond.instanceMethod yX2_init ∈ zT := zci_1 (List.mem_of_getElem? (i := 225) rfl) rfl
theorem zw_265 : Cond.code yX2_init cX2_init 1 none ∈ zT := zci_1 (List.mem_of_getElem? (i := 226) rfl) rfl
theorem zw_267 : Cond.fieldLink "SentRoads$Demand" 7 "SentRoads$Demand" "land" "I" ∈ zT := zci_1 (List.mem_of_getElem? (i := 228) rfl) rfl
theorem zw_268 : Cond.fieldLink "SentRoads$World" 73 "SentRoads$Demand" "land" "I" ∈ zT := zci_1 (List.mem_of_getElem? (i := 229) rfl) rfl
theorem zw_269 : Cond.fieldLink "SentRoads$Demand" 13 "SentRoads$Demand" "deeds" "I" ∈ zT := zci_1 (List.mem_of_getElem? (i := 230) rfl) rfl
theorem zw_270 : Cond.fieldLink "SentRoads$World" 76 "SentRoads$Demand" "deeds" "I" ∈ zT := zci_1 (List.mem_of_getElem? (i := 231) rfl) rfl
theorem zw_271 : Cond.fieldLink "SentRoads$Demand" 16 "SentRoads$Demand" "day" "I" ∈ zT := zci_1 (List.mem_of_getElem? (i := 232) rfl) rfl
theorem zw_272 : Cond.fieldLink "SentRoads$World" 78 "SentRoads$Demand" "day" "I" ∈ zT := zci_1 (List.mem_of_getElem? (i := 233) rfl) rfl
theorem zw_273 : Cond.fieldLink "SentRoads$World" 161 "SentRoads$Demand" "standing" "I" ∈ zT := zci_1 (List.mem_of_getElem? (i := 234) rfl) rfl
theorem zw_274 : Cond.fieldLink "SentRoads" 311 "SentRoads$Demand" "standing" "I" ∈ zT := zci_1 (List.mem_of_getElem? (i := 235) rfl) rfl
theorem zw_275 : Cond.fieldLink "SentRoads$Demand" 19 "SentRoads$Demand" "years" "I" ∈ zT := zci_1 (List.mem_of_getElem? (i := 236) rfl) rfl
theorem zw_276 : Cond.fieldLink "SentRoads$World" 164 "SentRoads$Demand" "years" "I" ∈ zT := zci_1 (List.mem_of_getElem? (i := 237) rfl) rfl
theorem zw_277 : Cond.fieldLink "SentRoads$Demand" 22 "SentRoads$Demand" "home" "Z" ∈ zT := zci_1 (List.mem_of_getElem? (i := 238) rfl) rfl
theorem zw_278 : Cond.fieldLink "SentRoads$World" 167 "SentRoads$Demand" "home" "Z" ∈ zT := zci_1 (List.mem_of_getElem? (i := 239) rfl) rfl
theorem zw_292 : Cond.fieldLink "SentRoads$World" 11 "SentRoads$World" "crimes" "[LSentRoads$Crime;" ∈ zT := zci_2 (List.mem_of_getElem? (i := 13) rfl) rfl
theorem zw_293 : Cond.fieldLink "SentRoads" 54 "SentRoads$World" "crimes" "[LSentRoads$Crime;" ∈ zT := zci_2 (List.mem_of_getElem? (i := 14) rfl) rfl
theorem zw_294 : Cond.fieldLink "SentRoads$World" 19 "SentRoads$World" "deeds" "[LSentRoads$Deed;" ∈ zT := zci_2 (List.mem_of_getElem? (i := 15) rfl) rfl
theorem zw_295 : Cond.fieldLink "SentRoads" 74 "SentRoads$World" "deeds" "[LSentRoads$Deed;" ∈ zT := zci_2 (List.mem_of_getElem? (i := 16) rfl) rfl
theorem zw_296 : Cond.fieldLink "SentRoads$Roads" 111 "SentRoads$World" "deeds" "[LSentRoads$Deed;" ∈ zT := zci_2 (List.mem_of_getElem? (i := 17) rfl) rfl
theorem zw_297 : Cond.fieldLink "SentRoads$World" 25 "SentRoads$World" "papers" "[LSentRoads$Paper;" ∈ zT := zci_2 (List.mem_of_getElem? (i := 18) rfl) rfl
theorem zw_298 : Cond.fieldLink "SentRoads" 90 "SentRoads$World" "papers" "[LSentRoads$Paper;" ∈ zT := zci_2 (List.mem_of_getElem? (i := 19) rfl) rfl
theorem zw_299 : Cond.fieldLink "SentRoads$Roads" 68 "SentRoads$World" "papers" "[LSentRoads$Paper;" ∈ zT := zci_2 (List.mem_of_getElem? (i := 20) rfl) rfl
theorem zw_300 : Cond.fieldLink "SentRoads$World" 31 "SentRoads$World" "demands" "[LSentRoads$Demand;" ∈ zT := zci_2 (List.mem_of_getElem? (i := 21) rfl) rfl
theorem zw_301 : Cond.fieldLink "SentRoads" 300 "SentRoads$World" "demands" "[LSentRoads$Demand;" ∈ zT := zci_2 (List.mem_of_getElem? (i := 22) rfl) rfl
theorem zw_302 : Cond.fieldLink "SentRoads$World" 38 "SentRoads$World" "man" "LSentRoads$Man;" ∈ zT := zci_2 (List.mem_of_getElem? (i := 23) rfl) rfl
theorem zw_303 : Cond.fieldLink "SentRoads$Roads" 61 "SentRoads$World" "man" "LSentRoads$Man;" ∈ zT := zci_2 (List.mem_of_getElem? (i := 24) rfl) rfl
theorem zw_304 : Cond.fieldLink "SentRoads" 220 "SentRoads$World" "man" "LSentRoads$Man;" ∈ zT := zci_2 (List.mem_of_getElem? (i := 25) rfl) rfl
theorem zw_305 : Cond.fieldLink "SentRoads$World" 46 "SentRoads$World" "crimeCount" "I" ∈ zT := zci_2 (List.mem_of_getElem? (i := 26) rfl) rfl
theorem zw_306 : Cond.fieldLink "SentRoads" 50 "SentRoads$World" "crimeCount" "I" ∈ zT := zci_2 (List.mem_of_getElem? (i := 27) rfl) rfl
theorem zw_307 : Cond.fieldLink "SentRoads$World" 54 "SentRoads$World" "deedCount" "I" ∈ zT := zci_2 (List.mem_of_getElem? (i := 28) rfl) rfl
theorem zw_308 : Cond.fieldLink "SentRoads" 71 "SentRoads$World" "deedCount" "I" ∈ zT := zci_2 (List.mem_of_getElem? (i := 29) rfl) rfl
theorem zw_309 : Cond.fieldLink "SentRoads$World" 64 "SentRoads$World" "paperCount" "I" ∈ zT := zci_2 (List.mem_of_getElem? (i := 30) rfl) rfl
theorem zw_310 : Cond.fieldLink "SentRoads$Roads" 76 "SentRoads$World" "paperCount" "I" ∈ zT := zci_2 (List.mem_of_getElem? (i := 31) rfl) rfl
theorem zw_311 : Cond.fieldLink "SentRoads" 119 "SentRoads$World" "paperCount" "I" ∈ zT := zci_2 (List.mem_of_getElem? (i := 32) rfl) rfl
theorem zw_312 : Cond.fieldLink "SentRoads$World" 70 "SentRoads$World" "demandCount" "I" ∈ zT := zci_2 (List.mem_of_getElem? (i := 33) rfl) rfl
theorem zw_313 : Cond.fieldLink "SentRoads" 217 "SentRoads$World" "demandCount" "I" ∈ zT := zci_2 (List.mem_of_getElem? (i := 34) rfl) rfl
theorem zw_335 : Cond.methodLink "SentRoads" 21 yX5_init ∈ zT := zci_2 (List.mem_of_getElem? (i := 56) rfl) rfl
theorem zw_336 : Cond.instanceMethod yX5_init ∈ zT := zci_2 (List.mem_of_getElem? (i := 57) rfl) rfl
theorem zw_337 : Cond.code yX5_init cX5_init 2 none ∈ zT := zci_2 (List.mem_of_getElem? (i := 58) rfl) rfl
theorem zw_341 : Cond.fieldLink "SentRoads$Roads" 31 "SentRoads$Roads" "world" "LSentRoads$World;" ∈ zT := zci_2 (List.mem_of_getElem? (i := 62) rfl) rfl
theorem zw_342 : Cond.fieldLink "SentRoads$Roads" 12 "SentRoads$Roads" "walker" "LSentRoads$Man;" ∈ zT := zci_2 (List.mem_of_getElem? (i := 63) rfl) rfl
theorem zw_343 : Cond.fieldLink "SentRoads$Roads" 18 "SentRoads$Roads" "seenIn" "[I" ∈ zT := zci_2 (List.mem_of_getElem? (i := 64) rfl) rfl
theorem zw_344 : Cond.fieldLink "SentRoads$Roads" 22 "SentRoads$Roads" "steps" "[I" ∈ zT := zci_2 (List.mem_of_getElem? (i := 65) rfl) rfl
theorem zw_345 : Cond.fieldLink "SentRoads$Roads" 25 "SentRoads$Roads" "comesFrom" "[I" ∈ zT := zci_2 (List.mem_of_getElem? (i := 66) rfl) rfl
theorem zw_346 : Cond.fieldLink "SentRoads$Roads" 28 "SentRoads$Roads" "fewest" "[I" ∈ zT := zci_2 (List.mem_of_getElem? (i := 67) rfl) rfl
theorem zw_347 : Cond.fieldLink "SentRoads$Roads" 38 "SentRoads$Roads" "stepCount" "I" ∈ zT := zci_2 (List.mem_of_getElem? (i := 68) rfl) rfl
theorem zw_348 : Cond.fieldLink "SentRoads$Roads" 58 "SentRoads$Roads" "search" "I" ∈ zT := zci_2 (List.mem_of_getElem? (i := 69) rfl) rfl
theorem zw_368 : Cond.methodLink "SentRoads" 30 yX7_init ∈ zT := zci_2 (List.mem_of_getElem? (i := 89) rfl) rfl
theorem zw_369 : Cond.instanceMethod yX7_init ∈ zT := zci_2 (List.mem_of_getElem? (i := 90) rfl) rfl
theorem zw_370 : Cond.code yX7_init cX7_init 2 none ∈ zT := zci_2 (List.mem_of_getElem? (i := 91) rfl) rfl
theorem zw_376 : Cond.fieldLink "SentRoads$Tape" 9 "SentRoads$Tape" "bytes" "[C" ∈ zT := zci_2 (List.mem_of_getElem? (i := 97) rfl) rfl
theorem zw_377 : Cond.fieldLink "SentRoads$Tape" 17 "SentRoads$Tape" "crimes" "[LSentRoads$Crime;" ∈ zT := zci_2 (List.mem_of_getElem? (i := 98) rfl) rfl
theorem zw_378 : Cond.fieldLink "SentRoads" 123 "SentRoads$Tape" "crimes" "[LSentRoads$Crime;" ∈ zT := zci_2 (List.mem_of_getElem? (i := 99) rfl) rfl
theorem zw_379 : Cond.fieldLink "SentRoads$Tape" 23 "SentRoads$Tape" "papers" "[LSentRoads$Paper;" ∈ zT := zci_2 (List.mem_of_getElem? (i := 100) rfl) rfl
theorem zw_380 : Cond.fieldLink "SentRoads" 128 "SentRoads$Tape" "papers" "[LSentRoads$Paper;" ∈ zT := zci_2 (List.mem_of_getElem? (i := 101) rfl) rfl
theorem zw_381 : Cond.fieldLink "SentRoads$Tape" 29 "SentRoads$Tape" "length" "I" ∈ zT := zci_2 (List.mem_of_getElem? (i := 102) rfl) rfl
theorem zw_382 : Cond.fieldLink "SentRoads" 108 "SentRoads$Tape" "length" "I" ∈ zT := zci_2 (List.mem_of_getElem? (i := 103) rfl) rfl
theorem zw_383 : Cond.fieldLink "SentRoads$Tape" 39 "SentRoads$Tape" "crimeCount" "I" ∈ zT := zci_2 (List.mem_of_getElem? (i := 104) rfl) rfl
theorem zw_384 : Cond.fieldLink "SentRoads" 118 "SentRoads$Tape" "crimeCount" "I" ∈ zT := zci_2 (List.mem_of_getElem? (i := 105) rfl) rfl
theorem zw_385 : Cond.fieldLink "SentRoads$Tape" 42 "SentRoads$Tape" "paperCount" "I" ∈ zT := zci_2 (List.mem_of_getElem? (i := 106) rfl) rfl
theorem zw_386 : Cond.fieldLink "SentRoads" 122 "SentRoads$Tape" "paperCount" "I" ∈ zT := zci_2 (List.mem_of_getElem? (i := 107) rfl) rfl
theorem zw_387 : Cond.fieldLink "SentRoads$Tape" 33 "SentRoads$Tape" "place" "I" ∈ zT := zci_2 (List.mem_of_getElem? (i := 108) rfl) rfl
theorem zw_388 : Cond.fieldLink "SentRoads$Tape" 36 "SentRoads$Tape" "fault" "I" ∈ zT := zci_2 (List.mem_of_getElem? (i := 109) rfl) rfl
theorem zw_411 : Cond.instanceMethod yX6_init ∈ zT := zci_2 (List.mem_of_getElem? (i := 132) rfl) rfl
theorem zw_412 : Cond.code yX6_init cX6_init 1 none ∈ zT := zci_2 (List.mem_of_getElem? (i := 133) rfl) rfl
theorem zw_414 : Cond.fieldLink "SentRoads$Sheet" 9 "SentRoads$Sheet" "items" "[I" ∈ zT := zci_2 (List.mem_of_getElem? (i := 135) rfl) rfl
theorem zw_415 : Cond.fieldLink "SentRoads$Sheet" 15 "SentRoads$Sheet" "lane" "I" ∈ zT := zci_2 (List.mem_of_getElem? (i := 136) rfl) rfl
theorem zw_416 : Cond.fieldLink "SentRoads" 336 "SentRoads$Sheet" "lane" "I" ∈ zT := zci_2 (List.mem_of_getElem? (i := 137) rfl) rfl
theorem zw_417 : Cond.fieldLink "SentRoads$Sheet" 19 "SentRoads$Sheet" "size" "I" ∈ zT := zci_2 (List.mem_of_getElem? (i := 138) rfl) rfl
theorem zw_418 : Cond.fieldLink "SentRoads" 204 "SentRoads$Sheet" "size" "I" ∈ zT := zci_2 (List.mem_of_getElem? (i := 139) rfl) rfl
theorem zw_426 : Cond.fieldLink "SentRoads" 10 "SentRoads" "now" "LSentRoads$World;" ∈ zT := zci_2 (List.mem_of_getElem? (i := 147) rfl) rfl
theorem zw_427 : Cond.fieldLink "SentRoads" 16 "SentRoads" "kept" "LSentRoads$World;" ∈ zT := zci_2 (List.mem_of_getElem? (i := 148) rfl) rfl
theorem zw_428 : Cond.fieldLink "SentRoads" 24 "SentRoads" "roads" "LSentRoads$Roads;" ∈ zT := zci_2 (List.mem_of_getElem? (i := 149) rfl) rfl
theorem zw_429 : Cond.fieldLink "SentRoads" 31 "SentRoads" "tape" "LSentRoads$Tape;" ∈ zT := zci_2 (List.mem_of_getElem? (i := 150) rfl) rfl
theorem zw_430 : Cond.fieldLink "SentRoads" 37 "SentRoads" "sheets" "[LSentRoads$Sheet;" ∈ zT := zci_2 (List.mem_of_getElem? (i := 151) rfl) rfl
theorem zw_431 : Cond.fieldLink "SentRoads" 42 "SentRoads" "hasImage" "Z" ∈ zT := zci_2 (List.mem_of_getElem? (i := 152) rfl) rfl
theorem zw_445 : Cond.methodLink "SentRoadsLaw" 13 yX9_crime ∈ zT := zci_2 (List.mem_of_getElem? (i := 166) rfl) rfl
theorem zw_446 : Cond.instanceMethod yX9_crime ∈ zT := zci_2 (List.mem_of_getElem? (i := 167) rfl) rfl
theorem zw_447 : Cond.selects "SentRoads" yX9_crime yX9_crime ∈ zT := zci_2 (List.mem_of_getElem? (i := 168) rfl) rfl
theorem zw_448 : Cond.code yX9_crime cX9_crime 7 (some .int) ∈ zT := zci_2 (List.mem_of_getElem? (i := 169) rfl) rfl
theorem zw_449 : Cond.methodLink "SentRoads" 46 yX9_isLand ∈ zT := zci_2 (List.mem_of_getElem? (i := 170) rfl) rfl
theorem zw_450 : Cond.static yX9_isLand ∈ zT := zci_2 (List.mem_of_getElem? (i := 171) rfl) rfl
theorem zw_451 : Cond.code yX9_isLand cX9_isLand 1 (some .boolean) ∈ zT := zci_2 (List.mem_of_getElem? (i := 172) rfl) rfl
theorem zw_452 : Cond.methodLink "SentRoads" 58 yX0_tell ∈ zT := zci_2 (List.mem_of_getElem? (i := 173) rfl) rfl
theorem zw_453 : Cond.instanceMethod yX0_tell ∈ zT := zci_2 (List.mem_of_getElem? (i := 174) rfl) rfl
theorem zw_454 : Cond.selects "SentRoads$Crime" yX0_tell yX0_tell ∈ zT := zci_2 (List.mem_of_getElem? (i := 175) rfl) rfl
theorem zw_455 : Cond.code yX0_tell cX0_tell 7 none ∈ zT := zci_2 (List.mem_of_getElem? (i := 176) rfl) rfl
theorem zw_456 : Cond.methodLink "SentRoads" 64 yX8_takeCrime ∈ zT := zci_2 (List.mem_of_getElem? (i := 177) rfl) rfl
theorem zw_457 : Cond.instanceMethod yX8_takeCrime ∈ zT := zci_2 (List.mem_of_getElem? (i := 178) rfl) rfl
theorem zw_458 : Cond.selects "SentRoads$World" yX8_takeCrime yX8_takeCrime ∈ zT := zci_2 (List.mem_of_getElem? (i := 179) rfl) rfl
theorem zw_459 : Cond.code yX8_takeCrime cX8_takeCrime 2 (some .int) ∈ zT := zci_2 (List.mem_of_getElem? (i := 180) rfl) rfl
theorem zw_460 : Cond.methodLink "SentRoads$World" 88 yX1_learn ∈ zT := zci_2 (List.mem_of_getElem? (i := 181) rfl) rfl
theorem zw_461 : Cond.instanceMethod yX1_learn ∈ zT := zci_2 (List.mem_of_getElem? (i := 182) rfl) rfl
theorem zw_462 : Cond.selects "SentRoads$Deed" yX1_learn yX1_learn ∈ zT := zci_2 (List.mem_of_getElem? (i := 183) rfl) rfl
theorem zw_463 : Cond.code yX1_learn cX1_learn 4 none ∈ zT := zci_2 (List.mem_of_getElem? (i := 184) rfl) rfl
theorem zw_464 : Cond.methodLink "SentRoads$Deed" 57 yX0_isMarks ∈ zT := zci_2 (List.mem_of_getElem? (i := 185) rfl) rfl
theorem zw_465 : Cond.instanceMethod yX0_isMarks ∈ zT := zci_2 (List.mem_of_getElem? (i := 186) rfl) rfl
theorem zw_466 : Cond.selects "SentRoads$Crime" yX0_isMarks yX0_isMarks ∈ zT := zci_2 (List.mem_of_getElem? (i := 187) rfl) rfl
theorem zw_467 : Cond.code yX0_isMarks cX0_isMarks 2 (some .boolean) ∈ zT := zci_2 (List.mem_of_getElem? (i := 188) rfl) rfl
theorem zw_468 : Cond.methodLink "SentRoads$Deed" 64 yJ9_max_7cf53 ∈ zT := zci_2 (List.mem_of_getElem? (i := 189) rfl) rfl
theorem zw_469 : Cond.static yJ9_max_7cf53 ∈ zT := zci_2 (List.mem_of_getElem? (i := 190) rfl) rfl
theorem zw_470 : Cond.code yJ9_max_7cf53 cJ9_max_7cf53 2 (some .int) ∈ zT := zci_2 (List.mem_of_getElem? (i := 191) rfl) rfl
theorem zw_471 : Cond.methodLink "SentRoadsLaw" 18 yX9_deed ∈ zT := zci_2 (List.mem_of_getElem? (i := 192) rfl) rfl
theorem zw_472 : Cond.instanceMethod yX9_deed ∈ zT := zci_2 (List.mem_of_getElem? (i := 193) rfl) rfl
theorem zw_473 : Cond.selects "SentRoads" yX9_deed yX9_deed ∈ zT := zci_2 (List.mem_of_getElem? (i := 194) rfl) rfl
theorem zw_474 : Cond.code yX9_deed cX9_deed 5 (some .int) ∈ zT := zci_2 (List.mem_of_getElem? (i := 195) rfl) rfl
theorem zw_475 : Cond.methodLink "SentRoads" 68 yX9_isYear ∈ zT := zci_2 (List.mem_of_getElem? (i := 196) rfl) rfl
theorem zw_476 : Cond.static yX9_isYear ∈ zT := zci_2 (List.mem_of_getElem? (i := 197) rfl) rfl
theorem zw_477 : Cond.code yX9_isYear cX9_isYear 1 (some .boolean) ∈ zT := zci_2 (List.mem_of_getElem? (i := 198) rfl) rfl
theorem zw_478 : Cond.methodLink "SentRoads" 78 yX1_tell ∈ zT := zci_2 (List.mem_of_getElem? (i := 199) rfl) rfl
theorem zw_479 : Cond.instanceMethod yX1_tell ∈ zT := zci_2 (List.mem_of_getElem? (i := 200) rfl) rfl
theorem zw_480 : Cond.selects "SentRoads$Deed" yX1_tell yX1_tell ∈ zT := zci_2 (List.mem_of_getElem? (i := 201) rfl) rfl
theorem zw_481 : Cond.code yX1_tell cX1_tell 5 none ∈ zT := zci_2 (List.mem_of_getElem? (i := 202) rfl) rfl
theorem zw_482 : Cond.methodLink "SentRoads" 83 yX8_takeDeed ∈ zT := zci_2 (List.mem_of_getElem? (i := 203) rfl) rfl
theorem zw_483 : Cond.instanceMethod yX8_takeDeed ∈ zT := zci_2 (List.mem_of_getElem? (i := 204) rfl) rfl
theorem zw_484 : Cond.selects "SentRoads$World" yX8_takeDeed yX8_takeDeed ∈ zT := zci_2 (List.mem_of_getElem? (i := 205) rfl) rfl
theorem zw_485 : Cond.code yX8_takeDeed cX8_takeDeed 1 (some .int) ∈ zT := zci_2 (List.mem_of_getElem? (i := 206) rfl) rfl
theorem zw_486 : Cond.methodLink "SentRoads$World" 60 yX8_learnAgain ∈ zT := zci_2 (List.mem_of_getElem? (i := 207) rfl) rfl
theorem zw_487 : Cond.instanceMethod yX8_learnAgain ∈ zT := zci_2 (List.mem_of_getElem? (i := 208) rfl) rfl
theorem zw_488 : Cond.selects "SentRoads$World" yX8_learnAgain yX8_learnAgain ∈ zT := zci_2 (List.mem_of_getElem? (i := 209) rfl) rfl
theorem zw_489 : Cond.code yX8_learnAgain cX8_learnAgain 3 none ∈ zT := zci_2 (List.mem_of_getElem? (i := 210) rfl) rfl
theorem zw_490 : Cond.methodLink "SentRoads$World" 92 yX1_forget ∈ zT := zci_2 (List.mem_of_getElem? (i := 211) rfl) rfl
theorem zw_491 : Cond.instanceMethod yX1_forget ∈ zT := zci_2 (List.mem_of_getElem? (i := 212) rfl) rfl
theorem zw_492 : Cond.selects "SentRoads$Deed" yX1_forget yX1_forget ∈ zT := zci_2 (List.mem_of_getElem? (i := 213) rfl) rfl
theorem zw_493 : Cond.code yX1_forget cX1_forget 1 none ∈ zT := zci_2 (List.mem_of_getElem? (i := 214) rfl) rfl
theorem zw_494 : Cond.methodLink "SentRoads$Deed" 48 yJ7_fill_53178 ∈ zT := zci_2 (List.mem_of_getElem? (i := 215) rfl) rfl
theorem zw_495 : Cond.static yJ7_fill_53178 ∈ zT := zci_2 (List.mem_of_getElem? (i := 216) rfl) rfl
theorem zw_496 : Cond.code yJ7_fill_53178 cJ7_fill_53178 4 none ∈ zT := zci_2 (List.mem_of_getElem? (i := 217) rfl) rfl
theorem zw_497 : Cond.methodLink "SentRoadsLaw" 23 yX9_years ∈ zT := zci_2 (List.mem_of_getElem? (i := 218) rfl) rfl
theorem zw_498 : Cond.instanceMethod yX9_years ∈ zT := zci_2 (List.mem_of_getElem? (i := 219) rfl) rfl
theorem zw_499 : Cond.selects "SentRoads" yX9_years yX9_years ∈ zT := zci_2 (List.mem_of_getElem? (i := 220) rfl) rfl
theorem zw_500 : Cond.code yX9_years cX9_years 8 (some .int) ∈ zT := zci_2 (List.mem_of_getElem? (i := 221) rfl) rfl
theorem zw_501 : Cond.methodLink "SentRoads" 86 yX9_addPaper ∈ zT := zci_2 (List.mem_of_getElem? (i := 222) rfl) rfl
theorem zw_503 : Cond.instanceMethod yX9_addPaper ∈ zT := zci_2 (List.mem_of_getElem? (i := 224) rfl) rfl
theorem zw_504 : Cond.code yX9_addPaper cX9_addPaper 7 (some .int) ∈ zT := zci_2 (List.mem_of_getElem? (i := 225) rfl) rfl
theorem zw_505 : Cond.methodLink "SentRoads" 342 yX4_lead ∈ zT := zci_2 (List.mem_of_getElem? (i := 226) rfl) rfl
theorem zw_506 : Cond.instanceMethod yX4_lead ∈ zT := zci_2 (List.mem_of_getElem? (i := 227) rfl) rfl
theorem zw_507 : Cond.selects "SentRoads$Paper" yX4_lead yX4_lead ∈ zT := zci_2 (List.mem_of_getElem? (i := 228) rfl) rfl
theorem zw_508 : Cond.code yX4_lead cX4_lead 3 none ∈ zT := zci_2 (List.mem_of_getElem? (i := 229) rfl) rfl
theorem zw_509 : Cond.methodLink "SentRoads" 345 yX4_rule ∈ zT := zci_2 (List.mem_of_getElem? (i := 230) rfl) rfl
theorem zw_510 : Cond.instanceMethod yX4_rule ∈ zT := zci_2 (List.mem_of_getElem? (i := 231) rfl) rfl
theorem zw_511 : Cond.selects "SentRoads$Paper" yX4_rule yX4_rule ∈ zT := zci_2 (List.mem_of_getElem? (i := 232) rfl) rfl
theorem zw_512 : Cond.code yX4_rule cX4_rule 4 none ∈ zT := zci_2 (List.mem_of_getElem? (i := 233) rfl) rfl
theorem zw_513 : Cond.methodLink "SentRoads" 132 yX8_takePaper ∈ zT := zci_2 (List.mem_of_getElem? (i := 234) rfl) rfl
theorem zw_514 : Cond.instanceMethod yX8_takePaper ∈ zT := zci_2 (List.mem_of_getElem? (i := 235) rfl) rfl
theorem zw_515 : Cond.selects "SentRoads$World" yX8_takePaper yX8_takePaper ∈ zT := zci_2 (List.mem_of_getElem? (i := 236) rfl) rfl
theorem zw_516 : Cond.code yX8_takePaper cX8_takePaper 1 (some .int) ∈ zT := zci_2 (List.mem_of_getElem? (i := 237) rfl) rfl
theorem zw_517 : Cond.methodLink "SentRoads" 94 yX4_become ∈ zT := zci_2 (List.mem_of_getElem? (i := 238) rfl) rfl
theorem zw_518 : Cond.instanceMethod yX4_become ∈ zT := zci_2 (List.mem_of_getElem? (i := 239) rfl) rfl
theorem zw_519 : Cond.selects "SentRoads$Paper" yX4_become yX4_become ∈ zT := zci_3 (List.mem_of_getElem? (i := 0) rfl) rfl
theorem zw_520 : Cond.code yX4_become cX4_become 4 none ∈ zT := zci_3 (List.mem_of_getElem? (i := 1) rfl) rfl
theorem zw_521 : Cond.methodLink "SentRoadsLaw" 28 yX9_named ∈ zT := zci_3 (List.mem_of_getElem? (i := 2) rfl) rfl
theorem zw_522 : Cond.instanceMethod yX9_named ∈ zT := zci_3 (List.mem_of_getElem? (i := 3) rfl) rfl
theorem zw_523 : Cond.selects "SentRoads" yX9_named yX9_named ∈ zT := zci_3 (List.mem_of_getElem? (i := 4) rfl) rfl
theorem zw_524 : Cond.code yX9_named cX9_named 8 (some .int) ∈ zT := zci_3 (List.mem_of_getElem? (i := 5) rfl) rfl
theorem zw_525 : Cond.methodLink "SentRoads" 100 yX8_crimesOf ∈ zT := zci_3 (List.mem_of_getElem? (i := 6) rfl) rfl
theorem zw_526 : Cond.instanceMethod yX8_crimesOf ∈ zT := zci_3 (List.mem_of_getElem? (i := 7) rfl) rfl
theorem zw_527 : Cond.selects "SentRoads$World" yX8_crimesOf yX8_crimesOf ∈ zT := zci_3 (List.mem_of_getElem? (i := 8) rfl) rfl
theorem zw_528 : Cond.code yX8_crimesOf cX8_crimesOf 4 (some .int) ∈ zT := zci_3 (List.mem_of_getElem? (i := 9) rfl) rfl
theorem zw_529 : Cond.methodLink "SentRoadsLaw" 32 yX9_custom ∈ zT := zci_3 (List.mem_of_getElem? (i := 10) rfl) rfl
theorem zw_530 : Cond.instanceMethod yX9_custom ∈ zT := zci_3 (List.mem_of_getElem? (i := 11) rfl) rfl
theorem zw_531 : Cond.selects "SentRoads" yX9_custom yX9_custom ∈ zT := zci_3 (List.mem_of_getElem? (i := 12) rfl) rfl
theorem zw_532 : Cond.code yX9_custom cX9_custom 7 (some .int) ∈ zT := zci_3 (List.mem_of_getElem? (i := 13) rfl) rfl
theorem zw_533 : Cond.methodLink "SentRoadsLaw" 39 yX9_type ∈ zT := zci_3 (List.mem_of_getElem? (i := 14) rfl) rfl
theorem zw_534 : Cond.instanceMethod yX9_type ∈ zT := zci_3 (List.mem_of_getElem? (i := 15) rfl) rfl
theorem zw_535 : Cond.selects "SentRoads" yX9_type yX9_type ∈ zT := zci_3 (List.mem_of_getElem? (i := 16) rfl) rfl
theorem zw_536 : Cond.code yX9_type cX9_type 6 (some .int) ∈ zT := zci_3 (List.mem_of_getElem? (i := 17) rfl) rfl
theorem zw_537 : Cond.methodLink "SentRoads" 104 yX9_byteOf ∈ zT := zci_3 (List.mem_of_getElem? (i := 18) rfl) rfl
theorem zw_538 : Cond.static yX9_byteOf ∈ zT := zci_3 (List.mem_of_getElem? (i := 19) rfl) rfl
theorem zw_539 : Cond.code yX9_byteOf cX9_byteOf 3 (some .int) ∈ zT := zci_3 (List.mem_of_getElem? (i := 20) rfl) rfl
theorem zw_540 : Cond.methodLink "SentRoads" 111 yX7_write ∈ zT := zci_3 (List.mem_of_getElem? (i := 21) rfl) rfl
theorem zw_541 : Cond.instanceMethod yX7_write ∈ zT := zci_3 (List.mem_of_getElem? (i := 22) rfl) rfl
theorem zw_542 : Cond.selects "SentRoads$Tape" yX7_write yX7_write ∈ zT := zci_3 (List.mem_of_getElem? (i := 23) rfl) rfl
theorem zw_543 : Cond.code yX7_write cX7_write 2 none ∈ zT := zci_3 (List.mem_of_getElem? (i := 24) rfl) rfl
theorem zw_544 : Cond.methodLink "SentRoadsLaw" 44 yX9_world ∈ zT := zci_3 (List.mem_of_getElem? (i := 25) rfl) rfl
theorem zw_545 : Cond.instanceMethod yX9_world ∈ zT := zci_3 (List.mem_of_getElem? (i := 26) rfl) rfl
theorem zw_546 : Cond.selects "SentRoads" yX9_world yX9_world ∈ zT := zci_3 (List.mem_of_getElem? (i := 27) rfl) rfl
theorem zw_547 : Cond.code yX9_world cX9_world 3 (some .int) ∈ zT := zci_3 (List.mem_of_getElem? (i := 28) rfl) rfl
theorem zw_548 : Cond.methodLink "SentRoads" 115 yX7_parse ∈ zT := zci_3 (List.mem_of_getElem? (i := 29) rfl) rfl
theorem zw_549 : Cond.instanceMethod yX7_parse ∈ zT := zci_3 (List.mem_of_getElem? (i := 30) rfl) rfl
theorem zw_550 : Cond.selects "SentRoads$Tape" yX7_parse yX7_parse ∈ zT := zci_3 (List.mem_of_getElem? (i := 31) rfl) rfl
theorem zw_551 : Cond.code yX7_parse cX7_parse 2 (some .int) ∈ zT := zci_3 (List.mem_of_getElem? (i := 32) rfl) rfl
theorem zw_552 : Cond.methodLink "SentRoads$Tape" 45 yX7_readClause ∈ zT := zci_3 (List.mem_of_getElem? (i := 33) rfl) rfl
theorem zw_553 : Cond.instanceMethod yX7_readClause ∈ zT := zci_3 (List.mem_of_getElem? (i := 34) rfl) rfl
theorem zw_554 : Cond.selects "SentRoads$Tape" yX7_readClause yX7_readClause ∈ zT := zci_3 (List.mem_of_getElem? (i := 35) rfl) rfl
theorem zw_555 : Cond.code yX7_readClause cX7_readClause 2 none ∈ zT := zci_3 (List.mem_of_getElem? (i := 36) rfl) rfl
theorem zw_556 : Cond.methodLink "SentRoads$Tape" 60 yX7_readLand ∈ zT := zci_3 (List.mem_of_getElem? (i := 37) rfl) rfl
theorem zw_557 : Cond.instanceMethod yX7_readLand ∈ zT := zci_3 (List.mem_of_getElem? (i := 38) rfl) rfl
theorem zw_558 : Cond.selects "SentRoads$Tape" yX7_readLand yX7_readLand ∈ zT := zci_3 (List.mem_of_getElem? (i := 39) rfl) rfl
theorem zw_559 : Cond.code yX7_readLand cX7_readLand 3 (some .int) ∈ zT := zci_3 (List.mem_of_getElem? (i := 40) rfl) rfl
theorem zw_560 : Cond.methodLink "SentRoads$Tape" 52 yX7_next ∈ zT := zci_3 (List.mem_of_getElem? (i := 41) rfl) rfl
theorem zw_561 : Cond.instanceMethod yX7_next ∈ zT := zci_3 (List.mem_of_getElem? (i := 42) rfl) rfl
theorem zw_562 : Cond.selects "SentRoads$Tape" yX7_next yX7_next ∈ zT := zci_3 (List.mem_of_getElem? (i := 43) rfl) rfl
theorem zw_563 : Cond.code yX7_next cX7_next 1 (some .int) ∈ zT := zci_3 (List.mem_of_getElem? (i := 44) rfl) rfl
theorem zw_565 : Cond.methodLink "SentRoads$Tape" 56 yX7_fail ∈ zT := zci_3 (List.mem_of_getElem? (i := 46) rfl) rfl
theorem zw_566 : Cond.instanceMethod yX7_fail ∈ zT := zci_3 (List.mem_of_getElem? (i := 47) rfl) rfl
theorem zw_567 : Cond.selects "SentRoads$Tape" yX7_fail yX7_fail ∈ zT := zci_3 (List.mem_of_getElem? (i := 48) rfl) rfl
theorem zw_568 : Cond.code yX7_fail cX7_fail 2 none ∈ zT := zci_3 (List.mem_of_getElem? (i := 49) rfl) rfl
theorem zw_569 : Cond.methodLink "SentRoads$Tape" 48 yX7_takes ∈ zT := zci_3 (List.mem_of_getElem? (i := 50) rfl) rfl
theorem zw_570 : Cond.instanceMethod yX7_takes ∈ zT := zci_3 (List.mem_of_getElem? (i := 51) rfl) rfl
theorem zw_571 : Cond.selects "SentRoads$Tape" yX7_takes yX7_takes ∈ zT := zci_3 (List.mem_of_getElem? (i := 52) rfl) rfl
theorem zw_572 : Cond.code yX7_takes cX7_takes 3 (some .boolean) ∈ zT := zci_3 (List.mem_of_getElem? (i := 53) rfl) rfl
theorem zw_573 : Cond.methodLink "SentRoads$Tape" 64 yX7_readCrime ∈ zT := zci_3 (List.mem_of_getElem? (i := 54) rfl) rfl
theorem zw_574 : Cond.instanceMethod yX7_readCrime ∈ zT := zci_3 (List.mem_of_getElem? (i := 55) rfl) rfl
theorem zw_575 : Cond.selects "SentRoads$Tape" yX7_readCrime yX7_readCrime ∈ zT := zci_3 (List.mem_of_getElem? (i := 56) rfl) rfl
theorem zw_576 : Cond.code yX7_readCrime cX7_readCrime 7 none ∈ zT := zci_3 (List.mem_of_getElem? (i := 57) rfl) rfl
theorem zw_577 : Cond.methodLink "SentRoads$Tape" 70 yX7_readMarks ∈ zT := zci_3 (List.mem_of_getElem? (i := 58) rfl) rfl
theorem zw_578 : Cond.instanceMethod yX7_readMarks ∈ zT := zci_3 (List.mem_of_getElem? (i := 59) rfl) rfl
theorem zw_579 : Cond.selects "SentRoads$Tape" yX7_readMarks yX7_readMarks ∈ zT := zci_3 (List.mem_of_getElem? (i := 60) rfl) rfl
theorem zw_580 : Cond.code yX7_readMarks cX7_readMarks 6 (some .int) ∈ zT := zci_3 (List.mem_of_getElem? (i := 61) rfl) rfl
theorem zw_581 : Cond.methodLink "SentRoads$Tape" 73 yX7_readNumber ∈ zT := zci_3 (List.mem_of_getElem? (i := 62) rfl) rfl
theorem zw_582 : Cond.instanceMethod yX7_readNumber ∈ zT := zci_3 (List.mem_of_getElem? (i := 63) rfl) rfl
theorem zw_583 : Cond.selects "SentRoads$Tape" yX7_readNumber yX7_readNumber ∈ zT := zci_3 (List.mem_of_getElem? (i := 64) rfl) rfl
theorem zw_584 : Cond.code yX7_readNumber cX7_readNumber 5 (some .int) ∈ zT := zci_3 (List.mem_of_getElem? (i := 65) rfl) rfl
theorem zw_585 : Cond.methodLink "SentRoads$Tape" 112 yJ9_min_7cf53 ∈ zT := zci_3 (List.mem_of_getElem? (i := 66) rfl) rfl
theorem zw_586 : Cond.static yJ9_min_7cf53 ∈ zT := zci_3 (List.mem_of_getElem? (i := 67) rfl) rfl
theorem zw_587 : Cond.code yJ9_min_7cf53 cJ9_min_7cf53 2 (some .int) ∈ zT := zci_3 (List.mem_of_getElem? (i := 68) rfl) rfl
theorem zw_588 : Cond.methodLink "SentRoads$Tape" 77 yX7_need ∈ zT := zci_3 (List.mem_of_getElem? (i := 69) rfl) rfl
theorem zw_589 : Cond.instanceMethod yX7_need ∈ zT := zci_3 (List.mem_of_getElem? (i := 70) rfl) rfl
theorem zw_590 : Cond.selects "SentRoads$Tape" yX7_need yX7_need ∈ zT := zci_3 (List.mem_of_getElem? (i := 71) rfl) rfl
theorem zw_591 : Cond.code yX7_need cX7_need 2 none ∈ zT := zci_3 (List.mem_of_getElem? (i := 72) rfl) rfl
theorem zw_592 : Cond.methodLink "SentRoads$Tape" 80 yJ9_max_7cf53 ∈ zT := zci_3 (List.mem_of_getElem? (i := 73) rfl) rfl
theorem zw_593 : Cond.methodLink "SentRoads$Tape" 85 yX0_tell ∈ zT := zci_3 (List.mem_of_getElem? (i := 74) rfl) rfl
theorem zw_594 : Cond.methodLink "SentRoads$Tape" 67 yX7_readPaper ∈ zT := zci_3 (List.mem_of_getElem? (i := 75) rfl) rfl
theorem zw_595 : Cond.instanceMethod yX7_readPaper ∈ zT := zci_3 (List.mem_of_getElem? (i := 76) rfl) rfl
theorem zw_596 : Cond.selects "SentRoads$Tape" yX7_readPaper yX7_readPaper ∈ zT := zci_3 (List.mem_of_getElem? (i := 77) rfl) rfl
theorem zw_597 : Cond.code yX7_readPaper cX7_readPaper 9 none ∈ zT := zci_3 (List.mem_of_getElem? (i := 78) rfl) rfl
theorem zw_599 : Cond.methodLink "SentRoads$Tape" 91 yX7_readLetters ∈ zT := zci_3 (List.mem_of_getElem? (i := 80) rfl) rfl
theorem zw_600 : Cond.instanceMethod yX7_readLetters ∈ zT := zci_3 (List.mem_of_getElem? (i := 81) rfl) rfl
theorem zw_601 : Cond.selects "SentRoads$Tape" yX7_readLetters yX7_readLetters ∈ zT := zci_3 (List.mem_of_getElem? (i := 82) rfl) rfl
theorem zw_602 : Cond.code yX7_readLetters cX7_readLetters 8 (some .int) ∈ zT := zci_3 (List.mem_of_getElem? (i := 83) rfl) rfl
theorem zw_603 : Cond.methodLink "SentRoads$Tape" 117 yJ0_length_8abf5 ∈ zT := zci_3 (List.mem_of_getElem? (i := 84) rfl) rfl
theorem zw_604 : Cond.instanceMethod yJ0_length_8abf5 ∈ zT := zci_3 (List.mem_of_getElem? (i := 85) rfl) rfl
theorem zw_605 : Cond.selects "java/lang/String" yJ0_length_8abf5 yJ0_length_8abf5 ∈ zT := zci_3 (List.mem_of_getElem? (i := 86) rfl) rfl
theorem zw_606 : Cond.code yJ0_length_8abf5 cJ0_length_8abf5 1 (some .int) ∈ zT := zci_3 (List.mem_of_getElem? (i := 87) rfl) rfl
theorem zw_607 : Cond.methodLink "java/lang/String" 335 yJ0_coder_7d493 ∈ zT := zci_3 (List.mem_of_getElem? (i := 88) rfl) rfl
theorem zw_608 : Cond.instanceMethod yJ0_coder_7d493 ∈ zT := zci_3 (List.mem_of_getElem? (i := 89) rfl) rfl
theorem zw_609 : Cond.selects "java/lang/String" yJ0_coder_7d493 yJ0_coder_7d493 ∈ zT := zci_3 (List.mem_of_getElem? (i := 90) rfl) rfl
theorem zw_610 : Cond.code yJ0_coder_7d493 cJ0_coder_7d493 1 (some .byte) ∈ zT := zci_3 (List.mem_of_getElem? (i := 91) rfl) rfl
theorem zw_611 : Cond.fieldLink "java/lang/String" 38 "java/lang/String" "COMPACT_STRINGS" "Z" ∈ zT := zci_3 (List.mem_of_getElem? (i := 92) rfl) rfl
theorem zw_613 : Cond.methodLink "SentRoads$Tape" 121 yJ0_indexOf_0f7a4 ∈ zT := zci_3 (List.mem_of_getElem? (i := 94) rfl) rfl
theorem zw_614 : Cond.instanceMethod yJ0_indexOf_0f7a4 ∈ zT := zci_3 (List.mem_of_getElem? (i := 95) rfl) rfl
theorem zw_615 : Cond.selects "java/lang/String" yJ0_indexOf_0f7a4 yJ0_indexOf_0f7a4 ∈ zT := zci_3 (List.mem_of_getElem? (i := 96) rfl) rfl
theorem zw_616 : Cond.code yJ0_indexOf_0f7a4 cJ0_indexOf_0f7a4 2 (some .int) ∈ zT := zci_3 (List.mem_of_getElem? (i := 97) rfl) rfl
theorem zw_617 : Cond.methodLink "java/lang/String" 633 yJ0_indexOf_7cf53 ∈ zT := zci_3 (List.mem_of_getElem? (i := 98) rfl) rfl
theorem zw_618 : Cond.instanceMethod yJ0_indexOf_7cf53 ∈ zT := zci_3 (List.mem_of_getElem? (i := 99) rfl) rfl
theorem zw_619 : Cond.selects "java/lang/String" yJ0_indexOf_7cf53 yJ0_indexOf_7cf53 ∈ zT := zci_3 (List.mem_of_getElem? (i := 100) rfl) rfl
theorem zw_620 : Cond.code yJ0_indexOf_7cf53 cJ0_indexOf_7cf53 3 (some .int) ∈ zT := zci_3 (List.mem_of_getElem? (i := 101) rfl) rfl
theorem zw_621 : Cond.methodLink "java/lang/String" 492 yJ0_isLatin1_aae02 ∈ zT := zci_3 (List.mem_of_getElem? (i := 102) rfl) rfl
theorem zw_622 : Cond.instanceMethod yJ0_isLatin1_aae02 ∈ zT := zci_3 (List.mem_of_getElem? (i := 103) rfl) rfl
theorem zw_623 : Cond.selects "java/lang/String" yJ0_isLatin1_aae02 yJ0_isLatin1_aae02 ∈ zT := zci_3 (List.mem_of_getElem? (i := 104) rfl) rfl
theorem zw_624 : Cond.code yJ0_isLatin1_aae02 cJ0_isLatin1_aae02 1 (some .boolean) ∈ zT := zci_3 (List.mem_of_getElem? (i := 105) rfl) rfl
theorem zw_625 : Cond.methodLink "java/lang/String" 505 yJ0_length_8abf5 ∈ zT := zci_3 (List.mem_of_getElem? (i := 106) rfl) rfl
theorem zw_626 : Cond.methodLink "java/lang/String" 637 yJ1_indexOf_4cfef ∈ zT := zci_3 (List.mem_of_getElem? (i := 107) rfl) rfl
theorem zw_627 : Cond.static yJ1_indexOf_4cfef ∈ zT := zci_3 (List.mem_of_getElem? (i := 108) rfl) rfl
theorem zw_628 : Cond.code yJ1_indexOf_4cfef cJ1_indexOf_4cfef 4 (some .int) ∈ zT := zci_3 (List.mem_of_getElem? (i := 109) rfl) rfl
theorem zw_629 : Cond.methodLink "java/lang/StringLatin1" 88 yJ1_canEncode_9a6ad ∈ zT := zci_3 (List.mem_of_getElem? (i := 110) rfl) rfl
theorem zw_630 : Cond.static yJ1_canEncode_9a6ad ∈ zT := zci_3 (List.mem_of_getElem? (i := 111) rfl) rfl
theorem zw_631 : Cond.code yJ1_canEncode_9a6ad cJ1_canEncode_9a6ad 1 (some .boolean) ∈ zT := zci_3 (List.mem_of_getElem? (i := 112) rfl) rfl
theorem zw_632 : Cond.methodLink "java/lang/StringLatin1" 92 yJ9_max_7cf53 ∈ zT := zci_3 (List.mem_of_getElem? (i := 113) rfl) rfl
theorem zw_633 : Cond.methodLink "java/lang/StringLatin1" 38 yJ9_min_7cf53 ∈ zT := zci_3 (List.mem_of_getElem? (i := 114) rfl) rfl
theorem zw_634 : Cond.methodLink "java/lang/StringLatin1" 95 yJ1_indexOfChar_4cfef ∈ zT := zci_3 (List.mem_of_getElem? (i := 115) rfl) rfl
theorem zw_635 : Cond.static yJ1_indexOfChar_4cfef ∈ zT := zci_3 (List.mem_of_getElem? (i := 116) rfl) rfl
theorem zw_636 : Cond.code yJ1_indexOfChar_4cfef cJ1_indexOfChar_4cfef 6 (some .int) ∈ zT := zci_3 (List.mem_of_getElem? (i := 117) rfl) rfl
theorem zw_686 : Cond.methodLink "SentRoads$Tape" 95 yX7_readPromises ∈ zT := zci_3 (List.mem_of_getElem? (i := 167) rfl) rfl
theorem zw_687 : Cond.instanceMethod yX7_readPromises ∈ zT := zci_3 (List.mem_of_getElem? (i := 168) rfl) rfl
theorem zw_688 : Cond.selects "SentRoads$Tape" yX7_readPromises yX7_readPromises ∈ zT := zci_3 (List.mem_of_getElem? (i := 169) rfl) rfl
theorem zw_689 : Cond.code yX7_readPromises cX7_readPromises 2 (some .int) ∈ zT := zci_3 (List.mem_of_getElem? (i := 170) rfl) rfl
theorem zw_691 : Cond.methodLink "SentRoads$Tape" 98 yX4_lead ∈ zT := zci_3 (List.mem_of_getElem? (i := 172) rfl) rfl
theorem zw_692 : Cond.methodLink "SentRoads$Tape" 102 yX4_become ∈ zT := zci_3 (List.mem_of_getElem? (i := 173) rfl) rfl
theorem zw_693 : Cond.methodLink "SentRoads$Tape" 106 yX4_rule ∈ zT := zci_3 (List.mem_of_getElem? (i := 174) rfl) rfl
theorem zw_694 : Cond.methodLink "SentRoads" 124 yX0_copy ∈ zT := zci_3 (List.mem_of_getElem? (i := 175) rfl) rfl
theorem zw_695 : Cond.instanceMethod yX0_copy ∈ zT := zci_3 (List.mem_of_getElem? (i := 176) rfl) rfl
theorem zw_696 : Cond.selects "SentRoads$Crime" yX0_copy yX0_copy ∈ zT := zci_3 (List.mem_of_getElem? (i := 177) rfl) rfl
theorem zw_697 : Cond.code yX0_copy cX0_copy 2 none ∈ zT := zci_3 (List.mem_of_getElem? (i := 178) rfl) rfl
theorem zw_698 : Cond.methodLink "SentRoads$Crime" 29 yX0_tell ∈ zT := zci_3 (List.mem_of_getElem? (i := 179) rfl) rfl
theorem zw_699 : Cond.methodLink "SentRoads" 129 yX4_copy ∈ zT := zci_3 (List.mem_of_getElem? (i := 180) rfl) rfl
theorem zw_700 : Cond.instanceMethod yX4_copy ∈ zT := zci_3 (List.mem_of_getElem? (i := 181) rfl) rfl
theorem zw_701 : Cond.selects "SentRoads$Paper" yX4_copy yX4_copy ∈ zT := zci_3 (List.mem_of_getElem? (i := 182) rfl) rfl
theorem zw_702 : Cond.code yX4_copy cX4_copy 2 none ∈ zT := zci_3 (List.mem_of_getElem? (i := 183) rfl) rfl
theorem zw_703 : Cond.methodLink "SentRoads$Paper" 36 yX4_lead ∈ zT := zci_3 (List.mem_of_getElem? (i := 184) rfl) rfl
theorem zw_704 : Cond.methodLink "SentRoads$Paper" 40 yX4_become ∈ zT := zci_3 (List.mem_of_getElem? (i := 185) rfl) rfl
theorem zw_705 : Cond.methodLink "SentRoads$Paper" 44 yX4_rule ∈ zT := zci_3 (List.mem_of_getElem? (i := 186) rfl) rfl
theorem zw_707 : Cond.methodLink "SentRoadsLaw" 49 yX9_crimeOf ∈ zT := zci_3 (List.mem_of_getElem? (i := 188) rfl) rfl
theorem zw_708 : Cond.instanceMethod yX9_crimeOf ∈ zT := zci_3 (List.mem_of_getElem? (i := 189) rfl) rfl
theorem zw_709 : Cond.selects "SentRoads" yX9_crimeOf yX9_crimeOf ∈ zT := zci_3 (List.mem_of_getElem? (i := 190) rfl) rfl
theorem zw_710 : Cond.code yX9_crimeOf cX9_crimeOf 4 (some .int) ∈ zT := zci_3 (List.mem_of_getElem? (i := 191) rfl) rfl
theorem zw_711 : Cond.methodLink "SentRoadsLaw" 54 yX9_paper ∈ zT := zci_3 (List.mem_of_getElem? (i := 192) rfl) rfl
theorem zw_712 : Cond.instanceMethod yX9_paper ∈ zT := zci_3 (List.mem_of_getElem? (i := 193) rfl) rfl
theorem zw_713 : Cond.selects "SentRoads" yX9_paper yX9_paper ∈ zT := zci_3 (List.mem_of_getElem? (i := 194) rfl) rfl
theorem zw_714 : Cond.code yX9_paper cX9_paper 4 (some .int) ∈ zT := zci_3 (List.mem_of_getElem? (i := 195) rfl) rfl
theorem zw_715 : Cond.methodLink "SentRoads" 153 yX9_isPaper ∈ zT := zci_3 (List.mem_of_getElem? (i := 196) rfl) rfl
theorem zw_717 : Cond.instanceMethod yX9_isPaper ∈ zT := zci_3 (List.mem_of_getElem? (i := 198) rfl) rfl
theorem zw_718 : Cond.code yX9_isPaper cX9_isPaper 2 (some .boolean) ∈ zT := zci_3 (List.mem_of_getElem? (i := 199) rfl) rfl
theorem zw_719 : Cond.methodLink "SentRoadsLaw" 58 yX9_bars ∈ zT := zci_3 (List.mem_of_getElem? (i := 200) rfl) rfl
theorem zw_720 : Cond.instanceMethod yX9_bars ∈ zT := zci_3 (List.mem_of_getElem? (i := 201) rfl) rfl
theorem zw_721 : Cond.selects "SentRoads" yX9_bars yX9_bars ∈ zT := zci_3 (List.mem_of_getElem? (i := 202) rfl) rfl
theorem zw_722 : Cond.code yX9_bars cX9_bars 4 (some .int) ∈ zT := zci_3 (List.mem_of_getElem? (i := 203) rfl) rfl
theorem zw_723 : Cond.methodLink "SentRoadsLaw" 62 yX9_matches ∈ zT := zci_3 (List.mem_of_getElem? (i := 204) rfl) rfl
theorem zw_724 : Cond.instanceMethod yX9_matches ∈ zT := zci_3 (List.mem_of_getElem? (i := 205) rfl) rfl
theorem zw_725 : Cond.selects "SentRoads" yX9_matches yX9_matches ∈ zT := zci_3 (List.mem_of_getElem? (i := 206) rfl) rfl
theorem zw_726 : Cond.code yX9_matches cX9_matches 5 (some .int) ∈ zT := zci_3 (List.mem_of_getElem? (i := 207) rfl) rfl
theorem zw_727 : Cond.methodLink "SentRoads" 179 yX9_isDeed ∈ zT := zci_3 (List.mem_of_getElem? (i := 208) rfl) rfl
theorem zw_729 : Cond.instanceMethod yX9_isDeed ∈ zT := zci_3 (List.mem_of_getElem? (i := 210) rfl) rfl
theorem zw_730 : Cond.code yX9_isDeed cX9_isDeed 2 (some .boolean) ∈ zT := zci_3 (List.mem_of_getElem? (i := 211) rfl) rfl
theorem zw_731 : Cond.methodLink "SentRoadsLaw" 67 yX9_yearsOf ∈ zT := zci_3 (List.mem_of_getElem? (i := 212) rfl) rfl
theorem zw_732 : Cond.instanceMethod yX9_yearsOf ∈ zT := zci_3 (List.mem_of_getElem? (i := 213) rfl) rfl
theorem zw_733 : Cond.selects "SentRoads" yX9_yearsOf yX9_yearsOf ∈ zT := zci_3 (List.mem_of_getElem? (i := 214) rfl) rfl
theorem zw_734 : Cond.code yX9_yearsOf cX9_yearsOf 5 (some .int) ∈ zT := zci_3 (List.mem_of_getElem? (i := 215) rfl) rfl
theorem zw_735 : Cond.methodLink "SentRoadsLaw" 71 yX9_shows ∈ zT := zci_3 (List.mem_of_getElem? (i := 216) rfl) rfl
theorem zw_736 : Cond.instanceMethod yX9_shows ∈ zT := zci_3 (List.mem_of_getElem? (i := 217) rfl) rfl
theorem zw_737 : Cond.selects "SentRoads" yX9_shows yX9_shows ∈ zT := zci_3 (List.mem_of_getElem? (i := 218) rfl) rfl
theorem zw_738 : Cond.code yX9_shows cX9_shows 8 (some .int) ∈ zT := zci_3 (List.mem_of_getElem? (i := 219) rfl) rfl
theorem zw_739 : Cond.methodLink "SentRoads" 195 yX9_isSheet ∈ zT := zci_3 (List.mem_of_getElem? (i := 220) rfl) rfl
theorem zw_740 : Cond.static yX9_isSheet ∈ zT := zci_3 (List.mem_of_getElem? (i := 221) rfl) rfl
theorem zw_741 : Cond.code yX9_isSheet cX9_isSheet 1 (some .boolean) ∈ zT := zci_3 (List.mem_of_getElem? (i := 222) rfl) rfl
theorem zw_742 : Cond.methodLink "SentRoads" 198 yX9_isLane ∈ zT := zci_3 (List.mem_of_getElem? (i := 223) rfl) rfl
theorem zw_743 : Cond.static yX9_isLane ∈ zT := zci_3 (List.mem_of_getElem? (i := 224) rfl) rfl
theorem zw_744 : Cond.code yX9_isLane cX9_isLane 1 (some .boolean) ∈ zT := zci_3 (List.mem_of_getElem? (i := 225) rfl) rfl
theorem zw_745 : Cond.methodLink "SentRoads" 201 yX6_refuse ∈ zT := zci_3 (List.mem_of_getElem? (i := 226) rfl) rfl
theorem zw_746 : Cond.instanceMethod yX6_refuse ∈ zT := zci_3 (List.mem_of_getElem? (i := 227) rfl) rfl
theorem zw_747 : Cond.selects "SentRoads$Sheet" yX6_refuse yX6_refuse ∈ zT := zci_3 (List.mem_of_getElem? (i := 228) rfl) rfl
theorem zw_748 : Cond.code yX6_refuse cX6_refuse 2 (some .int) ∈ zT := zci_3 (List.mem_of_getElem? (i := 229) rfl) rfl
theorem zw_749 : Cond.methodLink "SentRoads" 210 yX6_marksFrom ∈ zT := zci_3 (List.mem_of_getElem? (i := 230) rfl) rfl
theorem zw_750 : Cond.instanceMethod yX6_marksFrom ∈ zT := zci_3 (List.mem_of_getElem? (i := 231) rfl) rfl
theorem zw_751 : Cond.selects "SentRoads$Sheet" yX6_marksFrom yX6_marksFrom ∈ zT := zci_3 (List.mem_of_getElem? (i := 232) rfl) rfl
theorem zw_752 : Cond.code yX6_marksFrom cX6_marksFrom 4 (some .int) ∈ zT := zci_3 (List.mem_of_getElem? (i := 233) rfl) rfl
theorem zw_753 : Cond.methodLink "SentRoads" 213 yX8_learnAgain ∈ zT := zci_3 (List.mem_of_getElem? (i := 234) rfl) rfl
theorem zw_754 : Cond.methodLink "SentRoadsLaw" 75 yX9_count ∈ zT := zci_3 (List.mem_of_getElem? (i := 235) rfl) rfl
theorem zw_755 : Cond.instanceMethod yX9_count ∈ zT := zci_3 (List.mem_of_getElem? (i := 236) rfl) rfl
theorem zw_756 : Cond.selects "SentRoads" yX9_count yX9_count ∈ zT := zci_3 (List.mem_of_getElem? (i := 237) rfl) rfl
theorem zw_757 : Cond.code yX9_count cX9_count 2 (some .int) ∈ zT := zci_3 (List.mem_of_getElem? (i := 238) rfl) rfl
theorem zw_758 : Cond.methodLink "SentRoadsLaw" 80 yX9_man ∈ zT := zci_3 (List.mem_of_getElem? (i := 239) rfl) rfl
theorem zw_759 : Cond.instanceMethod yX9_man ∈ zT := zci_4 (List.mem_of_getElem? (i := 0) rfl) rfl
theorem zw_760 : Cond.selects "SentRoads" yX9_man yX9_man ∈ zT := zci_4 (List.mem_of_getElem? (i := 1) rfl) rfl
theorem zw_761 : Cond.code yX9_man cX9_man 4 (some .int) ∈ zT := zci_4 (List.mem_of_getElem? (i := 2) rfl) rfl
theorem zw_762 : Cond.methodLink "SentRoads" 235 yX3_sit ∈ zT := zci_4 (List.mem_of_getElem? (i := 3) rfl) rfl
theorem zw_763 : Cond.instanceMethod yX3_sit ∈ zT := zci_4 (List.mem_of_getElem? (i := 4) rfl) rfl
theorem zw_764 : Cond.selects "SentRoads$Man" yX3_sit yX3_sit ∈ zT := zci_4 (List.mem_of_getElem? (i := 5) rfl) rfl
theorem zw_765 : Cond.code yX3_sit cX3_sit 2 none ∈ zT := zci_4 (List.mem_of_getElem? (i := 6) rfl) rfl
theorem zw_766 : Cond.methodLink "SentRoadsLaw" 84 yX9_judged ∈ zT := zci_4 (List.mem_of_getElem? (i := 7) rfl) rfl
theorem zw_767 : Cond.instanceMethod yX9_judged ∈ zT := zci_4 (List.mem_of_getElem? (i := 8) rfl) rfl
theorem zw_768 : Cond.selects "SentRoads" yX9_judged yX9_judged ∈ zT := zci_4 (List.mem_of_getElem? (i := 9) rfl) rfl
theorem zw_769 : Cond.code yX9_judged cX9_judged 4 (some .int) ∈ zT := zci_4 (List.mem_of_getElem? (i := 10) rfl) rfl
theorem zw_770 : Cond.methodLink "SentRoadsLaw" 89 yX9_bound ∈ zT := zci_4 (List.mem_of_getElem? (i := 11) rfl) rfl
theorem zw_771 : Cond.instanceMethod yX9_bound ∈ zT := zci_4 (List.mem_of_getElem? (i := 12) rfl) rfl
theorem zw_772 : Cond.selects "SentRoads" yX9_bound yX9_bound ∈ zT := zci_4 (List.mem_of_getElem? (i := 13) rfl) rfl
theorem zw_773 : Cond.code yX9_bound cX9_bound 2 (some .int) ∈ zT := zci_4 (List.mem_of_getElem? (i := 14) rfl) rfl
theorem zw_774 : Cond.methodLink "SentRoads" 252 yX8_allDeeds ∈ zT := zci_4 (List.mem_of_getElem? (i := 15) rfl) rfl
theorem zw_775 : Cond.instanceMethod yX8_allDeeds ∈ zT := zci_4 (List.mem_of_getElem? (i := 16) rfl) rfl
theorem zw_776 : Cond.selects "SentRoads$World" yX8_allDeeds yX8_allDeeds ∈ zT := zci_4 (List.mem_of_getElem? (i := 17) rfl) rfl
theorem zw_777 : Cond.code yX8_allDeeds cX8_allDeeds 1 (some .int) ∈ zT := zci_4 (List.mem_of_getElem? (i := 18) rfl) rfl
theorem zw_778 : Cond.methodLink "SentRoadsLaw" 93 yX9_covers ∈ zT := zci_4 (List.mem_of_getElem? (i := 19) rfl) rfl
theorem zw_779 : Cond.instanceMethod yX9_covers ∈ zT := zci_4 (List.mem_of_getElem? (i := 20) rfl) rfl
theorem zw_780 : Cond.selects "SentRoads" yX9_covers yX9_covers ∈ zT := zci_4 (List.mem_of_getElem? (i := 21) rfl) rfl
theorem zw_781 : Cond.code yX9_covers cX9_covers 2 (some .int) ∈ zT := zci_4 (List.mem_of_getElem? (i := 22) rfl) rfl
theorem zw_782 : Cond.methodLink "SentRoads" 255 yX8_coveredBy ∈ zT := zci_4 (List.mem_of_getElem? (i := 23) rfl) rfl
theorem zw_783 : Cond.instanceMethod yX8_coveredBy ∈ zT := zci_4 (List.mem_of_getElem? (i := 24) rfl) rfl
theorem zw_784 : Cond.selects "SentRoads$World" yX8_coveredBy yX8_coveredBy ∈ zT := zci_4 (List.mem_of_getElem? (i := 25) rfl) rfl
theorem zw_785 : Cond.code yX8_coveredBy cX8_coveredBy 4 (some .int) ∈ zT := zci_4 (List.mem_of_getElem? (i := 26) rfl) rfl
theorem zw_786 : Cond.methodLink "SentRoads$World" 100 yX4_isFor ∈ zT := zci_4 (List.mem_of_getElem? (i := 27) rfl) rfl
theorem zw_787 : Cond.instanceMethod yX4_isFor ∈ zT := zci_4 (List.mem_of_getElem? (i := 28) rfl) rfl
theorem zw_788 : Cond.selects "SentRoads$Paper" yX4_isFor yX4_isFor ∈ zT := zci_4 (List.mem_of_getElem? (i := 29) rfl) rfl
theorem zw_789 : Cond.code yX4_isFor cX4_isFor 2 (some .boolean) ∈ zT := zci_4 (List.mem_of_getElem? (i := 30) rfl) rfl
theorem zw_790 : Cond.methodLink "SentRoadsLaw" 97 yX9_lets ∈ zT := zci_4 (List.mem_of_getElem? (i := 31) rfl) rfl
theorem zw_791 : Cond.instanceMethod yX9_lets ∈ zT := zci_4 (List.mem_of_getElem? (i := 32) rfl) rfl
theorem zw_792 : Cond.selects "SentRoads" yX9_lets yX9_lets ∈ zT := zci_4 (List.mem_of_getElem? (i := 33) rfl) rfl
theorem zw_793 : Cond.code yX9_lets cX9_lets 3 (some .int) ∈ zT := zci_4 (List.mem_of_getElem? (i := 34) rfl) rfl
theorem zw_794 : Cond.methodLink "SentRoads" 259 yX8_weigh ∈ zT := zci_4 (List.mem_of_getElem? (i := 35) rfl) rfl
theorem zw_795 : Cond.instanceMethod yX8_weigh ∈ zT := zci_4 (List.mem_of_getElem? (i := 36) rfl) rfl
theorem zw_796 : Cond.selects "SentRoads$World" yX8_weigh yX8_weigh ∈ zT := zci_4 (List.mem_of_getElem? (i := 37) rfl) rfl
theorem zw_797 : Cond.code yX8_weigh cX8_weigh 4 none ∈ zT := zci_4 (List.mem_of_getElem? (i := 38) rfl) rfl
theorem zw_798 : Cond.methodLink "SentRoads$World" 143 yX8_barsAgainst ∈ zT := zci_4 (List.mem_of_getElem? (i := 39) rfl) rfl
theorem zw_799 : Cond.instanceMethod yX8_barsAgainst ∈ zT := zci_4 (List.mem_of_getElem? (i := 40) rfl) rfl
theorem zw_800 : Cond.selects "SentRoads$World" yX8_barsAgainst yX8_barsAgainst ∈ zT := zci_4 (List.mem_of_getElem? (i := 41) rfl) rfl
theorem zw_801 : Cond.code yX8_barsAgainst cX8_barsAgainst 4 (some .int) ∈ zT := zci_4 (List.mem_of_getElem? (i := 42) rfl) rfl
theorem zw_802 : Cond.methodLink "SentRoads$World" 120 yX1_isDeadly ∈ zT := zci_4 (List.mem_of_getElem? (i := 43) rfl) rfl
theorem zw_803 : Cond.instanceMethod yX1_isDeadly ∈ zT := zci_4 (List.mem_of_getElem? (i := 44) rfl) rfl
theorem zw_804 : Cond.selects "SentRoads$Deed" yX1_isDeadly yX1_isDeadly ∈ zT := zci_4 (List.mem_of_getElem? (i := 45) rfl) rfl
theorem zw_805 : Cond.code yX1_isDeadly cX1_isDeadly 2 (some .boolean) ∈ zT := zci_4 (List.mem_of_getElem? (i := 46) rfl) rfl
theorem zw_806 : Cond.methodLink "SentRoads$World" 123 yX4_pledges ∈ zT := zci_4 (List.mem_of_getElem? (i := 47) rfl) rfl
theorem zw_807 : Cond.instanceMethod yX4_pledges ∈ zT := zci_4 (List.mem_of_getElem? (i := 48) rfl) rfl
theorem zw_808 : Cond.selects "SentRoads$Paper" yX4_pledges yX4_pledges ∈ zT := zci_4 (List.mem_of_getElem? (i := 49) rfl) rfl
theorem zw_809 : Cond.code yX4_pledges cX4_pledges 2 (some .boolean) ∈ zT := zci_4 (List.mem_of_getElem? (i := 50) rfl) rfl
theorem zw_810 : Cond.methodLink "SentRoads" 262 yX3_goesBy ∈ zT := zci_4 (List.mem_of_getElem? (i := 51) rfl) rfl
theorem zw_811 : Cond.instanceMethod yX3_goesBy ∈ zT := zci_4 (List.mem_of_getElem? (i := 52) rfl) rfl
theorem zw_812 : Cond.selects "SentRoads$Man" yX3_goesBy yX3_goesBy ∈ zT := zci_4 (List.mem_of_getElem? (i := 53) rfl) rfl
theorem zw_813 : Cond.code yX3_goesBy cX3_goesBy 3 (some .int) ∈ zT := zci_4 (List.mem_of_getElem? (i := 54) rfl) rfl
theorem zw_814 : Cond.methodLink "SentRoads$Man" 49 yX4_pledges ∈ zT := zci_4 (List.mem_of_getElem? (i := 55) rfl) rfl
theorem zw_815 : Cond.methodLink "SentRoadsLaw" 101 yX9_barred ∈ zT := zci_4 (List.mem_of_getElem? (i := 56) rfl) rfl
theorem zw_816 : Cond.instanceMethod yX9_barred ∈ zT := zci_4 (List.mem_of_getElem? (i := 57) rfl) rfl
theorem zw_817 : Cond.selects "SentRoads" yX9_barred yX9_barred ∈ zT := zci_4 (List.mem_of_getElem? (i := 58) rfl) rfl
theorem zw_818 : Cond.code yX9_barred cX9_barred 3 (some .int) ∈ zT := zci_4 (List.mem_of_getElem? (i := 59) rfl) rfl
theorem zw_819 : Cond.methodLink "SentRoads" 265 yX8_barsAgainst ∈ zT := zci_4 (List.mem_of_getElem? (i := 60) rfl) rfl
theorem zw_820 : Cond.methodLink "SentRoadsLaw" 105 yX9_send ∈ zT := zci_4 (List.mem_of_getElem? (i := 61) rfl) rfl
theorem zw_821 : Cond.instanceMethod yX9_send ∈ zT := zci_4 (List.mem_of_getElem? (i := 62) rfl) rfl
theorem zw_822 : Cond.selects "SentRoads" yX9_send yX9_send ∈ zT := zci_4 (List.mem_of_getElem? (i := 63) rfl) rfl
theorem zw_823 : Cond.code yX9_send cX9_send 3 (some .int) ∈ zT := zci_4 (List.mem_of_getElem? (i := 64) rfl) rfl
theorem zw_824 : Cond.methodLink "SentRoads" 269 yX9_lets ∈ zT := zci_4 (List.mem_of_getElem? (i := 65) rfl) rfl
theorem zw_825 : Cond.methodLink "SentRoads" 272 yX3_go ∈ zT := zci_4 (List.mem_of_getElem? (i := 66) rfl) rfl
theorem zw_826 : Cond.instanceMethod yX3_go ∈ zT := zci_4 (List.mem_of_getElem? (i := 67) rfl) rfl
theorem zw_827 : Cond.selects "SentRoads$Man" yX3_go yX3_go ∈ zT := zci_4 (List.mem_of_getElem? (i := 68) rfl) rfl
theorem zw_828 : Cond.code yX3_go cX3_go 3 none ∈ zT := zci_4 (List.mem_of_getElem? (i := 69) rfl) rfl
theorem zw_829 : Cond.methodLink "SentRoadsLaw" 109 yX9_tried ∈ zT := zci_4 (List.mem_of_getElem? (i := 70) rfl) rfl
theorem zw_830 : Cond.instanceMethod yX9_tried ∈ zT := zci_4 (List.mem_of_getElem? (i := 71) rfl) rfl
theorem zw_831 : Cond.selects "SentRoads" yX9_tried yX9_tried ∈ zT := zci_4 (List.mem_of_getElem? (i := 72) rfl) rfl
theorem zw_832 : Cond.code yX9_tried cX9_tried 1 (some .int) ∈ zT := zci_4 (List.mem_of_getElem? (i := 73) rfl) rfl
theorem zw_833 : Cond.methodLink "SentRoads" 276 yX8_triedBy ∈ zT := zci_4 (List.mem_of_getElem? (i := 74) rfl) rfl
theorem zw_834 : Cond.instanceMethod yX8_triedBy ∈ zT := zci_4 (List.mem_of_getElem? (i := 75) rfl) rfl
theorem zw_835 : Cond.selects "SentRoads$World" yX8_triedBy yX8_triedBy ∈ zT := zci_4 (List.mem_of_getElem? (i := 76) rfl) rfl
theorem zw_836 : Cond.code yX8_triedBy cX8_triedBy 4 (some .int) ∈ zT := zci_4 (List.mem_of_getElem? (i := 77) rfl) rfl
theorem zw_837 : Cond.methodLink "SentRoads$World" 153 yX1_isCrime ∈ zT := zci_4 (List.mem_of_getElem? (i := 78) rfl) rfl
theorem zw_838 : Cond.instanceMethod yX1_isCrime ∈ zT := zci_4 (List.mem_of_getElem? (i := 79) rfl) rfl
theorem zw_839 : Cond.selects "SentRoads$Deed" yX1_isCrime yX1_isCrime ∈ zT := zci_4 (List.mem_of_getElem? (i := 80) rfl) rfl
theorem zw_840 : Cond.code yX1_isCrime cX1_isCrime 2 (some .boolean) ∈ zT := zci_4 (List.mem_of_getElem? (i := 81) rfl) rfl
theorem zw_841 : Cond.methodLink "SentRoadsLaw" 113 yX9_road ∈ zT := zci_4 (List.mem_of_getElem? (i := 82) rfl) rfl
theorem zw_842 : Cond.instanceMethod yX9_road ∈ zT := zci_4 (List.mem_of_getElem? (i := 83) rfl) rfl
theorem zw_843 : Cond.selects "SentRoads" yX9_road yX9_road ∈ zT := zci_4 (List.mem_of_getElem? (i := 84) rfl) rfl
theorem zw_844 : Cond.code yX9_road cX9_road 6 (some .int) ∈ zT := zci_4 (List.mem_of_getElem? (i := 85) rfl) rfl
theorem zw_845 : Cond.methodLink "SentRoads" 280 yX8_weighAll ∈ zT := zci_4 (List.mem_of_getElem? (i := 86) rfl) rfl
theorem zw_846 : Cond.instanceMethod yX8_weighAll ∈ zT := zci_4 (List.mem_of_getElem? (i := 87) rfl) rfl
theorem zw_847 : Cond.selects "SentRoads$World" yX8_weighAll yX8_weighAll ∈ zT := zci_4 (List.mem_of_getElem? (i := 88) rfl) rfl
theorem zw_848 : Cond.code yX8_weighAll cX8_weighAll 2 none ∈ zT := zci_4 (List.mem_of_getElem? (i := 89) rfl) rfl
theorem zw_849 : Cond.methodLink "SentRoads$World" 147 yX8_weigh ∈ zT := zci_4 (List.mem_of_getElem? (i := 90) rfl) rfl
theorem zw_850 : Cond.methodLink "SentRoads" 283 yX5_find ∈ zT := zci_4 (List.mem_of_getElem? (i := 91) rfl) rfl
theorem zw_851 : Cond.instanceMethod yX5_find ∈ zT := zci_4 (List.mem_of_getElem? (i := 92) rfl) rfl
theorem zw_852 : Cond.selects "SentRoads$Roads" yX5_find yX5_find ∈ zT := zci_4 (List.mem_of_getElem? (i := 93) rfl) rfl
theorem zw_853 : Cond.code yX5_find cX5_find 4 (some .int) ∈ zT := zci_4 (List.mem_of_getElem? (i := 94) rfl) rfl
theorem zw_854 : Cond.methodLink "SentRoads$Roads" 35 yX5_begin ∈ zT := zci_4 (List.mem_of_getElem? (i := 95) rfl) rfl
theorem zw_855 : Cond.instanceMethod yX5_begin ∈ zT := zci_4 (List.mem_of_getElem? (i := 96) rfl) rfl
theorem zw_856 : Cond.selects "SentRoads$Roads" yX5_begin yX5_begin ∈ zT := zci_4 (List.mem_of_getElem? (i := 97) rfl) rfl
theorem zw_857 : Cond.code yX5_begin cX5_begin 1 none ∈ zT := zci_4 (List.mem_of_getElem? (i := 98) rfl) rfl
theorem zw_858 : Cond.methodLink "SentRoads$Roads" 42 yX5_placeWalker ∈ zT := zci_4 (List.mem_of_getElem? (i := 99) rfl) rfl
theorem zw_859 : Cond.instanceMethod yX5_placeWalker ∈ zT := zci_4 (List.mem_of_getElem? (i := 100) rfl) rfl
theorem zw_860 : Cond.selects "SentRoads$Roads" yX5_placeWalker yX5_placeWalker ∈ zT := zci_4 (List.mem_of_getElem? (i := 101) rfl) rfl
theorem zw_861 : Cond.code yX5_placeWalker cX5_placeWalker 2 none ∈ zT := zci_4 (List.mem_of_getElem? (i := 102) rfl) rfl
theorem zw_862 : Cond.methodLink "SentRoads$Roads" 64 yX3_stand ∈ zT := zci_4 (List.mem_of_getElem? (i := 103) rfl) rfl
theorem zw_863 : Cond.instanceMethod yX3_stand ∈ zT := zci_4 (List.mem_of_getElem? (i := 104) rfl) rfl
theorem zw_864 : Cond.selects "SentRoads$Man" yX3_stand yX3_stand ∈ zT := zci_4 (List.mem_of_getElem? (i := 105) rfl) rfl
theorem zw_865 : Cond.code yX3_stand cX3_stand 2 none ∈ zT := zci_4 (List.mem_of_getElem? (i := 106) rfl) rfl
theorem zw_866 : Cond.methodLink "SentRoads$Roads" 72 yX3_go ∈ zT := zci_4 (List.mem_of_getElem? (i := 107) rfl) rfl
theorem zw_867 : Cond.methodLink "SentRoads$Roads" 49 yX8_triedBy ∈ zT := zci_4 (List.mem_of_getElem? (i := 108) rfl) rfl
theorem zw_868 : Cond.methodLink "SentRoads$Roads" 55 yX5_spread ∈ zT := zci_4 (List.mem_of_getElem? (i := 109) rfl) rfl
theorem zw_869 : Cond.instanceMethod yX5_spread ∈ zT := zci_4 (List.mem_of_getElem? (i := 110) rfl) rfl
theorem zw_870 : Cond.selects "SentRoads$Roads" yX5_spread yX5_spread ∈ zT := zci_4 (List.mem_of_getElem? (i := 111) rfl) rfl
theorem zw_871 : Cond.code yX5_spread cX5_spread 5 none ∈ zT := zci_4 (List.mem_of_getElem? (i := 112) rfl) rfl
theorem zw_872 : Cond.methodLink "SentRoads$Roads" 79 yX3_goesBy ∈ zT := zci_4 (List.mem_of_getElem? (i := 113) rfl) rfl
theorem zw_873 : Cond.methodLink "SentRoads$Roads" 83 yX4_pledges ∈ zT := zci_4 (List.mem_of_getElem? (i := 114) rfl) rfl
theorem zw_874 : Cond.methodLink "SentRoads" 287 yX5_lengthTo ∈ zT := zci_4 (List.mem_of_getElem? (i := 115) rfl) rfl
theorem zw_875 : Cond.instanceMethod yX5_lengthTo ∈ zT := zci_4 (List.mem_of_getElem? (i := 116) rfl) rfl
theorem zw_876 : Cond.selects "SentRoads$Roads" yX5_lengthTo yX5_lengthTo ∈ zT := zci_4 (List.mem_of_getElem? (i := 117) rfl) rfl
theorem zw_877 : Cond.code yX5_lengthTo cX5_lengthTo 4 (some .int) ∈ zT := zci_4 (List.mem_of_getElem? (i := 118) rfl) rfl
theorem zw_878 : Cond.methodLink "SentRoads" 290 yX5_paperOn ∈ zT := zci_4 (List.mem_of_getElem? (i := 119) rfl) rfl
theorem zw_879 : Cond.instanceMethod yX5_paperOn ∈ zT := zci_4 (List.mem_of_getElem? (i := 120) rfl) rfl
theorem zw_880 : Cond.selects "SentRoads$Roads" yX5_paperOn yX5_paperOn ∈ zT := zci_4 (List.mem_of_getElem? (i := 121) rfl) rfl
theorem zw_881 : Cond.code yX5_paperOn cX5_paperOn 5 (some .int) ∈ zT := zci_4 (List.mem_of_getElem? (i := 122) rfl) rfl
theorem zw_882 : Cond.methodLink "SentRoadsLaw" 117 yX9_lands ∈ zT := zci_4 (List.mem_of_getElem? (i := 123) rfl) rfl
theorem zw_883 : Cond.instanceMethod yX9_lands ∈ zT := zci_4 (List.mem_of_getElem? (i := 124) rfl) rfl
theorem zw_884 : Cond.selects "SentRoads" yX9_lands yX9_lands ∈ zT := zci_4 (List.mem_of_getElem? (i := 125) rfl) rfl
theorem zw_885 : Cond.code yX9_lands cX9_lands 1 (some .int) ∈ zT := zci_4 (List.mem_of_getElem? (i := 126) rfl) rfl
theorem zw_886 : Cond.methodLink "SentRoads" 293 yX5_reach ∈ zT := zci_4 (List.mem_of_getElem? (i := 127) rfl) rfl
theorem zw_887 : Cond.instanceMethod yX5_reach ∈ zT := zci_4 (List.mem_of_getElem? (i := 128) rfl) rfl
theorem zw_888 : Cond.selects "SentRoads$Roads" yX5_reach yX5_reach ∈ zT := zci_4 (List.mem_of_getElem? (i := 129) rfl) rfl
theorem zw_889 : Cond.code yX5_reach cX5_reach 3 (some .int) ∈ zT := zci_4 (List.mem_of_getElem? (i := 130) rfl) rfl
theorem zw_890 : Cond.methodLink "SentRoadsLaw" 121 yX9_safe ∈ zT := zci_4 (List.mem_of_getElem? (i := 131) rfl) rfl
theorem zw_891 : Cond.instanceMethod yX9_safe ∈ zT := zci_4 (List.mem_of_getElem? (i := 132) rfl) rfl
theorem zw_892 : Cond.selects "SentRoads" yX9_safe yX9_safe ∈ zT := zci_4 (List.mem_of_getElem? (i := 133) rfl) rfl
theorem zw_893 : Cond.code yX9_safe cX9_safe 2 (some .int) ∈ zT := zci_4 (List.mem_of_getElem? (i := 134) rfl) rfl
theorem zw_894 : Cond.methodLink "SentRoads" 296 yX5_safeLands ∈ zT := zci_4 (List.mem_of_getElem? (i := 135) rfl) rfl
theorem zw_895 : Cond.instanceMethod yX5_safeLands ∈ zT := zci_4 (List.mem_of_getElem? (i := 136) rfl) rfl
theorem zw_896 : Cond.selects "SentRoads$Roads" yX5_safeLands yX5_safeLands ∈ zT := zci_4 (List.mem_of_getElem? (i := 137) rfl) rfl
theorem zw_897 : Cond.code yX5_safeLands cX5_safeLands 6 (some .int) ∈ zT := zci_4 (List.mem_of_getElem? (i := 138) rfl) rfl
theorem zw_898 : Cond.methodLink "SentRoads$Roads" 89 yX3_sit ∈ zT := zci_4 (List.mem_of_getElem? (i := 139) rfl) rfl
theorem zw_899 : Cond.methodLink "SentRoadsLaw" 125 yX9_demand ∈ zT := zci_4 (List.mem_of_getElem? (i := 140) rfl) rfl
theorem zw_900 : Cond.instanceMethod yX9_demand ∈ zT := zci_4 (List.mem_of_getElem? (i := 141) rfl) rfl
theorem zw_901 : Cond.selects "SentRoads" yX9_demand yX9_demand ∈ zT := zci_4 (List.mem_of_getElem? (i := 142) rfl) rfl
theorem zw_902 : Cond.code yX9_demand cX9_demand 4 (some .int) ∈ zT := zci_4 (List.mem_of_getElem? (i := 143) rfl) rfl
theorem zw_903 : Cond.methodLink "SentRoads" 304 yX2_tell ∈ zT := zci_4 (List.mem_of_getElem? (i := 144) rfl) rfl
theorem zw_904 : Cond.instanceMethod yX2_tell ∈ zT := zci_4 (List.mem_of_getElem? (i := 145) rfl) rfl
theorem zw_905 : Cond.selects "SentRoads$Demand" yX2_tell yX2_tell ∈ zT := zci_4 (List.mem_of_getElem? (i := 146) rfl) rfl
theorem zw_906 : Cond.code yX2_tell cX2_tell 4 none ∈ zT := zci_4 (List.mem_of_getElem? (i := 147) rfl) rfl
theorem zw_907 : Cond.methodLink "SentRoadsLaw" 129 yX9_ahead ∈ zT := zci_4 (List.mem_of_getElem? (i := 148) rfl) rfl
theorem zw_908 : Cond.instanceMethod yX9_ahead ∈ zT := zci_4 (List.mem_of_getElem? (i := 149) rfl) rfl
theorem zw_909 : Cond.selects "SentRoads" yX9_ahead yX9_ahead ∈ zT := zci_4 (List.mem_of_getElem? (i := 150) rfl) rfl
theorem zw_910 : Cond.code yX9_ahead cX9_ahead 3 (some .int) ∈ zT := zci_4 (List.mem_of_getElem? (i := 151) rfl) rfl
theorem zw_911 : Cond.methodLink "SentRoads" 308 yX8_weighDemands ∈ zT := zci_4 (List.mem_of_getElem? (i := 152) rfl) rfl
theorem zw_912 : Cond.instanceMethod yX8_weighDemands ∈ zT := zci_4 (List.mem_of_getElem? (i := 153) rfl) rfl
theorem zw_913 : Cond.selects "SentRoads$World" yX8_weighDemands yX8_weighDemands ∈ zT := zci_4 (List.mem_of_getElem? (i := 154) rfl) rfl
theorem zw_914 : Cond.code yX8_weighDemands cX8_weighDemands 4 none ∈ zT := zci_4 (List.mem_of_getElem? (i := 155) rfl) rfl
theorem zw_915 : Cond.methodLink "SentRoads$World" 157 yX8_letTo ∈ zT := zci_4 (List.mem_of_getElem? (i := 156) rfl) rfl
theorem zw_916 : Cond.instanceMethod yX8_letTo ∈ zT := zci_4 (List.mem_of_getElem? (i := 157) rfl) rfl
theorem zw_917 : Cond.selects "SentRoads$World" yX8_letTo yX8_letTo ∈ zT := zci_4 (List.mem_of_getElem? (i := 158) rfl) rfl
theorem zw_918 : Cond.code yX8_letTo cX8_letTo 4 (some .int) ∈ zT := zci_4 (List.mem_of_getElem? (i := 159) rfl) rfl
theorem zw_919 : Cond.methodLink "SentRoads$World" 180 yX3_goesBy ∈ zT := zci_4 (List.mem_of_getElem? (i := 160) rfl) rfl
theorem zw_920 : Cond.methodLink "SentRoads$World" 174 yJ9_max_7cf53 ∈ zT := zci_4 (List.mem_of_getElem? (i := 161) rfl) rfl
theorem zw_921 : Cond.methodLink "SentRoads" 314 yX8_placeOf ∈ zT := zci_4 (List.mem_of_getElem? (i := 162) rfl) rfl
theorem zw_922 : Cond.instanceMethod yX8_placeOf ∈ zT := zci_4 (List.mem_of_getElem? (i := 163) rfl) rfl
theorem zw_923 : Cond.selects "SentRoads$World" yX8_placeOf yX8_placeOf ∈ zT := zci_4 (List.mem_of_getElem? (i := 164) rfl) rfl
theorem zw_924 : Cond.code yX8_placeOf cX8_placeOf 5 (some .int) ∈ zT := zci_4 (List.mem_of_getElem? (i := 165) rfl) rfl
theorem zw_925 : Cond.methodLink "SentRoads$World" 184 yX2_order ∈ zT := zci_4 (List.mem_of_getElem? (i := 166) rfl) rfl
theorem zw_926 : Cond.instanceMethod yX2_order ∈ zT := zci_4 (List.mem_of_getElem? (i := 167) rfl) rfl
theorem zw_927 : Cond.selects "SentRoads$Demand" yX2_order yX2_order ∈ zT := zci_4 (List.mem_of_getElem? (i := 168) rfl) rfl
theorem zw_928 : Cond.code yX2_order cX2_order 2 (some .int) ∈ zT := zci_4 (List.mem_of_getElem? (i := 169) rfl) rfl
theorem zw_929 : Cond.methodLink "SentRoadsLaw" 133 yX9_promises ∈ zT := zci_4 (List.mem_of_getElem? (i := 170) rfl) rfl
theorem zw_930 : Cond.instanceMethod yX9_promises ∈ zT := zci_4 (List.mem_of_getElem? (i := 171) rfl) rfl
theorem zw_931 : Cond.selects "SentRoads" yX9_promises yX9_promises ∈ zT := zci_4 (List.mem_of_getElem? (i := 172) rfl) rfl
theorem zw_932 : Cond.code yX9_promises cX9_promises 6 (some .int) ∈ zT := zci_4 (List.mem_of_getElem? (i := 173) rfl) rfl
theorem zw_933 : Cond.methodLink "SentRoads" 317 yX9_isLess ∈ zT := zci_4 (List.mem_of_getElem? (i := 174) rfl) rfl
theorem zw_934 : Cond.static yX9_isLess ∈ zT := zci_4 (List.mem_of_getElem? (i := 175) rfl) rfl
theorem zw_935 : Cond.code yX9_isLess cX9_isLess 3 (some .boolean) ∈ zT := zci_4 (List.mem_of_getElem? (i := 176) rfl) rfl
theorem zw_936 : Cond.methodLink "SentRoads" 348 yJ6_bitCount_0f7a4 ∈ zT := zci_4 (List.mem_of_getElem? (i := 177) rfl) rfl
theorem zw_937 : Cond.static yJ6_bitCount_0f7a4 ∈ zT := zci_4 (List.mem_of_getElem? (i := 178) rfl) rfl
theorem zw_938 : Cond.code yJ6_bitCount_0f7a4 cJ6_bitCount_0f7a4 1 (some .int) ∈ zT := zci_4 (List.mem_of_getElem? (i := 179) rfl) rfl
theorem zw_939 : Cond.constant "java/lang/Integer" 265 (1431655765 : Int32) ∈ zT := zci_4 (List.mem_of_getElem? (i := 180) rfl) rfl
theorem zw_940 : Cond.constant "java/lang/Integer" 266 (858993459 : Int32) ∈ zT := zci_4 (List.mem_of_getElem? (i := 181) rfl) rfl
theorem zw_941 : Cond.constant "java/lang/Integer" 267 (252645135 : Int32) ∈ zT := zci_4 (List.mem_of_getElem? (i := 182) rfl) rfl
theorem zw_942 : Cond.methodLink "SentRoadsLaw" 137 yX9_mended ∈ zT := zci_4 (List.mem_of_getElem? (i := 183) rfl) rfl
theorem zw_943 : Cond.instanceMethod yX9_mended ∈ zT := zci_4 (List.mem_of_getElem? (i := 184) rfl) rfl
theorem zw_944 : Cond.selects "SentRoads" yX9_mended yX9_mended ∈ zT := zci_4 (List.mem_of_getElem? (i := 185) rfl) rfl
theorem zw_945 : Cond.code yX9_mended cX9_mended 3 (some .int) ∈ zT := zci_4 (List.mem_of_getElem? (i := 186) rfl) rfl
theorem zw_946 : Cond.methodLink "SentRoads" 321 yX8_weighAlone ∈ zT := zci_4 (List.mem_of_getElem? (i := 187) rfl) rfl
theorem zw_947 : Cond.instanceMethod yX8_weighAlone ∈ zT := zci_4 (List.mem_of_getElem? (i := 188) rfl) rfl
theorem zw_948 : Cond.selects "SentRoads$World" yX8_weighAlone yX8_weighAlone ∈ zT := zci_4 (List.mem_of_getElem? (i := 189) rfl) rfl
theorem zw_949 : Cond.code yX8_weighAlone cX8_weighAlone 4 none ∈ zT := zci_4 (List.mem_of_getElem? (i := 190) rfl) rfl
theorem zw_950 : Cond.methodLink "SentRoads" 324 yX5_fewestBars ∈ zT := zci_4 (List.mem_of_getElem? (i := 191) rfl) rfl
theorem zw_951 : Cond.instanceMethod yX5_fewestBars ∈ zT := zci_4 (List.mem_of_getElem? (i := 192) rfl) rfl
theorem zw_952 : Cond.selects "SentRoads$Roads" yX5_fewestBars yX5_fewestBars ∈ zT := zci_4 (List.mem_of_getElem? (i := 193) rfl) rfl
theorem zw_953 : Cond.code yX5_fewestBars cX5_fewestBars 6 (some .int) ∈ zT := zci_4 (List.mem_of_getElem? (i := 194) rfl) rfl
theorem zw_954 : Cond.methodLink "SentRoads$Roads" 92 yJ7_fill_53178 ∈ zT := zci_4 (List.mem_of_getElem? (i := 195) rfl) rfl
theorem zw_955 : Cond.methodLink "SentRoads$Roads" 98 yX5_relax ∈ zT := zci_4 (List.mem_of_getElem? (i := 196) rfl) rfl
theorem zw_956 : Cond.instanceMethod yX5_relax ∈ zT := zci_4 (List.mem_of_getElem? (i := 197) rfl) rfl
theorem zw_957 : Cond.selects "SentRoads$Roads" yX5_relax yX5_relax ∈ zT := zci_4 (List.mem_of_getElem? (i := 198) rfl) rfl
theorem zw_958 : Cond.code yX5_relax cX5_relax 7 (some .boolean) ∈ zT := zci_4 (List.mem_of_getElem? (i := 199) rfl) rfl
theorem zw_959 : Cond.methodLink "SentRoads$Roads" 124 yX8_barsAgainst ∈ zT := zci_4 (List.mem_of_getElem? (i := 200) rfl) rfl
theorem zw_960 : Cond.methodLink "SentRoads$Roads" 128 yJ6_bitCount_0f7a4 ∈ zT := zci_4 (List.mem_of_getElem? (i := 201) rfl) rfl
theorem zw_961 : Cond.methodLink "SentRoads$Roads" 105 yJ9_min_7cf53 ∈ zT := zci_4 (List.mem_of_getElem? (i := 202) rfl) rfl
theorem zw_962 : Cond.methodLink "SentRoads$Roads" 115 yX1_isCrime ∈ zT := zci_4 (List.mem_of_getElem? (i := 203) rfl) rfl
theorem zw_963 : Cond.methodLink "SentRoadsLaw" 141 yX9_part ∈ zT := zci_4 (List.mem_of_getElem? (i := 204) rfl) rfl
theorem zw_964 : Cond.instanceMethod yX9_part ∈ zT := zci_4 (List.mem_of_getElem? (i := 205) rfl) rfl
theorem zw_965 : Cond.selects "SentRoads" yX9_part yX9_part ∈ zT := zci_4 (List.mem_of_getElem? (i := 206) rfl) rfl
theorem zw_966 : Cond.code yX9_part cX9_part 8 (some .int) ∈ zT := zci_4 (List.mem_of_getElem? (i := 207) rfl) rfl
theorem zw_967 : Cond.methodLink "SentRoads" 327 yX8_landsWhereCrime ∈ zT := zci_4 (List.mem_of_getElem? (i := 208) rfl) rfl
theorem zw_968 : Cond.instanceMethod yX8_landsWhereCrime ∈ zT := zci_4 (List.mem_of_getElem? (i := 209) rfl) rfl
theorem zw_969 : Cond.selects "SentRoads$World" yX8_landsWhereCrime yX8_landsWhereCrime ∈ zT := zci_4 (List.mem_of_getElem? (i := 210) rfl) rfl
theorem zw_970 : Cond.code yX8_landsWhereCrime cX8_landsWhereCrime 4 (some .int) ∈ zT := zci_4 (List.mem_of_getElem? (i := 211) rfl) rfl
theorem zw_971 : Cond.methodLink "SentRoads$World" 96 yX0_isMarks ∈ zT := zci_4 (List.mem_of_getElem? (i := 212) rfl) rfl
theorem zw_972 : Cond.methodLink "SentRoadsLaw" 145 yX9_image ∈ zT := zci_4 (List.mem_of_getElem? (i := 213) rfl) rfl
theorem zw_973 : Cond.instanceMethod yX9_image ∈ zT := zci_4 (List.mem_of_getElem? (i := 214) rfl) rfl
theorem zw_974 : Cond.selects "SentRoads" yX9_image yX9_image ∈ zT := zci_4 (List.mem_of_getElem? (i := 215) rfl) rfl
theorem zw_975 : Cond.code yX9_image cX9_image 1 (some .int) ∈ zT := zci_4 (List.mem_of_getElem? (i := 216) rfl) rfl
theorem zw_976 : Cond.methodLink "SentRoads" 330 yX8_copy ∈ zT := zci_4 (List.mem_of_getElem? (i := 217) rfl) rfl
theorem zw_977 : Cond.instanceMethod yX8_copy ∈ zT := zci_4 (List.mem_of_getElem? (i := 218) rfl) rfl
theorem zw_978 : Cond.selects "SentRoads$World" yX8_copy yX8_copy ∈ zT := zci_4 (List.mem_of_getElem? (i := 219) rfl) rfl
theorem zw_979 : Cond.code yX8_copy cX8_copy 3 none ∈ zT := zci_4 (List.mem_of_getElem? (i := 220) rfl) rfl
theorem zw_980 : Cond.methodLink "SentRoads$World" 50 yX0_copy ∈ zT := zci_4 (List.mem_of_getElem? (i := 221) rfl) rfl
theorem zw_981 : Cond.methodLink "SentRoads$World" 57 yX1_copy ∈ zT := zci_4 (List.mem_of_getElem? (i := 222) rfl) rfl
theorem zw_982 : Cond.instanceMethod yX1_copy ∈ zT := zci_4 (List.mem_of_getElem? (i := 223) rfl) rfl
theorem zw_983 : Cond.selects "SentRoads$Deed" yX1_copy yX1_copy ∈ zT := zci_4 (List.mem_of_getElem? (i := 224) rfl) rfl
theorem zw_984 : Cond.code yX1_copy cX1_copy 2 none ∈ zT := zci_4 (List.mem_of_getElem? (i := 225) rfl) rfl
theorem zw_985 : Cond.methodLink "SentRoads$Deed" 35 yX1_tell ∈ zT := zci_4 (List.mem_of_getElem? (i := 226) rfl) rfl
theorem zw_986 : Cond.methodLink "SentRoads$World" 67 yX4_copy ∈ zT := zci_4 (List.mem_of_getElem? (i := 227) rfl) rfl
theorem zw_987 : Cond.methodLink "SentRoads$World" 81 yX2_tell ∈ zT := zci_4 (List.mem_of_getElem? (i := 228) rfl) rfl
theorem zw_988 : Cond.methodLink "SentRoads$World" 85 yX3_copy ∈ zT := zci_4 (List.mem_of_getElem? (i := 229) rfl) rfl
theorem zw_989 : Cond.instanceMethod yX3_copy ∈ zT := zci_4 (List.mem_of_getElem? (i := 230) rfl) rfl
theorem zw_990 : Cond.selects "SentRoads$Man" yX3_copy yX3_copy ∈ zT := zci_4 (List.mem_of_getElem? (i := 231) rfl) rfl
theorem zw_991 : Cond.code yX3_copy cX3_copy 2 none ∈ zT := zci_4 (List.mem_of_getElem? (i := 232) rfl) rfl
theorem zw_992 : Cond.methodLink "SentRoads$Man" 25 yX3_stand ∈ zT := zci_4 (List.mem_of_getElem? (i := 233) rfl) rfl
theorem zw_993 : Cond.methodLink "SentRoadsLaw" 149 yX9_restore ∈ zT := zci_4 (List.mem_of_getElem? (i := 234) rfl) rfl
theorem zw_994 : Cond.instanceMethod yX9_restore ∈ zT := zci_4 (List.mem_of_getElem? (i := 235) rfl) rfl
theorem zw_995 : Cond.selects "SentRoads" yX9_restore yX9_restore ∈ zT := zci_4 (List.mem_of_getElem? (i := 236) rfl) rfl
theorem zw_996 : Cond.code yX9_restore cX9_restore 1 (some .int) ∈ zT := zci_4 (List.mem_of_getElem? (i := 237) rfl) rfl
theorem zw_997 : Cond.methodLink "SentRoadsLaw" 153 yX9_sheet ∈ zT := zci_4 (List.mem_of_getElem? (i := 238) rfl) rfl
theorem zw_998 : Cond.instanceMethod yX9_sheet ∈ zT := zci_4 (List.mem_of_getElem? (i := 239) rfl) rfl
theorem zw_999 : Cond.selects "SentRoads" yX9_sheet yX9_sheet ∈ zT := zci_5 (List.mem_of_getElem? (i := 0) rfl) rfl
theorem zw_1000 : Cond.code yX9_sheet cX9_sheet 4 (some .int) ∈ zT := zci_5 (List.mem_of_getElem? (i := 1) rfl) rfl
theorem zw_1001 : Cond.methodLink "SentRoads" 332 yX6_begin ∈ zT := zci_5 (List.mem_of_getElem? (i := 2) rfl) rfl
theorem zw_1002 : Cond.instanceMethod yX6_begin ∈ zT := zci_5 (List.mem_of_getElem? (i := 3) rfl) rfl
theorem zw_1003 : Cond.selects "SentRoads$Sheet" yX6_begin yX6_begin ∈ zT := zci_5 (List.mem_of_getElem? (i := 4) rfl) rfl
theorem zw_1004 : Cond.code yX6_begin cX6_begin 3 none ∈ zT := zci_5 (List.mem_of_getElem? (i := 5) rfl) rfl
theorem zw_1005 : Cond.methodLink "SentRoads$Sheet" 22 yJ7_fill_53178 ∈ zT := zci_5 (List.mem_of_getElem? (i := 6) rfl) rfl
theorem zw_1006 : Cond.methodLink "SentRoadsLaw" 157 yX9_drop ∈ zT := zci_5 (List.mem_of_getElem? (i := 7) rfl) rfl
theorem zw_1007 : Cond.instanceMethod yX9_drop ∈ zT := zci_5 (List.mem_of_getElem? (i := 8) rfl) rfl
theorem zw_1008 : Cond.selects "SentRoads" yX9_drop yX9_drop ∈ zT := zci_5 (List.mem_of_getElem? (i := 9) rfl) rfl
theorem zw_1009 : Cond.code yX9_drop cX9_drop 3 (some .int) ∈ zT := zci_5 (List.mem_of_getElem? (i := 10) rfl) rfl
theorem zw_1010 : Cond.methodLink "SentRoadsLaw" 161 yX9_item ∈ zT := zci_5 (List.mem_of_getElem? (i := 11) rfl) rfl
theorem zw_1011 : Cond.instanceMethod yX9_item ∈ zT := zci_5 (List.mem_of_getElem? (i := 12) rfl) rfl
theorem zw_1012 : Cond.selects "SentRoads" yX9_item yX9_item ∈ zT := zci_5 (List.mem_of_getElem? (i := 13) rfl) rfl
theorem zw_1013 : Cond.code yX9_item cX9_item 7 (some .int) ∈ zT := zci_5 (List.mem_of_getElem? (i := 14) rfl) rfl
theorem zw_1014 : Cond.methodLink "SentRoads" 339 yX6_put ∈ zT := zci_5 (List.mem_of_getElem? (i := 15) rfl) rfl
theorem zw_1015 : Cond.instanceMethod yX6_put ∈ zT := zci_5 (List.mem_of_getElem? (i := 16) rfl) rfl
theorem zw_1016 : Cond.selects "SentRoads$Sheet" yX6_put yX6_put ∈ zT := zci_5 (List.mem_of_getElem? (i := 17) rfl) rfl
theorem zw_1017 : Cond.code yX6_put cX6_put 3 none ∈ zT := zci_5 (List.mem_of_getElem? (i := 18) rfl) rfl
theorem zw_1020 : Cond.methodLink "SentRoadsLaw" 12 yX10_init ∈ zT := zci_5 (List.mem_of_getElem? (i := 21) rfl) rfl
theorem zw_1021 : Cond.instanceMethod yX10_init ∈ zT := zci_5 (List.mem_of_getElem? (i := 22) rfl) rfl
theorem zw_1022 : Cond.code yX10_init cX10_init 2 none ∈ zT := zci_5 (List.mem_of_getElem? (i := 23) rfl) rfl
theorem zw_1024 : Cond.methodLink "SentRoadsModel" 64 yX10_free ∈ zT := zci_5 (List.mem_of_getElem? (i := 25) rfl) rfl
theorem zw_1026 : Cond.instanceMethod yX10_free ∈ zT := zci_5 (List.mem_of_getElem? (i := 27) rfl) rfl
theorem zw_1027 : Cond.code yX10_free cX10_free 1 none ∈ zT := zci_5 (List.mem_of_getElem? (i := 28) rfl) rfl
theorem zw_1028 : Cond.fieldLink "SentRoadsModel" 80 "SentRoadsModel" "crimes" "I" ∈ zT := zci_5 (List.mem_of_getElem? (i := 29) rfl) rfl
theorem zw_1029 : Cond.fieldLink "SentRoadsModel" 7 "SentRoadsModel" "crime" "[I" ∈ zT := zci_5 (List.mem_of_getElem? (i := 30) rfl) rfl
theorem zw_1030 : Cond.fieldLink "SentRoadsModel" 73 "SentRoadsModel" "deeds" "I" ∈ zT := zci_5 (List.mem_of_getElem? (i := 31) rfl) rfl
theorem zw_1031 : Cond.fieldLink "SentRoadsModel" 13 "SentRoadsModel" "deed" "[I" ∈ zT := zci_5 (List.mem_of_getElem? (i := 32) rfl) rfl
theorem zw_1032 : Cond.fieldLink "SentRoadsModel" 77 "SentRoadsModel" "papers" "I" ∈ zT := zci_5 (List.mem_of_getElem? (i := 33) rfl) rfl
theorem zw_1033 : Cond.fieldLink "SentRoadsModel" 16 "SentRoadsModel" "paper" "[I" ∈ zT := zci_5 (List.mem_of_getElem? (i := 34) rfl) rfl
theorem zw_1034 : Cond.fieldLink "SentRoadsModel" 126 "SentRoadsModel" "demands" "I" ∈ zT := zci_5 (List.mem_of_getElem? (i := 35) rfl) rfl
theorem zw_1035 : Cond.fieldLink "SentRoadsModel" 19 "SentRoadsModel" "demand" "[I" ∈ zT := zci_5 (List.mem_of_getElem? (i := 36) rfl) rfl
theorem zw_1036 : Cond.fieldLink "SentRoadsModel" 22 "SentRoadsModel" "man" "[I" ∈ zT := zci_5 (List.mem_of_getElem? (i := 37) rfl) rfl
theorem zw_1037 : Cond.fieldLink "SentRoadsModel" 25 "SentRoadsModel" "open" "[I" ∈ zT := zci_5 (List.mem_of_getElem? (i := 38) rfl) rfl
theorem zw_1038 : Cond.fieldLink "SentRoadsModel" 28 "SentRoadsModel" "before" "[I" ∈ zT := zci_5 (List.mem_of_getElem? (i := 39) rfl) rfl
theorem zw_1039 : Cond.fieldLink "SentRoadsModel" 31 "SentRoadsModel" "byPaper" "[I" ∈ zT := zci_5 (List.mem_of_getElem? (i := 40) rfl) rfl
theorem zw_1040 : Cond.fieldLink "SentRoadsModel" 34 "SentRoadsModel" "queue" "[I" ∈ zT := zci_5 (List.mem_of_getElem? (i := 41) rfl) rfl
theorem zw_1041 : Cond.fieldLink "SentRoadsModel" 168 "SentRoadsModel" "queued" "I" ∈ zT := zci_5 (List.mem_of_getElem? (i := 42) rfl) rfl
theorem zw_1042 : Cond.fieldLink "SentRoadsModel" 37 "SentRoadsModel" "cost" "[I" ∈ zT := zci_5 (List.mem_of_getElem? (i := 43) rfl) rfl
theorem zw_1043 : Cond.fieldLink "SentRoadsModel" 40 "SentRoadsModel" "tape" "[I" ∈ zT := zci_5 (List.mem_of_getElem? (i := 44) rfl) rfl
theorem zw_1044 : Cond.fieldLink "SentRoadsModel" 208 "SentRoadsModel" "taped" "I" ∈ zT := zci_5 (List.mem_of_getElem? (i := 45) rfl) rfl
theorem zw_1045 : Cond.fieldLink "SentRoadsModel" 211 "SentRoadsModel" "at" "I" ∈ zT := zci_5 (List.mem_of_getElem? (i := 46) rfl) rfl
theorem zw_1046 : Cond.fieldLink "SentRoadsModel" 221 "SentRoadsModel" "readCrimes" "I" ∈ zT := zci_5 (List.mem_of_getElem? (i := 47) rfl) rfl
theorem zw_1047 : Cond.fieldLink "SentRoadsModel" 43 "SentRoadsModel" "gotCrimes" "[I" ∈ zT := zci_5 (List.mem_of_getElem? (i := 48) rfl) rfl
theorem zw_1048 : Cond.fieldLink "SentRoadsModel" 233 "SentRoadsModel" "readPapers" "I" ∈ zT := zci_5 (List.mem_of_getElem? (i := 49) rfl) rfl
theorem zw_1049 : Cond.fieldLink "SentRoadsModel" 46 "SentRoadsModel" "gotPapers" "[I" ∈ zT := zci_5 (List.mem_of_getElem? (i := 50) rfl) rfl
theorem zw_1050 : Cond.fieldLink "SentRoadsModel" 259 "SentRoadsModel" "isKept" "Z" ∈ zT := zci_5 (List.mem_of_getElem? (i := 51) rfl) rfl
theorem zw_1051 : Cond.fieldLink "SentRoadsModel" 49 "SentRoadsModel" "kept" "[I" ∈ zT := zci_5 (List.mem_of_getElem? (i := 52) rfl) rfl
theorem zw_1052 : Cond.fieldLink "SentRoadsModel" 252 "SentRoadsModel" "keptAt" "I" ∈ zT := zci_5 (List.mem_of_getElem? (i := 53) rfl) rfl
theorem zw_1053 : Cond.fieldLink "SentRoadsModel" 52 "SentRoadsModel" "singles" "[I" ∈ zT := zci_5 (List.mem_of_getElem? (i := 54) rfl) rfl
theorem zw_1054 : Cond.fieldLink "SentRoadsModel" 55 "SentRoadsModel" "lanes" "[I" ∈ zT := zci_5 (List.mem_of_getElem? (i := 55) rfl) rfl
theorem zw_1055 : Cond.fieldLink "SentRoadsModel" 58 "SentRoadsModel" "rowSizes" "[I" ∈ zT := zci_5 (List.mem_of_getElem? (i := 56) rfl) rfl
theorem zw_1056 : Cond.fieldLink "SentRoadsModel" 61 "SentRoadsModel" "items" "[I" ∈ zT := zci_5 (List.mem_of_getElem? (i := 57) rfl) rfl
theorem zw_1116 : Cond.methodLink "SentRoadsLaw" 17 yX10_crime ∈ zT := zci_5 (List.mem_of_getElem? (i := 117) rfl) rfl
theorem zw_1117 : Cond.instanceMethod yX10_crime ∈ zT := zci_5 (List.mem_of_getElem? (i := 118) rfl) rfl
theorem zw_1118 : Cond.selects "SentRoadsModel" yX10_crime yX10_crime ∈ zT := zci_5 (List.mem_of_getElem? (i := 119) rfl) rfl
theorem zw_1119 : Cond.code yX10_crime cX10_crime 7 (some .int) ∈ zT := zci_5 (List.mem_of_getElem? (i := 120) rfl) rfl
theorem zw_1120 : Cond.methodLink "SentRoadsModel" 83 yX10_isLand ∈ zT := zci_5 (List.mem_of_getElem? (i := 121) rfl) rfl
theorem zw_1121 : Cond.static yX10_isLand ∈ zT := zci_5 (List.mem_of_getElem? (i := 122) rfl) rfl
theorem zw_1122 : Cond.code yX10_isLand cX10_isLand 1 (some .boolean) ∈ zT := zci_5 (List.mem_of_getElem? (i := 123) rfl) rfl
theorem zw_1123 : Cond.constantLong "SentRoadsModel" 67 (5 : Int64) ∈ zT := zci_5 (List.mem_of_getElem? (i := 124) rfl) rfl
theorem zw_1124 : Cond.methodLink "SentRoadsModel" 69 yX10_in ∈ zT := zci_5 (List.mem_of_getElem? (i := 125) rfl) rfl
theorem zw_1125 : Cond.static yX10_in ∈ zT := zci_5 (List.mem_of_getElem? (i := 126) rfl) rfl
theorem zw_1126 : Cond.code yX10_in cX10_in 6 (some .boolean) ∈ zT := zci_5 (List.mem_of_getElem? (i := 127) rfl) rfl
theorem zw_1127 : Cond.constantLong "SentRoadsModel" 87 (63 : Int64) ∈ zT := zci_5 (List.mem_of_getElem? (i := 128) rfl) rfl
theorem zw_1128 : Cond.constantLong "SentRoadsModel" 89 (40 : Int64) ∈ zT := zci_5 (List.mem_of_getElem? (i := 129) rfl) rfl
theorem zw_1129 : Cond.methodLink "SentRoadsModel" 91 yX10_addCrime ∈ zT := zci_5 (List.mem_of_getElem? (i := 130) rfl) rfl
theorem zw_1131 : Cond.instanceMethod yX10_addCrime ∈ zT := zci_5 (List.mem_of_getElem? (i := 132) rfl) rfl
theorem zw_1132 : Cond.code yX10_addCrime cX10_addCrime 8 none ∈ zT := zci_5 (List.mem_of_getElem? (i := 133) rfl) rfl
theorem zw_1133 : Cond.methodLink "SentRoadsLaw" 22 yX10_deed ∈ zT := zci_5 (List.mem_of_getElem? (i := 134) rfl) rfl
theorem zw_1134 : Cond.instanceMethod yX10_deed ∈ zT := zci_5 (List.mem_of_getElem? (i := 135) rfl) rfl
theorem zw_1135 : Cond.selects "SentRoadsModel" yX10_deed yX10_deed ∈ zT := zci_5 (List.mem_of_getElem? (i := 136) rfl) rfl
theorem zw_1136 : Cond.code yX10_deed cX10_deed 5 (some .int) ∈ zT := zci_5 (List.mem_of_getElem? (i := 137) rfl) rfl
theorem zw_1137 : Cond.constantLong "SentRoadsModel" 95 (99 : Int64) ∈ zT := zci_5 (List.mem_of_getElem? (i := 138) rfl) rfl
theorem zw_1138 : Cond.methodLink "SentRoadsLaw" 27 yX10_years ∈ zT := zci_5 (List.mem_of_getElem? (i := 139) rfl) rfl
theorem zw_1139 : Cond.instanceMethod yX10_years ∈ zT := zci_5 (List.mem_of_getElem? (i := 140) rfl) rfl
theorem zw_1140 : Cond.selects "SentRoadsModel" yX10_years yX10_years ∈ zT := zci_5 (List.mem_of_getElem? (i := 141) rfl) rfl
theorem zw_1141 : Cond.code yX10_years cX10_years 7 (some .int) ∈ zT := zci_5 (List.mem_of_getElem? (i := 142) rfl) rfl
theorem zw_1142 : Cond.methodLink "SentRoadsModel" 101 yX10_mayBe ∈ zT := zci_5 (List.mem_of_getElem? (i := 143) rfl) rfl
theorem zw_1143 : Cond.static yX10_mayBe ∈ zT := zci_5 (List.mem_of_getElem? (i := 144) rfl) rfl
theorem zw_1144 : Cond.code yX10_mayBe cX10_mayBe 5 (some .boolean) ∈ zT := zci_5 (List.mem_of_getElem? (i := 145) rfl) rfl
theorem zw_1145 : Cond.constantLong "SentRoadsModel" 97 (31 : Int64) ∈ zT := zci_5 (List.mem_of_getElem? (i := 146) rfl) rfl
theorem zw_1146 : Cond.constantLong "SentRoadsModel" 99 (7 : Int64) ∈ zT := zci_5 (List.mem_of_getElem? (i := 147) rfl) rfl
theorem zw_1147 : Cond.methodLink "SentRoadsModel" 105 yX10_addPaper ∈ zT := zci_5 (List.mem_of_getElem? (i := 148) rfl) rfl
theorem zw_1149 : Cond.instanceMethod yX10_addPaper ∈ zT := zci_5 (List.mem_of_getElem? (i := 150) rfl) rfl
theorem zw_1150 : Cond.code yX10_addPaper cX10_addPaper 10 (some .int) ∈ zT := zci_5 (List.mem_of_getElem? (i := 151) rfl) rfl
theorem zw_1151 : Cond.methodLink "SentRoadsLaw" 31 yX10_named ∈ zT := zci_5 (List.mem_of_getElem? (i := 152) rfl) rfl
theorem zw_1152 : Cond.instanceMethod yX10_named ∈ zT := zci_5 (List.mem_of_getElem? (i := 153) rfl) rfl
theorem zw_1153 : Cond.selects "SentRoadsModel" yX10_named yX10_named ∈ zT := zci_5 (List.mem_of_getElem? (i := 154) rfl) rfl
theorem zw_1154 : Cond.code yX10_named cX10_named 9 (some .int) ∈ zT := zci_5 (List.mem_of_getElem? (i := 155) rfl) rfl
theorem zw_1155 : Cond.methodLink "SentRoadsLaw" 36 yX10_custom ∈ zT := zci_5 (List.mem_of_getElem? (i := 156) rfl) rfl
theorem zw_1156 : Cond.instanceMethod yX10_custom ∈ zT := zci_5 (List.mem_of_getElem? (i := 157) rfl) rfl
theorem zw_1157 : Cond.selects "SentRoadsModel" yX10_custom yX10_custom ∈ zT := zci_5 (List.mem_of_getElem? (i := 158) rfl) rfl
theorem zw_1158 : Cond.code yX10_custom cX10_custom 6 (some .int) ∈ zT := zci_5 (List.mem_of_getElem? (i := 159) rfl) rfl
theorem zw_1159 : Cond.methodLink "SentRoadsLaw" 53 yX10_crimeOf ∈ zT := zci_5 (List.mem_of_getElem? (i := 160) rfl) rfl
theorem zw_1160 : Cond.instanceMethod yX10_crimeOf ∈ zT := zci_5 (List.mem_of_getElem? (i := 161) rfl) rfl
theorem zw_1161 : Cond.selects "SentRoadsModel" yX10_crimeOf yX10_crimeOf ∈ zT := zci_5 (List.mem_of_getElem? (i := 162) rfl) rfl
theorem zw_1162 : Cond.code yX10_crimeOf cX10_crimeOf 3 (some .int) ∈ zT := zci_5 (List.mem_of_getElem? (i := 163) rfl) rfl
theorem zw_1163 : Cond.methodLink "SentRoadsLaw" 57 yX10_paper ∈ zT := zci_5 (List.mem_of_getElem? (i := 164) rfl) rfl
theorem zw_1164 : Cond.instanceMethod yX10_paper ∈ zT := zci_5 (List.mem_of_getElem? (i := 165) rfl) rfl
theorem zw_1165 : Cond.selects "SentRoadsModel" yX10_paper yX10_paper ∈ zT := zci_5 (List.mem_of_getElem? (i := 166) rfl) rfl
theorem zw_1166 : Cond.code yX10_paper cX10_paper 5 (some .int) ∈ zT := zci_5 (List.mem_of_getElem? (i := 167) rfl) rfl
theorem zw_1167 : Cond.methodLink "SentRoadsModel" 109 yX10_isPaper ∈ zT := zci_5 (List.mem_of_getElem? (i := 168) rfl) rfl
theorem zw_1169 : Cond.instanceMethod yX10_isPaper ∈ zT := zci_5 (List.mem_of_getElem? (i := 170) rfl) rfl
theorem zw_1170 : Cond.code yX10_isPaper cX10_isPaper 2 (some .boolean) ∈ zT := zci_5 (List.mem_of_getElem? (i := 171) rfl) rfl
theorem zw_1171 : Cond.methodLink "SentRoadsLaw" 61 yX10_bars ∈ zT := zci_5 (List.mem_of_getElem? (i := 172) rfl) rfl
theorem zw_1172 : Cond.instanceMethod yX10_bars ∈ zT := zci_5 (List.mem_of_getElem? (i := 173) rfl) rfl
theorem zw_1173 : Cond.selects "SentRoadsModel" yX10_bars yX10_bars ∈ zT := zci_5 (List.mem_of_getElem? (i := 174) rfl) rfl
theorem zw_1174 : Cond.code yX10_bars cX10_bars 4 (some .int) ∈ zT := zci_5 (List.mem_of_getElem? (i := 175) rfl) rfl
theorem zw_1175 : Cond.methodLink "SentRoadsLaw" 66 yX10_matches ∈ zT := zci_5 (List.mem_of_getElem? (i := 176) rfl) rfl
theorem zw_1176 : Cond.instanceMethod yX10_matches ∈ zT := zci_5 (List.mem_of_getElem? (i := 177) rfl) rfl
theorem zw_1177 : Cond.selects "SentRoadsModel" yX10_matches yX10_matches ∈ zT := zci_5 (List.mem_of_getElem? (i := 178) rfl) rfl
theorem zw_1178 : Cond.code yX10_matches cX10_matches 4 (some .int) ∈ zT := zci_5 (List.mem_of_getElem? (i := 179) rfl) rfl
theorem zw_1179 : Cond.methodLink "SentRoadsModel" 120 yX10_isDeed ∈ zT := zci_5 (List.mem_of_getElem? (i := 180) rfl) rfl
theorem zw_1181 : Cond.instanceMethod yX10_isDeed ∈ zT := zci_5 (List.mem_of_getElem? (i := 182) rfl) rfl
theorem zw_1182 : Cond.code yX10_isDeed cX10_isDeed 2 (some .boolean) ∈ zT := zci_5 (List.mem_of_getElem? (i := 183) rfl) rfl
theorem zw_1183 : Cond.methodLink "SentRoadsModel" 116 yX10_crimesOf ∈ zT := zci_5 (List.mem_of_getElem? (i := 184) rfl) rfl
theorem zw_1185 : Cond.instanceMethod yX10_crimesOf ∈ zT := zci_5 (List.mem_of_getElem? (i := 186) rfl) rfl
theorem zw_1186 : Cond.code yX10_crimesOf cX10_crimesOf 5 (some .int) ∈ zT := zci_5 (List.mem_of_getElem? (i := 187) rfl) rfl
theorem zw_1187 : Cond.methodLink "SentRoadsModel" 112 yX10_areCrime ∈ zT := zci_5 (List.mem_of_getElem? (i := 188) rfl) rfl
theorem zw_1189 : Cond.instanceMethod yX10_areCrime ∈ zT := zci_5 (List.mem_of_getElem? (i := 190) rfl) rfl
theorem zw_1190 : Cond.code yX10_areCrime cX10_areCrime 3 (some .boolean) ∈ zT := zci_5 (List.mem_of_getElem? (i := 191) rfl) rfl
theorem zw_1191 : Cond.methodLink "SentRoadsLaw" 70 yX10_yearsOf ∈ zT := zci_5 (List.mem_of_getElem? (i := 192) rfl) rfl
theorem zw_1192 : Cond.instanceMethod yX10_yearsOf ∈ zT := zci_5 (List.mem_of_getElem? (i := 193) rfl) rfl
theorem zw_1193 : Cond.selects "SentRoadsModel" yX10_yearsOf yX10_yearsOf ∈ zT := zci_5 (List.mem_of_getElem? (i := 194) rfl) rfl
theorem zw_1194 : Cond.code yX10_yearsOf cX10_yearsOf 4 (some .int) ∈ zT := zci_5 (List.mem_of_getElem? (i := 195) rfl) rfl
theorem zw_1195 : Cond.methodLink "SentRoadsModel" 123 yX10_yearsFor ∈ zT := zci_5 (List.mem_of_getElem? (i := 196) rfl) rfl
theorem zw_1197 : Cond.instanceMethod yX10_yearsFor ∈ zT := zci_5 (List.mem_of_getElem? (i := 198) rfl) rfl
theorem zw_1198 : Cond.code yX10_yearsFor cX10_yearsFor 6 (some .int) ∈ zT := zci_5 (List.mem_of_getElem? (i := 199) rfl) rfl
theorem zw_1199 : Cond.methodLink "SentRoadsLaw" 79 yX10_count ∈ zT := zci_5 (List.mem_of_getElem? (i := 200) rfl) rfl
theorem zw_1200 : Cond.instanceMethod yX10_count ∈ zT := zci_5 (List.mem_of_getElem? (i := 201) rfl) rfl
theorem zw_1201 : Cond.selects "SentRoadsModel" yX10_count yX10_count ∈ zT := zci_5 (List.mem_of_getElem? (i := 202) rfl) rfl
theorem zw_1202 : Cond.code yX10_count cX10_count 2 (some .int) ∈ zT := zci_5 (List.mem_of_getElem? (i := 203) rfl) rfl
theorem zw_1203 : Cond.methodLink "SentRoadsLaw" 83 yX10_man ∈ zT := zci_5 (List.mem_of_getElem? (i := 204) rfl) rfl
theorem zw_1204 : Cond.instanceMethod yX10_man ∈ zT := zci_5 (List.mem_of_getElem? (i := 205) rfl) rfl
theorem zw_1205 : Cond.selects "SentRoadsModel" yX10_man yX10_man ∈ zT := zci_5 (List.mem_of_getElem? (i := 206) rfl) rfl
theorem zw_1206 : Cond.code yX10_man cX10_man 4 (some .int) ∈ zT := zci_5 (List.mem_of_getElem? (i := 207) rfl) rfl
theorem zw_1207 : Cond.constantLong "SentRoadsModel" 129 (2 : Int64) ∈ zT := zci_5 (List.mem_of_getElem? (i := 208) rfl) rfl
theorem zw_1208 : Cond.methodLink "SentRoadsLaw" 88 yX10_judged ∈ zT := zci_5 (List.mem_of_getElem? (i := 209) rfl) rfl
theorem zw_1209 : Cond.instanceMethod yX10_judged ∈ zT := zci_5 (List.mem_of_getElem? (i := 210) rfl) rfl
theorem zw_1210 : Cond.selects "SentRoadsModel" yX10_judged yX10_judged ∈ zT := zci_5 (List.mem_of_getElem? (i := 211) rfl) rfl
theorem zw_1211 : Cond.code yX10_judged cX10_judged 4 (some .int) ∈ zT := zci_5 (List.mem_of_getElem? (i := 212) rfl) rfl
theorem zw_1212 : Cond.methodLink "SentRoadsLaw" 92 yX10_bound ∈ zT := zci_5 (List.mem_of_getElem? (i := 213) rfl) rfl
theorem zw_1213 : Cond.instanceMethod yX10_bound ∈ zT := zci_5 (List.mem_of_getElem? (i := 214) rfl) rfl
theorem zw_1214 : Cond.selects "SentRoadsModel" yX10_bound yX10_bound ∈ zT := zci_5 (List.mem_of_getElem? (i := 215) rfl) rfl
theorem zw_1215 : Cond.code yX10_bound cX10_bound 2 (some .int) ∈ zT := zci_5 (List.mem_of_getElem? (i := 216) rfl) rfl
theorem zw_1216 : Cond.methodLink "SentRoadsModel" 131 yX10_allDeeds ∈ zT := zci_5 (List.mem_of_getElem? (i := 217) rfl) rfl
theorem zw_1218 : Cond.instanceMethod yX10_allDeeds ∈ zT := zci_5 (List.mem_of_getElem? (i := 219) rfl) rfl
theorem zw_1219 : Cond.code yX10_allDeeds cX10_allDeeds 1 (some .int) ∈ zT := zci_5 (List.mem_of_getElem? (i := 220) rfl) rfl
theorem zw_1220 : Cond.methodLink "SentRoadsLaw" 96 yX10_covers ∈ zT := zci_5 (List.mem_of_getElem? (i := 221) rfl) rfl
theorem zw_1221 : Cond.instanceMethod yX10_covers ∈ zT := zci_5 (List.mem_of_getElem? (i := 222) rfl) rfl
theorem zw_1222 : Cond.selects "SentRoadsModel" yX10_covers yX10_covers ∈ zT := zci_5 (List.mem_of_getElem? (i := 223) rfl) rfl
theorem zw_1223 : Cond.code yX10_covers cX10_covers 4 (some .int) ∈ zT := zci_5 (List.mem_of_getElem? (i := 224) rfl) rfl
theorem zw_1224 : Cond.methodLink "SentRoadsModel" 138 yX10_isCovered ∈ zT := zci_5 (List.mem_of_getElem? (i := 225) rfl) rfl
theorem zw_1226 : Cond.instanceMethod yX10_isCovered ∈ zT := zci_5 (List.mem_of_getElem? (i := 227) rfl) rfl
theorem zw_1227 : Cond.code yX10_isCovered cX10_isCovered 6 (some .boolean) ∈ zT := zci_5 (List.mem_of_getElem? (i := 228) rfl) rfl
theorem zw_1228 : Cond.methodLink "SentRoadsLaw" 104 yX10_barred ∈ zT := zci_5 (List.mem_of_getElem? (i := 229) rfl) rfl
theorem zw_1229 : Cond.instanceMethod yX10_barred ∈ zT := zci_5 (List.mem_of_getElem? (i := 230) rfl) rfl
theorem zw_1230 : Cond.selects "SentRoadsModel" yX10_barred yX10_barred ∈ zT := zci_5 (List.mem_of_getElem? (i := 231) rfl) rfl
theorem zw_1231 : Cond.code yX10_barred cX10_barred 3 (some .int) ∈ zT := zci_5 (List.mem_of_getElem? (i := 232) rfl) rfl
theorem zw_1232 : Cond.methodLink "SentRoadsModel" 141 yX10_standing ∈ zT := zci_5 (List.mem_of_getElem? (i := 233) rfl) rfl
theorem zw_1234 : Cond.instanceMethod yX10_standing ∈ zT := zci_5 (List.mem_of_getElem? (i := 235) rfl) rfl
theorem zw_1235 : Cond.code yX10_standing cX10_standing 6 (some .int) ∈ zT := zci_5 (List.mem_of_getElem? (i := 236) rfl) rfl
theorem zw_1236 : Cond.methodLink "SentRoadsModel" 135 yX10_isDeadly ∈ zT := zci_5 (List.mem_of_getElem? (i := 237) rfl) rfl
theorem zw_1238 : Cond.instanceMethod yX10_isDeadly ∈ zT := zci_5 (List.mem_of_getElem? (i := 239) rfl) rfl
theorem zw_1239 : Cond.code yX10_isDeadly cX10_isDeadly 6 (some .boolean) ∈ zT := zci_6 (List.mem_of_getElem? (i := 0) rfl) rfl
theorem zw_1240 : Cond.methodLink "SentRoadsLaw" 100 yX10_lets ∈ zT := zci_6 (List.mem_of_getElem? (i := 1) rfl) rfl
theorem zw_1241 : Cond.instanceMethod yX10_lets ∈ zT := zci_6 (List.mem_of_getElem? (i := 2) rfl) rfl
theorem zw_1242 : Cond.selects "SentRoadsModel" yX10_lets yX10_lets ∈ zT := zci_6 (List.mem_of_getElem? (i := 3) rfl) rfl
theorem zw_1243 : Cond.code yX10_lets cX10_lets 2 (some .int) ∈ zT := zci_6 (List.mem_of_getElem? (i := 4) rfl) rfl
theorem zw_1244 : Cond.methodLink "SentRoadsModel" 151 yX10_findOpen ∈ zT := zci_6 (List.mem_of_getElem? (i := 5) rfl) rfl
theorem zw_1246 : Cond.instanceMethod yX10_findOpen ∈ zT := zci_6 (List.mem_of_getElem? (i := 7) rfl) rfl
theorem zw_1247 : Cond.code yX10_findOpen cX10_findOpen 3 none ∈ zT := zci_6 (List.mem_of_getElem? (i := 8) rfl) rfl
theorem zw_1248 : Cond.methodLink "SentRoadsModel" 154 yX10_goesNow ∈ zT := zci_6 (List.mem_of_getElem? (i := 9) rfl) rfl
theorem zw_1250 : Cond.instanceMethod yX10_goesNow ∈ zT := zci_6 (List.mem_of_getElem? (i := 11) rfl) rfl
theorem zw_1251 : Cond.code yX10_goesNow cX10_goesNow 2 (some .int) ∈ zT := zci_6 (List.mem_of_getElem? (i := 12) rfl) rfl
theorem zw_1252 : Cond.methodLink "SentRoadsModel" 147 yX10_goes ∈ zT := zci_6 (List.mem_of_getElem? (i := 13) rfl) rfl
theorem zw_1254 : Cond.instanceMethod yX10_goes ∈ zT := zci_6 (List.mem_of_getElem? (i := 15) rfl) rfl
theorem zw_1255 : Cond.code yX10_goes cX10_goes 8 (some .int) ∈ zT := zci_6 (List.mem_of_getElem? (i := 16) rfl) rfl
theorem zw_1256 : Cond.methodLink "SentRoadsModel" 144 yX10_mayGo ∈ zT := zci_6 (List.mem_of_getElem? (i := 17) rfl) rfl
theorem zw_1258 : Cond.instanceMethod yX10_mayGo ∈ zT := zci_6 (List.mem_of_getElem? (i := 19) rfl) rfl
theorem zw_1259 : Cond.code yX10_mayGo cX10_mayGo 8 (some .boolean) ∈ zT := zci_6 (List.mem_of_getElem? (i := 20) rfl) rfl
theorem zw_1260 : Cond.methodLink "SentRoadsLaw" 108 yX10_send ∈ zT := zci_6 (List.mem_of_getElem? (i := 21) rfl) rfl
theorem zw_1261 : Cond.instanceMethod yX10_send ∈ zT := zci_6 (List.mem_of_getElem? (i := 22) rfl) rfl
theorem zw_1262 : Cond.selects "SentRoadsModel" yX10_send yX10_send ∈ zT := zci_6 (List.mem_of_getElem? (i := 23) rfl) rfl
theorem zw_1263 : Cond.code yX10_send cX10_send 4 (some .int) ∈ zT := zci_6 (List.mem_of_getElem? (i := 24) rfl) rfl
theorem zw_1264 : Cond.methodLink "SentRoadsModel" 158 yX10_lets ∈ zT := zci_6 (List.mem_of_getElem? (i := 25) rfl) rfl
theorem zw_1265 : Cond.methodLink "SentRoadsLaw" 112 yX10_tried ∈ zT := zci_6 (List.mem_of_getElem? (i := 26) rfl) rfl
theorem zw_1266 : Cond.instanceMethod yX10_tried ∈ zT := zci_6 (List.mem_of_getElem? (i := 27) rfl) rfl
theorem zw_1267 : Cond.selects "SentRoadsModel" yX10_tried yX10_tried ∈ zT := zci_6 (List.mem_of_getElem? (i := 28) rfl) rfl
theorem zw_1268 : Cond.code yX10_tried cX10_tried 1 (some .int) ∈ zT := zci_6 (List.mem_of_getElem? (i := 29) rfl) rfl
theorem zw_1269 : Cond.methodLink "SentRoadsModel" 165 yX10_triedAt ∈ zT := zci_6 (List.mem_of_getElem? (i := 30) rfl) rfl
theorem zw_1271 : Cond.instanceMethod yX10_triedAt ∈ zT := zci_6 (List.mem_of_getElem? (i := 32) rfl) rfl
theorem zw_1272 : Cond.code yX10_triedAt cX10_triedAt 5 (some .int) ∈ zT := zci_6 (List.mem_of_getElem? (i := 33) rfl) rfl
theorem zw_1273 : Cond.methodLink "SentRoadsModel" 161 yX10_isTried ∈ zT := zci_6 (List.mem_of_getElem? (i := 34) rfl) rfl
theorem zw_1275 : Cond.instanceMethod yX10_isTried ∈ zT := zci_6 (List.mem_of_getElem? (i := 36) rfl) rfl
theorem zw_1276 : Cond.code yX10_isTried cX10_isTried 4 (some .boolean) ∈ zT := zci_6 (List.mem_of_getElem? (i := 37) rfl) rfl
theorem zw_1277 : Cond.methodLink "SentRoadsLaw" 116 yX10_road ∈ zT := zci_6 (List.mem_of_getElem? (i := 38) rfl) rfl
theorem zw_1278 : Cond.instanceMethod yX10_road ∈ zT := zci_6 (List.mem_of_getElem? (i := 39) rfl) rfl
theorem zw_1279 : Cond.selects "SentRoadsModel" yX10_road yX10_road ∈ zT := zci_6 (List.mem_of_getElem? (i := 40) rfl) rfl
theorem zw_1280 : Cond.code yX10_road cX10_road 8 (some .int) ∈ zT := zci_6 (List.mem_of_getElem? (i := 41) rfl) rfl
theorem zw_1281 : Cond.methodLink "SentRoadsModel" 179 yX10_findStates ∈ zT := zci_6 (List.mem_of_getElem? (i := 42) rfl) rfl
theorem zw_1283 : Cond.instanceMethod yX10_findStates ∈ zT := zci_6 (List.mem_of_getElem? (i := 44) rfl) rfl
theorem zw_1284 : Cond.code yX10_findStates cX10_findStates 11 none ∈ zT := zci_6 (List.mem_of_getElem? (i := 45) rfl) rfl
theorem zw_1285 : Cond.methodLink "SentRoadsModel" 171 yX10_codeOf ∈ zT := zci_6 (List.mem_of_getElem? (i := 46) rfl) rfl
theorem zw_1287 : Cond.instanceMethod yX10_codeOf ∈ zT := zci_6 (List.mem_of_getElem? (i := 48) rfl) rfl
theorem zw_1288 : Cond.code yX10_codeOf cX10_codeOf 5 (some .int) ∈ zT := zci_6 (List.mem_of_getElem? (i := 49) rfl) rfl
theorem zw_1289 : Cond.methodLink "SentRoadsModel" 175 yX10_come ∈ zT := zci_6 (List.mem_of_getElem? (i := 50) rfl) rfl
theorem zw_1291 : Cond.instanceMethod yX10_come ∈ zT := zci_6 (List.mem_of_getElem? (i := 52) rfl) rfl
theorem zw_1292 : Cond.code yX10_come cX10_come 4 none ∈ zT := zci_6 (List.mem_of_getElem? (i := 53) rfl) rfl
theorem zw_1293 : Cond.methodLink "SentRoadsLaw" 120 yX10_lands ∈ zT := zci_6 (List.mem_of_getElem? (i := 54) rfl) rfl
theorem zw_1294 : Cond.instanceMethod yX10_lands ∈ zT := zci_6 (List.mem_of_getElem? (i := 55) rfl) rfl
theorem zw_1295 : Cond.selects "SentRoadsModel" yX10_lands yX10_lands ∈ zT := zci_6 (List.mem_of_getElem? (i := 56) rfl) rfl
theorem zw_1296 : Cond.code yX10_lands cX10_lands 3 (some .int) ∈ zT := zci_6 (List.mem_of_getElem? (i := 57) rfl) rfl
theorem zw_1297 : Cond.methodLink "SentRoadsLaw" 124 yX10_safe ∈ zT := zci_6 (List.mem_of_getElem? (i := 58) rfl) rfl
theorem zw_1298 : Cond.instanceMethod yX10_safe ∈ zT := zci_6 (List.mem_of_getElem? (i := 59) rfl) rfl
theorem zw_1299 : Cond.selects "SentRoadsModel" yX10_safe yX10_safe ∈ zT := zci_6 (List.mem_of_getElem? (i := 60) rfl) rfl
theorem zw_1300 : Cond.code yX10_safe cX10_safe 6 (some .int) ∈ zT := zci_6 (List.mem_of_getElem? (i := 61) rfl) rfl
theorem zw_1301 : Cond.methodLink "SentRoadsLaw" 128 yX10_demand ∈ zT := zci_6 (List.mem_of_getElem? (i := 62) rfl) rfl
theorem zw_1302 : Cond.instanceMethod yX10_demand ∈ zT := zci_6 (List.mem_of_getElem? (i := 63) rfl) rfl
theorem zw_1303 : Cond.selects "SentRoadsModel" yX10_demand yX10_demand ∈ zT := zci_6 (List.mem_of_getElem? (i := 64) rfl) rfl
theorem zw_1304 : Cond.code yX10_demand cX10_demand 4 (some .int) ∈ zT := zci_6 (List.mem_of_getElem? (i := 65) rfl) rfl
theorem zw_1305 : Cond.methodLink "SentRoadsLaw" 132 yX10_ahead ∈ zT := zci_6 (List.mem_of_getElem? (i := 66) rfl) rfl
theorem zw_1306 : Cond.instanceMethod yX10_ahead ∈ zT := zci_6 (List.mem_of_getElem? (i := 67) rfl) rfl
theorem zw_1307 : Cond.selects "SentRoadsModel" yX10_ahead yX10_ahead ∈ zT := zci_6 (List.mem_of_getElem? (i := 68) rfl) rfl
theorem zw_1308 : Cond.code yX10_ahead cX10_ahead 5 (some .int) ∈ zT := zci_6 (List.mem_of_getElem? (i := 69) rfl) rfl
theorem zw_1309 : Cond.methodLink "SentRoadsModel" 182 yX10_standsFor ∈ zT := zci_6 (List.mem_of_getElem? (i := 70) rfl) rfl
theorem zw_1311 : Cond.instanceMethod yX10_standsFor ∈ zT := zci_6 (List.mem_of_getElem? (i := 72) rfl) rfl
theorem zw_1312 : Cond.code yX10_standsFor cX10_standsFor 4 (some .int) ∈ zT := zci_6 (List.mem_of_getElem? (i := 73) rfl) rfl
theorem zw_1313 : Cond.methodLink "SentRoadsModel" 191 yX10_isAhead ∈ zT := zci_6 (List.mem_of_getElem? (i := 74) rfl) rfl
theorem zw_1315 : Cond.instanceMethod yX10_isAhead ∈ zT := zci_6 (List.mem_of_getElem? (i := 76) rfl) rfl
theorem zw_1316 : Cond.code yX10_isAhead cX10_isAhead 5 (some .boolean) ∈ zT := zci_6 (List.mem_of_getElem? (i := 77) rfl) rfl
theorem zw_1317 : Cond.methodLink "SentRoadsModel" 185 yX10_greatestYears ∈ zT := zci_6 (List.mem_of_getElem? (i := 78) rfl) rfl
theorem zw_1319 : Cond.instanceMethod yX10_greatestYears ∈ zT := zci_6 (List.mem_of_getElem? (i := 80) rfl) rfl
theorem zw_1320 : Cond.code yX10_greatestYears cX10_greatestYears 6 (some .int) ∈ zT := zci_6 (List.mem_of_getElem? (i := 81) rfl) rfl
theorem zw_1321 : Cond.methodLink "SentRoadsModel" 188 yX10_wasThere ∈ zT := zci_6 (List.mem_of_getElem? (i := 82) rfl) rfl
theorem zw_1323 : Cond.instanceMethod yX10_wasThere ∈ zT := zci_6 (List.mem_of_getElem? (i := 84) rfl) rfl
theorem zw_1324 : Cond.code yX10_wasThere cX10_wasThere 5 (some .int) ∈ zT := zci_6 (List.mem_of_getElem? (i := 85) rfl) rfl
theorem zw_1325 : Cond.methodLink "SentRoadsLaw" 136 yX10_promises ∈ zT := zci_6 (List.mem_of_getElem? (i := 86) rfl) rfl
theorem zw_1326 : Cond.instanceMethod yX10_promises ∈ zT := zci_6 (List.mem_of_getElem? (i := 87) rfl) rfl
theorem zw_1327 : Cond.selects "SentRoadsModel" yX10_promises yX10_promises ∈ zT := zci_6 (List.mem_of_getElem? (i := 88) rfl) rfl
theorem zw_1328 : Cond.code yX10_promises cX10_promises 6 (some .int) ∈ zT := zci_6 (List.mem_of_getElem? (i := 89) rfl) rfl
theorem zw_1329 : Cond.methodLink "SentRoadsModel" 194 yX10_ones ∈ zT := zci_6 (List.mem_of_getElem? (i := 90) rfl) rfl
theorem zw_1330 : Cond.static yX10_ones ∈ zT := zci_6 (List.mem_of_getElem? (i := 91) rfl) rfl
theorem zw_1331 : Cond.code yX10_ones cX10_ones 3 (some .int) ∈ zT := zci_6 (List.mem_of_getElem? (i := 92) rfl) rfl
theorem zw_1332 : Cond.methodLink "SentRoadsLaw" 140 yX10_mended ∈ zT := zci_6 (List.mem_of_getElem? (i := 93) rfl) rfl
theorem zw_1333 : Cond.instanceMethod yX10_mended ∈ zT := zci_6 (List.mem_of_getElem? (i := 94) rfl) rfl
theorem zw_1334 : Cond.selects "SentRoadsModel" yX10_mended yX10_mended ∈ zT := zci_6 (List.mem_of_getElem? (i := 95) rfl) rfl
theorem zw_1335 : Cond.code yX10_mended cX10_mended 9 (some .int) ∈ zT := zci_6 (List.mem_of_getElem? (i := 96) rfl) rfl
theorem zw_1336 : Cond.methodLink "SentRoadsModel" 197 yX10_canFollow ∈ zT := zci_6 (List.mem_of_getElem? (i := 97) rfl) rfl
theorem zw_1338 : Cond.instanceMethod yX10_canFollow ∈ zT := zci_6 (List.mem_of_getElem? (i := 99) rfl) rfl
theorem zw_1339 : Cond.code yX10_canFollow cX10_canFollow 6 (some .boolean) ∈ zT := zci_6 (List.mem_of_getElem? (i := 100) rfl) rfl
theorem zw_1340 : Cond.methodLink "SentRoadsLaw" 144 yX10_part ∈ zT := zci_6 (List.mem_of_getElem? (i := 101) rfl) rfl
theorem zw_1341 : Cond.instanceMethod yX10_part ∈ zT := zci_6 (List.mem_of_getElem? (i := 102) rfl) rfl
theorem zw_1342 : Cond.selects "SentRoadsModel" yX10_part yX10_part ∈ zT := zci_6 (List.mem_of_getElem? (i := 103) rfl) rfl
theorem zw_1343 : Cond.code yX10_part cX10_part 7 (some .int) ∈ zT := zci_6 (List.mem_of_getElem? (i := 104) rfl) rfl
theorem zw_1344 : Cond.methodLink "SentRoadsLaw" 43 yX10_type ∈ zT := zci_6 (List.mem_of_getElem? (i := 105) rfl) rfl
theorem zw_1345 : Cond.instanceMethod yX10_type ∈ zT := zci_6 (List.mem_of_getElem? (i := 106) rfl) rfl
theorem zw_1346 : Cond.selects "SentRoadsModel" yX10_type yX10_type ∈ zT := zci_6 (List.mem_of_getElem? (i := 107) rfl) rfl
theorem zw_1347 : Cond.code yX10_type cX10_type 5 (some .int) ∈ zT := zci_6 (List.mem_of_getElem? (i := 108) rfl) rfl
theorem zw_1348 : Cond.constantLong "SentRoadsModel" 200 (8 : Int64) ∈ zT := zci_6 (List.mem_of_getElem? (i := 109) rfl) rfl
theorem zw_1349 : Cond.constantLong "SentRoadsModel" 202 (255 : Int64) ∈ zT := zci_6 (List.mem_of_getElem? (i := 110) rfl) rfl
theorem zw_1350 : Cond.constantLong "SentRoadsModel" 204 (32 : Int64) ∈ zT := zci_6 (List.mem_of_getElem? (i := 111) rfl) rfl
theorem zw_1351 : Cond.constantLong "SentRoadsModel" 206 (126 : Int64) ∈ zT := zci_6 (List.mem_of_getElem? (i := 112) rfl) rfl
theorem zw_1352 : Cond.methodLink "SentRoadsLaw" 48 yX10_world ∈ zT := zci_6 (List.mem_of_getElem? (i := 113) rfl) rfl
theorem zw_1353 : Cond.instanceMethod yX10_world ∈ zT := zci_6 (List.mem_of_getElem? (i := 114) rfl) rfl
theorem zw_1354 : Cond.selects "SentRoadsModel" yX10_world yX10_world ∈ zT := zci_6 (List.mem_of_getElem? (i := 115) rfl) rfl
theorem zw_1355 : Cond.code yX10_world cX10_world 4 (some .int) ∈ zT := zci_6 (List.mem_of_getElem? (i := 116) rfl) rfl
theorem zw_1356 : Cond.methodLink "SentRoadsModel" 248 yX10_readWorld ∈ zT := zci_6 (List.mem_of_getElem? (i := 117) rfl) rfl
theorem zw_1358 : Cond.instanceMethod yX10_readWorld ∈ zT := zci_6 (List.mem_of_getElem? (i := 119) rfl) rfl
theorem zw_1359 : Cond.code yX10_readWorld cX10_readWorld 4 (some .boolean) ∈ zT := zci_6 (List.mem_of_getElem? (i := 120) rfl) rfl
theorem zw_1360 : Cond.methodLink "SentRoadsModel" 214 yX10_next ∈ zT := zci_6 (List.mem_of_getElem? (i := 121) rfl) rfl
theorem zw_1362 : Cond.instanceMethod yX10_next ∈ zT := zci_6 (List.mem_of_getElem? (i := 123) rfl) rfl
theorem zw_1363 : Cond.code yX10_next cX10_next 1 (some .int) ∈ zT := zci_6 (List.mem_of_getElem? (i := 124) rfl) rfl
theorem zw_1364 : Cond.methodLink "SentRoadsModel" 227 yX10_takes ∈ zT := zci_6 (List.mem_of_getElem? (i := 125) rfl) rfl
theorem zw_1366 : Cond.instanceMethod yX10_takes ∈ zT := zci_6 (List.mem_of_getElem? (i := 127) rfl) rfl
theorem zw_1367 : Cond.code yX10_takes cX10_takes 3 (some .boolean) ∈ zT := zci_6 (List.mem_of_getElem? (i := 128) rfl) rfl
theorem zw_1368 : Cond.methodLink "SentRoadsModel" 242 yX10_readCrime ∈ zT := zci_6 (List.mem_of_getElem? (i := 129) rfl) rfl
theorem zw_1370 : Cond.instanceMethod yX10_readCrime ∈ zT := zci_6 (List.mem_of_getElem? (i := 131) rfl) rfl
theorem zw_1371 : Cond.code yX10_readCrime cX10_readCrime 7 (some .boolean) ∈ zT := zci_6 (List.mem_of_getElem? (i := 132) rfl) rfl
theorem zw_1372 : Cond.methodLink "SentRoadsModel" 224 yX10_readMarks ∈ zT := zci_6 (List.mem_of_getElem? (i := 133) rfl) rfl
theorem zw_1374 : Cond.instanceMethod yX10_readMarks ∈ zT := zci_6 (List.mem_of_getElem? (i := 135) rfl) rfl
theorem zw_1375 : Cond.code yX10_readMarks cX10_readMarks 7 (some .int) ∈ zT := zci_6 (List.mem_of_getElem? (i := 136) rfl) rfl
theorem zw_1376 : Cond.methodLink "SentRoadsModel" 230 yX10_readNumber ∈ zT := zci_6 (List.mem_of_getElem? (i := 137) rfl) rfl
theorem zw_1378 : Cond.instanceMethod yX10_readNumber ∈ zT := zci_6 (List.mem_of_getElem? (i := 139) rfl) rfl
theorem zw_1379 : Cond.code yX10_readNumber cX10_readNumber 5 (some .int) ∈ zT := zci_6 (List.mem_of_getElem? (i := 140) rfl) rfl
theorem zw_1380 : Cond.constantLong "SentRoadsModel" 217 (48 : Int64) ∈ zT := zci_6 (List.mem_of_getElem? (i := 141) rfl) rfl
theorem zw_1381 : Cond.constantLong "SentRoadsModel" 219 (57 : Int64) ∈ zT := zci_6 (List.mem_of_getElem? (i := 142) rfl) rfl
theorem zw_1382 : Cond.methodLink "SentRoadsModel" 245 yX10_readPaper ∈ zT := zci_6 (List.mem_of_getElem? (i := 143) rfl) rfl
theorem zw_1384 : Cond.instanceMethod yX10_readPaper ∈ zT := zci_6 (List.mem_of_getElem? (i := 145) rfl) rfl
theorem zw_1385 : Cond.code yX10_readPaper cX10_readPaper 9 (some .boolean) ∈ zT := zci_6 (List.mem_of_getElem? (i := 146) rfl) rfl
theorem zw_1386 : Cond.methodLink "SentRoadsModel" 236 yX10_barOf ∈ zT := zci_6 (List.mem_of_getElem? (i := 147) rfl) rfl
theorem zw_1387 : Cond.static yX10_barOf ∈ zT := zci_6 (List.mem_of_getElem? (i := 148) rfl) rfl
theorem zw_1388 : Cond.code yX10_barOf cX10_barOf 1 (some .int) ∈ zT := zci_6 (List.mem_of_getElem? (i := 149) rfl) rfl
theorem zw_1389 : Cond.methodLink "SentRoadsModel" 239 yX10_promiseOf ∈ zT := zci_6 (List.mem_of_getElem? (i := 150) rfl) rfl
theorem zw_1390 : Cond.static yX10_promiseOf ∈ zT := zci_6 (List.mem_of_getElem? (i := 151) rfl) rfl
theorem zw_1391 : Cond.code yX10_promiseOf cX10_promiseOf 1 (some .int) ∈ zT := zci_6 (List.mem_of_getElem? (i := 152) rfl) rfl
theorem zw_1392 : Cond.methodLink "SentRoadsLaw" 148 yX10_image ∈ zT := zci_6 (List.mem_of_getElem? (i := 153) rfl) rfl
theorem zw_1393 : Cond.instanceMethod yX10_image ∈ zT := zci_6 (List.mem_of_getElem? (i := 154) rfl) rfl
theorem zw_1394 : Cond.selects "SentRoadsModel" yX10_image yX10_image ∈ zT := zci_6 (List.mem_of_getElem? (i := 155) rfl) rfl
theorem zw_1395 : Cond.code yX10_image cX10_image 1 (some .int) ∈ zT := zci_6 (List.mem_of_getElem? (i := 156) rfl) rfl
theorem zw_1396 : Cond.methodLink "SentRoadsModel" 255 yX10_keep ∈ zT := zci_6 (List.mem_of_getElem? (i := 157) rfl) rfl
theorem zw_1398 : Cond.instanceMethod yX10_keep ∈ zT := zci_6 (List.mem_of_getElem? (i := 159) rfl) rfl
theorem zw_1399 : Cond.code yX10_keep cX10_keep 3 none ∈ zT := zci_6 (List.mem_of_getElem? (i := 160) rfl) rfl
theorem zw_1400 : Cond.methodLink "SentRoadsLaw" 152 yX10_restore ∈ zT := zci_6 (List.mem_of_getElem? (i := 161) rfl) rfl
theorem zw_1401 : Cond.instanceMethod yX10_restore ∈ zT := zci_6 (List.mem_of_getElem? (i := 162) rfl) rfl
theorem zw_1402 : Cond.selects "SentRoadsModel" yX10_restore yX10_restore ∈ zT := zci_6 (List.mem_of_getElem? (i := 163) rfl) rfl
theorem zw_1403 : Cond.code yX10_restore cX10_restore 1 (some .int) ∈ zT := zci_6 (List.mem_of_getElem? (i := 164) rfl) rfl
theorem zw_1404 : Cond.methodLink "SentRoadsModel" 263 yX10_bring ∈ zT := zci_6 (List.mem_of_getElem? (i := 165) rfl) rfl
theorem zw_1406 : Cond.instanceMethod yX10_bring ∈ zT := zci_6 (List.mem_of_getElem? (i := 167) rfl) rfl
theorem zw_1407 : Cond.code yX10_bring cX10_bring 3 none ∈ zT := zci_6 (List.mem_of_getElem? (i := 168) rfl) rfl
theorem zw_1408 : Cond.methodLink "SentRoadsLaw" 156 yX10_sheet ∈ zT := zci_6 (List.mem_of_getElem? (i := 169) rfl) rfl
theorem zw_1409 : Cond.instanceMethod yX10_sheet ∈ zT := zci_6 (List.mem_of_getElem? (i := 170) rfl) rfl
theorem zw_1410 : Cond.selects "SentRoadsModel" yX10_sheet yX10_sheet ∈ zT := zci_6 (List.mem_of_getElem? (i := 171) rfl) rfl
theorem zw_1411 : Cond.code yX10_sheet cX10_sheet 5 (some .int) ∈ zT := zci_6 (List.mem_of_getElem? (i := 172) rfl) rfl
theorem zw_1412 : Cond.methodLink "SentRoadsModel" 268 yX10_isSheet ∈ zT := zci_6 (List.mem_of_getElem? (i := 173) rfl) rfl
theorem zw_1413 : Cond.static yX10_isSheet ∈ zT := zci_6 (List.mem_of_getElem? (i := 174) rfl) rfl
theorem zw_1414 : Cond.code yX10_isSheet cX10_isSheet 2 (some .boolean) ∈ zT := zci_6 (List.mem_of_getElem? (i := 175) rfl) rfl
theorem zw_1415 : Cond.constantLong "SentRoadsModel" 266 (3 : Int64) ∈ zT := zci_6 (List.mem_of_getElem? (i := 176) rfl) rfl
theorem zw_1416 : Cond.methodLink "SentRoadsLaw" 160 yX10_drop ∈ zT := zci_6 (List.mem_of_getElem? (i := 177) rfl) rfl
theorem zw_1417 : Cond.instanceMethod yX10_drop ∈ zT := zci_6 (List.mem_of_getElem? (i := 178) rfl) rfl
theorem zw_1418 : Cond.selects "SentRoadsModel" yX10_drop yX10_drop ∈ zT := zci_6 (List.mem_of_getElem? (i := 179) rfl) rfl
theorem zw_1419 : Cond.code yX10_drop cX10_drop 2 (some .int) ∈ zT := zci_6 (List.mem_of_getElem? (i := 180) rfl) rfl
theorem zw_1420 : Cond.methodLink "SentRoadsLaw" 164 yX10_item ∈ zT := zci_6 (List.mem_of_getElem? (i := 181) rfl) rfl
theorem zw_1421 : Cond.instanceMethod yX10_item ∈ zT := zci_6 (List.mem_of_getElem? (i := 182) rfl) rfl
theorem zw_1422 : Cond.selects "SentRoadsModel" yX10_item yX10_item ∈ zT := zci_6 (List.mem_of_getElem? (i := 183) rfl) rfl
theorem zw_1423 : Cond.code yX10_item cX10_item 6 (some .int) ∈ zT := zci_6 (List.mem_of_getElem? (i := 184) rfl) rfl
theorem zw_1424 : Cond.methodLink "SentRoadsModel" 271 yX10_lacksRow ∈ zT := zci_6 (List.mem_of_getElem? (i := 185) rfl) rfl
theorem zw_1426 : Cond.instanceMethod yX10_lacksRow ∈ zT := zci_6 (List.mem_of_getElem? (i := 187) rfl) rfl
theorem zw_1427 : Cond.code yX10_lacksRow cX10_lacksRow 5 (some .int) ∈ zT := zci_6 (List.mem_of_getElem? (i := 188) rfl) rfl
theorem zw_1428 : Cond.methodLink "SentRoadsLaw" 74 yX10_shows ∈ zT := zci_6 (List.mem_of_getElem? (i := 189) rfl) rfl
theorem zw_1429 : Cond.instanceMethod yX10_shows ∈ zT := zci_6 (List.mem_of_getElem? (i := 190) rfl) rfl
theorem zw_1430 : Cond.selects "SentRoadsModel" yX10_shows yX10_shows ∈ zT := zci_6 (List.mem_of_getElem? (i := 191) rfl) rfl
theorem zw_1431 : Cond.code yX10_shows cX10_shows 9 (some .int) ∈ zT := zci_6 (List.mem_of_getElem? (i := 192) rfl) rfl
theorem zw_1432 : Cond.constantLong "SentRoadsLaw" 37 (4294967295 : Int64) ∈ zT := zci_6 (List.mem_of_getElem? (i := 193) rfl) rfl
theorem zw_1433 : Cond.fieldLink "java/lang/String" 9 "java/lang/String" "value" "[B" ∈ zT := zci_6 (List.mem_of_getElem? (i := 194) rfl) rfl
theorem zw_1434 : Cond.fieldLink "java/lang/String" 15 "java/lang/String" "coder" "B" ∈ zT := zci_6 (List.mem_of_getElem? (i := 195) rfl) rfl
theorem zw_0 : Cond.selects "SentRoads" yX9_addPaper yX9_addPaper ∈ zT := zmem 0 (by decide +kernel) rfl
theorem zw_1 : Cond.selects "SentRoads" yX9_isPaper yX9_isPaper ∈ zT := zmem 1 (by decide +kernel) rfl
theorem zw_2 : Cond.selects "SentRoads" yX9_isDeed yX9_isDeed ∈ zT := zmem 2 (by decide +kernel) rfl
theorem zw_3 : Cond.selects "SentRoadsModel" yX10_free yX10_free ∈ zT := zmem 3 (by decide +kernel) rfl
theorem zw_4 : Cond.selects "SentRoadsModel" yX10_addCrime yX10_addCrime ∈ zT := zmem 4 (by decide +kernel) rfl
theorem zw_5 : Cond.selects "SentRoadsModel" yX10_addPaper yX10_addPaper ∈ zT := zmem 5 (by decide +kernel) rfl
theorem zw_6 : Cond.selects "SentRoadsModel" yX10_isPaper yX10_isPaper ∈ zT := zmem 6 (by decide +kernel) rfl
theorem zw_7 : Cond.selects "SentRoadsModel" yX10_isDeed yX10_isDeed ∈ zT := zmem 7 (by decide +kernel) rfl
theorem zw_8 : Cond.selects "SentRoadsModel" yX10_crimesOf yX10_crimesOf ∈ zT := zmem 8 (by decide +kernel) rfl
theorem zw_9 : Cond.selects "SentRoadsModel" yX10_areCrime yX10_areCrime ∈ zT := zmem 9 (by decide +kernel) rfl
theorem zw_10 : Cond.selects "SentRoadsModel" yX10_yearsFor yX10_yearsFor ∈ zT := zmem 10 (by decide +kernel) rfl
theorem zw_11 : Cond.selects "SentRoadsModel" yX10_allDeeds yX10_allDeeds ∈ zT := zmem 11 (by decide +kernel) rfl
theorem zw_12 : Cond.selects "SentRoadsModel" yX10_isCovered yX10_isCovered ∈ zT := zmem 12 (by decide +kernel) rfl
theorem zw_13 : Cond.selects "SentRoadsModel" yX10_standing yX10_standing ∈ zT := zmem 13 (by decide +kernel) rfl
theorem zw_14 : Cond.selects "SentRoadsModel" yX10_isDeadly yX10_isDeadly ∈ zT := zmem 14 (by decide +kernel) rfl
theorem zw_15 : Cond.selects "SentRoadsModel" yX10_findOpen yX10_findOpen ∈ zT := zmem 15 (by decide +kernel) rfl
theorem zw_16 : Cond.selects "SentRoadsModel" yX10_goesNow yX10_goesNow ∈ zT := zmem 16 (by decide +kernel) rfl
theorem zw_17 : Cond.selects "SentRoadsModel" yX10_goes yX10_goes ∈ zT := zmem 17 (by decide +kernel) rfl
theorem zw_18 : Cond.selects "SentRoadsModel" yX10_mayGo yX10_mayGo ∈ zT := zmem 18 (by decide +kernel) rfl
theorem zw_19 : Cond.selects "SentRoadsModel" yX10_triedAt yX10_triedAt ∈ zT := zmem 19 (by decide +kernel) rfl
theorem zw_20 : Cond.selects "SentRoadsModel" yX10_isTried yX10_isTried ∈ zT := zmem 20 (by decide +kernel) rfl
theorem zw_21 : Cond.selects "SentRoadsModel" yX10_findStates yX10_findStates ∈ zT := zmem 21 (by decide +kernel) rfl
theorem zw_22 : Cond.selects "SentRoadsModel" yX10_codeOf yX10_codeOf ∈ zT := zmem 22 (by decide +kernel) rfl
theorem zw_23 : Cond.selects "SentRoadsModel" yX10_come yX10_come ∈ zT := zmem 23 (by decide +kernel) rfl
theorem zw_24 : Cond.selects "SentRoadsModel" yX10_standsFor yX10_standsFor ∈ zT := zmem 24 (by decide +kernel) rfl
theorem zw_25 : Cond.selects "SentRoadsModel" yX10_isAhead yX10_isAhead ∈ zT := zmem 25 (by decide +kernel) rfl
theorem zw_26 : Cond.selects "SentRoadsModel" yX10_greatestYears yX10_greatestYears ∈ zT := zmem 26 (by decide +kernel) rfl
theorem zw_27 : Cond.selects "SentRoadsModel" yX10_wasThere yX10_wasThere ∈ zT := zmem 27 (by decide +kernel) rfl
theorem zw_28 : Cond.selects "SentRoadsModel" yX10_canFollow yX10_canFollow ∈ zT := zmem 28 (by decide +kernel) rfl
theorem zw_29 : Cond.selects "SentRoadsModel" yX10_readWorld yX10_readWorld ∈ zT := zmem 29 (by decide +kernel) rfl
theorem zw_30 : Cond.selects "SentRoadsModel" yX10_next yX10_next ∈ zT := zmem 30 (by decide +kernel) rfl
theorem zw_31 : Cond.selects "SentRoadsModel" yX10_takes yX10_takes ∈ zT := zmem 31 (by decide +kernel) rfl
theorem zw_32 : Cond.selects "SentRoadsModel" yX10_readCrime yX10_readCrime ∈ zT := zmem 32 (by decide +kernel) rfl
theorem zw_33 : Cond.selects "SentRoadsModel" yX10_readMarks yX10_readMarks ∈ zT := zmem 33 (by decide +kernel) rfl
theorem zw_34 : Cond.selects "SentRoadsModel" yX10_readNumber yX10_readNumber ∈ zT := zmem 34 (by decide +kernel) rfl
theorem zw_35 : Cond.selects "SentRoadsModel" yX10_readPaper yX10_readPaper ∈ zT := zmem 35 (by decide +kernel) rfl
theorem zw_36 : Cond.selects "SentRoadsModel" yX10_keep yX10_keep ∈ zT := zmem 36 (by decide +kernel) rfl
theorem zw_37 : Cond.selects "SentRoadsModel" yX10_bring yX10_bring ∈ zT := zmem 37 (by decide +kernel) rfl
theorem zw_38 : Cond.selects "SentRoadsModel" yX10_lacksRow yX10_lacksRow ∈ zT := zmem 38 (by decide +kernel) rfl
theorem zin_0 : ∀ w ∈ u_ws RX0 TX0 6, w ∈ zT := fun w h => (show ∀ w ∈ [Cond.lays "SentRoads$Crime" "SentRoads$Crime" "land" "I", Cond.lays "SentRoads$Crime" "SentRoads$Crime" "must" "I", Cond.lays "SentRoads$Crime" "SentRoads$Crime" "but" "I", Cond.lays "SentRoads$Crime" "SentRoads$Crime" "least" "I", Cond.lays "SentRoads$Crime" "SentRoads$Crime" "most" "I", Cond.lays "SentRoads$Crime" "SentRoads$Crime" "death" "Z"], w ∈ zT from (List.forall_mem_cons.mpr ⟨(zci_1 (List.mem_of_getElem? (i := 103) rfl) rfl), (List.forall_mem_cons.mpr ⟨(zci_1 (List.mem_of_getElem? (i := 105) rfl) rfl), (List.forall_mem_cons.mpr ⟨(zci_1 (List.mem_of_getElem? (i := 107) rfl) rfl), (List.forall_mem_cons.mpr ⟨(zci_1 (List.mem_of_getElem? (i := 109) rfl) rfl), (List.forall_mem_cons.mpr ⟨(zci_1 (List.mem_of_getElem? (i := 111) rfl) rfl), (List.forall_mem_cons.mpr ⟨(zci_1 (List.mem_of_getElem? (i := 113) rfl) rfl), (fun _ h => absurd h List.not_mem_nil)⟩)⟩)⟩)⟩)⟩)⟩)) w h
theorem zin_1 : ∀ w ∈ u_ws RX1 TX1 10, w ∈ zT := fun w h => (show ∀ w ∈ [Cond.lays "SentRoads$Deed" "SentRoads$Deed" "charged" "I", Cond.lays "SentRoads$Deed" "SentRoads$Deed" "shown" "I", Cond.lays "SentRoads$Deed" "SentRoads$Deed" "land" "I", Cond.lays "SentRoads$Deed" "SentRoads$Deed" "year" "I", Cond.lays "SentRoads$Deed" "SentRoads$Deed" "judged" "Z", Cond.lays "SentRoads$Deed" "SentRoads$Deed" "chargedCrimes" "I", Cond.lays "SentRoads$Deed" "SentRoads$Deed" "shownCrimes" "I", Cond.lays "SentRoads$Deed" "SentRoads$Deed" "deadlyLands" "I", Cond.laysFinal "SentRoads$Deed" "SentRoads$Deed" "chargedYears" "[I", Cond.laysFinal "SentRoads$Deed" "SentRoads$Deed" "shownYears" "[I"], w ∈ zT from (List.forall_mem_cons.mpr ⟨(zci_1 (List.mem_of_getElem? (i := 148) rfl) rfl), (List.forall_mem_cons.mpr ⟨(zci_1 (List.mem_of_getElem? (i := 150) rfl) rfl), (List.forall_mem_cons.mpr ⟨(zci_1 (List.mem_of_getElem? (i := 152) rfl) rfl), (List.forall_mem_cons.mpr ⟨(zci_1 (List.mem_of_getElem? (i := 154) rfl) rfl), (List.forall_mem_cons.mpr ⟨(zci_1 (List.mem_of_getElem? (i := 156) rfl) rfl), (List.forall_mem_cons.mpr ⟨(zci_1 (List.mem_of_getElem? (i := 158) rfl) rfl), (List.forall_mem_cons.mpr ⟨(zci_1 (List.mem_of_getElem? (i := 160) rfl) rfl), (List.forall_mem_cons.mpr ⟨(zci_1 (List.mem_of_getElem? (i := 162) rfl) rfl), (List.forall_mem_cons.mpr ⟨(zci_1 (List.mem_of_getElem? (i := 164) rfl) rfl), (List.forall_mem_cons.mpr ⟨(zci_1 (List.mem_of_getElem? (i := 166) rfl) rfl), (fun _ h => absurd h List.not_mem_nil)⟩)⟩)⟩)⟩)⟩)⟩)⟩)⟩)⟩)⟩)) w h
theorem zin_2 : ∀ w ∈ u_ws RX2 TX2 6, w ∈ zT := fun w h => (show ∀ w ∈ [Cond.lays "SentRoads$Demand" "SentRoads$Demand" "land" "I", Cond.lays "SentRoads$Demand" "SentRoads$Demand" "deeds" "I", Cond.lays "SentRoads$Demand" "SentRoads$Demand" "day" "I", Cond.lays "SentRoads$Demand" "SentRoads$Demand" "standing" "I", Cond.lays "SentRoads$Demand" "SentRoads$Demand" "years" "I", Cond.lays "SentRoads$Demand" "SentRoads$Demand" "home" "Z"], w ∈ zT from (List.forall_mem_cons.mpr ⟨(zci_2 (List.mem_of_getElem? (i := 0) rfl) rfl), (List.forall_mem_cons.mpr ⟨(zci_2 (List.mem_of_getElem? (i := 2) rfl) rfl), (List.forall_mem_cons.mpr ⟨(zci_2 (List.mem_of_getElem? (i := 4) rfl) rfl), (List.forall_mem_cons.mpr ⟨(zci_2 (List.mem_of_getElem? (i := 6) rfl) rfl), (List.forall_mem_cons.mpr ⟨(zci_2 (List.mem_of_getElem? (i := 8) rfl) rfl), (List.forall_mem_cons.mpr ⟨(zci_2 (List.mem_of_getElem? (i := 10) rfl) rfl), (fun _ h => absurd h List.not_mem_nil)⟩)⟩)⟩)⟩)⟩)⟩)) w h
theorem zin_3 : ∀ w ∈ u_ws RX3 TX3 7, w ∈ zT := fun w h => (show ∀ w ∈ [Cond.lays "SentRoads$Man" "SentRoads$Man" "of" "I", Cond.lays "SentRoads$Man" "SentRoads$Man" "at" "I", Cond.lays "SentRoads$Man" "SentRoads$Man" "year" "I", Cond.lays "SentRoads$Man" "SentRoads$Man" "sent" "I", Cond.lays "SentRoads$Man" "SentRoads$Man" "noDeath" "Z", Cond.lays "SentRoads$Man" "SentRoads$Man" "onlyTo" "I", Cond.lays "SentRoads$Man" "SentRoads$Man" "deeds" "I"], w ∈ zT from (List.forall_mem_cons.mpr ⟨(zci_1 (List.mem_of_getElem? (i := 67) rfl) rfl), (List.forall_mem_cons.mpr ⟨(zci_1 (List.mem_of_getElem? (i := 69) rfl) rfl), (List.forall_mem_cons.mpr ⟨(zci_1 (List.mem_of_getElem? (i := 71) rfl) rfl), (List.forall_mem_cons.mpr ⟨(zci_1 (List.mem_of_getElem? (i := 73) rfl) rfl), (List.forall_mem_cons.mpr ⟨(zci_1 (List.mem_of_getElem? (i := 75) rfl) rfl), (List.forall_mem_cons.mpr ⟨(zci_1 (List.mem_of_getElem? (i := 77) rfl) rfl), (List.forall_mem_cons.mpr ⟨(zci_1 (List.mem_of_getElem? (i := 79) rfl) rfl), (fun _ h => absurd h List.not_mem_nil)⟩)⟩)⟩)⟩)⟩)⟩)⟩)) w h
theorem zin_4 : ∀ w ∈ u_ws RX4 TX4 10, w ∈ zT := fun w h => (show ∀ w ∈ [Cond.lays "SentRoads$Paper" "SentRoads$Paper" "kind" "I", Cond.lays "SentRoads$Paper" "SentRoads$Paper" "from" "I", Cond.lays "SentRoads$Paper" "SentRoads$Paper" "to" "I", Cond.lays "SentRoads$Paper" "SentRoads$Paper" "n" "I", Cond.lays "SentRoads$Paper" "SentRoads$Paper" "crimes" "I", Cond.lays "SentRoads$Paper" "SentRoads$Paper" "bars" "I", Cond.lays "SentRoads$Paper" "SentRoads$Paper" "age" "I", Cond.lays "SentRoads$Paper" "SentRoads$Paper" "promised" "I", Cond.lays "SentRoads$Paper" "SentRoads$Paper" "open" "I", Cond.lays "SentRoads$Paper" "SentRoads$Paper" "deadly" "I"], w ∈ zT from (List.forall_mem_cons.mpr ⟨(zci_1 (List.mem_of_getElem? (i := 202) rfl) rfl), (List.forall_mem_cons.mpr ⟨(zci_1 (List.mem_of_getElem? (i := 204) rfl) rfl), (List.forall_mem_cons.mpr ⟨(zci_1 (List.mem_of_getElem? (i := 206) rfl) rfl), (List.forall_mem_cons.mpr ⟨(zci_1 (List.mem_of_getElem? (i := 208) rfl) rfl), (List.forall_mem_cons.mpr ⟨(zci_1 (List.mem_of_getElem? (i := 210) rfl) rfl), (List.forall_mem_cons.mpr ⟨(zci_1 (List.mem_of_getElem? (i := 212) rfl) rfl), (List.forall_mem_cons.mpr ⟨(zci_1 (List.mem_of_getElem? (i := 214) rfl) rfl), (List.forall_mem_cons.mpr ⟨(zci_1 (List.mem_of_getElem? (i := 216) rfl) rfl), (List.forall_mem_cons.mpr ⟨(zci_1 (List.mem_of_getElem? (i := 218) rfl) rfl), (List.forall_mem_cons.mpr ⟨(zci_1 (List.mem_of_getElem? (i := 220) rfl) rfl), (fun _ h => absurd h List.not_mem_nil)⟩)⟩)⟩)⟩)⟩)⟩)⟩)⟩)⟩)⟩)) w h
theorem zin_5 : ∀ w ∈ u_ws RX5 TX5 8, w ∈ zT := fun w h => (show ∀ w ∈ [Cond.laysFinal "SentRoads$Roads" "SentRoads$Roads" "world" "LSentRoads$World;", Cond.laysFinal "SentRoads$Roads" "SentRoads$Roads" "walker" "LSentRoads$Man;", Cond.laysFinal "SentRoads$Roads" "SentRoads$Roads" "seenIn" "[I", Cond.laysFinal "SentRoads$Roads" "SentRoads$Roads" "steps" "[I", Cond.laysFinal "SentRoads$Roads" "SentRoads$Roads" "comesFrom" "[I", Cond.laysFinal "SentRoads$Roads" "SentRoads$Roads" "fewest" "[I", Cond.lays "SentRoads$Roads" "SentRoads$Roads" "stepCount" "I", Cond.lays "SentRoads$Roads" "SentRoads$Roads" "search" "I"], w ∈ zT from (List.forall_mem_cons.mpr ⟨(zci_2 (List.mem_of_getElem? (i := 70) rfl) rfl), (List.forall_mem_cons.mpr ⟨(zci_2 (List.mem_of_getElem? (i := 72) rfl) rfl), (List.forall_mem_cons.mpr ⟨(zci_2 (List.mem_of_getElem? (i := 74) rfl) rfl), (List.forall_mem_cons.mpr ⟨(zci_2 (List.mem_of_getElem? (i := 76) rfl) rfl), (List.forall_mem_cons.mpr ⟨(zci_2 (List.mem_of_getElem? (i := 78) rfl) rfl), (List.forall_mem_cons.mpr ⟨(zci_2 (List.mem_of_getElem? (i := 80) rfl) rfl), (List.forall_mem_cons.mpr ⟨(zci_2 (List.mem_of_getElem? (i := 82) rfl) rfl), (List.forall_mem_cons.mpr ⟨(zci_2 (List.mem_of_getElem? (i := 84) rfl) rfl), (fun _ h => absurd h List.not_mem_nil)⟩)⟩)⟩)⟩)⟩)⟩)⟩)⟩)) w h
theorem zin_6 : ∀ w ∈ u_ws RX6 TX6 3, w ∈ zT := fun w h => (show ∀ w ∈ [Cond.laysFinal "SentRoads$Sheet" "SentRoads$Sheet" "items" "[I", Cond.lays "SentRoads$Sheet" "SentRoads$Sheet" "lane" "I", Cond.lays "SentRoads$Sheet" "SentRoads$Sheet" "size" "I"], w ∈ zT from (List.forall_mem_cons.mpr ⟨(zci_2 (List.mem_of_getElem? (i := 140) rfl) rfl), (List.forall_mem_cons.mpr ⟨(zci_2 (List.mem_of_getElem? (i := 142) rfl) rfl), (List.forall_mem_cons.mpr ⟨(zci_2 (List.mem_of_getElem? (i := 144) rfl) rfl), (fun _ h => absurd h List.not_mem_nil)⟩)⟩)⟩)) w h
theorem zin_7 : ∀ w ∈ u_ws RX7 TX7 8, w ∈ zT := fun w h => (show ∀ w ∈ [Cond.laysFinal "SentRoads$Tape" "SentRoads$Tape" "bytes" "[C", Cond.laysFinal "SentRoads$Tape" "SentRoads$Tape" "crimes" "[LSentRoads$Crime;", Cond.laysFinal "SentRoads$Tape" "SentRoads$Tape" "papers" "[LSentRoads$Paper;", Cond.lays "SentRoads$Tape" "SentRoads$Tape" "length" "I", Cond.lays "SentRoads$Tape" "SentRoads$Tape" "crimeCount" "I", Cond.lays "SentRoads$Tape" "SentRoads$Tape" "paperCount" "I", Cond.lays "SentRoads$Tape" "SentRoads$Tape" "place" "I", Cond.lays "SentRoads$Tape" "SentRoads$Tape" "fault" "I"], w ∈ zT from (List.forall_mem_cons.mpr ⟨(zci_2 (List.mem_of_getElem? (i := 110) rfl) rfl), (List.forall_mem_cons.mpr ⟨(zci_2 (List.mem_of_getElem? (i := 112) rfl) rfl), (List.forall_mem_cons.mpr ⟨(zci_2 (List.mem_of_getElem? (i := 114) rfl) rfl), (List.forall_mem_cons.mpr ⟨(zci_2 (List.mem_of_getElem? (i := 116) rfl) rfl), (List.forall_mem_cons.mpr ⟨(zci_2 (List.mem_of_getElem? (i := 118) rfl) rfl), (List.forall_mem_cons.mpr ⟨(zci_2 (List.mem_of_getElem? (i := 120) rfl) rfl), (List.forall_mem_cons.mpr ⟨(zci_2 (List.mem_of_getElem? (i := 122) rfl) rfl), (List.forall_mem_cons.mpr ⟨(zci_2 (List.mem_of_getElem? (i := 124) rfl) rfl), (fun _ h => absurd h List.not_mem_nil)⟩)⟩)⟩)⟩)⟩)⟩)⟩)⟩)) w h
theorem zin_8 : ∀ w ∈ u_ws RX8 TX8 9, w ∈ zT := fun w h => (show ∀ w ∈ [Cond.laysFinal "SentRoads$World" "SentRoads$World" "crimes" "[LSentRoads$Crime;", Cond.laysFinal "SentRoads$World" "SentRoads$World" "deeds" "[LSentRoads$Deed;", Cond.laysFinal "SentRoads$World" "SentRoads$World" "papers" "[LSentRoads$Paper;", Cond.laysFinal "SentRoads$World" "SentRoads$World" "demands" "[LSentRoads$Demand;", Cond.laysFinal "SentRoads$World" "SentRoads$World" "man" "LSentRoads$Man;", Cond.lays "SentRoads$World" "SentRoads$World" "crimeCount" "I", Cond.lays "SentRoads$World" "SentRoads$World" "deedCount" "I", Cond.lays "SentRoads$World" "SentRoads$World" "paperCount" "I", Cond.lays "SentRoads$World" "SentRoads$World" "demandCount" "I"], w ∈ zT from (List.forall_mem_cons.mpr ⟨(zci_2 (List.mem_of_getElem? (i := 35) rfl) rfl), (List.forall_mem_cons.mpr ⟨(zci_2 (List.mem_of_getElem? (i := 37) rfl) rfl), (List.forall_mem_cons.mpr ⟨(zci_2 (List.mem_of_getElem? (i := 39) rfl) rfl), (List.forall_mem_cons.mpr ⟨(zci_2 (List.mem_of_getElem? (i := 41) rfl) rfl), (List.forall_mem_cons.mpr ⟨(zci_2 (List.mem_of_getElem? (i := 43) rfl) rfl), (List.forall_mem_cons.mpr ⟨(zci_2 (List.mem_of_getElem? (i := 45) rfl) rfl), (List.forall_mem_cons.mpr ⟨(zci_2 (List.mem_of_getElem? (i := 47) rfl) rfl), (List.forall_mem_cons.mpr ⟨(zci_2 (List.mem_of_getElem? (i := 49) rfl) rfl), (List.forall_mem_cons.mpr ⟨(zci_2 (List.mem_of_getElem? (i := 51) rfl) rfl), (fun _ h => absurd h List.not_mem_nil)⟩)⟩)⟩)⟩)⟩)⟩)⟩)⟩)⟩)) w h
theorem zin_9 : ∀ w ∈ u_ws RX9 TX9 6, w ∈ zT := fun w h => (show ∀ w ∈ [Cond.laysFinal "SentRoads" "SentRoads" "now" "LSentRoads$World;", Cond.laysFinal "SentRoads" "SentRoads" "kept" "LSentRoads$World;", Cond.laysFinal "SentRoads" "SentRoads" "roads" "LSentRoads$Roads;", Cond.laysFinal "SentRoads" "SentRoads" "tape" "LSentRoads$Tape;", Cond.laysFinal "SentRoads" "SentRoads" "sheets" "[LSentRoads$Sheet;", Cond.lays "SentRoads" "SentRoads" "hasImage" "Z"], w ∈ zT from (List.forall_mem_cons.mpr ⟨(zci_2 (List.mem_of_getElem? (i := 153) rfl) rfl), (List.forall_mem_cons.mpr ⟨(zci_2 (List.mem_of_getElem? (i := 155) rfl) rfl), (List.forall_mem_cons.mpr ⟨(zci_2 (List.mem_of_getElem? (i := 157) rfl) rfl), (List.forall_mem_cons.mpr ⟨(zci_2 (List.mem_of_getElem? (i := 159) rfl) rfl), (List.forall_mem_cons.mpr ⟨(zci_2 (List.mem_of_getElem? (i := 161) rfl) rfl), (List.forall_mem_cons.mpr ⟨(zci_2 (List.mem_of_getElem? (i := 163) rfl) rfl), (fun _ h => absurd h List.not_mem_nil)⟩)⟩)⟩)⟩)⟩)⟩)) w h
theorem zin_10 : ∀ w ∈ u_ws RX10 TX10 29, w ∈ zT := fun w h => (show ∀ w ∈ [Cond.lays "SentRoadsModel" "SentRoadsModel" "crimes" "I", Cond.laysFinal "SentRoadsModel" "SentRoadsModel" "crime" "[I", Cond.lays "SentRoadsModel" "SentRoadsModel" "deeds" "I", Cond.laysFinal "SentRoadsModel" "SentRoadsModel" "deed" "[I", Cond.lays "SentRoadsModel" "SentRoadsModel" "papers" "I", Cond.laysFinal "SentRoadsModel" "SentRoadsModel" "paper" "[I", Cond.lays "SentRoadsModel" "SentRoadsModel" "demands" "I", Cond.laysFinal "SentRoadsModel" "SentRoadsModel" "demand" "[I", Cond.laysFinal "SentRoadsModel" "SentRoadsModel" "man" "[I", Cond.laysFinal "SentRoadsModel" "SentRoadsModel" "open" "[I", Cond.laysFinal "SentRoadsModel" "SentRoadsModel" "before" "[I", Cond.laysFinal "SentRoadsModel" "SentRoadsModel" "byPaper" "[I", Cond.laysFinal "SentRoadsModel" "SentRoadsModel" "queue" "[I", Cond.lays "SentRoadsModel" "SentRoadsModel" "queued" "I", Cond.laysFinal "SentRoadsModel" "SentRoadsModel" "cost" "[I", Cond.laysFinal "SentRoadsModel" "SentRoadsModel" "tape" "[I", Cond.lays "SentRoadsModel" "SentRoadsModel" "taped" "I", Cond.lays "SentRoadsModel" "SentRoadsModel" "at" "I", Cond.lays "SentRoadsModel" "SentRoadsModel" "readCrimes" "I", Cond.laysFinal "SentRoadsModel" "SentRoadsModel" "gotCrimes" "[I", Cond.lays "SentRoadsModel" "SentRoadsModel" "readPapers" "I", Cond.laysFinal "SentRoadsModel" "SentRoadsModel" "gotPapers" "[I", Cond.lays "SentRoadsModel" "SentRoadsModel" "isKept" "Z", Cond.laysFinal "SentRoadsModel" "SentRoadsModel" "kept" "[I", Cond.lays "SentRoadsModel" "SentRoadsModel" "keptAt" "I", Cond.laysFinal "SentRoadsModel" "SentRoadsModel" "singles" "[I", Cond.laysFinal "SentRoadsModel" "SentRoadsModel" "lanes" "[I", Cond.laysFinal "SentRoadsModel" "SentRoadsModel" "rowSizes" "[I", Cond.laysFinal "SentRoadsModel" "SentRoadsModel" "items" "[I"], w ∈ zT from (List.forall_mem_cons.mpr ⟨(zci_5 (List.mem_of_getElem? (i := 58) rfl) rfl), (List.forall_mem_cons.mpr ⟨(zci_5 (List.mem_of_getElem? (i := 60) rfl) rfl), (List.forall_mem_cons.mpr ⟨(zci_5 (List.mem_of_getElem? (i := 62) rfl) rfl), (List.forall_mem_cons.mpr ⟨(zci_5 (List.mem_of_getElem? (i := 64) rfl) rfl), (List.forall_mem_cons.mpr ⟨(zci_5 (List.mem_of_getElem? (i := 66) rfl) rfl), (List.forall_mem_cons.mpr ⟨(zci_5 (List.mem_of_getElem? (i := 68) rfl) rfl), (List.forall_mem_cons.mpr ⟨(zci_5 (List.mem_of_getElem? (i := 70) rfl) rfl), (List.forall_mem_cons.mpr ⟨(zci_5 (List.mem_of_getElem? (i := 72) rfl) rfl), (List.forall_mem_cons.mpr ⟨(zci_5 (List.mem_of_getElem? (i := 74) rfl) rfl), (List.forall_mem_cons.mpr ⟨(zci_5 (List.mem_of_getElem? (i := 76) rfl) rfl), (List.forall_mem_cons.mpr ⟨(zci_5 (List.mem_of_getElem? (i := 78) rfl) rfl), (List.forall_mem_cons.mpr ⟨(zci_5 (List.mem_of_getElem? (i := 80) rfl) rfl), (List.forall_mem_cons.mpr ⟨(zci_5 (List.mem_of_getElem? (i := 82) rfl) rfl), (List.forall_mem_cons.mpr ⟨(zci_5 (List.mem_of_getElem? (i := 84) rfl) rfl), (List.forall_mem_cons.mpr ⟨(zci_5 (List.mem_of_getElem? (i := 86) rfl) rfl), (List.forall_mem_cons.mpr ⟨(zci_5 (List.mem_of_getElem? (i := 88) rfl) rfl), (List.forall_mem_cons.mpr ⟨(zci_5 (List.mem_of_getElem? (i := 90) rfl) rfl), (List.forall_mem_cons.mpr ⟨(zci_5 (List.mem_of_getElem? (i := 92) rfl) rfl), (List.forall_mem_cons.mpr ⟨(zci_5 (List.mem_of_getElem? (i := 94) rfl) rfl), (List.forall_mem_cons.mpr ⟨(zci_5 (List.mem_of_getElem? (i := 96) rfl) rfl), (List.forall_mem_cons.mpr ⟨(zci_5 (List.mem_of_getElem? (i := 98) rfl) rfl), (List.forall_mem_cons.mpr ⟨(zci_5 (List.mem_of_getElem? (i := 100) rfl) rfl), (List.forall_mem_cons.mpr ⟨(zci_5 (List.mem_of_getElem? (i := 102) rfl) rfl), (List.forall_mem_cons.mpr ⟨(zci_5 (List.mem_of_getElem? (i := 104) rfl) rfl), (List.forall_mem_cons.mpr ⟨(zci_5 (List.mem_of_getElem? (i := 106) rfl) rfl), (List.forall_mem_cons.mpr ⟨(zci_5 (List.mem_of_getElem? (i := 108) rfl) rfl), (List.forall_mem_cons.mpr ⟨(zci_5 (List.mem_of_getElem? (i := 110) rfl) rfl), (List.forall_mem_cons.mpr ⟨(zci_5 (List.mem_of_getElem? (i := 112) rfl) rfl), (List.forall_mem_cons.mpr ⟨(zci_5 (List.mem_of_getElem? (i := 114) rfl) rfl), (fun _ h => absurd h List.not_mem_nil)⟩)⟩)⟩)⟩)⟩)⟩)⟩)⟩)⟩)⟩)⟩)⟩)⟩)⟩)⟩)⟩)⟩)⟩)⟩)⟩)⟩)⟩)⟩)⟩)⟩)⟩)⟩)⟩)⟩)) w h
theorem zf_X9_10 : zFl "SentRoads" 10 9 0 := ⟨_, _, _, rfl, by decide, zin_9, zw_426⟩
theorem zf_X9_16 : zFl "SentRoads" 16 9 1 := ⟨_, _, _, rfl, by decide, zin_9, zw_427⟩
theorem zf_X9_24 : zFl "SentRoads" 24 9 2 := ⟨_, _, _, rfl, by decide, zin_9, zw_428⟩
theorem zf_X9_31 : zFl "SentRoads" 31 9 3 := ⟨_, _, _, rfl, by decide, zin_9, zw_429⟩
theorem zf_X9_37 : zFl "SentRoads" 37 9 4 := ⟨_, _, _, rfl, by decide, zin_9, zw_430⟩
theorem zf_X9_42 : zFl "SentRoads" 42 9 5 := ⟨_, _, _, rfl, by decide, zin_9, zw_431⟩
theorem zf_X9_50 : zFl "SentRoads" 50 8 5 := ⟨_, _, _, rfl, by decide, zin_8, zw_306⟩
theorem zf_X9_54 : zFl "SentRoads" 54 8 0 := ⟨_, _, _, rfl, by decide, zin_8, zw_293⟩
theorem zf_X9_71 : zFl "SentRoads" 71 8 6 := ⟨_, _, _, rfl, by decide, zin_8, zw_308⟩
theorem zf_X9_74 : zFl "SentRoads" 74 8 1 := ⟨_, _, _, rfl, by decide, zin_8, zw_295⟩
theorem zf_X9_90 : zFl "SentRoads" 90 8 2 := ⟨_, _, _, rfl, by decide, zin_8, zw_298⟩
theorem zf_X9_108 : zFl "SentRoads" 108 7 3 := ⟨_, _, _, rfl, by decide, zin_7, zw_382⟩
theorem zf_X9_118 : zFl "SentRoads" 118 7 4 := ⟨_, _, _, rfl, by decide, zin_7, zw_384⟩
theorem zf_X9_119 : zFl "SentRoads" 119 8 7 := ⟨_, _, _, rfl, by decide, zin_8, zw_311⟩
theorem zf_X9_122 : zFl "SentRoads" 122 7 5 := ⟨_, _, _, rfl, by decide, zin_7, zw_386⟩
theorem zf_X9_123 : zFl "SentRoads" 123 7 1 := ⟨_, _, _, rfl, by decide, zin_7, zw_378⟩
theorem zf_X9_128 : zFl "SentRoads" 128 7 2 := ⟨_, _, _, rfl, by decide, zin_7, zw_380⟩
theorem zf_X9_135 : zFl "SentRoads" 135 0 0 := ⟨_, _, _, rfl, by decide, zin_0, zw_129⟩
theorem zf_X9_138 : zFl "SentRoads" 138 0 1 := ⟨_, _, _, rfl, by decide, zin_0, zw_131⟩
theorem zf_X9_141 : zFl "SentRoads" 141 0 2 := ⟨_, _, _, rfl, by decide, zin_0, zw_133⟩
theorem zf_X9_144 : zFl "SentRoads" 144 0 3 := ⟨_, _, _, rfl, by decide, zin_0, zw_135⟩
theorem zf_X9_147 : zFl "SentRoads" 147 0 4 := ⟨_, _, _, rfl, by decide, zin_0, zw_138⟩
theorem zf_X9_150 : zFl "SentRoads" 150 0 5 := ⟨_, _, _, rfl, by decide, zin_0, zw_141⟩
theorem zf_X9_156 : zFl "SentRoads" 156 4 0 := ⟨_, _, _, rfl, by decide, zin_4, zw_215⟩
theorem zf_X9_159 : zFl "SentRoads" 159 4 1 := ⟨_, _, _, rfl, by decide, zin_4, zw_218⟩
theorem zf_X9_162 : zFl "SentRoads" 162 4 2 := ⟨_, _, _, rfl, by decide, zin_4, zw_222⟩
theorem zf_X9_165 : zFl "SentRoads" 165 4 3 := ⟨_, _, _, rfl, by decide, zin_4, zw_226⟩
theorem zf_X9_168 : zFl "SentRoads" 168 4 4 := ⟨_, _, _, rfl, by decide, zin_4, zw_228⟩
theorem zf_X9_170 : zFl "SentRoads" 170 4 5 := ⟨_, _, _, rfl, by decide, zin_4, zw_230⟩
theorem zf_X9_173 : zFl "SentRoads" 173 4 6 := ⟨_, _, _, rfl, by decide, zin_4, zw_233⟩
theorem zf_X9_176 : zFl "SentRoads" 176 4 7 := ⟨_, _, _, rfl, by decide, zin_4, zw_236⟩
theorem zf_X9_182 : zFl "SentRoads" 182 1 5 := ⟨_, _, _, rfl, by decide, zin_1, zw_176⟩
theorem zf_X9_185 : zFl "SentRoads" 185 1 6 := ⟨_, _, _, rfl, by decide, zin_1, zw_178⟩
theorem zf_X9_188 : zFl "SentRoads" 188 1 8 := ⟨_, _, _, rfl, by decide, zin_1, zw_182⟩
theorem zf_X9_192 : zFl "SentRoads" 192 1 9 := ⟨_, _, _, rfl, by decide, zin_1, zw_186⟩
theorem zf_X9_204 : zFl "SentRoads" 204 6 2 := ⟨_, _, _, rfl, by decide, zin_6, zw_418⟩
theorem zf_X9_207 : zFl "SentRoads" 207 1 1 := ⟨_, _, _, rfl, by decide, zin_1, zw_165⟩
theorem zf_X9_217 : zFl "SentRoads" 217 8 8 := ⟨_, _, _, rfl, by decide, zin_8, zw_313⟩
theorem zf_X9_220 : zFl "SentRoads" 220 8 4 := ⟨_, _, _, rfl, by decide, zin_8, zw_304⟩
theorem zf_X9_224 : zFl "SentRoads" 224 3 3 := ⟨_, _, _, rfl, by decide, zin_3, zw_98⟩
theorem zf_X9_229 : zFl "SentRoads" 229 3 0 := ⟨_, _, _, rfl, by decide, zin_3, zw_89⟩
theorem zf_X9_232 : zFl "SentRoads" 232 3 1 := ⟨_, _, _, rfl, by decide, zin_3, zw_93⟩
theorem zf_X9_238 : zFl "SentRoads" 238 3 2 := ⟨_, _, _, rfl, by decide, zin_3, zw_96⟩
theorem zf_X9_241 : zFl "SentRoads" 241 1 4 := ⟨_, _, _, rfl, by decide, zin_1, zw_173⟩
theorem zf_X9_244 : zFl "SentRoads" 244 3 4 := ⟨_, _, _, rfl, by decide, zin_3, zw_100⟩
theorem zf_X9_247 : zFl "SentRoads" 247 3 5 := ⟨_, _, _, rfl, by decide, zin_3, zw_102⟩
theorem zf_X9_250 : zFl "SentRoads" 250 3 6 := ⟨_, _, _, rfl, by decide, zin_3, zw_105⟩
theorem zf_X9_300 : zFl "SentRoads" 300 8 3 := ⟨_, _, _, rfl, by decide, zin_8, zw_301⟩
theorem zf_X9_311 : zFl "SentRoads" 311 2 3 := ⟨_, _, _, rfl, by decide, zin_2, zw_274⟩
theorem zf_X9_336 : zFl "SentRoads" 336 6 1 := ⟨_, _, _, rfl, by decide, zin_6, zw_416⟩
theorem zf_X0_7 : zFl "SentRoads$Crime" 7 0 0 := ⟨_, _, _, rfl, by decide, zin_0, zw_126⟩
theorem zf_X0_13 : zFl "SentRoads$Crime" 13 0 1 := ⟨_, _, _, rfl, by decide, zin_0, zw_130⟩
theorem zf_X0_16 : zFl "SentRoads$Crime" 16 0 2 := ⟨_, _, _, rfl, by decide, zin_0, zw_132⟩
theorem zf_X0_19 : zFl "SentRoads$Crime" 19 0 3 := ⟨_, _, _, rfl, by decide, zin_0, zw_134⟩
theorem zf_X0_22 : zFl "SentRoads$Crime" 22 0 4 := ⟨_, _, _, rfl, by decide, zin_0, zw_136⟩
theorem zf_X0_25 : zFl "SentRoads$Crime" 25 0 5 := ⟨_, _, _, rfl, by decide, zin_0, zw_139⟩
theorem zf_X1_9 : zFl "SentRoads$Deed" 9 1 8 := ⟨_, _, _, rfl, by decide, zin_1, zw_180⟩
theorem zf_X1_15 : zFl "SentRoads$Deed" 15 1 9 := ⟨_, _, _, rfl, by decide, zin_1, zw_184⟩
theorem zf_X1_18 : zFl "SentRoads$Deed" 18 1 0 := ⟨_, _, _, rfl, by decide, zin_1, zw_160⟩
theorem zf_X1_22 : zFl "SentRoads$Deed" 22 1 1 := ⟨_, _, _, rfl, by decide, zin_1, zw_163⟩
theorem zf_X1_25 : zFl "SentRoads$Deed" 25 1 2 := ⟨_, _, _, rfl, by decide, zin_1, zw_166⟩
theorem zf_X1_28 : zFl "SentRoads$Deed" 28 1 3 := ⟨_, _, _, rfl, by decide, zin_1, zw_168⟩
theorem zf_X1_31 : zFl "SentRoads$Deed" 31 1 4 := ⟨_, _, _, rfl, by decide, zin_1, zw_170⟩
theorem zf_X1_39 : zFl "SentRoads$Deed" 39 1 5 := ⟨_, _, _, rfl, by decide, zin_1, zw_174⟩
theorem zf_X1_42 : zFl "SentRoads$Deed" 42 1 6 := ⟨_, _, _, rfl, by decide, zin_1, zw_177⟩
theorem zf_X1_45 : zFl "SentRoads$Deed" 45 1 7 := ⟨_, _, _, rfl, by decide, zin_1, zw_179⟩
theorem zf_X1_54 : zFl "SentRoads$Deed" 54 0 0 := ⟨_, _, _, rfl, by decide, zin_0, zw_127⟩
theorem zf_X1_61 : zFl "SentRoads$Deed" 61 0 4 := ⟨_, _, _, rfl, by decide, zin_0, zw_137⟩
theorem zf_X1_70 : zFl "SentRoads$Deed" 70 0 5 := ⟨_, _, _, rfl, by decide, zin_0, zw_140⟩
theorem zf_X2_7 : zFl "SentRoads$Demand" 7 2 0 := ⟨_, _, _, rfl, by decide, zin_2, zw_267⟩
theorem zf_X2_13 : zFl "SentRoads$Demand" 13 2 1 := ⟨_, _, _, rfl, by decide, zin_2, zw_269⟩
theorem zf_X2_16 : zFl "SentRoads$Demand" 16 2 2 := ⟨_, _, _, rfl, by decide, zin_2, zw_271⟩
theorem zf_X2_19 : zFl "SentRoads$Demand" 19 2 4 := ⟨_, _, _, rfl, by decide, zin_2, zw_275⟩
theorem zf_X2_22 : zFl "SentRoads$Demand" 22 2 5 := ⟨_, _, _, rfl, by decide, zin_2, zw_277⟩
theorem zf_X3_9 : zFl "SentRoads$Man" 9 3 5 := ⟨_, _, _, rfl, by decide, zin_3, zw_101⟩
theorem zf_X3_15 : zFl "SentRoads$Man" 15 3 6 := ⟨_, _, _, rfl, by decide, zin_3, zw_103⟩
theorem zf_X3_18 : zFl "SentRoads$Man" 18 3 1 := ⟨_, _, _, rfl, by decide, zin_3, zw_90⟩
theorem zf_X3_21 : zFl "SentRoads$Man" 21 3 4 := ⟨_, _, _, rfl, by decide, zin_3, zw_99⟩
theorem zf_X3_29 : zFl "SentRoads$Man" 29 3 0 := ⟨_, _, _, rfl, by decide, zin_3, zw_87⟩
theorem zf_X3_32 : zFl "SentRoads$Man" 32 3 2 := ⟨_, _, _, rfl, by decide, zin_3, zw_94⟩
theorem zf_X3_35 : zFl "SentRoads$Man" 35 3 3 := ⟨_, _, _, rfl, by decide, zin_3, zw_97⟩
theorem zf_X3_38 : zFl "SentRoads$Man" 38 4 1 := ⟨_, _, _, rfl, by decide, zin_4, zw_217⟩
theorem zf_X3_43 : zFl "SentRoads$Man" 43 4 2 := ⟨_, _, _, rfl, by decide, zin_4, zw_221⟩
theorem zf_X3_46 : zFl "SentRoads$Man" 46 4 8 := ⟨_, _, _, rfl, by decide, zin_4, zw_237⟩
theorem zf_X3_53 : zFl "SentRoads$Man" 53 4 9 := ⟨_, _, _, rfl, by decide, zin_4, zw_239⟩
theorem zf_X4_9 : zFl "SentRoads$Paper" 9 4 1 := ⟨_, _, _, rfl, by decide, zin_4, zw_216⟩
theorem zf_X4_15 : zFl "SentRoads$Paper" 15 4 2 := ⟨_, _, _, rfl, by decide, zin_4, zw_220⟩
theorem zf_X4_18 : zFl "SentRoads$Paper" 18 4 0 := ⟨_, _, _, rfl, by decide, zin_4, zw_214⟩
theorem zf_X4_21 : zFl "SentRoads$Paper" 21 4 3 := ⟨_, _, _, rfl, by decide, zin_4, zw_225⟩
theorem zf_X4_24 : zFl "SentRoads$Paper" 24 4 4 := ⟨_, _, _, rfl, by decide, zin_4, zw_227⟩
theorem zf_X4_27 : zFl "SentRoads$Paper" 27 4 5 := ⟨_, _, _, rfl, by decide, zin_4, zw_229⟩
theorem zf_X4_30 : zFl "SentRoads$Paper" 30 4 6 := ⟨_, _, _, rfl, by decide, zin_4, zw_232⟩
theorem zf_X4_33 : zFl "SentRoads$Paper" 33 4 7 := ⟨_, _, _, rfl, by decide, zin_4, zw_235⟩
theorem zf_X4_47 : zFl "SentRoads$Paper" 47 1 9 := ⟨_, _, _, rfl, by decide, zin_1, zw_185⟩
theorem zf_X4_53 : zFl "SentRoads$Paper" 53 1 8 := ⟨_, _, _, rfl, by decide, zin_1, zw_181⟩
theorem zf_X4_56 : zFl "SentRoads$Paper" 56 1 5 := ⟨_, _, _, rfl, by decide, zin_1, zw_175⟩
theorem zf_X4_59 : zFl "SentRoads$Paper" 59 1 0 := ⟨_, _, _, rfl, by decide, zin_1, zw_161⟩
theorem zf_X4_62 : zFl "SentRoads$Paper" 62 1 1 := ⟨_, _, _, rfl, by decide, zin_1, zw_164⟩
theorem zf_X5_12 : zFl "SentRoads$Roads" 12 5 1 := ⟨_, _, _, rfl, by decide, zin_5, zw_342⟩
theorem zf_X5_18 : zFl "SentRoads$Roads" 18 5 2 := ⟨_, _, _, rfl, by decide, zin_5, zw_343⟩
theorem zf_X5_22 : zFl "SentRoads$Roads" 22 5 3 := ⟨_, _, _, rfl, by decide, zin_5, zw_344⟩
theorem zf_X5_25 : zFl "SentRoads$Roads" 25 5 4 := ⟨_, _, _, rfl, by decide, zin_5, zw_345⟩
theorem zf_X5_28 : zFl "SentRoads$Roads" 28 5 5 := ⟨_, _, _, rfl, by decide, zin_5, zw_346⟩
theorem zf_X5_31 : zFl "SentRoads$Roads" 31 5 0 := ⟨_, _, _, rfl, by decide, zin_5, zw_341⟩
theorem zf_X5_38 : zFl "SentRoads$Roads" 38 5 6 := ⟨_, _, _, rfl, by decide, zin_5, zw_347⟩
theorem zf_X5_46 : zFl "SentRoads$Roads" 46 3 1 := ⟨_, _, _, rfl, by decide, zin_3, zw_91⟩
theorem zf_X5_58 : zFl "SentRoads$Roads" 58 5 7 := ⟨_, _, _, rfl, by decide, zin_5, zw_348⟩
theorem zf_X5_61 : zFl "SentRoads$Roads" 61 8 4 := ⟨_, _, _, rfl, by decide, zin_8, zw_303⟩
theorem zf_X5_68 : zFl "SentRoads$Roads" 68 8 2 := ⟨_, _, _, rfl, by decide, zin_8, zw_299⟩
theorem zf_X5_76 : zFl "SentRoads$Roads" 76 8 7 := ⟨_, _, _, rfl, by decide, zin_8, zw_310⟩
theorem zf_X5_102 : zFl "SentRoads$Roads" 102 4 2 := ⟨_, _, _, rfl, by decide, zin_4, zw_223⟩
theorem zf_X5_111 : zFl "SentRoads$Roads" 111 8 1 := ⟨_, _, _, rfl, by decide, zin_8, zw_296⟩
theorem zf_X5_120 : zFl "SentRoads$Roads" 120 1 4 := ⟨_, _, _, rfl, by decide, zin_1, zw_171⟩
theorem zf_X6_9 : zFl "SentRoads$Sheet" 9 6 0 := ⟨_, _, _, rfl, by decide, zin_6, zw_414⟩
theorem zf_X6_15 : zFl "SentRoads$Sheet" 15 6 1 := ⟨_, _, _, rfl, by decide, zin_6, zw_415⟩
theorem zf_X6_19 : zFl "SentRoads$Sheet" 19 6 2 := ⟨_, _, _, rfl, by decide, zin_6, zw_417⟩
theorem zf_X7_9 : zFl "SentRoads$Tape" 9 7 0 := ⟨_, _, _, rfl, by decide, zin_7, zw_376⟩
theorem zf_X7_17 : zFl "SentRoads$Tape" 17 7 1 := ⟨_, _, _, rfl, by decide, zin_7, zw_377⟩
theorem zf_X7_23 : zFl "SentRoads$Tape" 23 7 2 := ⟨_, _, _, rfl, by decide, zin_7, zw_379⟩
theorem zf_X7_29 : zFl "SentRoads$Tape" 29 7 3 := ⟨_, _, _, rfl, by decide, zin_7, zw_381⟩
theorem zf_X7_33 : zFl "SentRoads$Tape" 33 7 6 := ⟨_, _, _, rfl, by decide, zin_7, zw_387⟩
theorem zf_X7_36 : zFl "SentRoads$Tape" 36 7 7 := ⟨_, _, _, rfl, by decide, zin_7, zw_388⟩
theorem zf_X7_39 : zFl "SentRoads$Tape" 39 7 4 := ⟨_, _, _, rfl, by decide, zin_7, zw_383⟩
theorem zf_X7_42 : zFl "SentRoads$Tape" 42 7 5 := ⟨_, _, _, rfl, by decide, zin_7, zw_385⟩
theorem zf_X8_11 : zFl "SentRoads$World" 11 8 0 := ⟨_, _, _, rfl, by decide, zin_8, zw_292⟩
theorem zf_X8_19 : zFl "SentRoads$World" 19 8 1 := ⟨_, _, _, rfl, by decide, zin_8, zw_294⟩
theorem zf_X8_25 : zFl "SentRoads$World" 25 8 2 := ⟨_, _, _, rfl, by decide, zin_8, zw_297⟩
theorem zf_X8_31 : zFl "SentRoads$World" 31 8 3 := ⟨_, _, _, rfl, by decide, zin_8, zw_300⟩
theorem zf_X8_38 : zFl "SentRoads$World" 38 8 4 := ⟨_, _, _, rfl, by decide, zin_8, zw_302⟩
theorem zf_X8_46 : zFl "SentRoads$World" 46 8 5 := ⟨_, _, _, rfl, by decide, zin_8, zw_305⟩
theorem zf_X8_54 : zFl "SentRoads$World" 54 8 6 := ⟨_, _, _, rfl, by decide, zin_8, zw_307⟩
theorem zf_X8_64 : zFl "SentRoads$World" 64 8 7 := ⟨_, _, _, rfl, by decide, zin_8, zw_309⟩
theorem zf_X8_70 : zFl "SentRoads$World" 70 8 8 := ⟨_, _, _, rfl, by decide, zin_8, zw_312⟩
theorem zf_X8_73 : zFl "SentRoads$World" 73 2 0 := ⟨_, _, _, rfl, by decide, zin_2, zw_268⟩
theorem zf_X8_76 : zFl "SentRoads$World" 76 2 1 := ⟨_, _, _, rfl, by decide, zin_2, zw_270⟩
theorem zf_X8_78 : zFl "SentRoads$World" 78 2 2 := ⟨_, _, _, rfl, by decide, zin_2, zw_272⟩
theorem zf_X8_95 : zFl "SentRoads$World" 95 0 0 := ⟨_, _, _, rfl, by decide, zin_0, zw_128⟩
theorem zf_X8_104 : zFl "SentRoads$World" 104 3 0 := ⟨_, _, _, rfl, by decide, zin_3, zw_88⟩
theorem zf_X8_107 : zFl "SentRoads$World" 107 4 1 := ⟨_, _, _, rfl, by decide, zin_4, zw_219⟩
theorem zf_X8_110 : zFl "SentRoads$World" 110 1 4 := ⟨_, _, _, rfl, by decide, zin_1, zw_172⟩
theorem zf_X8_114 : zFl "SentRoads$World" 114 1 0 := ⟨_, _, _, rfl, by decide, zin_1, zw_162⟩
theorem zf_X8_117 : zFl "SentRoads$World" 117 4 2 := ⟨_, _, _, rfl, by decide, zin_4, zw_224⟩
theorem zf_X8_126 : zFl "SentRoads$World" 126 1 2 := ⟨_, _, _, rfl, by decide, zin_1, zw_167⟩
theorem zf_X8_127 : zFl "SentRoads$World" 127 4 5 := ⟨_, _, _, rfl, by decide, zin_4, zw_231⟩
theorem zf_X8_130 : zFl "SentRoads$World" 130 4 6 := ⟨_, _, _, rfl, by decide, zin_4, zw_234⟩
theorem zf_X8_133 : zFl "SentRoads$World" 133 3 2 := ⟨_, _, _, rfl, by decide, zin_3, zw_95⟩
theorem zf_X8_136 : zFl "SentRoads$World" 136 1 3 := ⟨_, _, _, rfl, by decide, zin_1, zw_169⟩
theorem zf_X8_137 : zFl "SentRoads$World" 137 4 8 := ⟨_, _, _, rfl, by decide, zin_4, zw_238⟩
theorem zf_X8_140 : zFl "SentRoads$World" 140 4 9 := ⟨_, _, _, rfl, by decide, zin_4, zw_240⟩
theorem zf_X8_150 : zFl "SentRoads$World" 150 3 1 := ⟨_, _, _, rfl, by decide, zin_3, zw_92⟩
theorem zf_X8_156 : zFl "SentRoads$World" 156 3 6 := ⟨_, _, _, rfl, by decide, zin_3, zw_104⟩
theorem zf_X8_161 : zFl "SentRoads$World" 161 2 3 := ⟨_, _, _, rfl, by decide, zin_2, zw_273⟩
theorem zf_X8_164 : zFl "SentRoads$World" 164 2 4 := ⟨_, _, _, rfl, by decide, zin_2, zw_276⟩
theorem zf_X8_167 : zFl "SentRoads$World" 167 2 5 := ⟨_, _, _, rfl, by decide, zin_2, zw_278⟩
theorem zf_X8_170 : zFl "SentRoads$World" 170 1 8 := ⟨_, _, _, rfl, by decide, zin_1, zw_183⟩
theorem zf_X10_7 : zFl "SentRoadsModel" 7 10 1 := ⟨_, _, _, rfl, by decide, zin_10, zw_1029⟩
theorem zf_X10_13 : zFl "SentRoadsModel" 13 10 3 := ⟨_, _, _, rfl, by decide, zin_10, zw_1031⟩
theorem zf_X10_16 : zFl "SentRoadsModel" 16 10 5 := ⟨_, _, _, rfl, by decide, zin_10, zw_1033⟩
theorem zf_X10_19 : zFl "SentRoadsModel" 19 10 7 := ⟨_, _, _, rfl, by decide, zin_10, zw_1035⟩
theorem zf_X10_22 : zFl "SentRoadsModel" 22 10 8 := ⟨_, _, _, rfl, by decide, zin_10, zw_1036⟩
theorem zf_X10_25 : zFl "SentRoadsModel" 25 10 9 := ⟨_, _, _, rfl, by decide, zin_10, zw_1037⟩
theorem zf_X10_28 : zFl "SentRoadsModel" 28 10 10 := ⟨_, _, _, rfl, by decide, zin_10, zw_1038⟩
theorem zf_X10_31 : zFl "SentRoadsModel" 31 10 11 := ⟨_, _, _, rfl, by decide, zin_10, zw_1039⟩
theorem zf_X10_34 : zFl "SentRoadsModel" 34 10 12 := ⟨_, _, _, rfl, by decide, zin_10, zw_1040⟩
theorem zf_X10_37 : zFl "SentRoadsModel" 37 10 14 := ⟨_, _, _, rfl, by decide, zin_10, zw_1042⟩
theorem zf_X10_40 : zFl "SentRoadsModel" 40 10 15 := ⟨_, _, _, rfl, by decide, zin_10, zw_1043⟩
theorem zf_X10_43 : zFl "SentRoadsModel" 43 10 19 := ⟨_, _, _, rfl, by decide, zin_10, zw_1047⟩
theorem zf_X10_46 : zFl "SentRoadsModel" 46 10 21 := ⟨_, _, _, rfl, by decide, zin_10, zw_1049⟩
theorem zf_X10_49 : zFl "SentRoadsModel" 49 10 23 := ⟨_, _, _, rfl, by decide, zin_10, zw_1051⟩
theorem zf_X10_52 : zFl "SentRoadsModel" 52 10 25 := ⟨_, _, _, rfl, by decide, zin_10, zw_1053⟩
theorem zf_X10_55 : zFl "SentRoadsModel" 55 10 26 := ⟨_, _, _, rfl, by decide, zin_10, zw_1054⟩
theorem zf_X10_58 : zFl "SentRoadsModel" 58 10 27 := ⟨_, _, _, rfl, by decide, zin_10, zw_1055⟩
theorem zf_X10_61 : zFl "SentRoadsModel" 61 10 28 := ⟨_, _, _, rfl, by decide, zin_10, zw_1056⟩
theorem zf_X10_73 : zFl "SentRoadsModel" 73 10 2 := ⟨_, _, _, rfl, by decide, zin_10, zw_1030⟩
theorem zf_X10_77 : zFl "SentRoadsModel" 77 10 4 := ⟨_, _, _, rfl, by decide, zin_10, zw_1032⟩
theorem zf_X10_80 : zFl "SentRoadsModel" 80 10 0 := ⟨_, _, _, rfl, by decide, zin_10, zw_1028⟩
theorem zf_X10_126 : zFl "SentRoadsModel" 126 10 6 := ⟨_, _, _, rfl, by decide, zin_10, zw_1034⟩
theorem zf_X10_168 : zFl "SentRoadsModel" 168 10 13 := ⟨_, _, _, rfl, by decide, zin_10, zw_1041⟩
theorem zf_X10_208 : zFl "SentRoadsModel" 208 10 16 := ⟨_, _, _, rfl, by decide, zin_10, zw_1044⟩
theorem zf_X10_211 : zFl "SentRoadsModel" 211 10 17 := ⟨_, _, _, rfl, by decide, zin_10, zw_1045⟩
theorem zf_X10_221 : zFl "SentRoadsModel" 221 10 18 := ⟨_, _, _, rfl, by decide, zin_10, zw_1046⟩
theorem zf_X10_233 : zFl "SentRoadsModel" 233 10 20 := ⟨_, _, _, rfl, by decide, zin_10, zw_1048⟩
theorem zf_X10_252 : zFl "SentRoadsModel" 252 10 24 := ⟨_, _, _, rfl, by decide, zin_10, zw_1052⟩
theorem zf_X10_259 : zFl "SentRoadsModel" 259 10 22 := ⟨_, _, _, rfl, by decide, zin_10, zw_1050⟩
theorem zp_0_0 : zFw 0 0 .int := ⟨_, _, _, tyX0, rfl, tyX0_ok, nmX0, rfl, by decide +kernel⟩
theorem zp_0_1 : zFw 0 1 .int := ⟨_, _, _, tyX0, rfl, tyX0_ok, nmX0, rfl, by decide +kernel⟩
theorem zp_0_2 : zFw 0 2 .int := ⟨_, _, _, tyX0, rfl, tyX0_ok, nmX0, rfl, by decide +kernel⟩
theorem zp_0_3 : zFw 0 3 .int := ⟨_, _, _, tyX0, rfl, tyX0_ok, nmX0, rfl, by decide +kernel⟩
theorem zp_0_4 : zFw 0 4 .int := ⟨_, _, _, tyX0, rfl, tyX0_ok, nmX0, rfl, by decide +kernel⟩
theorem zp_0_5 : zFw 0 5 .boolean := ⟨_, _, _, tyX0, rfl, tyX0_ok, nmX0, rfl, by decide +kernel⟩
theorem zp_1_0 : zFw 1 0 .int := ⟨_, _, _, tyX1, rfl, tyX1_ok, nmX1, rfl, by decide +kernel⟩
theorem zp_1_1 : zFw 1 1 .int := ⟨_, _, _, tyX1, rfl, tyX1_ok, nmX1, rfl, by decide +kernel⟩
theorem zp_1_2 : zFw 1 2 .int := ⟨_, _, _, tyX1, rfl, tyX1_ok, nmX1, rfl, by decide +kernel⟩
theorem zp_1_3 : zFw 1 3 .int := ⟨_, _, _, tyX1, rfl, tyX1_ok, nmX1, rfl, by decide +kernel⟩
theorem zp_1_4 : zFw 1 4 .boolean := ⟨_, _, _, tyX1, rfl, tyX1_ok, nmX1, rfl, by decide +kernel⟩
theorem zp_1_5 : zFw 1 5 .int := ⟨_, _, _, tyX1, rfl, tyX1_ok, nmX1, rfl, by decide +kernel⟩
theorem zp_1_6 : zFw 1 6 .int := ⟨_, _, _, tyX1, rfl, tyX1_ok, nmX1, rfl, by decide +kernel⟩
theorem zp_1_7 : zFw 1 7 .int := ⟨_, _, _, tyX1, rfl, tyX1_ok, nmX1, rfl, by decide +kernel⟩
theorem zp_2_0 : zFw 2 0 .int := ⟨_, _, _, tyX2, rfl, tyX2_ok, nmX2, rfl, by decide +kernel⟩
theorem zp_2_1 : zFw 2 1 .int := ⟨_, _, _, tyX2, rfl, tyX2_ok, nmX2, rfl, by decide +kernel⟩
theorem zp_2_2 : zFw 2 2 .int := ⟨_, _, _, tyX2, rfl, tyX2_ok, nmX2, rfl, by decide +kernel⟩
theorem zp_2_3 : zFw 2 3 .int := ⟨_, _, _, tyX2, rfl, tyX2_ok, nmX2, rfl, by decide +kernel⟩
theorem zp_2_4 : zFw 2 4 .int := ⟨_, _, _, tyX2, rfl, tyX2_ok, nmX2, rfl, by decide +kernel⟩
theorem zp_2_5 : zFw 2 5 .boolean := ⟨_, _, _, tyX2, rfl, tyX2_ok, nmX2, rfl, by decide +kernel⟩
theorem zp_3_0 : zFw 3 0 .int := ⟨_, _, _, tyX3, rfl, tyX3_ok, nmX3, rfl, by decide +kernel⟩
theorem zp_3_1 : zFw 3 1 .int := ⟨_, _, _, tyX3, rfl, tyX3_ok, nmX3, rfl, by decide +kernel⟩
theorem zp_3_2 : zFw 3 2 .int := ⟨_, _, _, tyX3, rfl, tyX3_ok, nmX3, rfl, by decide +kernel⟩
theorem zp_3_3 : zFw 3 3 .int := ⟨_, _, _, tyX3, rfl, tyX3_ok, nmX3, rfl, by decide +kernel⟩
theorem zp_3_4 : zFw 3 4 .boolean := ⟨_, _, _, tyX3, rfl, tyX3_ok, nmX3, rfl, by decide +kernel⟩
theorem zp_3_5 : zFw 3 5 .int := ⟨_, _, _, tyX3, rfl, tyX3_ok, nmX3, rfl, by decide +kernel⟩
theorem zp_3_6 : zFw 3 6 .int := ⟨_, _, _, tyX3, rfl, tyX3_ok, nmX3, rfl, by decide +kernel⟩
theorem zp_4_0 : zFw 4 0 .int := ⟨_, _, _, tyX4, rfl, tyX4_ok, nmX4, rfl, by decide +kernel⟩
theorem zp_4_1 : zFw 4 1 .int := ⟨_, _, _, tyX4, rfl, tyX4_ok, nmX4, rfl, by decide +kernel⟩
theorem zp_4_2 : zFw 4 2 .int := ⟨_, _, _, tyX4, rfl, tyX4_ok, nmX4, rfl, by decide +kernel⟩
theorem zp_4_3 : zFw 4 3 .int := ⟨_, _, _, tyX4, rfl, tyX4_ok, nmX4, rfl, by decide +kernel⟩
theorem zp_4_4 : zFw 4 4 .int := ⟨_, _, _, tyX4, rfl, tyX4_ok, nmX4, rfl, by decide +kernel⟩
theorem zp_4_5 : zFw 4 5 .int := ⟨_, _, _, tyX4, rfl, tyX4_ok, nmX4, rfl, by decide +kernel⟩
theorem zp_4_6 : zFw 4 6 .int := ⟨_, _, _, tyX4, rfl, tyX4_ok, nmX4, rfl, by decide +kernel⟩
theorem zp_4_7 : zFw 4 7 .int := ⟨_, _, _, tyX4, rfl, tyX4_ok, nmX4, rfl, by decide +kernel⟩
theorem zp_4_8 : zFw 4 8 .int := ⟨_, _, _, tyX4, rfl, tyX4_ok, nmX4, rfl, by decide +kernel⟩
theorem zp_4_9 : zFw 4 9 .int := ⟨_, _, _, tyX4, rfl, tyX4_ok, nmX4, rfl, by decide +kernel⟩
theorem zp_5_6 : zFw 5 6 .int := ⟨_, _, _, tyX5, rfl, tyX5_ok, nmX5, rfl, by decide +kernel⟩
theorem zp_5_7 : zFw 5 7 .int := ⟨_, _, _, tyX5, rfl, tyX5_ok, nmX5, rfl, by decide +kernel⟩
theorem zp_6_1 : zFw 6 1 .int := ⟨_, _, _, tyX6, rfl, tyX6_ok, nmX6, rfl, by decide +kernel⟩
theorem zp_6_2 : zFw 6 2 .int := ⟨_, _, _, tyX6, rfl, tyX6_ok, nmX6, rfl, by decide +kernel⟩
theorem zp_7_3 : zFw 7 3 .int := ⟨_, _, _, tyX7, rfl, tyX7_ok, nmX7, rfl, by decide +kernel⟩
theorem zp_7_4 : zFw 7 4 .int := ⟨_, _, _, tyX7, rfl, tyX7_ok, nmX7, rfl, by decide +kernel⟩
theorem zp_7_5 : zFw 7 5 .int := ⟨_, _, _, tyX7, rfl, tyX7_ok, nmX7, rfl, by decide +kernel⟩
theorem zp_7_6 : zFw 7 6 .int := ⟨_, _, _, tyX7, rfl, tyX7_ok, nmX7, rfl, by decide +kernel⟩
theorem zp_7_7 : zFw 7 7 .int := ⟨_, _, _, tyX7, rfl, tyX7_ok, nmX7, rfl, by decide +kernel⟩
theorem zp_8_5 : zFw 8 5 .int := ⟨_, _, _, tyX8, rfl, tyX8_ok, nmX8, rfl, by decide +kernel⟩
theorem zp_8_6 : zFw 8 6 .int := ⟨_, _, _, tyX8, rfl, tyX8_ok, nmX8, rfl, by decide +kernel⟩
theorem zp_8_7 : zFw 8 7 .int := ⟨_, _, _, tyX8, rfl, tyX8_ok, nmX8, rfl, by decide +kernel⟩
theorem zp_8_8 : zFw 8 8 .int := ⟨_, _, _, tyX8, rfl, tyX8_ok, nmX8, rfl, by decide +kernel⟩
theorem zp_9_5 : zFw 9 5 .boolean := ⟨_, _, _, tyX9, rfl, tyX9_ok, nmX9, rfl, by decide +kernel⟩
theorem zp_10_0 : zFw 10 0 .int := ⟨_, _, _, tyX10, rfl, tyX10_ok, nmX10, rfl, by decide +kernel⟩
theorem zp_10_2 : zFw 10 2 .int := ⟨_, _, _, tyX10, rfl, tyX10_ok, nmX10, rfl, by decide +kernel⟩
theorem zp_10_4 : zFw 10 4 .int := ⟨_, _, _, tyX10, rfl, tyX10_ok, nmX10, rfl, by decide +kernel⟩
theorem zp_10_6 : zFw 10 6 .int := ⟨_, _, _, tyX10, rfl, tyX10_ok, nmX10, rfl, by decide +kernel⟩
theorem zp_10_13 : zFw 10 13 .int := ⟨_, _, _, tyX10, rfl, tyX10_ok, nmX10, rfl, by decide +kernel⟩
theorem zp_10_16 : zFw 10 16 .int := ⟨_, _, _, tyX10, rfl, tyX10_ok, nmX10, rfl, by decide +kernel⟩
theorem zp_10_17 : zFw 10 17 .int := ⟨_, _, _, tyX10, rfl, tyX10_ok, nmX10, rfl, by decide +kernel⟩
theorem zp_10_18 : zFw 10 18 .int := ⟨_, _, _, tyX10, rfl, tyX10_ok, nmX10, rfl, by decide +kernel⟩
theorem zp_10_20 : zFw 10 20 .int := ⟨_, _, _, tyX10, rfl, tyX10_ok, nmX10, rfl, by decide +kernel⟩
theorem zp_10_22 : zFw 10 22 .boolean := ⟨_, _, _, tyX10, rfl, tyX10_ok, nmX10, rfl, by decide +kernel⟩
theorem zp_10_24 : zFw 10 24 .int := ⟨_, _, _, tyX10, rfl, tyX10_ok, nmX10, rfl, by decide +kernel⟩
theorem zy_X9_isLand : yX9_isLand.cls ≠ "java/lang/invoke/MethodHandle" ∧ yX9_isLand.cls ≠ "java/lang/invoke/VarHandle" ∧ (parseMethodDescriptor yX9_isLand.desc).map (fun q => q.parameters.length) = some 1 := ⟨by decide +kernel, by decide +kernel, by decide +kernel⟩
theorem zk_X9_46 : zCs "SentRoads" 46 yX9_isLand cX9_isLand 1 (some .boolean) 1 := ⟨zw_449, zw_450, zw_40, zw_451, zy_X9_isLand, by decide⟩
theorem zy_X0_tell : yX0_tell.cls ≠ "java/lang/invoke/MethodHandle" ∧ yX0_tell.cls ≠ "java/lang/invoke/VarHandle" ∧ (parseMethodDescriptor yX0_tell.desc).map (fun q => q.parameters.length) = some 6 := ⟨by decide +kernel, by decide +kernel, by decide +kernel⟩
theorem zk_X9_58 : zCv "SentRoads" 58 yX0_tell cX0_tell 7 none 6 := ⟨zw_452, zw_453, zw_454, zw_43, zw_455, zy_X0_tell, by decide⟩
theorem zy_X8_takeCrime : yX8_takeCrime.cls ≠ "java/lang/invoke/MethodHandle" ∧ yX8_takeCrime.cls ≠ "java/lang/invoke/VarHandle" ∧ (parseMethodDescriptor yX8_takeCrime.desc).map (fun q => q.parameters.length) = some 0 := ⟨by decide +kernel, by decide +kernel, by decide +kernel⟩
theorem zk_X9_64 : zCv "SentRoads" 64 yX8_takeCrime cX8_takeCrime 2 (some .int) 0 := ⟨zw_456, zw_457, zw_458, zw_41, zw_459, zy_X8_takeCrime, by decide⟩
theorem zy_X9_isYear : yX9_isYear.cls ≠ "java/lang/invoke/MethodHandle" ∧ yX9_isYear.cls ≠ "java/lang/invoke/VarHandle" ∧ (parseMethodDescriptor yX9_isYear.desc).map (fun q => q.parameters.length) = some 1 := ⟨by decide +kernel, by decide +kernel, by decide +kernel⟩
theorem zk_X9_68 : zCs "SentRoads" 68 yX9_isYear cX9_isYear 1 (some .boolean) 1 := ⟨zw_475, zw_476, zw_40, zw_477, zy_X9_isYear, by decide⟩
theorem zy_X1_tell : yX1_tell.cls ≠ "java/lang/invoke/MethodHandle" ∧ yX1_tell.cls ≠ "java/lang/invoke/VarHandle" ∧ (parseMethodDescriptor yX1_tell.desc).map (fun q => q.parameters.length) = some 4 := ⟨by decide +kernel, by decide +kernel, by decide +kernel⟩
theorem zk_X9_78 : zCv "SentRoads" 78 yX1_tell cX1_tell 5 none 4 := ⟨zw_478, zw_479, zw_480, zw_44, zw_481, zy_X1_tell, by decide⟩
theorem zy_X8_takeDeed : yX8_takeDeed.cls ≠ "java/lang/invoke/MethodHandle" ∧ yX8_takeDeed.cls ≠ "java/lang/invoke/VarHandle" ∧ (parseMethodDescriptor yX8_takeDeed.desc).map (fun q => q.parameters.length) = some 0 := ⟨by decide +kernel, by decide +kernel, by decide +kernel⟩
theorem zk_X9_83 : zCv "SentRoads" 83 yX8_takeDeed cX8_takeDeed 1 (some .int) 0 := ⟨zw_482, zw_483, zw_484, zw_41, zw_485, zy_X8_takeDeed, by decide⟩
theorem zy_X9_addPaper : yX9_addPaper.cls ≠ "java/lang/invoke/MethodHandle" ∧ yX9_addPaper.cls ≠ "java/lang/invoke/VarHandle" ∧ (parseMethodDescriptor yX9_addPaper.desc).map (fun q => q.parameters.length) = some 5 := ⟨by decide +kernel, by decide +kernel, by decide +kernel⟩
theorem zk_X9_86 : zCv "SentRoads" 86 yX9_addPaper cX9_addPaper 7 (some .int) 5 := ⟨zw_501, zw_503, zw_0, zw_40, zw_504, zy_X9_addPaper, by decide⟩
theorem zy_X4_become : yX4_become.cls ≠ "java/lang/invoke/MethodHandle" ∧ yX4_become.cls ≠ "java/lang/invoke/VarHandle" ∧ (parseMethodDescriptor yX4_become.desc).map (fun q => q.parameters.length) = some 3 := ⟨by decide +kernel, by decide +kernel, by decide +kernel⟩
theorem zk_X9_94 : zCv "SentRoads" 94 yX4_become cX4_become 4 none 3 := ⟨zw_517, zw_518, zw_519, zw_45, zw_520, zy_X4_become, by decide⟩
theorem zy_X8_crimesOf : yX8_crimesOf.cls ≠ "java/lang/invoke/MethodHandle" ∧ yX8_crimesOf.cls ≠ "java/lang/invoke/VarHandle" ∧ (parseMethodDescriptor yX8_crimesOf.desc).map (fun q => q.parameters.length) = some 1 := ⟨by decide +kernel, by decide +kernel, by decide +kernel⟩
theorem zk_X9_100 : zCv "SentRoads" 100 yX8_crimesOf cX8_crimesOf 4 (some .int) 1 := ⟨zw_525, zw_526, zw_527, zw_41, zw_528, zy_X8_crimesOf, by decide⟩
theorem zy_X9_byteOf : yX9_byteOf.cls ≠ "java/lang/invoke/MethodHandle" ∧ yX9_byteOf.cls ≠ "java/lang/invoke/VarHandle" ∧ (parseMethodDescriptor yX9_byteOf.desc).map (fun q => q.parameters.length) = some 2 := ⟨by decide +kernel, by decide +kernel, by decide +kernel⟩
theorem zk_X9_104 : zCs "SentRoads" 104 yX9_byteOf cX9_byteOf 3 (some .int) 2 := ⟨zw_537, zw_538, zw_40, zw_539, zy_X9_byteOf, by decide⟩
theorem zy_X7_write : yX7_write.cls ≠ "java/lang/invoke/MethodHandle" ∧ yX7_write.cls ≠ "java/lang/invoke/VarHandle" ∧ (parseMethodDescriptor yX7_write.desc).map (fun q => q.parameters.length) = some 1 := ⟨by decide +kernel, by decide +kernel, by decide +kernel⟩
theorem zk_X9_111 : zCv "SentRoads" 111 yX7_write cX7_write 2 none 1 := ⟨zw_540, zw_541, zw_542, zw_48, zw_543, zy_X7_write, by decide⟩
theorem zy_X7_parse : yX7_parse.cls ≠ "java/lang/invoke/MethodHandle" ∧ yX7_parse.cls ≠ "java/lang/invoke/VarHandle" ∧ (parseMethodDescriptor yX7_parse.desc).map (fun q => q.parameters.length) = some 0 := ⟨by decide +kernel, by decide +kernel, by decide +kernel⟩
theorem zk_X9_115 : zCv "SentRoads" 115 yX7_parse cX7_parse 2 (some .int) 0 := ⟨zw_548, zw_549, zw_550, zw_48, zw_551, zy_X7_parse, by decide⟩
theorem zy_X0_copy : yX0_copy.cls ≠ "java/lang/invoke/MethodHandle" ∧ yX0_copy.cls ≠ "java/lang/invoke/VarHandle" ∧ (parseMethodDescriptor yX0_copy.desc).map (fun q => q.parameters.length) = some 1 := ⟨by decide +kernel, by decide +kernel, by decide +kernel⟩
theorem zk_X9_124 : zCv "SentRoads" 124 yX0_copy cX0_copy 2 none 1 := ⟨zw_694, zw_695, zw_696, zw_43, zw_697, zy_X0_copy, by decide⟩
theorem zy_X4_copy : yX4_copy.cls ≠ "java/lang/invoke/MethodHandle" ∧ yX4_copy.cls ≠ "java/lang/invoke/VarHandle" ∧ (parseMethodDescriptor yX4_copy.desc).map (fun q => q.parameters.length) = some 1 := ⟨by decide +kernel, by decide +kernel, by decide +kernel⟩
theorem zk_X9_129 : zCv "SentRoads" 129 yX4_copy cX4_copy 2 none 1 := ⟨zw_699, zw_700, zw_701, zw_45, zw_702, zy_X4_copy, by decide⟩
theorem zy_X8_takePaper : yX8_takePaper.cls ≠ "java/lang/invoke/MethodHandle" ∧ yX8_takePaper.cls ≠ "java/lang/invoke/VarHandle" ∧ (parseMethodDescriptor yX8_takePaper.desc).map (fun q => q.parameters.length) = some 0 := ⟨by decide +kernel, by decide +kernel, by decide +kernel⟩
theorem zk_X9_132 : zCv "SentRoads" 132 yX8_takePaper cX8_takePaper 1 (some .int) 0 := ⟨zw_513, zw_514, zw_515, zw_41, zw_516, zy_X8_takePaper, by decide⟩
theorem zy_X9_isPaper : yX9_isPaper.cls ≠ "java/lang/invoke/MethodHandle" ∧ yX9_isPaper.cls ≠ "java/lang/invoke/VarHandle" ∧ (parseMethodDescriptor yX9_isPaper.desc).map (fun q => q.parameters.length) = some 1 := ⟨by decide +kernel, by decide +kernel, by decide +kernel⟩
theorem zk_X9_153 : zCv "SentRoads" 153 yX9_isPaper cX9_isPaper 2 (some .boolean) 1 := ⟨zw_715, zw_717, zw_1, zw_40, zw_718, zy_X9_isPaper, by decide⟩
theorem zy_X9_isDeed : yX9_isDeed.cls ≠ "java/lang/invoke/MethodHandle" ∧ yX9_isDeed.cls ≠ "java/lang/invoke/VarHandle" ∧ (parseMethodDescriptor yX9_isDeed.desc).map (fun q => q.parameters.length) = some 1 := ⟨by decide +kernel, by decide +kernel, by decide +kernel⟩
theorem zk_X9_179 : zCv "SentRoads" 179 yX9_isDeed cX9_isDeed 2 (some .boolean) 1 := ⟨zw_727, zw_729, zw_2, zw_40, zw_730, zy_X9_isDeed, by decide⟩
theorem zy_X9_isSheet : yX9_isSheet.cls ≠ "java/lang/invoke/MethodHandle" ∧ yX9_isSheet.cls ≠ "java/lang/invoke/VarHandle" ∧ (parseMethodDescriptor yX9_isSheet.desc).map (fun q => q.parameters.length) = some 1 := ⟨by decide +kernel, by decide +kernel, by decide +kernel⟩
theorem zk_X9_195 : zCs "SentRoads" 195 yX9_isSheet cX9_isSheet 1 (some .boolean) 1 := ⟨zw_739, zw_740, zw_40, zw_741, zy_X9_isSheet, by decide⟩
theorem zy_X9_isLane : yX9_isLane.cls ≠ "java/lang/invoke/MethodHandle" ∧ yX9_isLane.cls ≠ "java/lang/invoke/VarHandle" ∧ (parseMethodDescriptor yX9_isLane.desc).map (fun q => q.parameters.length) = some 1 := ⟨by decide +kernel, by decide +kernel, by decide +kernel⟩
theorem zk_X9_198 : zCs "SentRoads" 198 yX9_isLane cX9_isLane 1 (some .boolean) 1 := ⟨zw_742, zw_743, zw_40, zw_744, zy_X9_isLane, by decide⟩
theorem zy_X6_refuse : yX6_refuse.cls ≠ "java/lang/invoke/MethodHandle" ∧ yX6_refuse.cls ≠ "java/lang/invoke/VarHandle" ∧ (parseMethodDescriptor yX6_refuse.desc).map (fun q => q.parameters.length) = some 1 := ⟨by decide +kernel, by decide +kernel, by decide +kernel⟩
theorem zk_X9_201 : zCv "SentRoads" 201 yX6_refuse cX6_refuse 2 (some .int) 1 := ⟨zw_745, zw_746, zw_747, zw_49, zw_748, zy_X6_refuse, by decide⟩
theorem zy_X6_marksFrom : yX6_marksFrom.cls ≠ "java/lang/invoke/MethodHandle" ∧ yX6_marksFrom.cls ≠ "java/lang/invoke/VarHandle" ∧ (parseMethodDescriptor yX6_marksFrom.desc).map (fun q => q.parameters.length) = some 1 := ⟨by decide +kernel, by decide +kernel, by decide +kernel⟩
theorem zk_X9_210 : zCv "SentRoads" 210 yX6_marksFrom cX6_marksFrom 4 (some .int) 1 := ⟨zw_749, zw_750, zw_751, zw_49, zw_752, zy_X6_marksFrom, by decide⟩
theorem zy_X8_learnAgain : yX8_learnAgain.cls ≠ "java/lang/invoke/MethodHandle" ∧ yX8_learnAgain.cls ≠ "java/lang/invoke/VarHandle" ∧ (parseMethodDescriptor yX8_learnAgain.desc).map (fun q => q.parameters.length) = some 1 := ⟨by decide +kernel, by decide +kernel, by decide +kernel⟩
theorem zk_X9_213 : zCv "SentRoads" 213 yX8_learnAgain cX8_learnAgain 3 none 1 := ⟨zw_753, zw_487, zw_488, zw_41, zw_489, zy_X8_learnAgain, by decide⟩
theorem zy_X3_sit : yX3_sit.cls ≠ "java/lang/invoke/MethodHandle" ∧ yX3_sit.cls ≠ "java/lang/invoke/VarHandle" ∧ (parseMethodDescriptor yX3_sit.desc).map (fun q => q.parameters.length) = some 1 := ⟨by decide +kernel, by decide +kernel, by decide +kernel⟩
theorem zk_X9_235 : zCv "SentRoads" 235 yX3_sit cX3_sit 2 none 1 := ⟨zw_762, zw_763, zw_764, zw_42, zw_765, zy_X3_sit, by decide⟩
theorem zy_X8_allDeeds : yX8_allDeeds.cls ≠ "java/lang/invoke/MethodHandle" ∧ yX8_allDeeds.cls ≠ "java/lang/invoke/VarHandle" ∧ (parseMethodDescriptor yX8_allDeeds.desc).map (fun q => q.parameters.length) = some 0 := ⟨by decide +kernel, by decide +kernel, by decide +kernel⟩
theorem zk_X9_252 : zCv "SentRoads" 252 yX8_allDeeds cX8_allDeeds 1 (some .int) 0 := ⟨zw_774, zw_775, zw_776, zw_41, zw_777, zy_X8_allDeeds, by decide⟩
theorem zy_X8_coveredBy : yX8_coveredBy.cls ≠ "java/lang/invoke/MethodHandle" ∧ yX8_coveredBy.cls ≠ "java/lang/invoke/VarHandle" ∧ (parseMethodDescriptor yX8_coveredBy.desc).map (fun q => q.parameters.length) = some 1 := ⟨by decide +kernel, by decide +kernel, by decide +kernel⟩
theorem zk_X9_255 : zCv "SentRoads" 255 yX8_coveredBy cX8_coveredBy 4 (some .int) 1 := ⟨zw_782, zw_783, zw_784, zw_41, zw_785, zy_X8_coveredBy, by decide⟩
theorem zy_X8_weigh : yX8_weigh.cls ≠ "java/lang/invoke/MethodHandle" ∧ yX8_weigh.cls ≠ "java/lang/invoke/VarHandle" ∧ (parseMethodDescriptor yX8_weigh.desc).map (fun q => q.parameters.length) = some 1 := ⟨by decide +kernel, by decide +kernel, by decide +kernel⟩
theorem zk_X9_259 : zCv "SentRoads" 259 yX8_weigh cX8_weigh 4 none 1 := ⟨zw_794, zw_795, zw_796, zw_41, zw_797, zy_X8_weigh, by decide⟩
theorem zy_X3_goesBy : yX3_goesBy.cls ≠ "java/lang/invoke/MethodHandle" ∧ yX3_goesBy.cls ≠ "java/lang/invoke/VarHandle" ∧ (parseMethodDescriptor yX3_goesBy.desc).map (fun q => q.parameters.length) = some 1 := ⟨by decide +kernel, by decide +kernel, by decide +kernel⟩
theorem zk_X9_262 : zCv "SentRoads" 262 yX3_goesBy cX3_goesBy 3 (some .int) 1 := ⟨zw_810, zw_811, zw_812, zw_42, zw_813, zy_X3_goesBy, by decide⟩
theorem zy_X8_barsAgainst : yX8_barsAgainst.cls ≠ "java/lang/invoke/MethodHandle" ∧ yX8_barsAgainst.cls ≠ "java/lang/invoke/VarHandle" ∧ (parseMethodDescriptor yX8_barsAgainst.desc).map (fun q => q.parameters.length) = some 2 := ⟨by decide +kernel, by decide +kernel, by decide +kernel⟩
theorem zk_X9_265 : zCv "SentRoads" 265 yX8_barsAgainst cX8_barsAgainst 4 (some .int) 2 := ⟨zw_819, zw_799, zw_800, zw_41, zw_801, zy_X8_barsAgainst, by decide⟩
theorem zy_X9_lets : yX9_lets.cls ≠ "java/lang/invoke/MethodHandle" ∧ yX9_lets.cls ≠ "java/lang/invoke/VarHandle" ∧ (parseMethodDescriptor yX9_lets.desc).map (fun q => q.parameters.length) = some 1 := ⟨by decide +kernel, by decide +kernel, by decide +kernel⟩
theorem zk_X9_269 : zCv "SentRoads" 269 yX9_lets cX9_lets 3 (some .int) 1 := ⟨zw_824, zw_791, zw_792, zw_40, zw_793, zy_X9_lets, by decide⟩
theorem zy_X3_go : yX3_go.cls ≠ "java/lang/invoke/MethodHandle" ∧ yX3_go.cls ≠ "java/lang/invoke/VarHandle" ∧ (parseMethodDescriptor yX3_go.desc).map (fun q => q.parameters.length) = some 2 := ⟨by decide +kernel, by decide +kernel, by decide +kernel⟩
theorem zk_X9_272 : zCv "SentRoads" 272 yX3_go cX3_go 3 none 2 := ⟨zw_825, zw_826, zw_827, zw_42, zw_828, zy_X3_go, by decide⟩
theorem zy_X8_triedBy : yX8_triedBy.cls ≠ "java/lang/invoke/MethodHandle" ∧ yX8_triedBy.cls ≠ "java/lang/invoke/VarHandle" ∧ (parseMethodDescriptor yX8_triedBy.desc).map (fun q => q.parameters.length) = some 1 := ⟨by decide +kernel, by decide +kernel, by decide +kernel⟩
theorem zk_X9_276 : zCv "SentRoads" 276 yX8_triedBy cX8_triedBy 4 (some .int) 1 := ⟨zw_833, zw_834, zw_835, zw_41, zw_836, zy_X8_triedBy, by decide⟩
theorem zy_X8_weighAll : yX8_weighAll.cls ≠ "java/lang/invoke/MethodHandle" ∧ yX8_weighAll.cls ≠ "java/lang/invoke/VarHandle" ∧ (parseMethodDescriptor yX8_weighAll.desc).map (fun q => q.parameters.length) = some 0 := ⟨by decide +kernel, by decide +kernel, by decide +kernel⟩
theorem zk_X9_280 : zCv "SentRoads" 280 yX8_weighAll cX8_weighAll 2 none 0 := ⟨zw_845, zw_846, zw_847, zw_41, zw_848, zy_X8_weighAll, by decide⟩
theorem zy_X5_find : yX5_find.cls ≠ "java/lang/invoke/MethodHandle" ∧ yX5_find.cls ≠ "java/lang/invoke/VarHandle" ∧ (parseMethodDescriptor yX5_find.desc).map (fun q => q.parameters.length) = some 2 := ⟨by decide +kernel, by decide +kernel, by decide +kernel⟩
theorem zk_X9_283 : zCv "SentRoads" 283 yX5_find cX5_find 4 (some .int) 2 := ⟨zw_850, zw_851, zw_852, zw_47, zw_853, zy_X5_find, by decide⟩
theorem zy_X5_lengthTo : yX5_lengthTo.cls ≠ "java/lang/invoke/MethodHandle" ∧ yX5_lengthTo.cls ≠ "java/lang/invoke/VarHandle" ∧ (parseMethodDescriptor yX5_lengthTo.desc).map (fun q => q.parameters.length) = some 1 := ⟨by decide +kernel, by decide +kernel, by decide +kernel⟩
theorem zk_X9_287 : zCv "SentRoads" 287 yX5_lengthTo cX5_lengthTo 4 (some .int) 1 := ⟨zw_874, zw_875, zw_876, zw_47, zw_877, zy_X5_lengthTo, by decide⟩
theorem zy_X5_paperOn : yX5_paperOn.cls ≠ "java/lang/invoke/MethodHandle" ∧ yX5_paperOn.cls ≠ "java/lang/invoke/VarHandle" ∧ (parseMethodDescriptor yX5_paperOn.desc).map (fun q => q.parameters.length) = some 2 := ⟨by decide +kernel, by decide +kernel, by decide +kernel⟩
theorem zk_X9_290 : zCv "SentRoads" 290 yX5_paperOn cX5_paperOn 5 (some .int) 2 := ⟨zw_878, zw_879, zw_880, zw_47, zw_881, zy_X5_paperOn, by decide⟩
theorem zy_X5_reach : yX5_reach.cls ≠ "java/lang/invoke/MethodHandle" ∧ yX5_reach.cls ≠ "java/lang/invoke/VarHandle" ∧ (parseMethodDescriptor yX5_reach.desc).map (fun q => q.parameters.length) = some 0 := ⟨by decide +kernel, by decide +kernel, by decide +kernel⟩
theorem zk_X9_293 : zCv "SentRoads" 293 yX5_reach cX5_reach 3 (some .int) 0 := ⟨zw_886, zw_887, zw_888, zw_47, zw_889, zy_X5_reach, by decide⟩
theorem zy_X5_safeLands : yX5_safeLands.cls ≠ "java/lang/invoke/MethodHandle" ∧ yX5_safeLands.cls ≠ "java/lang/invoke/VarHandle" ∧ (parseMethodDescriptor yX5_safeLands.desc).map (fun q => q.parameters.length) = some 1 := ⟨by decide +kernel, by decide +kernel, by decide +kernel⟩
theorem zk_X9_296 : zCv "SentRoads" 296 yX5_safeLands cX5_safeLands 6 (some .int) 1 := ⟨zw_894, zw_895, zw_896, zw_47, zw_897, zy_X5_safeLands, by decide⟩
theorem zy_X2_tell : yX2_tell.cls ≠ "java/lang/invoke/MethodHandle" ∧ yX2_tell.cls ≠ "java/lang/invoke/VarHandle" ∧ (parseMethodDescriptor yX2_tell.desc).map (fun q => q.parameters.length) = some 3 := ⟨by decide +kernel, by decide +kernel, by decide +kernel⟩
theorem zk_X9_304 : zCv "SentRoads" 304 yX2_tell cX2_tell 4 none 3 := ⟨zw_903, zw_904, zw_905, zw_46, zw_906, zy_X2_tell, by decide⟩
theorem zy_X8_weighDemands : yX8_weighDemands.cls ≠ "java/lang/invoke/MethodHandle" ∧ yX8_weighDemands.cls ≠ "java/lang/invoke/VarHandle" ∧ (parseMethodDescriptor yX8_weighDemands.desc).map (fun q => q.parameters.length) = some 0 := ⟨by decide +kernel, by decide +kernel, by decide +kernel⟩
theorem zk_X9_308 : zCv "SentRoads" 308 yX8_weighDemands cX8_weighDemands 4 none 0 := ⟨zw_911, zw_912, zw_913, zw_41, zw_914, zy_X8_weighDemands, by decide⟩
theorem zy_X8_placeOf : yX8_placeOf.cls ≠ "java/lang/invoke/MethodHandle" ∧ yX8_placeOf.cls ≠ "java/lang/invoke/VarHandle" ∧ (parseMethodDescriptor yX8_placeOf.desc).map (fun q => q.parameters.length) = some 1 := ⟨by decide +kernel, by decide +kernel, by decide +kernel⟩
theorem zk_X9_314 : zCv "SentRoads" 314 yX8_placeOf cX8_placeOf 5 (some .int) 1 := ⟨zw_921, zw_922, zw_923, zw_41, zw_924, zy_X8_placeOf, by decide⟩
theorem zy_X9_isLess : yX9_isLess.cls ≠ "java/lang/invoke/MethodHandle" ∧ yX9_isLess.cls ≠ "java/lang/invoke/VarHandle" ∧ (parseMethodDescriptor yX9_isLess.desc).map (fun q => q.parameters.length) = some 2 := ⟨by decide +kernel, by decide +kernel, by decide +kernel⟩
theorem zk_X9_317 : zCs "SentRoads" 317 yX9_isLess cX9_isLess 3 (some .boolean) 2 := ⟨zw_933, zw_934, zw_40, zw_935, zy_X9_isLess, by decide⟩
theorem zy_X8_weighAlone : yX8_weighAlone.cls ≠ "java/lang/invoke/MethodHandle" ∧ yX8_weighAlone.cls ≠ "java/lang/invoke/VarHandle" ∧ (parseMethodDescriptor yX8_weighAlone.desc).map (fun q => q.parameters.length) = some 1 := ⟨by decide +kernel, by decide +kernel, by decide +kernel⟩
theorem zk_X9_321 : zCv "SentRoads" 321 yX8_weighAlone cX8_weighAlone 4 none 1 := ⟨zw_946, zw_947, zw_948, zw_41, zw_949, zy_X8_weighAlone, by decide⟩
theorem zy_X5_fewestBars : yX5_fewestBars.cls ≠ "java/lang/invoke/MethodHandle" ∧ yX5_fewestBars.cls ≠ "java/lang/invoke/VarHandle" ∧ (parseMethodDescriptor yX5_fewestBars.desc).map (fun q => q.parameters.length) = some 2 := ⟨by decide +kernel, by decide +kernel, by decide +kernel⟩
theorem zk_X9_324 : zCv "SentRoads" 324 yX5_fewestBars cX5_fewestBars 6 (some .int) 2 := ⟨zw_950, zw_951, zw_952, zw_47, zw_953, zy_X5_fewestBars, by decide⟩
theorem zy_X8_landsWhereCrime : yX8_landsWhereCrime.cls ≠ "java/lang/invoke/MethodHandle" ∧ yX8_landsWhereCrime.cls ≠ "java/lang/invoke/VarHandle" ∧ (parseMethodDescriptor yX8_landsWhereCrime.desc).map (fun q => q.parameters.length) = some 1 := ⟨by decide +kernel, by decide +kernel, by decide +kernel⟩
theorem zk_X9_327 : zCv "SentRoads" 327 yX8_landsWhereCrime cX8_landsWhereCrime 4 (some .int) 1 := ⟨zw_967, zw_968, zw_969, zw_41, zw_970, zy_X8_landsWhereCrime, by decide⟩
theorem zy_X8_copy : yX8_copy.cls ≠ "java/lang/invoke/MethodHandle" ∧ yX8_copy.cls ≠ "java/lang/invoke/VarHandle" ∧ (parseMethodDescriptor yX8_copy.desc).map (fun q => q.parameters.length) = some 1 := ⟨by decide +kernel, by decide +kernel, by decide +kernel⟩
theorem zk_X9_330 : zCv "SentRoads" 330 yX8_copy cX8_copy 3 none 1 := ⟨zw_976, zw_977, zw_978, zw_41, zw_979, zy_X8_copy, by decide⟩
theorem zy_X6_begin : yX6_begin.cls ≠ "java/lang/invoke/MethodHandle" ∧ yX6_begin.cls ≠ "java/lang/invoke/VarHandle" ∧ (parseMethodDescriptor yX6_begin.desc).map (fun q => q.parameters.length) = some 2 := ⟨by decide +kernel, by decide +kernel, by decide +kernel⟩
theorem zk_X9_332 : zCv "SentRoads" 332 yX6_begin cX6_begin 3 none 2 := ⟨zw_1001, zw_1002, zw_1003, zw_49, zw_1004, zy_X6_begin, by decide⟩
theorem zy_X6_put : yX6_put.cls ≠ "java/lang/invoke/MethodHandle" ∧ yX6_put.cls ≠ "java/lang/invoke/VarHandle" ∧ (parseMethodDescriptor yX6_put.desc).map (fun q => q.parameters.length) = some 2 := ⟨by decide +kernel, by decide +kernel, by decide +kernel⟩
theorem zk_X9_339 : zCv "SentRoads" 339 yX6_put cX6_put 3 none 2 := ⟨zw_1014, zw_1015, zw_1016, zw_49, zw_1017, zy_X6_put, by decide⟩
theorem zy_X4_lead : yX4_lead.cls ≠ "java/lang/invoke/MethodHandle" ∧ yX4_lead.cls ≠ "java/lang/invoke/VarHandle" ∧ (parseMethodDescriptor yX4_lead.desc).map (fun q => q.parameters.length) = some 2 := ⟨by decide +kernel, by decide +kernel, by decide +kernel⟩
theorem zk_X9_342 : zCv "SentRoads" 342 yX4_lead cX4_lead 3 none 2 := ⟨zw_505, zw_506, zw_507, zw_45, zw_508, zy_X4_lead, by decide⟩
theorem zy_X4_rule : yX4_rule.cls ≠ "java/lang/invoke/MethodHandle" ∧ yX4_rule.cls ≠ "java/lang/invoke/VarHandle" ∧ (parseMethodDescriptor yX4_rule.desc).map (fun q => q.parameters.length) = some 3 := ⟨by decide +kernel, by decide +kernel, by decide +kernel⟩
theorem zk_X9_345 : zCv "SentRoads" 345 yX4_rule cX4_rule 4 none 3 := ⟨zw_509, zw_510, zw_511, zw_45, zw_512, zy_X4_rule, by decide⟩
theorem zy_J6_bitCount_0f7a4 : yJ6_bitCount_0f7a4.cls ≠ "java/lang/invoke/MethodHandle" ∧ yJ6_bitCount_0f7a4.cls ≠ "java/lang/invoke/VarHandle" ∧ (parseMethodDescriptor yJ6_bitCount_0f7a4.desc).map (fun q => q.parameters.length) = some 1 := ⟨by decide +kernel, by decide +kernel, by decide +kernel⟩
theorem zk_X9_348 : zCs "SentRoads" 348 yJ6_bitCount_0f7a4 cJ6_bitCount_0f7a4 1 (some .int) 1 := ⟨zw_936, zw_937, zw_58, zw_938, zy_J6_bitCount_0f7a4, by decide⟩
theorem zk_X0_29 : zCv "SentRoads$Crime" 29 yX0_tell cX0_tell 7 none 6 := ⟨zw_698, zw_453, zw_454, zw_43, zw_455, zy_X0_tell, by decide⟩
theorem zk_X1_35 : zCv "SentRoads$Deed" 35 yX1_tell cX1_tell 5 none 4 := ⟨zw_985, zw_479, zw_480, zw_44, zw_481, zy_X1_tell, by decide⟩
theorem zy_J7_fill_53178 : yJ7_fill_53178.cls ≠ "java/lang/invoke/MethodHandle" ∧ yJ7_fill_53178.cls ≠ "java/lang/invoke/VarHandle" ∧ (parseMethodDescriptor yJ7_fill_53178.desc).map (fun q => q.parameters.length) = some 2 := ⟨by decide +kernel, by decide +kernel, by decide +kernel⟩
theorem zk_X1_48 : zCs "SentRoads$Deed" 48 yJ7_fill_53178 cJ7_fill_53178 4 none 2 := ⟨zw_494, zw_495, zw_52, zw_496, zy_J7_fill_53178, by decide⟩
theorem zy_X0_isMarks : yX0_isMarks.cls ≠ "java/lang/invoke/MethodHandle" ∧ yX0_isMarks.cls ≠ "java/lang/invoke/VarHandle" ∧ (parseMethodDescriptor yX0_isMarks.desc).map (fun q => q.parameters.length) = some 1 := ⟨by decide +kernel, by decide +kernel, by decide +kernel⟩
theorem zk_X1_57 : zCv "SentRoads$Deed" 57 yX0_isMarks cX0_isMarks 2 (some .boolean) 1 := ⟨zw_464, zw_465, zw_466, zw_43, zw_467, zy_X0_isMarks, by decide⟩
theorem zy_J9_max_7cf53 : yJ9_max_7cf53.cls ≠ "java/lang/invoke/MethodHandle" ∧ yJ9_max_7cf53.cls ≠ "java/lang/invoke/VarHandle" ∧ (parseMethodDescriptor yJ9_max_7cf53.desc).map (fun q => q.parameters.length) = some 2 := ⟨by decide +kernel, by decide +kernel, by decide +kernel⟩
theorem zk_X1_64 : zCs "SentRoads$Deed" 64 yJ9_max_7cf53 cJ9_max_7cf53 2 (some .int) 2 := ⟨zw_468, zw_469, zw_51, zw_470, zy_J9_max_7cf53, by decide⟩
theorem zy_X3_stand : yX3_stand.cls ≠ "java/lang/invoke/MethodHandle" ∧ yX3_stand.cls ≠ "java/lang/invoke/VarHandle" ∧ (parseMethodDescriptor yX3_stand.desc).map (fun q => q.parameters.length) = some 1 := ⟨by decide +kernel, by decide +kernel, by decide +kernel⟩
theorem zk_X3_25 : zCv "SentRoads$Man" 25 yX3_stand cX3_stand 2 none 1 := ⟨zw_992, zw_863, zw_864, zw_42, zw_865, zy_X3_stand, by decide⟩
theorem zy_X4_pledges : yX4_pledges.cls ≠ "java/lang/invoke/MethodHandle" ∧ yX4_pledges.cls ≠ "java/lang/invoke/VarHandle" ∧ (parseMethodDescriptor yX4_pledges.desc).map (fun q => q.parameters.length) = some 1 := ⟨by decide +kernel, by decide +kernel, by decide +kernel⟩
theorem zk_X3_49 : zCv "SentRoads$Man" 49 yX4_pledges cX4_pledges 2 (some .boolean) 1 := ⟨zw_814, zw_807, zw_808, zw_45, zw_809, zy_X4_pledges, by decide⟩
theorem zk_X4_36 : zCv "SentRoads$Paper" 36 yX4_lead cX4_lead 3 none 2 := ⟨zw_703, zw_506, zw_507, zw_45, zw_508, zy_X4_lead, by decide⟩
theorem zk_X4_40 : zCv "SentRoads$Paper" 40 yX4_become cX4_become 4 none 3 := ⟨zw_704, zw_518, zw_519, zw_45, zw_520, zy_X4_become, by decide⟩
theorem zk_X4_44 : zCv "SentRoads$Paper" 44 yX4_rule cX4_rule 4 none 3 := ⟨zw_705, zw_510, zw_511, zw_45, zw_512, zy_X4_rule, by decide⟩
theorem zy_X5_begin : yX5_begin.cls ≠ "java/lang/invoke/MethodHandle" ∧ yX5_begin.cls ≠ "java/lang/invoke/VarHandle" ∧ (parseMethodDescriptor yX5_begin.desc).map (fun q => q.parameters.length) = some 0 := ⟨by decide +kernel, by decide +kernel, by decide +kernel⟩
theorem zk_X5_35 : zCv "SentRoads$Roads" 35 yX5_begin cX5_begin 1 none 0 := ⟨zw_854, zw_855, zw_856, zw_47, zw_857, zy_X5_begin, by decide⟩
theorem zy_X5_placeWalker : yX5_placeWalker.cls ≠ "java/lang/invoke/MethodHandle" ∧ yX5_placeWalker.cls ≠ "java/lang/invoke/VarHandle" ∧ (parseMethodDescriptor yX5_placeWalker.desc).map (fun q => q.parameters.length) = some 1 := ⟨by decide +kernel, by decide +kernel, by decide +kernel⟩
theorem zk_X5_42 : zCv "SentRoads$Roads" 42 yX5_placeWalker cX5_placeWalker 2 none 1 := ⟨zw_858, zw_859, zw_860, zw_47, zw_861, zy_X5_placeWalker, by decide⟩
theorem zk_X5_49 : zCv "SentRoads$Roads" 49 yX8_triedBy cX8_triedBy 4 (some .int) 1 := ⟨zw_867, zw_834, zw_835, zw_41, zw_836, zy_X8_triedBy, by decide⟩
theorem zy_X5_spread : yX5_spread.cls ≠ "java/lang/invoke/MethodHandle" ∧ yX5_spread.cls ≠ "java/lang/invoke/VarHandle" ∧ (parseMethodDescriptor yX5_spread.desc).map (fun q => q.parameters.length) = some 1 := ⟨by decide +kernel, by decide +kernel, by decide +kernel⟩
theorem zk_X5_55 : zCv "SentRoads$Roads" 55 yX5_spread cX5_spread 5 none 1 := ⟨zw_868, zw_869, zw_870, zw_47, zw_871, zy_X5_spread, by decide⟩
theorem zk_X5_64 : zCv "SentRoads$Roads" 64 yX3_stand cX3_stand 2 none 1 := ⟨zw_862, zw_863, zw_864, zw_42, zw_865, zy_X3_stand, by decide⟩
theorem zk_X5_72 : zCv "SentRoads$Roads" 72 yX3_go cX3_go 3 none 2 := ⟨zw_866, zw_826, zw_827, zw_42, zw_828, zy_X3_go, by decide⟩
theorem zk_X5_79 : zCv "SentRoads$Roads" 79 yX3_goesBy cX3_goesBy 3 (some .int) 1 := ⟨zw_872, zw_811, zw_812, zw_42, zw_813, zy_X3_goesBy, by decide⟩
theorem zk_X5_83 : zCv "SentRoads$Roads" 83 yX4_pledges cX4_pledges 2 (some .boolean) 1 := ⟨zw_873, zw_807, zw_808, zw_45, zw_809, zy_X4_pledges, by decide⟩
theorem zk_X5_89 : zCv "SentRoads$Roads" 89 yX3_sit cX3_sit 2 none 1 := ⟨zw_898, zw_763, zw_764, zw_42, zw_765, zy_X3_sit, by decide⟩
theorem zk_X5_92 : zCs "SentRoads$Roads" 92 yJ7_fill_53178 cJ7_fill_53178 4 none 2 := ⟨zw_954, zw_495, zw_52, zw_496, zy_J7_fill_53178, by decide⟩
theorem zy_X5_relax : yX5_relax.cls ≠ "java/lang/invoke/MethodHandle" ∧ yX5_relax.cls ≠ "java/lang/invoke/VarHandle" ∧ (parseMethodDescriptor yX5_relax.desc).map (fun q => q.parameters.length) = some 2 := ⟨by decide +kernel, by decide +kernel, by decide +kernel⟩
theorem zk_X5_98 : zCv "SentRoads$Roads" 98 yX5_relax cX5_relax 7 (some .boolean) 2 := ⟨zw_955, zw_956, zw_957, zw_47, zw_958, zy_X5_relax, by decide⟩
theorem zy_J9_min_7cf53 : yJ9_min_7cf53.cls ≠ "java/lang/invoke/MethodHandle" ∧ yJ9_min_7cf53.cls ≠ "java/lang/invoke/VarHandle" ∧ (parseMethodDescriptor yJ9_min_7cf53.desc).map (fun q => q.parameters.length) = some 2 := ⟨by decide +kernel, by decide +kernel, by decide +kernel⟩
theorem zk_X5_105 : zCs "SentRoads$Roads" 105 yJ9_min_7cf53 cJ9_min_7cf53 2 (some .int) 2 := ⟨zw_961, zw_586, zw_51, zw_587, zy_J9_min_7cf53, by decide⟩
theorem zy_X1_isCrime : yX1_isCrime.cls ≠ "java/lang/invoke/MethodHandle" ∧ yX1_isCrime.cls ≠ "java/lang/invoke/VarHandle" ∧ (parseMethodDescriptor yX1_isCrime.desc).map (fun q => q.parameters.length) = some 1 := ⟨by decide +kernel, by decide +kernel, by decide +kernel⟩
theorem zk_X5_115 : zCv "SentRoads$Roads" 115 yX1_isCrime cX1_isCrime 2 (some .boolean) 1 := ⟨zw_962, zw_838, zw_839, zw_44, zw_840, zy_X1_isCrime, by decide⟩
theorem zk_X5_124 : zCv "SentRoads$Roads" 124 yX8_barsAgainst cX8_barsAgainst 4 (some .int) 2 := ⟨zw_959, zw_799, zw_800, zw_41, zw_801, zy_X8_barsAgainst, by decide⟩
theorem zk_X5_128 : zCs "SentRoads$Roads" 128 yJ6_bitCount_0f7a4 cJ6_bitCount_0f7a4 1 (some .int) 1 := ⟨zw_960, zw_937, zw_58, zw_938, zy_J6_bitCount_0f7a4, by decide⟩
theorem zk_X6_22 : zCs "SentRoads$Sheet" 22 yJ7_fill_53178 cJ7_fill_53178 4 none 2 := ⟨zw_1005, zw_495, zw_52, zw_496, zy_J7_fill_53178, by decide⟩
theorem zy_X7_readClause : yX7_readClause.cls ≠ "java/lang/invoke/MethodHandle" ∧ yX7_readClause.cls ≠ "java/lang/invoke/VarHandle" ∧ (parseMethodDescriptor yX7_readClause.desc).map (fun q => q.parameters.length) = some 0 := ⟨by decide +kernel, by decide +kernel, by decide +kernel⟩
theorem zk_X7_45 : zCv "SentRoads$Tape" 45 yX7_readClause cX7_readClause 2 none 0 := ⟨zw_552, zw_553, zw_554, zw_48, zw_555, zy_X7_readClause, by decide⟩
theorem zy_X7_takes : yX7_takes.cls ≠ "java/lang/invoke/MethodHandle" ∧ yX7_takes.cls ≠ "java/lang/invoke/VarHandle" ∧ (parseMethodDescriptor yX7_takes.desc).map (fun q => q.parameters.length) = some 1 := ⟨by decide +kernel, by decide +kernel, by decide +kernel⟩
theorem zk_X7_48 : zCv "SentRoads$Tape" 48 yX7_takes cX7_takes 3 (some .boolean) 1 := ⟨zw_569, zw_570, zw_571, zw_48, zw_572, zy_X7_takes, by decide⟩
theorem zy_X7_next : yX7_next.cls ≠ "java/lang/invoke/MethodHandle" ∧ yX7_next.cls ≠ "java/lang/invoke/VarHandle" ∧ (parseMethodDescriptor yX7_next.desc).map (fun q => q.parameters.length) = some 0 := ⟨by decide +kernel, by decide +kernel, by decide +kernel⟩
theorem zk_X7_52 : zCv "SentRoads$Tape" 52 yX7_next cX7_next 1 (some .int) 0 := ⟨zw_560, zw_561, zw_562, zw_48, zw_563, zy_X7_next, by decide⟩
theorem zy_X7_fail : yX7_fail.cls ≠ "java/lang/invoke/MethodHandle" ∧ yX7_fail.cls ≠ "java/lang/invoke/VarHandle" ∧ (parseMethodDescriptor yX7_fail.desc).map (fun q => q.parameters.length) = some 1 := ⟨by decide +kernel, by decide +kernel, by decide +kernel⟩
theorem zk_X7_56 : zCv "SentRoads$Tape" 56 yX7_fail cX7_fail 2 none 1 := ⟨zw_565, zw_566, zw_567, zw_48, zw_568, zy_X7_fail, by decide⟩
theorem zy_X7_readLand : yX7_readLand.cls ≠ "java/lang/invoke/MethodHandle" ∧ yX7_readLand.cls ≠ "java/lang/invoke/VarHandle" ∧ (parseMethodDescriptor yX7_readLand.desc).map (fun q => q.parameters.length) = some 1 := ⟨by decide +kernel, by decide +kernel, by decide +kernel⟩
theorem zk_X7_60 : zCv "SentRoads$Tape" 60 yX7_readLand cX7_readLand 3 (some .int) 1 := ⟨zw_556, zw_557, zw_558, zw_48, zw_559, zy_X7_readLand, by decide⟩
theorem zy_X7_readCrime : yX7_readCrime.cls ≠ "java/lang/invoke/MethodHandle" ∧ yX7_readCrime.cls ≠ "java/lang/invoke/VarHandle" ∧ (parseMethodDescriptor yX7_readCrime.desc).map (fun q => q.parameters.length) = some 1 := ⟨by decide +kernel, by decide +kernel, by decide +kernel⟩
theorem zk_X7_64 : zCv "SentRoads$Tape" 64 yX7_readCrime cX7_readCrime 7 none 1 := ⟨zw_573, zw_574, zw_575, zw_48, zw_576, zy_X7_readCrime, by decide⟩
theorem zy_X7_readPaper : yX7_readPaper.cls ≠ "java/lang/invoke/MethodHandle" ∧ yX7_readPaper.cls ≠ "java/lang/invoke/VarHandle" ∧ (parseMethodDescriptor yX7_readPaper.desc).map (fun q => q.parameters.length) = some 1 := ⟨by decide +kernel, by decide +kernel, by decide +kernel⟩
theorem zk_X7_67 : zCv "SentRoads$Tape" 67 yX7_readPaper cX7_readPaper 9 none 1 := ⟨zw_594, zw_595, zw_596, zw_48, zw_597, zy_X7_readPaper, by decide⟩
theorem zy_X7_readMarks : yX7_readMarks.cls ≠ "java/lang/invoke/MethodHandle" ∧ yX7_readMarks.cls ≠ "java/lang/invoke/VarHandle" ∧ (parseMethodDescriptor yX7_readMarks.desc).map (fun q => q.parameters.length) = some 1 := ⟨by decide +kernel, by decide +kernel, by decide +kernel⟩
theorem zk_X7_70 : zCv "SentRoads$Tape" 70 yX7_readMarks cX7_readMarks 6 (some .int) 1 := ⟨zw_577, zw_578, zw_579, zw_48, zw_580, zy_X7_readMarks, by decide⟩
theorem zy_X7_readNumber : yX7_readNumber.cls ≠ "java/lang/invoke/MethodHandle" ∧ yX7_readNumber.cls ≠ "java/lang/invoke/VarHandle" ∧ (parseMethodDescriptor yX7_readNumber.desc).map (fun q => q.parameters.length) = some 2 := ⟨by decide +kernel, by decide +kernel, by decide +kernel⟩
theorem zk_X7_73 : zCv "SentRoads$Tape" 73 yX7_readNumber cX7_readNumber 5 (some .int) 2 := ⟨zw_581, zw_582, zw_583, zw_48, zw_584, zy_X7_readNumber, by decide⟩
theorem zy_X7_need : yX7_need.cls ≠ "java/lang/invoke/MethodHandle" ∧ yX7_need.cls ≠ "java/lang/invoke/VarHandle" ∧ (parseMethodDescriptor yX7_need.desc).map (fun q => q.parameters.length) = some 1 := ⟨by decide +kernel, by decide +kernel, by decide +kernel⟩
theorem zk_X7_77 : zCv "SentRoads$Tape" 77 yX7_need cX7_need 2 none 1 := ⟨zw_588, zw_589, zw_590, zw_48, zw_591, zy_X7_need, by decide⟩
theorem zk_X7_80 : zCs "SentRoads$Tape" 80 yJ9_max_7cf53 cJ9_max_7cf53 2 (some .int) 2 := ⟨zw_592, zw_469, zw_51, zw_470, zy_J9_max_7cf53, by decide⟩
theorem zk_X7_85 : zCv "SentRoads$Tape" 85 yX0_tell cX0_tell 7 none 6 := ⟨zw_593, zw_453, zw_454, zw_43, zw_455, zy_X0_tell, by decide⟩
theorem zy_X7_readLetters : yX7_readLetters.cls ≠ "java/lang/invoke/MethodHandle" ∧ yX7_readLetters.cls ≠ "java/lang/invoke/VarHandle" ∧ (parseMethodDescriptor yX7_readLetters.desc).map (fun q => q.parameters.length) = some 2 := ⟨by decide +kernel, by decide +kernel, by decide +kernel⟩
theorem zk_X7_91 : zCv "SentRoads$Tape" 91 yX7_readLetters cX7_readLetters 8 (some .int) 2 := ⟨zw_599, zw_600, zw_601, zw_48, zw_602, zy_X7_readLetters, by decide⟩
theorem zy_X7_readPromises : yX7_readPromises.cls ≠ "java/lang/invoke/MethodHandle" ∧ yX7_readPromises.cls ≠ "java/lang/invoke/VarHandle" ∧ (parseMethodDescriptor yX7_readPromises.desc).map (fun q => q.parameters.length) = some 0 := ⟨by decide +kernel, by decide +kernel, by decide +kernel⟩
theorem zk_X7_95 : zCv "SentRoads$Tape" 95 yX7_readPromises cX7_readPromises 2 (some .int) 0 := ⟨zw_686, zw_687, zw_688, zw_48, zw_689, zy_X7_readPromises, by decide⟩
theorem zk_X7_98 : zCv "SentRoads$Tape" 98 yX4_lead cX4_lead 3 none 2 := ⟨zw_691, zw_506, zw_507, zw_45, zw_508, zy_X4_lead, by decide⟩
theorem zk_X7_102 : zCv "SentRoads$Tape" 102 yX4_become cX4_become 4 none 3 := ⟨zw_692, zw_518, zw_519, zw_45, zw_520, zy_X4_become, by decide⟩
theorem zk_X7_106 : zCv "SentRoads$Tape" 106 yX4_rule cX4_rule 4 none 3 := ⟨zw_693, zw_510, zw_511, zw_45, zw_512, zy_X4_rule, by decide⟩
theorem zk_X7_112 : zCs "SentRoads$Tape" 112 yJ9_min_7cf53 cJ9_min_7cf53 2 (some .int) 2 := ⟨zw_585, zw_586, zw_51, zw_587, zy_J9_min_7cf53, by decide⟩
theorem zy_J0_length_8abf5 : yJ0_length_8abf5.cls ≠ "java/lang/invoke/MethodHandle" ∧ yJ0_length_8abf5.cls ≠ "java/lang/invoke/VarHandle" ∧ (parseMethodDescriptor yJ0_length_8abf5.desc).map (fun q => q.parameters.length) = some 0 := ⟨by decide +kernel, by decide +kernel, by decide +kernel⟩
theorem zk_X7_117 : zCv "SentRoads$Tape" 117 yJ0_length_8abf5 cJ0_length_8abf5 1 (some .int) 0 := ⟨zw_603, zw_604, zw_605, zw_53, zw_606, zy_J0_length_8abf5, by decide⟩
theorem zy_J0_indexOf_0f7a4 : yJ0_indexOf_0f7a4.cls ≠ "java/lang/invoke/MethodHandle" ∧ yJ0_indexOf_0f7a4.cls ≠ "java/lang/invoke/VarHandle" ∧ (parseMethodDescriptor yJ0_indexOf_0f7a4.desc).map (fun q => q.parameters.length) = some 1 := ⟨by decide +kernel, by decide +kernel, by decide +kernel⟩
theorem zk_X7_121 : zCv "SentRoads$Tape" 121 yJ0_indexOf_0f7a4 cJ0_indexOf_0f7a4 2 (some .int) 1 := ⟨zw_613, zw_614, zw_615, zw_53, zw_616, zy_J0_indexOf_0f7a4, by decide⟩
theorem zk_X8_50 : zCv "SentRoads$World" 50 yX0_copy cX0_copy 2 none 1 := ⟨zw_980, zw_695, zw_696, zw_43, zw_697, zy_X0_copy, by decide⟩
theorem zy_X1_copy : yX1_copy.cls ≠ "java/lang/invoke/MethodHandle" ∧ yX1_copy.cls ≠ "java/lang/invoke/VarHandle" ∧ (parseMethodDescriptor yX1_copy.desc).map (fun q => q.parameters.length) = some 1 := ⟨by decide +kernel, by decide +kernel, by decide +kernel⟩
theorem zk_X8_57 : zCv "SentRoads$World" 57 yX1_copy cX1_copy 2 none 1 := ⟨zw_981, zw_982, zw_983, zw_44, zw_984, zy_X1_copy, by decide⟩
theorem zk_X8_60 : zCv "SentRoads$World" 60 yX8_learnAgain cX8_learnAgain 3 none 1 := ⟨zw_486, zw_487, zw_488, zw_41, zw_489, zy_X8_learnAgain, by decide⟩
theorem zk_X8_67 : zCv "SentRoads$World" 67 yX4_copy cX4_copy 2 none 1 := ⟨zw_986, zw_700, zw_701, zw_45, zw_702, zy_X4_copy, by decide⟩
theorem zk_X8_81 : zCv "SentRoads$World" 81 yX2_tell cX2_tell 4 none 3 := ⟨zw_987, zw_904, zw_905, zw_46, zw_906, zy_X2_tell, by decide⟩
theorem zy_X3_copy : yX3_copy.cls ≠ "java/lang/invoke/MethodHandle" ∧ yX3_copy.cls ≠ "java/lang/invoke/VarHandle" ∧ (parseMethodDescriptor yX3_copy.desc).map (fun q => q.parameters.length) = some 1 := ⟨by decide +kernel, by decide +kernel, by decide +kernel⟩
theorem zk_X8_85 : zCv "SentRoads$World" 85 yX3_copy cX3_copy 2 none 1 := ⟨zw_988, zw_989, zw_990, zw_42, zw_991, zy_X3_copy, by decide⟩
theorem zy_X1_learn : yX1_learn.cls ≠ "java/lang/invoke/MethodHandle" ∧ yX1_learn.cls ≠ "java/lang/invoke/VarHandle" ∧ (parseMethodDescriptor yX1_learn.desc).map (fun q => q.parameters.length) = some 2 := ⟨by decide +kernel, by decide +kernel, by decide +kernel⟩
theorem zk_X8_88 : zCv "SentRoads$World" 88 yX1_learn cX1_learn 4 none 2 := ⟨zw_460, zw_461, zw_462, zw_44, zw_463, zy_X1_learn, by decide⟩
theorem zy_X1_forget : yX1_forget.cls ≠ "java/lang/invoke/MethodHandle" ∧ yX1_forget.cls ≠ "java/lang/invoke/VarHandle" ∧ (parseMethodDescriptor yX1_forget.desc).map (fun q => q.parameters.length) = some 0 := ⟨by decide +kernel, by decide +kernel, by decide +kernel⟩
theorem zk_X8_92 : zCv "SentRoads$World" 92 yX1_forget cX1_forget 1 none 0 := ⟨zw_490, zw_491, zw_492, zw_44, zw_493, zy_X1_forget, by decide⟩
theorem zk_X8_96 : zCv "SentRoads$World" 96 yX0_isMarks cX0_isMarks 2 (some .boolean) 1 := ⟨zw_971, zw_465, zw_466, zw_43, zw_467, zy_X0_isMarks, by decide⟩
theorem zy_X4_isFor : yX4_isFor.cls ≠ "java/lang/invoke/MethodHandle" ∧ yX4_isFor.cls ≠ "java/lang/invoke/VarHandle" ∧ (parseMethodDescriptor yX4_isFor.desc).map (fun q => q.parameters.length) = some 1 := ⟨by decide +kernel, by decide +kernel, by decide +kernel⟩
theorem zk_X8_100 : zCv "SentRoads$World" 100 yX4_isFor cX4_isFor 2 (some .boolean) 1 := ⟨zw_786, zw_787, zw_788, zw_45, zw_789, zy_X4_isFor, by decide⟩
theorem zy_X1_isDeadly : yX1_isDeadly.cls ≠ "java/lang/invoke/MethodHandle" ∧ yX1_isDeadly.cls ≠ "java/lang/invoke/VarHandle" ∧ (parseMethodDescriptor yX1_isDeadly.desc).map (fun q => q.parameters.length) = some 1 := ⟨by decide +kernel, by decide +kernel, by decide +kernel⟩
theorem zk_X8_120 : zCv "SentRoads$World" 120 yX1_isDeadly cX1_isDeadly 2 (some .boolean) 1 := ⟨zw_802, zw_803, zw_804, zw_44, zw_805, zy_X1_isDeadly, by decide⟩
theorem zk_X8_123 : zCv "SentRoads$World" 123 yX4_pledges cX4_pledges 2 (some .boolean) 1 := ⟨zw_806, zw_807, zw_808, zw_45, zw_809, zy_X4_pledges, by decide⟩
theorem zk_X8_143 : zCv "SentRoads$World" 143 yX8_barsAgainst cX8_barsAgainst 4 (some .int) 2 := ⟨zw_798, zw_799, zw_800, zw_41, zw_801, zy_X8_barsAgainst, by decide⟩
theorem zk_X8_147 : zCv "SentRoads$World" 147 yX8_weigh cX8_weigh 4 none 1 := ⟨zw_849, zw_795, zw_796, zw_41, zw_797, zy_X8_weigh, by decide⟩
theorem zk_X8_153 : zCv "SentRoads$World" 153 yX1_isCrime cX1_isCrime 2 (some .boolean) 1 := ⟨zw_837, zw_838, zw_839, zw_44, zw_840, zy_X1_isCrime, by decide⟩
theorem zy_X8_letTo : yX8_letTo.cls ≠ "java/lang/invoke/MethodHandle" ∧ yX8_letTo.cls ≠ "java/lang/invoke/VarHandle" ∧ (parseMethodDescriptor yX8_letTo.desc).map (fun q => q.parameters.length) = some 1 := ⟨by decide +kernel, by decide +kernel, by decide +kernel⟩
theorem zk_X8_157 : zCv "SentRoads$World" 157 yX8_letTo cX8_letTo 4 (some .int) 1 := ⟨zw_915, zw_916, zw_917, zw_41, zw_918, zy_X8_letTo, by decide⟩
theorem zk_X8_174 : zCs "SentRoads$World" 174 yJ9_max_7cf53 cJ9_max_7cf53 2 (some .int) 2 := ⟨zw_920, zw_469, zw_51, zw_470, zy_J9_max_7cf53, by decide⟩
theorem zk_X8_180 : zCv "SentRoads$World" 180 yX3_goesBy cX3_goesBy 3 (some .int) 1 := ⟨zw_919, zw_811, zw_812, zw_42, zw_813, zy_X3_goesBy, by decide⟩
theorem zy_X2_order : yX2_order.cls ≠ "java/lang/invoke/MethodHandle" ∧ yX2_order.cls ≠ "java/lang/invoke/VarHandle" ∧ (parseMethodDescriptor yX2_order.desc).map (fun q => q.parameters.length) = some 1 := ⟨by decide +kernel, by decide +kernel, by decide +kernel⟩
theorem zk_X8_184 : zCv "SentRoads$World" 184 yX2_order cX2_order 2 (some .int) 1 := ⟨zw_925, zw_926, zw_927, zw_46, zw_928, zy_X2_order, by decide⟩
theorem zy_X9_crime : yX9_crime.cls ≠ "java/lang/invoke/MethodHandle" ∧ yX9_crime.cls ≠ "java/lang/invoke/VarHandle" ∧ (parseMethodDescriptor yX9_crime.desc).map (fun q => q.parameters.length) = some 6 := ⟨by decide +kernel, by decide +kernel, by decide +kernel⟩
theorem zk_L_13 : zCv "SentRoadsLaw" 13 yX9_crime cX9_crime 7 (some .int) 6 := ⟨zw_445, zw_446, zw_447, zw_40, zw_448, zy_X9_crime, by decide⟩
theorem zy_X10_crime : yX10_crime.cls ≠ "java/lang/invoke/MethodHandle" ∧ yX10_crime.cls ≠ "java/lang/invoke/VarHandle" ∧ (parseMethodDescriptor yX10_crime.desc).map (fun q => q.parameters.length) = some 6 := ⟨by decide +kernel, by decide +kernel, by decide +kernel⟩
theorem zk_L_17 : zCv "SentRoadsLaw" 17 yX10_crime cX10_crime 7 (some .int) 6 := ⟨zw_1116, zw_1117, zw_1118, zw_50, zw_1119, zy_X10_crime, by decide⟩
theorem zy_X9_deed : yX9_deed.cls ≠ "java/lang/invoke/MethodHandle" ∧ yX9_deed.cls ≠ "java/lang/invoke/VarHandle" ∧ (parseMethodDescriptor yX9_deed.desc).map (fun q => q.parameters.length) = some 4 := ⟨by decide +kernel, by decide +kernel, by decide +kernel⟩
theorem zk_L_18 : zCv "SentRoadsLaw" 18 yX9_deed cX9_deed 5 (some .int) 4 := ⟨zw_471, zw_472, zw_473, zw_40, zw_474, zy_X9_deed, by decide⟩
theorem zy_X10_deed : yX10_deed.cls ≠ "java/lang/invoke/MethodHandle" ∧ yX10_deed.cls ≠ "java/lang/invoke/VarHandle" ∧ (parseMethodDescriptor yX10_deed.desc).map (fun q => q.parameters.length) = some 4 := ⟨by decide +kernel, by decide +kernel, by decide +kernel⟩
theorem zk_L_22 : zCv "SentRoadsLaw" 22 yX10_deed cX10_deed 5 (some .int) 4 := ⟨zw_1133, zw_1134, zw_1135, zw_50, zw_1136, zy_X10_deed, by decide⟩
theorem zy_X9_years : yX9_years.cls ≠ "java/lang/invoke/MethodHandle" ∧ yX9_years.cls ≠ "java/lang/invoke/VarHandle" ∧ (parseMethodDescriptor yX9_years.desc).map (fun q => q.parameters.length) = some 6 := ⟨by decide +kernel, by decide +kernel, by decide +kernel⟩
theorem zk_L_23 : zCv "SentRoadsLaw" 23 yX9_years cX9_years 8 (some .int) 6 := ⟨zw_497, zw_498, zw_499, zw_40, zw_500, zy_X9_years, by decide⟩
theorem zy_X10_years : yX10_years.cls ≠ "java/lang/invoke/MethodHandle" ∧ yX10_years.cls ≠ "java/lang/invoke/VarHandle" ∧ (parseMethodDescriptor yX10_years.desc).map (fun q => q.parameters.length) = some 6 := ⟨by decide +kernel, by decide +kernel, by decide +kernel⟩
theorem zk_L_27 : zCv "SentRoadsLaw" 27 yX10_years cX10_years 7 (some .int) 6 := ⟨zw_1138, zw_1139, zw_1140, zw_50, zw_1141, zy_X10_years, by decide⟩
theorem zy_X9_named : yX9_named.cls ≠ "java/lang/invoke/MethodHandle" ∧ yX9_named.cls ≠ "java/lang/invoke/VarHandle" ∧ (parseMethodDescriptor yX9_named.desc).map (fun q => q.parameters.length) = some 6 := ⟨by decide +kernel, by decide +kernel, by decide +kernel⟩
theorem zk_L_28 : zCv "SentRoadsLaw" 28 yX9_named cX9_named 8 (some .int) 6 := ⟨zw_521, zw_522, zw_523, zw_40, zw_524, zy_X9_named, by decide⟩
theorem zy_X10_named : yX10_named.cls ≠ "java/lang/invoke/MethodHandle" ∧ yX10_named.cls ≠ "java/lang/invoke/VarHandle" ∧ (parseMethodDescriptor yX10_named.desc).map (fun q => q.parameters.length) = some 6 := ⟨by decide +kernel, by decide +kernel, by decide +kernel⟩
theorem zk_L_31 : zCv "SentRoadsLaw" 31 yX10_named cX10_named 9 (some .int) 6 := ⟨zw_1151, zw_1152, zw_1153, zw_50, zw_1154, zy_X10_named, by decide⟩
theorem zy_X9_custom : yX9_custom.cls ≠ "java/lang/invoke/MethodHandle" ∧ yX9_custom.cls ≠ "java/lang/invoke/VarHandle" ∧ (parseMethodDescriptor yX9_custom.desc).map (fun q => q.parameters.length) = some 5 := ⟨by decide +kernel, by decide +kernel, by decide +kernel⟩
theorem zk_L_32 : zCv "SentRoadsLaw" 32 yX9_custom cX9_custom 7 (some .int) 5 := ⟨zw_529, zw_530, zw_531, zw_40, zw_532, zy_X9_custom, by decide⟩
theorem zy_X10_custom : yX10_custom.cls ≠ "java/lang/invoke/MethodHandle" ∧ yX10_custom.cls ≠ "java/lang/invoke/VarHandle" ∧ (parseMethodDescriptor yX10_custom.desc).map (fun q => q.parameters.length) = some 5 := ⟨by decide +kernel, by decide +kernel, by decide +kernel⟩
theorem zk_L_36 : zCv "SentRoadsLaw" 36 yX10_custom cX10_custom 6 (some .int) 5 := ⟨zw_1155, zw_1156, zw_1157, zw_50, zw_1158, zy_X10_custom, by decide⟩
theorem zy_X9_type : yX9_type.cls ≠ "java/lang/invoke/MethodHandle" ∧ yX9_type.cls ≠ "java/lang/invoke/VarHandle" ∧ (parseMethodDescriptor yX9_type.desc).map (fun q => q.parameters.length) = some 2 := ⟨by decide +kernel, by decide +kernel, by decide +kernel⟩
theorem zk_L_39 : zCv "SentRoadsLaw" 39 yX9_type cX9_type 6 (some .int) 2 := ⟨zw_533, zw_534, zw_535, zw_40, zw_536, zy_X9_type, by decide⟩
theorem zy_X10_type : yX10_type.cls ≠ "java/lang/invoke/MethodHandle" ∧ yX10_type.cls ≠ "java/lang/invoke/VarHandle" ∧ (parseMethodDescriptor yX10_type.desc).map (fun q => q.parameters.length) = some 2 := ⟨by decide +kernel, by decide +kernel, by decide +kernel⟩
theorem zk_L_43 : zCv "SentRoadsLaw" 43 yX10_type cX10_type 5 (some .int) 2 := ⟨zw_1344, zw_1345, zw_1346, zw_50, zw_1347, zy_X10_type, by decide⟩
theorem zy_X9_world : yX9_world.cls ≠ "java/lang/invoke/MethodHandle" ∧ yX9_world.cls ≠ "java/lang/invoke/VarHandle" ∧ (parseMethodDescriptor yX9_world.desc).map (fun q => q.parameters.length) = some 0 := ⟨by decide +kernel, by decide +kernel, by decide +kernel⟩
theorem zk_L_44 : zCv "SentRoadsLaw" 44 yX9_world cX9_world 3 (some .int) 0 := ⟨zw_544, zw_545, zw_546, zw_40, zw_547, zy_X9_world, by decide⟩
theorem zy_X10_world : yX10_world.cls ≠ "java/lang/invoke/MethodHandle" ∧ yX10_world.cls ≠ "java/lang/invoke/VarHandle" ∧ (parseMethodDescriptor yX10_world.desc).map (fun q => q.parameters.length) = some 0 := ⟨by decide +kernel, by decide +kernel, by decide +kernel⟩
theorem zk_L_48 : zCv "SentRoadsLaw" 48 yX10_world cX10_world 4 (some .int) 0 := ⟨zw_1352, zw_1353, zw_1354, zw_50, zw_1355, zy_X10_world, by decide⟩
theorem zy_X9_crimeOf : yX9_crimeOf.cls ≠ "java/lang/invoke/MethodHandle" ∧ yX9_crimeOf.cls ≠ "java/lang/invoke/VarHandle" ∧ (parseMethodDescriptor yX9_crimeOf.desc).map (fun q => q.parameters.length) = some 2 := ⟨by decide +kernel, by decide +kernel, by decide +kernel⟩
theorem zk_L_49 : zCv "SentRoadsLaw" 49 yX9_crimeOf cX9_crimeOf 4 (some .int) 2 := ⟨zw_707, zw_708, zw_709, zw_40, zw_710, zy_X9_crimeOf, by decide⟩
theorem zy_X10_crimeOf : yX10_crimeOf.cls ≠ "java/lang/invoke/MethodHandle" ∧ yX10_crimeOf.cls ≠ "java/lang/invoke/VarHandle" ∧ (parseMethodDescriptor yX10_crimeOf.desc).map (fun q => q.parameters.length) = some 2 := ⟨by decide +kernel, by decide +kernel, by decide +kernel⟩
theorem zk_L_53 : zCv "SentRoadsLaw" 53 yX10_crimeOf cX10_crimeOf 3 (some .int) 2 := ⟨zw_1159, zw_1160, zw_1161, zw_50, zw_1162, zy_X10_crimeOf, by decide⟩
theorem zy_X9_paper : yX9_paper.cls ≠ "java/lang/invoke/MethodHandle" ∧ yX9_paper.cls ≠ "java/lang/invoke/VarHandle" ∧ (parseMethodDescriptor yX9_paper.desc).map (fun q => q.parameters.length) = some 2 := ⟨by decide +kernel, by decide +kernel, by decide +kernel⟩
theorem zk_L_54 : zCv "SentRoadsLaw" 54 yX9_paper cX9_paper 4 (some .int) 2 := ⟨zw_711, zw_712, zw_713, zw_40, zw_714, zy_X9_paper, by decide⟩
theorem zy_X10_paper : yX10_paper.cls ≠ "java/lang/invoke/MethodHandle" ∧ yX10_paper.cls ≠ "java/lang/invoke/VarHandle" ∧ (parseMethodDescriptor yX10_paper.desc).map (fun q => q.parameters.length) = some 2 := ⟨by decide +kernel, by decide +kernel, by decide +kernel⟩
theorem zk_L_57 : zCv "SentRoadsLaw" 57 yX10_paper cX10_paper 5 (some .int) 2 := ⟨zw_1163, zw_1164, zw_1165, zw_50, zw_1166, zy_X10_paper, by decide⟩
theorem zy_X9_bars : yX9_bars.cls ≠ "java/lang/invoke/MethodHandle" ∧ yX9_bars.cls ≠ "java/lang/invoke/VarHandle" ∧ (parseMethodDescriptor yX9_bars.desc).map (fun q => q.parameters.length) = some 2 := ⟨by decide +kernel, by decide +kernel, by decide +kernel⟩
theorem zk_L_58 : zCv "SentRoadsLaw" 58 yX9_bars cX9_bars 4 (some .int) 2 := ⟨zw_719, zw_720, zw_721, zw_40, zw_722, zy_X9_bars, by decide⟩
theorem zy_X10_bars : yX10_bars.cls ≠ "java/lang/invoke/MethodHandle" ∧ yX10_bars.cls ≠ "java/lang/invoke/VarHandle" ∧ (parseMethodDescriptor yX10_bars.desc).map (fun q => q.parameters.length) = some 2 := ⟨by decide +kernel, by decide +kernel, by decide +kernel⟩
theorem zk_L_61 : zCv "SentRoadsLaw" 61 yX10_bars cX10_bars 4 (some .int) 2 := ⟨zw_1171, zw_1172, zw_1173, zw_50, zw_1174, zy_X10_bars, by decide⟩
theorem zy_X9_matches : yX9_matches.cls ≠ "java/lang/invoke/MethodHandle" ∧ yX9_matches.cls ≠ "java/lang/invoke/VarHandle" ∧ (parseMethodDescriptor yX9_matches.desc).map (fun q => q.parameters.length) = some 3 := ⟨by decide +kernel, by decide +kernel, by decide +kernel⟩
theorem zk_L_62 : zCv "SentRoadsLaw" 62 yX9_matches cX9_matches 5 (some .int) 3 := ⟨zw_723, zw_724, zw_725, zw_40, zw_726, zy_X9_matches, by decide⟩
theorem zy_X10_matches : yX10_matches.cls ≠ "java/lang/invoke/MethodHandle" ∧ yX10_matches.cls ≠ "java/lang/invoke/VarHandle" ∧ (parseMethodDescriptor yX10_matches.desc).map (fun q => q.parameters.length) = some 3 := ⟨by decide +kernel, by decide +kernel, by decide +kernel⟩
theorem zk_L_66 : zCv "SentRoadsLaw" 66 yX10_matches cX10_matches 4 (some .int) 3 := ⟨zw_1175, zw_1176, zw_1177, zw_50, zw_1178, zy_X10_matches, by decide⟩
theorem zy_X9_yearsOf : yX9_yearsOf.cls ≠ "java/lang/invoke/MethodHandle" ∧ yX9_yearsOf.cls ≠ "java/lang/invoke/VarHandle" ∧ (parseMethodDescriptor yX9_yearsOf.desc).map (fun q => q.parameters.length) = some 3 := ⟨by decide +kernel, by decide +kernel, by decide +kernel⟩
theorem zk_L_67 : zCv "SentRoadsLaw" 67 yX9_yearsOf cX9_yearsOf 5 (some .int) 3 := ⟨zw_731, zw_732, zw_733, zw_40, zw_734, zy_X9_yearsOf, by decide⟩
theorem zy_X10_yearsOf : yX10_yearsOf.cls ≠ "java/lang/invoke/MethodHandle" ∧ yX10_yearsOf.cls ≠ "java/lang/invoke/VarHandle" ∧ (parseMethodDescriptor yX10_yearsOf.desc).map (fun q => q.parameters.length) = some 3 := ⟨by decide +kernel, by decide +kernel, by decide +kernel⟩
theorem zk_L_70 : zCv "SentRoadsLaw" 70 yX10_yearsOf cX10_yearsOf 4 (some .int) 3 := ⟨zw_1191, zw_1192, zw_1193, zw_50, zw_1194, zy_X10_yearsOf, by decide⟩
theorem zy_X9_shows : yX9_shows.cls ≠ "java/lang/invoke/MethodHandle" ∧ yX9_shows.cls ≠ "java/lang/invoke/VarHandle" ∧ (parseMethodDescriptor yX9_shows.desc).map (fun q => q.parameters.length) = some 4 := ⟨by decide +kernel, by decide +kernel, by decide +kernel⟩
theorem zk_L_71 : zCv "SentRoadsLaw" 71 yX9_shows cX9_shows 8 (some .int) 4 := ⟨zw_735, zw_736, zw_737, zw_40, zw_738, zy_X9_shows, by decide⟩
theorem zy_X10_shows : yX10_shows.cls ≠ "java/lang/invoke/MethodHandle" ∧ yX10_shows.cls ≠ "java/lang/invoke/VarHandle" ∧ (parseMethodDescriptor yX10_shows.desc).map (fun q => q.parameters.length) = some 4 := ⟨by decide +kernel, by decide +kernel, by decide +kernel⟩
theorem zk_L_74 : zCv "SentRoadsLaw" 74 yX10_shows cX10_shows 9 (some .int) 4 := ⟨zw_1428, zw_1429, zw_1430, zw_50, zw_1431, zy_X10_shows, by decide⟩
theorem zy_X9_count : yX9_count.cls ≠ "java/lang/invoke/MethodHandle" ∧ yX9_count.cls ≠ "java/lang/invoke/VarHandle" ∧ (parseMethodDescriptor yX9_count.desc).map (fun q => q.parameters.length) = some 1 := ⟨by decide +kernel, by decide +kernel, by decide +kernel⟩
theorem zk_L_75 : zCv "SentRoadsLaw" 75 yX9_count cX9_count 2 (some .int) 1 := ⟨zw_754, zw_755, zw_756, zw_40, zw_757, zy_X9_count, by decide⟩
theorem zy_X10_count : yX10_count.cls ≠ "java/lang/invoke/MethodHandle" ∧ yX10_count.cls ≠ "java/lang/invoke/VarHandle" ∧ (parseMethodDescriptor yX10_count.desc).map (fun q => q.parameters.length) = some 1 := ⟨by decide +kernel, by decide +kernel, by decide +kernel⟩
theorem zk_L_79 : zCv "SentRoadsLaw" 79 yX10_count cX10_count 2 (some .int) 1 := ⟨zw_1199, zw_1200, zw_1201, zw_50, zw_1202, zy_X10_count, by decide⟩
theorem zy_X9_man : yX9_man.cls ≠ "java/lang/invoke/MethodHandle" ∧ yX9_man.cls ≠ "java/lang/invoke/VarHandle" ∧ (parseMethodDescriptor yX9_man.desc).map (fun q => q.parameters.length) = some 2 := ⟨by decide +kernel, by decide +kernel, by decide +kernel⟩
theorem zk_L_80 : zCv "SentRoadsLaw" 80 yX9_man cX9_man 4 (some .int) 2 := ⟨zw_758, zw_759, zw_760, zw_40, zw_761, zy_X9_man, by decide⟩
theorem zy_X10_man : yX10_man.cls ≠ "java/lang/invoke/MethodHandle" ∧ yX10_man.cls ≠ "java/lang/invoke/VarHandle" ∧ (parseMethodDescriptor yX10_man.desc).map (fun q => q.parameters.length) = some 2 := ⟨by decide +kernel, by decide +kernel, by decide +kernel⟩
theorem zk_L_83 : zCv "SentRoadsLaw" 83 yX10_man cX10_man 4 (some .int) 2 := ⟨zw_1203, zw_1204, zw_1205, zw_50, zw_1206, zy_X10_man, by decide⟩
theorem zy_X9_judged : yX9_judged.cls ≠ "java/lang/invoke/MethodHandle" ∧ yX9_judged.cls ≠ "java/lang/invoke/VarHandle" ∧ (parseMethodDescriptor yX9_judged.desc).map (fun q => q.parameters.length) = some 2 := ⟨by decide +kernel, by decide +kernel, by decide +kernel⟩
theorem zk_L_84 : zCv "SentRoadsLaw" 84 yX9_judged cX9_judged 4 (some .int) 2 := ⟨zw_766, zw_767, zw_768, zw_40, zw_769, zy_X9_judged, by decide⟩
theorem zy_X10_judged : yX10_judged.cls ≠ "java/lang/invoke/MethodHandle" ∧ yX10_judged.cls ≠ "java/lang/invoke/VarHandle" ∧ (parseMethodDescriptor yX10_judged.desc).map (fun q => q.parameters.length) = some 2 := ⟨by decide +kernel, by decide +kernel, by decide +kernel⟩
theorem zk_L_88 : zCv "SentRoadsLaw" 88 yX10_judged cX10_judged 4 (some .int) 2 := ⟨zw_1208, zw_1209, zw_1210, zw_50, zw_1211, zy_X10_judged, by decide⟩
theorem zy_X9_bound : yX9_bound.cls ≠ "java/lang/invoke/MethodHandle" ∧ yX9_bound.cls ≠ "java/lang/invoke/VarHandle" ∧ (parseMethodDescriptor yX9_bound.desc).map (fun q => q.parameters.length) = some 1 := ⟨by decide +kernel, by decide +kernel, by decide +kernel⟩
theorem zk_L_89 : zCv "SentRoadsLaw" 89 yX9_bound cX9_bound 2 (some .int) 1 := ⟨zw_770, zw_771, zw_772, zw_40, zw_773, zy_X9_bound, by decide⟩
theorem zy_X10_bound : yX10_bound.cls ≠ "java/lang/invoke/MethodHandle" ∧ yX10_bound.cls ≠ "java/lang/invoke/VarHandle" ∧ (parseMethodDescriptor yX10_bound.desc).map (fun q => q.parameters.length) = some 1 := ⟨by decide +kernel, by decide +kernel, by decide +kernel⟩
theorem zk_L_92 : zCv "SentRoadsLaw" 92 yX10_bound cX10_bound 2 (some .int) 1 := ⟨zw_1212, zw_1213, zw_1214, zw_50, zw_1215, zy_X10_bound, by decide⟩
theorem zy_X9_covers : yX9_covers.cls ≠ "java/lang/invoke/MethodHandle" ∧ yX9_covers.cls ≠ "java/lang/invoke/VarHandle" ∧ (parseMethodDescriptor yX9_covers.desc).map (fun q => q.parameters.length) = some 1 := ⟨by decide +kernel, by decide +kernel, by decide +kernel⟩
theorem zk_L_93 : zCv "SentRoadsLaw" 93 yX9_covers cX9_covers 2 (some .int) 1 := ⟨zw_778, zw_779, zw_780, zw_40, zw_781, zy_X9_covers, by decide⟩
theorem zy_X10_covers : yX10_covers.cls ≠ "java/lang/invoke/MethodHandle" ∧ yX10_covers.cls ≠ "java/lang/invoke/VarHandle" ∧ (parseMethodDescriptor yX10_covers.desc).map (fun q => q.parameters.length) = some 1 := ⟨by decide +kernel, by decide +kernel, by decide +kernel⟩
theorem zk_L_96 : zCv "SentRoadsLaw" 96 yX10_covers cX10_covers 4 (some .int) 1 := ⟨zw_1220, zw_1221, zw_1222, zw_50, zw_1223, zy_X10_covers, by decide⟩
theorem zk_L_97 : zCv "SentRoadsLaw" 97 yX9_lets cX9_lets 3 (some .int) 1 := ⟨zw_790, zw_791, zw_792, zw_40, zw_793, zy_X9_lets, by decide⟩
theorem zy_X10_lets : yX10_lets.cls ≠ "java/lang/invoke/MethodHandle" ∧ yX10_lets.cls ≠ "java/lang/invoke/VarHandle" ∧ (parseMethodDescriptor yX10_lets.desc).map (fun q => q.parameters.length) = some 1 := ⟨by decide +kernel, by decide +kernel, by decide +kernel⟩
theorem zk_L_100 : zCv "SentRoadsLaw" 100 yX10_lets cX10_lets 2 (some .int) 1 := ⟨zw_1240, zw_1241, zw_1242, zw_50, zw_1243, zy_X10_lets, by decide⟩
theorem zy_X9_barred : yX9_barred.cls ≠ "java/lang/invoke/MethodHandle" ∧ yX9_barred.cls ≠ "java/lang/invoke/VarHandle" ∧ (parseMethodDescriptor yX9_barred.desc).map (fun q => q.parameters.length) = some 2 := ⟨by decide +kernel, by decide +kernel, by decide +kernel⟩
theorem zk_L_101 : zCv "SentRoadsLaw" 101 yX9_barred cX9_barred 3 (some .int) 2 := ⟨zw_815, zw_816, zw_817, zw_40, zw_818, zy_X9_barred, by decide⟩
theorem zy_X10_barred : yX10_barred.cls ≠ "java/lang/invoke/MethodHandle" ∧ yX10_barred.cls ≠ "java/lang/invoke/VarHandle" ∧ (parseMethodDescriptor yX10_barred.desc).map (fun q => q.parameters.length) = some 2 := ⟨by decide +kernel, by decide +kernel, by decide +kernel⟩
theorem zk_L_104 : zCv "SentRoadsLaw" 104 yX10_barred cX10_barred 3 (some .int) 2 := ⟨zw_1228, zw_1229, zw_1230, zw_50, zw_1231, zy_X10_barred, by decide⟩
theorem zy_X9_send : yX9_send.cls ≠ "java/lang/invoke/MethodHandle" ∧ yX9_send.cls ≠ "java/lang/invoke/VarHandle" ∧ (parseMethodDescriptor yX9_send.desc).map (fun q => q.parameters.length) = some 1 := ⟨by decide +kernel, by decide +kernel, by decide +kernel⟩
theorem zk_L_105 : zCv "SentRoadsLaw" 105 yX9_send cX9_send 3 (some .int) 1 := ⟨zw_820, zw_821, zw_822, zw_40, zw_823, zy_X9_send, by decide⟩
theorem zy_X10_send : yX10_send.cls ≠ "java/lang/invoke/MethodHandle" ∧ yX10_send.cls ≠ "java/lang/invoke/VarHandle" ∧ (parseMethodDescriptor yX10_send.desc).map (fun q => q.parameters.length) = some 1 := ⟨by decide +kernel, by decide +kernel, by decide +kernel⟩
theorem zk_L_108 : zCv "SentRoadsLaw" 108 yX10_send cX10_send 4 (some .int) 1 := ⟨zw_1260, zw_1261, zw_1262, zw_50, zw_1263, zy_X10_send, by decide⟩
theorem zy_X9_tried : yX9_tried.cls ≠ "java/lang/invoke/MethodHandle" ∧ yX9_tried.cls ≠ "java/lang/invoke/VarHandle" ∧ (parseMethodDescriptor yX9_tried.desc).map (fun q => q.parameters.length) = some 0 := ⟨by decide +kernel, by decide +kernel, by decide +kernel⟩
theorem zk_L_109 : zCv "SentRoadsLaw" 109 yX9_tried cX9_tried 1 (some .int) 0 := ⟨zw_829, zw_830, zw_831, zw_40, zw_832, zy_X9_tried, by decide⟩
theorem zy_X10_tried : yX10_tried.cls ≠ "java/lang/invoke/MethodHandle" ∧ yX10_tried.cls ≠ "java/lang/invoke/VarHandle" ∧ (parseMethodDescriptor yX10_tried.desc).map (fun q => q.parameters.length) = some 0 := ⟨by decide +kernel, by decide +kernel, by decide +kernel⟩
theorem zk_L_112 : zCv "SentRoadsLaw" 112 yX10_tried cX10_tried 1 (some .int) 0 := ⟨zw_1265, zw_1266, zw_1267, zw_50, zw_1268, zy_X10_tried, by decide⟩
theorem zy_X9_road : yX9_road.cls ≠ "java/lang/invoke/MethodHandle" ∧ yX9_road.cls ≠ "java/lang/invoke/VarHandle" ∧ (parseMethodDescriptor yX9_road.desc).map (fun q => q.parameters.length) = some 3 := ⟨by decide +kernel, by decide +kernel, by decide +kernel⟩
theorem zk_L_113 : zCv "SentRoadsLaw" 113 yX9_road cX9_road 6 (some .int) 3 := ⟨zw_841, zw_842, zw_843, zw_40, zw_844, zy_X9_road, by decide⟩
theorem zy_X10_road : yX10_road.cls ≠ "java/lang/invoke/MethodHandle" ∧ yX10_road.cls ≠ "java/lang/invoke/VarHandle" ∧ (parseMethodDescriptor yX10_road.desc).map (fun q => q.parameters.length) = some 3 := ⟨by decide +kernel, by decide +kernel, by decide +kernel⟩
theorem zk_L_116 : zCv "SentRoadsLaw" 116 yX10_road cX10_road 8 (some .int) 3 := ⟨zw_1277, zw_1278, zw_1279, zw_50, zw_1280, zy_X10_road, by decide⟩
theorem zy_X9_lands : yX9_lands.cls ≠ "java/lang/invoke/MethodHandle" ∧ yX9_lands.cls ≠ "java/lang/invoke/VarHandle" ∧ (parseMethodDescriptor yX9_lands.desc).map (fun q => q.parameters.length) = some 0 := ⟨by decide +kernel, by decide +kernel, by decide +kernel⟩
theorem zk_L_117 : zCv "SentRoadsLaw" 117 yX9_lands cX9_lands 1 (some .int) 0 := ⟨zw_882, zw_883, zw_884, zw_40, zw_885, zy_X9_lands, by decide⟩
theorem zy_X10_lands : yX10_lands.cls ≠ "java/lang/invoke/MethodHandle" ∧ yX10_lands.cls ≠ "java/lang/invoke/VarHandle" ∧ (parseMethodDescriptor yX10_lands.desc).map (fun q => q.parameters.length) = some 0 := ⟨by decide +kernel, by decide +kernel, by decide +kernel⟩
theorem zk_L_120 : zCv "SentRoadsLaw" 120 yX10_lands cX10_lands 3 (some .int) 0 := ⟨zw_1293, zw_1294, zw_1295, zw_50, zw_1296, zy_X10_lands, by decide⟩
theorem zy_X9_safe : yX9_safe.cls ≠ "java/lang/invoke/MethodHandle" ∧ yX9_safe.cls ≠ "java/lang/invoke/VarHandle" ∧ (parseMethodDescriptor yX9_safe.desc).map (fun q => q.parameters.length) = some 1 := ⟨by decide +kernel, by decide +kernel, by decide +kernel⟩
theorem zk_L_121 : zCv "SentRoadsLaw" 121 yX9_safe cX9_safe 2 (some .int) 1 := ⟨zw_890, zw_891, zw_892, zw_40, zw_893, zy_X9_safe, by decide⟩
theorem zy_X10_safe : yX10_safe.cls ≠ "java/lang/invoke/MethodHandle" ∧ yX10_safe.cls ≠ "java/lang/invoke/VarHandle" ∧ (parseMethodDescriptor yX10_safe.desc).map (fun q => q.parameters.length) = some 1 := ⟨by decide +kernel, by decide +kernel, by decide +kernel⟩
theorem zk_L_124 : zCv "SentRoadsLaw" 124 yX10_safe cX10_safe 6 (some .int) 1 := ⟨zw_1297, zw_1298, zw_1299, zw_50, zw_1300, zy_X10_safe, by decide⟩
theorem zy_X9_demand : yX9_demand.cls ≠ "java/lang/invoke/MethodHandle" ∧ yX9_demand.cls ≠ "java/lang/invoke/VarHandle" ∧ (parseMethodDescriptor yX9_demand.desc).map (fun q => q.parameters.length) = some 3 := ⟨by decide +kernel, by decide +kernel, by decide +kernel⟩
theorem zk_L_125 : zCv "SentRoadsLaw" 125 yX9_demand cX9_demand 4 (some .int) 3 := ⟨zw_899, zw_900, zw_901, zw_40, zw_902, zy_X9_demand, by decide⟩
theorem zy_X10_demand : yX10_demand.cls ≠ "java/lang/invoke/MethodHandle" ∧ yX10_demand.cls ≠ "java/lang/invoke/VarHandle" ∧ (parseMethodDescriptor yX10_demand.desc).map (fun q => q.parameters.length) = some 3 := ⟨by decide +kernel, by decide +kernel, by decide +kernel⟩
theorem zk_L_128 : zCv "SentRoadsLaw" 128 yX10_demand cX10_demand 4 (some .int) 3 := ⟨zw_1301, zw_1302, zw_1303, zw_50, zw_1304, zy_X10_demand, by decide⟩
theorem zy_X9_ahead : yX9_ahead.cls ≠ "java/lang/invoke/MethodHandle" ∧ yX9_ahead.cls ≠ "java/lang/invoke/VarHandle" ∧ (parseMethodDescriptor yX9_ahead.desc).map (fun q => q.parameters.length) = some 1 := ⟨by decide +kernel, by decide +kernel, by decide +kernel⟩
theorem zk_L_129 : zCv "SentRoadsLaw" 129 yX9_ahead cX9_ahead 3 (some .int) 1 := ⟨zw_907, zw_908, zw_909, zw_40, zw_910, zy_X9_ahead, by decide⟩
theorem zy_X10_ahead : yX10_ahead.cls ≠ "java/lang/invoke/MethodHandle" ∧ yX10_ahead.cls ≠ "java/lang/invoke/VarHandle" ∧ (parseMethodDescriptor yX10_ahead.desc).map (fun q => q.parameters.length) = some 1 := ⟨by decide +kernel, by decide +kernel, by decide +kernel⟩
theorem zk_L_132 : zCv "SentRoadsLaw" 132 yX10_ahead cX10_ahead 5 (some .int) 1 := ⟨zw_1305, zw_1306, zw_1307, zw_50, zw_1308, zy_X10_ahead, by decide⟩
theorem zy_X9_promises : yX9_promises.cls ≠ "java/lang/invoke/MethodHandle" ∧ yX9_promises.cls ≠ "java/lang/invoke/VarHandle" ∧ (parseMethodDescriptor yX9_promises.desc).map (fun q => q.parameters.length) = some 2 := ⟨by decide +kernel, by decide +kernel, by decide +kernel⟩
theorem zk_L_133 : zCv "SentRoadsLaw" 133 yX9_promises cX9_promises 6 (some .int) 2 := ⟨zw_929, zw_930, zw_931, zw_40, zw_932, zy_X9_promises, by decide⟩
theorem zy_X10_promises : yX10_promises.cls ≠ "java/lang/invoke/MethodHandle" ∧ yX10_promises.cls ≠ "java/lang/invoke/VarHandle" ∧ (parseMethodDescriptor yX10_promises.desc).map (fun q => q.parameters.length) = some 2 := ⟨by decide +kernel, by decide +kernel, by decide +kernel⟩
theorem zk_L_136 : zCv "SentRoadsLaw" 136 yX10_promises cX10_promises 6 (some .int) 2 := ⟨zw_1325, zw_1326, zw_1327, zw_50, zw_1328, zy_X10_promises, by decide⟩
theorem zy_X9_mended : yX9_mended.cls ≠ "java/lang/invoke/MethodHandle" ∧ yX9_mended.cls ≠ "java/lang/invoke/VarHandle" ∧ (parseMethodDescriptor yX9_mended.desc).map (fun q => q.parameters.length) = some 2 := ⟨by decide +kernel, by decide +kernel, by decide +kernel⟩
theorem zk_L_137 : zCv "SentRoadsLaw" 137 yX9_mended cX9_mended 3 (some .int) 2 := ⟨zw_942, zw_943, zw_944, zw_40, zw_945, zy_X9_mended, by decide⟩
theorem zy_X10_mended : yX10_mended.cls ≠ "java/lang/invoke/MethodHandle" ∧ yX10_mended.cls ≠ "java/lang/invoke/VarHandle" ∧ (parseMethodDescriptor yX10_mended.desc).map (fun q => q.parameters.length) = some 2 := ⟨by decide +kernel, by decide +kernel, by decide +kernel⟩
theorem zk_L_140 : zCv "SentRoadsLaw" 140 yX10_mended cX10_mended 9 (some .int) 2 := ⟨zw_1332, zw_1333, zw_1334, zw_50, zw_1335, zy_X10_mended, by decide⟩
theorem zy_X9_part : yX9_part.cls ≠ "java/lang/invoke/MethodHandle" ∧ yX9_part.cls ≠ "java/lang/invoke/VarHandle" ∧ (parseMethodDescriptor yX9_part.desc).map (fun q => q.parameters.length) = some 3 := ⟨by decide +kernel, by decide +kernel, by decide +kernel⟩
theorem zk_L_141 : zCv "SentRoadsLaw" 141 yX9_part cX9_part 8 (some .int) 3 := ⟨zw_963, zw_964, zw_965, zw_40, zw_966, zy_X9_part, by decide⟩
theorem zy_X10_part : yX10_part.cls ≠ "java/lang/invoke/MethodHandle" ∧ yX10_part.cls ≠ "java/lang/invoke/VarHandle" ∧ (parseMethodDescriptor yX10_part.desc).map (fun q => q.parameters.length) = some 3 := ⟨by decide +kernel, by decide +kernel, by decide +kernel⟩
theorem zk_L_144 : zCv "SentRoadsLaw" 144 yX10_part cX10_part 7 (some .int) 3 := ⟨zw_1340, zw_1341, zw_1342, zw_50, zw_1343, zy_X10_part, by decide⟩
theorem zy_X9_image : yX9_image.cls ≠ "java/lang/invoke/MethodHandle" ∧ yX9_image.cls ≠ "java/lang/invoke/VarHandle" ∧ (parseMethodDescriptor yX9_image.desc).map (fun q => q.parameters.length) = some 0 := ⟨by decide +kernel, by decide +kernel, by decide +kernel⟩
theorem zk_L_145 : zCv "SentRoadsLaw" 145 yX9_image cX9_image 1 (some .int) 0 := ⟨zw_972, zw_973, zw_974, zw_40, zw_975, zy_X9_image, by decide⟩
theorem zy_X10_image : yX10_image.cls ≠ "java/lang/invoke/MethodHandle" ∧ yX10_image.cls ≠ "java/lang/invoke/VarHandle" ∧ (parseMethodDescriptor yX10_image.desc).map (fun q => q.parameters.length) = some 0 := ⟨by decide +kernel, by decide +kernel, by decide +kernel⟩
theorem zk_L_148 : zCv "SentRoadsLaw" 148 yX10_image cX10_image 1 (some .int) 0 := ⟨zw_1392, zw_1393, zw_1394, zw_50, zw_1395, zy_X10_image, by decide⟩
theorem zy_X9_restore : yX9_restore.cls ≠ "java/lang/invoke/MethodHandle" ∧ yX9_restore.cls ≠ "java/lang/invoke/VarHandle" ∧ (parseMethodDescriptor yX9_restore.desc).map (fun q => q.parameters.length) = some 0 := ⟨by decide +kernel, by decide +kernel, by decide +kernel⟩
theorem zk_L_149 : zCv "SentRoadsLaw" 149 yX9_restore cX9_restore 1 (some .int) 0 := ⟨zw_993, zw_994, zw_995, zw_40, zw_996, zy_X9_restore, by decide⟩
theorem zy_X10_restore : yX10_restore.cls ≠ "java/lang/invoke/MethodHandle" ∧ yX10_restore.cls ≠ "java/lang/invoke/VarHandle" ∧ (parseMethodDescriptor yX10_restore.desc).map (fun q => q.parameters.length) = some 0 := ⟨by decide +kernel, by decide +kernel, by decide +kernel⟩
theorem zk_L_152 : zCv "SentRoadsLaw" 152 yX10_restore cX10_restore 1 (some .int) 0 := ⟨zw_1400, zw_1401, zw_1402, zw_50, zw_1403, zy_X10_restore, by decide⟩
theorem zy_X9_sheet : yX9_sheet.cls ≠ "java/lang/invoke/MethodHandle" ∧ yX9_sheet.cls ≠ "java/lang/invoke/VarHandle" ∧ (parseMethodDescriptor yX9_sheet.desc).map (fun q => q.parameters.length) = some 3 := ⟨by decide +kernel, by decide +kernel, by decide +kernel⟩
theorem zk_L_153 : zCv "SentRoadsLaw" 153 yX9_sheet cX9_sheet 4 (some .int) 3 := ⟨zw_997, zw_998, zw_999, zw_40, zw_1000, zy_X9_sheet, by decide⟩
theorem zy_X10_sheet : yX10_sheet.cls ≠ "java/lang/invoke/MethodHandle" ∧ yX10_sheet.cls ≠ "java/lang/invoke/VarHandle" ∧ (parseMethodDescriptor yX10_sheet.desc).map (fun q => q.parameters.length) = some 3 := ⟨by decide +kernel, by decide +kernel, by decide +kernel⟩
theorem zk_L_156 : zCv "SentRoadsLaw" 156 yX10_sheet cX10_sheet 5 (some .int) 3 := ⟨zw_1408, zw_1409, zw_1410, zw_50, zw_1411, zy_X10_sheet, by decide⟩
theorem zy_X9_drop : yX9_drop.cls ≠ "java/lang/invoke/MethodHandle" ∧ yX9_drop.cls ≠ "java/lang/invoke/VarHandle" ∧ (parseMethodDescriptor yX9_drop.desc).map (fun q => q.parameters.length) = some 1 := ⟨by decide +kernel, by decide +kernel, by decide +kernel⟩
theorem zk_L_157 : zCv "SentRoadsLaw" 157 yX9_drop cX9_drop 3 (some .int) 1 := ⟨zw_1006, zw_1007, zw_1008, zw_40, zw_1009, zy_X9_drop, by decide⟩
theorem zy_X10_drop : yX10_drop.cls ≠ "java/lang/invoke/MethodHandle" ∧ yX10_drop.cls ≠ "java/lang/invoke/VarHandle" ∧ (parseMethodDescriptor yX10_drop.desc).map (fun q => q.parameters.length) = some 1 := ⟨by decide +kernel, by decide +kernel, by decide +kernel⟩
theorem zk_L_160 : zCv "SentRoadsLaw" 160 yX10_drop cX10_drop 2 (some .int) 1 := ⟨zw_1416, zw_1417, zw_1418, zw_50, zw_1419, zy_X10_drop, by decide⟩
theorem zy_X9_item : yX9_item.cls ≠ "java/lang/invoke/MethodHandle" ∧ yX9_item.cls ≠ "java/lang/invoke/VarHandle" ∧ (parseMethodDescriptor yX9_item.desc).map (fun q => q.parameters.length) = some 4 := ⟨by decide +kernel, by decide +kernel, by decide +kernel⟩
theorem zk_L_161 : zCv "SentRoadsLaw" 161 yX9_item cX9_item 7 (some .int) 4 := ⟨zw_1010, zw_1011, zw_1012, zw_40, zw_1013, zy_X9_item, by decide⟩
theorem zy_X10_item : yX10_item.cls ≠ "java/lang/invoke/MethodHandle" ∧ yX10_item.cls ≠ "java/lang/invoke/VarHandle" ∧ (parseMethodDescriptor yX10_item.desc).map (fun q => q.parameters.length) = some 4 := ⟨by decide +kernel, by decide +kernel, by decide +kernel⟩
theorem zk_L_164 : zCv "SentRoadsLaw" 164 yX10_item cX10_item 6 (some .int) 4 := ⟨zw_1420, zw_1421, zw_1422, zw_50, zw_1423, zy_X10_item, by decide⟩
theorem zy_X10_free : yX10_free.cls ≠ "java/lang/invoke/MethodHandle" ∧ yX10_free.cls ≠ "java/lang/invoke/VarHandle" ∧ (parseMethodDescriptor yX10_free.desc).map (fun q => q.parameters.length) = some 0 := ⟨by decide +kernel, by decide +kernel, by decide +kernel⟩
theorem zk_X10_64 : zCv "SentRoadsModel" 64 yX10_free cX10_free 1 none 0 := ⟨zw_1024, zw_1026, zw_3, zw_50, zw_1027, zy_X10_free, by decide⟩
theorem zy_X10_in : yX10_in.cls ≠ "java/lang/invoke/MethodHandle" ∧ yX10_in.cls ≠ "java/lang/invoke/VarHandle" ∧ (parseMethodDescriptor yX10_in.desc).map (fun q => q.parameters.length) = some 3 := ⟨by decide +kernel, by decide +kernel, by decide +kernel⟩
theorem zk_X10_69 : zCs "SentRoadsModel" 69 yX10_in cX10_in 6 (some .boolean) 3 := ⟨zw_1124, zw_1125, zw_50, zw_1126, zy_X10_in, by decide⟩
theorem zy_X10_isLand : yX10_isLand.cls ≠ "java/lang/invoke/MethodHandle" ∧ yX10_isLand.cls ≠ "java/lang/invoke/VarHandle" ∧ (parseMethodDescriptor yX10_isLand.desc).map (fun q => q.parameters.length) = some 1 := ⟨by decide +kernel, by decide +kernel, by decide +kernel⟩
theorem zk_X10_83 : zCs "SentRoadsModel" 83 yX10_isLand cX10_isLand 1 (some .boolean) 1 := ⟨zw_1120, zw_1121, zw_50, zw_1122, zy_X10_isLand, by decide⟩
theorem zy_X10_addCrime : yX10_addCrime.cls ≠ "java/lang/invoke/MethodHandle" ∧ yX10_addCrime.cls ≠ "java/lang/invoke/VarHandle" ∧ (parseMethodDescriptor yX10_addCrime.desc).map (fun q => q.parameters.length) = some 6 := ⟨by decide +kernel, by decide +kernel, by decide +kernel⟩
theorem zk_X10_91 : zCv "SentRoadsModel" 91 yX10_addCrime cX10_addCrime 8 none 6 := ⟨zw_1129, zw_1131, zw_4, zw_50, zw_1132, zy_X10_addCrime, by decide⟩
theorem zy_X10_mayBe : yX10_mayBe.cls ≠ "java/lang/invoke/MethodHandle" ∧ yX10_mayBe.cls ≠ "java/lang/invoke/VarHandle" ∧ (parseMethodDescriptor yX10_mayBe.desc).map (fun q => q.parameters.length) = some 5 := ⟨by decide +kernel, by decide +kernel, by decide +kernel⟩
theorem zk_X10_101 : zCs "SentRoadsModel" 101 yX10_mayBe cX10_mayBe 5 (some .boolean) 5 := ⟨zw_1142, zw_1143, zw_50, zw_1144, zy_X10_mayBe, by decide⟩
theorem zy_X10_addPaper : yX10_addPaper.cls ≠ "java/lang/invoke/MethodHandle" ∧ yX10_addPaper.cls ≠ "java/lang/invoke/VarHandle" ∧ (parseMethodDescriptor yX10_addPaper.desc).map (fun q => q.parameters.length) = some 8 := ⟨by decide +kernel, by decide +kernel, by decide +kernel⟩
theorem zk_X10_105 : zCv "SentRoadsModel" 105 yX10_addPaper cX10_addPaper 10 (some .int) 8 := ⟨zw_1147, zw_1149, zw_5, zw_50, zw_1150, zy_X10_addPaper, by decide⟩
theorem zy_X10_isPaper : yX10_isPaper.cls ≠ "java/lang/invoke/MethodHandle" ∧ yX10_isPaper.cls ≠ "java/lang/invoke/VarHandle" ∧ (parseMethodDescriptor yX10_isPaper.desc).map (fun q => q.parameters.length) = some 1 := ⟨by decide +kernel, by decide +kernel, by decide +kernel⟩
theorem zk_X10_109 : zCv "SentRoadsModel" 109 yX10_isPaper cX10_isPaper 2 (some .boolean) 1 := ⟨zw_1167, zw_1169, zw_6, zw_50, zw_1170, zy_X10_isPaper, by decide⟩
theorem zy_X10_areCrime : yX10_areCrime.cls ≠ "java/lang/invoke/MethodHandle" ∧ yX10_areCrime.cls ≠ "java/lang/invoke/VarHandle" ∧ (parseMethodDescriptor yX10_areCrime.desc).map (fun q => q.parameters.length) = some 2 := ⟨by decide +kernel, by decide +kernel, by decide +kernel⟩
theorem zk_X10_112 : zCv "SentRoadsModel" 112 yX10_areCrime cX10_areCrime 3 (some .boolean) 2 := ⟨zw_1187, zw_1189, zw_9, zw_50, zw_1190, zy_X10_areCrime, by decide⟩
theorem zy_X10_crimesOf : yX10_crimesOf.cls ≠ "java/lang/invoke/MethodHandle" ∧ yX10_crimesOf.cls ≠ "java/lang/invoke/VarHandle" ∧ (parseMethodDescriptor yX10_crimesOf.desc).map (fun q => q.parameters.length) = some 2 := ⟨by decide +kernel, by decide +kernel, by decide +kernel⟩
theorem zk_X10_116 : zCv "SentRoadsModel" 116 yX10_crimesOf cX10_crimesOf 5 (some .int) 2 := ⟨zw_1183, zw_1185, zw_8, zw_50, zw_1186, zy_X10_crimesOf, by decide⟩
theorem zy_X10_isDeed : yX10_isDeed.cls ≠ "java/lang/invoke/MethodHandle" ∧ yX10_isDeed.cls ≠ "java/lang/invoke/VarHandle" ∧ (parseMethodDescriptor yX10_isDeed.desc).map (fun q => q.parameters.length) = some 1 := ⟨by decide +kernel, by decide +kernel, by decide +kernel⟩
theorem zk_X10_120 : zCv "SentRoadsModel" 120 yX10_isDeed cX10_isDeed 2 (some .boolean) 1 := ⟨zw_1179, zw_1181, zw_7, zw_50, zw_1182, zy_X10_isDeed, by decide⟩
theorem zy_X10_yearsFor : yX10_yearsFor.cls ≠ "java/lang/invoke/MethodHandle" ∧ yX10_yearsFor.cls ≠ "java/lang/invoke/VarHandle" ∧ (parseMethodDescriptor yX10_yearsFor.desc).map (fun q => q.parameters.length) = some 2 := ⟨by decide +kernel, by decide +kernel, by decide +kernel⟩
theorem zk_X10_123 : zCv "SentRoadsModel" 123 yX10_yearsFor cX10_yearsFor 6 (some .int) 2 := ⟨zw_1195, zw_1197, zw_10, zw_50, zw_1198, zy_X10_yearsFor, by decide⟩
theorem zy_X10_allDeeds : yX10_allDeeds.cls ≠ "java/lang/invoke/MethodHandle" ∧ yX10_allDeeds.cls ≠ "java/lang/invoke/VarHandle" ∧ (parseMethodDescriptor yX10_allDeeds.desc).map (fun q => q.parameters.length) = some 0 := ⟨by decide +kernel, by decide +kernel, by decide +kernel⟩
theorem zk_X10_131 : zCv "SentRoadsModel" 131 yX10_allDeeds cX10_allDeeds 1 (some .int) 0 := ⟨zw_1216, zw_1218, zw_11, zw_50, zw_1219, zy_X10_allDeeds, by decide⟩
theorem zy_X10_isDeadly : yX10_isDeadly.cls ≠ "java/lang/invoke/MethodHandle" ∧ yX10_isDeadly.cls ≠ "java/lang/invoke/VarHandle" ∧ (parseMethodDescriptor yX10_isDeadly.desc).map (fun q => q.parameters.length) = some 2 := ⟨by decide +kernel, by decide +kernel, by decide +kernel⟩
theorem zk_X10_135 : zCv "SentRoadsModel" 135 yX10_isDeadly cX10_isDeadly 6 (some .boolean) 2 := ⟨zw_1236, zw_1238, zw_14, zw_50, zw_1239, zy_X10_isDeadly, by decide⟩
theorem zy_X10_isCovered : yX10_isCovered.cls ≠ "java/lang/invoke/MethodHandle" ∧ yX10_isCovered.cls ≠ "java/lang/invoke/VarHandle" ∧ (parseMethodDescriptor yX10_isCovered.desc).map (fun q => q.parameters.length) = some 2 := ⟨by decide +kernel, by decide +kernel, by decide +kernel⟩
theorem zk_X10_138 : zCv "SentRoadsModel" 138 yX10_isCovered cX10_isCovered 6 (some .boolean) 2 := ⟨zw_1224, zw_1226, zw_12, zw_50, zw_1227, zy_X10_isCovered, by decide⟩
theorem zy_X10_standing : yX10_standing.cls ≠ "java/lang/invoke/MethodHandle" ∧ yX10_standing.cls ≠ "java/lang/invoke/VarHandle" ∧ (parseMethodDescriptor yX10_standing.desc).map (fun q => q.parameters.length) = some 2 := ⟨by decide +kernel, by decide +kernel, by decide +kernel⟩
theorem zk_X10_141 : zCv "SentRoadsModel" 141 yX10_standing cX10_standing 6 (some .int) 2 := ⟨zw_1232, zw_1234, zw_13, zw_50, zw_1235, zy_X10_standing, by decide⟩
theorem zy_X10_mayGo : yX10_mayGo.cls ≠ "java/lang/invoke/MethodHandle" ∧ yX10_mayGo.cls ≠ "java/lang/invoke/VarHandle" ∧ (parseMethodDescriptor yX10_mayGo.desc).map (fun q => q.parameters.length) = some 5 := ⟨by decide +kernel, by decide +kernel, by decide +kernel⟩
theorem zk_X10_144 : zCv "SentRoadsModel" 144 yX10_mayGo cX10_mayGo 8 (some .boolean) 5 := ⟨zw_1256, zw_1258, zw_18, zw_50, zw_1259, zy_X10_mayGo, by decide⟩
theorem zy_X10_goes : yX10_goes.cls ≠ "java/lang/invoke/MethodHandle" ∧ yX10_goes.cls ≠ "java/lang/invoke/VarHandle" ∧ (parseMethodDescriptor yX10_goes.desc).map (fun q => q.parameters.length) = some 5 := ⟨by decide +kernel, by decide +kernel, by decide +kernel⟩
theorem zk_X10_147 : zCv "SentRoadsModel" 147 yX10_goes cX10_goes 8 (some .int) 5 := ⟨zw_1252, zw_1254, zw_17, zw_50, zw_1255, zy_X10_goes, by decide⟩
theorem zy_X10_findOpen : yX10_findOpen.cls ≠ "java/lang/invoke/MethodHandle" ∧ yX10_findOpen.cls ≠ "java/lang/invoke/VarHandle" ∧ (parseMethodDescriptor yX10_findOpen.desc).map (fun q => q.parameters.length) = some 0 := ⟨by decide +kernel, by decide +kernel, by decide +kernel⟩
theorem zk_X10_151 : zCv "SentRoadsModel" 151 yX10_findOpen cX10_findOpen 3 none 0 := ⟨zw_1244, zw_1246, zw_15, zw_50, zw_1247, zy_X10_findOpen, by decide⟩
theorem zy_X10_goesNow : yX10_goesNow.cls ≠ "java/lang/invoke/MethodHandle" ∧ yX10_goesNow.cls ≠ "java/lang/invoke/VarHandle" ∧ (parseMethodDescriptor yX10_goesNow.desc).map (fun q => q.parameters.length) = some 1 := ⟨by decide +kernel, by decide +kernel, by decide +kernel⟩
theorem zk_X10_154 : zCv "SentRoadsModel" 154 yX10_goesNow cX10_goesNow 2 (some .int) 1 := ⟨zw_1248, zw_1250, zw_16, zw_50, zw_1251, zy_X10_goesNow, by decide⟩
theorem zk_X10_158 : zCv "SentRoadsModel" 158 yX10_lets cX10_lets 2 (some .int) 1 := ⟨zw_1264, zw_1241, zw_1242, zw_50, zw_1243, zy_X10_lets, by decide⟩
theorem zy_X10_isTried : yX10_isTried.cls ≠ "java/lang/invoke/MethodHandle" ∧ yX10_isTried.cls ≠ "java/lang/invoke/VarHandle" ∧ (parseMethodDescriptor yX10_isTried.desc).map (fun q => q.parameters.length) = some 3 := ⟨by decide +kernel, by decide +kernel, by decide +kernel⟩
theorem zk_X10_161 : zCv "SentRoadsModel" 161 yX10_isTried cX10_isTried 4 (some .boolean) 3 := ⟨zw_1273, zw_1275, zw_20, zw_50, zw_1276, zy_X10_isTried, by decide⟩
theorem zy_X10_triedAt : yX10_triedAt.cls ≠ "java/lang/invoke/MethodHandle" ∧ yX10_triedAt.cls ≠ "java/lang/invoke/VarHandle" ∧ (parseMethodDescriptor yX10_triedAt.desc).map (fun q => q.parameters.length) = some 2 := ⟨by decide +kernel, by decide +kernel, by decide +kernel⟩
theorem zk_X10_165 : zCv "SentRoadsModel" 165 yX10_triedAt cX10_triedAt 5 (some .int) 2 := ⟨zw_1269, zw_1271, zw_19, zw_50, zw_1272, zy_X10_triedAt, by decide⟩
theorem zy_X10_codeOf : yX10_codeOf.cls ≠ "java/lang/invoke/MethodHandle" ∧ yX10_codeOf.cls ≠ "java/lang/invoke/VarHandle" ∧ (parseMethodDescriptor yX10_codeOf.desc).map (fun q => q.parameters.length) = some 4 := ⟨by decide +kernel, by decide +kernel, by decide +kernel⟩
theorem zk_X10_171 : zCv "SentRoadsModel" 171 yX10_codeOf cX10_codeOf 5 (some .int) 4 := ⟨zw_1285, zw_1287, zw_22, zw_50, zw_1288, zy_X10_codeOf, by decide⟩
theorem zy_X10_come : yX10_come.cls ≠ "java/lang/invoke/MethodHandle" ∧ yX10_come.cls ≠ "java/lang/invoke/VarHandle" ∧ (parseMethodDescriptor yX10_come.desc).map (fun q => q.parameters.length) = some 3 := ⟨by decide +kernel, by decide +kernel, by decide +kernel⟩
theorem zk_X10_175 : zCv "SentRoadsModel" 175 yX10_come cX10_come 4 none 3 := ⟨zw_1289, zw_1291, zw_23, zw_50, zw_1292, zy_X10_come, by decide⟩
theorem zy_X10_findStates : yX10_findStates.cls ≠ "java/lang/invoke/MethodHandle" ∧ yX10_findStates.cls ≠ "java/lang/invoke/VarHandle" ∧ (parseMethodDescriptor yX10_findStates.desc).map (fun q => q.parameters.length) = some 0 := ⟨by decide +kernel, by decide +kernel, by decide +kernel⟩
theorem zk_X10_179 : zCv "SentRoadsModel" 179 yX10_findStates cX10_findStates 11 none 0 := ⟨zw_1281, zw_1283, zw_21, zw_50, zw_1284, zy_X10_findStates, by decide⟩
theorem zy_X10_standsFor : yX10_standsFor.cls ≠ "java/lang/invoke/MethodHandle" ∧ yX10_standsFor.cls ≠ "java/lang/invoke/VarHandle" ∧ (parseMethodDescriptor yX10_standsFor.desc).map (fun q => q.parameters.length) = some 1 := ⟨by decide +kernel, by decide +kernel, by decide +kernel⟩
theorem zk_X10_182 : zCv "SentRoadsModel" 182 yX10_standsFor cX10_standsFor 4 (some .int) 1 := ⟨zw_1309, zw_1311, zw_24, zw_50, zw_1312, zy_X10_standsFor, by decide⟩
theorem zy_X10_greatestYears : yX10_greatestYears.cls ≠ "java/lang/invoke/MethodHandle" ∧ yX10_greatestYears.cls ≠ "java/lang/invoke/VarHandle" ∧ (parseMethodDescriptor yX10_greatestYears.desc).map (fun q => q.parameters.length) = some 1 := ⟨by decide +kernel, by decide +kernel, by decide +kernel⟩
theorem zk_X10_185 : zCv "SentRoadsModel" 185 yX10_greatestYears cX10_greatestYears 6 (some .int) 1 := ⟨zw_1317, zw_1319, zw_26, zw_50, zw_1320, zy_X10_greatestYears, by decide⟩
theorem zy_X10_wasThere : yX10_wasThere.cls ≠ "java/lang/invoke/MethodHandle" ∧ yX10_wasThere.cls ≠ "java/lang/invoke/VarHandle" ∧ (parseMethodDescriptor yX10_wasThere.desc).map (fun q => q.parameters.length) = some 1 := ⟨by decide +kernel, by decide +kernel, by decide +kernel⟩
theorem zk_X10_188 : zCv "SentRoadsModel" 188 yX10_wasThere cX10_wasThere 5 (some .int) 1 := ⟨zw_1321, zw_1323, zw_27, zw_50, zw_1324, zy_X10_wasThere, by decide⟩
theorem zy_X10_isAhead : yX10_isAhead.cls ≠ "java/lang/invoke/MethodHandle" ∧ yX10_isAhead.cls ≠ "java/lang/invoke/VarHandle" ∧ (parseMethodDescriptor yX10_isAhead.desc).map (fun q => q.parameters.length) = some 2 := ⟨by decide +kernel, by decide +kernel, by decide +kernel⟩
theorem zk_X10_191 : zCv "SentRoadsModel" 191 yX10_isAhead cX10_isAhead 5 (some .boolean) 2 := ⟨zw_1313, zw_1315, zw_25, zw_50, zw_1316, zy_X10_isAhead, by decide⟩
theorem zy_X10_ones : yX10_ones.cls ≠ "java/lang/invoke/MethodHandle" ∧ yX10_ones.cls ≠ "java/lang/invoke/VarHandle" ∧ (parseMethodDescriptor yX10_ones.desc).map (fun q => q.parameters.length) = some 1 := ⟨by decide +kernel, by decide +kernel, by decide +kernel⟩
theorem zk_X10_194 : zCs "SentRoadsModel" 194 yX10_ones cX10_ones 3 (some .int) 1 := ⟨zw_1329, zw_1330, zw_50, zw_1331, zy_X10_ones, by decide⟩
theorem zy_X10_canFollow : yX10_canFollow.cls ≠ "java/lang/invoke/MethodHandle" ∧ yX10_canFollow.cls ≠ "java/lang/invoke/VarHandle" ∧ (parseMethodDescriptor yX10_canFollow.desc).map (fun q => q.parameters.length) = some 5 := ⟨by decide +kernel, by decide +kernel, by decide +kernel⟩
theorem zk_X10_197 : zCv "SentRoadsModel" 197 yX10_canFollow cX10_canFollow 6 (some .boolean) 5 := ⟨zw_1336, zw_1338, zw_28, zw_50, zw_1339, zy_X10_canFollow, by decide⟩
theorem zy_X10_next : yX10_next.cls ≠ "java/lang/invoke/MethodHandle" ∧ yX10_next.cls ≠ "java/lang/invoke/VarHandle" ∧ (parseMethodDescriptor yX10_next.desc).map (fun q => q.parameters.length) = some 0 := ⟨by decide +kernel, by decide +kernel, by decide +kernel⟩
theorem zk_X10_214 : zCv "SentRoadsModel" 214 yX10_next cX10_next 1 (some .int) 0 := ⟨zw_1360, zw_1362, zw_30, zw_50, zw_1363, zy_X10_next, by decide⟩
theorem zy_X10_readMarks : yX10_readMarks.cls ≠ "java/lang/invoke/MethodHandle" ∧ yX10_readMarks.cls ≠ "java/lang/invoke/VarHandle" ∧ (parseMethodDescriptor yX10_readMarks.desc).map (fun q => q.parameters.length) = some 1 := ⟨by decide +kernel, by decide +kernel, by decide +kernel⟩
theorem zk_X10_224 : zCv "SentRoadsModel" 224 yX10_readMarks cX10_readMarks 7 (some .int) 1 := ⟨zw_1372, zw_1374, zw_33, zw_50, zw_1375, zy_X10_readMarks, by decide⟩
theorem zy_X10_takes : yX10_takes.cls ≠ "java/lang/invoke/MethodHandle" ∧ yX10_takes.cls ≠ "java/lang/invoke/VarHandle" ∧ (parseMethodDescriptor yX10_takes.desc).map (fun q => q.parameters.length) = some 1 := ⟨by decide +kernel, by decide +kernel, by decide +kernel⟩
theorem zk_X10_227 : zCv "SentRoadsModel" 227 yX10_takes cX10_takes 3 (some .boolean) 1 := ⟨zw_1364, zw_1366, zw_31, zw_50, zw_1367, zy_X10_takes, by decide⟩
theorem zy_X10_readNumber : yX10_readNumber.cls ≠ "java/lang/invoke/MethodHandle" ∧ yX10_readNumber.cls ≠ "java/lang/invoke/VarHandle" ∧ (parseMethodDescriptor yX10_readNumber.desc).map (fun q => q.parameters.length) = some 2 := ⟨by decide +kernel, by decide +kernel, by decide +kernel⟩
theorem zk_X10_230 : zCv "SentRoadsModel" 230 yX10_readNumber cX10_readNumber 5 (some .int) 2 := ⟨zw_1376, zw_1378, zw_34, zw_50, zw_1379, zy_X10_readNumber, by decide⟩
theorem zy_X10_barOf : yX10_barOf.cls ≠ "java/lang/invoke/MethodHandle" ∧ yX10_barOf.cls ≠ "java/lang/invoke/VarHandle" ∧ (parseMethodDescriptor yX10_barOf.desc).map (fun q => q.parameters.length) = some 1 := ⟨by decide +kernel, by decide +kernel, by decide +kernel⟩
theorem zk_X10_236 : zCs "SentRoadsModel" 236 yX10_barOf cX10_barOf 1 (some .int) 1 := ⟨zw_1386, zw_1387, zw_50, zw_1388, zy_X10_barOf, by decide⟩
theorem zy_X10_promiseOf : yX10_promiseOf.cls ≠ "java/lang/invoke/MethodHandle" ∧ yX10_promiseOf.cls ≠ "java/lang/invoke/VarHandle" ∧ (parseMethodDescriptor yX10_promiseOf.desc).map (fun q => q.parameters.length) = some 1 := ⟨by decide +kernel, by decide +kernel, by decide +kernel⟩
theorem zk_X10_239 : zCs "SentRoadsModel" 239 yX10_promiseOf cX10_promiseOf 1 (some .int) 1 := ⟨zw_1389, zw_1390, zw_50, zw_1391, zy_X10_promiseOf, by decide⟩
theorem zy_X10_readCrime : yX10_readCrime.cls ≠ "java/lang/invoke/MethodHandle" ∧ yX10_readCrime.cls ≠ "java/lang/invoke/VarHandle" ∧ (parseMethodDescriptor yX10_readCrime.desc).map (fun q => q.parameters.length) = some 1 := ⟨by decide +kernel, by decide +kernel, by decide +kernel⟩
theorem zk_X10_242 : zCv "SentRoadsModel" 242 yX10_readCrime cX10_readCrime 7 (some .boolean) 1 := ⟨zw_1368, zw_1370, zw_32, zw_50, zw_1371, zy_X10_readCrime, by decide⟩
theorem zy_X10_readPaper : yX10_readPaper.cls ≠ "java/lang/invoke/MethodHandle" ∧ yX10_readPaper.cls ≠ "java/lang/invoke/VarHandle" ∧ (parseMethodDescriptor yX10_readPaper.desc).map (fun q => q.parameters.length) = some 1 := ⟨by decide +kernel, by decide +kernel, by decide +kernel⟩
theorem zk_X10_245 : zCv "SentRoadsModel" 245 yX10_readPaper cX10_readPaper 9 (some .boolean) 1 := ⟨zw_1382, zw_1384, zw_35, zw_50, zw_1385, zy_X10_readPaper, by decide⟩
theorem zy_X10_readWorld : yX10_readWorld.cls ≠ "java/lang/invoke/MethodHandle" ∧ yX10_readWorld.cls ≠ "java/lang/invoke/VarHandle" ∧ (parseMethodDescriptor yX10_readWorld.desc).map (fun q => q.parameters.length) = some 0 := ⟨by decide +kernel, by decide +kernel, by decide +kernel⟩
theorem zk_X10_248 : zCv "SentRoadsModel" 248 yX10_readWorld cX10_readWorld 4 (some .boolean) 0 := ⟨zw_1356, zw_1358, zw_29, zw_50, zw_1359, zy_X10_readWorld, by decide⟩
theorem zy_X10_keep : yX10_keep.cls ≠ "java/lang/invoke/MethodHandle" ∧ yX10_keep.cls ≠ "java/lang/invoke/VarHandle" ∧ (parseMethodDescriptor yX10_keep.desc).map (fun q => q.parameters.length) = some 1 := ⟨by decide +kernel, by decide +kernel, by decide +kernel⟩
theorem zk_X10_255 : zCv "SentRoadsModel" 255 yX10_keep cX10_keep 3 none 1 := ⟨zw_1396, zw_1398, zw_36, zw_50, zw_1399, zy_X10_keep, by decide⟩
theorem zy_X10_bring : yX10_bring.cls ≠ "java/lang/invoke/MethodHandle" ∧ yX10_bring.cls ≠ "java/lang/invoke/VarHandle" ∧ (parseMethodDescriptor yX10_bring.desc).map (fun q => q.parameters.length) = some 1 := ⟨by decide +kernel, by decide +kernel, by decide +kernel⟩
theorem zk_X10_263 : zCv "SentRoadsModel" 263 yX10_bring cX10_bring 3 none 1 := ⟨zw_1404, zw_1406, zw_37, zw_50, zw_1407, zy_X10_bring, by decide⟩
theorem zy_X10_isSheet : yX10_isSheet.cls ≠ "java/lang/invoke/MethodHandle" ∧ yX10_isSheet.cls ≠ "java/lang/invoke/VarHandle" ∧ (parseMethodDescriptor yX10_isSheet.desc).map (fun q => q.parameters.length) = some 2 := ⟨by decide +kernel, by decide +kernel, by decide +kernel⟩
theorem zk_X10_268 : zCs "SentRoadsModel" 268 yX10_isSheet cX10_isSheet 2 (some .boolean) 2 := ⟨zw_1412, zw_1413, zw_50, zw_1414, zy_X10_isSheet, by decide⟩
theorem zy_X10_lacksRow : yX10_lacksRow.cls ≠ "java/lang/invoke/MethodHandle" ∧ yX10_lacksRow.cls ≠ "java/lang/invoke/VarHandle" ∧ (parseMethodDescriptor yX10_lacksRow.desc).map (fun q => q.parameters.length) = some 4 := ⟨by decide +kernel, by decide +kernel, by decide +kernel⟩
theorem zk_X10_271 : zCv "SentRoadsModel" 271 yX10_lacksRow cX10_lacksRow 5 (some .int) 4 := ⟨zw_1424, zw_1426, zw_38, zw_50, zw_1427, zy_X10_lacksRow, by decide⟩
theorem zy_J0_coder_7d493 : yJ0_coder_7d493.cls ≠ "java/lang/invoke/MethodHandle" ∧ yJ0_coder_7d493.cls ≠ "java/lang/invoke/VarHandle" ∧ (parseMethodDescriptor yJ0_coder_7d493.desc).map (fun q => q.parameters.length) = some 0 := ⟨by decide +kernel, by decide +kernel, by decide +kernel⟩
theorem zk_J0_335 : zCv "java/lang/String" 335 yJ0_coder_7d493 cJ0_coder_7d493 1 (some .byte) 0 := ⟨zw_607, zw_608, zw_609, zw_53, zw_610, zy_J0_coder_7d493, by decide⟩
theorem zy_J0_isLatin1_aae02 : yJ0_isLatin1_aae02.cls ≠ "java/lang/invoke/MethodHandle" ∧ yJ0_isLatin1_aae02.cls ≠ "java/lang/invoke/VarHandle" ∧ (parseMethodDescriptor yJ0_isLatin1_aae02.desc).map (fun q => q.parameters.length) = some 0 := ⟨by decide +kernel, by decide +kernel, by decide +kernel⟩
theorem zk_J0_492 : zCv "java/lang/String" 492 yJ0_isLatin1_aae02 cJ0_isLatin1_aae02 1 (some .boolean) 0 := ⟨zw_621, zw_622, zw_623, zw_53, zw_624, zy_J0_isLatin1_aae02, by decide⟩
theorem zk_J0_505 : zCv "java/lang/String" 505 yJ0_length_8abf5 cJ0_length_8abf5 1 (some .int) 0 := ⟨zw_625, zw_604, zw_605, zw_53, zw_606, zy_J0_length_8abf5, by decide⟩
theorem zy_J0_indexOf_7cf53 : yJ0_indexOf_7cf53.cls ≠ "java/lang/invoke/MethodHandle" ∧ yJ0_indexOf_7cf53.cls ≠ "java/lang/invoke/VarHandle" ∧ (parseMethodDescriptor yJ0_indexOf_7cf53.desc).map (fun q => q.parameters.length) = some 2 := ⟨by decide +kernel, by decide +kernel, by decide +kernel⟩
theorem zk_J0_633 : zCv "java/lang/String" 633 yJ0_indexOf_7cf53 cJ0_indexOf_7cf53 3 (some .int) 2 := ⟨zw_617, zw_618, zw_619, zw_53, zw_620, zy_J0_indexOf_7cf53, by decide⟩
theorem zy_J1_indexOf_4cfef : yJ1_indexOf_4cfef.cls ≠ "java/lang/invoke/MethodHandle" ∧ yJ1_indexOf_4cfef.cls ≠ "java/lang/invoke/VarHandle" ∧ (parseMethodDescriptor yJ1_indexOf_4cfef.desc).map (fun q => q.parameters.length) = some 4 := ⟨by decide +kernel, by decide +kernel, by decide +kernel⟩
theorem zk_J0_637 : zCs "java/lang/String" 637 yJ1_indexOf_4cfef cJ1_indexOf_4cfef 4 (some .int) 4 := ⟨zw_626, zw_627, zw_54, zw_628, zy_J1_indexOf_4cfef, by decide⟩
theorem zk_J1_38 : zCs "java/lang/StringLatin1" 38 yJ9_min_7cf53 cJ9_min_7cf53 2 (some .int) 2 := ⟨zw_633, zw_586, zw_51, zw_587, zy_J9_min_7cf53, by decide⟩
theorem zy_J1_canEncode_9a6ad : yJ1_canEncode_9a6ad.cls ≠ "java/lang/invoke/MethodHandle" ∧ yJ1_canEncode_9a6ad.cls ≠ "java/lang/invoke/VarHandle" ∧ (parseMethodDescriptor yJ1_canEncode_9a6ad.desc).map (fun q => q.parameters.length) = some 1 := ⟨by decide +kernel, by decide +kernel, by decide +kernel⟩
theorem zk_J1_88 : zCs "java/lang/StringLatin1" 88 yJ1_canEncode_9a6ad cJ1_canEncode_9a6ad 1 (some .boolean) 1 := ⟨zw_629, zw_630, zw_54, zw_631, zy_J1_canEncode_9a6ad, by decide⟩
theorem zk_J1_92 : zCs "java/lang/StringLatin1" 92 yJ9_max_7cf53 cJ9_max_7cf53 2 (some .int) 2 := ⟨zw_632, zw_469, zw_51, zw_470, zy_J9_max_7cf53, by decide⟩
theorem zy_J1_indexOfChar_4cfef : yJ1_indexOfChar_4cfef.cls ≠ "java/lang/invoke/MethodHandle" ∧ yJ1_indexOfChar_4cfef.cls ≠ "java/lang/invoke/VarHandle" ∧ (parseMethodDescriptor yJ1_indexOfChar_4cfef.desc).map (fun q => q.parameters.length) = some 4 := ⟨by decide +kernel, by decide +kernel, by decide +kernel⟩
theorem zk_J1_95 : zCs "java/lang/StringLatin1" 95 yJ1_indexOfChar_4cfef cJ1_indexOfChar_4cfef 6 (some .int) 4 := ⟨zw_634, zw_635, zw_54, zw_636, zy_J1_indexOfChar_4cfef, by decide⟩
