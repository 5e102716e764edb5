/-! words of the tables, by their places -/
theorem gw_0 : (.selects "HundredGongs$Text" ⟨"HundredGongs$Text", "readLine", "(LHundredGongs$Cloister;)Z"⟩ ⟨"HundredGongs$Text", "readLine", "(LHundredGongs$Cloister;)Z"⟩ : Cond) ∈ g_G := g_in 0 (by decide +kernel) rfl
theorem gw_1 : (.selects "HundredGongs$Text" ⟨"HundredGongs$Text", "nextToken", "()V"⟩ ⟨"HundredGongs$Text", "nextToken", "()V"⟩ : Cond) ∈ g_G := g_in 1 (by decide +kernel) rfl
theorem gw_2 : (.selects "HundredGongs$Text" ⟨"HundredGongs$Text", "byteAt", "(I)I"⟩ ⟨"HundredGongs$Text", "byteAt", "(I)I"⟩ : Cond) ∈ g_G := g_in 2 (by decide +kernel) rfl
theorem gw_3 : (.selects "HundredGongs$Text" ⟨"HundredGongs$Text", "wordHere", "()I"⟩ ⟨"HundredGongs$Text", "wordHere", "()I"⟩ : Cond) ∈ g_G := g_in 3 (by decide +kernel) rfl
theorem gw_4 : (.selects "HundredGongs$Text" ⟨"HundredGongs$Text", "tokenIs", "(Ljava/lang/String;)Z"⟩ ⟨"HundredGongs$Text", "tokenIs", "(Ljava/lang/String;)Z"⟩ : Cond) ∈ g_G := g_in 4 (by decide +kernel) rfl
theorem gw_5 : (.selects "HundredGongs$Text" ⟨"HundredGongs$Text", "readMonk", "(LHundredGongs$Cloister;I)Z"⟩ ⟨"HundredGongs$Text", "readMonk", "(LHundredGongs$Cloister;I)Z"⟩ : Cond) ∈ g_G := g_in 5 (by decide +kernel) rfl
theorem gw_6 : (.selects "HundredGongs$Text" ⟨"HundredGongs$Text", "nextNumber", "(II)Z"⟩ ⟨"HundredGongs$Text", "nextNumber", "(II)Z"⟩ : Cond) ∈ g_G := g_in 6 (by decide +kernel) rfl
theorem gw_7 : (.selects "HundredGongs$Text" ⟨"HundredGongs$Text", "readCloister", "(LHundredGongs$Cloister;)Z"⟩ ⟨"HundredGongs$Text", "readCloister", "(LHundredGongs$Cloister;)Z"⟩ : Cond) ∈ g_G := g_in 7 (by decide +kernel) rfl
theorem gw_8 : (.selects "HundredGongs$Text" ⟨"HundredGongs$Text", "readHears", "(LHundredGongs$Cloister;)Z"⟩ ⟨"HundredGongs$Text", "readHears", "(LHundredGongs$Cloister;)Z"⟩ : Cond) ∈ g_G := g_in 8 (by decide +kernel) rfl
theorem gw_9 : (.selects "HundredGongs$Text" ⟨"HundredGongs$Text", "readAlone", "(LHundredGongs$Cloister;)Z"⟩ ⟨"HundredGongs$Text", "readAlone", "(LHundredGongs$Cloister;)Z"⟩ : Cond) ∈ g_G := g_in 9 (by decide +kernel) rfl
theorem gw_10 : (.selects "HundredGongs$Morning" ⟨"HundredGongs$Morning", "heeds", "(LHundredGongs$Cloister;I)Z"⟩ ⟨"HundredGongs$Morning", "heeds", "(LHundredGongs$Cloister;I)Z"⟩ : Cond) ∈ g_G := g_in 10 (by decide +kernel) rfl
theorem gw_11 : (.selects "HundredGongs" ⟨"HundredGongs", "foretold", "()LHundredGongs$Foretelling;"⟩ ⟨"HundredGongs", "foretold", "()LHundredGongs$Foretelling;"⟩ : Cond) ∈ g_G := g_in 11 (by decide +kernel) rfl
theorem gw_12 : (.selects "HundredGongs$Foretelling" ⟨"HundredGongs$Foretelling", "forgetBest", "()V"⟩ ⟨"HundredGongs$Foretelling", "forgetBest", "()V"⟩ : Cond) ∈ g_G := g_in 12 (by decide +kernel) rfl
theorem gw_13 : (.selects "HundredGongs$Foretelling" ⟨"HundredGongs$Foretelling", "setBest", "(III)V"⟩ ⟨"HundredGongs$Foretelling", "setBest", "(III)V"⟩ : Cond) ∈ g_G := g_in 13 (by decide +kernel) rfl
theorem gw_14 : (.selects "HundredGongsModel" ⟨"HundredGongsModel", "plain", "(I)V"⟩ ⟨"HundredGongsModel", "plain", "(I)V"⟩ : Cond) ∈ g_G := g_in 14 (by decide +kernel) rfl
theorem gw_15 : (.selects "HundredGongsModel" ⟨"HundredGongsModel", "isRead", "()Z"⟩ ⟨"HundredGongsModel", "isRead", "()Z"⟩ : Cond) ∈ g_G := g_in 15 (by decide +kernel) rfl
theorem gw_16 : (.selects "HundredGongsModel" ⟨"HundredGongsModel", "isLine", "(I)Z"⟩ ⟨"HundredGongsModel", "isLine", "(I)Z"⟩ : Cond) ∈ g_G := g_in 16 (by decide +kernel) rfl
theorem gw_17 : (.selects "HundredGongsModel" ⟨"HundredGongsModel", "nextToken", "()V"⟩ ⟨"HundredGongsModel", "nextToken", "()V"⟩ : Cond) ∈ g_G := g_in 17 (by decide +kernel) rfl
theorem gw_18 : (.selects "HundredGongsModel" ⟨"HundredGongsModel", "isThere", "(I)Z"⟩ ⟨"HundredGongsModel", "isThere", "(I)Z"⟩ : Cond) ∈ g_G := g_in 18 (by decide +kernel) rfl
theorem gw_19 : (.selects "HundredGongsModel" ⟨"HundredGongsModel", "isNumber", "(III)Z"⟩ ⟨"HundredGongsModel", "isNumber", "(III)Z"⟩ : Cond) ∈ g_G := g_in 19 (by decide +kernel) rfl
theorem gw_20 : (.selects "HundredGongsModel" ⟨"HundredGongsModel", "fails", "()Z"⟩ ⟨"HundredGongsModel", "fails", "()Z"⟩ : Cond) ∈ g_G := g_in 20 (by decide +kernel) rfl
theorem gw_21 : (.selects "HundredGongsModel" ⟨"HundredGongsModel", "isHearing", "(I)Z"⟩ ⟨"HundredGongsModel", "isHearing", "(I)Z"⟩ : Cond) ∈ g_G := g_in 21 (by decide +kernel) rfl
theorem gw_22 : (.selects "HundredGongsModel" ⟨"HundredGongsModel", "doLine", "(I)V"⟩ ⟨"HundredGongsModel", "doLine", "(I)V"⟩ : Cond) ∈ g_G := g_in 22 (by decide +kernel) rfl
theorem gw_23 : (.selects "HundredGongsModel" ⟨"HundredGongsModel", "isGong", "(I)Z"⟩ ⟨"HundredGongsModel", "isGong", "(I)Z"⟩ : Cond) ∈ g_G := g_in 23 (by decide +kernel) rfl
theorem gw_24 : (.selects "HundredGongsModel" ⟨"HundredGongsModel", "canHear", "(I)Z"⟩ ⟨"HundredGongsModel", "canHear", "(I)Z"⟩ : Cond) ∈ g_G := g_in 24 (by decide +kernel) rfl
theorem gw_25 : (.selects "HundredGongsModel" ⟨"HundredGongsModel", "lateOf", "(I)I"⟩ ⟨"HundredGongsModel", "lateOf", "(I)I"⟩ : Cond) ∈ g_G := g_in 25 (by decide +kernel) rfl
theorem gw_26 : (.selects "HundredGongsModel" ⟨"HundredGongsModel", "sound", "(I)I"⟩ ⟨"HundredGongsModel", "sound", "(I)I"⟩ : Cond) ∈ g_G := g_in 26 (by decide +kernel) rfl
theorem gw_27 : (.selects "HundredGongsModel" ⟨"HundredGongsModel", "pass", "()I"⟩ ⟨"HundredGongsModel", "pass", "()I"⟩ : Cond) ∈ g_G := g_in 27 (by decide +kernel) rfl
theorem gw_28 : (.selects "HundredGongsModel" ⟨"HundredGongsModel", "firstOf", "(II)I"⟩ ⟨"HundredGongsModel", "firstOf", "(II)I"⟩ : Cond) ∈ g_G := g_in 28 (by decide +kernel) rfl
theorem gw_29 : (.selects "HundredGongsModel" ⟨"HundredGongsModel", "wakes", "(I)Z"⟩ ⟨"HundredGongsModel", "wakes", "(I)Z"⟩ : Cond) ∈ g_G := g_in 29 (by decide +kernel) rfl
theorem gw_30 : (.selects "HundredGongsModel" ⟨"HundredGongsModel", "roundOf", "(I)I"⟩ ⟨"HundredGongsModel", "roundOf", "(I)I"⟩ : Cond) ∈ g_G := g_in 30 (by decide +kernel) rfl
theorem gw_31 : (.selects "HundredGongsModel" ⟨"HundredGongsModel", "layFirst", "(I)I"⟩ ⟨"HundredGongsModel", "layFirst", "(I)I"⟩ : Cond) ∈ g_G := g_in 31 (by decide +kernel) rfl
theorem gw_32 : (.selects "HundredGongsModel" ⟨"HundredGongsModel", "apartOf", "(III)I"⟩ ⟨"HundredGongsModel", "apartOf", "(III)I"⟩ : Cond) ∈ g_G := g_in 32 (by decide +kernel) rfl
theorem gw_33 : (.selects "HundredGongsModel" ⟨"HundredGongsModel", "exchange", "(II)V"⟩ ⟨"HundredGongsModel", "exchange", "(II)V"⟩ : Cond) ∈ g_G := g_in 33 (by decide +kernel) rfl
theorem gw_34 : (.selects "HundredGongsModel" ⟨"HundredGongsModel", "without", "(II)I"⟩ ⟨"HundredGongsModel", "without", "(II)I"⟩ : Cond) ∈ g_G := g_in 34 (by decide +kernel) rfl
theorem gw_35 : (.selects "HundredGongsModel" ⟨"HundredGongsModel", "isSo", "(I)Z"⟩ ⟨"HundredGongsModel", "isSo", "(I)Z"⟩ : Cond) ∈ g_G := g_in 35 (by decide +kernel) rfl
theorem gw_46 : (.initialized "java/lang/System" : Cond) ∈ g_G := g_in 46 (by decide +kernel) rfl
theorem gw_52 : (.initialized "java/lang/Math" : Cond) ∈ g_G := g_in 52 (by decide +kernel) rfl
theorem gw_53 : (.classLink "HundredGongsLaw" 7 "HundredGongs" : Cond) ∈ g_G := g_in 53 (by decide +kernel) rfl
theorem gw_55 : (.methodLink "HundredGongsLaw" 9 ⟨"HundredGongs", "<init>", "()V"⟩ : Cond) ∈ g_G := g_in 55 (by decide +kernel) rfl
theorem gw_56 : (.instanceMethod ⟨"HundredGongs", "<init>", "()V"⟩ : Cond) ∈ g_G := g_in 56 (by decide +kernel) rfl
theorem gw_58 : (.methodLink "HundredGongs" 3 ⟨"java/lang/Object", "<init>", "()V"⟩ : Cond) ∈ g_G := g_in 58 (by decide +kernel) rfl
theorem gw_59 : (.instanceMethod ⟨"java/lang/Object", "<init>", "()V"⟩ : Cond) ∈ g_G := g_in 59 (by decide +kernel) rfl
theorem gw_61 : (.classLink "HundredGongs" 9 "HundredGongs$Text" : Cond) ∈ g_G := g_in 61 (by decide +kernel) rfl
theorem gw_63 : (.methodLink "HundredGongs" 11 ⟨"HundredGongs$Text", "<init>", "()V"⟩ : Cond) ∈ g_G := g_in 63 (by decide +kernel) rfl
theorem gw_64 : (.instanceMethod ⟨"HundredGongs$Text", "<init>", "()V"⟩ : Cond) ∈ g_G := g_in 64 (by decide +kernel) rfl
theorem gw_66 : (.methodLink "HundredGongs$Text" 3 ⟨"java/lang/Object", "<init>", "()V"⟩ : Cond) ∈ g_G := g_in 66 (by decide +kernel) rfl
theorem gw_67 : (.fieldLink "HundredGongs$Text" 9 "HundredGongs$Text" "bytes" "[I" : Cond) ∈ g_G := g_in 67 (by decide +kernel) rfl
theorem gw_68 : (.fieldLink "HundredGongs$Text" 15 "HundredGongs$Text" "length" "I" : Cond) ∈ g_G := g_in 68 (by decide +kernel) rfl
theorem gw_69 : (.fieldLink "HundredGongs" 55 "HundredGongs$Text" "length" "I" : Cond) ∈ g_G := g_in 69 (by decide +kernel) rfl
theorem gw_70 : (.fieldLink "HundredGongs$Text" 22 "HundredGongs$Text" "lines" "I" : Cond) ∈ g_G := g_in 70 (by decide +kernel) rfl
theorem gw_71 : (.fieldLink "HundredGongs" 82 "HundredGongs$Text" "lines" "I" : Cond) ∈ g_G := g_in 71 (by decide +kernel) rfl
theorem gw_72 : (.fieldLink "HundredGongs$Text" 29 "HundredGongs$Text" "start" "I" : Cond) ∈ g_G := g_in 72 (by decide +kernel) rfl
theorem gw_73 : (.fieldLink "HundredGongs$Text" 19 "HundredGongs$Text" "end" "I" : Cond) ∈ g_G := g_in 73 (by decide +kernel) rfl
theorem gw_74 : (.fieldLink "HundredGongs$Text" 65 "HundredGongs$Text" "number" "I" : Cond) ∈ g_G := g_in 74 (by decide +kernel) rfl
theorem gw_88 : (.arrayClass .int : Cond) ∈ g_G := g_in 88 (by decide +kernel) rfl
theorem gw_89 : (.classLink "HundredGongs" 16 "HundredGongs$Cloister" : Cond) ∈ g_G := g_in 89 (by decide +kernel) rfl
theorem gw_91 : (.methodLink "HundredGongs" 18 ⟨"HundredGongs$Cloister", "<init>", "()V"⟩ : Cond) ∈ g_G := g_in 91 (by decide +kernel) rfl
theorem gw_92 : (.instanceMethod ⟨"HundredGongs$Cloister", "<init>", "()V"⟩ : Cond) ∈ g_G := g_in 92 (by decide +kernel) rfl
theorem gw_94 : (.methodLink "HundredGongs$Cloister" 3 ⟨"java/lang/Object", "<init>", "()V"⟩ : Cond) ∈ g_G := g_in 94 (by decide +kernel) rfl
theorem gw_95 : (.methodLink "HundredGongs$Cloister" 24 ⟨"HundredGongs$Cloister", "found", "(I)V"⟩ : Cond) ∈ g_G := g_in 95 (by decide +kernel) rfl
theorem gw_96 : (.instanceMethod ⟨"HundredGongs$Cloister", "found", "(I)V"⟩ : Cond) ∈ g_G := g_in 96 (by decide +kernel) rfl
theorem gw_97 : (.selects "HundredGongs$Cloister" ⟨"HundredGongs$Cloister", "found", "(I)V"⟩ ⟨"HundredGongs$Cloister", "found", "(I)V"⟩ : Cond) ∈ g_G := g_in 97 (by decide +kernel) rfl
theorem gw_99 : (.methodLink "HundredGongs$Cloister" 32 ⟨"java/util/Arrays", "fill", "([II)V"⟩ : Cond) ∈ g_G := g_in 99 (by decide +kernel) rfl
theorem gw_100 : (.static ⟨"java/util/Arrays", "fill", "([II)V"⟩ : Cond) ∈ g_G := g_in 100 (by decide +kernel) rfl
theorem gw_102 : (.fieldLink "HundredGongs$Cloister" 9 "HundredGongs$Cloister" "hears" "[I" : Cond) ∈ g_G := g_in 102 (by decide +kernel) rfl
theorem gw_103 : (.fieldLink "HundredGongs$Way" 35 "HundredGongs$Cloister" "hears" "[I" : Cond) ∈ g_G := g_in 103 (by decide +kernel) rfl
theorem gw_104 : (.fieldLink "HundredGongs$Morning" 35 "HundredGongs$Cloister" "hears" "[I" : Cond) ∈ g_G := g_in 104 (by decide +kernel) rfl
theorem gw_105 : (.fieldLink "HundredGongs" 89 "HundredGongs$Cloister" "hears" "[I" : Cond) ∈ g_G := g_in 105 (by decide +kernel) rfl
theorem gw_106 : (.fieldLink "HundredGongs$Text" 75 "HundredGongs$Cloister" "hears" "[I" : Cond) ∈ g_G := g_in 106 (by decide +kernel) rfl
theorem gw_107 : (.fieldLink "HundredGongs$Cloister" 15 "HundredGongs$Cloister" "span" "[I" : Cond) ∈ g_G := g_in 107 (by decide +kernel) rfl
theorem gw_108 : (.fieldLink "HundredGongs" 93 "HundredGongs$Cloister" "span" "[I" : Cond) ∈ g_G := g_in 108 (by decide +kernel) rfl
theorem gw_109 : (.fieldLink "HundredGongs$Text" 78 "HundredGongs$Cloister" "span" "[I" : Cond) ∈ g_G := g_in 109 (by decide +kernel) rfl
theorem gw_110 : (.fieldLink "HundredGongs$Cloister" 18 "HundredGongs$Cloister" "kind" "[I" : Cond) ∈ g_G := g_in 110 (by decide +kernel) rfl
theorem gw_111 : (.fieldLink "HundredGongs$Way" 31 "HundredGongs$Cloister" "kind" "[I" : Cond) ∈ g_G := g_in 111 (by decide +kernel) rfl
theorem gw_112 : (.fieldLink "HundredGongs$Morning" 50 "HundredGongs$Cloister" "kind" "[I" : Cond) ∈ g_G := g_in 112 (by decide +kernel) rfl
theorem gw_113 : (.fieldLink "HundredGongs" 110 "HundredGongs$Cloister" "kind" "[I" : Cond) ∈ g_G := g_in 113 (by decide +kernel) rfl
theorem gw_114 : (.fieldLink "HundredGongs$Text" 81 "HundredGongs$Cloister" "kind" "[I" : Cond) ∈ g_G := g_in 114 (by decide +kernel) rfl
theorem gw_115 : (.fieldLink "HundredGongs$Foretelling" 97 "HundredGongs$Cloister" "kind" "[I" : Cond) ∈ g_G := g_in 115 (by decide +kernel) rfl
theorem gw_116 : (.fieldLink "HundredGongs$Cloister" 21 "HundredGongs$Cloister" "delay" "[I" : Cond) ∈ g_G := g_in 116 (by decide +kernel) rfl
theorem gw_117 : (.fieldLink "HundredGongs" 113 "HundredGongs$Cloister" "delay" "[I" : Cond) ∈ g_G := g_in 117 (by decide +kernel) rfl
theorem gw_118 : (.fieldLink "HundredGongs$Text" 84 "HundredGongs$Cloister" "delay" "[I" : Cond) ∈ g_G := g_in 118 (by decide +kernel) rfl
theorem gw_119 : (.fieldLink "HundredGongs$Cloister" 28 "HundredGongs$Cloister" "gongs" "I" : Cond) ∈ g_G := g_in 119 (by decide +kernel) rfl
theorem gw_120 : (.fieldLink "HundredGongs$Morning" 30 "HundredGongs$Cloister" "gongs" "I" : Cond) ∈ g_G := g_in 120 (by decide +kernel) rfl
theorem gw_121 : (.fieldLink "HundredGongs$Foretelling" 53 "HundredGongs$Cloister" "gongs" "I" : Cond) ∈ g_G := g_in 121 (by decide +kernel) rfl
theorem gw_122 : (.fieldLink "HundredGongs$Text" 72 "HundredGongs$Cloister" "gongs" "I" : Cond) ∈ g_G := g_in 122 (by decide +kernel) rfl
theorem gw_123 : (.fieldLink "HundredGongs" 202 "HundredGongs$Cloister" "gongs" "I" : Cond) ∈ g_G := g_in 123 (by decide +kernel) rfl
theorem gw_124 : (.fieldLink "HundredGongs$Cloister" 38 "HundredGongs$Cloister" "toldWeather" "I" : Cond) ∈ g_G := g_in 124 (by decide +kernel) rfl
theorem gw_125 : (.fieldLink "HundredGongs$Text" 43 "HundredGongs$Cloister" "toldWeather" "I" : Cond) ∈ g_G := g_in 125 (by decide +kernel) rfl
theorem gw_126 : (.fieldLink "HundredGongs" 73 "HundredGongs$Cloister" "toldWeather" "I" : Cond) ∈ g_G := g_in 126 (by decide +kernel) rfl
theorem gw_140 : (.classLink "HundredGongs" 26 "HundredGongs$Morning" : Cond) ∈ g_G := g_in 140 (by decide +kernel) rfl
theorem gw_142 : (.methodLink "HundredGongs" 28 ⟨"HundredGongs$Morning", "<init>", "()V"⟩ : Cond) ∈ g_G := g_in 142 (by decide +kernel) rfl
theorem gw_143 : (.instanceMethod ⟨"HundredGongs$Morning", "<init>", "()V"⟩ : Cond) ∈ g_G := g_in 143 (by decide +kernel) rfl
theorem gw_145 : (.methodLink "HundredGongs$Morning" 3 ⟨"java/lang/Object", "<init>", "()V"⟩ : Cond) ∈ g_G := g_in 145 (by decide +kernel) rfl
theorem gw_146 : (.fieldLink "HundredGongs$Morning" 9 "HundredGongs$Morning" "coming" "[J" : Cond) ∈ g_G := g_in 146 (by decide +kernel) rfl
theorem gw_147 : (.fieldLink "HundredGongs$Morning" 15 "HundredGongs$Morning" "strikes" "[I" : Cond) ∈ g_G := g_in 147 (by decide +kernel) rfl
theorem gw_148 : (.fieldLink "HundredGongs" 103 "HundredGongs$Morning" "strikes" "[I" : Cond) ∈ g_G := g_in 148 (by decide +kernel) rfl
theorem gw_149 : (.fieldLink "HundredGongs$Morning" 19 "HundredGongs$Morning" "heardOdd" "[Z" : Cond) ∈ g_G := g_in 149 (by decide +kernel) rfl
theorem gw_150 : (.fieldLink "HundredGongs" 120 "HundredGongs$Morning" "heardOdd" "[Z" : Cond) ∈ g_G := g_in 150 (by decide +kernel) rfl
theorem gw_151 : (.fieldLink "HundredGongs$Morning" 23 "HundredGongs$Morning" "minute" "I" : Cond) ∈ g_G := g_in 151 (by decide +kernel) rfl
theorem gw_152 : (.fieldLink "HundredGongs" 133 "HundredGongs$Morning" "minute" "I" : Cond) ∈ g_G := g_in 152 (by decide +kernel) rfl
theorem gw_153 : (.fieldLink "HundredGongs$Morning" 27 "HundredGongs$Morning" "weather" "I" : Cond) ∈ g_G := g_in 153 (by decide +kernel) rfl
theorem gw_154 : (.fieldLink "HundredGongs" 96 "HundredGongs$Morning" "weather" "I" : Cond) ∈ g_G := g_in 154 (by decide +kernel) rfl
theorem gw_166 : (.arrayClass .long : Cond) ∈ g_G := g_in 166 (by decide +kernel) rfl
theorem gw_167 : (.arrayClass .boolean : Cond) ∈ g_G := g_in 167 (by decide +kernel) rfl
theorem gw_169 : (.classLink "HundredGongs" 41 "HundredGongs$Sightings" : Cond) ∈ g_G := g_in 169 (by decide +kernel) rfl
theorem gw_171 : (.methodLink "HundredGongs" 43 ⟨"HundredGongs$Sightings", "<init>", "()V"⟩ : Cond) ∈ g_G := g_in 171 (by decide +kernel) rfl
theorem gw_172 : (.instanceMethod ⟨"HundredGongs$Sightings", "<init>", "()V"⟩ : Cond) ∈ g_G := g_in 172 (by decide +kernel) rfl
theorem gw_174 : (.methodLink "HundredGongs$Sightings" 3 ⟨"java/lang/Object", "<init>", "()V"⟩ : Cond) ∈ g_G := g_in 174 (by decide +kernel) rfl
theorem gw_175 : (.fieldLink "HundredGongs$Sightings" 9 "HundredGongs$Sightings" "gong" "[I" : Cond) ∈ g_G := g_in 175 (by decide +kernel) rfl
theorem gw_176 : (.fieldLink "HundredGongs$Sightings" 15 "HundredGongs$Sightings" "struck" "[Z" : Cond) ∈ g_G := g_in 176 (by decide +kernel) rfl
theorem gw_177 : (.fieldLink "HundredGongs$Sightings" 19 "HundredGongs$Sightings" "size" "I" : Cond) ∈ g_G := g_in 177 (by decide +kernel) rfl
theorem gw_178 : (.fieldLink "HundredGongs" 79 "HundredGongs$Sightings" "size" "I" : Cond) ∈ g_G := g_in 178 (by decide +kernel) rfl
theorem gw_186 : (.classLink "HundredGongs" 48 "HundredGongs$Foretelling" : Cond) ∈ g_G := g_in 186 (by decide +kernel) rfl
theorem gw_188 : (.methodLink "HundredGongs" 50 ⟨"HundredGongs$Foretelling", "<init>", "()V"⟩ : Cond) ∈ g_G := g_in 188 (by decide +kernel) rfl
theorem gw_189 : (.instanceMethod ⟨"HundredGongs$Foretelling", "<init>", "()V"⟩ : Cond) ∈ g_G := g_in 189 (by decide +kernel) rfl
theorem gw_191 : (.methodLink "HundredGongs$Foretelling" 3 ⟨"java/lang/Object", "<init>", "()V"⟩ : Cond) ∈ g_G := g_in 191 (by decide +kernel) rfl
theorem gw_192 : (.classLink "HundredGongs$Foretelling" 9 "HundredGongs$Cloister" : Cond) ∈ g_G := g_in 192 (by decide +kernel) rfl
theorem gw_193 : (.methodLink "HundredGongs$Foretelling" 11 ⟨"HundredGongs$Cloister", "<init>", "()V"⟩ : Cond) ∈ g_G := g_in 193 (by decide +kernel) rfl
theorem gw_194 : (.classLink "HundredGongs$Foretelling" 18 "HundredGongs$Way" : Cond) ∈ g_G := g_in 194 (by decide +kernel) rfl
theorem gw_197 : (.instanceMethod ⟨"HundredGongs$Way", "<init>", "()V"⟩ : Cond) ∈ g_G := g_in 197 (by decide +kernel) rfl
theorem gw_199 : (.methodLink "HundredGongs$Way" 3 ⟨"java/lang/Object", "<init>", "()V"⟩ : Cond) ∈ g_G := g_in 199 (by decide +kernel) rfl
theorem gw_200 : (.fieldLink "HundredGongs$Way" 9 "HundredGongs$Way" "minutes" "I" : Cond) ∈ g_G := g_in 200 (by decide +kernel) rfl
theorem gw_201 : (.fieldLink "HundredGongs$Foretelling" 46 "HundredGongs$Way" "minutes" "I" : Cond) ∈ g_G := g_in 201 (by decide +kernel) rfl
theorem gw_202 : (.fieldLink "HundredGongs$Way" 15 "HundredGongs$Way" "doubters" "I" : Cond) ∈ g_G := g_in 202 (by decide +kernel) rfl
theorem gw_203 : (.fieldLink "HundredGongs$Foretelling" 43 "HundredGongs$Way" "doubters" "I" : Cond) ∈ g_G := g_in 203 (by decide +kernel) rfl
theorem gw_204 : (.fieldLink "HundredGongs$Way" 18 "HundredGongs$Way" "monks" "I" : Cond) ∈ g_G := g_in 204 (by decide +kernel) rfl
theorem gw_205 : (.fieldLink "HundredGongs$Foretelling" 71 "HundredGongs$Way" "monks" "I" : Cond) ∈ g_G := g_in 205 (by decide +kernel) rfl
theorem gw_213 : (.fieldLink "HundredGongs$Foretelling" 12 "HundredGongs$Foretelling" "house" "LHundredGongs$Cloister;" : Cond) ∈ g_G := g_in 213 (by decide +kernel) rfl
theorem gw_214 : (.fieldLink "HundredGongs$Foretelling" 21 "HundredGongs$Foretelling" "way" "LHundredGongs$Way;" : Cond) ∈ g_G := g_in 214 (by decide +kernel) rfl
theorem gw_215 : (.fieldLink "HundredGongs$Foretelling" 25 "HundredGongs$Foretelling" "ring" "LHundredGongs$Way;" : Cond) ∈ g_G := g_in 215 (by decide +kernel) rfl
theorem gw_216 : (.fieldLink "HundredGongs$Foretelling" 32 "HundredGongs$Foretelling" "weather" "I" : Cond) ∈ g_G := g_in 216 (by decide +kernel) rfl
theorem gw_217 : (.fieldLink "HundredGongs$Foretelling" 36 "HundredGongs$Foretelling" "sleeper" "I" : Cond) ∈ g_G := g_in 217 (by decide +kernel) rfl
theorem gw_218 : (.fieldLink "HundredGongs" 205 "HundredGongs$Foretelling" "sleeper" "I" : Cond) ∈ g_G := g_in 218 (by decide +kernel) rfl
theorem gw_219 : (.fieldLink "HundredGongs$Foretelling" 105 "HundredGongs$Foretelling" "bestValue" "I" : Cond) ∈ g_G := g_in 219 (by decide +kernel) rfl
theorem gw_220 : (.fieldLink "HundredGongs" 170 "HundredGongs$Foretelling" "bestValue" "I" : Cond) ∈ g_G := g_in 220 (by decide +kernel) rfl
theorem gw_221 : (.fieldLink "HundredGongs$Foretelling" 108 "HundredGongs$Foretelling" "bestGong" "I" : Cond) ∈ g_G := g_in 221 (by decide +kernel) rfl
theorem gw_222 : (.fieldLink "HundredGongs" 173 "HundredGongs$Foretelling" "bestGong" "I" : Cond) ∈ g_G := g_in 222 (by decide +kernel) rfl
theorem gw_223 : (.fieldLink "HundredGongs$Foretelling" 111 "HundredGongs$Foretelling" "bestOther" "I" : Cond) ∈ g_G := g_in 223 (by decide +kernel) rfl
theorem gw_224 : (.fieldLink "HundredGongs" 176 "HundredGongs$Foretelling" "bestOther" "I" : Cond) ∈ g_G := g_in 224 (by decide +kernel) rfl
theorem gw_242 : (.fieldLink "HundredGongs" 12 "HundredGongs" "text" "LHundredGongs$Text;" : Cond) ∈ g_G := g_in 242 (by decide +kernel) rfl
theorem gw_243 : (.fieldLink "HundredGongs" 19 "HundredGongs" "house" "LHundredGongs$Cloister;" : Cond) ∈ g_G := g_in 243 (by decide +kernel) rfl
theorem gw_244 : (.fieldLink "HundredGongs" 23 "HundredGongs" "draft" "LHundredGongs$Cloister;" : Cond) ∈ g_G := g_in 244 (by decide +kernel) rfl
theorem gw_245 : (.fieldLink "HundredGongs" 29 "HundredGongs" "morning" "LHundredGongs$Morning;" : Cond) ∈ g_G := g_in 245 (by decide +kernel) rfl
theorem gw_246 : (.fieldLink "HundredGongs" 33 "HundredGongs" "kept" "[LHundredGongs$Morning;" : Cond) ∈ g_G := g_in 246 (by decide +kernel) rfl
theorem gw_247 : (.fieldLink "HundredGongs" 37 "HundredGongs" "isKept" "[Z" : Cond) ∈ g_G := g_in 247 (by decide +kernel) rfl
theorem gw_248 : (.fieldLink "HundredGongs" 44 "HundredGongs" "sightings" "LHundredGongs$Sightings;" : Cond) ∈ g_G := g_in 248 (by decide +kernel) rfl
theorem gw_249 : (.fieldLink "HundredGongs" 51 "HundredGongs" "foretelling" "LHundredGongs$Foretelling;" : Cond) ∈ g_G := g_in 249 (by decide +kernel) rfl
theorem gw_267 : (.methodLink "HundredGongsLaw" 15 ⟨"HundredGongs", "write", "(JI)I"⟩ : Cond) ∈ g_G := g_in 267 (by decide +kernel) rfl
theorem gw_268 : (.instanceMethod ⟨"HundredGongs", "write", "(JI)I"⟩ : Cond) ∈ g_G := g_in 268 (by decide +kernel) rfl
theorem gw_269 : (.selects "HundredGongs" ⟨"HundredGongs", "write", "(JI)I"⟩ ⟨"HundredGongs", "write", "(JI)I"⟩ : Cond) ∈ g_G := g_in 269 (by decide +kernel) rfl
theorem gw_271 : (.constantLong "HundredGongs" 59 (255 : Int64) : Cond) ∈ g_G := g_in 271 (by decide +kernel) rfl
theorem gw_272 : (.methodLink "HundredGongs" 61 ⟨"HundredGongs$Text", "append", "(I)V"⟩ : Cond) ∈ g_G := g_in 272 (by decide +kernel) rfl
theorem gw_273 : (.instanceMethod ⟨"HundredGongs$Text", "append", "(I)V"⟩ : Cond) ∈ g_G := g_in 273 (by decide +kernel) rfl
theorem gw_274 : (.selects "HundredGongs$Text" ⟨"HundredGongs$Text", "append", "(I)V"⟩ ⟨"HundredGongs$Text", "append", "(I)V"⟩ : Cond) ∈ g_G := g_in 274 (by decide +kernel) rfl
theorem gw_276 : (.methodLink "HundredGongsLaw" 20 ⟨"HundredGongs", "erase", "()I"⟩ : Cond) ∈ g_G := g_in 276 (by decide +kernel) rfl
theorem gw_277 : (.instanceMethod ⟨"HundredGongs", "erase", "()I"⟩ : Cond) ∈ g_G := g_in 277 (by decide +kernel) rfl
theorem gw_278 : (.selects "HundredGongs" ⟨"HundredGongs", "erase", "()I"⟩ ⟨"HundredGongs", "erase", "()I"⟩ : Cond) ∈ g_G := g_in 278 (by decide +kernel) rfl
theorem gw_280 : (.methodLink "HundredGongsLaw" 25 ⟨"HundredGongs", "fault", "()I"⟩ : Cond) ∈ g_G := g_in 280 (by decide +kernel) rfl
theorem gw_281 : (.instanceMethod ⟨"HundredGongs", "fault", "()I"⟩ : Cond) ∈ g_G := g_in 281 (by decide +kernel) rfl
theorem gw_282 : (.selects "HundredGongs" ⟨"HundredGongs", "fault", "()I"⟩ ⟨"HundredGongs", "fault", "()I"⟩ : Cond) ∈ g_G := g_in 282 (by decide +kernel) rfl
theorem gw_284 : (.methodLink "HundredGongs" 65 ⟨"HundredGongs$Cloister", "copyFrom", "(LHundredGongs$Cloister;)V"⟩ : Cond) ∈ g_G := g_in 284 (by decide +kernel) rfl
theorem gw_285 : (.instanceMethod ⟨"HundredGongs$Cloister", "copyFrom", "(LHundredGongs$Cloister;)V"⟩ : Cond) ∈ g_G := g_in 285 (by decide +kernel) rfl
theorem gw_286 : (.selects "HundredGongs$Cloister" ⟨"HundredGongs$Cloister", "copyFrom", "(LHundredGongs$Cloister;)V"⟩ ⟨"HundredGongs$Cloister", "copyFrom", "(LHundredGongs$Cloister;)V"⟩ : Cond) ∈ g_G := g_in 286 (by decide +kernel) rfl
theorem gw_288 : (.methodLink "HundredGongs$Cloister" 41 ⟨"java/lang/System", "arraycopy", "(Ljava/lang/Object;ILjava/lang/Object;II)V"⟩ : Cond) ∈ g_G := g_in 288 (by decide +kernel) rfl
theorem gw_289 : (.static ⟨"java/lang/System", "arraycopy", "(Ljava/lang/Object;ILjava/lang/Object;II)V"⟩ : Cond) ∈ g_G := g_in 289 (by decide +kernel) rfl
theorem gw_290 : (.native ⟨"java/lang/System", "arraycopy", "(Ljava/lang/Object;ILjava/lang/Object;II)V"⟩ : Cond) ∈ g_G := g_in 290 (by decide +kernel) rfl
theorem gw_291 : (.methodLink "HundredGongs" 69 ⟨"HundredGongs$Text", "readOnto", "(LHundredGongs$Cloister;)I"⟩ : Cond) ∈ g_G := g_in 291 (by decide +kernel) rfl
theorem gw_292 : (.instanceMethod ⟨"HundredGongs$Text", "readOnto", "(LHundredGongs$Cloister;)I"⟩ : Cond) ∈ g_G := g_in 292 (by decide +kernel) rfl
theorem gw_293 : (.selects "HundredGongs$Text" ⟨"HundredGongs$Text", "readOnto", "(LHundredGongs$Cloister;)I"⟩ ⟨"HundredGongs$Text", "readOnto", "(LHundredGongs$Cloister;)I"⟩ : Cond) ∈ g_G := g_in 293 (by decide +kernel) rfl
theorem gw_295 : (.methodLink "HundredGongs$Text" 25 ⟨"HundredGongs$Text", "readLine", "(LHundredGongs$Cloister;)Z"⟩ : Cond) ∈ g_G := g_in 295 (by decide +kernel) rfl
theorem gw_297 : (.instanceMethod ⟨"HundredGongs$Text", "readLine", "(LHundredGongs$Cloister;)Z"⟩ : Cond) ∈ g_G := g_in 297 (by decide +kernel) rfl
theorem gw_299 : (.methodLink "HundredGongs$Text" 32 ⟨"HundredGongs$Text", "nextToken", "()V"⟩ : Cond) ∈ g_G := g_in 299 (by decide +kernel) rfl
theorem gw_301 : (.instanceMethod ⟨"HundredGongs$Text", "nextToken", "()V"⟩ : Cond) ∈ g_G := g_in 301 (by decide +kernel) rfl
theorem gw_303 : (.methodLink "HundredGongs$Text" 35 ⟨"HundredGongs$Text", "byteAt", "(I)I"⟩ : Cond) ∈ g_G := g_in 303 (by decide +kernel) rfl
theorem gw_305 : (.instanceMethod ⟨"HundredGongs$Text", "byteAt", "(I)I"⟩ : Cond) ∈ g_G := g_in 305 (by decide +kernel) rfl
theorem gw_307 : (.methodLink "HundredGongs$Text" 87 ⟨"HundredGongs$Text", "isLetter", "(I)Z"⟩ : Cond) ∈ g_G := g_in 307 (by decide +kernel) rfl
theorem gw_308 : (.static ⟨"HundredGongs$Text", "isLetter", "(I)Z"⟩ : Cond) ∈ g_G := g_in 308 (by decide +kernel) rfl
theorem gw_310 : (.methodLink "HundredGongs$Text" 91 ⟨"HundredGongs$Text", "isDigit", "(I)Z"⟩ : Cond) ∈ g_G := g_in 310 (by decide +kernel) rfl
theorem gw_311 : (.static ⟨"HundredGongs$Text", "isDigit", "(I)Z"⟩ : Cond) ∈ g_G := g_in 311 (by decide +kernel) rfl
theorem gw_313 : (.methodLink "HundredGongs$Text" 39 ⟨"HundredGongs$Text", "wordHere", "()I"⟩ : Cond) ∈ g_G := g_in 313 (by decide +kernel) rfl
theorem gw_315 : (.instanceMethod ⟨"HundredGongs$Text", "wordHere", "()I"⟩ : Cond) ∈ g_G := g_in 315 (by decide +kernel) rfl
theorem gw_317 : (.methodLink "HundredGongs$Text" 94 ⟨"HundredGongs$Text", "wordAt", "(I)Ljava/lang/String;"⟩ : Cond) ∈ g_G := g_in 317 (by decide +kernel) rfl
theorem gw_318 : (.static ⟨"HundredGongs$Text", "wordAt", "(I)Ljava/lang/String;"⟩ : Cond) ∈ g_G := g_in 318 (by decide +kernel) rfl
theorem gw_330 : (.methodLink "HundredGongs$Text" 98 ⟨"HundredGongs$Text", "tokenIs", "(Ljava/lang/String;)Z"⟩ : Cond) ∈ g_G := g_in 330 (by decide +kernel) rfl
theorem gw_332 : (.instanceMethod ⟨"HundredGongs$Text", "tokenIs", "(Ljava/lang/String;)Z"⟩ : Cond) ∈ g_G := g_in 332 (by decide +kernel) rfl
theorem gw_334 : (.methodLink "HundredGongs$Text" 102 ⟨"java/lang/String", "length", "()I"⟩ : Cond) ∈ g_G := g_in 334 (by decide +kernel) rfl
theorem gw_335 : (.instanceMethod ⟨"java/lang/String", "length", "()I"⟩ : Cond) ∈ g_G := g_in 335 (by decide +kernel) rfl
theorem gw_336 : (.selects "java/lang/String" ⟨"java/lang/String", "length", "()I"⟩ ⟨"java/lang/String", "length", "()I"⟩ : Cond) ∈ g_G := g_in 336 (by decide +kernel) rfl
theorem gw_338 : (.methodLink "java/lang/String" 335 ⟨"java/lang/String", "coder", "()B"⟩ : Cond) ∈ g_G := g_in 338 (by decide +kernel) rfl
theorem gw_339 : (.instanceMethod ⟨"java/lang/String", "coder", "()B"⟩ : Cond) ∈ g_G := g_in 339 (by decide +kernel) rfl
theorem gw_340 : (.selects "java/lang/String" ⟨"java/lang/String", "coder", "()B"⟩ ⟨"java/lang/String", "coder", "()B"⟩ : Cond) ∈ g_G := g_in 340 (by decide +kernel) rfl
theorem gw_342 : (.fieldLink "java/lang/String" 38 "java/lang/String" "COMPACT_STRINGS" "Z" : Cond) ∈ g_G := g_in 342 (by decide +kernel) rfl
theorem gw_344 : (.methodLink "HundredGongs$Text" 106 ⟨"java/lang/String", "charAt", "(I)C"⟩ : Cond) ∈ g_G := g_in 344 (by decide +kernel) rfl
theorem gw_345 : (.instanceMethod ⟨"java/lang/String", "charAt", "(I)C"⟩ : Cond) ∈ g_G := g_in 345 (by decide +kernel) rfl
theorem gw_346 : (.selects "java/lang/String" ⟨"java/lang/String", "charAt", "(I)C"⟩ ⟨"java/lang/String", "charAt", "(I)C"⟩ : Cond) ∈ g_G := g_in 346 (by decide +kernel) rfl
theorem gw_348 : (.methodLink "java/lang/String" 492 ⟨"java/lang/String", "isLatin1", "()Z"⟩ : Cond) ∈ g_G := g_in 348 (by decide +kernel) rfl
theorem gw_349 : (.instanceMethod ⟨"java/lang/String", "isLatin1", "()Z"⟩ : Cond) ∈ g_G := g_in 349 (by decide +kernel) rfl
theorem gw_350 : (.selects "java/lang/String" ⟨"java/lang/String", "isLatin1", "()Z"⟩ ⟨"java/lang/String", "isLatin1", "()Z"⟩ : Cond) ∈ g_G := g_in 350 (by decide +kernel) rfl
theorem gw_352 : (.methodLink "java/lang/String" 495 ⟨"java/lang/StringLatin1", "charAt", "([BI)C"⟩ : Cond) ∈ g_G := g_in 352 (by decide +kernel) rfl
theorem gw_353 : (.static ⟨"java/lang/StringLatin1", "charAt", "([BI)C"⟩ : Cond) ∈ g_G := g_in 353 (by decide +kernel) rfl
theorem gw_355 : (.methodLink "java/lang/StringLatin1" 9 ⟨"java/lang/String", "checkIndex", "(II)V"⟩ : Cond) ∈ g_G := g_in 355 (by decide +kernel) rfl
theorem gw_356 : (.static ⟨"java/lang/String", "checkIndex", "(II)V"⟩ : Cond) ∈ g_G := g_in 356 (by decide +kernel) rfl
theorem gw_358 : (.fieldLink "java/lang/String" 1053 "jdk/internal/util/Preconditions" "SIOOBE_FORMATTER" "Ljava/util/function/BiFunction;" : Cond) ∈ g_G := g_in 358 (by decide +kernel) rfl
theorem gw_360 : (.methodLink "java/lang/String" 1059 ⟨"jdk/internal/util/Preconditions", "checkIndex", "(IILjava/util/function/BiFunction;)I"⟩ : Cond) ∈ g_G := g_in 360 (by decide +kernel) rfl
theorem gw_361 : (.static ⟨"jdk/internal/util/Preconditions", "checkIndex", "(IILjava/util/function/BiFunction;)I"⟩ : Cond) ∈ g_G := g_in 361 (by decide +kernel) rfl
theorem gw_382 : (.methodLink "HundredGongs$Text" 48 ⟨"HundredGongs$Text", "readMonk", "(LHundredGongs$Cloister;I)Z"⟩ : Cond) ∈ g_G := g_in 382 (by decide +kernel) rfl
theorem gw_384 : (.instanceMethod ⟨"HundredGongs$Text", "readMonk", "(LHundredGongs$Cloister;I)Z"⟩ : Cond) ∈ g_G := g_in 384 (by decide +kernel) rfl
theorem gw_386 : (.methodLink "HundredGongs$Text" 61 ⟨"HundredGongs$Text", "nextNumber", "(II)Z"⟩ : Cond) ∈ g_G := g_in 386 (by decide +kernel) rfl
theorem gw_388 : (.instanceMethod ⟨"HundredGongs$Text", "nextNumber", "(II)Z"⟩ : Cond) ∈ g_G := g_in 388 (by decide +kernel) rfl
theorem gw_390 : (.methodLink "HundredGongs$Text" 52 ⟨"HundredGongs$Text", "readCloister", "(LHundredGongs$Cloister;)Z"⟩ : Cond) ∈ g_G := g_in 390 (by decide +kernel) rfl
theorem gw_392 : (.instanceMethod ⟨"HundredGongs$Text", "readCloister", "(LHundredGongs$Cloister;)Z"⟩ : Cond) ∈ g_G := g_in 392 (by decide +kernel) rfl
theorem gw_394 : (.methodLink "HundredGongs$Text" 68 ⟨"HundredGongs$Cloister", "found", "(I)V"⟩ : Cond) ∈ g_G := g_in 394 (by decide +kernel) rfl
theorem gw_395 : (.methodLink "HundredGongs$Text" 55 ⟨"HundredGongs$Text", "readHears", "(LHundredGongs$Cloister;)Z"⟩ : Cond) ∈ g_G := g_in 395 (by decide +kernel) rfl
theorem gw_397 : (.instanceMethod ⟨"HundredGongs$Text", "readHears", "(LHundredGongs$Cloister;)Z"⟩ : Cond) ∈ g_G := g_in 397 (by decide +kernel) rfl
theorem gw_399 : (.methodLink "HundredGongs$Text" 58 ⟨"HundredGongs$Text", "readAlone", "(LHundredGongs$Cloister;)Z"⟩ : Cond) ∈ g_G := g_in 399 (by decide +kernel) rfl
theorem gw_401 : (.instanceMethod ⟨"HundredGongs$Text", "readAlone", "(LHundredGongs$Cloister;)Z"⟩ : Cond) ∈ g_G := g_in 401 (by decide +kernel) rfl
theorem gw_404 : (.methodLink "HundredGongsLaw" 29 ⟨"HundredGongs", "cloister", "()I"⟩ : Cond) ∈ g_G := g_in 404 (by decide +kernel) rfl
theorem gw_405 : (.instanceMethod ⟨"HundredGongs", "cloister", "()I"⟩ : Cond) ∈ g_G := g_in 405 (by decide +kernel) rfl
theorem gw_406 : (.selects "HundredGongs" ⟨"HundredGongs", "cloister", "()I"⟩ ⟨"HundredGongs", "cloister", "()I"⟩ : Cond) ∈ g_G := g_in 406 (by decide +kernel) rfl
theorem gw_408 : (.methodLink "HundredGongs" 76 ⟨"HundredGongs$Morning", "begin", "(I)V"⟩ : Cond) ∈ g_G := g_in 408 (by decide +kernel) rfl
theorem gw_409 : (.instanceMethod ⟨"HundredGongs$Morning", "begin", "(I)V"⟩ : Cond) ∈ g_G := g_in 409 (by decide +kernel) rfl
theorem gw_410 : (.selects "HundredGongs$Morning" ⟨"HundredGongs$Morning", "begin", "(I)V"⟩ ⟨"HundredGongs$Morning", "begin", "(I)V"⟩ : Cond) ∈ g_G := g_in 410 (by decide +kernel) rfl
theorem gw_412 : (.methodLink "HundredGongsLaw" 33 ⟨"HundredGongs", "gong", "(II)I"⟩ : Cond) ∈ g_G := g_in 412 (by decide +kernel) rfl
theorem gw_413 : (.instanceMethod ⟨"HundredGongs", "gong", "(II)I"⟩ : Cond) ∈ g_G := g_in 413 (by decide +kernel) rfl
theorem gw_414 : (.selects "HundredGongs" ⟨"HundredGongs", "gong", "(II)I"⟩ ⟨"HundredGongs", "gong", "(II)I"⟩ : Cond) ∈ g_G := g_in 414 (by decide +kernel) rfl
theorem gw_416 : (.methodLink "HundredGongs" 85 ⟨"HundredGongs$Cloister", "has", "(I)Z"⟩ : Cond) ∈ g_G := g_in 416 (by decide +kernel) rfl
theorem gw_417 : (.instanceMethod ⟨"HundredGongs$Cloister", "has", "(I)Z"⟩ : Cond) ∈ g_G := g_in 417 (by decide +kernel) rfl
theorem gw_418 : (.selects "HundredGongs$Cloister" ⟨"HundredGongs$Cloister", "has", "(I)Z"⟩ ⟨"HundredGongs$Cloister", "has", "(I)Z"⟩ : Cond) ∈ g_G := g_in 418 (by decide +kernel) rfl
theorem gw_420 : (.methodLink "HundredGongs" 99 ⟨"HundredGongs$Cloister", "canHear", "(II)Z"⟩ : Cond) ∈ g_G := g_in 420 (by decide +kernel) rfl
theorem gw_421 : (.instanceMethod ⟨"HundredGongs$Cloister", "canHear", "(II)Z"⟩ : Cond) ∈ g_G := g_in 421 (by decide +kernel) rfl
theorem gw_422 : (.selects "HundredGongs$Cloister" ⟨"HundredGongs$Cloister", "canHear", "(II)Z"⟩ ⟨"HundredGongs$Cloister", "canHear", "(II)Z"⟩ : Cond) ∈ g_G := g_in 422 (by decide +kernel) rfl
theorem gw_424 : (.methodLink "HundredGongs" 106 ⟨"HundredGongs$Morning", "minutesToNext", "(I)I"⟩ : Cond) ∈ g_G := g_in 424 (by decide +kernel) rfl
theorem gw_425 : (.instanceMethod ⟨"HundredGongs$Morning", "minutesToNext", "(I)I"⟩ : Cond) ∈ g_G := g_in 425 (by decide +kernel) rfl
theorem gw_426 : (.selects "HundredGongs$Morning" ⟨"HundredGongs$Morning", "minutesToNext", "(I)I"⟩ ⟨"HundredGongs$Morning", "minutesToNext", "(I)I"⟩ : Cond) ∈ g_G := g_in 426 (by decide +kernel) rfl
theorem gw_428 : (.methodLink "HundredGongsLaw" 38 ⟨"HundredGongs", "monk", "(II)I"⟩ : Cond) ∈ g_G := g_in 428 (by decide +kernel) rfl
theorem gw_429 : (.instanceMethod ⟨"HundredGongs", "monk", "(II)I"⟩ : Cond) ∈ g_G := g_in 429 (by decide +kernel) rfl
theorem gw_430 : (.selects "HundredGongs" ⟨"HundredGongs", "monk", "(II)I"⟩ ⟨"HundredGongs", "monk", "(II)I"⟩ : Cond) ∈ g_G := g_in 430 (by decide +kernel) rfl
theorem gw_432 : (.methodLink "HundredGongs" 116 ⟨"HundredGongs$Cloister", "late", "(II)I"⟩ : Cond) ∈ g_G := g_in 432 (by decide +kernel) rfl
theorem gw_433 : (.instanceMethod ⟨"HundredGongs$Cloister", "late", "(II)I"⟩ : Cond) ∈ g_G := g_in 433 (by decide +kernel) rfl
theorem gw_434 : (.selects "HundredGongs$Cloister" ⟨"HundredGongs$Cloister", "late", "(II)I"⟩ ⟨"HundredGongs$Cloister", "late", "(II)I"⟩ : Cond) ∈ g_G := g_in 434 (by decide +kernel) rfl
theorem gw_436 : (.methodLink "HundredGongsLaw" 42 ⟨"HundredGongs", "as", "(II)I"⟩ : Cond) ∈ g_G := g_in 436 (by decide +kernel) rfl
theorem gw_437 : (.instanceMethod ⟨"HundredGongs", "as", "(II)I"⟩ : Cond) ∈ g_G := g_in 437 (by decide +kernel) rfl
theorem gw_438 : (.selects "HundredGongs" ⟨"HundredGongs", "as", "(II)I"⟩ ⟨"HundredGongs", "as", "(II)I"⟩ : Cond) ∈ g_G := g_in 438 (by decide +kernel) rfl
theorem gw_440 : (.fieldLink "HundredGongs" 123 "HundredGongs" "KIND_OVER" "[I" : Cond) ∈ g_G := g_in 440 (by decide +kernel) rfl
theorem gw_442 : (.methodLink "HundredGongs" 126 ⟨"HundredGongs", "isSuch", "(II)Z"⟩ : Cond) ∈ g_G := g_in 442 (by decide +kernel) rfl
theorem gw_443 : (.static ⟨"HundredGongs", "isSuch", "(II)Z"⟩ : Cond) ∈ g_G := g_in 443 (by decide +kernel) rfl
theorem gw_445 : (.methodLink "HundredGongsLaw" 46 ⟨"HundredGongs", "strike", "(I)I"⟩ : Cond) ∈ g_G := g_in 445 (by decide +kernel) rfl
theorem gw_446 : (.instanceMethod ⟨"HundredGongs", "strike", "(I)I"⟩ : Cond) ∈ g_G := g_in 446 (by decide +kernel) rfl
theorem gw_447 : (.selects "HundredGongs" ⟨"HundredGongs", "strike", "(I)I"⟩ ⟨"HundredGongs", "strike", "(I)I"⟩ : Cond) ∈ g_G := g_in 447 (by decide +kernel) rfl
theorem gw_449 : (.methodLink "HundredGongs" 129 ⟨"HundredGongs$Morning", "soundGong", "(LHundredGongs$Cloister;I)I"⟩ : Cond) ∈ g_G := g_in 449 (by decide +kernel) rfl
theorem gw_450 : (.instanceMethod ⟨"HundredGongs$Morning", "soundGong", "(LHundredGongs$Cloister;I)I"⟩ : Cond) ∈ g_G := g_in 450 (by decide +kernel) rfl
theorem gw_451 : (.selects "HundredGongs$Morning" ⟨"HundredGongs$Morning", "soundGong", "(LHundredGongs$Cloister;I)I"⟩ ⟨"HundredGongs$Morning", "soundGong", "(LHundredGongs$Cloister;I)I"⟩ : Cond) ∈ g_G := g_in 451 (by decide +kernel) rfl
theorem gw_453 : (.methodLink "HundredGongs$Morning" 38 ⟨"HundredGongs$Cloister", "canHear", "(II)Z"⟩ : Cond) ∈ g_G := g_in 453 (by decide +kernel) rfl
theorem gw_454 : (.methodLink "HundredGongs$Morning" 42 ⟨"HundredGongs$Morning", "heeds", "(LHundredGongs$Cloister;I)Z"⟩ : Cond) ∈ g_G := g_in 454 (by decide +kernel) rfl
theorem gw_456 : (.instanceMethod ⟨"HundredGongs$Morning", "heeds", "(LHundredGongs$Cloister;I)Z"⟩ : Cond) ∈ g_G := g_in 456 (by decide +kernel) rfl
theorem gw_458 : (.methodLink "HundredGongs$Morning" 46 ⟨"HundredGongs$Cloister", "late", "(II)I"⟩ : Cond) ∈ g_G := g_in 458 (by decide +kernel) rfl
theorem gw_459 : (.methodLink "HundredGongsLaw" 51 ⟨"HundredGongs", "go", "(I)I"⟩ : Cond) ∈ g_G := g_in 459 (by decide +kernel) rfl
theorem gw_460 : (.instanceMethod ⟨"HundredGongs", "go", "(I)I"⟩ : Cond) ∈ g_G := g_in 460 (by decide +kernel) rfl
theorem gw_461 : (.selects "HundredGongs" ⟨"HundredGongs", "go", "(I)I"⟩ ⟨"HundredGongs", "go", "(I)I"⟩ : Cond) ∈ g_G := g_in 461 (by decide +kernel) rfl
theorem gw_463 : (.constant "HundredGongs" 136 (99999 : Int32) : Cond) ∈ g_G := g_in 463 (by decide +kernel) rfl
theorem gw_464 : (.methodLink "HundredGongs" 137 ⟨"HundredGongs$Morning", "passMinute", "(LHundredGongs$Cloister;)I"⟩ : Cond) ∈ g_G := g_in 464 (by decide +kernel) rfl
theorem gw_465 : (.instanceMethod ⟨"HundredGongs$Morning", "passMinute", "(LHundredGongs$Cloister;)I"⟩ : Cond) ∈ g_G := g_in 465 (by decide +kernel) rfl
theorem gw_466 : (.selects "HundredGongs$Morning" ⟨"HundredGongs$Morning", "passMinute", "(LHundredGongs$Cloister;)I"⟩ ⟨"HundredGongs$Morning", "passMinute", "(LHundredGongs$Cloister;)I"⟩ : Cond) ∈ g_G := g_in 466 (by decide +kernel) rfl
theorem gw_468 : (.methodLink "HundredGongs$Morning" 53 ⟨"HundredGongs$Morning", "soundGong", "(LHundredGongs$Cloister;I)I"⟩ : Cond) ∈ g_G := g_in 468 (by decide +kernel) rfl
theorem gw_469 : (.methodLink "HundredGongs$Morning" 57 ⟨"java/lang/Integer", "bitCount", "(I)I"⟩ : Cond) ∈ g_G := g_in 469 (by decide +kernel) rfl
theorem gw_470 : (.static ⟨"java/lang/Integer", "bitCount", "(I)I"⟩ : Cond) ∈ g_G := g_in 470 (by decide +kernel) rfl
theorem gw_472 : (.constant "java/lang/Integer" 265 (1431655765 : Int32) : Cond) ∈ g_G := g_in 472 (by decide +kernel) rfl
theorem gw_473 : (.constant "java/lang/Integer" 266 (858993459 : Int32) : Cond) ∈ g_G := g_in 473 (by decide +kernel) rfl
theorem gw_474 : (.constant "java/lang/Integer" 267 (252645135 : Int32) : Cond) ∈ g_G := g_in 474 (by decide +kernel) rfl
theorem gw_475 : (.methodLink "HundredGongsLaw" 55 ⟨"HundredGongs", "turn", "(I)I"⟩ : Cond) ∈ g_G := g_in 475 (by decide +kernel) rfl
theorem gw_476 : (.instanceMethod ⟨"HundredGongs", "turn", "(I)I"⟩ : Cond) ∈ g_G := g_in 476 (by decide +kernel) rfl
theorem gw_477 : (.selects "HundredGongs" ⟨"HundredGongs", "turn", "(I)I"⟩ ⟨"HundredGongs", "turn", "(I)I"⟩ : Cond) ∈ g_G := g_in 477 (by decide +kernel) rfl
theorem gw_479 : (.methodLink "HundredGongsLaw" 59 ⟨"HundredGongs", "keep", "(I)I"⟩ : Cond) ∈ g_G := g_in 479 (by decide +kernel) rfl
theorem gw_480 : (.instanceMethod ⟨"HundredGongs", "keep", "(I)I"⟩ : Cond) ∈ g_G := g_in 480 (by decide +kernel) rfl
theorem gw_481 : (.selects "HundredGongs" ⟨"HundredGongs", "keep", "(I)I"⟩ ⟨"HundredGongs", "keep", "(I)I"⟩ : Cond) ∈ g_G := g_in 481 (by decide +kernel) rfl
theorem gw_483 : (.methodLink "HundredGongs" 140 ⟨"HundredGongs$Morning", "copyFrom", "(LHundredGongs$Morning;)V"⟩ : Cond) ∈ g_G := g_in 483 (by decide +kernel) rfl
theorem gw_484 : (.instanceMethod ⟨"HundredGongs$Morning", "copyFrom", "(LHundredGongs$Morning;)V"⟩ : Cond) ∈ g_G := g_in 484 (by decide +kernel) rfl
theorem gw_485 : (.selects "HundredGongs$Morning" ⟨"HundredGongs$Morning", "copyFrom", "(LHundredGongs$Morning;)V"⟩ ⟨"HundredGongs$Morning", "copyFrom", "(LHundredGongs$Morning;)V"⟩ : Cond) ∈ g_G := g_in 485 (by decide +kernel) rfl
theorem gw_487 : (.methodLink "HundredGongsLaw" 63 ⟨"HundredGongs", "back", "(I)I"⟩ : Cond) ∈ g_G := g_in 487 (by decide +kernel) rfl
theorem gw_488 : (.instanceMethod ⟨"HundredGongs", "back", "(I)I"⟩ : Cond) ∈ g_G := g_in 488 (by decide +kernel) rfl
theorem gw_489 : (.selects "HundredGongs" ⟨"HundredGongs", "back", "(I)I"⟩ ⟨"HundredGongs", "back", "(I)I"⟩ : Cond) ∈ g_G := g_in 489 (by decide +kernel) rfl
theorem gw_491 : (.methodLink "HundredGongsLaw" 67 ⟨"HundredGongs", "first", "(II)I"⟩ : Cond) ∈ g_G := g_in 491 (by decide +kernel) rfl
theorem gw_492 : (.instanceMethod ⟨"HundredGongs", "first", "(II)I"⟩ : Cond) ∈ g_G := g_in 492 (by decide +kernel) rfl
theorem gw_493 : (.selects "HundredGongs" ⟨"HundredGongs", "first", "(II)I"⟩ ⟨"HundredGongs", "first", "(II)I"⟩ : Cond) ∈ g_G := g_in 493 (by decide +kernel) rfl
theorem gw_495 : (.methodLink "HundredGongs" 143 ⟨"HundredGongs", "foretold", "()LHundredGongs$Foretelling;"⟩ : Cond) ∈ g_G := g_in 495 (by decide +kernel) rfl
theorem gw_497 : (.instanceMethod ⟨"HundredGongs", "foretold", "()LHundredGongs$Foretelling;"⟩ : Cond) ∈ g_G := g_in 497 (by decide +kernel) rfl
theorem gw_499 : (.methodLink "HundredGongs" 192 ⟨"HundredGongs$Foretelling", "suppose", "(LHundredGongs$Cloister;I)V"⟩ : Cond) ∈ g_G := g_in 499 (by decide +kernel) rfl
theorem gw_500 : (.instanceMethod ⟨"HundredGongs$Foretelling", "suppose", "(LHundredGongs$Cloister;I)V"⟩ : Cond) ∈ g_G := g_in 500 (by decide +kernel) rfl
theorem gw_501 : (.selects "HundredGongs$Foretelling" ⟨"HundredGongs$Foretelling", "suppose", "(LHundredGongs$Cloister;I)V"⟩ ⟨"HundredGongs$Foretelling", "suppose", "(LHundredGongs$Cloister;I)V"⟩ : Cond) ∈ g_G := g_in 501 (by decide +kernel) rfl
theorem gw_503 : (.methodLink "HundredGongs$Foretelling" 28 ⟨"HundredGongs$Cloister", "copyFrom", "(LHundredGongs$Cloister;)V"⟩ : Cond) ∈ g_G := g_in 503 (by decide +kernel) rfl
theorem gw_504 : (.methodLink "HundredGongs" 147 ⟨"HundredGongs$Foretelling", "minutesTo", "(II)I"⟩ : Cond) ∈ g_G := g_in 504 (by decide +kernel) rfl
theorem gw_505 : (.instanceMethod ⟨"HundredGongs$Foretelling", "minutesTo", "(II)I"⟩ : Cond) ∈ g_G := g_in 505 (by decide +kernel) rfl
theorem gw_506 : (.selects "HundredGongs$Foretelling" ⟨"HundredGongs$Foretelling", "minutesTo", "(II)I"⟩ ⟨"HundredGongs$Foretelling", "minutesTo", "(II)I"⟩ : Cond) ∈ g_G := g_in 506 (by decide +kernel) rfl
theorem gw_508 : (.methodLink "HundredGongs$Foretelling" 39 ⟨"HundredGongs$Way", "trace", "(LHundredGongs$Cloister;IIII)Z"⟩ : Cond) ∈ g_G := g_in 508 (by decide +kernel) rfl
theorem gw_509 : (.instanceMethod ⟨"HundredGongs$Way", "trace", "(LHundredGongs$Cloister;IIII)Z"⟩ : Cond) ∈ g_G := g_in 509 (by decide +kernel) rfl
theorem gw_510 : (.selects "HundredGongs$Way" ⟨"HundredGongs$Way", "trace", "(LHundredGongs$Cloister;IIII)Z"⟩ ⟨"HundredGongs$Way", "trace", "(LHundredGongs$Cloister;IIII)Z"⟩ : Cond) ∈ g_G := g_in 510 (by decide +kernel) rfl
theorem gw_512 : (.methodLink "HundredGongs$Way" 21 ⟨"HundredGongs$Cloister", "canHear", "(II)Z"⟩ : Cond) ∈ g_G := g_in 512 (by decide +kernel) rfl
theorem gw_513 : (.methodLink "HundredGongs$Way" 27 ⟨"HundredGongs$Cloister", "late", "(II)I"⟩ : Cond) ∈ g_G := g_in 513 (by decide +kernel) rfl
theorem gw_514 : (.methodLink "HundredGongs$Foretelling" 49 ⟨"HundredGongs$Foretelling", "roundMinutes", "(I)I"⟩ : Cond) ∈ g_G := g_in 514 (by decide +kernel) rfl
theorem gw_515 : (.instanceMethod ⟨"HundredGongs$Foretelling", "roundMinutes", "(I)I"⟩ : Cond) ∈ g_G := g_in 515 (by decide +kernel) rfl
theorem gw_516 : (.selects "HundredGongs$Foretelling" ⟨"HundredGongs$Foretelling", "roundMinutes", "(I)I"⟩ ⟨"HundredGongs$Foretelling", "roundMinutes", "(I)I"⟩ : Cond) ∈ g_G := g_in 516 (by decide +kernel) rfl
theorem gw_518 : (.methodLink "HundredGongsLaw" 71 ⟨"HundredGongs", "who", "(I)I"⟩ : Cond) ∈ g_G := g_in 518 (by decide +kernel) rfl
theorem gw_519 : (.instanceMethod ⟨"HundredGongs", "who", "(I)I"⟩ : Cond) ∈ g_G := g_in 519 (by decide +kernel) rfl
theorem gw_520 : (.selects "HundredGongs" ⟨"HundredGongs", "who", "(I)I"⟩ ⟨"HundredGongs", "who", "(I)I"⟩ : Cond) ∈ g_G := g_in 520 (by decide +kernel) rfl
theorem gw_522 : (.methodLink "HundredGongs" 150 ⟨"HundredGongs$Foretelling", "strikers", "(I)I"⟩ : Cond) ∈ g_G := g_in 522 (by decide +kernel) rfl
theorem gw_523 : (.instanceMethod ⟨"HundredGongs$Foretelling", "strikers", "(I)I"⟩ : Cond) ∈ g_G := g_in 523 (by decide +kernel) rfl
theorem gw_524 : (.selects "HundredGongs$Foretelling" ⟨"HundredGongs$Foretelling", "strikers", "(I)I"⟩ ⟨"HundredGongs$Foretelling", "strikers", "(I)I"⟩ : Cond) ∈ g_G := g_in 524 (by decide +kernel) rfl
theorem gw_526 : (.methodLink "HundredGongs$Foretelling" 56 ⟨"HundredGongs$Foretelling", "minutesTo", "(II)I"⟩ : Cond) ∈ g_G := g_in 526 (by decide +kernel) rfl
theorem gw_527 : (.methodLink "HundredGongsLaw" 75 ⟨"HundredGongs", "ends", "(I)I"⟩ : Cond) ∈ g_G := g_in 527 (by decide +kernel) rfl
theorem gw_528 : (.instanceMethod ⟨"HundredGongs", "ends", "(I)I"⟩ : Cond) ∈ g_G := g_in 528 (by decide +kernel) rfl
theorem gw_529 : (.selects "HundredGongs" ⟨"HundredGongs", "ends", "(I)I"⟩ ⟨"HundredGongs", "ends", "(I)I"⟩ : Cond) ∈ g_G := g_in 529 (by decide +kernel) rfl
theorem gw_531 : (.methodLink "HundredGongs" 153 ⟨"HundredGongs$Foretelling", "lastMinute", "(I)I"⟩ : Cond) ∈ g_G := g_in 531 (by decide +kernel) rfl
theorem gw_532 : (.instanceMethod ⟨"HundredGongs$Foretelling", "lastMinute", "(I)I"⟩ : Cond) ∈ g_G := g_in 532 (by decide +kernel) rfl
theorem gw_533 : (.selects "HundredGongs$Foretelling" ⟨"HundredGongs$Foretelling", "lastMinute", "(I)I"⟩ ⟨"HundredGongs$Foretelling", "lastMinute", "(I)I"⟩ : Cond) ∈ g_G := g_in 533 (by decide +kernel) rfl
theorem gw_535 : (.methodLink "HundredGongs$Foretelling" 60 ⟨"java/lang/Math", "max", "(II)I"⟩ : Cond) ∈ g_G := g_in 535 (by decide +kernel) rfl
theorem gw_536 : (.static ⟨"java/lang/Math", "max", "(II)I"⟩ : Cond) ∈ g_G := g_in 536 (by decide +kernel) rfl
theorem gw_538 : (.methodLink "HundredGongsLaw" 79 ⟨"HundredGongs", "round", "(I)I"⟩ : Cond) ∈ g_G := g_in 538 (by decide +kernel) rfl
theorem gw_539 : (.instanceMethod ⟨"HundredGongs", "round", "(I)I"⟩ : Cond) ∈ g_G := g_in 539 (by decide +kernel) rfl
theorem gw_540 : (.selects "HundredGongs" ⟨"HundredGongs", "round", "(I)I"⟩ ⟨"HundredGongs", "round", "(I)I"⟩ : Cond) ∈ g_G := g_in 540 (by decide +kernel) rfl
theorem gw_542 : (.methodLink "HundredGongs" 156 ⟨"HundredGongs$Foretelling", "roundMinutes", "(I)I"⟩ : Cond) ∈ g_G := g_in 542 (by decide +kernel) rfl
theorem gw_543 : (.methodLink "HundredGongsLaw" 83 ⟨"HundredGongs", "times", "(III)I"⟩ : Cond) ∈ g_G := g_in 543 (by decide +kernel) rfl
theorem gw_544 : (.instanceMethod ⟨"HundredGongs", "times", "(III)I"⟩ : Cond) ∈ g_G := g_in 544 (by decide +kernel) rfl
theorem gw_545 : (.selects "HundredGongs" ⟨"HundredGongs", "times", "(III)I"⟩ ⟨"HundredGongs", "times", "(III)I"⟩ : Cond) ∈ g_G := g_in 545 (by decide +kernel) rfl
theorem gw_547 : (.methodLink "HundredGongs" 159 ⟨"HundredGongs$Foretelling", "strokes", "(III)I"⟩ : Cond) ∈ g_G := g_in 547 (by decide +kernel) rfl
theorem gw_548 : (.instanceMethod ⟨"HundredGongs$Foretelling", "strokes", "(III)I"⟩ : Cond) ∈ g_G := g_in 548 (by decide +kernel) rfl
theorem gw_549 : (.selects "HundredGongs$Foretelling" ⟨"HundredGongs$Foretelling", "strokes", "(III)I"⟩ ⟨"HundredGongs$Foretelling", "strokes", "(III)I"⟩ : Cond) ∈ g_G := g_in 549 (by decide +kernel) rfl
theorem gw_551 : (.methodLink "HundredGongs$Foretelling" 65 ⟨"HundredGongs$Foretelling", "strokesInRing", "(II)I"⟩ : Cond) ∈ g_G := g_in 551 (by decide +kernel) rfl
theorem gw_552 : (.static ⟨"HundredGongs$Foretelling", "strokesInRing", "(II)I"⟩ : Cond) ∈ g_G := g_in 552 (by decide +kernel) rfl
theorem gw_554 : (.methodLink "HundredGongsLaw" 88 ⟨"HundredGongs", "apart", "(III)I"⟩ : Cond) ∈ g_G := g_in 554 (by decide +kernel) rfl
theorem gw_555 : (.instanceMethod ⟨"HundredGongs", "apart", "(III)I"⟩ : Cond) ∈ g_G := g_in 555 (by decide +kernel) rfl
theorem gw_556 : (.selects "HundredGongs" ⟨"HundredGongs", "apart", "(III)I"⟩ ⟨"HundredGongs", "apart", "(III)I"⟩ : Cond) ∈ g_G := g_in 556 (by decide +kernel) rfl
theorem gw_558 : (.methodLink "HundredGongs" 163 ⟨"HundredGongs$Foretelling", "minutesBetween", "(III)I"⟩ : Cond) ∈ g_G := g_in 558 (by decide +kernel) rfl
theorem gw_559 : (.instanceMethod ⟨"HundredGongs$Foretelling", "minutesBetween", "(III)I"⟩ : Cond) ∈ g_G := g_in 559 (by decide +kernel) rfl
theorem gw_560 : (.selects "HundredGongs$Foretelling" ⟨"HundredGongs$Foretelling", "minutesBetween", "(III)I"⟩ ⟨"HundredGongs$Foretelling", "minutesBetween", "(III)I"⟩ : Cond) ∈ g_G := g_in 560 (by decide +kernel) rfl
theorem gw_562 : (.methodLink "HundredGongs$Foretelling" 68 ⟨"java/lang/Math", "abs", "(I)I"⟩ : Cond) ∈ g_G := g_in 562 (by decide +kernel) rfl
theorem gw_563 : (.static ⟨"java/lang/Math", "abs", "(I)I"⟩ : Cond) ∈ g_G := g_in 563 (by decide +kernel) rfl
theorem gw_565 : (.methodLink "HundredGongsLaw" 92 ⟨"HundredGongs", "change", "(IIII)I"⟩ : Cond) ∈ g_G := g_in 565 (by decide +kernel) rfl
theorem gw_566 : (.instanceMethod ⟨"HundredGongs", "change", "(IIII)I"⟩ : Cond) ∈ g_G := g_in 566 (by decide +kernel) rfl
theorem gw_567 : (.selects "HundredGongs" ⟨"HundredGongs", "change", "(IIII)I"⟩ ⟨"HundredGongs", "change", "(IIII)I"⟩ : Cond) ∈ g_G := g_in 567 (by decide +kernel) rfl
theorem gw_569 : (.methodLink "HundredGongs" 166 ⟨"HundredGongs$Foretelling", "seekChange", "(III)V"⟩ : Cond) ∈ g_G := g_in 569 (by decide +kernel) rfl
theorem gw_570 : (.instanceMethod ⟨"HundredGongs$Foretelling", "seekChange", "(III)V"⟩ : Cond) ∈ g_G := g_in 570 (by decide +kernel) rfl
theorem gw_571 : (.selects "HundredGongs$Foretelling" ⟨"HundredGongs$Foretelling", "seekChange", "(III)V"⟩ ⟨"HundredGongs$Foretelling", "seekChange", "(III)V"⟩ : Cond) ∈ g_G := g_in 571 (by decide +kernel) rfl
theorem gw_573 : (.methodLink "HundredGongs$Foretelling" 74 ⟨"HundredGongs$Foretelling", "forgetBest", "()V"⟩ : Cond) ∈ g_G := g_in 573 (by decide +kernel) rfl
theorem gw_575 : (.instanceMethod ⟨"HundredGongs$Foretelling", "forgetBest", "()V"⟩ : Cond) ∈ g_G := g_in 575 (by decide +kernel) rfl
theorem gw_577 : (.methodLink "HundredGongs$Foretelling" 85 ⟨"HundredGongs$Foretelling", "setBest", "(III)V"⟩ : Cond) ∈ g_G := g_in 577 (by decide +kernel) rfl
theorem gw_579 : (.instanceMethod ⟨"HundredGongs$Foretelling", "setBest", "(III)V"⟩ : Cond) ∈ g_G := g_in 579 (by decide +kernel) rfl
theorem gw_581 : (.methodLink "HundredGongs$Foretelling" 77 ⟨"HundredGongs$Foretelling", "minutesBetween", "(III)I"⟩ : Cond) ∈ g_G := g_in 581 (by decide +kernel) rfl
theorem gw_582 : (.methodLink "HundredGongs$Foretelling" 81 ⟨"HundredGongs$Cloister", "swapMonks", "(II)V"⟩ : Cond) ∈ g_G := g_in 582 (by decide +kernel) rfl
theorem gw_583 : (.instanceMethod ⟨"HundredGongs$Cloister", "swapMonks", "(II)V"⟩ : Cond) ∈ g_G := g_in 583 (by decide +kernel) rfl
theorem gw_584 : (.selects "HundredGongs$Cloister" ⟨"HundredGongs$Cloister", "swapMonks", "(II)V"⟩ ⟨"HundredGongs$Cloister", "swapMonks", "(II)V"⟩ : Cond) ∈ g_G := g_in 584 (by decide +kernel) rfl
theorem gw_586 : (.methodLink "HundredGongsLaw" 97 ⟨"HundredGongs", "over", "(II)I"⟩ : Cond) ∈ g_G := g_in 586 (by decide +kernel) rfl
theorem gw_587 : (.instanceMethod ⟨"HundredGongs", "over", "(II)I"⟩ : Cond) ∈ g_G := g_in 587 (by decide +kernel) rfl
theorem gw_588 : (.selects "HundredGongs" ⟨"HundredGongs", "over", "(II)I"⟩ ⟨"HundredGongs", "over", "(II)I"⟩ : Cond) ∈ g_G := g_in 588 (by decide +kernel) rfl
theorem gw_590 : (.methodLink "HundredGongs" 179 ⟨"HundredGongs$Foretelling", "seekOver", "(LHundredGongs$Cloister;I)V"⟩ : Cond) ∈ g_G := g_in 590 (by decide +kernel) rfl
theorem gw_591 : (.instanceMethod ⟨"HundredGongs$Foretelling", "seekOver", "(LHundredGongs$Cloister;I)V"⟩ : Cond) ∈ g_G := g_in 591 (by decide +kernel) rfl
theorem gw_592 : (.selects "HundredGongs$Foretelling" ⟨"HundredGongs$Foretelling", "seekOver", "(LHundredGongs$Cloister;I)V"⟩ ⟨"HundredGongs$Foretelling", "seekOver", "(LHundredGongs$Cloister;I)V"⟩ : Cond) ∈ g_G := g_in 592 (by decide +kernel) rfl
theorem gw_594 : (.methodLink "HundredGongs$Foretelling" 89 ⟨"HundredGongs$Foretelling", "strikers", "(I)I"⟩ : Cond) ∈ g_G := g_in 594 (by decide +kernel) rfl
theorem gw_595 : (.methodLink "HundredGongs$Foretelling" 92 ⟨"java/lang/Integer", "bitCount", "(I)I"⟩ : Cond) ∈ g_G := g_in 595 (by decide +kernel) rfl
theorem gw_596 : (.methodLink "HundredGongs$Foretelling" 101 ⟨"HundredGongs$Cloister", "hearOver", "(I)V"⟩ : Cond) ∈ g_G := g_in 596 (by decide +kernel) rfl
theorem gw_597 : (.instanceMethod ⟨"HundredGongs$Cloister", "hearOver", "(I)V"⟩ : Cond) ∈ g_G := g_in 597 (by decide +kernel) rfl
theorem gw_598 : (.selects "HundredGongs$Cloister" ⟨"HundredGongs$Cloister", "hearOver", "(I)V"⟩ ⟨"HundredGongs$Cloister", "hearOver", "(I)V"⟩ : Cond) ∈ g_G := g_in 598 (by decide +kernel) rfl
theorem gw_600 : (.methodLink "HundredGongsLaw" 101 ⟨"HundredGongs", "odds", "(IIII)I"⟩ : Cond) ∈ g_G := g_in 600 (by decide +kernel) rfl
theorem gw_601 : (.instanceMethod ⟨"HundredGongs", "odds", "(IIII)I"⟩ : Cond) ∈ g_G := g_in 601 (by decide +kernel) rfl
theorem gw_602 : (.selects "HundredGongs" ⟨"HundredGongs", "odds", "(IIII)I"⟩ ⟨"HundredGongs", "odds", "(IIII)I"⟩ : Cond) ∈ g_G := g_in 602 (by decide +kernel) rfl
theorem gw_604 : (.methodLink "HundredGongs" 183 ⟨"HundredGongs$Foretelling", "monksOnWay", "(II)I"⟩ : Cond) ∈ g_G := g_in 604 (by decide +kernel) rfl
theorem gw_605 : (.instanceMethod ⟨"HundredGongs$Foretelling", "monksOnWay", "(II)I"⟩ : Cond) ∈ g_G := g_in 605 (by decide +kernel) rfl
theorem gw_606 : (.selects "HundredGongs$Foretelling" ⟨"HundredGongs$Foretelling", "monksOnWay", "(II)I"⟩ ⟨"HundredGongs$Foretelling", "monksOnWay", "(II)I"⟩ : Cond) ∈ g_G := g_in 606 (by decide +kernel) rfl
theorem gw_608 : (.methodLink "HundredGongs" 186 ⟨"HundredGongs", "commonDivisor", "(II)I"⟩ : Cond) ∈ g_G := g_in 608 (by decide +kernel) rfl
theorem gw_609 : (.static ⟨"HundredGongs", "commonDivisor", "(II)I"⟩ : Cond) ∈ g_G := g_in 609 (by decide +kernel) rfl
theorem gw_611 : (.methodLink "HundredGongs" 189 ⟨"HundredGongs", "power", "(II)I"⟩ : Cond) ∈ g_G := g_in 611 (by decide +kernel) rfl
theorem gw_612 : (.static ⟨"HundredGongs", "power", "(II)I"⟩ : Cond) ∈ g_G := g_in 612 (by decide +kernel) rfl
theorem gw_614 : (.methodLink "HundredGongsLaw" 105 ⟨"HundredGongs", "seen", "(II)I"⟩ : Cond) ∈ g_G := g_in 614 (by decide +kernel) rfl
theorem gw_615 : (.instanceMethod ⟨"HundredGongs", "seen", "(II)I"⟩ : Cond) ∈ g_G := g_in 615 (by decide +kernel) rfl
theorem gw_616 : (.selects "HundredGongs" ⟨"HundredGongs", "seen", "(II)I"⟩ ⟨"HundredGongs", "seen", "(II)I"⟩ : Cond) ∈ g_G := g_in 616 (by decide +kernel) rfl
theorem gw_618 : (.methodLink "HundredGongs" 195 ⟨"HundredGongs$Sightings", "note", "(IZ)Z"⟩ : Cond) ∈ g_G := g_in 618 (by decide +kernel) rfl
theorem gw_619 : (.instanceMethod ⟨"HundredGongs$Sightings", "note", "(IZ)Z"⟩ : Cond) ∈ g_G := g_in 619 (by decide +kernel) rfl
theorem gw_620 : (.selects "HundredGongs$Sightings" ⟨"HundredGongs$Sightings", "note", "(IZ)Z"⟩ ⟨"HundredGongs$Sightings", "note", "(IZ)Z"⟩ : Cond) ∈ g_G := g_in 620 (by decide +kernel) rfl
theorem gw_622 : (.methodLink "HundredGongsLaw" 109 ⟨"HundredGongs", "forget", "()I"⟩ : Cond) ∈ g_G := g_in 622 (by decide +kernel) rfl
theorem gw_623 : (.instanceMethod ⟨"HundredGongs", "forget", "()I"⟩ : Cond) ∈ g_G := g_in 623 (by decide +kernel) rfl
theorem gw_624 : (.selects "HundredGongs" ⟨"HundredGongs", "forget", "()I"⟩ ⟨"HundredGongs", "forget", "()I"⟩ : Cond) ∈ g_G := g_in 624 (by decide +kernel) rfl
theorem gw_626 : (.methodLink "HundredGongsLaw" 113 ⟨"HundredGongs", "asleep", "(II)I"⟩ : Cond) ∈ g_G := g_in 626 (by decide +kernel) rfl
theorem gw_627 : (.instanceMethod ⟨"HundredGongs", "asleep", "(II)I"⟩ : Cond) ∈ g_G := g_in 627 (by decide +kernel) rfl
theorem gw_628 : (.selects "HundredGongs" ⟨"HundredGongs", "asleep", "(II)I"⟩ ⟨"HundredGongs", "asleep", "(II)I"⟩ : Cond) ∈ g_G := g_in 628 (by decide +kernel) rfl
theorem gw_630 : (.methodLink "HundredGongs" 199 ⟨"HundredGongs$Sightings", "agreeWith", "(I)Z"⟩ : Cond) ∈ g_G := g_in 630 (by decide +kernel) rfl
theorem gw_631 : (.instanceMethod ⟨"HundredGongs$Sightings", "agreeWith", "(I)Z"⟩ : Cond) ∈ g_G := g_in 631 (by decide +kernel) rfl
theorem gw_632 : (.selects "HundredGongs$Sightings" ⟨"HundredGongs$Sightings", "agreeWith", "(I)Z"⟩ ⟨"HundredGongs$Sightings", "agreeWith", "(I)Z"⟩ : Cond) ∈ g_G := g_in 632 (by decide +kernel) rfl
theorem gw_634 : (.methodLink "HundredGongsLaw" 117 ⟨"HundredGongs", "count", "(I)I"⟩ : Cond) ∈ g_G := g_in 634 (by decide +kernel) rfl
theorem gw_635 : (.instanceMethod ⟨"HundredGongs", "count", "(I)I"⟩ : Cond) ∈ g_G := g_in 635 (by decide +kernel) rfl
theorem gw_636 : (.selects "HundredGongs" ⟨"HundredGongs", "count", "(I)I"⟩ ⟨"HundredGongs", "count", "(I)I"⟩ : Cond) ∈ g_G := g_in 636 (by decide +kernel) rfl
theorem gw_638 : (.methodLink "HundredGongs" 208 ⟨"HundredGongs$Morning", "gongsToCome", "()I"⟩ : Cond) ∈ g_G := g_in 638 (by decide +kernel) rfl
theorem gw_639 : (.instanceMethod ⟨"HundredGongs$Morning", "gongsToCome", "()I"⟩ : Cond) ∈ g_G := g_in 639 (by decide +kernel) rfl
theorem gw_640 : (.selects "HundredGongs$Morning" ⟨"HundredGongs$Morning", "gongsToCome", "()I"⟩ ⟨"HundredGongs$Morning", "gongsToCome", "()I"⟩ : Cond) ∈ g_G := g_in 640 (by decide +kernel) rfl
theorem gw_642 : (.methodLink "HundredGongs" 212 ⟨"HundredGongs$Morning", "strikesInAll", "()I"⟩ : Cond) ∈ g_G := g_in 642 (by decide +kernel) rfl
theorem gw_643 : (.instanceMethod ⟨"HundredGongs$Morning", "strikesInAll", "()I"⟩ : Cond) ∈ g_G := g_in 643 (by decide +kernel) rfl
theorem gw_644 : (.selects "HundredGongs$Morning" ⟨"HundredGongs$Morning", "strikesInAll", "()I"⟩ ⟨"HundredGongs$Morning", "strikesInAll", "()I"⟩ : Cond) ∈ g_G := g_in 644 (by decide +kernel) rfl
theorem gw_646 : (.classLink "HundredGongsLaw" 10 "HundredGongsModel" : Cond) ∈ g_G := g_in 646 (by decide +kernel) rfl
theorem gw_648 : (.methodLink "HundredGongsLaw" 12 ⟨"HundredGongsModel", "<init>", "()V"⟩ : Cond) ∈ g_G := g_in 648 (by decide +kernel) rfl
theorem gw_649 : (.instanceMethod ⟨"HundredGongsModel", "<init>", "()V"⟩ : Cond) ∈ g_G := g_in 649 (by decide +kernel) rfl
theorem gw_651 : (.methodLink "HundredGongsModel" 1 ⟨"java/lang/Object", "<init>", "()V"⟩ : Cond) ∈ g_G := g_in 651 (by decide +kernel) rfl
theorem gw_652 : (.methodLink "HundredGongsModel" 61 ⟨"HundredGongsModel", "plain", "(I)V"⟩ : Cond) ∈ g_G := g_in 652 (by decide +kernel) rfl
theorem gw_654 : (.instanceMethod ⟨"HundredGongsModel", "plain", "(I)V"⟩ : Cond) ∈ g_G := g_in 654 (by decide +kernel) rfl
theorem gw_656 : (.fieldLink "HundredGongsModel" 7 "HundredGongsModel" "gongs" "I" : Cond) ∈ g_G := g_in 656 (by decide +kernel) rfl
theorem gw_657 : (.fieldLink "HundredGongsModel" 13 "HundredGongsModel" "hears" "[I" : Cond) ∈ g_G := g_in 657 (by decide +kernel) rfl
theorem gw_658 : (.fieldLink "HundredGongsModel" 17 "HundredGongsModel" "span" "[I" : Cond) ∈ g_G := g_in 658 (by decide +kernel) rfl
theorem gw_659 : (.fieldLink "HundredGongsModel" 20 "HundredGongsModel" "kind" "[I" : Cond) ∈ g_G := g_in 659 (by decide +kernel) rfl
theorem gw_660 : (.fieldLink "HundredGongsModel" 23 "HundredGongsModel" "delay" "[I" : Cond) ∈ g_G := g_in 660 (by decide +kernel) rfl
theorem gw_661 : (.fieldLink "HundredGongsModel" 160 "HundredGongsModel" "weather" "I" : Cond) ∈ g_G := g_in 661 (by decide +kernel) rfl
theorem gw_662 : (.fieldLink "HundredGongsModel" 69 "HundredGongsModel" "told" "I" : Cond) ∈ g_G := g_in 662 (by decide +kernel) rfl
theorem gw_663 : (.fieldLink "HundredGongsModel" 72 "HundredGongsModel" "bytes" "I" : Cond) ∈ g_G := g_in 663 (by decide +kernel) rfl
theorem gw_664 : (.fieldLink "HundredGongsModel" 26 "HundredGongsModel" "text" "[I" : Cond) ∈ g_G := g_in 664 (by decide +kernel) rfl
theorem gw_665 : (.fieldLink "HundredGongsModel" 77 "HundredGongsModel" "position" "I" : Cond) ∈ g_G := g_in 665 (by decide +kernel) rfl
theorem gw_666 : (.fieldLink "HundredGongsModel" 80 "HundredGongsModel" "tokenAt" "I" : Cond) ∈ g_G := g_in 666 (by decide +kernel) rfl
theorem gw_667 : (.fieldLink "HundredGongsModel" 91 "HundredGongsModel" "token" "J" : Cond) ∈ g_G := g_in 667 (by decide +kernel) rfl
theorem gw_668 : (.fieldLink "HundredGongsModel" 83 "HundredGongsModel" "digits" "I" : Cond) ∈ g_G := g_in 668 (by decide +kernel) rfl
theorem gw_669 : (.fieldLink "HundredGongsModel" 86 "HundredGongsModel" "number" "I" : Cond) ∈ g_G := g_in 669 (by decide +kernel) rfl
theorem gw_670 : (.fieldLink "HundredGongsModel" 105 "HundredGongsModel" "faultAt" "I" : Cond) ∈ g_G := g_in 670 (by decide +kernel) rfl
theorem gw_671 : (.fieldLink "HundredGongsModel" 148 "HundredGongsModel" "readMany" "I" : Cond) ∈ g_G := g_in 671 (by decide +kernel) rfl
theorem gw_672 : (.fieldLink "HundredGongsModel" 115 "HundredGongsModel" "readGongs" "I" : Cond) ∈ g_G := g_in 672 (by decide +kernel) rfl
theorem gw_673 : (.fieldLink "HundredGongsModel" 29 "HundredGongsModel" "read" "[I" : Cond) ∈ g_G := g_in 673 (by decide +kernel) rfl
theorem gw_674 : (.fieldLink "HundredGongsModel" 32 "HundredGongsModel" "comes" "[J" : Cond) ∈ g_G := g_in 674 (by decide +kernel) rfl
theorem gw_675 : (.fieldLink "HundredGongsModel" 36 "HundredGongsModel" "strikes" "[I" : Cond) ∈ g_G := g_in 675 (by decide +kernel) rfl
theorem gw_676 : (.fieldLink "HundredGongsModel" 163 "HundredGongsModel" "heard" "I" : Cond) ∈ g_G := g_in 676 (by decide +kernel) rfl
theorem gw_677 : (.fieldLink "HundredGongsModel" 166 "HundredGongsModel" "minute" "I" : Cond) ∈ g_G := g_in 677 (by decide +kernel) rfl
theorem gw_678 : (.fieldLink "HundredGongsModel" 39 "HundredGongsModel" "image" "[J" : Cond) ∈ g_G := g_in 678 (by decide +kernel) rfl
theorem gw_679 : (.fieldLink "HundredGongsModel" 42 "HundredGongsModel" "isKept" "[Z" : Cond) ∈ g_G := g_in 679 (by decide +kernel) rfl
theorem gw_680 : (.fieldLink "HundredGongsModel" 169 "HundredGongsModel" "sights" "I" : Cond) ∈ g_G := g_in 680 (by decide +kernel) rfl
theorem gw_681 : (.fieldLink "HundredGongsModel" 46 "HundredGongsModel" "sight" "[I" : Cond) ∈ g_G := g_in 681 (by decide +kernel) rfl
theorem gw_682 : (.fieldLink "HundredGongsModel" 49 "HundredGongsModel" "first" "[I" : Cond) ∈ g_G := g_in 682 (by decide +kernel) rfl
theorem gw_683 : (.fieldLink "HundredGongsModel" 52 "HundredGongsModel" "sleeps" "I" : Cond) ∈ g_G := g_in 683 (by decide +kernel) rfl
theorem gw_684 : (.fieldLink "HundredGongsModel" 55 "HundredGongsModel" "struck" "[I" : Cond) ∈ g_G := g_in 684 (by decide +kernel) rfl
theorem gw_685 : (.fieldLink "HundredGongsModel" 58 "HundredGongsModel" "line" "[I" : Cond) ∈ g_G := g_in 685 (by decide +kernel) rfl
theorem gw_747 : (.methodLink "HundredGongsLaw" 19 ⟨"HundredGongsModel", "write", "(JI)I"⟩ : Cond) ∈ g_G := g_in 747 (by decide +kernel) rfl
theorem gw_748 : (.instanceMethod ⟨"HundredGongsModel", "write", "(JI)I"⟩ : Cond) ∈ g_G := g_in 748 (by decide +kernel) rfl
theorem gw_749 : (.selects "HundredGongsModel" ⟨"HundredGongsModel", "write", "(JI)I"⟩ ⟨"HundredGongsModel", "write", "(JI)I"⟩ : Cond) ∈ g_G := g_in 749 (by decide +kernel) rfl
theorem gw_751 : (.methodLink "HundredGongsModel" 65 ⟨"HundredGongsModel", "in", "(III)Z"⟩ : Cond) ∈ g_G := g_in 751 (by decide +kernel) rfl
theorem gw_752 : (.static ⟨"HundredGongsModel", "in", "(III)Z"⟩ : Cond) ∈ g_G := g_in 752 (by decide +kernel) rfl
theorem gw_754 : (.constantLong "HundredGongsModel" 75 (255 : Int64) : Cond) ∈ g_G := g_in 754 (by decide +kernel) rfl
theorem gw_755 : (.methodLink "HundredGongsLaw" 24 ⟨"HundredGongsModel", "erase", "()I"⟩ : Cond) ∈ g_G := g_in 755 (by decide +kernel) rfl
theorem gw_756 : (.instanceMethod ⟨"HundredGongsModel", "erase", "()I"⟩ : Cond) ∈ g_G := g_in 756 (by decide +kernel) rfl
theorem gw_757 : (.selects "HundredGongsModel" ⟨"HundredGongsModel", "erase", "()I"⟩ ⟨"HundredGongsModel", "erase", "()I"⟩ : Cond) ∈ g_G := g_in 757 (by decide +kernel) rfl
theorem gw_759 : (.methodLink "HundredGongsLaw" 28 ⟨"HundredGongsModel", "fault", "()I"⟩ : Cond) ∈ g_G := g_in 759 (by decide +kernel) rfl
theorem gw_760 : (.instanceMethod ⟨"HundredGongsModel", "fault", "()I"⟩ : Cond) ∈ g_G := g_in 760 (by decide +kernel) rfl
theorem gw_761 : (.selects "HundredGongsModel" ⟨"HundredGongsModel", "fault", "()I"⟩ ⟨"HundredGongsModel", "fault", "()I"⟩ : Cond) ∈ g_G := g_in 761 (by decide +kernel) rfl
theorem gw_763 : (.methodLink "HundredGongsModel" 154 ⟨"HundredGongsModel", "isRead", "()Z"⟩ : Cond) ∈ g_G := g_in 763 (by decide +kernel) rfl
theorem gw_765 : (.instanceMethod ⟨"HundredGongsModel", "isRead", "()Z"⟩ : Cond) ∈ g_G := g_in 765 (by decide +kernel) rfl
theorem gw_767 : (.methodLink "HundredGongsModel" 151 ⟨"HundredGongsModel", "isLine", "(I)Z"⟩ : Cond) ∈ g_G := g_in 767 (by decide +kernel) rfl
theorem gw_769 : (.instanceMethod ⟨"HundredGongsModel", "isLine", "(I)Z"⟩ : Cond) ∈ g_G := g_in 769 (by decide +kernel) rfl
theorem gw_771 : (.methodLink "HundredGongsModel" 108 ⟨"HundredGongsModel", "nextToken", "()V"⟩ : Cond) ∈ g_G := g_in 771 (by decide +kernel) rfl
theorem gw_773 : (.instanceMethod ⟨"HundredGongsModel", "nextToken", "()V"⟩ : Cond) ∈ g_G := g_in 773 (by decide +kernel) rfl
theorem gw_775 : (.constantLong "HundredGongsModel" 89 (-2 : Int64) : Cond) ∈ g_G := g_in 775 (by decide +kernel) rfl
theorem gw_776 : (.constantLong "HundredGongsModel" 95 (27 : Int64) : Cond) ∈ g_G := g_in 776 (by decide +kernel) rfl
theorem gw_777 : (.constantLong "HundredGongsModel" 97 (96 : Int64) : Cond) ∈ g_G := g_in 777 (by decide +kernel) rfl
theorem gw_778 : (.constantLong "HundredGongsModel" 99 (-4 : Int64) : Cond) ∈ g_G := g_in 778 (by decide +kernel) rfl
theorem gw_779 : (.constantLong "HundredGongsModel" 101 (-1 : Int64) : Cond) ∈ g_G := g_in 779 (by decide +kernel) rfl
theorem gw_780 : (.constantLong "HundredGongsModel" 103 (-3 : Int64) : Cond) ∈ g_G := g_in 780 (by decide +kernel) rfl
theorem gw_781 : (.constantLong "HundredGongsModel" 125 (8740238 : Int64) : Cond) ∈ g_G := g_in 781 (by decide +kernel) rfl
theorem gw_782 : (.constantLong "HundredGongsModel" 127 (82410 : Int64) : Cond) ∈ g_G := g_in 782 (by decide +kernel) rfl
theorem gw_783 : (.constantLong "HundredGongsModel" 129 (279109042 : Int64) : Cond) ∈ g_G := g_in 783 (by decide +kernel) rfl
theorem gw_784 : (.constantLong "HundredGongsModel" 131 (1776129921 : Int64) : Cond) ∈ g_G := g_in 784 (by decide +kernel) rfl
theorem gw_785 : (.constantLong "HundredGongsModel" 133 (1834209 : Int64) : Cond) ∈ g_G := g_in 785 (by decide +kernel) rfl
theorem gw_786 : (.constantLong "HundredGongsModel" 135 (4786 : Int64) : Cond) ∈ g_G := g_in 786 (by decide +kernel) rfl
theorem gw_787 : (.constantLong "HundredGongsModel" 137 (3554408 : Int64) : Cond) ∈ g_G := g_in 787 (by decide +kernel) rfl
theorem gw_788 : (.constantLong "HundredGongsModel" 139 (36250510761 : Int64) : Cond) ∈ g_G := g_in 788 (by decide +kernel) rfl
theorem gw_789 : (.constantLong "HundredGongsModel" 141 (4351177 : Int64) : Cond) ∈ g_G := g_in 789 (by decide +kernel) rfl
theorem gw_790 : (.constantLong "HundredGongsModel" 143 (778955 : Int64) : Cond) ∈ g_G := g_in 790 (by decide +kernel) rfl
theorem gw_791 : (.methodLink "HundredGongsModel" 121 ⟨"HundredGongsModel", "isThere", "(I)Z"⟩ : Cond) ∈ g_G := g_in 791 (by decide +kernel) rfl
theorem gw_793 : (.instanceMethod ⟨"HundredGongsModel", "isThere", "(I)Z"⟩ : Cond) ∈ g_G := g_in 793 (by decide +kernel) rfl
theorem gw_795 : (.methodLink "HundredGongsModel" 118 ⟨"HundredGongsModel", "isNumber", "(III)Z"⟩ : Cond) ∈ g_G := g_in 795 (by decide +kernel) rfl
theorem gw_797 : (.instanceMethod ⟨"HundredGongsModel", "isNumber", "(III)Z"⟩ : Cond) ∈ g_G := g_in 797 (by decide +kernel) rfl
theorem gw_799 : (.methodLink "HundredGongsModel" 111 ⟨"HundredGongsModel", "fails", "()Z"⟩ : Cond) ∈ g_G := g_in 799 (by decide +kernel) rfl
theorem gw_801 : (.instanceMethod ⟨"HundredGongsModel", "fails", "()Z"⟩ : Cond) ∈ g_G := g_in 801 (by decide +kernel) rfl
theorem gw_803 : (.methodLink "HundredGongsModel" 145 ⟨"HundredGongsModel", "isHearing", "(I)Z"⟩ : Cond) ∈ g_G := g_in 803 (by decide +kernel) rfl
theorem gw_805 : (.instanceMethod ⟨"HundredGongsModel", "isHearing", "(I)Z"⟩ : Cond) ∈ g_G := g_in 805 (by decide +kernel) rfl
theorem gw_807 : (.methodLink "HundredGongsLaw" 32 ⟨"HundredGongsModel", "cloister", "()I"⟩ : Cond) ∈ g_G := g_in 807 (by decide +kernel) rfl
theorem gw_808 : (.instanceMethod ⟨"HundredGongsModel", "cloister", "()I"⟩ : Cond) ∈ g_G := g_in 808 (by decide +kernel) rfl
theorem gw_809 : (.selects "HundredGongsModel" ⟨"HundredGongsModel", "cloister", "()I"⟩ ⟨"HundredGongsModel", "cloister", "()I"⟩ : Cond) ∈ g_G := g_in 809 (by decide +kernel) rfl
theorem gw_811 : (.methodLink "HundredGongsModel" 157 ⟨"HundredGongsModel", "doLine", "(I)V"⟩ : Cond) ∈ g_G := g_in 811 (by decide +kernel) rfl
theorem gw_813 : (.instanceMethod ⟨"HundredGongsModel", "doLine", "(I)V"⟩ : Cond) ∈ g_G := g_in 813 (by decide +kernel) rfl
theorem gw_815 : (.methodLink "HundredGongsLaw" 37 ⟨"HundredGongsModel", "gong", "(II)I"⟩ : Cond) ∈ g_G := g_in 815 (by decide +kernel) rfl
theorem gw_816 : (.instanceMethod ⟨"HundredGongsModel", "gong", "(II)I"⟩ : Cond) ∈ g_G := g_in 816 (by decide +kernel) rfl
theorem gw_817 : (.selects "HundredGongsModel" ⟨"HundredGongsModel", "gong", "(II)I"⟩ ⟨"HundredGongsModel", "gong", "(II)I"⟩ : Cond) ∈ g_G := g_in 817 (by decide +kernel) rfl
theorem gw_819 : (.methodLink "HundredGongsModel" 172 ⟨"HundredGongsModel", "isGong", "(I)Z"⟩ : Cond) ∈ g_G := g_in 819 (by decide +kernel) rfl
theorem gw_821 : (.instanceMethod ⟨"HundredGongsModel", "isGong", "(I)Z"⟩ : Cond) ∈ g_G := g_in 821 (by decide +kernel) rfl
theorem gw_823 : (.methodLink "HundredGongsModel" 175 ⟨"HundredGongsModel", "canHear", "(I)Z"⟩ : Cond) ∈ g_G := g_in 823 (by decide +kernel) rfl
theorem gw_825 : (.instanceMethod ⟨"HundredGongsModel", "canHear", "(I)Z"⟩ : Cond) ∈ g_G := g_in 825 (by decide +kernel) rfl
theorem gw_827 : (.methodLink "HundredGongsLaw" 41 ⟨"HundredGongsModel", "monk", "(II)I"⟩ : Cond) ∈ g_G := g_in 827 (by decide +kernel) rfl
theorem gw_828 : (.instanceMethod ⟨"HundredGongsModel", "monk", "(II)I"⟩ : Cond) ∈ g_G := g_in 828 (by decide +kernel) rfl
theorem gw_829 : (.selects "HundredGongsModel" ⟨"HundredGongsModel", "monk", "(II)I"⟩ ⟨"HundredGongsModel", "monk", "(II)I"⟩ : Cond) ∈ g_G := g_in 829 (by decide +kernel) rfl
theorem gw_831 : (.methodLink "HundredGongsModel" 178 ⟨"HundredGongsModel", "lateOf", "(I)I"⟩ : Cond) ∈ g_G := g_in 831 (by decide +kernel) rfl
theorem gw_833 : (.instanceMethod ⟨"HundredGongsModel", "lateOf", "(I)I"⟩ : Cond) ∈ g_G := g_in 833 (by decide +kernel) rfl
theorem gw_835 : (.methodLink "HundredGongsLaw" 45 ⟨"HundredGongsModel", "as", "(II)I"⟩ : Cond) ∈ g_G := g_in 835 (by decide +kernel) rfl
theorem gw_836 : (.instanceMethod ⟨"HundredGongsModel", "as", "(II)I"⟩ : Cond) ∈ g_G := g_in 836 (by decide +kernel) rfl
theorem gw_837 : (.selects "HundredGongsModel" ⟨"HundredGongsModel", "as", "(II)I"⟩ ⟨"HundredGongsModel", "as", "(II)I"⟩ : Cond) ∈ g_G := g_in 837 (by decide +kernel) rfl
theorem gw_839 : (.methodLink "HundredGongsLaw" 50 ⟨"HundredGongsModel", "strike", "(I)I"⟩ : Cond) ∈ g_G := g_in 839 (by decide +kernel) rfl
theorem gw_840 : (.instanceMethod ⟨"HundredGongsModel", "strike", "(I)I"⟩ : Cond) ∈ g_G := g_in 840 (by decide +kernel) rfl
theorem gw_841 : (.selects "HundredGongsModel" ⟨"HundredGongsModel", "strike", "(I)I"⟩ ⟨"HundredGongsModel", "strike", "(I)I"⟩ : Cond) ∈ g_G := g_in 841 (by decide +kernel) rfl
theorem gw_843 : (.methodLink "HundredGongsModel" 186 ⟨"HundredGongsModel", "sound", "(I)I"⟩ : Cond) ∈ g_G := g_in 843 (by decide +kernel) rfl
theorem gw_845 : (.instanceMethod ⟨"HundredGongsModel", "sound", "(I)I"⟩ : Cond) ∈ g_G := g_in 845 (by decide +kernel) rfl
theorem gw_847 : (.methodLink "HundredGongsModel" 182 ⟨"HundredGongsModel", "has", "(II)Z"⟩ : Cond) ∈ g_G := g_in 847 (by decide +kernel) rfl
theorem gw_848 : (.static ⟨"HundredGongsModel", "has", "(II)Z"⟩ : Cond) ∈ g_G := g_in 848 (by decide +kernel) rfl
theorem gw_850 : (.methodLink "HundredGongsLaw" 54 ⟨"HundredGongsModel", "go", "(I)I"⟩ : Cond) ∈ g_G := g_in 850 (by decide +kernel) rfl
theorem gw_851 : (.instanceMethod ⟨"HundredGongsModel", "go", "(I)I"⟩ : Cond) ∈ g_G := g_in 851 (by decide +kernel) rfl
theorem gw_852 : (.selects "HundredGongsModel" ⟨"HundredGongsModel", "go", "(I)I"⟩ ⟨"HundredGongsModel", "go", "(I)I"⟩ : Cond) ∈ g_G := g_in 852 (by decide +kernel) rfl
theorem gw_854 : (.constant "HundredGongsModel" 189 (99999 : Int32) : Cond) ∈ g_G := g_in 854 (by decide +kernel) rfl
theorem gw_855 : (.methodLink "HundredGongsModel" 190 ⟨"HundredGongsModel", "pass", "()I"⟩ : Cond) ∈ g_G := g_in 855 (by decide +kernel) rfl
theorem gw_857 : (.instanceMethod ⟨"HundredGongsModel", "pass", "()I"⟩ : Cond) ∈ g_G := g_in 857 (by decide +kernel) rfl
theorem gw_859 : (.methodLink "HundredGongsLaw" 58 ⟨"HundredGongsModel", "turn", "(I)I"⟩ : Cond) ∈ g_G := g_in 859 (by decide +kernel) rfl
theorem gw_860 : (.instanceMethod ⟨"HundredGongsModel", "turn", "(I)I"⟩ : Cond) ∈ g_G := g_in 860 (by decide +kernel) rfl
theorem gw_861 : (.selects "HundredGongsModel" ⟨"HundredGongsModel", "turn", "(I)I"⟩ ⟨"HundredGongsModel", "turn", "(I)I"⟩ : Cond) ∈ g_G := g_in 861 (by decide +kernel) rfl
theorem gw_863 : (.methodLink "HundredGongsLaw" 62 ⟨"HundredGongsModel", "keep", "(I)I"⟩ : Cond) ∈ g_G := g_in 863 (by decide +kernel) rfl
theorem gw_864 : (.instanceMethod ⟨"HundredGongsModel", "keep", "(I)I"⟩ : Cond) ∈ g_G := g_in 864 (by decide +kernel) rfl
theorem gw_865 : (.selects "HundredGongsModel" ⟨"HundredGongsModel", "keep", "(I)I"⟩ ⟨"HundredGongsModel", "keep", "(I)I"⟩ : Cond) ∈ g_G := g_in 865 (by decide +kernel) rfl
theorem gw_867 : (.methodLink "HundredGongsLaw" 66 ⟨"HundredGongsModel", "back", "(I)I"⟩ : Cond) ∈ g_G := g_in 867 (by decide +kernel) rfl
theorem gw_868 : (.instanceMethod ⟨"HundredGongsModel", "back", "(I)I"⟩ : Cond) ∈ g_G := g_in 868 (by decide +kernel) rfl
theorem gw_869 : (.selects "HundredGongsModel" ⟨"HundredGongsModel", "back", "(I)I"⟩ ⟨"HundredGongsModel", "back", "(I)I"⟩ : Cond) ∈ g_G := g_in 869 (by decide +kernel) rfl
theorem gw_871 : (.methodLink "HundredGongsLaw" 70 ⟨"HundredGongsModel", "first", "(II)I"⟩ : Cond) ∈ g_G := g_in 871 (by decide +kernel) rfl
theorem gw_872 : (.instanceMethod ⟨"HundredGongsModel", "first", "(II)I"⟩ : Cond) ∈ g_G := g_in 872 (by decide +kernel) rfl
theorem gw_873 : (.selects "HundredGongsModel" ⟨"HundredGongsModel", "first", "(II)I"⟩ ⟨"HundredGongsModel", "first", "(II)I"⟩ : Cond) ∈ g_G := g_in 873 (by decide +kernel) rfl
theorem gw_875 : (.methodLink "HundredGongsModel" 200 ⟨"HundredGongsModel", "firstOf", "(II)I"⟩ : Cond) ∈ g_G := g_in 875 (by decide +kernel) rfl
theorem gw_877 : (.instanceMethod ⟨"HundredGongsModel", "firstOf", "(II)I"⟩ : Cond) ∈ g_G := g_in 877 (by decide +kernel) rfl
theorem gw_879 : (.methodLink "HundredGongsModel" 194 ⟨"HundredGongsModel", "wakes", "(I)Z"⟩ : Cond) ∈ g_G := g_in 879 (by decide +kernel) rfl
theorem gw_881 : (.instanceMethod ⟨"HundredGongsModel", "wakes", "(I)Z"⟩ : Cond) ∈ g_G := g_in 881 (by decide +kernel) rfl
theorem gw_883 : (.methodLink "HundredGongsModel" 197 ⟨"HundredGongsModel", "roundOf", "(I)I"⟩ : Cond) ∈ g_G := g_in 883 (by decide +kernel) rfl
theorem gw_885 : (.instanceMethod ⟨"HundredGongsModel", "roundOf", "(I)I"⟩ : Cond) ∈ g_G := g_in 885 (by decide +kernel) rfl
theorem gw_887 : (.methodLink "HundredGongsLaw" 74 ⟨"HundredGongsModel", "who", "(I)I"⟩ : Cond) ∈ g_G := g_in 887 (by decide +kernel) rfl
theorem gw_888 : (.instanceMethod ⟨"HundredGongsModel", "who", "(I)I"⟩ : Cond) ∈ g_G := g_in 888 (by decide +kernel) rfl
theorem gw_889 : (.selects "HundredGongsModel" ⟨"HundredGongsModel", "who", "(I)I"⟩ ⟨"HundredGongsModel", "who", "(I)I"⟩ : Cond) ∈ g_G := g_in 889 (by decide +kernel) rfl
theorem gw_891 : (.methodLink "HundredGongsModel" 204 ⟨"HundredGongsModel", "layFirst", "(I)I"⟩ : Cond) ∈ g_G := g_in 891 (by decide +kernel) rfl
theorem gw_893 : (.instanceMethod ⟨"HundredGongsModel", "layFirst", "(I)I"⟩ : Cond) ∈ g_G := g_in 893 (by decide +kernel) rfl
theorem gw_895 : (.methodLink "HundredGongsLaw" 78 ⟨"HundredGongsModel", "ends", "(I)I"⟩ : Cond) ∈ g_G := g_in 895 (by decide +kernel) rfl
theorem gw_896 : (.instanceMethod ⟨"HundredGongsModel", "ends", "(I)I"⟩ : Cond) ∈ g_G := g_in 896 (by decide +kernel) rfl
theorem gw_897 : (.selects "HundredGongsModel" ⟨"HundredGongsModel", "ends", "(I)I"⟩ ⟨"HundredGongsModel", "ends", "(I)I"⟩ : Cond) ∈ g_G := g_in 897 (by decide +kernel) rfl
theorem gw_899 : (.methodLink "HundredGongsLaw" 82 ⟨"HundredGongsModel", "round", "(I)I"⟩ : Cond) ∈ g_G := g_in 899 (by decide +kernel) rfl
theorem gw_900 : (.instanceMethod ⟨"HundredGongsModel", "round", "(I)I"⟩ : Cond) ∈ g_G := g_in 900 (by decide +kernel) rfl
theorem gw_901 : (.selects "HundredGongsModel" ⟨"HundredGongsModel", "round", "(I)I"⟩ ⟨"HundredGongsModel", "round", "(I)I"⟩ : Cond) ∈ g_G := g_in 901 (by decide +kernel) rfl
theorem gw_903 : (.methodLink "HundredGongsLaw" 87 ⟨"HundredGongsModel", "times", "(III)I"⟩ : Cond) ∈ g_G := g_in 903 (by decide +kernel) rfl
theorem gw_904 : (.instanceMethod ⟨"HundredGongsModel", "times", "(III)I"⟩ : Cond) ∈ g_G := g_in 904 (by decide +kernel) rfl
theorem gw_905 : (.selects "HundredGongsModel" ⟨"HundredGongsModel", "times", "(III)I"⟩ ⟨"HundredGongsModel", "times", "(III)I"⟩ : Cond) ∈ g_G := g_in 905 (by decide +kernel) rfl
theorem gw_907 : (.methodLink "HundredGongsLaw" 91 ⟨"HundredGongsModel", "apart", "(III)I"⟩ : Cond) ∈ g_G := g_in 907 (by decide +kernel) rfl
theorem gw_908 : (.instanceMethod ⟨"HundredGongsModel", "apart", "(III)I"⟩ : Cond) ∈ g_G := g_in 908 (by decide +kernel) rfl
theorem gw_909 : (.selects "HundredGongsModel" ⟨"HundredGongsModel", "apart", "(III)I"⟩ ⟨"HundredGongsModel", "apart", "(III)I"⟩ : Cond) ∈ g_G := g_in 909 (by decide +kernel) rfl
theorem gw_911 : (.methodLink "HundredGongsModel" 207 ⟨"HundredGongsModel", "apartOf", "(III)I"⟩ : Cond) ∈ g_G := g_in 911 (by decide +kernel) rfl
theorem gw_913 : (.instanceMethod ⟨"HundredGongsModel", "apartOf", "(III)I"⟩ : Cond) ∈ g_G := g_in 913 (by decide +kernel) rfl
theorem gw_915 : (.methodLink "HundredGongsLaw" 96 ⟨"HundredGongsModel", "change", "(IIII)I"⟩ : Cond) ∈ g_G := g_in 915 (by decide +kernel) rfl
theorem gw_916 : (.instanceMethod ⟨"HundredGongsModel", "change", "(IIII)I"⟩ : Cond) ∈ g_G := g_in 916 (by decide +kernel) rfl
theorem gw_917 : (.selects "HundredGongsModel" ⟨"HundredGongsModel", "change", "(IIII)I"⟩ ⟨"HundredGongsModel", "change", "(IIII)I"⟩ : Cond) ∈ g_G := g_in 917 (by decide +kernel) rfl
theorem gw_919 : (.methodLink "HundredGongsModel" 211 ⟨"HundredGongsModel", "exchange", "(II)V"⟩ : Cond) ∈ g_G := g_in 919 (by decide +kernel) rfl
theorem gw_921 : (.instanceMethod ⟨"HundredGongsModel", "exchange", "(II)V"⟩ : Cond) ∈ g_G := g_in 921 (by decide +kernel) rfl
theorem gw_923 : (.methodLink "HundredGongsLaw" 100 ⟨"HundredGongsModel", "over", "(II)I"⟩ : Cond) ∈ g_G := g_in 923 (by decide +kernel) rfl
theorem gw_924 : (.instanceMethod ⟨"HundredGongsModel", "over", "(II)I"⟩ : Cond) ∈ g_G := g_in 924 (by decide +kernel) rfl
theorem gw_925 : (.selects "HundredGongsModel" ⟨"HundredGongsModel", "over", "(II)I"⟩ ⟨"HundredGongsModel", "over", "(II)I"⟩ : Cond) ∈ g_G := g_in 925 (by decide +kernel) rfl
theorem gw_927 : (.methodLink "HundredGongsModel" 215 ⟨"HundredGongsModel", "bits", "(I)I"⟩ : Cond) ∈ g_G := g_in 927 (by decide +kernel) rfl
theorem gw_928 : (.static ⟨"HundredGongsModel", "bits", "(I)I"⟩ : Cond) ∈ g_G := g_in 928 (by decide +kernel) rfl
theorem gw_930 : (.methodLink "HundredGongsModel" 218 ⟨"HundredGongsModel", "without", "(II)I"⟩ : Cond) ∈ g_G := g_in 930 (by decide +kernel) rfl
theorem gw_932 : (.instanceMethod ⟨"HundredGongsModel", "without", "(II)I"⟩ : Cond) ∈ g_G := g_in 932 (by decide +kernel) rfl
theorem gw_934 : (.methodLink "HundredGongsLaw" 104 ⟨"HundredGongsModel", "odds", "(IIII)I"⟩ : Cond) ∈ g_G := g_in 934 (by decide +kernel) rfl
theorem gw_935 : (.instanceMethod ⟨"HundredGongsModel", "odds", "(IIII)I"⟩ : Cond) ∈ g_G := g_in 935 (by decide +kernel) rfl
theorem gw_936 : (.selects "HundredGongsModel" ⟨"HundredGongsModel", "odds", "(IIII)I"⟩ ⟨"HundredGongsModel", "odds", "(IIII)I"⟩ : Cond) ∈ g_G := g_in 936 (by decide +kernel) rfl
theorem gw_938 : (.methodLink "HundredGongsLaw" 108 ⟨"HundredGongsModel", "seen", "(II)I"⟩ : Cond) ∈ g_G := g_in 938 (by decide +kernel) rfl
theorem gw_939 : (.instanceMethod ⟨"HundredGongsModel", "seen", "(II)I"⟩ : Cond) ∈ g_G := g_in 939 (by decide +kernel) rfl
theorem gw_940 : (.selects "HundredGongsModel" ⟨"HundredGongsModel", "seen", "(II)I"⟩ ⟨"HundredGongsModel", "seen", "(II)I"⟩ : Cond) ∈ g_G := g_in 940 (by decide +kernel) rfl
theorem gw_942 : (.methodLink "HundredGongsLaw" 112 ⟨"HundredGongsModel", "forget", "()I"⟩ : Cond) ∈ g_G := g_in 942 (by decide +kernel) rfl
theorem gw_943 : (.instanceMethod ⟨"HundredGongsModel", "forget", "()I"⟩ : Cond) ∈ g_G := g_in 943 (by decide +kernel) rfl
theorem gw_944 : (.selects "HundredGongsModel" ⟨"HundredGongsModel", "forget", "()I"⟩ ⟨"HundredGongsModel", "forget", "()I"⟩ : Cond) ∈ g_G := g_in 944 (by decide +kernel) rfl
theorem gw_946 : (.methodLink "HundredGongsLaw" 116 ⟨"HundredGongsModel", "asleep", "(II)I"⟩ : Cond) ∈ g_G := g_in 946 (by decide +kernel) rfl
theorem gw_947 : (.instanceMethod ⟨"HundredGongsModel", "asleep", "(II)I"⟩ : Cond) ∈ g_G := g_in 947 (by decide +kernel) rfl
theorem gw_948 : (.selects "HundredGongsModel" ⟨"HundredGongsModel", "asleep", "(II)I"⟩ ⟨"HundredGongsModel", "asleep", "(II)I"⟩ : Cond) ∈ g_G := g_in 948 (by decide +kernel) rfl
theorem gw_950 : (.methodLink "HundredGongsModel" 221 ⟨"HundredGongsModel", "isSo", "(I)Z"⟩ : Cond) ∈ g_G := g_in 950 (by decide +kernel) rfl
theorem gw_952 : (.instanceMethod ⟨"HundredGongsModel", "isSo", "(I)Z"⟩ : Cond) ∈ g_G := g_in 952 (by decide +kernel) rfl
theorem gw_954 : (.methodLink "HundredGongsLaw" 120 ⟨"HundredGongsModel", "count", "(I)I"⟩ : Cond) ∈ g_G := g_in 954 (by decide +kernel) rfl
theorem gw_955 : (.instanceMethod ⟨"HundredGongsModel", "count", "(I)I"⟩ : Cond) ∈ g_G := g_in 955 (by decide +kernel) rfl
theorem gw_956 : (.selects "HundredGongsModel" ⟨"HundredGongsModel", "count", "(I)I"⟩ ⟨"HundredGongsModel", "count", "(I)I"⟩ : Cond) ∈ g_G := g_in 956 (by decide +kernel) rfl
theorem gw_958 : (.constantLong "HundredGongsLaw" 13 (4294967295 : Int64) : Cond) ∈ g_G := g_in 958 (by decide +kernel) rfl
theorem gw_959 : (.fieldLink "java/lang/String" 9 "java/lang/String" "value" "[B" : Cond) ∈ g_G := g_in 959 (by decide +kernel) rfl
theorem gw_960 : (.fieldLink "java/lang/String" 15 "java/lang/String" "coder" "B" : Cond) ∈ g_G := g_in 960 (by decide +kernel) rfl
theorem gw_objc : Cond.code Lib.objectInit ⟨#[0xb1]⟩ 1 none ∈ g_G := g_in 60 rfl rfl
set_option maxRecDepth 100000 in
theorem gw_max : Cond.code Lib.Math.max.name Lib.Math.max.code 2 (some .int) ∈ g_G := g_in 537 (by decide +kernel) rfl
set_option maxRecDepth 100000 in
theorem gw_abs : Cond.code Lib.Math.abs.name Lib.Math.abs.code 1 (some .int) ∈ g_G := g_in 564 (by decide +kernel) rfl
set_option maxRecDepth 100000 in
theorem gwc_X0_init : Cond.code yX0_init cX0_init 1 (none) ∈ g_G := g_in 93 rfl rfl
set_option maxRecDepth 100000 in
theorem gwc_X0_found : Cond.code yX0_found cX0_found 2 (none) ∈ g_G := g_in 98 rfl rfl
set_option maxRecDepth 100000 in
theorem gwc_X0_copyFrom : Cond.code yX0_copyFrom cX0_copyFrom 2 (none) ∈ g_G := g_in 287 rfl rfl
set_option maxRecDepth 100000 in
theorem gwc_X0_has : Cond.code yX0_has cX0_has 2 (some (.boolean)) ∈ g_G := g_in 419 rfl rfl
set_option maxRecDepth 100000 in
theorem gwc_X0_canHear : Cond.code yX0_canHear cX0_canHear 3 (some (.boolean)) ∈ g_G := g_in 423 rfl rfl
set_option maxRecDepth 100000 in
theorem gwc_X0_late : Cond.code yX0_late cX0_late 4 (some (.int)) ∈ g_G := g_in 435 rfl rfl
set_option maxRecDepth 100000 in
theorem gwc_X0_swapMonks : Cond.code yX0_swapMonks cX0_swapMonks 5 (none) ∈ g_G := g_in 585 rfl rfl
set_option maxRecDepth 100000 in
theorem gwc_X0_hearOver : Cond.code yX0_hearOver cX0_hearOver 4 (none) ∈ g_G := g_in 599 rfl rfl
set_option maxRecDepth 100000 in
theorem gwc_X1_init : Cond.code yX1_init cX1_init 1 (none) ∈ g_G := g_in 190 rfl rfl
set_option maxRecDepth 100000 in
theorem gwc_X1_suppose : Cond.code yX1_suppose cX1_suppose 3 (none) ∈ g_G := g_in 502 rfl rfl
set_option maxRecDepth 100000 in
theorem gwc_X1_minutesTo : Cond.code yX1_minutesTo cX1_minutesTo 4 (some (.int)) ∈ g_G := g_in 507 rfl rfl
set_option maxRecDepth 100000 in
theorem gwc_X1_roundMinutes : Cond.code yX1_roundMinutes cX1_roundMinutes 3 (some (.int)) ∈ g_G := g_in 517 rfl rfl
set_option maxRecDepth 100000 in
theorem gwc_X1_strikers : Cond.code yX1_strikers cX1_strikers 4 (some (.int)) ∈ g_G := g_in 525 rfl rfl
set_option maxRecDepth 100000 in
theorem gwc_X1_lastMinute : Cond.code yX1_lastMinute cX1_lastMinute 4 (some (.int)) ∈ g_G := g_in 534 rfl rfl
set_option maxRecDepth 100000 in
theorem gwc_X1_strokes : Cond.code yX1_strokes cX1_strokes 6 (some (.int)) ∈ g_G := g_in 550 rfl rfl
set_option maxRecDepth 100000 in
theorem gwc_X1_strokesInRing : Cond.code yX1_strokesInRing cX1_strokesInRing 5 (some (.int)) ∈ g_G := g_in 553 rfl rfl
set_option maxRecDepth 100000 in
theorem gwc_X1_minutesBetween : Cond.code yX1_minutesBetween cX1_minutesBetween 6 (some (.int)) ∈ g_G := g_in 561 rfl rfl
set_option maxRecDepth 100000 in
theorem gwc_X1_monksOnWay : Cond.code yX1_monksOnWay cX1_monksOnWay 3 (some (.int)) ∈ g_G := g_in 607 rfl rfl
set_option maxRecDepth 100000 in
theorem gwc_X1_seekChange : Cond.code yX1_seekChange cX1_seekChange 8 (none) ∈ g_G := g_in 572 rfl rfl
set_option maxRecDepth 100000 in
theorem gwc_X1_seekOver : Cond.code yX1_seekOver cX1_seekOver 6 (none) ∈ g_G := g_in 593 rfl rfl
set_option maxRecDepth 100000 in
theorem gwc_X1_forgetBest : Cond.code yX1_forgetBest cX1_forgetBest 1 (none) ∈ g_G := g_in 576 rfl rfl
set_option maxRecDepth 100000 in
theorem gwc_X1_setBest : Cond.code yX1_setBest cX1_setBest 4 (none) ∈ g_G := g_in 580 rfl rfl
set_option maxRecDepth 100000 in
theorem gwc_X2_init : Cond.code yX2_init cX2_init 1 (none) ∈ g_G := g_in 144 rfl rfl
set_option maxRecDepth 100000 in
theorem gwc_X2_begin : Cond.code yX2_begin cX2_begin 3 (none) ∈ g_G := g_in 411 rfl rfl
set_option maxRecDepth 100000 in
theorem gwc_X2_copyFrom : Cond.code yX2_copyFrom cX2_copyFrom 3 (none) ∈ g_G := g_in 486 rfl rfl
set_option maxRecDepth 100000 in
theorem gwc_X2_soundGong : Cond.code yX2_soundGong cX2_soundGong 5 (some (.int)) ∈ g_G := g_in 452 rfl rfl
set_option maxRecDepth 100000 in
theorem gwc_X2_heeds : Cond.code yX2_heeds cX2_heeds 3 (some (.boolean)) ∈ g_G := g_in 457 rfl rfl
set_option maxRecDepth 100000 in
theorem gwc_X2_passMinute : Cond.code yX2_passMinute cX2_passMinute 4 (some (.int)) ∈ g_G := g_in 467 rfl rfl
set_option maxRecDepth 100000 in
theorem gwc_X2_minutesToNext : Cond.code yX2_minutesToNext cX2_minutesToNext 3 (some (.int)) ∈ g_G := g_in 427 rfl rfl
set_option maxRecDepth 100000 in
theorem gwc_X2_gongsToCome : Cond.code yX2_gongsToCome cX2_gongsToCome 3 (some (.int)) ∈ g_G := g_in 641 rfl rfl
set_option maxRecDepth 100000 in
theorem gwc_X2_strikesInAll : Cond.code yX2_strikesInAll cX2_strikesInAll 3 (some (.int)) ∈ g_G := g_in 645 rfl rfl
set_option maxRecDepth 100000 in
theorem gwc_X3_init : Cond.code yX3_init cX3_init 1 (none) ∈ g_G := g_in 173 rfl rfl
set_option maxRecDepth 100000 in
theorem gwc_X3_note : Cond.code yX3_note cX3_note 3 (some (.boolean)) ∈ g_G := g_in 621 rfl rfl
set_option maxRecDepth 100000 in
theorem gwc_X3_agreeWith : Cond.code yX3_agreeWith cX3_agreeWith 3 (some (.boolean)) ∈ g_G := g_in 633 rfl rfl
set_option maxRecDepth 100000 in
theorem gwc_X4_init : Cond.code yX4_init cX4_init 1 (none) ∈ g_G := g_in 65 rfl rfl
set_option maxRecDepth 100000 in
theorem gwc_X4_append : Cond.code yX4_append cX4_append 2 (none) ∈ g_G := g_in 275 rfl rfl
set_option maxRecDepth 100000 in
theorem gwc_X4_readOnto : Cond.code yX4_readOnto cX4_readOnto 2 (some (.int)) ∈ g_G := g_in 294 rfl rfl
set_option maxRecDepth 100000 in
theorem gwc_X4_readLine : Cond.code yX4_readLine cX4_readLine 3 (some (.boolean)) ∈ g_G := g_in 298 rfl rfl
set_option maxRecDepth 100000 in
theorem gwc_X4_readCloister : Cond.code yX4_readCloister cX4_readCloister 2 (some (.boolean)) ∈ g_G := g_in 393 rfl rfl
set_option maxRecDepth 100000 in
theorem gwc_X4_readHears : Cond.code yX4_readHears cX4_readHears 4 (some (.boolean)) ∈ g_G := g_in 398 rfl rfl
set_option maxRecDepth 100000 in
theorem gwc_X4_readAlone : Cond.code yX4_readAlone cX4_readAlone 2 (some (.boolean)) ∈ g_G := g_in 402 rfl rfl
set_option maxRecDepth 100000 in
theorem gwc_X4_readMonk : Cond.code yX4_readMonk cX4_readMonk 4 (some (.boolean)) ∈ g_G := g_in 385 rfl rfl
set_option maxRecDepth 100000 in
theorem gwc_X4_nextToken : Cond.code yX4_nextToken cX4_nextToken 1 (none) ∈ g_G := g_in 302 rfl rfl
set_option maxRecDepth 100000 in
theorem gwc_X4_nextNumber : Cond.code yX4_nextNumber cX4_nextNumber 4 (some (.boolean)) ∈ g_G := g_in 389 rfl rfl
set_option maxRecDepth 100000 in
theorem gwc_X4_wordHere : Cond.code yX4_wordHere cX4_wordHere 2 (some (.int)) ∈ g_G := g_in 316 rfl rfl
set_option maxRecDepth 100000 in
theorem gwc_X4_tokenIs : Cond.code yX4_tokenIs cX4_tokenIs 3 (some (.boolean)) ∈ g_G := g_in 333 rfl rfl
set_option maxRecDepth 100000 in
theorem gwc_X4_wordAt : Cond.code yX4_wordAt cX4_wordAt 1 (some (.object "java/lang/String")) ∈ g_G := g_in 319 rfl rfl
set_option maxRecDepth 100000 in
theorem gwc_X4_isLetter : Cond.code yX4_isLetter cX4_isLetter 1 (some (.boolean)) ∈ g_G := g_in 309 rfl rfl
set_option maxRecDepth 100000 in
theorem gwc_X4_isDigit : Cond.code yX4_isDigit cX4_isDigit 1 (some (.boolean)) ∈ g_G := g_in 312 rfl rfl
set_option maxRecDepth 100000 in
theorem gwc_X4_byteAt : Cond.code yX4_byteAt cX4_byteAt 2 (some (.int)) ∈ g_G := g_in 306 rfl rfl
set_option maxRecDepth 100000 in
theorem gwc_X5_init : Cond.code yX5_init cX5_init 1 (none) ∈ g_G := g_in 198 rfl rfl
set_option maxRecDepth 100000 in
theorem gwc_X5_trace : Cond.code yX5_trace cX5_trace 8 (some (.boolean)) ∈ g_G := g_in 511 rfl rfl
set_option maxRecDepth 100000 in
theorem gwc_X6_init : Cond.code yX6_init cX6_init 2 (none) ∈ g_G := g_in 57 rfl rfl
set_option maxRecDepth 100000 in
theorem gwc_X6_write : Cond.code yX6_write cX6_write 5 (some (.int)) ∈ g_G := g_in 270 rfl rfl
set_option maxRecDepth 100000 in
theorem gwc_X6_erase : Cond.code yX6_erase cX6_erase 2 (some (.int)) ∈ g_G := g_in 279 rfl rfl
set_option maxRecDepth 100000 in
theorem gwc_X6_fault : Cond.code yX6_fault cX6_fault 1 (some (.int)) ∈ g_G := g_in 283 rfl rfl
set_option maxRecDepth 100000 in
theorem gwc_X6_cloister : Cond.code yX6_cloister cX6_cloister 2 (some (.int)) ∈ g_G := g_in 407 rfl rfl
set_option maxRecDepth 100000 in
theorem gwc_X6_gong : Cond.code yX6_gong cX6_gong 3 (some (.int)) ∈ g_G := g_in 415 rfl rfl
set_option maxRecDepth 100000 in
theorem gwc_X6_monk : Cond.code yX6_monk cX6_monk 3 (some (.int)) ∈ g_G := g_in 431 rfl rfl
set_option maxRecDepth 100000 in
theorem gwc_X6_as : Cond.code yX6_as cX6_as 3 (some (.int)) ∈ g_G := g_in 439 rfl rfl
set_option maxRecDepth 100000 in
theorem gwc_X6_isSuch : Cond.code yX6_isSuch cX6_isSuch 4 (some (.boolean)) ∈ g_G := g_in 444 rfl rfl
set_option maxRecDepth 100000 in
theorem gwc_X6_strike : Cond.code yX6_strike cX6_strike 2 (some (.int)) ∈ g_G := g_in 448 rfl rfl
set_option maxRecDepth 100000 in
theorem gwc_X6_go : Cond.code yX6_go cX6_go 4 (some (.int)) ∈ g_G := g_in 462 rfl rfl
set_option maxRecDepth 100000 in
theorem gwc_X6_turn : Cond.code yX6_turn cX6_turn 3 (some (.int)) ∈ g_G := g_in 478 rfl rfl
set_option maxRecDepth 100000 in
theorem gwc_X6_keep : Cond.code yX6_keep cX6_keep 2 (some (.int)) ∈ g_G := g_in 482 rfl rfl
set_option maxRecDepth 100000 in
theorem gwc_X6_back : Cond.code yX6_back cX6_back 2 (some (.int)) ∈ g_G := g_in 490 rfl rfl
set_option maxRecDepth 100000 in
theorem gwc_X6_first : Cond.code yX6_first cX6_first 3 (some (.int)) ∈ g_G := g_in 494 rfl rfl
set_option maxRecDepth 100000 in
theorem gwc_X6_who : Cond.code yX6_who cX6_who 2 (some (.int)) ∈ g_G := g_in 521 rfl rfl
set_option maxRecDepth 100000 in
theorem gwc_X6_ends : Cond.code yX6_ends cX6_ends 2 (some (.int)) ∈ g_G := g_in 530 rfl rfl
set_option maxRecDepth 100000 in
theorem gwc_X6_round : Cond.code yX6_round cX6_round 2 (some (.int)) ∈ g_G := g_in 541 rfl rfl
set_option maxRecDepth 100000 in
theorem gwc_X6_times : Cond.code yX6_times cX6_times 4 (some (.int)) ∈ g_G := g_in 546 rfl rfl
set_option maxRecDepth 100000 in
theorem gwc_X6_apart : Cond.code yX6_apart cX6_apart 4 (some (.int)) ∈ g_G := g_in 557 rfl rfl
set_option maxRecDepth 100000 in
theorem gwc_X6_change : Cond.code yX6_change cX6_change 6 (some (.int)) ∈ g_G := g_in 568 rfl rfl
set_option maxRecDepth 100000 in
theorem gwc_X6_over : Cond.code yX6_over cX6_over 4 (some (.int)) ∈ g_G := g_in 589 rfl rfl
set_option maxRecDepth 100000 in
theorem gwc_X6_odds : Cond.code yX6_odds cX6_odds 8 (some (.int)) ∈ g_G := g_in 603 rfl rfl
set_option maxRecDepth 100000 in
theorem gwc_X6_foretold : Cond.code yX6_foretold cX6_foretold 1 (some (.object "HundredGongs$Foretelling")) ∈ g_G := g_in 498 rfl rfl
set_option maxRecDepth 100000 in
theorem gwc_X6_commonDivisor : Cond.code yX6_commonDivisor cX6_commonDivisor 3 (some (.int)) ∈ g_G := g_in 610 rfl rfl
set_option maxRecDepth 100000 in
theorem gwc_X6_power : Cond.code yX6_power cX6_power 4 (some (.int)) ∈ g_G := g_in 613 rfl rfl
set_option maxRecDepth 100000 in
theorem gwc_X6_seen : Cond.code yX6_seen cX6_seen 3 (some (.int)) ∈ g_G := g_in 617 rfl rfl
set_option maxRecDepth 100000 in
theorem gwc_X6_forget : Cond.code yX6_forget cX6_forget 2 (some (.int)) ∈ g_G := g_in 625 rfl rfl
set_option maxRecDepth 100000 in
theorem gwc_X6_asleep : Cond.code yX6_asleep cX6_asleep 6 (some (.int)) ∈ g_G := g_in 629 rfl rfl
set_option maxRecDepth 100000 in
theorem gwc_X6_count : Cond.code yX6_count cX6_count 2 (some (.int)) ∈ g_G := g_in 637 rfl rfl
set_option maxRecDepth 100000 in
theorem gwc_X7_init : Cond.code yX7_init cX7_init 1 (none) ∈ g_G := g_in 650 rfl rfl
set_option maxRecDepth 100000 in
theorem gwc_X7_in : Cond.code yX7_in cX7_in 3 (some (.boolean)) ∈ g_G := g_in 753 rfl rfl
set_option maxRecDepth 100000 in
theorem gwc_X7_has : Cond.code yX7_has cX7_has 2 (some (.boolean)) ∈ g_G := g_in 849 rfl rfl
set_option maxRecDepth 100000 in
theorem gwc_X7_isGong : Cond.code yX7_isGong cX7_isGong 2 (some (.boolean)) ∈ g_G := g_in 822 rfl rfl
set_option maxRecDepth 100000 in
theorem gwc_X7_plain : Cond.code yX7_plain cX7_plain 3 (none) ∈ g_G := g_in 655 rfl rfl
set_option maxRecDepth 100000 in
theorem gwc_X7_write : Cond.code yX7_write cX7_write 5 (some (.int)) ∈ g_G := g_in 750 rfl rfl
set_option maxRecDepth 100000 in
theorem gwc_X7_erase : Cond.code yX7_erase cX7_erase 2 (some (.int)) ∈ g_G := g_in 758 rfl rfl
set_option maxRecDepth 100000 in
theorem gwc_X7_nextToken : Cond.code yX7_nextToken cX7_nextToken 1 (none) ∈ g_G := g_in 774 rfl rfl
set_option maxRecDepth 100000 in
theorem gwc_X7_fails : Cond.code yX7_fails cX7_fails 1 (some (.boolean)) ∈ g_G := g_in 802 rfl rfl
set_option maxRecDepth 100000 in
theorem gwc_X7_isNumber : Cond.code yX7_isNumber cX7_isNumber 4 (some (.boolean)) ∈ g_G := g_in 798 rfl rfl
set_option maxRecDepth 100000 in
theorem gwc_X7_isThere : Cond.code yX7_isThere cX7_isThere 2 (some (.boolean)) ∈ g_G := g_in 794 rfl rfl
set_option maxRecDepth 100000 in
theorem gwc_X7_isHearing : Cond.code yX7_isHearing cX7_isHearing 2 (some (.boolean)) ∈ g_G := g_in 806 rfl rfl
set_option maxRecDepth 100000 in
theorem gwc_X7_isLine : Cond.code yX7_isLine cX7_isLine 4 (some (.boolean)) ∈ g_G := g_in 770 rfl rfl
set_option maxRecDepth 100000 in
theorem gwc_X7_isRead : Cond.code yX7_isRead cX7_isRead 2 (some (.boolean)) ∈ g_G := g_in 766 rfl rfl
set_option maxRecDepth 100000 in
theorem gwc_X7_fault : Cond.code yX7_fault cX7_fault 1 (some (.int)) ∈ g_G := g_in 762 rfl rfl
set_option maxRecDepth 100000 in
theorem gwc_X7_doLine : Cond.code yX7_doLine cX7_doLine 3 (none) ∈ g_G := g_in 814 rfl rfl
set_option maxRecDepth 100000 in
theorem gwc_X7_cloister : Cond.code yX7_cloister cX7_cloister 2 (some (.int)) ∈ g_G := g_in 810 rfl rfl
set_option maxRecDepth 100000 in
theorem gwc_X7_canHear : Cond.code yX7_canHear cX7_canHear 2 (some (.boolean)) ∈ g_G := g_in 826 rfl rfl
set_option maxRecDepth 100000 in
theorem gwc_X7_lateOf : Cond.code yX7_lateOf cX7_lateOf 2 (some (.int)) ∈ g_G := g_in 834 rfl rfl
set_option maxRecDepth 100000 in
theorem gwc_X7_gong : Cond.code yX7_gong cX7_gong 5 (some (.int)) ∈ g_G := g_in 818 rfl rfl
set_option maxRecDepth 100000 in
theorem gwc_X7_monk : Cond.code yX7_monk cX7_monk 3 (some (.int)) ∈ g_G := g_in 830 rfl rfl
set_option maxRecDepth 100000 in
theorem gwc_X7_as : Cond.code yX7_as cX7_as 5 (some (.int)) ∈ g_G := g_in 838 rfl rfl
set_option maxRecDepth 100000 in
theorem gwc_X7_sound : Cond.code yX7_sound cX7_sound 4 (some (.int)) ∈ g_G := g_in 846 rfl rfl
set_option maxRecDepth 100000 in
theorem gwc_X7_strike : Cond.code yX7_strike cX7_strike 2 (some (.int)) ∈ g_G := g_in 842 rfl rfl
set_option maxRecDepth 100000 in
theorem gwc_X7_pass : Cond.code yX7_pass cX7_pass 4 (some (.int)) ∈ g_G := g_in 858 rfl rfl
set_option maxRecDepth 100000 in
theorem gwc_X7_go : Cond.code yX7_go cX7_go 4 (some (.int)) ∈ g_G := g_in 853 rfl rfl
set_option maxRecDepth 100000 in
theorem gwc_X7_turn : Cond.code yX7_turn cX7_turn 3 (some (.int)) ∈ g_G := g_in 862 rfl rfl
set_option maxRecDepth 100000 in
theorem gwc_X7_keep : Cond.code yX7_keep cX7_keep 3 (some (.int)) ∈ g_G := g_in 866 rfl rfl
set_option maxRecDepth 100000 in
theorem gwc_X7_back : Cond.code yX7_back cX7_back 3 (some (.int)) ∈ g_G := g_in 870 rfl rfl
set_option maxRecDepth 100000 in
theorem gwc_X7_wakes : Cond.code yX7_wakes cX7_wakes 2 (some (.boolean)) ∈ g_G := g_in 882 rfl rfl
set_option maxRecDepth 100000 in
theorem gwc_X7_roundOf : Cond.code yX7_roundOf cX7_roundOf 5 (some (.int)) ∈ g_G := g_in 886 rfl rfl
set_option maxRecDepth 100000 in
theorem gwc_X7_firstOf : Cond.code yX7_firstOf cX7_firstOf 7 (some (.int)) ∈ g_G := g_in 878 rfl rfl
set_option maxRecDepth 100000 in
theorem gwc_X7_layFirst : Cond.code yX7_layFirst cX7_layFirst 4 (some (.int)) ∈ g_G := g_in 894 rfl rfl
set_option maxRecDepth 100000 in
theorem gwc_X7_first : Cond.code yX7_first cX7_first 3 (some (.int)) ∈ g_G := g_in 874 rfl rfl
set_option maxRecDepth 100000 in
theorem gwc_X7_who : Cond.code yX7_who cX7_who 2 (some (.int)) ∈ g_G := g_in 890 rfl rfl
set_option maxRecDepth 100000 in
theorem gwc_X7_ends : Cond.code yX7_ends cX7_ends 4 (some (.int)) ∈ g_G := g_in 898 rfl rfl
set_option maxRecDepth 100000 in
theorem gwc_X7_round : Cond.code yX7_round cX7_round 2 (some (.int)) ∈ g_G := g_in 902 rfl rfl
set_option maxRecDepth 100000 in
theorem gwc_X7_times : Cond.code yX7_times cX7_times 10 (some (.int)) ∈ g_G := g_in 906 rfl rfl
set_option maxRecDepth 100000 in
theorem gwc_X7_apartOf : Cond.code yX7_apartOf cX7_apartOf 6 (some (.int)) ∈ g_G := g_in 914 rfl rfl
set_option maxRecDepth 100000 in
theorem gwc_X7_apart : Cond.code yX7_apart cX7_apart 4 (some (.int)) ∈ g_G := g_in 910 rfl rfl
set_option maxRecDepth 100000 in
theorem gwc_X7_exchange : Cond.code yX7_exchange cX7_exchange 5 (none) ∈ g_G := g_in 922 rfl rfl
set_option maxRecDepth 100000 in
theorem gwc_X7_change : Cond.code yX7_change cX7_change 11 (some (.int)) ∈ g_G := g_in 918 rfl rfl
set_option maxRecDepth 100000 in
theorem gwc_X7_bits : Cond.code yX7_bits cX7_bits 3 (some (.int)) ∈ g_G := g_in 929 rfl rfl
set_option maxRecDepth 100000 in
theorem gwc_X7_without : Cond.code yX7_without cX7_without 6 (some (.int)) ∈ g_G := g_in 933 rfl rfl
set_option maxRecDepth 100000 in
theorem gwc_X7_over : Cond.code yX7_over cX7_over 7 (some (.int)) ∈ g_G := g_in 926 rfl rfl
set_option maxRecDepth 100000 in
theorem gwc_X7_odds : Cond.code yX7_odds cX7_odds 10 (some (.int)) ∈ g_G := g_in 937 rfl rfl
set_option maxRecDepth 100000 in
theorem gwc_X7_seen : Cond.code yX7_seen cX7_seen 3 (some (.int)) ∈ g_G := g_in 941 rfl rfl
set_option maxRecDepth 100000 in
theorem gwc_X7_forget : Cond.code yX7_forget cX7_forget 2 (some (.int)) ∈ g_G := g_in 945 rfl rfl
set_option maxRecDepth 100000 in
theorem gwc_X7_isSo : Cond.code yX7_isSo cX7_isSo 5 (some (.boolean)) ∈ g_G := g_in 953 rfl rfl
set_option maxRecDepth 100000 in
theorem gwc_X7_asleep : Cond.code yX7_asleep cX7_asleep 5 (some (.int)) ∈ g_G := g_in 949 rfl rfl
set_option maxRecDepth 100000 in
theorem gwc_X7_count : Cond.code yX7_count cX7_count 5 (some (.int)) ∈ g_G := g_in 957 rfl rfl
set_option maxRecDepth 100000 in
theorem gwc_J6_bitCount_0f7a4 : Cond.code yJ6_bitCount_0f7a4 cJ6_bitCount_0f7a4 1 (some (.int)) ∈ g_G := g_in 471 rfl rfl
set_option maxRecDepth 100000 in
theorem gwc_J0_length_8abf5 : Cond.code yJ0_length_8abf5 cJ0_length_8abf5 1 (some (.int)) ∈ g_G := g_in 337 rfl rfl
set_option maxRecDepth 100000 in
theorem gwc_J0_charAt_5068e : Cond.code yJ0_charAt_5068e cJ0_charAt_5068e 2 (some (.char)) ∈ g_G := g_in 347 rfl rfl
set_option maxRecDepth 100000 in
theorem gwc_J0_coder_7d493 : Cond.code yJ0_coder_7d493 cJ0_coder_7d493 1 (some (.byte)) ∈ g_G := g_in 341 rfl rfl
set_option maxRecDepth 100000 in
theorem gwc_J0_isLatin1_aae02 : Cond.code yJ0_isLatin1_aae02 cJ0_isLatin1_aae02 1 (some (.boolean)) ∈ g_G := g_in 351 rfl rfl
set_option maxRecDepth 100000 in
theorem gwc_J0_checkIndex_df160 : Cond.code yJ0_checkIndex_df160 cJ0_checkIndex_df160 2 (none) ∈ g_G := g_in 357 rfl rfl
set_option maxRecDepth 100000 in
theorem gwc_J1_charAt_3b067 : Cond.code yJ1_charAt_3b067 cJ1_charAt_3b067 2 (some (.char)) ∈ g_G := g_in 354 rfl rfl
set_option maxRecDepth 100000 in
theorem gwc_J7_fill_53178 : Cond.code yJ7_fill_53178 cJ7_fill_53178 4 (none) ∈ g_G := g_in 101 rfl rfl
set_option maxRecDepth 100000 in
theorem gwc_J3_checkIndex_8e157 : Cond.code yJ3_checkIndex_8e157 cJ3_checkIndex_8e157 3 (some (.int)) ∈ g_G := g_in 362 rfl rfl
theorem gcls_0 : gCls 0 RX0 TX0 6 tyX0 := ⟨rfl, fun w hw => List.mem_filter.mpr ⟨(by decide +kernel : ∀ w ∈ wsX00, w ∈ lw_tbl) w hw, (by decide +kernel : ∀ w ∈ wsX00, goodWord w = true) w hw⟩, tyX0_ok, nmX0, g_in 90 (by decide +kernel) rfl, g_in 39 (by decide +kernel) rfl, by decide, by decide, by decide +kernel, by decide +kernel⟩
theorem gcls_1 : gCls 1 RX1 TX1 8 tyX1 := ⟨rfl, fun w hw => List.mem_filter.mpr ⟨(by decide +kernel : ∀ w ∈ wsX10, w ∈ lw_tbl) w hw, (by decide +kernel : ∀ w ∈ wsX10, goodWord w = true) w hw⟩, tyX1_ok, nmX1, g_in 187 (by decide +kernel) rfl, g_in 43 (by decide +kernel) rfl, by decide, by decide, by decide +kernel, by decide +kernel⟩
theorem gcls_2 : gCls 2 RX2 TX2 5 tyX2 := ⟨rfl, fun w hw => List.mem_filter.mpr ⟨(by decide +kernel : ∀ w ∈ wsX20, w ∈ lw_tbl) w hw, (by decide +kernel : ∀ w ∈ wsX20, goodWord w = true) w hw⟩, tyX2_ok, nmX2, g_in 141 (by decide +kernel) rfl, g_in 41 (by decide +kernel) rfl, by decide, by decide, by decide +kernel, by decide +kernel⟩
theorem gcls_3 : gCls 3 RX3 TX3 3 tyX3 := ⟨rfl, fun w hw => List.mem_filter.mpr ⟨(by decide +kernel : ∀ w ∈ wsX30, w ∈ lw_tbl) w hw, (by decide +kernel : ∀ w ∈ wsX30, goodWord w = true) w hw⟩, tyX3_ok, nmX3, g_in 170 (by decide +kernel) rfl, g_in 42 (by decide +kernel) rfl, by decide, by decide, by decide +kernel, by decide +kernel⟩
theorem gcls_4 : gCls 4 RX4 TX4 6 tyX4 := ⟨rfl, fun w hw => List.mem_filter.mpr ⟨(by decide +kernel : ∀ w ∈ wsX40, w ∈ lw_tbl) w hw, (by decide +kernel : ∀ w ∈ wsX40, goodWord w = true) w hw⟩, tyX4_ok, nmX4, g_in 62 (by decide +kernel) rfl, g_in 38 (by decide +kernel) rfl, by decide, by decide, by decide +kernel, by decide +kernel⟩
theorem gcls_5 : gCls 5 RX5 TX5 3 tyX5 := ⟨rfl, fun w hw => List.mem_filter.mpr ⟨(by decide +kernel : ∀ w ∈ wsX50, w ∈ lw_tbl) w hw, (by decide +kernel : ∀ w ∈ wsX50, goodWord w = true) w hw⟩, tyX5_ok, nmX5, g_in 195 (by decide +kernel) rfl, g_in 44 (by decide +kernel) rfl, by decide, by decide, by decide +kernel, by decide +kernel⟩
theorem gcls_6 : gCls 6 RX6 TX6 8 tyX6 := ⟨rfl, fun w hw => List.mem_filter.mpr ⟨(by decide +kernel : ∀ w ∈ wsX60, w ∈ lw_tbl) w hw, (by decide +kernel : ∀ w ∈ wsX60, goodWord w = true) w hw⟩, tyX6_ok, nmX6, g_in 54 (by decide +kernel) rfl, g_in 37 (by decide +kernel) rfl, by decide, by decide, by decide +kernel, by decide +kernel⟩
theorem gcls_7 : gCls 7 RX7 TX7 30 tyX7 := ⟨rfl, fun w hw => List.mem_filter.mpr ⟨(by decide +kernel : ∀ w ∈ wsX70, w ∈ lw_tbl) w hw, (by decide +kernel : ∀ w ∈ wsX70, goodWord w = true) w hw⟩, tyX7_ok, nmX7, g_in 647 (by decide +kernel) rfl, g_in 45 (by decide +kernel) rfl, by decide, by decide, by decide +kernel, by decide +kernel⟩
theorem gce_X0_init {M : gM} (h1 : 2 + 1 ≤ M.2.2.2.2.1) (h2 : 8 + (1 + 11) + 44 ≤ M.2.2.2.2.2) : gCe M (g_Ms 0) 0 := ⟨g_in (w := .initialized "HundredGongs$Cloister") 39 (by decide +kernel) rfl, gwc_X0_init, ⟨by decide +kernel, by decide +kernel, by decide +kernel⟩, h1, h2⟩
theorem gce_X0_found {M : gM} (h1 : 1 + 1 ≤ M.2.2.2.2.1) (h2 : 8 + (2 + 11) + 23 ≤ M.2.2.2.2.2) : gCe M (g_Ms 1) 1 := ⟨g_in (w := .initialized "HundredGongs$Cloister") 39 (by decide +kernel) rfl, gwc_X0_found, ⟨by decide +kernel, by decide +kernel, by decide +kernel⟩, h1, h2⟩
theorem gce_X0_copyFrom {M : gM} (h1 : 1 + 1 ≤ M.2.2.2.2.1) (h2 : 8 + (2 + 11) + 40 ≤ M.2.2.2.2.2) : gCe M (g_Ms 2) 1 := ⟨g_in (w := .initialized "HundredGongs$Cloister") 39 (by decide +kernel) rfl, gwc_X0_copyFrom, ⟨by decide +kernel, by decide +kernel, by decide +kernel⟩, h1, h2⟩
theorem gce_X0_has {M : gM} (h1 : 0 + 1 ≤ M.2.2.2.2.1) (h2 : 8 + (2 + 11) + 0 ≤ M.2.2.2.2.2) : gCe M (g_Ms 3) 1 := ⟨g_in (w := .initialized "HundredGongs$Cloister") 39 (by decide +kernel) rfl, gwc_X0_has, ⟨by decide +kernel, by decide +kernel, by decide +kernel⟩, h1, h2⟩
theorem gce_X0_canHear {M : gM} (h1 : 0 + 1 ≤ M.2.2.2.2.1) (h2 : 8 + (3 + 11) + 0 ≤ M.2.2.2.2.2) : gCe M (g_Ms 4) 2 := ⟨g_in (w := .initialized "HundredGongs$Cloister") 39 (by decide +kernel) rfl, gwc_X0_canHear, ⟨by decide +kernel, by decide +kernel, by decide +kernel⟩, h1, h2⟩
theorem gce_X0_late {M : gM} (h1 : 0 + 1 ≤ M.2.2.2.2.1) (h2 : 8 + (4 + 11) + 0 ≤ M.2.2.2.2.2) : gCe M (g_Ms 5) 2 := ⟨g_in (w := .initialized "HundredGongs$Cloister") 39 (by decide +kernel) rfl, gwc_X0_late, ⟨by decide +kernel, by decide +kernel, by decide +kernel⟩, h1, h2⟩
theorem gce_X0_swapMonks {M : gM} (h1 : 0 + 1 ≤ M.2.2.2.2.1) (h2 : 8 + (5 + 11) + 0 ≤ M.2.2.2.2.2) : gCe M (g_Ms 6) 2 := ⟨g_in (w := .initialized "HundredGongs$Cloister") 39 (by decide +kernel) rfl, gwc_X0_swapMonks, ⟨by decide +kernel, by decide +kernel, by decide +kernel⟩, h1, h2⟩
theorem gce_X0_hearOver {M : gM} (h1 : 0 + 1 ≤ M.2.2.2.2.1) (h2 : 8 + (4 + 11) + 0 ≤ M.2.2.2.2.2) : gCe M (g_Ms 7) 1 := ⟨g_in (w := .initialized "HundredGongs$Cloister") 39 (by decide +kernel) rfl, gwc_X0_hearOver, ⟨by decide +kernel, by decide +kernel, by decide +kernel⟩, h1, h2⟩
theorem gce_X1_init {M : gM} (h1 : 3 + 1 ≤ M.2.2.2.2.1) (h2 : 8 + (1 + 11) + 64 ≤ M.2.2.2.2.2) : gCe M (g_Ms 8) 0 := ⟨g_in (w := .initialized "HundredGongs$Foretelling") 43 (by decide +kernel) rfl, gwc_X1_init, ⟨by decide +kernel, by decide +kernel, by decide +kernel⟩, h1, h2⟩
theorem gce_X1_suppose {M : gM} (h1 : 2 + 1 ≤ M.2.2.2.2.1) (h2 : 8 + (3 + 11) + 61 ≤ M.2.2.2.2.2) : gCe M (g_Ms 9) 2 := ⟨g_in (w := .initialized "HundredGongs$Foretelling") 43 (by decide +kernel) rfl, gwc_X1_suppose, ⟨by decide +kernel, by decide +kernel, by decide +kernel⟩, h1, h2⟩
theorem gce_X1_minutesTo {M : gM} (h1 : 3 + 1 ≤ M.2.2.2.2.1) (h2 : 8 + (4 + 11) + 72 ≤ M.2.2.2.2.2) : gCe M (g_Ms 10) 2 := ⟨g_in (w := .initialized "HundredGongs$Foretelling") 43 (by decide +kernel) rfl, gwc_X1_minutesTo, ⟨by decide +kernel, by decide +kernel, by decide +kernel⟩, h1, h2⟩
theorem gce_X1_roundMinutes {M : gM} (h1 : 2 + 1 ≤ M.2.2.2.2.1) (h2 : 8 + (3 + 11) + 50 ≤ M.2.2.2.2.2) : gCe M (g_Ms 11) 1 := ⟨g_in (w := .initialized "HundredGongs$Foretelling") 43 (by decide +kernel) rfl, gwc_X1_roundMinutes, ⟨by decide +kernel, by decide +kernel, by decide +kernel⟩, h1, h2⟩
theorem gce_X1_strikers {M : gM} (h1 : 4 + 1 ≤ M.2.2.2.2.1) (h2 : 8 + (4 + 11) + 95 ≤ M.2.2.2.2.2) : gCe M (g_Ms 12) 1 := ⟨g_in (w := .initialized "HundredGongs$Foretelling") 43 (by decide +kernel) rfl, gwc_X1_strikers, ⟨by decide +kernel, by decide +kernel, by decide +kernel⟩, h1, h2⟩
theorem gce_X1_lastMinute {M : gM} (h1 : 4 + 1 ≤ M.2.2.2.2.1) (h2 : 8 + (4 + 11) + 95 ≤ M.2.2.2.2.2) : gCe M (g_Ms 13) 1 := ⟨g_in (w := .initialized "HundredGongs$Foretelling") 43 (by decide +kernel) rfl, gwc_X1_lastMinute, ⟨by decide +kernel, by decide +kernel, by decide +kernel⟩, h1, h2⟩
theorem gce_X1_strokes {M : gM} (h1 : 2 + 1 ≤ M.2.2.2.2.1) (h2 : 8 + (6 + 11) + 50 ≤ M.2.2.2.2.2) : gCe M (g_Ms 14) 3 := ⟨g_in (w := .initialized "HundredGongs$Foretelling") 43 (by decide +kernel) rfl, gwc_X1_strokes, ⟨by decide +kernel, by decide +kernel, by decide +kernel⟩, h1, h2⟩
theorem gce_X1_strokesInRing {M : gM} (h1 : 0 + 1 ≤ M.2.2.2.2.1) (h2 : 8 + (5 + 11) + 0 ≤ M.2.2.2.2.2) : gCe M (g_Ms 15) 2 := ⟨g_in (w := .initialized "HundredGongs$Foretelling") 43 (by decide +kernel) rfl, gwc_X1_strokesInRing, ⟨by decide +kernel, by decide +kernel, by decide +kernel⟩, h1, h2⟩
theorem gce_X1_minutesBetween {M : gM} (h1 : 4 + 1 ≤ M.2.2.2.2.1) (h2 : 8 + (6 + 11) + 95 ≤ M.2.2.2.2.2) : gCe M (g_Ms 16) 3 := ⟨g_in (w := .initialized "HundredGongs$Foretelling") 43 (by decide +kernel) rfl, gwc_X1_minutesBetween, ⟨by decide +kernel, by decide +kernel, by decide +kernel⟩, h1, h2⟩
theorem gce_X1_monksOnWay {M : gM} (h1 : 4 + 1 ≤ M.2.2.2.2.1) (h2 : 8 + (3 + 11) + 95 ≤ M.2.2.2.2.2) : gCe M (g_Ms 17) 2 := ⟨g_in (w := .initialized "HundredGongs$Foretelling") 43 (by decide +kernel) rfl, gwc_X1_monksOnWay, ⟨by decide +kernel, by decide +kernel, by decide +kernel⟩, h1, h2⟩
theorem gce_X1_seekChange {M : gM} (h1 : 5 + 1 ≤ M.2.2.2.2.1) (h2 : 8 + (8 + 11) + 120 ≤ M.2.2.2.2.2) : gCe M (g_Ms 18) 3 := ⟨g_in (w := .initialized "HundredGongs$Foretelling") 43 (by decide +kernel) rfl, gwc_X1_seekChange, ⟨by decide +kernel, by decide +kernel, by decide +kernel⟩, h1, h2⟩
theorem gce_X1_seekOver {M : gM} (h1 : 5 + 1 ≤ M.2.2.2.2.1) (h2 : 8 + (6 + 11) + 118 ≤ M.2.2.2.2.2) : gCe M (g_Ms 19) 2 := ⟨g_in (w := .initialized "HundredGongs$Foretelling") 43 (by decide +kernel) rfl, gwc_X1_seekOver, ⟨by decide +kernel, by decide +kernel, by decide +kernel⟩, h1, h2⟩
theorem gce_X1_forgetBest {M : gM} (h1 : 1 + 1 ≤ M.2.2.2.2.1) (h2 : 8 + (1 + 11) + 23 ≤ M.2.2.2.2.2) : gCe M (g_Ms 20) 0 := ⟨g_in (w := .initialized "HundredGongs$Foretelling") 43 (by decide +kernel) rfl, gwc_X1_forgetBest, ⟨by decide +kernel, by decide +kernel, by decide +kernel⟩, h1, h2⟩
theorem gce_X1_setBest {M : gM} (h1 : 0 + 1 ≤ M.2.2.2.2.1) (h2 : 8 + (4 + 11) + 0 ≤ M.2.2.2.2.2) : gCe M (g_Ms 21) 3 := ⟨g_in (w := .initialized "HundredGongs$Foretelling") 43 (by decide +kernel) rfl, gwc_X1_setBest, ⟨by decide +kernel, by decide +kernel, by decide +kernel⟩, h1, h2⟩
theorem gce_X2_init {M : gM} (h1 : 1 + 1 ≤ M.2.2.2.2.1) (h2 : 8 + (1 + 11) + 12 ≤ M.2.2.2.2.2) : gCe M (g_Ms 22) 0 := ⟨g_in (w := .initialized "HundredGongs$Morning") 41 (by decide +kernel) rfl, gwc_X2_init, ⟨by decide +kernel, by decide +kernel, by decide +kernel⟩, h1, h2⟩
theorem gce_X2_begin {M : gM} (h1 : 0 + 1 ≤ M.2.2.2.2.1) (h2 : 8 + (3 + 11) + 0 ≤ M.2.2.2.2.2) : gCe M (g_Ms 23) 1 := ⟨g_in (w := .initialized "HundredGongs$Morning") 41 (by decide +kernel) rfl, gwc_X2_begin, ⟨by decide +kernel, by decide +kernel, by decide +kernel⟩, h1, h2⟩
theorem gce_X2_copyFrom {M : gM} (h1 : 0 + 1 ≤ M.2.2.2.2.1) (h2 : 8 + (3 + 11) + 0 ≤ M.2.2.2.2.2) : gCe M (g_Ms 24) 1 := ⟨g_in (w := .initialized "HundredGongs$Morning") 41 (by decide +kernel) rfl, gwc_X2_copyFrom, ⟨by decide +kernel, by decide +kernel, by decide +kernel⟩, h1, h2⟩
theorem gce_X2_soundGong {M : gM} (h1 : 1 + 1 ≤ M.2.2.2.2.1) (h2 : 8 + (5 + 11) + 23 ≤ M.2.2.2.2.2) : gCe M (g_Ms 25) 2 := ⟨g_in (w := .initialized "HundredGongs$Morning") 41 (by decide +kernel) rfl, gwc_X2_soundGong, ⟨by decide +kernel, by decide +kernel, by decide +kernel⟩, h1, h2⟩
theorem gce_X2_heeds {M : gM} (h1 : 0 + 1 ≤ M.2.2.2.2.1) (h2 : 8 + (3 + 11) + 0 ≤ M.2.2.2.2.2) : gCe M (g_Ms 26) 2 := ⟨g_in (w := .initialized "HundredGongs$Morning") 41 (by decide +kernel) rfl, gwc_X2_heeds, ⟨by decide +kernel, by decide +kernel, by decide +kernel⟩, h1, h2⟩
theorem gce_X2_passMinute {M : gM} (h1 : 2 + 1 ≤ M.2.2.2.2.1) (h2 : 8 + (4 + 11) + 47 ≤ M.2.2.2.2.2) : gCe M (g_Ms 27) 1 := ⟨g_in (w := .initialized "HundredGongs$Morning") 41 (by decide +kernel) rfl, gwc_X2_passMinute, ⟨by decide +kernel, by decide +kernel, by decide +kernel⟩, h1, h2⟩
theorem gce_X2_minutesToNext {M : gM} (h1 : 0 + 1 ≤ M.2.2.2.2.1) (h2 : 8 + (3 + 11) + 0 ≤ M.2.2.2.2.2) : gCe M (g_Ms 28) 1 := ⟨g_in (w := .initialized "HundredGongs$Morning") 41 (by decide +kernel) rfl, gwc_X2_minutesToNext, ⟨by decide +kernel, by decide +kernel, by decide +kernel⟩, h1, h2⟩
theorem gce_X2_gongsToCome {M : gM} (h1 : 0 + 1 ≤ M.2.2.2.2.1) (h2 : 8 + (3 + 11) + 0 ≤ M.2.2.2.2.2) : gCe M (g_Ms 29) 0 := ⟨g_in (w := .initialized "HundredGongs$Morning") 41 (by decide +kernel) rfl, gwc_X2_gongsToCome, ⟨by decide +kernel, by decide +kernel, by decide +kernel⟩, h1, h2⟩
theorem gce_X2_strikesInAll {M : gM} (h1 : 0 + 1 ≤ M.2.2.2.2.1) (h2 : 8 + (3 + 11) + 0 ≤ M.2.2.2.2.2) : gCe M (g_Ms 30) 0 := ⟨g_in (w := .initialized "HundredGongs$Morning") 41 (by decide +kernel) rfl, gwc_X2_strikesInAll, ⟨by decide +kernel, by decide +kernel, by decide +kernel⟩, h1, h2⟩
theorem gce_X3_init {M : gM} (h1 : 1 + 1 ≤ M.2.2.2.2.1) (h2 : 8 + (1 + 11) + 12 ≤ M.2.2.2.2.2) : gCe M (g_Ms 31) 0 := ⟨g_in (w := .initialized "HundredGongs$Sightings") 42 (by decide +kernel) rfl, gwc_X3_init, ⟨by decide +kernel, by decide +kernel, by decide +kernel⟩, h1, h2⟩
theorem gce_X3_note {M : gM} (h1 : 0 + 1 ≤ M.2.2.2.2.1) (h2 : 8 + (3 + 11) + 0 ≤ M.2.2.2.2.2) : gCe M (g_Ms 32) 2 := ⟨g_in (w := .initialized "HundredGongs$Sightings") 42 (by decide +kernel) rfl, gwc_X3_note, ⟨by decide +kernel, by decide +kernel, by decide +kernel⟩, h1, h2⟩
theorem gce_X3_agreeWith {M : gM} (h1 : 0 + 1 ≤ M.2.2.2.2.1) (h2 : 8 + (3 + 11) + 0 ≤ M.2.2.2.2.2) : gCe M (g_Ms 33) 1 := ⟨g_in (w := .initialized "HundredGongs$Sightings") 42 (by decide +kernel) rfl, gwc_X3_agreeWith, ⟨by decide +kernel, by decide +kernel, by decide +kernel⟩, h1, h2⟩
theorem gce_X4_init {M : gM} (h1 : 1 + 1 ≤ M.2.2.2.2.1) (h2 : 8 + (1 + 11) + 12 ≤ M.2.2.2.2.2) : gCe M (g_Ms 34) 0 := ⟨g_in (w := .initialized "HundredGongs$Text") 38 (by decide +kernel) rfl, gwc_X4_init, ⟨by decide +kernel, by decide +kernel, by decide +kernel⟩, h1, h2⟩
theorem gce_X4_append {M : gM} (h1 : 0 + 1 ≤ M.2.2.2.2.1) (h2 : 8 + (2 + 11) + 0 ≤ M.2.2.2.2.2) : gCe M (g_Ms 35) 1 := ⟨g_in (w := .initialized "HundredGongs$Text") 38 (by decide +kernel) rfl, gwc_X4_append, ⟨by decide +kernel, by decide +kernel, by decide +kernel⟩, h1, h2⟩
theorem gce_X4_readOnto {M : gM} (h1 : 7 + 1 ≤ M.2.2.2.2.1) (h2 : 8 + (2 + 11) + 150 ≤ M.2.2.2.2.2) : gCe M (g_Ms 36) 1 := ⟨g_in (w := .initialized "HundredGongs$Text") 38 (by decide +kernel) rfl, gwc_X4_readOnto, ⟨by decide +kernel, by decide +kernel, by decide +kernel⟩, h1, h2⟩
theorem gce_X4_readLine {M : gM} (h1 : 6 + 1 ≤ M.2.2.2.2.1) (h2 : 8 + (3 + 11) + 128 ≤ M.2.2.2.2.2) : gCe M (g_Ms 37) 1 := ⟨g_in (w := .initialized "HundredGongs$Text") 38 (by decide +kernel) rfl, gwc_X4_readLine, ⟨by decide +kernel, by decide +kernel, by decide +kernel⟩, h1, h2⟩
theorem gce_X4_readCloister {M : gM} (h1 : 3 + 1 ≤ M.2.2.2.2.1) (h2 : 8 + (2 + 11) + 64 ≤ M.2.2.2.2.2) : gCe M (g_Ms 38) 1 := ⟨g_in (w := .initialized "HundredGongs$Text") 38 (by decide +kernel) rfl, gwc_X4_readCloister, ⟨by decide +kernel, by decide +kernel, by decide +kernel⟩, h1, h2⟩
theorem gce_X4_readHears {M : gM} (h1 : 3 + 1 ≤ M.2.2.2.2.1) (h2 : 8 + (4 + 11) + 64 ≤ M.2.2.2.2.2) : gCe M (g_Ms 39) 1 := ⟨g_in (w := .initialized "HundredGongs$Text") 38 (by decide +kernel) rfl, gwc_X4_readHears, ⟨by decide +kernel, by decide +kernel, by decide +kernel⟩, h1, h2⟩
theorem gce_X4_readAlone {M : gM} (h1 : 3 + 1 ≤ M.2.2.2.2.1) (h2 : 8 + (2 + 11) + 64 ≤ M.2.2.2.2.2) : gCe M (g_Ms 40) 1 := ⟨g_in (w := .initialized "HundredGongs$Text") 38 (by decide +kernel) rfl, gwc_X4_readAlone, ⟨by decide +kernel, by decide +kernel, by decide +kernel⟩, h1, h2⟩
theorem gce_X4_readMonk {M : gM} (h1 : 3 + 1 ≤ M.2.2.2.2.1) (h2 : 8 + (4 + 11) + 64 ≤ M.2.2.2.2.2) : gCe M (g_Ms 41) 2 := ⟨g_in (w := .initialized "HundredGongs$Text") 38 (by decide +kernel) rfl, gwc_X4_readMonk, ⟨by decide +kernel, by decide +kernel, by decide +kernel⟩, h1, h2⟩
theorem gce_X4_nextToken {M : gM} (h1 : 1 + 1 ≤ M.2.2.2.2.1) (h2 : 8 + (1 + 11) + 21 ≤ M.2.2.2.2.2) : gCe M (g_Ms 42) 0 := ⟨g_in (w := .initialized "HundredGongs$Text") 38 (by decide +kernel) rfl, gwc_X4_nextToken, ⟨by decide +kernel, by decide +kernel, by decide +kernel⟩, h1, h2⟩
theorem gce_X4_nextNumber {M : gM} (h1 : 2 + 1 ≤ M.2.2.2.2.1) (h2 : 8 + (4 + 11) + 41 ≤ M.2.2.2.2.2) : gCe M (g_Ms 43) 2 := ⟨g_in (w := .initialized "HundredGongs$Text") 38 (by decide +kernel) rfl, gwc_X4_nextNumber, ⟨by decide +kernel, by decide +kernel, by decide +kernel⟩, h1, h2⟩
theorem gce_X4_wordHere {M : gM} (h1 : 5 + 1 ≤ M.2.2.2.2.1) (h2 : 8 + (2 + 11) + 107 ≤ M.2.2.2.2.2) : gCe M (g_Ms 44) 0 := ⟨g_in (w := .initialized "HundredGongs$Text") 38 (by decide +kernel) rfl, gwc_X4_wordHere, ⟨by decide +kernel, by decide +kernel, by decide +kernel⟩, h1, h2⟩
theorem gce_X4_tokenIs {M : gM} (h1 : 4 + 1 ≤ M.2.2.2.2.1) (h2 : 8 + (3 + 11) + 85 ≤ M.2.2.2.2.2) : gCe M (g_Ms 45) 1 := ⟨g_in (w := .initialized "HundredGongs$Text") 38 (by decide +kernel) rfl, gwc_X4_tokenIs, ⟨by decide +kernel, by decide +kernel, by decide +kernel⟩, h1, h2⟩
theorem gce_X4_wordAt {M : gM} (h1 : 0 + 1 ≤ M.2.2.2.2.1) (h2 : 8 + (1 + 11) + 0 ≤ M.2.2.2.2.2) : gCe M (g_Ms 46) 1 := ⟨g_in (w := .initialized "HundredGongs$Text") 38 (by decide +kernel) rfl, gwc_X4_wordAt, ⟨by decide +kernel, by decide +kernel, by decide +kernel⟩, h1, h2⟩
theorem gce_X4_isLetter {M : gM} (h1 : 0 + 1 ≤ M.2.2.2.2.1) (h2 : 8 + (1 + 11) + 0 ≤ M.2.2.2.2.2) : gCe M (g_Ms 47) 1 := ⟨g_in (w := .initialized "HundredGongs$Text") 38 (by decide +kernel) rfl, gwc_X4_isLetter, ⟨by decide +kernel, by decide +kernel, by decide +kernel⟩, h1, h2⟩
theorem gce_X4_isDigit {M : gM} (h1 : 0 + 1 ≤ M.2.2.2.2.1) (h2 : 8 + (1 + 11) + 0 ≤ M.2.2.2.2.2) : gCe M (g_Ms 48) 1 := ⟨g_in (w := .initialized "HundredGongs$Text") 38 (by decide +kernel) rfl, gwc_X4_isDigit, ⟨by decide +kernel, by decide +kernel, by decide +kernel⟩, h1, h2⟩
theorem gce_X4_byteAt {M : gM} (h1 : 0 + 1 ≤ M.2.2.2.2.1) (h2 : 8 + (2 + 11) + 0 ≤ M.2.2.2.2.2) : gCe M (g_Ms 49) 1 := ⟨g_in (w := .initialized "HundredGongs$Text") 38 (by decide +kernel) rfl, gwc_X4_byteAt, ⟨by decide +kernel, by decide +kernel, by decide +kernel⟩, h1, h2⟩
theorem gce_X5_init {M : gM} (h1 : 1 + 1 ≤ M.2.2.2.2.1) (h2 : 8 + (1 + 11) + 12 ≤ M.2.2.2.2.2) : gCe M (g_Ms 50) 0 := ⟨g_in (w := .initialized "HundredGongs$Way") 44 (by decide +kernel) rfl, gwc_X5_init, ⟨by decide +kernel, by decide +kernel, by decide +kernel⟩, h1, h2⟩
theorem gce_X5_trace {M : gM} (h1 : 1 + 1 ≤ M.2.2.2.2.1) (h2 : 8 + (8 + 11) + 23 ≤ M.2.2.2.2.2) : gCe M (g_Ms 51) 5 := ⟨g_in (w := .initialized "HundredGongs$Way") 44 (by decide +kernel) rfl, gwc_X5_trace, ⟨by decide +kernel, by decide +kernel, by decide +kernel⟩, h1, h2⟩
theorem gce_X6_init {M : gM} (h1 : 4 + 1 ≤ M.2.2.2.2.1) (h2 : 8 + (2 + 11) + 84 ≤ M.2.2.2.2.2) : gCe M (g_Ms 52) 0 := ⟨g_in (w := .initialized "HundredGongs") 37 (by decide +kernel) rfl, gwc_X6_init, ⟨by decide +kernel, by decide +kernel, by decide +kernel⟩, h1, h2⟩
theorem gce_X6_write {M : gM} (h1 : 1 + 1 ≤ M.2.2.2.2.1) (h2 : 8 + (5 + 11) + 21 ≤ M.2.2.2.2.2) : gCe M (g_Ms 53) 2 := ⟨g_in (w := .initialized "HundredGongs") 37 (by decide +kernel) rfl, gwc_X6_write, ⟨by decide +kernel, by decide +kernel, by decide +kernel⟩, h1, h2⟩
theorem gce_X6_erase {M : gM} (h1 : 0 + 1 ≤ M.2.2.2.2.1) (h2 : 8 + (2 + 11) + 0 ≤ M.2.2.2.2.2) : gCe M (g_Ms 54) 0 := ⟨g_in (w := .initialized "HundredGongs") 37 (by decide +kernel) rfl, gwc_X6_erase, ⟨by decide +kernel, by decide +kernel, by decide +kernel⟩, h1, h2⟩
theorem gce_X6_fault {M : gM} (h1 : 8 + 1 ≤ M.2.2.2.2.1) (h2 : 8 + (1 + 11) + 171 ≤ M.2.2.2.2.2) : gCe M (g_Ms 55) 0 := ⟨g_in (w := .initialized "HundredGongs") 37 (by decide +kernel) rfl, gwc_X6_fault, ⟨by decide +kernel, by decide +kernel, by decide +kernel⟩, h1, h2⟩
theorem gce_X6_cloister {M : gM} (h1 : 8 + 1 ≤ M.2.2.2.2.1) (h2 : 8 + (2 + 11) + 171 ≤ M.2.2.2.2.2) : gCe M (g_Ms 56) 0 := ⟨g_in (w := .initialized "HundredGongs") 37 (by decide +kernel) rfl, gwc_X6_cloister, ⟨by decide +kernel, by decide +kernel, by decide +kernel⟩, h1, h2⟩
theorem gce_X6_gong {M : gM} (h1 : 1 + 1 ≤ M.2.2.2.2.1) (h2 : 8 + (3 + 11) + 22 ≤ M.2.2.2.2.2) : gCe M (g_Ms 57) 2 := ⟨g_in (w := .initialized "HundredGongs") 37 (by decide +kernel) rfl, gwc_X6_gong, ⟨by decide +kernel, by decide +kernel, by decide +kernel⟩, h1, h2⟩
theorem gce_X6_monk {M : gM} (h1 : 1 + 1 ≤ M.2.2.2.2.1) (h2 : 8 + (3 + 11) + 23 ≤ M.2.2.2.2.2) : gCe M (g_Ms 58) 2 := ⟨g_in (w := .initialized "HundredGongs") 37 (by decide +kernel) rfl, gwc_X6_monk, ⟨by decide +kernel, by decide +kernel, by decide +kernel⟩, h1, h2⟩
theorem gce_X6_as {M : gM} (h1 : 1 + 1 ≤ M.2.2.2.2.1) (h2 : 8 + (3 + 11) + 23 ≤ M.2.2.2.2.2) : gCe M (g_Ms 59) 2 := ⟨g_in (w := .initialized "HundredGongs") 37 (by decide +kernel) rfl, gwc_X6_as, ⟨by decide +kernel, by decide +kernel, by decide +kernel⟩, h1, h2⟩
theorem gce_X6_isSuch {M : gM} (h1 : 0 + 1 ≤ M.2.2.2.2.1) (h2 : 8 + (4 + 11) + 0 ≤ M.2.2.2.2.2) : gCe M (g_Ms 60) 2 := ⟨g_in (w := .initialized "HundredGongs") 37 (by decide +kernel) rfl, gwc_X6_isSuch, ⟨by decide +kernel, by decide +kernel, by decide +kernel⟩, h1, h2⟩
theorem gce_X6_strike {M : gM} (h1 : 2 + 1 ≤ M.2.2.2.2.1) (h2 : 8 + (2 + 11) + 47 ≤ M.2.2.2.2.2) : gCe M (g_Ms 61) 1 := ⟨g_in (w := .initialized "HundredGongs") 37 (by decide +kernel) rfl, gwc_X6_strike, ⟨by decide +kernel, by decide +kernel, by decide +kernel⟩, h1, h2⟩
theorem gce_X6_go {M : gM} (h1 : 3 + 1 ≤ M.2.2.2.2.1) (h2 : 8 + (4 + 11) + 70 ≤ M.2.2.2.2.2) : gCe M (g_Ms 62) 1 := ⟨g_in (w := .initialized "HundredGongs") 37 (by decide +kernel) rfl, gwc_X6_go, ⟨by decide +kernel, by decide +kernel, by decide +kernel⟩, h1, h2⟩
theorem gce_X6_turn {M : gM} (h1 : 0 + 1 ≤ M.2.2.2.2.1) (h2 : 8 + (3 + 11) + 0 ≤ M.2.2.2.2.2) : gCe M (g_Ms 63) 1 := ⟨g_in (w := .initialized "HundredGongs") 37 (by decide +kernel) rfl, gwc_X6_turn, ⟨by decide +kernel, by decide +kernel, by decide +kernel⟩, h1, h2⟩
theorem gce_X6_keep {M : gM} (h1 : 1 + 1 ≤ M.2.2.2.2.1) (h2 : 8 + (2 + 11) + 22 ≤ M.2.2.2.2.2) : gCe M (g_Ms 64) 1 := ⟨g_in (w := .initialized "HundredGongs") 37 (by decide +kernel) rfl, gwc_X6_keep, ⟨by decide +kernel, by decide +kernel, by decide +kernel⟩, h1, h2⟩
theorem gce_X6_back {M : gM} (h1 : 1 + 1 ≤ M.2.2.2.2.1) (h2 : 8 + (2 + 11) + 22 ≤ M.2.2.2.2.2) : gCe M (g_Ms 65) 1 := ⟨g_in (w := .initialized "HundredGongs") 37 (by decide +kernel) rfl, gwc_X6_back, ⟨by decide +kernel, by decide +kernel, by decide +kernel⟩, h1, h2⟩
theorem gce_X6_first {M : gM} (h1 : 4 + 1 ≤ M.2.2.2.2.1) (h2 : 8 + (3 + 11) + 103 ≤ M.2.2.2.2.2) : gCe M (g_Ms 66) 2 := ⟨g_in (w := .initialized "HundredGongs") 37 (by decide +kernel) rfl, gwc_X6_first, ⟨by decide +kernel, by decide +kernel, by decide +kernel⟩, h1, h2⟩
theorem gce_X6_who {M : gM} (h1 : 5 + 1 ≤ M.2.2.2.2.1) (h2 : 8 + (2 + 11) + 118 ≤ M.2.2.2.2.2) : gCe M (g_Ms 67) 1 := ⟨g_in (w := .initialized "HundredGongs") 37 (by decide +kernel) rfl, gwc_X6_who, ⟨by decide +kernel, by decide +kernel, by decide +kernel⟩, h1, h2⟩
theorem gce_X6_ends {M : gM} (h1 : 5 + 1 ≤ M.2.2.2.2.1) (h2 : 8 + (2 + 11) + 118 ≤ M.2.2.2.2.2) : gCe M (g_Ms 68) 1 := ⟨g_in (w := .initialized "HundredGongs") 37 (by decide +kernel) rfl, gwc_X6_ends, ⟨by decide +kernel, by decide +kernel, by decide +kernel⟩, h1, h2⟩
theorem gce_X6_round {M : gM} (h1 : 4 + 1 ≤ M.2.2.2.2.1) (h2 : 8 + (2 + 11) + 103 ≤ M.2.2.2.2.2) : gCe M (g_Ms 69) 1 := ⟨g_in (w := .initialized "HundredGongs") 37 (by decide +kernel) rfl, gwc_X6_round, ⟨by decide +kernel, by decide +kernel, by decide +kernel⟩, h1, h2⟩
theorem gce_X6_times {M : gM} (h1 : 4 + 1 ≤ M.2.2.2.2.1) (h2 : 8 + (4 + 11) + 103 ≤ M.2.2.2.2.2) : gCe M (g_Ms 70) 3 := ⟨g_in (w := .initialized "HundredGongs") 37 (by decide +kernel) rfl, gwc_X6_times, ⟨by decide +kernel, by decide +kernel, by decide +kernel⟩, h1, h2⟩
theorem gce_X6_apart {M : gM} (h1 : 5 + 1 ≤ M.2.2.2.2.1) (h2 : 8 + (4 + 11) + 120 ≤ M.2.2.2.2.2) : gCe M (g_Ms 71) 3 := ⟨g_in (w := .initialized "HundredGongs") 37 (by decide +kernel) rfl, gwc_X6_apart, ⟨by decide +kernel, by decide +kernel, by decide +kernel⟩, h1, h2⟩
theorem gce_X6_change {M : gM} (h1 : 6 + 1 ≤ M.2.2.2.2.1) (h2 : 8 + (6 + 11) + 147 ≤ M.2.2.2.2.2) : gCe M (g_Ms 72) 4 := ⟨g_in (w := .initialized "HundredGongs") 37 (by decide +kernel) rfl, gwc_X6_change, ⟨by decide +kernel, by decide +kernel, by decide +kernel⟩, h1, h2⟩
theorem gce_X6_over {M : gM} (h1 : 6 + 1 ≤ M.2.2.2.2.1) (h2 : 8 + (4 + 11) + 143 ≤ M.2.2.2.2.2) : gCe M (g_Ms 73) 2 := ⟨g_in (w := .initialized "HundredGongs") 37 (by decide +kernel) rfl, gwc_X6_over, ⟨by decide +kernel, by decide +kernel, by decide +kernel⟩, h1, h2⟩
theorem gce_X6_odds {M : gM} (h1 : 5 + 1 ≤ M.2.2.2.2.1) (h2 : 8 + (8 + 11) + 117 ≤ M.2.2.2.2.2) : gCe M (g_Ms 74) 4 := ⟨g_in (w := .initialized "HundredGongs") 37 (by decide +kernel) rfl, gwc_X6_odds, ⟨by decide +kernel, by decide +kernel, by decide +kernel⟩, h1, h2⟩
theorem gce_X6_foretold {M : gM} (h1 : 3 + 1 ≤ M.2.2.2.2.1) (h2 : 8 + (1 + 11) + 83 ≤ M.2.2.2.2.2) : gCe M (g_Ms 75) 0 := ⟨g_in (w := .initialized "HundredGongs") 37 (by decide +kernel) rfl, gwc_X6_foretold, ⟨by decide +kernel, by decide +kernel, by decide +kernel⟩, h1, h2⟩
theorem gce_X6_commonDivisor {M : gM} (h1 : 0 + 1 ≤ M.2.2.2.2.1) (h2 : 8 + (3 + 11) + 0 ≤ M.2.2.2.2.2) : gCe M (g_Ms 76) 2 := ⟨g_in (w := .initialized "HundredGongs") 37 (by decide +kernel) rfl, gwc_X6_commonDivisor, ⟨by decide +kernel, by decide +kernel, by decide +kernel⟩, h1, h2⟩
theorem gce_X6_power {M : gM} (h1 : 0 + 1 ≤ M.2.2.2.2.1) (h2 : 8 + (4 + 11) + 0 ≤ M.2.2.2.2.2) : gCe M (g_Ms 77) 2 := ⟨g_in (w := .initialized "HundredGongs") 37 (by decide +kernel) rfl, gwc_X6_power, ⟨by decide +kernel, by decide +kernel, by decide +kernel⟩, h1, h2⟩
theorem gce_X6_seen {M : gM} (h1 : 1 + 1 ≤ M.2.2.2.2.1) (h2 : 8 + (3 + 11) + 22 ≤ M.2.2.2.2.2) : gCe M (g_Ms 78) 2 := ⟨g_in (w := .initialized "HundredGongs") 37 (by decide +kernel) rfl, gwc_X6_seen, ⟨by decide +kernel, by decide +kernel, by decide +kernel⟩, h1, h2⟩
theorem gce_X6_forget {M : gM} (h1 : 0 + 1 ≤ M.2.2.2.2.1) (h2 : 8 + (2 + 11) + 0 ≤ M.2.2.2.2.2) : gCe M (g_Ms 79) 0 := ⟨g_in (w := .initialized "HundredGongs") 37 (by decide +kernel) rfl, gwc_X6_forget, ⟨by decide +kernel, by decide +kernel, by decide +kernel⟩, h1, h2⟩
theorem gce_X6_asleep {M : gM} (h1 : 5 + 1 ≤ M.2.2.2.2.1) (h2 : 8 + (6 + 11) + 118 ≤ M.2.2.2.2.2) : gCe M (g_Ms 80) 2 := ⟨g_in (w := .initialized "HundredGongs") 37 (by decide +kernel) rfl, gwc_X6_asleep, ⟨by decide +kernel, by decide +kernel, by decide +kernel⟩, h1, h2⟩
theorem gce_X6_count {M : gM} (h1 : 1 + 1 ≤ M.2.2.2.2.1) (h2 : 8 + (2 + 11) + 22 ≤ M.2.2.2.2.2) : gCe M (g_Ms 81) 1 := ⟨g_in (w := .initialized "HundredGongs") 37 (by decide +kernel) rfl, gwc_X6_count, ⟨by decide +kernel, by decide +kernel, by decide +kernel⟩, h1, h2⟩
theorem gce_X7_init {M : gM} (h1 : 1 + 1 ≤ M.2.2.2.2.1) (h2 : 8 + (1 + 11) + 22 ≤ M.2.2.2.2.2) : gCe M (g_Ms 82) 0 := ⟨g_in (w := .initialized "HundredGongsModel") 45 (by decide +kernel) rfl, gwc_X7_init, ⟨by decide +kernel, by decide +kernel, by decide +kernel⟩, h1, h2⟩
theorem gce_X7_in {M : gM} (h1 : 0 + 1 ≤ M.2.2.2.2.1) (h2 : 8 + (3 + 11) + 0 ≤ M.2.2.2.2.2) : gCe M (g_Ms 83) 3 := ⟨g_in (w := .initialized "HundredGongsModel") 45 (by decide +kernel) rfl, gwc_X7_in, ⟨by decide +kernel, by decide +kernel, by decide +kernel⟩, h1, h2⟩
theorem gce_X7_has {M : gM} (h1 : 0 + 1 ≤ M.2.2.2.2.1) (h2 : 8 + (2 + 11) + 0 ≤ M.2.2.2.2.2) : gCe M (g_Ms 84) 2 := ⟨g_in (w := .initialized "HundredGongsModel") 45 (by decide +kernel) rfl, gwc_X7_has, ⟨by decide +kernel, by decide +kernel, by decide +kernel⟩, h1, h2⟩
theorem gce_X7_isGong {M : gM} (h1 : 1 + 1 ≤ M.2.2.2.2.1) (h2 : 8 + (2 + 11) + 22 ≤ M.2.2.2.2.2) : gCe M (g_Ms 85) 1 := ⟨g_in (w := .initialized "HundredGongsModel") 45 (by decide +kernel) rfl, gwc_X7_isGong, ⟨by decide +kernel, by decide +kernel, by decide +kernel⟩, h1, h2⟩
theorem gce_X7_plain {M : gM} (h1 : 0 + 1 ≤ M.2.2.2.2.1) (h2 : 8 + (3 + 11) + 0 ≤ M.2.2.2.2.2) : gCe M (g_Ms 86) 1 := ⟨g_in (w := .initialized "HundredGongsModel") 45 (by decide +kernel) rfl, gwc_X7_plain, ⟨by decide +kernel, by decide +kernel, by decide +kernel⟩, h1, h2⟩
theorem gce_X7_write {M : gM} (h1 : 1 + 1 ≤ M.2.2.2.2.1) (h2 : 8 + (5 + 11) + 22 ≤ M.2.2.2.2.2) : gCe M (g_Ms 87) 2 := ⟨g_in (w := .initialized "HundredGongsModel") 45 (by decide +kernel) rfl, gwc_X7_write, ⟨by decide +kernel, by decide +kernel, by decide +kernel⟩, h1, h2⟩
theorem gce_X7_erase {M : gM} (h1 : 0 + 1 ≤ M.2.2.2.2.1) (h2 : 8 + (2 + 11) + 0 ≤ M.2.2.2.2.2) : gCe M (g_Ms 88) 0 := ⟨g_in (w := .initialized "HundredGongsModel") 45 (by decide +kernel) rfl, gwc_X7_erase, ⟨by decide +kernel, by decide +kernel, by decide +kernel⟩, h1, h2⟩
theorem gce_X7_nextToken {M : gM} (h1 : 1 + 1 ≤ M.2.2.2.2.1) (h2 : 8 + (1 + 11) + 22 ≤ M.2.2.2.2.2) : gCe M (g_Ms 89) 0 := ⟨g_in (w := .initialized "HundredGongsModel") 45 (by decide +kernel) rfl, gwc_X7_nextToken, ⟨by decide +kernel, by decide +kernel, by decide +kernel⟩, h1, h2⟩
theorem gce_X7_fails {M : gM} (h1 : 0 + 1 ≤ M.2.2.2.2.1) (h2 : 8 + (1 + 11) + 0 ≤ M.2.2.2.2.2) : gCe M (g_Ms 90) 0 := ⟨g_in (w := .initialized "HundredGongsModel") 45 (by decide +kernel) rfl, gwc_X7_fails, ⟨by decide +kernel, by decide +kernel, by decide +kernel⟩, h1, h2⟩
theorem gce_X7_isNumber {M : gM} (h1 : 2 + 1 ≤ M.2.2.2.2.1) (h2 : 8 + (4 + 11) + 42 ≤ M.2.2.2.2.2) : gCe M (g_Ms 91) 3 := ⟨g_in (w := .initialized "HundredGongsModel") 45 (by decide +kernel) rfl, gwc_X7_isNumber, ⟨by decide +kernel, by decide +kernel, by decide +kernel⟩, h1, h2⟩
theorem gce_X7_isThere {M : gM} (h1 : 3 + 1 ≤ M.2.2.2.2.1) (h2 : 8 + (2 + 11) + 65 ≤ M.2.2.2.2.2) : gCe M (g_Ms 92) 1 := ⟨g_in (w := .initialized "HundredGongsModel") 45 (by decide +kernel) rfl, gwc_X7_isThere, ⟨by decide +kernel, by decide +kernel, by decide +kernel⟩, h1, h2⟩
theorem gce_X7_isHearing {M : gM} (h1 : 4 + 1 ≤ M.2.2.2.2.1) (h2 : 8 + (2 + 11) + 86 ≤ M.2.2.2.2.2) : gCe M (g_Ms 93) 1 := ⟨g_in (w := .initialized "HundredGongsModel") 45 (by decide +kernel) rfl, gwc_X7_isHearing, ⟨by decide +kernel, by decide +kernel, by decide +kernel⟩, h1, h2⟩
theorem gce_X7_isLine {M : gM} (h1 : 5 + 1 ≤ M.2.2.2.2.1) (h2 : 8 + (4 + 11) + 107 ≤ M.2.2.2.2.2) : gCe M (g_Ms 94) 1 := ⟨g_in (w := .initialized "HundredGongsModel") 45 (by decide +kernel) rfl, gwc_X7_isLine, ⟨by decide +kernel, by decide +kernel, by decide +kernel⟩, h1, h2⟩
theorem gce_X7_isRead {M : gM} (h1 : 6 + 1 ≤ M.2.2.2.2.1) (h2 : 8 + (2 + 11) + 130 ≤ M.2.2.2.2.2) : gCe M (g_Ms 95) 0 := ⟨g_in (w := .initialized "HundredGongsModel") 45 (by decide +kernel) rfl, gwc_X7_isRead, ⟨by decide +kernel, by decide +kernel, by decide +kernel⟩, h1, h2⟩
theorem gce_X7_fault {M : gM} (h1 : 7 + 1 ≤ M.2.2.2.2.1) (h2 : 8 + (1 + 11) + 151 ≤ M.2.2.2.2.2) : gCe M (g_Ms 96) 0 := ⟨g_in (w := .initialized "HundredGongsModel") 45 (by decide +kernel) rfl, gwc_X7_fault, ⟨by decide +kernel, by decide +kernel, by decide +kernel⟩, h1, h2⟩
theorem gce_X7_doLine {M : gM} (h1 : 1 + 1 ≤ M.2.2.2.2.1) (h2 : 8 + (3 + 11) + 22 ≤ M.2.2.2.2.2) : gCe M (g_Ms 97) 1 := ⟨g_in (w := .initialized "HundredGongsModel") 45 (by decide +kernel) rfl, gwc_X7_doLine, ⟨by decide +kernel, by decide +kernel, by decide +kernel⟩, h1, h2⟩
theorem gce_X7_cloister {M : gM} (h1 : 7 + 1 ≤ M.2.2.2.2.1) (h2 : 8 + (2 + 11) + 151 ≤ M.2.2.2.2.2) : gCe M (g_Ms 98) 0 := ⟨g_in (w := .initialized "HundredGongsModel") 45 (by decide +kernel) rfl, gwc_X7_cloister, ⟨by decide +kernel, by decide +kernel, by decide +kernel⟩, h1, h2⟩
theorem gce_X7_canHear {M : gM} (h1 : 0 + 1 ≤ M.2.2.2.2.1) (h2 : 8 + (2 + 11) + 0 ≤ M.2.2.2.2.2) : gCe M (g_Ms 99) 1 := ⟨g_in (w := .initialized "HundredGongsModel") 45 (by decide +kernel) rfl, gwc_X7_canHear, ⟨by decide +kernel, by decide +kernel, by decide +kernel⟩, h1, h2⟩
theorem gce_X7_lateOf {M : gM} (h1 : 0 + 1 ≤ M.2.2.2.2.1) (h2 : 8 + (2 + 11) + 0 ≤ M.2.2.2.2.2) : gCe M (g_Ms 100) 1 := ⟨g_in (w := .initialized "HundredGongsModel") 45 (by decide +kernel) rfl, gwc_X7_lateOf, ⟨by decide +kernel, by decide +kernel, by decide +kernel⟩, h1, h2⟩
theorem gce_X7_gong {M : gM} (h1 : 2 + 1 ≤ M.2.2.2.2.1) (h2 : 8 + (5 + 11) + 43 ≤ M.2.2.2.2.2) : gCe M (g_Ms 101) 2 := ⟨g_in (w := .initialized "HundredGongsModel") 45 (by decide +kernel) rfl, gwc_X7_gong, ⟨by decide +kernel, by decide +kernel, by decide +kernel⟩, h1, h2⟩
theorem gce_X7_monk {M : gM} (h1 : 2 + 1 ≤ M.2.2.2.2.1) (h2 : 8 + (3 + 11) + 43 ≤ M.2.2.2.2.2) : gCe M (g_Ms 102) 2 := ⟨g_in (w := .initialized "HundredGongsModel") 45 (by decide +kernel) rfl, gwc_X7_monk, ⟨by decide +kernel, by decide +kernel, by decide +kernel⟩, h1, h2⟩
theorem gce_X7_as {M : gM} (h1 : 2 + 1 ≤ M.2.2.2.2.1) (h2 : 8 + (5 + 11) + 43 ≤ M.2.2.2.2.2) : gCe M (g_Ms 103) 2 := ⟨g_in (w := .initialized "HundredGongsModel") 45 (by decide +kernel) rfl, gwc_X7_as, ⟨by decide +kernel, by decide +kernel, by decide +kernel⟩, h1, h2⟩
theorem gce_X7_sound {M : gM} (h1 : 1 + 1 ≤ M.2.2.2.2.1) (h2 : 8 + (4 + 11) + 21 ≤ M.2.2.2.2.2) : gCe M (g_Ms 104) 1 := ⟨g_in (w := .initialized "HundredGongsModel") 45 (by decide +kernel) rfl, gwc_X7_sound, ⟨by decide +kernel, by decide +kernel, by decide +kernel⟩, h1, h2⟩
theorem gce_X7_strike {M : gM} (h1 : 2 + 1 ≤ M.2.2.2.2.1) (h2 : 8 + (2 + 11) + 44 ≤ M.2.2.2.2.2) : gCe M (g_Ms 105) 1 := ⟨g_in (w := .initialized "HundredGongsModel") 45 (by decide +kernel) rfl, gwc_X7_strike, ⟨by decide +kernel, by decide +kernel, by decide +kernel⟩, h1, h2⟩
theorem gce_X7_pass {M : gM} (h1 : 2 + 1 ≤ M.2.2.2.2.1) (h2 : 8 + (4 + 11) + 44 ≤ M.2.2.2.2.2) : gCe M (g_Ms 106) 0 := ⟨g_in (w := .initialized "HundredGongsModel") 45 (by decide +kernel) rfl, gwc_X7_pass, ⟨by decide +kernel, by decide +kernel, by decide +kernel⟩, h1, h2⟩
theorem gce_X7_go {M : gM} (h1 : 3 + 1 ≤ M.2.2.2.2.1) (h2 : 8 + (4 + 11) + 67 ≤ M.2.2.2.2.2) : gCe M (g_Ms 107) 1 := ⟨g_in (w := .initialized "HundredGongsModel") 45 (by decide +kernel) rfl, gwc_X7_go, ⟨by decide +kernel, by decide +kernel, by decide +kernel⟩, h1, h2⟩
theorem gce_X7_turn {M : gM} (h1 : 1 + 1 ≤ M.2.2.2.2.1) (h2 : 8 + (3 + 11) + 22 ≤ M.2.2.2.2.2) : gCe M (g_Ms 108) 1 := ⟨g_in (w := .initialized "HundredGongsModel") 45 (by decide +kernel) rfl, gwc_X7_turn, ⟨by decide +kernel, by decide +kernel, by decide +kernel⟩, h1, h2⟩
theorem gce_X7_keep {M : gM} (h1 : 1 + 1 ≤ M.2.2.2.2.1) (h2 : 8 + (3 + 11) + 22 ≤ M.2.2.2.2.2) : gCe M (g_Ms 109) 1 := ⟨g_in (w := .initialized "HundredGongsModel") 45 (by decide +kernel) rfl, gwc_X7_keep, ⟨by decide +kernel, by decide +kernel, by decide +kernel⟩, h1, h2⟩
theorem gce_X7_back {M : gM} (h1 : 1 + 1 ≤ M.2.2.2.2.1) (h2 : 8 + (3 + 11) + 22 ≤ M.2.2.2.2.2) : gCe M (g_Ms 110) 1 := ⟨g_in (w := .initialized "HundredGongsModel") 45 (by decide +kernel) rfl, gwc_X7_back, ⟨by decide +kernel, by decide +kernel, by decide +kernel⟩, h1, h2⟩
theorem gce_X7_wakes {M : gM} (h1 : 1 + 1 ≤ M.2.2.2.2.1) (h2 : 8 + (2 + 11) + 21 ≤ M.2.2.2.2.2) : gCe M (g_Ms 111) 1 := ⟨g_in (w := .initialized "HundredGongsModel") 45 (by decide +kernel) rfl, gwc_X7_wakes, ⟨by decide +kernel, by decide +kernel, by decide +kernel⟩, h1, h2⟩
theorem gce_X7_roundOf {M : gM} (h1 : 2 + 1 ≤ M.2.2.2.2.1) (h2 : 8 + (5 + 11) + 42 ≤ M.2.2.2.2.2) : gCe M (g_Ms 112) 1 := ⟨g_in (w := .initialized "HundredGongsModel") 45 (by decide +kernel) rfl, gwc_X7_roundOf, ⟨by decide +kernel, by decide +kernel, by decide +kernel⟩, h1, h2⟩
theorem gce_X7_firstOf {M : gM} (h1 : 3 + 1 ≤ M.2.2.2.2.1) (h2 : 8 + (7 + 11) + 66 ≤ M.2.2.2.2.2) : gCe M (g_Ms 113) 2 := ⟨g_in (w := .initialized "HundredGongsModel") 45 (by decide +kernel) rfl, gwc_X7_firstOf, ⟨by decide +kernel, by decide +kernel, by decide +kernel⟩, h1, h2⟩
theorem gce_X7_layFirst {M : gM} (h1 : 4 + 1 ≤ M.2.2.2.2.1) (h2 : 8 + (4 + 11) + 92 ≤ M.2.2.2.2.2) : gCe M (g_Ms 114) 1 := ⟨g_in (w := .initialized "HundredGongsModel") 45 (by decide +kernel) rfl, gwc_X7_layFirst, ⟨by decide +kernel, by decide +kernel, by decide +kernel⟩, h1, h2⟩
theorem gce_X7_first {M : gM} (h1 : 4 + 1 ≤ M.2.2.2.2.1) (h2 : 8 + (3 + 11) + 92 ≤ M.2.2.2.2.2) : gCe M (g_Ms 115) 2 := ⟨g_in (w := .initialized "HundredGongsModel") 45 (by decide +kernel) rfl, gwc_X7_first, ⟨by decide +kernel, by decide +kernel, by decide +kernel⟩, h1, h2⟩
theorem gce_X7_who {M : gM} (h1 : 5 + 1 ≤ M.2.2.2.2.1) (h2 : 8 + (2 + 11) + 115 ≤ M.2.2.2.2.2) : gCe M (g_Ms 116) 1 := ⟨g_in (w := .initialized "HundredGongsModel") 45 (by decide +kernel) rfl, gwc_X7_who, ⟨by decide +kernel, by decide +kernel, by decide +kernel⟩, h1, h2⟩
theorem gce_X7_ends {M : gM} (h1 : 5 + 1 ≤ M.2.2.2.2.1) (h2 : 8 + (4 + 11) + 115 ≤ M.2.2.2.2.2) : gCe M (g_Ms 117) 1 := ⟨g_in (w := .initialized "HundredGongsModel") 45 (by decide +kernel) rfl, gwc_X7_ends, ⟨by decide +kernel, by decide +kernel, by decide +kernel⟩, h1, h2⟩
theorem gce_X7_round {M : gM} (h1 : 3 + 1 ≤ M.2.2.2.2.1) (h2 : 8 + (2 + 11) + 66 ≤ M.2.2.2.2.2) : gCe M (g_Ms 118) 1 := ⟨g_in (w := .initialized "HundredGongsModel") 45 (by decide +kernel) rfl, gwc_X7_round, ⟨by decide +kernel, by decide +kernel, by decide +kernel⟩, h1, h2⟩
theorem gce_X7_times {M : gM} (h1 : 3 + 1 ≤ M.2.2.2.2.1) (h2 : 8 + (10 + 11) + 66 ≤ M.2.2.2.2.2) : gCe M (g_Ms 119) 3 := ⟨g_in (w := .initialized "HundredGongsModel") 45 (by decide +kernel) rfl, gwc_X7_times, ⟨by decide +kernel, by decide +kernel, by decide +kernel⟩, h1, h2⟩
theorem gce_X7_apartOf {M : gM} (h1 : 4 + 1 ≤ M.2.2.2.2.1) (h2 : 8 + (6 + 11) + 92 ≤ M.2.2.2.2.2) : gCe M (g_Ms 120) 3 := ⟨g_in (w := .initialized "HundredGongsModel") 45 (by decide +kernel) rfl, gwc_X7_apartOf, ⟨by decide +kernel, by decide +kernel, by decide +kernel⟩, h1, h2⟩
theorem gce_X7_apart {M : gM} (h1 : 5 + 1 ≤ M.2.2.2.2.1) (h2 : 8 + (4 + 11) + 117 ≤ M.2.2.2.2.2) : gCe M (g_Ms 121) 3 := ⟨g_in (w := .initialized "HundredGongsModel") 45 (by decide +kernel) rfl, gwc_X7_apart, ⟨by decide +kernel, by decide +kernel, by decide +kernel⟩, h1, h2⟩
theorem gce_X7_exchange {M : gM} (h1 : 0 + 1 ≤ M.2.2.2.2.1) (h2 : 8 + (5 + 11) + 0 ≤ M.2.2.2.2.2) : gCe M (g_Ms 122) 2 := ⟨g_in (w := .initialized "HundredGongsModel") 45 (by decide +kernel) rfl, gwc_X7_exchange, ⟨by decide +kernel, by decide +kernel, by decide +kernel⟩, h1, h2⟩
theorem gce_X7_change {M : gM} (h1 : 5 + 1 ≤ M.2.2.2.2.1) (h2 : 8 + (11 + 11) + 117 ≤ M.2.2.2.2.2) : gCe M (g_Ms 123) 4 := ⟨g_in (w := .initialized "HundredGongsModel") 45 (by decide +kernel) rfl, gwc_X7_change, ⟨by decide +kernel, by decide +kernel, by decide +kernel⟩, h1, h2⟩
theorem gce_X7_bits {M : gM} (h1 : 0 + 1 ≤ M.2.2.2.2.1) (h2 : 8 + (3 + 11) + 0 ≤ M.2.2.2.2.2) : gCe M (g_Ms 124) 1 := ⟨g_in (w := .initialized "HundredGongsModel") 45 (by decide +kernel) rfl, gwc_X7_bits, ⟨by decide +kernel, by decide +kernel, by decide +kernel⟩, h1, h2⟩
theorem gce_X7_without {M : gM} (h1 : 5 + 1 ≤ M.2.2.2.2.1) (h2 : 8 + (6 + 11) + 115 ≤ M.2.2.2.2.2) : gCe M (g_Ms 125) 2 := ⟨g_in (w := .initialized "HundredGongsModel") 45 (by decide +kernel) rfl, gwc_X7_without, ⟨by decide +kernel, by decide +kernel, by decide +kernel⟩, h1, h2⟩
theorem gce_X7_over {M : gM} (h1 : 6 + 1 ≤ M.2.2.2.2.1) (h2 : 8 + (7 + 11) + 140 ≤ M.2.2.2.2.2) : gCe M (g_Ms 126) 2 := ⟨g_in (w := .initialized "HundredGongsModel") 45 (by decide +kernel) rfl, gwc_X7_over, ⟨by decide +kernel, by decide +kernel, by decide +kernel⟩, h1, h2⟩
theorem gce_X7_odds {M : gM} (h1 : 4 + 1 ≤ M.2.2.2.2.1) (h2 : 8 + (10 + 11) + 92 ≤ M.2.2.2.2.2) : gCe M (g_Ms 127) 4 := ⟨g_in (w := .initialized "HundredGongsModel") 45 (by decide +kernel) rfl, gwc_X7_odds, ⟨by decide +kernel, by decide +kernel, by decide +kernel⟩, h1, h2⟩
theorem gce_X7_seen {M : gM} (h1 : 2 + 1 ≤ M.2.2.2.2.1) (h2 : 8 + (3 + 11) + 43 ≤ M.2.2.2.2.2) : gCe M (g_Ms 128) 2 := ⟨g_in (w := .initialized "HundredGongsModel") 45 (by decide +kernel) rfl, gwc_X7_seen, ⟨by decide +kernel, by decide +kernel, by decide +kernel⟩, h1, h2⟩
theorem gce_X7_forget {M : gM} (h1 : 0 + 1 ≤ M.2.2.2.2.1) (h2 : 8 + (2 + 11) + 0 ≤ M.2.2.2.2.2) : gCe M (g_Ms 129) 0 := ⟨g_in (w := .initialized "HundredGongsModel") 45 (by decide +kernel) rfl, gwc_X7_forget, ⟨by decide +kernel, by decide +kernel, by decide +kernel⟩, h1, h2⟩
theorem gce_X7_isSo {M : gM} (h1 : 5 + 1 ≤ M.2.2.2.2.1) (h2 : 8 + (5 + 11) + 115 ≤ M.2.2.2.2.2) : gCe M (g_Ms 130) 1 := ⟨g_in (w := .initialized "HundredGongsModel") 45 (by decide +kernel) rfl, gwc_X7_isSo, ⟨by decide +kernel, by decide +kernel, by decide +kernel⟩, h1, h2⟩
theorem gce_X7_asleep {M : gM} (h1 : 6 + 1 ≤ M.2.2.2.2.1) (h2 : 8 + (5 + 11) + 139 ≤ M.2.2.2.2.2) : gCe M (g_Ms 131) 2 := ⟨g_in (w := .initialized "HundredGongsModel") 45 (by decide +kernel) rfl, gwc_X7_asleep, ⟨by decide +kernel, by decide +kernel, by decide +kernel⟩, h1, h2⟩
theorem gce_X7_count {M : gM} (h1 : 0 + 1 ≤ M.2.2.2.2.1) (h2 : 8 + (5 + 11) + 0 ≤ M.2.2.2.2.2) : gCe M (g_Ms 132) 1 := ⟨g_in (w := .initialized "HundredGongsModel") 45 (by decide +kernel) rfl, gwc_X7_count, ⟨by decide +kernel, by decide +kernel, by decide +kernel⟩, h1, h2⟩
theorem gce_J6_bitCount_0f7a4 {M : gM} (h1 : 0 + 1 ≤ M.2.2.2.2.1) (h2 : 8 + (1 + 11) + 0 ≤ M.2.2.2.2.2) : gCe M (g_Ms 133) 1 := ⟨g_in (w := .initialized "java/lang/Integer") 51 (by decide +kernel) rfl, gwc_J6_bitCount_0f7a4, ⟨by decide +kernel, by decide +kernel, by decide +kernel⟩, h1, h2⟩
theorem gce_J0_length_8abf5 {M : gM} (h1 : 1 + 1 ≤ M.2.2.2.2.1) (h2 : 8 + (1 + 11) + 20 ≤ M.2.2.2.2.2) : gCe M (g_Ms 134) 0 := ⟨g_in (w := .initialized "java/lang/String") 47 (by decide +kernel) rfl, gwc_J0_length_8abf5, ⟨by decide +kernel, by decide +kernel, by decide +kernel⟩, h1, h2⟩
theorem gce_J0_charAt_5068e {M : gM} (h1 : 3 + 1 ≤ M.2.2.2.2.1) (h2 : 8 + (2 + 11) + 64 ≤ M.2.2.2.2.2) : gCe M (g_Ms 135) 1 := ⟨g_in (w := .initialized "java/lang/String") 47 (by decide +kernel) rfl, gwc_J0_charAt_5068e, ⟨by decide +kernel, by decide +kernel, by decide +kernel⟩, h1, h2⟩
theorem gce_J0_coder_7d493 {M : gM} (h1 : 0 + 1 ≤ M.2.2.2.2.1) (h2 : 8 + (1 + 11) + 0 ≤ M.2.2.2.2.2) : gCe M (g_Ms 136) 0 := ⟨g_in (w := .initialized "java/lang/String") 47 (by decide +kernel) rfl, gwc_J0_coder_7d493, ⟨by decide +kernel, by decide +kernel, by decide +kernel⟩, h1, h2⟩
theorem gce_J0_isLatin1_aae02 {M : gM} (h1 : 0 + 1 ≤ M.2.2.2.2.1) (h2 : 8 + (1 + 11) + 0 ≤ M.2.2.2.2.2) : gCe M (g_Ms 137) 0 := ⟨g_in (w := .initialized "java/lang/String") 47 (by decide +kernel) rfl, gwc_J0_isLatin1_aae02, ⟨by decide +kernel, by decide +kernel, by decide +kernel⟩, h1, h2⟩
theorem gce_J0_checkIndex_df160 {M : gM} (h1 : 1 + 1 ≤ M.2.2.2.2.1) (h2 : 8 + (2 + 11) + 22 ≤ M.2.2.2.2.2) : gCe M (g_Ms 138) 2 := ⟨g_in (w := .initialized "java/lang/String") 47 (by decide +kernel) rfl, gwc_J0_checkIndex_df160, ⟨by decide +kernel, by decide +kernel, by decide +kernel⟩, h1, h2⟩
theorem gce_J1_charAt_3b067 {M : gM} (h1 : 2 + 1 ≤ M.2.2.2.2.1) (h2 : 8 + (2 + 11) + 43 ≤ M.2.2.2.2.2) : gCe M (g_Ms 139) 2 := ⟨g_in (w := .initialized "java/lang/StringLatin1") 48 (by decide +kernel) rfl, gwc_J1_charAt_3b067, ⟨by decide +kernel, by decide +kernel, by decide +kernel⟩, h1, h2⟩
theorem gce_J7_fill_53178 {M : gM} (h1 : 0 + 1 ≤ M.2.2.2.2.1) (h2 : 8 + (4 + 11) + 0 ≤ M.2.2.2.2.2) : gCe M (g_Ms 140) 2 := ⟨g_in (w := .initialized "java/util/Arrays") 40 (by decide +kernel) rfl, gwc_J7_fill_53178, ⟨by decide +kernel, by decide +kernel, by decide +kernel⟩, h1, h2⟩
theorem gce_J3_checkIndex_8e157 {M : gM} (h1 : 0 + 1 ≤ M.2.2.2.2.1) (h2 : 8 + (3 + 11) + 0 ≤ M.2.2.2.2.2) : gCe M (g_Ms 141) 3 := ⟨g_in (w := .initialized "jdk/internal/util/Preconditions") 49 (by decide +kernel) rfl, gwc_J3_checkIndex_8e157, ⟨by decide +kernel, by decide +kernel, by decide +kernel⟩, h1, h2⟩
