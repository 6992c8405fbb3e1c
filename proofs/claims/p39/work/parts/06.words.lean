theorem tw_0 : Cond.initialized RL ∈ eg_T := eg_in 23 (by decide +kernel) (by decide +kernel)
theorem tw_1 : Cond.initialized RX6 ∈ eg_T := eg_in 24 (by decide +kernel) (by decide +kernel)
theorem tw_2 : Cond.initialized RX5 ∈ eg_T := eg_in 25 (by decide +kernel) (by decide +kernel)
theorem tw_3 : Cond.initialized RX2 ∈ eg_T := eg_in 26 (by decide +kernel) (by decide +kernel)
theorem tw_4 : Cond.initialized RX8 ∈ eg_T := eg_in 27 (by decide +kernel) (by decide +kernel)
theorem tw_5 : Cond.initialized RX7 ∈ eg_T := eg_in 28 (by decide +kernel) (by decide +kernel)
theorem tw_6 : Cond.initialized "java/lang/Throwable" ∈ eg_T := eg_in 29 (by decide +kernel) (by decide +kernel)
theorem tw_7 : Cond.initialized "java/lang/Exception" ∈ eg_T := eg_in 30 (by decide +kernel) (by decide +kernel)
theorem tw_8 : Cond.initialized "java/lang/RuntimeException" ∈ eg_T := eg_in 31 (by decide +kernel) (by decide +kernel)
theorem tw_9 : Cond.initialized "java/lang/IllegalArgumentException" ∈ eg_T := eg_in 32 (by decide +kernel) (by decide +kernel)
theorem tw_10 : Cond.initialized "java/lang/IllegalStateException" ∈ eg_T := eg_in 33 (by decide +kernel) (by decide +kernel)
theorem tw_11 : Cond.initialized RX0 ∈ eg_T := eg_in 34 (by decide +kernel) (by decide +kernel)
theorem tw_12 : Cond.initialized "java/lang/IndexOutOfBoundsException" ∈ eg_T := eg_in 35 (by decide +kernel) (by decide +kernel)
theorem tw_13 : Cond.initialized RX4 ∈ eg_T := eg_in 36 (by decide +kernel) (by decide +kernel)
theorem tw_14 : Cond.initialized RX3 ∈ eg_T := eg_in 37 (by decide +kernel) (by decide +kernel)
theorem tw_15 : Cond.initialized RJ9 ∈ eg_T := eg_in 38 (by decide +kernel) (by decide +kernel)
theorem tw_16 : Cond.initialized RJ7 ∈ eg_T := eg_in 39 (by decide +kernel) (by decide +kernel)
theorem tw_17 : Cond.classLink RL 29 RX6 ∈ eg_T := eg_in 40 (by decide +kernel) (by decide +kernel)
theorem tw_18 : Cond.instantiable RX6 8 ∈ eg_T := eg_in 41 (by decide +kernel) (by decide +kernel)
theorem tw_19 : Cond.methodLink RL 107 yX6_init ∈ eg_T := eg_in 42 (by decide +kernel) (by decide +kernel)
theorem tw_20 : Cond.instanceMethod yX6_init ∈ eg_T := eg_in 43 (by decide +kernel) (by decide +kernel)
theorem tw_21 : Cond.code yX6_init cX6_init 1 none ∈ eg_T := eg_in 44 (by decide +kernel) (by decide +kernel)
theorem tw_22 : Cond.methodLink RX6 3 Lib.objectInit ∈ eg_T := eg_in 45 (by decide +kernel) (by decide +kernel)
theorem tw_23 : Cond.instanceMethod Lib.objectInit ∈ eg_T := eg_in 46 (by decide +kernel) (by decide +kernel)
theorem tw_24 : Cond.code Lib.objectInit ⟨#[0xb1]⟩ 1 none ∈ eg_T := eg_in 47 (by decide +kernel) (by decide +kernel)
theorem tw_25 : Cond.classLink RX6 9 RX0 ∈ eg_T := eg_in 48 (by decide +kernel) (by decide +kernel)
theorem tw_26 : Cond.arrayOver (.object RX0) ∈ lw_tbl := List.mem_of_getElem? (i := 49) (by decide +kernel)
theorem tw_27 : Cond.classLink RX6 15 RX3 ∈ eg_T := eg_in 50 (by decide +kernel) (by decide +kernel)
theorem tw_28 : Cond.arrayOver (.object RX3) ∈ lw_tbl := List.mem_of_getElem? (i := 51) (by decide +kernel)
theorem tw_29 : Cond.classLink RX6 21 RX5 ∈ eg_T := eg_in 52 (by decide +kernel) (by decide +kernel)
theorem tw_30 : Cond.instantiable RX5 5 ∈ eg_T := eg_in 53 (by decide +kernel) (by decide +kernel)
theorem tw_31 : Cond.methodLinkNest RX6 23 yX5_init RX6 ∈ lw_tbl := List.mem_of_getElem? (i := 54) (by decide +kernel)
theorem tw_32 : Cond.instanceMethod yX5_init ∈ eg_T := eg_in 55 (by decide +kernel) (by decide +kernel)
theorem tw_33 : Cond.code yX5_init cX5_init 1 none ∈ eg_T := eg_in 56 (by decide +kernel) (by decide +kernel)
theorem tw_34 : Cond.methodLink RX5 3 Lib.objectInit ∈ eg_T := eg_in 57 (by decide +kernel) (by decide +kernel)
theorem tw_35 : Cond.fieldLink RX5 9 RX5 "limit" "I" ∈ eg_T := eg_in 58 (by decide +kernel) (by decide +kernel)
theorem tw_36 : Cond.fieldLinkNest RX3 25 RX5 "count" "I" RX6 ∈ lw_tbl := List.mem_of_getElem? (i := 59) (by decide +kernel)
theorem tw_37 : Cond.fieldLink RX5 15 RX5 "count" "I" ∈ eg_T := eg_in 60 (by decide +kernel) (by decide +kernel)
theorem tw_38 : Cond.fieldLinkNest RX6 159 RX5 "count" "I" RX6 ∈ lw_tbl := List.mem_of_getElem? (i := 61) (by decide +kernel)
theorem tw_39 : Cond.fieldLink RX5 18 RX5 "loudCount" "I" ∈ eg_T := eg_in 62 (by decide +kernel) (by decide +kernel)
theorem tw_40 : Cond.fieldLinkNest RX3 36 RX5 "loudCount" "I" RX6 ∈ lw_tbl := List.mem_of_getElem? (i := 63) (by decide +kernel)
theorem tw_41 : Cond.fieldLinkNest RX6 169 RX5 "loudCount" "I" RX6 ∈ lw_tbl := List.mem_of_getElem? (i := 64) (by decide +kernel)
theorem tw_42 : Cond.fieldLinkNest RX3 30 RX5 "first" "I" RX6 ∈ lw_tbl := List.mem_of_getElem? (i := 65) (by decide +kernel)
theorem tw_43 : Cond.fieldLink RX5 21 RX5 "first" "I" ∈ eg_T := eg_in 66 (by decide +kernel) (by decide +kernel)
theorem tw_44 : Cond.fieldLinkNest RX6 172 RX5 "first" "I" RX6 ∈ lw_tbl := List.mem_of_getElem? (i := 67) (by decide +kernel)
theorem tw_45 : Cond.fieldLinkNest RX3 33 RX5 "last" "I" RX6 ∈ lw_tbl := List.mem_of_getElem? (i := 68) (by decide +kernel)
theorem tw_46 : Cond.fieldLink RX5 24 RX5 "last" "I" ∈ eg_T := eg_in 69 (by decide +kernel) (by decide +kernel)
theorem tw_47 : Cond.fieldLinkNest RX6 175 RX5 "last" "I" RX6 ∈ lw_tbl := List.mem_of_getElem? (i := 70) (by decide +kernel)
theorem tw_59 : Cond.classLink RX6 28 RX2 ∈ eg_T := eg_in 82 (by decide +kernel) (by decide +kernel)
theorem tw_60 : Cond.instantiable RX2 1 ∈ eg_T := eg_in 83 (by decide +kernel) (by decide +kernel)
theorem tw_61 : Cond.methodLinkNest RX6 30 yX2_init RX6 ∈ lw_tbl := List.mem_of_getElem? (i := 84) (by decide +kernel)
theorem tw_62 : Cond.instanceMethod yX2_init ∈ eg_T := eg_in 85 (by decide +kernel) (by decide +kernel)
theorem tw_63 : Cond.code yX2_init cX2_init 1 none ∈ eg_T := eg_in 86 (by decide +kernel) (by decide +kernel)
theorem tw_64 : Cond.methodLink RX2 3 Lib.objectInit ∈ eg_T := eg_in 87 (by decide +kernel) (by decide +kernel)
theorem tw_65 : Cond.fieldLink RX2 9 RX2 "added" "[I" ∈ eg_T := eg_in 88 (by decide +kernel) (by decide +kernel)
theorem tw_69 : Cond.arrayClass .int ∈ eg_T := eg_in 92 (by decide +kernel) (by decide +kernel)
theorem tw_70 : Cond.fieldLink RX6 11 RX6 "hallRow" "[LEchoBureau$Hall;" ∈ eg_T := eg_in 93 (by decide +kernel) (by decide +kernel)
theorem tw_71 : Cond.fieldLink RX6 17 RX6 "standardRow" "[LEchoBureau$Standard;" ∈ eg_T := eg_in 94 (by decide +kernel) (by decide +kernel)
theorem tw_72 : Cond.fieldLink RX6 39 RX6 "hallCount" "I" ∈ eg_T := eg_in 95 (by decide +kernel) (by decide +kernel)
theorem tw_73 : Cond.fieldLink RX6 101 RX6 "standardCount" "I" ∈ eg_T := eg_in 96 (by decide +kernel) (by decide +kernel)
theorem tw_74 : Cond.fieldLink RX6 141 RX6 "today" "I" ∈ eg_T := eg_in 97 (by decide +kernel) (by decide +kernel)
theorem tw_75 : Cond.fieldLink RX6 113 RX6 "inspectionCount" "I" ∈ eg_T := eg_in 98 (by decide +kernel) (by decide +kernel)
theorem tw_76 : Cond.fieldLink RX6 24 RX6 "tally" "LEchoBureau$Tally;" ∈ eg_T := eg_in 99 (by decide +kernel) (by decide +kernel)
theorem tw_77 : Cond.fieldLink RX6 31 RX6 "loudnesses" "LEchoBureau$Loudnesses;" ∈ eg_T := eg_in 100 (by decide +kernel) (by decide +kernel)
theorem tw_95 : Cond.methodLink RL 28 yX6_addHall ∈ eg_T := eg_in 118 (by decide +kernel) (by decide +kernel)
theorem tw_96 : Cond.instanceMethod yX6_addHall ∈ eg_T := eg_in 119 (by decide +kernel) (by decide +kernel)
theorem tw_97 : Cond.selects RX6 yX6_addHall yX6_addHall ∈ eg_T := eg_in 120 (by decide +kernel) (by decide +kernel)
theorem tw_98 : Cond.code yX6_addHall cX6_addHall 3 (some .int) ∈ eg_T := eg_in 121 (by decide +kernel) (by decide +kernel)
theorem tw_99 : Cond.methodLink RX6 35 yX6_checkDamping ∈ eg_T := eg_in 122 (by decide +kernel) (by decide +kernel)
theorem tw_100 : Cond.static yX6_checkDamping ∈ eg_T := eg_in 123 (by decide +kernel) (by decide +kernel)
theorem tw_101 : Cond.code yX6_checkDamping cX6_checkDamping 1 none ∈ eg_T := eg_in 124 (by decide +kernel) (by decide +kernel)
theorem tw_102 : Cond.methodLink RX6 59 yX6_isWithin ∈ eg_T := eg_in 125 (by decide +kernel) (by decide +kernel)
theorem tw_103 : Cond.static yX6_isWithin ∈ eg_T := eg_in 126 (by decide +kernel) (by decide +kernel)
theorem tw_104 : Cond.code yX6_isWithin cX6_isWithin 3 (some .boolean) ∈ eg_T := eg_in 127 (by decide +kernel) (by decide +kernel)
theorem tw_105 : Cond.classLink RX6 63 "java/lang/IllegalArgumentException" ∈ eg_T := eg_in 128 (by decide +kernel) (by decide +kernel)
theorem tw_106 : Cond.instantiable "java/lang/IllegalArgumentException" 6 ∈ eg_T := eg_in 129 (by decide +kernel) (by decide +kernel)
theorem tw_107 : Cond.castable "java/lang/IllegalArgumentException" "java/lang/IllegalArgumentException" ∈ lw_tbl := List.mem_of_getElem? (i := 130) (by decide +kernel)
theorem tw_108 : Cond.declares ⟨"java/lang/RuntimeException", "<init>", "()V"⟩ ∈ lw_tbl := List.mem_of_getElem? (i := 131) (by decide +kernel)
theorem tw_109 : Cond.declares ⟨"java/lang/RuntimeException", "<init>", "(Ljava/lang/String;)V"⟩ ∈ lw_tbl := List.mem_of_getElem? (i := 132) (by decide +kernel)
theorem tw_110 : Cond.declares ⟨"java/lang/Exception", "<init>", "()V"⟩ ∈ lw_tbl := List.mem_of_getElem? (i := 133) (by decide +kernel)
theorem tw_111 : Cond.declares ⟨"java/lang/Exception", "<init>", "(Ljava/lang/String;)V"⟩ ∈ lw_tbl := List.mem_of_getElem? (i := 134) (by decide +kernel)
theorem tw_112 : Cond.declares ⟨"java/lang/Throwable", "<init>", "()V"⟩ ∈ lw_tbl := List.mem_of_getElem? (i := 135) (by decide +kernel)
theorem tw_113 : Cond.declares ⟨"java/lang/Throwable", "<init>", "(Ljava/lang/String;)V"⟩ ∈ lw_tbl := List.mem_of_getElem? (i := 136) (by decide +kernel)
theorem tw_114 : Cond.selects "java/lang/IllegalArgumentException" ⟨"java/lang/Throwable", "fillInStackTrace", "(I)Ljava/lang/Throwable;"⟩ ⟨"java/lang/Throwable", "fillInStackTrace", "(I)Ljava/lang/Throwable;"⟩ ∈ eg_T := eg_in 137 (by decide +kernel) (by decide +kernel)
theorem tw_115 : Cond.selects "java/lang/IllegalArgumentException" ⟨"java/lang/Throwable", "fillInStackTrace", "()Ljava/lang/Throwable;"⟩ ⟨"java/lang/Throwable", "fillInStackTrace", "()Ljava/lang/Throwable;"⟩ ∈ eg_T := eg_in 138 (by decide +kernel) (by decide +kernel)
theorem tw_126 : Cond.fieldLink "java/lang/Throwable" 198 "java/lang/Throwable" "backtrace" "Ljava/lang/Object;" ∈ eg_T := eg_in 149 (by decide +kernel) (by decide +kernel)
theorem tw_128 : Cond.instanceMethod ⟨"java/lang/Throwable", "<init>", "()V"⟩ ∈ eg_T := eg_in 151 (by decide +kernel) (by decide +kernel)
theorem tw_129 : Cond.code ⟨"java/lang/Throwable", "<init>", "()V"⟩ prog_19_method_1_code 1 none ∈ eg_T := eg_in 152 (by decide +kernel) (by decide +kernel)
theorem tw_130 : Cond.methodLink "java/lang/Throwable" 1 Lib.objectInit ∈ eg_T := eg_in 153 (by decide +kernel) (by decide +kernel)
theorem tw_131 : Cond.fieldLink "java/lang/Throwable" 13 "java/lang/Throwable" "UNASSIGNED_STACK" "[Ljava/lang/StackTraceElement;" ∈ eg_T := eg_in 154 (by decide +kernel) (by decide +kernel)
theorem tw_133 : Cond.fieldLink "java/lang/Throwable" 20 "java/lang/Throwable" "SUPPRESSED_SENTINEL" "Ljava/util/List;" ∈ eg_T := eg_in 156 (by decide +kernel) (by decide +kernel)
theorem tw_135 : Cond.methodLink "java/lang/Throwable" 27 ⟨"java/lang/Throwable", "fillInStackTrace", "()Ljava/lang/Throwable;"⟩ ∈ eg_T := eg_in 158 (by decide +kernel) (by decide +kernel)
theorem tw_136 : Cond.instanceMethod ⟨"java/lang/Throwable", "fillInStackTrace", "()Ljava/lang/Throwable;"⟩ ∈ eg_T := eg_in 159 (by decide +kernel) (by decide +kernel)
theorem tw_138 : Cond.selects "java/lang/IllegalStateException" ⟨"java/lang/Throwable", "fillInStackTrace", "()Ljava/lang/Throwable;"⟩ ⟨"java/lang/Throwable", "fillInStackTrace", "()Ljava/lang/Throwable;"⟩ ∈ eg_T := eg_in 161 (by decide +kernel) (by decide +kernel)
theorem tw_139 : Cond.selects "java/lang/IndexOutOfBoundsException" ⟨"java/lang/Throwable", "fillInStackTrace", "()Ljava/lang/Throwable;"⟩ ⟨"java/lang/Throwable", "fillInStackTrace", "()Ljava/lang/Throwable;"⟩ ∈ eg_T := eg_in 162 (by decide +kernel) (by decide +kernel)
theorem tw_141 : Cond.methodLink "java/lang/Throwable" 202 ⟨"java/lang/Throwable", "fillInStackTrace", "(I)Ljava/lang/Throwable;"⟩ ∈ eg_T := eg_in 164 (by decide +kernel) (by decide +kernel)
theorem tw_143 : Cond.instanceMethod ⟨"java/lang/Throwable", "fillInStackTrace", "(I)Ljava/lang/Throwable;"⟩ ∈ eg_T := eg_in 166 (by decide +kernel) (by decide +kernel)
theorem tw_144 : Cond.instantiable "java/lang/Throwable" 6 ∈ eg_T := eg_in 167 (by decide +kernel) (by decide +kernel)
theorem tw_145 : Cond.native ⟨"java/lang/Throwable", "fillInStackTrace", "(I)Ljava/lang/Throwable;"⟩ ∈ eg_T := eg_in 168 (by decide +kernel) (by decide +kernel)
theorem tw_146 : Cond.stringRef RX6 219 "no such damping" ∈ lw_tbl := List.mem_of_getElem? (i := 169) (by decide +kernel)
theorem tw_147 : Cond.methodLink RX6 67 ⟨"java/lang/IllegalArgumentException", "<init>", "(Ljava/lang/String;)V"⟩ ∈ eg_T := eg_in 170 (by decide +kernel) (by decide +kernel)
theorem tw_148 : Cond.instanceMethod ⟨"java/lang/IllegalArgumentException", "<init>", "(Ljava/lang/String;)V"⟩ ∈ eg_T := eg_in 171 (by decide +kernel) (by decide +kernel)
theorem tw_149 : Cond.code ⟨"java/lang/IllegalArgumentException", "<init>", "(Ljava/lang/String;)V"⟩ prog_13_method_2_code 2 none ∈ eg_T := eg_in 172 (by decide +kernel) (by decide +kernel)
theorem tw_150 : Cond.methodLink "java/lang/IllegalArgumentException" 7 ⟨"java/lang/RuntimeException", "<init>", "(Ljava/lang/String;)V"⟩ ∈ eg_T := eg_in 173 (by decide +kernel) (by decide +kernel)
theorem tw_151 : Cond.instanceMethod ⟨"java/lang/RuntimeException", "<init>", "(Ljava/lang/String;)V"⟩ ∈ eg_T := eg_in 174 (by decide +kernel) (by decide +kernel)
theorem tw_152 : Cond.code ⟨"java/lang/RuntimeException", "<init>", "(Ljava/lang/String;)V"⟩ prog_17_method_2_code 2 none ∈ eg_T := eg_in 175 (by decide +kernel) (by decide +kernel)
theorem tw_153 : Cond.methodLink "java/lang/RuntimeException" 7 ⟨"java/lang/Exception", "<init>", "(Ljava/lang/String;)V"⟩ ∈ eg_T := eg_in 176 (by decide +kernel) (by decide +kernel)
theorem tw_154 : Cond.instanceMethod ⟨"java/lang/Exception", "<init>", "(Ljava/lang/String;)V"⟩ ∈ eg_T := eg_in 177 (by decide +kernel) (by decide +kernel)
theorem tw_155 : Cond.code ⟨"java/lang/Exception", "<init>", "(Ljava/lang/String;)V"⟩ prog_12_method_2_code 2 none ∈ eg_T := eg_in 178 (by decide +kernel) (by decide +kernel)
theorem tw_156 : Cond.methodLink "java/lang/Exception" 7 ⟨"java/lang/Throwable", "<init>", "(Ljava/lang/String;)V"⟩ ∈ eg_T := eg_in 179 (by decide +kernel) (by decide +kernel)
theorem tw_157 : Cond.instanceMethod ⟨"java/lang/Throwable", "<init>", "(Ljava/lang/String;)V"⟩ ∈ eg_T := eg_in 180 (by decide +kernel) (by decide +kernel)
theorem tw_158 : Cond.code ⟨"java/lang/Throwable", "<init>", "(Ljava/lang/String;)V"⟩ prog_19_method_2_code 2 none ∈ eg_T := eg_in 181 (by decide +kernel) (by decide +kernel)
theorem tw_159 : Cond.fieldLink "java/lang/Throwable" 198 "java/lang/Throwable" "backtrace" "Ljava/lang/Object;" ∈ eg_T := eg_in 182 (by decide +kernel) (by decide +kernel)
theorem tw_160 : Cond.fieldLink "java/lang/Throwable" 31 "java/lang/Throwable" "detailMessage" "Ljava/lang/String;" ∈ eg_T := eg_in 183 (by decide +kernel) (by decide +kernel)
theorem tw_161 : Cond.fieldLink "java/lang/Throwable" 7 "java/lang/Throwable" "cause" "Ljava/lang/Throwable;" ∈ eg_T := eg_in 184 (by decide +kernel) (by decide +kernel)
theorem tw_162 : Cond.fieldLink "java/lang/Throwable" 17 "java/lang/Throwable" "stackTrace" "[Ljava/lang/StackTraceElement;" ∈ eg_T := eg_in 185 (by decide +kernel) (by decide +kernel)
theorem tw_163 : Cond.fieldLink "java/lang/Throwable" 24 "java/lang/Throwable" "suppressedExceptions" "Ljava/util/List;" ∈ eg_T := eg_in 186 (by decide +kernel) (by decide +kernel)
theorem tw_172 : Cond.arrayClass .byte ∈ eg_T := eg_in 195 (by decide +kernel) (by decide +kernel)
theorem tw_173 : Cond.classLink RX6 43 "java/lang/IllegalStateException" ∈ eg_T := eg_in 196 (by decide +kernel) (by decide +kernel)
theorem tw_174 : Cond.instantiable "java/lang/IllegalStateException" 6 ∈ eg_T := eg_in 197 (by decide +kernel) (by decide +kernel)
theorem tw_175 : Cond.castable "java/lang/IllegalStateException" "java/lang/IllegalStateException" ∈ lw_tbl := List.mem_of_getElem? (i := 198) (by decide +kernel)
theorem tw_176 : Cond.selects "java/lang/IllegalStateException" ⟨"java/lang/Throwable", "fillInStackTrace", "(I)Ljava/lang/Throwable;"⟩ ⟨"java/lang/Throwable", "fillInStackTrace", "(I)Ljava/lang/Throwable;"⟩ ∈ eg_T := eg_in 199 (by decide +kernel) (by decide +kernel)
theorem tw_182 : Cond.stringRef RX6 45 "no room for another hall" ∈ lw_tbl := List.mem_of_getElem? (i := 205) (by decide +kernel)
theorem tw_183 : Cond.methodLink RX6 47 ⟨"java/lang/IllegalStateException", "<init>", "(Ljava/lang/String;)V"⟩ ∈ eg_T := eg_in 206 (by decide +kernel) (by decide +kernel)
theorem tw_184 : Cond.instanceMethod ⟨"java/lang/IllegalStateException", "<init>", "(Ljava/lang/String;)V"⟩ ∈ eg_T := eg_in 207 (by decide +kernel) (by decide +kernel)
theorem tw_185 : Cond.code ⟨"java/lang/IllegalStateException", "<init>", "(Ljava/lang/String;)V"⟩ prog_14_method_2_code 2 none ∈ eg_T := eg_in 208 (by decide +kernel) (by decide +kernel)
theorem tw_186 : Cond.methodLink "java/lang/IllegalStateException" 7 ⟨"java/lang/RuntimeException", "<init>", "(Ljava/lang/String;)V"⟩ ∈ eg_T := eg_in 209 (by decide +kernel) (by decide +kernel)
theorem tw_189 : Cond.instantiable RX0 6 ∈ eg_T := eg_in 212 (by decide +kernel) (by decide +kernel)
theorem tw_190 : Cond.methodLinkNest RX6 50 yX0_init RX6 ∈ lw_tbl := List.mem_of_getElem? (i := 213) (by decide +kernel)
theorem tw_191 : Cond.instanceMethod yX0_init ∈ eg_T := eg_in 214 (by decide +kernel) (by decide +kernel)
theorem tw_192 : Cond.code yX0_init cX0_init 2 none ∈ eg_T := eg_in 215 (by decide +kernel) (by decide +kernel)
theorem tw_193 : Cond.methodLink RX0 3 Lib.objectInit ∈ eg_T := eg_in 216 (by decide +kernel) (by decide +kernel)
theorem tw_194 : Cond.classLink RX0 9 RX4 ∈ eg_T := eg_in 217 (by decide +kernel) (by decide +kernel)
theorem tw_195 : Cond.arrayOver (.object RX4) ∈ lw_tbl := List.mem_of_getElem? (i := 218) (by decide +kernel)
theorem tw_196 : Cond.fieldLink RX0 11 RX0 "surfaces" "[LEchoBureau$Surface;" ∈ eg_T := eg_in 219 (by decide +kernel) (by decide +kernel)
theorem tw_197 : Cond.fieldLinkNest RX6 215 RX0 "surfaces" "[LEchoBureau$Surface;" RX6 ∈ lw_tbl := List.mem_of_getElem? (i := 220) (by decide +kernel)
theorem tw_198 : Cond.fieldLink RX0 24 RX0 "surfaceCount" "I" ∈ eg_T := eg_in 221 (by decide +kernel) (by decide +kernel)
theorem tw_199 : Cond.fieldLinkNest RX6 148 RX0 "surfaceCount" "I" RX6 ∈ lw_tbl := List.mem_of_getElem? (i := 222) (by decide +kernel)
theorem tw_200 : Cond.fieldLink RX0 21 RX0 "damping" "I" ∈ eg_T := eg_in 223 (by decide +kernel) (by decide +kernel)
theorem tw_201 : Cond.fieldLinkNest RX6 93 RX0 "damping" "I" RX6 ∈ lw_tbl := List.mem_of_getElem? (i := 224) (by decide +kernel)
theorem tw_202 : Cond.fieldLinkNest RX6 96 RX0 "dust" "I" RX6 ∈ lw_tbl := List.mem_of_getElem? (i := 225) (by decide +kernel)
theorem tw_203 : Cond.fieldLink RX0 30 RX0 "dust" "I" ∈ eg_T := eg_in 226 (by decide +kernel) (by decide +kernel)
theorem tw_204 : Cond.fieldLink RX0 17 RX0 "certificate" "I" ∈ eg_T := eg_in 227 (by decide +kernel) (by decide +kernel)
theorem tw_205 : Cond.fieldLinkNest RX6 126 RX0 "certificate" "I" RX6 ∈ lw_tbl := List.mem_of_getElem? (i := 228) (by decide +kernel)
theorem tw_206 : Cond.fieldLink RX0 27 RX0 "certificateDays" "I" ∈ eg_T := eg_in 229 (by decide +kernel) (by decide +kernel)
theorem tw_207 : Cond.fieldLinkNest RX6 133 RX0 "certificateDays" "I" RX6 ∈ lw_tbl := List.mem_of_getElem? (i := 230) (by decide +kernel)
theorem tw_221 : Cond.methodLink RL 45 yX6_addSurface ∈ eg_T := eg_in 244 (by decide +kernel) (by decide +kernel)
theorem tw_222 : Cond.instanceMethod yX6_addSurface ∈ eg_T := eg_in 245 (by decide +kernel) (by decide +kernel)
theorem tw_223 : Cond.selects RX6 yX6_addSurface yX6_addSurface ∈ eg_T := eg_in 246 (by decide +kernel) (by decide +kernel)
theorem tw_224 : Cond.code yX6_addSurface cX6_addSurface 5 (some .int) ∈ eg_T := eg_in 247 (by decide +kernel) (by decide +kernel)
theorem tw_225 : Cond.methodLink RX6 52 yX6_findHall ∈ eg_T := eg_in 248 (by decide +kernel) (by decide +kernel)
theorem tw_227 : Cond.instanceMethod yX6_findHall ∈ eg_T := eg_in 250 (by decide +kernel) (by decide +kernel)
theorem tw_228 : Cond.code yX6_findHall cX6_findHall 3 (some (.object "EchoBureau$Hall")) ∈ eg_T := eg_in 251 (by decide +kernel) (by decide +kernel)
theorem tw_229 : Cond.classLink RX6 227 "java/lang/IndexOutOfBoundsException" ∈ eg_T := eg_in 252 (by decide +kernel) (by decide +kernel)
theorem tw_230 : Cond.instantiable "java/lang/IndexOutOfBoundsException" 6 ∈ eg_T := eg_in 253 (by decide +kernel) (by decide +kernel)
theorem tw_231 : Cond.castable "java/lang/IndexOutOfBoundsException" "java/lang/IndexOutOfBoundsException" ∈ lw_tbl := List.mem_of_getElem? (i := 254) (by decide +kernel)
theorem tw_232 : Cond.selects "java/lang/IndexOutOfBoundsException" ⟨"java/lang/Throwable", "fillInStackTrace", "(I)Ljava/lang/Throwable;"⟩ ⟨"java/lang/Throwable", "fillInStackTrace", "(I)Ljava/lang/Throwable;"⟩ ∈ eg_T := eg_in 255 (by decide +kernel) (by decide +kernel)
theorem tw_238 : Cond.stringRef RX6 229 "no such hall" ∈ lw_tbl := List.mem_of_getElem? (i := 261) (by decide +kernel)
theorem tw_239 : Cond.methodLink RX6 231 ⟨"java/lang/IndexOutOfBoundsException", "<init>", "(Ljava/lang/String;)V"⟩ ∈ eg_T := eg_in 262 (by decide +kernel) (by decide +kernel)
theorem tw_240 : Cond.instanceMethod ⟨"java/lang/IndexOutOfBoundsException", "<init>", "(Ljava/lang/String;)V"⟩ ∈ eg_T := eg_in 263 (by decide +kernel) (by decide +kernel)
theorem tw_241 : Cond.code ⟨"java/lang/IndexOutOfBoundsException", "<init>", "(Ljava/lang/String;)V"⟩ prog_15_method_2_code 2 none ∈ eg_T := eg_in 264 (by decide +kernel) (by decide +kernel)
theorem tw_242 : Cond.methodLink "java/lang/IndexOutOfBoundsException" 7 ⟨"java/lang/RuntimeException", "<init>", "(Ljava/lang/String;)V"⟩ ∈ eg_T := eg_in 265 (by decide +kernel) (by decide +kernel)
theorem tw_245 : Cond.stringRef RX6 232 "no such hall yet" ∈ lw_tbl := List.mem_of_getElem? (i := 268) (by decide +kernel)
theorem tw_246 : Cond.methodLink RX6 56 yX6_checkDistance ∈ eg_T := eg_in 269 (by decide +kernel) (by decide +kernel)
theorem tw_247 : Cond.static yX6_checkDistance ∈ eg_T := eg_in 270 (by decide +kernel) (by decide +kernel)
theorem tw_248 : Cond.code yX6_checkDistance cX6_checkDistance 1 none ∈ eg_T := eg_in 271 (by decide +kernel) (by decide +kernel)
theorem tw_249 : Cond.stringRef RX6 221 "no such distance" ∈ lw_tbl := List.mem_of_getElem? (i := 272) (by decide +kernel)
theorem tw_250 : Cond.stringRef RX6 65 "no such hardness" ∈ lw_tbl := List.mem_of_getElem? (i := 273) (by decide +kernel)
theorem tw_251 : Cond.methodLinkNest RX6 68 yX0_isFull RX6 ∈ lw_tbl := List.mem_of_getElem? (i := 274) (by decide +kernel)
theorem tw_253 : Cond.instanceMethod yX0_isFull ∈ eg_T := eg_in 276 (by decide +kernel) (by decide +kernel)
theorem tw_254 : Cond.code yX0_isFull cX0_isFull 1 (some .boolean) ∈ eg_T := eg_in 277 (by decide +kernel) (by decide +kernel)
theorem tw_255 : Cond.stringRef RX6 72 "no room for another surface" ∈ lw_tbl := List.mem_of_getElem? (i := 278) (by decide +kernel)
theorem tw_256 : Cond.methodLinkNest RX6 74 yX0_loseCertificate RX6 ∈ lw_tbl := List.mem_of_getElem? (i := 279) (by decide +kernel)
theorem tw_258 : Cond.instanceMethod yX0_loseCertificate ∈ eg_T := eg_in 281 (by decide +kernel) (by decide +kernel)
theorem tw_259 : Cond.code yX0_loseCertificate cX0_loseCertificate 1 none ∈ eg_T := eg_in 282 (by decide +kernel) (by decide +kernel)
theorem tw_260 : Cond.classLink RX6 77 RX4 ∈ eg_T := eg_in 283 (by decide +kernel) (by decide +kernel)
theorem tw_261 : Cond.instantiable RX4 2 ∈ eg_T := eg_in 284 (by decide +kernel) (by decide +kernel)
theorem tw_262 : Cond.methodLinkNest RX6 79 yX4_init RX6 ∈ lw_tbl := List.mem_of_getElem? (i := 285) (by decide +kernel)
theorem tw_263 : Cond.instanceMethod yX4_init ∈ eg_T := eg_in 286 (by decide +kernel) (by decide +kernel)
theorem tw_264 : Cond.code yX4_init cX4_init 3 none ∈ eg_T := eg_in 287 (by decide +kernel) (by decide +kernel)
theorem tw_265 : Cond.methodLink RX4 3 Lib.objectInit ∈ eg_T := eg_in 288 (by decide +kernel) (by decide +kernel)
theorem tw_266 : Cond.fieldLink RX4 15 RX4 "hardnessAsBuilt" "I" ∈ eg_T := eg_in 289 (by decide +kernel) (by decide +kernel)
theorem tw_267 : Cond.fieldLink RX4 9 RX4 "distance" "I" ∈ eg_T := eg_in 290 (by decide +kernel) (by decide +kernel)
theorem tw_268 : Cond.fieldLinkNest RX6 90 RX4 "distance" "I" RX6 ∈ lw_tbl := List.mem_of_getElem? (i := 291) (by decide +kernel)
theorem tw_274 : Cond.methodLinkNest RX6 82 yX0_build RX6 ∈ lw_tbl := List.mem_of_getElem? (i := 297) (by decide +kernel)
theorem tw_276 : Cond.instanceMethod yX0_build ∈ eg_T := eg_in 299 (by decide +kernel) (by decide +kernel)
theorem tw_277 : Cond.code yX0_build cX0_build 3 (some .int) ∈ eg_T := eg_in 300 (by decide +kernel) (by decide +kernel)
theorem tw_278 : Cond.methodLink RL 120 yX6_surfacesOf ∈ eg_T := eg_in 301 (by decide +kernel) (by decide +kernel)
theorem tw_279 : Cond.instanceMethod yX6_surfacesOf ∈ eg_T := eg_in 302 (by decide +kernel) (by decide +kernel)
theorem tw_280 : Cond.selects RX6 yX6_surfacesOf yX6_surfacesOf ∈ eg_T := eg_in 303 (by decide +kernel) (by decide +kernel)
theorem tw_281 : Cond.code yX6_surfacesOf cX6_surfacesOf 2 (some .int) ∈ eg_T := eg_in 304 (by decide +kernel) (by decide +kernel)
theorem tw_282 : Cond.methodLink RL 130 yX6_distanceOf ∈ eg_T := eg_in 305 (by decide +kernel) (by decide +kernel)
theorem tw_283 : Cond.instanceMethod yX6_distanceOf ∈ eg_T := eg_in 306 (by decide +kernel) (by decide +kernel)
theorem tw_284 : Cond.selects RX6 yX6_distanceOf yX6_distanceOf ∈ eg_T := eg_in 307 (by decide +kernel) (by decide +kernel)
theorem tw_285 : Cond.code yX6_distanceOf cX6_distanceOf 3 (some .int) ∈ eg_T := eg_in 308 (by decide +kernel) (by decide +kernel)
theorem tw_286 : Cond.methodLink RX6 86 yX6_findSurface ∈ eg_T := eg_in 309 (by decide +kernel) (by decide +kernel)
theorem tw_287 : Cond.static yX6_findSurface ∈ eg_T := eg_in 310 (by decide +kernel) (by decide +kernel)
theorem tw_288 : Cond.code yX6_findSurface cX6_findSurface 3 (some (.object "EchoBureau$Surface")) ∈ eg_T := eg_in 311 (by decide +kernel) (by decide +kernel)
theorem tw_289 : Cond.stringRef RX6 238 "no such surface" ∈ lw_tbl := List.mem_of_getElem? (i := 312) (by decide +kernel)
theorem tw_290 : Cond.stringRef RX6 240 "no such surface yet" ∈ lw_tbl := List.mem_of_getElem? (i := 313) (by decide +kernel)
theorem tw_291 : Cond.methodLink RL 133 yX6_hardnessOf ∈ eg_T := eg_in 314 (by decide +kernel) (by decide +kernel)
theorem tw_292 : Cond.instanceMethod yX6_hardnessOf ∈ eg_T := eg_in 315 (by decide +kernel) (by decide +kernel)
theorem tw_293 : Cond.selects RX6 yX6_hardnessOf yX6_hardnessOf ∈ eg_T := eg_in 316 (by decide +kernel) (by decide +kernel)
theorem tw_294 : Cond.code yX6_hardnessOf cX6_hardnessOf 4 (some .int) ∈ eg_T := eg_in 317 (by decide +kernel) (by decide +kernel)
theorem tw_295 : Cond.methodLinkNest RX6 151 yX4_hardnessUnder RX6 ∈ lw_tbl := List.mem_of_getElem? (i := 318) (by decide +kernel)
theorem tw_297 : Cond.instanceMethod yX4_hardnessUnder ∈ eg_T := eg_in 320 (by decide +kernel) (by decide +kernel)
theorem tw_298 : Cond.code yX4_hardnessUnder cX4_hardnessUnder 2 (some .int) ∈ eg_T := eg_in 321 (by decide +kernel) (by decide +kernel)
theorem tw_299 : Cond.methodLink RX4 18 Lib.Math.max.name ∈ eg_T := eg_in 322 (by decide +kernel) (by decide +kernel)
theorem tw_300 : Cond.static Lib.Math.max.name ∈ eg_T := eg_in 323 (by decide +kernel) (by decide +kernel)
theorem tw_301 : Cond.code Lib.Math.max.name Lib.Math.max.code 2 (some .int) ∈ eg_T := eg_in 324 (by decide +kernel) (by decide +kernel)
theorem tw_302 : Cond.methodLink RL 117 yX6_dampingOf ∈ eg_T := eg_in 325 (by decide +kernel) (by decide +kernel)
theorem tw_303 : Cond.instanceMethod yX6_dampingOf ∈ eg_T := eg_in 326 (by decide +kernel) (by decide +kernel)
theorem tw_304 : Cond.selects RX6 yX6_dampingOf yX6_dampingOf ∈ eg_T := eg_in 327 (by decide +kernel) (by decide +kernel)
theorem tw_305 : Cond.code yX6_dampingOf cX6_dampingOf 2 (some .int) ∈ eg_T := eg_in 328 (by decide +kernel) (by decide +kernel)
theorem tw_306 : Cond.methodLink RL 114 yX6_dustOf ∈ eg_T := eg_in 329 (by decide +kernel) (by decide +kernel)
theorem tw_307 : Cond.instanceMethod yX6_dustOf ∈ eg_T := eg_in 330 (by decide +kernel) (by decide +kernel)
theorem tw_308 : Cond.selects RX6 yX6_dustOf yX6_dustOf ∈ eg_T := eg_in 331 (by decide +kernel) (by decide +kernel)
theorem tw_309 : Cond.code yX6_dustOf cX6_dustOf 2 (some .int) ∈ eg_T := eg_in 332 (by decide +kernel) (by decide +kernel)
theorem tw_310 : Cond.methodLink RL 136 yX6_echoes ∈ eg_T := eg_in 333 (by decide +kernel) (by decide +kernel)
theorem tw_311 : Cond.instanceMethod yX6_echoes ∈ eg_T := eg_in 334 (by decide +kernel) (by decide +kernel)
theorem tw_312 : Cond.selects RX6 yX6_echoes yX6_echoes ∈ eg_T := eg_in 335 (by decide +kernel) (by decide +kernel)
theorem tw_313 : Cond.code yX6_echoes cX6_echoes 3 (some .int) ∈ eg_T := eg_in 336 (by decide +kernel) (by decide +kernel)
theorem tw_314 : Cond.methodLink RX6 155 yX6_tallyOfClick ∈ eg_T := eg_in 337 (by decide +kernel) (by decide +kernel)
theorem tw_316 : Cond.instanceMethod yX6_tallyOfClick ∈ eg_T := eg_in 339 (by decide +kernel) (by decide +kernel)
theorem tw_317 : Cond.code yX6_tallyOfClick cX6_tallyOfClick 4 (some (.object "EchoBureau$Tally")) ∈ eg_T := eg_in 340 (by decide +kernel) (by decide +kernel)
theorem tw_318 : Cond.methodLink RX6 162 yX6_checkLoudness ∈ eg_T := eg_in 341 (by decide +kernel) (by decide +kernel)
theorem tw_319 : Cond.static yX6_checkLoudness ∈ eg_T := eg_in 342 (by decide +kernel) (by decide +kernel)
theorem tw_320 : Cond.code yX6_checkLoudness cX6_checkLoudness 1 none ∈ eg_T := eg_in 343 (by decide +kernel) (by decide +kernel)
theorem tw_321 : Cond.stringRef RX6 223 "no such loudness" ∈ lw_tbl := List.mem_of_getElem? (i := 344) (by decide +kernel)
theorem tw_322 : Cond.methodLink RX6 165 yX6_tallyOf ∈ eg_T := eg_in 345 (by decide +kernel) (by decide +kernel)
theorem tw_324 : Cond.instanceMethod yX6_tallyOf ∈ eg_T := eg_in 347 (by decide +kernel) (by decide +kernel)
theorem tw_325 : Cond.code yX6_tallyOf cX6_tallyOf 4 (some (.object "EchoBureau$Tally")) ∈ eg_T := eg_in 348 (by decide +kernel) (by decide +kernel)
theorem tw_326 : Cond.methodLinkNest RX6 242 yX5_begin RX6 ∈ lw_tbl := List.mem_of_getElem? (i := 349) (by decide +kernel)
theorem tw_328 : Cond.instanceMethod yX5_begin ∈ eg_T := eg_in 351 (by decide +kernel) (by decide +kernel)
theorem tw_329 : Cond.code yX5_begin cX5_begin 2 none ∈ eg_T := eg_in 352 (by decide +kernel) (by decide +kernel)
theorem tw_330 : Cond.methodLinkNest RX6 245 yX0_throwBack RX6 ∈ lw_tbl := List.mem_of_getElem? (i := 353) (by decide +kernel)
theorem tw_332 : Cond.instanceMethod yX0_throwBack ∈ eg_T := eg_in 355 (by decide +kernel) (by decide +kernel)
theorem tw_333 : Cond.code yX0_throwBack cX0_throwBack 9 none ∈ eg_T := eg_in 356 (by decide +kernel) (by decide +kernel)
theorem tw_334 : Cond.methodLinkNest RX0 46 yX4_throwRow RX6 ∈ lw_tbl := List.mem_of_getElem? (i := 357) (by decide +kernel)
theorem tw_336 : Cond.instanceMethod yX4_throwRow ∈ eg_T := eg_in 359 (by decide +kernel) (by decide +kernel)
theorem tw_337 : Cond.code yX4_throwRow cX4_throwRow 9 none ∈ eg_T := eg_in 360 (by decide +kernel) (by decide +kernel)
theorem tw_338 : Cond.methodLink RX4 24 yX4_hardnessUnder ∈ eg_T := eg_in 361 (by decide +kernel) (by decide +kernel)
theorem tw_340 : Cond.methodLink RX4 28 ⟨"EchoBureau$Listener", "hear", "(II)V"⟩ ∈ eg_T := eg_in 363 (by decide +kernel) (by decide +kernel)
theorem tw_342 : Cond.declares ⟨"EchoBureau$Listener", "hear", "(II)V"⟩ ∈ lw_tbl := List.mem_of_getElem? (i := 365) (by decide +kernel)
theorem tw_343 : Cond.castable "EchoBureau$Loudnesses" "EchoBureau$Listener" ∈ lw_tbl := List.mem_of_getElem? (i := 366) (by decide +kernel)
theorem tw_344 : Cond.selects RX2 ⟨"EchoBureau$Listener", "hear", "(II)V"⟩ yX2_hear ∈ eg_T := eg_in 367 (by decide +kernel) (by decide +kernel)
theorem tw_346 : Cond.instanceMethod yX2_hear ∈ eg_T := eg_in 369 (by decide +kernel) (by decide +kernel)
theorem tw_347 : Cond.publicMethod yX2_hear ∈ lw_tbl := List.mem_of_getElem? (i := 370) (by decide +kernel)
theorem tw_348 : Cond.code yX2_hear cX2_hear 4 none ∈ eg_T := eg_in 371 (by decide +kernel) (by decide +kernel)
theorem tw_349 : Cond.castable "EchoBureau$Tally" "EchoBureau$Listener" ∈ lw_tbl := List.mem_of_getElem? (i := 372) (by decide +kernel)
theorem tw_350 : Cond.selects RX5 ⟨"EchoBureau$Listener", "hear", "(II)V"⟩ yX5_hear ∈ eg_T := eg_in 373 (by decide +kernel) (by decide +kernel)
theorem tw_352 : Cond.instanceMethod yX5_hear ∈ eg_T := eg_in 375 (by decide +kernel) (by decide +kernel)
theorem tw_353 : Cond.publicMethod yX5_hear ∈ lw_tbl := List.mem_of_getElem? (i := 376) (by decide +kernel)
theorem tw_354 : Cond.code yX5_hear cX5_hear 3 none ∈ eg_T := eg_in 377 (by decide +kernel) (by decide +kernel)
theorem tw_355 : Cond.methodLink RL 139 yX6_loudEchoes ∈ eg_T := eg_in 378 (by decide +kernel) (by decide +kernel)
theorem tw_356 : Cond.instanceMethod yX6_loudEchoes ∈ eg_T := eg_in 379 (by decide +kernel) (by decide +kernel)
theorem tw_357 : Cond.selects RX6 yX6_loudEchoes yX6_loudEchoes ∈ eg_T := eg_in 380 (by decide +kernel) (by decide +kernel)
theorem tw_358 : Cond.code yX6_loudEchoes cX6_loudEchoes 5 (some .int) ∈ eg_T := eg_in 381 (by decide +kernel) (by decide +kernel)
theorem tw_359 : Cond.methodLink RL 145 yX6_firstEcho ∈ eg_T := eg_in 382 (by decide +kernel) (by decide +kernel)
theorem tw_360 : Cond.instanceMethod yX6_firstEcho ∈ eg_T := eg_in 383 (by decide +kernel) (by decide +kernel)
theorem tw_361 : Cond.selects RX6 yX6_firstEcho yX6_firstEcho ∈ eg_T := eg_in 384 (by decide +kernel) (by decide +kernel)
theorem tw_362 : Cond.code yX6_firstEcho cX6_firstEcho 3 (some .int) ∈ eg_T := eg_in 385 (by decide +kernel) (by decide +kernel)
theorem tw_363 : Cond.methodLink RL 148 yX6_lastEcho ∈ eg_T := eg_in 386 (by decide +kernel) (by decide +kernel)
theorem tw_364 : Cond.instanceMethod yX6_lastEcho ∈ eg_T := eg_in 387 (by decide +kernel) (by decide +kernel)
theorem tw_365 : Cond.selects RX6 yX6_lastEcho yX6_lastEcho ∈ eg_T := eg_in 388 (by decide +kernel) (by decide +kernel)
theorem tw_366 : Cond.code yX6_lastEcho cX6_lastEcho 3 (some .int) ∈ eg_T := eg_in 389 (by decide +kernel) (by decide +kernel)
theorem tw_367 : Cond.methodLink RL 142 yX6_loudnessAt ∈ eg_T := eg_in 390 (by decide +kernel) (by decide +kernel)
theorem tw_368 : Cond.instanceMethod yX6_loudnessAt ∈ eg_T := eg_in 391 (by decide +kernel) (by decide +kernel)
theorem tw_369 : Cond.selects RX6 yX6_loudnessAt yX6_loudnessAt ∈ eg_T := eg_in 392 (by decide +kernel) (by decide +kernel)
theorem tw_370 : Cond.code yX6_loudnessAt cX6_loudnessAt 5 (some .int) ∈ eg_T := eg_in 393 (by decide +kernel) (by decide +kernel)
theorem tw_371 : Cond.stringRef RX6 178 "no such moment" ∈ lw_tbl := List.mem_of_getElem? (i := 394) (by decide +kernel)
theorem tw_372 : Cond.methodLink RX6 180 yX6_loudnessesOf ∈ eg_T := eg_in 395 (by decide +kernel) (by decide +kernel)
theorem tw_374 : Cond.instanceMethod yX6_loudnessesOf ∈ eg_T := eg_in 397 (by decide +kernel) (by decide +kernel)
theorem tw_375 : Cond.code yX6_loudnessesOf cX6_loudnessesOf 3 (some (.object "EchoBureau$Loudnesses")) ∈ eg_T := eg_in 398 (by decide +kernel) (by decide +kernel)
theorem tw_376 : Cond.methodLinkNest RX6 249 yX2_begin RX6 ∈ lw_tbl := List.mem_of_getElem? (i := 399) (by decide +kernel)
theorem tw_378 : Cond.instanceMethod yX2_begin ∈ eg_T := eg_in 401 (by decide +kernel) (by decide +kernel)
theorem tw_379 : Cond.code yX2_begin cX2_begin 1 none ∈ eg_T := eg_in 402 (by decide +kernel) (by decide +kernel)
theorem tw_380 : Cond.methodLink RX2 15 yJ7_fill_53178 ∈ eg_T := eg_in 403 (by decide +kernel) (by decide +kernel)
theorem tw_381 : Cond.static yJ7_fill_53178 ∈ eg_T := eg_in 404 (by decide +kernel) (by decide +kernel)
theorem tw_382 : Cond.code yJ7_fill_53178 cJ7_fill_53178 4 none ∈ eg_T := eg_in 405 (by decide +kernel) (by decide +kernel)
theorem tw_383 : Cond.methodLinkNest RX6 184 yX2_addedAt RX6 ∈ lw_tbl := List.mem_of_getElem? (i := 406) (by decide +kernel)
theorem tw_385 : Cond.instanceMethod yX2_addedAt ∈ eg_T := eg_in 408 (by decide +kernel) (by decide +kernel)
theorem tw_386 : Cond.code yX2_addedAt cX2_addedAt 4 (some .int) ∈ eg_T := eg_in 409 (by decide +kernel) (by decide +kernel)
theorem tw_387 : Cond.methodLink RL 166 yX6_meets ∈ eg_T := eg_in 410 (by decide +kernel) (by decide +kernel)
theorem tw_388 : Cond.instanceMethod yX6_meets ∈ eg_T := eg_in 411 (by decide +kernel) (by decide +kernel)
theorem tw_389 : Cond.selects RX6 yX6_meets yX6_meets ∈ eg_T := eg_in 412 (by decide +kernel) (by decide +kernel)
theorem tw_390 : Cond.code yX6_meets cX6_meets 4 (some .boolean) ∈ eg_T := eg_in 413 (by decide +kernel) (by decide +kernel)
theorem tw_391 : Cond.methodLink RX6 109 yX6_findStandard ∈ eg_T := eg_in 414 (by decide +kernel) (by decide +kernel)
theorem tw_393 : Cond.instanceMethod yX6_findStandard ∈ eg_T := eg_in 416 (by decide +kernel) (by decide +kernel)
theorem tw_394 : Cond.code yX6_findStandard cX6_findStandard 3 (some (.object "EchoBureau$Standard")) ∈ eg_T := eg_in 417 (by decide +kernel) (by decide +kernel)
theorem tw_395 : Cond.stringRef RX6 234 "no such standard" ∈ lw_tbl := List.mem_of_getElem? (i := 418) (by decide +kernel)
theorem tw_396 : Cond.stringRef RX6 236 "no such standard yet" ∈ lw_tbl := List.mem_of_getElem? (i := 419) (by decide +kernel)
theorem tw_397 : Cond.methodLink RX6 116 yX6_meetsNow ∈ eg_T := eg_in 420 (by decide +kernel) (by decide +kernel)
theorem tw_399 : Cond.instanceMethod yX6_meetsNow ∈ eg_T := eg_in 422 (by decide +kernel) (by decide +kernel)
theorem tw_400 : Cond.code yX6_meetsNow cX6_meetsNow 3 (some .boolean) ∈ eg_T := eg_in 423 (by decide +kernel) (by decide +kernel)
theorem tw_401 : Cond.methodLink RX6 193 yX6_wouldMeet ∈ eg_T := eg_in 424 (by decide +kernel) (by decide +kernel)
theorem tw_403 : Cond.instanceMethod yX6_wouldMeet ∈ eg_T := eg_in 426 (by decide +kernel) (by decide +kernel)
theorem tw_404 : Cond.code yX6_wouldMeet cX6_wouldMeet 5 (some .boolean) ∈ eg_T := eg_in 427 (by decide +kernel) (by decide +kernel)
theorem tw_405 : Cond.methodLinkNest RX6 254 yX3_allows RX6 ∈ lw_tbl := List.mem_of_getElem? (i := 428) (by decide +kernel)
theorem tw_407 : Cond.instanceMethod yX3_allows ∈ eg_T := eg_in 430 (by decide +kernel) (by decide +kernel)
theorem tw_408 : Cond.instantiable RX3 5 ∈ eg_T := eg_in 431 (by decide +kernel) (by decide +kernel)
theorem tw_409 : Cond.code yX3_allows cX3_allows 2 (some .boolean) ∈ eg_T := eg_in 432 (by decide +kernel) (by decide +kernel)
theorem tw_410 : Cond.methodLink RL 172 yX6_hallsMeeting ∈ eg_T := eg_in 433 (by decide +kernel) (by decide +kernel)
theorem tw_411 : Cond.instanceMethod yX6_hallsMeeting ∈ eg_T := eg_in 434 (by decide +kernel) (by decide +kernel)
theorem tw_412 : Cond.selects RX6 yX6_hallsMeeting yX6_hallsMeeting ∈ eg_T := eg_in 435 (by decide +kernel) (by decide +kernel)
theorem tw_413 : Cond.code yX6_hallsMeeting cX6_hallsMeeting 8 (some .int) ∈ eg_T := eg_in 436 (by decide +kernel) (by decide +kernel)
theorem tw_414 : Cond.methodLink RL 123 yX6_isCertified ∈ eg_T := eg_in 437 (by decide +kernel) (by decide +kernel)
theorem tw_415 : Cond.instanceMethod yX6_isCertified ∈ eg_T := eg_in 438 (by decide +kernel) (by decide +kernel)
theorem tw_416 : Cond.selects RX6 yX6_isCertified yX6_isCertified ∈ eg_T := eg_in 439 (by decide +kernel) (by decide +kernel)
theorem tw_417 : Cond.code yX6_isCertified cX6_isCertified 2 (some .boolean) ∈ eg_T := eg_in 440 (by decide +kernel) (by decide +kernel)
theorem tw_418 : Cond.methodLinkNest RX6 190 yX0_hasCertificate RX6 ∈ lw_tbl := List.mem_of_getElem? (i := 441) (by decide +kernel)
theorem tw_420 : Cond.instanceMethod yX0_hasCertificate ∈ eg_T := eg_in 443 (by decide +kernel) (by decide +kernel)
theorem tw_421 : Cond.code yX0_hasCertificate cX0_hasCertificate 1 (some .boolean) ∈ eg_T := eg_in 444 (by decide +kernel) (by decide +kernel)
theorem tw_422 : Cond.methodLink RL 127 yX6_daysLeft ∈ eg_T := eg_in 445 (by decide +kernel) (by decide +kernel)
theorem tw_423 : Cond.instanceMethod yX6_daysLeft ∈ eg_T := eg_in 446 (by decide +kernel) (by decide +kernel)
theorem tw_424 : Cond.selects RX6 yX6_daysLeft yX6_daysLeft ∈ eg_T := eg_in 447 (by decide +kernel) (by decide +kernel)
theorem tw_425 : Cond.code yX6_daysLeft cX6_daysLeft 2 (some .int) ∈ eg_T := eg_in 448 (by decide +kernel) (by decide +kernel)
theorem tw_426 : Cond.methodLink RL 112 yX6_halls ∈ eg_T := eg_in 449 (by decide +kernel) (by decide +kernel)
theorem tw_427 : Cond.instanceMethod yX6_halls ∈ eg_T := eg_in 450 (by decide +kernel) (by decide +kernel)
theorem tw_428 : Cond.selects RX6 yX6_halls yX6_halls ∈ eg_T := eg_in 451 (by decide +kernel) (by decide +kernel)
theorem tw_429 : Cond.code yX6_halls cX6_halls 1 (some .int) ∈ eg_T := eg_in 452 (by decide +kernel) (by decide +kernel)
theorem tw_430 : Cond.methodLink RL 163 yX6_standards ∈ eg_T := eg_in 453 (by decide +kernel) (by decide +kernel)
theorem tw_431 : Cond.instanceMethod yX6_standards ∈ eg_T := eg_in 454 (by decide +kernel) (by decide +kernel)
theorem tw_432 : Cond.selects RX6 yX6_standards yX6_standards ∈ eg_T := eg_in 455 (by decide +kernel) (by decide +kernel)
theorem tw_433 : Cond.code yX6_standards cX6_standards 1 (some .int) ∈ eg_T := eg_in 456 (by decide +kernel) (by decide +kernel)
theorem tw_434 : Cond.methodLink RL 156 yX6_certifiedHalls ∈ eg_T := eg_in 457 (by decide +kernel) (by decide +kernel)
theorem tw_435 : Cond.instanceMethod yX6_certifiedHalls ∈ eg_T := eg_in 458 (by decide +kernel) (by decide +kernel)
theorem tw_436 : Cond.selects RX6 yX6_certifiedHalls yX6_certifiedHalls ∈ eg_T := eg_in 459 (by decide +kernel) (by decide +kernel)
theorem tw_437 : Cond.code yX6_certifiedHalls cX6_certifiedHalls 1 (some .int) ∈ eg_T := eg_in 460 (by decide +kernel) (by decide +kernel)
theorem tw_438 : Cond.methodLink RX6 144 yX6_countCertified ∈ eg_T := eg_in 461 (by decide +kernel) (by decide +kernel)
theorem tw_440 : Cond.instanceMethod yX6_countCertified ∈ eg_T := eg_in 463 (by decide +kernel) (by decide +kernel)
theorem tw_441 : Cond.code yX6_countCertified cX6_countCertified 6 (some .int) ∈ eg_T := eg_in 464 (by decide +kernel) (by decide +kernel)
theorem tw_442 : Cond.methodLink RL 168 yX6_meetsWithDamping ∈ eg_T := eg_in 465 (by decide +kernel) (by decide +kernel)
theorem tw_443 : Cond.instanceMethod yX6_meetsWithDamping ∈ eg_T := eg_in 466 (by decide +kernel) (by decide +kernel)
theorem tw_444 : Cond.selects RX6 yX6_meetsWithDamping yX6_meetsWithDamping ∈ eg_T := eg_in 467 (by decide +kernel) (by decide +kernel)
theorem tw_445 : Cond.code yX6_meetsWithDamping cX6_meetsWithDamping 6 (some .boolean) ∈ eg_T := eg_in 468 (by decide +kernel) (by decide +kernel)
theorem tw_446 : Cond.methodLink RL 159 yX6_meanDamping ∈ eg_T := eg_in 469 (by decide +kernel) (by decide +kernel)
theorem tw_447 : Cond.instanceMethod yX6_meanDamping ∈ eg_T := eg_in 470 (by decide +kernel) (by decide +kernel)
theorem tw_448 : Cond.selects RX6 yX6_meanDamping yX6_meanDamping ∈ eg_T := eg_in 471 (by decide +kernel) (by decide +kernel)
theorem tw_449 : Cond.code yX6_meanDamping cX6_meanDamping 6 (some .double) ∈ eg_T := eg_in 472 (by decide +kernel) (by decide +kernel)
theorem tw_450 : Cond.methodLink RL 175 yX8_isSame ∈ eg_T := eg_in 473 (by decide +kernel) (by decide +kernel)
theorem tw_451 : Cond.instanceMethod yX8_isSame ∈ eg_T := eg_in 474 (by decide +kernel) (by decide +kernel)
theorem tw_452 : Cond.selects RX8 yX8_isSame yX8_isSame ∈ eg_T := eg_in 475 (by decide +kernel) (by decide +kernel)
theorem tw_453 : Cond.code yX8_isSame cX8_isSame 8 (some .boolean) ∈ eg_T := eg_in 476 (by decide +kernel) (by decide +kernel)
theorem tw_454 : Cond.methodLink RX8 37 yX6_halls ∈ eg_T := eg_in 477 (by decide +kernel) (by decide +kernel)
theorem tw_455 : Cond.methodLink RX8 42 yX6_standards ∈ eg_T := eg_in 478 (by decide +kernel) (by decide +kernel)
theorem tw_456 : Cond.methodLink RX8 45 yX6_day ∈ eg_T := eg_in 479 (by decide +kernel) (by decide +kernel)
theorem tw_457 : Cond.instanceMethod yX6_day ∈ eg_T := eg_in 480 (by decide +kernel) (by decide +kernel)
theorem tw_458 : Cond.selects RX6 yX6_day yX6_day ∈ eg_T := eg_in 481 (by decide +kernel) (by decide +kernel)
theorem tw_459 : Cond.code yX6_day cX6_day 1 (some .int) ∈ eg_T := eg_in 482 (by decide +kernel) (by decide +kernel)
theorem tw_460 : Cond.methodLink RX8 47 yX6_inspections ∈ eg_T := eg_in 483 (by decide +kernel) (by decide +kernel)
theorem tw_461 : Cond.instanceMethod yX6_inspections ∈ eg_T := eg_in 484 (by decide +kernel) (by decide +kernel)
theorem tw_462 : Cond.selects RX6 yX6_inspections yX6_inspections ∈ eg_T := eg_in 485 (by decide +kernel) (by decide +kernel)
theorem tw_463 : Cond.code yX6_inspections cX6_inspections 1 (some .int) ∈ eg_T := eg_in 486 (by decide +kernel) (by decide +kernel)
theorem tw_464 : Cond.methodLink RX8 52 yX6_certifiedHalls ∈ eg_T := eg_in 487 (by decide +kernel) (by decide +kernel)
theorem tw_465 : Cond.methodLink RX8 55 yX8_certified ∈ eg_T := eg_in 488 (by decide +kernel) (by decide +kernel)
theorem tw_466 : Cond.instanceMethod yX8_certified ∈ eg_T := eg_in 489 (by decide +kernel) (by decide +kernel)
theorem tw_467 : Cond.selects RX8 yX8_certified yX8_certified ∈ eg_T := eg_in 490 (by decide +kernel) (by decide +kernel)
theorem tw_468 : Cond.code yX8_certified cX8_certified 6 (some .int) ∈ eg_T := eg_in 491 (by decide +kernel) (by decide +kernel)
theorem tw_469 : Cond.methodLink RX8 58 yX6_surfacesOf ∈ eg_T := eg_in 492 (by decide +kernel) (by decide +kernel)
theorem tw_470 : Cond.methodLink RX8 65 yX6_dampingOf ∈ eg_T := eg_in 493 (by decide +kernel) (by decide +kernel)
theorem tw_471 : Cond.methodLink RX8 71 yX6_dustOf ∈ eg_T := eg_in 494 (by decide +kernel) (by decide +kernel)
theorem tw_472 : Cond.methodLink RX8 74 yX6_isCertified ∈ eg_T := eg_in 495 (by decide +kernel) (by decide +kernel)
theorem tw_473 : Cond.methodLink RX8 78 yX6_certifiedBy ∈ eg_T := eg_in 496 (by decide +kernel) (by decide +kernel)
theorem tw_474 : Cond.instanceMethod yX6_certifiedBy ∈ eg_T := eg_in 497 (by decide +kernel) (by decide +kernel)
theorem tw_475 : Cond.selects RX6 yX6_certifiedBy yX6_certifiedBy ∈ eg_T := eg_in 498 (by decide +kernel) (by decide +kernel)
theorem tw_476 : Cond.code yX6_certifiedBy cX6_certifiedBy 3 (some .int) ∈ eg_T := eg_in 499 (by decide +kernel) (by decide +kernel)
theorem tw_477 : Cond.methodLink RX6 129 yX6_checkCertificate ∈ eg_T := eg_in 500 (by decide +kernel) (by decide +kernel)
theorem tw_478 : Cond.static yX6_checkCertificate ∈ eg_T := eg_in 501 (by decide +kernel) (by decide +kernel)
theorem tw_479 : Cond.code yX6_checkCertificate cX6_checkCertificate 1 none ∈ eg_T := eg_in 502 (by decide +kernel) (by decide +kernel)
theorem tw_480 : Cond.stringRef RX6 225 "the hall has no certificate" ∈ lw_tbl := List.mem_of_getElem? (i := 503) (by decide +kernel)
theorem tw_481 : Cond.methodLink RX8 81 yX6_daysLeft ∈ eg_T := eg_in 504 (by decide +kernel) (by decide +kernel)
theorem tw_482 : Cond.methodLink RX8 84 yX6_distanceOf ∈ eg_T := eg_in 505 (by decide +kernel) (by decide +kernel)
theorem tw_483 : Cond.methodLink RX8 88 yX6_hardnessOf ∈ eg_T := eg_in 506 (by decide +kernel) (by decide +kernel)
theorem tw_484 : Cond.methodLink RX8 91 yX7_hard ∈ eg_T := eg_in 507 (by decide +kernel) (by decide +kernel)
theorem tw_485 : Cond.instanceMethod yX7_hard ∈ eg_T := eg_in 508 (by decide +kernel) (by decide +kernel)
theorem tw_486 : Cond.selects RX7 yX7_hard yX7_hard ∈ eg_T := eg_in 509 (by decide +kernel) (by decide +kernel)
theorem tw_487 : Cond.code yX7_hard cX7_hard 3 (some .int) ∈ eg_T := eg_in 510 (by decide +kernel) (by decide +kernel)
theorem tw_488 : Cond.methodLink RX7 19 Lib.Math.max.name ∈ eg_T := eg_in 511 (by decide +kernel) (by decide +kernel)
theorem tw_489 : Cond.methodLink RX8 94 yX7_echoes ∈ eg_T := eg_in 512 (by decide +kernel) (by decide +kernel)
theorem tw_490 : Cond.instanceMethod yX7_echoes ∈ eg_T := eg_in 513 (by decide +kernel) (by decide +kernel)
theorem tw_491 : Cond.selects RX7 yX7_echoes yX7_echoes ∈ eg_T := eg_in 514 (by decide +kernel) (by decide +kernel)
theorem tw_492 : Cond.code yX7_echoes cX7_echoes 9 (some (.array .int)) ∈ eg_T := eg_in 515 (by decide +kernel) (by decide +kernel)
theorem tw_493 : Cond.methodLink RX7 25 yX7_hard ∈ eg_T := eg_in 516 (by decide +kernel) (by decide +kernel)
theorem tw_494 : Cond.methodLink RX7 28 Lib.Math.min.name ∈ eg_T := eg_in 517 (by decide +kernel) (by decide +kernel)
theorem tw_495 : Cond.static Lib.Math.min.name ∈ eg_T := eg_in 518 (by decide +kernel) (by decide +kernel)
theorem tw_496 : Cond.code Lib.Math.min.name Lib.Math.min.code 2 (some .int) ∈ eg_T := eg_in 519 (by decide +kernel) (by decide +kernel)
theorem tw_497 : Cond.methodLink RX8 98 yX6_echoes ∈ eg_T := eg_in 520 (by decide +kernel) (by decide +kernel)
theorem tw_498 : Cond.methodLink RX8 100 yX6_loudEchoes ∈ eg_T := eg_in 521 (by decide +kernel) (by decide +kernel)
theorem tw_499 : Cond.methodLink RX8 104 yX6_firstEcho ∈ eg_T := eg_in 522 (by decide +kernel) (by decide +kernel)
theorem tw_500 : Cond.methodLink RX8 107 yX6_lastEcho ∈ eg_T := eg_in 523 (by decide +kernel) (by decide +kernel)
theorem tw_501 : Cond.methodLink RX8 110 yX6_meets ∈ eg_T := eg_in 524 (by decide +kernel) (by decide +kernel)
theorem tw_502 : Cond.methodLink RX8 114 yX7_meets ∈ eg_T := eg_in 525 (by decide +kernel) (by decide +kernel)
theorem tw_503 : Cond.instanceMethod yX7_meets ∈ eg_T := eg_in 526 (by decide +kernel) (by decide +kernel)
theorem tw_504 : Cond.selects RX7 yX7_meets yX7_meets ∈ eg_T := eg_in 527 (by decide +kernel) (by decide +kernel)
theorem tw_505 : Cond.code yX7_meets cX7_meets 5 (some .boolean) ∈ eg_T := eg_in 528 (by decide +kernel) (by decide +kernel)
theorem tw_506 : Cond.methodLink RX7 37 yX7_echoes ∈ eg_T := eg_in 529 (by decide +kernel) (by decide +kernel)
theorem tw_507 : Cond.methodLink RX8 117 yX6_meanDamping ∈ eg_T := eg_in 530 (by decide +kernel) (by decide +kernel)
theorem tw_508 : Cond.methodLink RL 15 yL_below ∈ eg_T := eg_in 531 (by decide +kernel) (by decide +kernel)
theorem tw_509 : Cond.static yL_below ∈ eg_T := eg_in 532 (by decide +kernel) (by decide +kernel)
theorem tw_510 : Cond.code yL_below cL_below 2 (some .int) ∈ eg_T := eg_in 533 (by decide +kernel) (by decide +kernel)
theorem tw_512 : Cond.methodLink RL 99 yL_cell ∈ eg_T := eg_in 535 (by decide +kernel) (by decide +kernel)
theorem tw_513 : Cond.static yL_cell ∈ eg_T := eg_in 536 (by decide +kernel) (by decide +kernel)
theorem tw_514 : Cond.code yL_cell cL_cell 2 (some .int) ∈ eg_T := eg_in 537 (by decide +kernel) (by decide +kernel)
theorem tw_516 : Cond.methodLink RL 103 yL_act ∈ eg_T := eg_in 539 (by decide +kernel) (by decide +kernel)
theorem tw_517 : Cond.static yL_act ∈ eg_T := eg_in 540 (by decide +kernel) (by decide +kernel)
theorem tw_519 : Cond.classLink RL 21 RX7 ∈ eg_T := eg_in 542 (by decide +kernel) (by decide +kernel)
theorem tw_520 : Cond.arrayOver (.object RX7) ∈ lw_tbl := List.mem_of_getElem? (i := 543) (by decide +kernel)
theorem tw_521 : Cond.instantiable RX7 5 ∈ eg_T := eg_in 544 (by decide +kernel) (by decide +kernel)
theorem tw_522 : Cond.methodLinkNest RL 23 yX7_init RL ∈ lw_tbl := List.mem_of_getElem? (i := 545) (by decide +kernel)
theorem tw_523 : Cond.instanceMethod yX7_init ∈ eg_T := eg_in 546 (by decide +kernel) (by decide +kernel)
theorem tw_524 : Cond.code yX7_init cX7_init 1 none ∈ eg_T := eg_in 547 (by decide +kernel) (by decide +kernel)
theorem tw_525 : Cond.methodLink RX7 1 Lib.objectInit ∈ eg_T := eg_in 548 (by decide +kernel) (by decide +kernel)
theorem tw_526 : Cond.classLink RX7 7 "[I" ∈ eg_T := eg_in 549 (by decide +kernel) (by decide +kernel)
theorem tw_528 : Cond.fieldLink RX7 9 RX7 "surfaces" "[[I" ∈ eg_T := eg_in 551 (by decide +kernel) (by decide +kernel)
theorem tw_529 : Cond.fieldLink RL 34 RX7 "surfaces" "[[I" ∈ eg_T := eg_in 552 (by decide +kernel) (by decide +kernel)
theorem tw_530 : Cond.fieldLink RX8 62 RX7 "surfaces" "[[I" ∈ eg_T := eg_in 553 (by decide +kernel) (by decide +kernel)
theorem tw_531 : Cond.fieldLink RL 24 RX7 "damping" "I" ∈ eg_T := eg_in 554 (by decide +kernel) (by decide +kernel)
theorem tw_532 : Cond.fieldLink RX8 68 RX7 "damping" "I" ∈ eg_T := eg_in 555 (by decide +kernel) (by decide +kernel)
theorem tw_533 : Cond.fieldLink RX8 25 RX7 "dust" "I" ∈ eg_T := eg_in 556 (by decide +kernel) (by decide +kernel)
theorem tw_534 : Cond.fieldLink RL 58 RX7 "dust" "I" ∈ eg_T := eg_in 557 (by decide +kernel) (by decide +kernel)
theorem tw_535 : Cond.fieldLink RX7 15 RX7 "standard" "I" ∈ eg_T := eg_in 558 (by decide +kernel) (by decide +kernel)
theorem tw_536 : Cond.fieldLink RX8 21 RX7 "standard" "I" ∈ eg_T := eg_in 559 (by decide +kernel) (by decide +kernel)
theorem tw_537 : Cond.fieldLink RL 75 RX7 "standard" "I" ∈ eg_T := eg_in 560 (by decide +kernel) (by decide +kernel)
theorem tw_538 : Cond.fieldLink RX8 28 RX7 "left" "I" ∈ eg_T := eg_in 561 (by decide +kernel) (by decide +kernel)
theorem tw_539 : Cond.fieldLink RL 78 RX7 "left" "I" ∈ eg_T := eg_in 562 (by decide +kernel) (by decide +kernel)
theorem tw_540 : Cond.fieldLink RX7 41 RX7 "left" "I" ∈ eg_T := eg_in 563 (by decide +kernel) (by decide +kernel)
theorem tw_552 : Cond.methodLink RL 38 yX8_with ∈ eg_T := eg_in 575 (by decide +kernel) (by decide +kernel)
theorem tw_553 : Cond.static yX8_with ∈ eg_T := eg_in 576 (by decide +kernel) (by decide +kernel)
theorem tw_554 : Cond.code yX8_with cX8_with 4 (some (.array (.array .int))) ∈ eg_T := eg_in 577 (by decide +kernel) (by decide +kernel)
theorem tw_555 : Cond.classLink RX8 15 "[I" ∈ eg_T := eg_in 578 (by decide +kernel) (by decide +kernel)
theorem tw_556 : Cond.methodLink RL 42 yX7_strike ∈ eg_T := eg_in 579 (by decide +kernel) (by decide +kernel)
theorem tw_557 : Cond.instanceMethod yX7_strike ∈ eg_T := eg_in 580 (by decide +kernel) (by decide +kernel)
theorem tw_558 : Cond.selects RX7 yX7_strike yX7_strike ∈ eg_T := eg_in 581 (by decide +kernel) (by decide +kernel)
theorem tw_559 : Cond.code yX7_strike cX7_strike 1 none ∈ eg_T := eg_in 582 (by decide +kernel) (by decide +kernel)
theorem tw_560 : Cond.methodLink RL 52 yX6_moveSurface ∈ eg_T := eg_in 583 (by decide +kernel) (by decide +kernel)
theorem tw_561 : Cond.instanceMethod yX6_moveSurface ∈ eg_T := eg_in 584 (by decide +kernel) (by decide +kernel)
theorem tw_562 : Cond.selects RX6 yX6_moveSurface yX6_moveSurface ∈ eg_T := eg_in 585 (by decide +kernel) (by decide +kernel)
theorem tw_563 : Cond.code yX6_moveSurface cX6_moveSurface 7 (some .int) ∈ eg_T := eg_in 586 (by decide +kernel) (by decide +kernel)
theorem tw_564 : Cond.methodLink RL 55 yX6_setDamping ∈ eg_T := eg_in 587 (by decide +kernel) (by decide +kernel)
theorem tw_565 : Cond.instanceMethod yX6_setDamping ∈ eg_T := eg_in 588 (by decide +kernel) (by decide +kernel)
theorem tw_566 : Cond.selects RX6 yX6_setDamping yX6_setDamping ∈ eg_T := eg_in 589 (by decide +kernel) (by decide +kernel)
theorem tw_567 : Cond.code yX6_setDamping cX6_setDamping 5 (some .int) ∈ eg_T := eg_in 590 (by decide +kernel) (by decide +kernel)
theorem tw_568 : Cond.methodLink RL 61 yX6_clean ∈ eg_T := eg_in 591 (by decide +kernel) (by decide +kernel)
theorem tw_569 : Cond.instanceMethod yX6_clean ∈ eg_T := eg_in 592 (by decide +kernel) (by decide +kernel)
theorem tw_570 : Cond.selects RX6 yX6_clean yX6_clean ∈ eg_T := eg_in 593 (by decide +kernel) (by decide +kernel)
theorem tw_571 : Cond.code yX6_clean cX6_clean 4 (some .int) ∈ eg_T := eg_in 594 (by decide +kernel) (by decide +kernel)
theorem tw_572 : Cond.methodLink RL 64 yX6_addStandard ∈ eg_T := eg_in 595 (by decide +kernel) (by decide +kernel)
theorem tw_573 : Cond.instanceMethod yX6_addStandard ∈ eg_T := eg_in 596 (by decide +kernel) (by decide +kernel)
theorem tw_574 : Cond.selects RX6 yX6_addStandard yX6_addStandard ∈ eg_T := eg_in 597 (by decide +kernel) (by decide +kernel)
theorem tw_575 : Cond.code yX6_addStandard cX6_addStandard 8 (some .int) ∈ eg_T := eg_in 598 (by decide +kernel) (by decide +kernel)
theorem tw_576 : Cond.stringRef RX6 99 "no such standard can be" ∈ lw_tbl := List.mem_of_getElem? (i := 599) (by decide +kernel)
theorem tw_577 : Cond.stringRef RX6 104 "no room for another standard" ∈ lw_tbl := List.mem_of_getElem? (i := 600) (by decide +kernel)
theorem tw_578 : Cond.methodLinkNest RX6 106 yX3_init RX6 ∈ lw_tbl := List.mem_of_getElem? (i := 601) (by decide +kernel)
theorem tw_579 : Cond.instanceMethod yX3_init ∈ eg_T := eg_in 602 (by decide +kernel) (by decide +kernel)
theorem tw_580 : Cond.code yX3_init cX3_init 6 none ∈ eg_T := eg_in 603 (by decide +kernel) (by decide +kernel)
theorem tw_581 : Cond.methodLink RX3 1 Lib.objectInit ∈ eg_T := eg_in 604 (by decide +kernel) (by decide +kernel)
theorem tw_582 : Cond.fieldLink RX3 7 RX3 "earliest" "I" ∈ eg_T := eg_in 605 (by decide +kernel) (by decide +kernel)
theorem tw_583 : Cond.fieldLink RX3 13 RX3 "limit" "I" ∈ eg_T := eg_in 606 (by decide +kernel) (by decide +kernel)
theorem tw_584 : Cond.fieldLinkNest RX6 251 RX3 "limit" "I" RX6 ∈ lw_tbl := List.mem_of_getElem? (i := 607) (by decide +kernel)
theorem tw_585 : Cond.fieldLink RX3 16 RX3 "most" "I" ∈ eg_T := eg_in 608 (by decide +kernel) (by decide +kernel)
theorem tw_586 : Cond.fieldLink RX3 19 RX3 "latest" "I" ∈ eg_T := eg_in 609 (by decide +kernel) (by decide +kernel)
theorem tw_587 : Cond.fieldLink RX3 22 RX3 "days" "I" ∈ eg_T := eg_in 610 (by decide +kernel) (by decide +kernel)
theorem tw_588 : Cond.fieldLinkNest RX6 120 RX3 "days" "I" RX6 ∈ lw_tbl := List.mem_of_getElem? (i := 611) (by decide +kernel)
theorem tw_600 : Cond.methodLink RL 68 yX7_meets ∈ eg_T := eg_in 623 (by decide +kernel) (by decide +kernel)
theorem tw_601 : Cond.methodLink RL 81 yX6_inspect ∈ eg_T := eg_in 624 (by decide +kernel) (by decide +kernel)
theorem tw_602 : Cond.instanceMethod yX6_inspect ∈ eg_T := eg_in 625 (by decide +kernel) (by decide +kernel)
theorem tw_603 : Cond.selects RX6 yX6_inspect yX6_inspect ∈ eg_T := eg_in 626 (by decide +kernel) (by decide +kernel)
theorem tw_604 : Cond.code yX6_inspect cX6_inspect 6 (some .boolean) ∈ eg_T := eg_in 627 (by decide +kernel) (by decide +kernel)
theorem tw_605 : Cond.methodLinkNest RX6 123 yX0_takeCertificate RX6 ∈ lw_tbl := List.mem_of_getElem? (i := 628) (by decide +kernel)
theorem tw_607 : Cond.instanceMethod yX0_takeCertificate ∈ eg_T := eg_in 630 (by decide +kernel) (by decide +kernel)
theorem tw_608 : Cond.code yX0_takeCertificate cX0_takeCertificate 3 none ∈ eg_T := eg_in 631 (by decide +kernel) (by decide +kernel)
theorem tw_609 : Cond.methodLink RL 85 yX6_revoke ∈ eg_T := eg_in 632 (by decide +kernel) (by decide +kernel)
theorem tw_610 : Cond.instanceMethod yX6_revoke ∈ eg_T := eg_in 633 (by decide +kernel) (by decide +kernel)
theorem tw_611 : Cond.selects RX6 yX6_revoke yX6_revoke ∈ eg_T := eg_in 634 (by decide +kernel) (by decide +kernel)
theorem tw_612 : Cond.code yX6_revoke cX6_revoke 4 (some .int) ∈ eg_T := eg_in 635 (by decide +kernel) (by decide +kernel)
theorem tw_613 : Cond.methodLink RL 88 yX8_pass ∈ eg_T := eg_in 636 (by decide +kernel) (by decide +kernel)
theorem tw_614 : Cond.instanceMethod yX8_pass ∈ eg_T := eg_in 637 (by decide +kernel) (by decide +kernel)
theorem tw_615 : Cond.selects RX8 yX8_pass yX8_pass ∈ eg_T := eg_in 638 (by decide +kernel) (by decide +kernel)
theorem tw_616 : Cond.code yX8_pass cX8_pass 5 none ∈ eg_T := eg_in 639 (by decide +kernel) (by decide +kernel)
theorem tw_617 : Cond.methodLink RX8 31 yX7_strike ∈ eg_T := eg_in 640 (by decide +kernel) (by decide +kernel)
theorem tw_618 : Cond.methodLink RL 91 yX6_passDays ∈ eg_T := eg_in 641 (by decide +kernel) (by decide +kernel)
theorem tw_619 : Cond.instanceMethod yX6_passDays ∈ eg_T := eg_in 642 (by decide +kernel) (by decide +kernel)
theorem tw_620 : Cond.selects RX6 yX6_passDays yX6_passDays ∈ eg_T := eg_in 643 (by decide +kernel) (by decide +kernel)
theorem tw_621 : Cond.code yX6_passDays cX6_passDays 6 (some .int) ∈ eg_T := eg_in 644 (by decide +kernel) (by decide +kernel)
theorem tw_622 : Cond.stringRef RX6 136 "no such number of days can go by" ∈ lw_tbl := List.mem_of_getElem? (i := 645) (by decide +kernel)
theorem tw_623 : Cond.methodLinkNest RX6 138 yX0_growOlder RX6 ∈ lw_tbl := List.mem_of_getElem? (i := 646) (by decide +kernel)
theorem tw_625 : Cond.instanceMethod yX0_growOlder ∈ eg_T := eg_in 648 (by decide +kernel) (by decide +kernel)
theorem tw_626 : Cond.code yX0_growOlder cX0_growOlder 2 none ∈ eg_T := eg_in 649 (by decide +kernel) (by decide +kernel)
theorem tw_627 : Cond.methodLink RX0 39 yX0_dustBehind ∈ eg_T := eg_in 650 (by decide +kernel) (by decide +kernel)
theorem tw_629 : Cond.instanceMethod yX0_dustBehind ∈ eg_T := eg_in 652 (by decide +kernel) (by decide +kernel)
theorem tw_630 : Cond.code yX0_dustBehind cX0_dustBehind 2 (some .int) ∈ eg_T := eg_in 653 (by decide +kernel) (by decide +kernel)
theorem tw_631 : Cond.methodLink RX0 33 Lib.Math.min.name ∈ eg_T := eg_in 654 (by decide +kernel) (by decide +kernel)
theorem tw_632 : Cond.methodLink RX0 43 yX0_loseCertificate ∈ eg_T := eg_in 655 (by decide +kernel) (by decide +kernel)
theorem tw_633 : Cond.methodLink RL 94 yX8_certified ∈ eg_T := eg_in 656 (by decide +kernel) (by decide +kernel)
theorem tw_634 : Cond.methodLink RL 108 yL_build ∈ eg_T := eg_in 657 (by decide +kernel) (by decide +kernel)
theorem tw_635 : Cond.static yL_build ∈ eg_T := eg_in 658 (by decide +kernel) (by decide +kernel)
theorem tw_636 : Cond.code yL_build cL_build 5 (some (.object "EchoBureauLaw$Sim")) ∈ eg_T := eg_in 659 (by decide +kernel) (by decide +kernel)
theorem tw_637 : Cond.classLink RL 10 RX8 ∈ eg_T := eg_in 660 (by decide +kernel) (by decide +kernel)
theorem tw_638 : Cond.instantiable RX8 4 ∈ eg_T := eg_in 661 (by decide +kernel) (by decide +kernel)
theorem tw_639 : Cond.methodLinkNest RL 98 yX8_init RL ∈ lw_tbl := List.mem_of_getElem? (i := 662) (by decide +kernel)
theorem tw_640 : Cond.instanceMethod yX8_init ∈ eg_T := eg_in 663 (by decide +kernel) (by decide +kernel)
theorem tw_641 : Cond.code yX8_init cX8_init 1 none ∈ eg_T := eg_in 664 (by decide +kernel) (by decide +kernel)
theorem tw_642 : Cond.methodLink RX8 1 Lib.objectInit ∈ eg_T := eg_in 665 (by decide +kernel) (by decide +kernel)
theorem tw_643 : Cond.classLink RX8 7 RX7 ∈ eg_T := eg_in 666 (by decide +kernel) (by decide +kernel)
theorem tw_644 : Cond.fieldLink RX8 34 RX8 "day" "I" ∈ eg_T := eg_in 667 (by decide +kernel) (by decide +kernel)
theorem tw_645 : Cond.fieldLink RL 72 RX8 "inspections" "I" ∈ eg_T := eg_in 668 (by decide +kernel) (by decide +kernel)
theorem tw_646 : Cond.fieldLink RX8 50 RX8 "inspections" "I" ∈ eg_T := eg_in 669 (by decide +kernel) (by decide +kernel)
theorem tw_647 : Cond.fieldLink RX8 9 RX8 "halls" "[LEchoBureauLaw$Hall;" ∈ eg_T := eg_in 670 (by decide +kernel) (by decide +kernel)
theorem tw_648 : Cond.fieldLink RL 9 RX8 "halls" "[LEchoBureauLaw$Hall;" ∈ eg_T := eg_in 671 (by decide +kernel) (by decide +kernel)
theorem tw_649 : Cond.fieldLink RX8 17 RX8 "rules" "[[I" ∈ eg_T := eg_in 672 (by decide +kernel) (by decide +kernel)
theorem tw_650 : Cond.fieldLink RL 49 RX8 "rules" "[[I" ∈ eg_T := eg_in 673 (by decide +kernel) (by decide +kernel)
theorem tw_660 : Cond.methodLink RL 151 Lib.Math.max.name ∈ eg_T := eg_in 683 (by decide +kernel) (by decide +kernel)
theorem tp_X6_findHall : Cond.selects RX6 yX6_findHall yX6_findHall ∈ eg_T := eg_in 1 (by decide +kernel) (by decide +kernel)
theorem tp_X0_isFull : Cond.selects RX0 yX0_isFull yX0_isFull ∈ eg_T := eg_in 2 (by decide +kernel) (by decide +kernel)
theorem tp_X0_loseCertificate : Cond.selects RX0 yX0_loseCertificate yX0_loseCertificate ∈ eg_T := eg_in 3 (by decide +kernel) (by decide +kernel)
theorem tp_X0_build : Cond.selects RX0 yX0_build yX0_build ∈ eg_T := eg_in 4 (by decide +kernel) (by decide +kernel)
theorem tp_X4_hardnessUnder : Cond.selects RX4 yX4_hardnessUnder yX4_hardnessUnder ∈ eg_T := eg_in 5 (by decide +kernel) (by decide +kernel)
theorem tp_X6_tallyOfClick : Cond.selects RX6 yX6_tallyOfClick yX6_tallyOfClick ∈ eg_T := eg_in 6 (by decide +kernel) (by decide +kernel)
theorem tp_X6_tallyOf : Cond.selects RX6 yX6_tallyOf yX6_tallyOf ∈ eg_T := eg_in 7 (by decide +kernel) (by decide +kernel)
theorem tp_X5_begin : Cond.selects RX5 yX5_begin yX5_begin ∈ eg_T := eg_in 8 (by decide +kernel) (by decide +kernel)
theorem tp_X0_throwBack : Cond.selects RX0 yX0_throwBack yX0_throwBack ∈ eg_T := eg_in 9 (by decide +kernel) (by decide +kernel)
theorem tp_X4_throwRow : Cond.selects RX4 yX4_throwRow yX4_throwRow ∈ eg_T := eg_in 10 (by decide +kernel) (by decide +kernel)
theorem tp_X6_loudnessesOf : Cond.selects RX6 yX6_loudnessesOf yX6_loudnessesOf ∈ eg_T := eg_in 11 (by decide +kernel) (by decide +kernel)
theorem tp_X2_begin : Cond.selects RX2 yX2_begin yX2_begin ∈ eg_T := eg_in 12 (by decide +kernel) (by decide +kernel)
theorem tp_X2_addedAt : Cond.selects RX2 yX2_addedAt yX2_addedAt ∈ eg_T := eg_in 13 (by decide +kernel) (by decide +kernel)
theorem tp_X6_findStandard : Cond.selects RX6 yX6_findStandard yX6_findStandard ∈ eg_T := eg_in 14 (by decide +kernel) (by decide +kernel)
theorem tp_X6_meetsNow : Cond.selects RX6 yX6_meetsNow yX6_meetsNow ∈ eg_T := eg_in 15 (by decide +kernel) (by decide +kernel)
theorem tp_X6_wouldMeet : Cond.selects RX6 yX6_wouldMeet yX6_wouldMeet ∈ eg_T := eg_in 16 (by decide +kernel) (by decide +kernel)
theorem tp_X3_allows : Cond.selects RX3 yX3_allows yX3_allows ∈ eg_T := eg_in 17 (by decide +kernel) (by decide +kernel)
theorem tp_X0_hasCertificate : Cond.selects RX0 yX0_hasCertificate yX0_hasCertificate ∈ eg_T := eg_in 18 (by decide +kernel) (by decide +kernel)
theorem tp_X6_countCertified : Cond.selects RX6 yX6_countCertified yX6_countCertified ∈ eg_T := eg_in 19 (by decide +kernel) (by decide +kernel)
theorem tp_X0_takeCertificate : Cond.selects RX0 yX0_takeCertificate yX0_takeCertificate ∈ eg_T := eg_in 20 (by decide +kernel) (by decide +kernel)
theorem tp_X0_growOlder : Cond.selects RX0 yX0_growOlder yX0_growOlder ∈ eg_T := eg_in 21 (by decide +kernel) (by decide +kernel)
theorem tp_X0_dustBehind : Cond.selects RX0 yX0_dustBehind yX0_dustBehind ∈ eg_T := eg_in 22 (by decide +kernel) (by decide +kernel)
set_option maxRecDepth 20000 in
theorem fw_X0 : eg_FW RX0 TX0 6 := fun w hw => List.mem_filter.mpr ⟨(by decide +kernel : ∀ w ∈ u_ws RX0 TX0 6, w ∈ lw_tbl) w hw, (by decide +kernel : ∀ w ∈ u_ws RX0 TX0 6, goodWord w = true) w hw⟩
set_option maxRecDepth 20000 in
theorem fw_X2 : eg_FW RX2 TX2 1 := fun w hw => List.mem_filter.mpr ⟨(by decide +kernel : ∀ w ∈ u_ws RX2 TX2 1, w ∈ lw_tbl) w hw, (by decide +kernel : ∀ w ∈ u_ws RX2 TX2 1, goodWord w = true) w hw⟩
set_option maxRecDepth 20000 in
theorem fw_X3 : eg_FW RX3 TX3 5 := fun w hw => List.mem_filter.mpr ⟨(by decide +kernel : ∀ w ∈ u_ws RX3 TX3 5, w ∈ lw_tbl) w hw, (by decide +kernel : ∀ w ∈ u_ws RX3 TX3 5, goodWord w = true) w hw⟩
set_option maxRecDepth 20000 in
theorem fw_X4 : eg_FW RX4 TX4 2 := fun w hw => List.mem_filter.mpr ⟨(by decide +kernel : ∀ w ∈ u_ws RX4 TX4 2, w ∈ lw_tbl) w hw, (by decide +kernel : ∀ w ∈ u_ws RX4 TX4 2, goodWord w = true) w hw⟩
set_option maxRecDepth 20000 in
theorem fw_X5 : eg_FW RX5 TX5 5 := fun w hw => List.mem_filter.mpr ⟨(by decide +kernel : ∀ w ∈ u_ws RX5 TX5 5, w ∈ lw_tbl) w hw, (by decide +kernel : ∀ w ∈ u_ws RX5 TX5 5, goodWord w = true) w hw⟩
set_option maxRecDepth 20000 in
theorem fw_X6 : eg_FW RX6 TX6 8 := fun w hw => List.mem_filter.mpr ⟨(by decide +kernel : ∀ w ∈ u_ws RX6 TX6 8, w ∈ lw_tbl) w hw, (by decide +kernel : ∀ w ∈ u_ws RX6 TX6 8, goodWord w = true) w hw⟩
set_option maxRecDepth 20000 in
theorem fw_X7 : eg_FW RX7 TX7 5 := fun w hw => List.mem_filter.mpr ⟨(by decide +kernel : ∀ w ∈ u_ws RX7 TX7 5, w ∈ lw_tbl) w hw, (by decide +kernel : ∀ w ∈ u_ws RX7 TX7 5, goodWord w = true) w hw⟩
set_option maxRecDepth 20000 in
theorem fw_X8 : eg_FW RX8 TX8 4 := fun w hw => List.mem_filter.mpr ⟨(by decide +kernel : ∀ w ∈ u_ws RX8 TX8 4, w ∈ lw_tbl) w hw, (by decide +kernel : ∀ w ∈ u_ws RX8 TX8 4, goodWord w = true) w hw⟩
theorem m_X6_init : eg_M yX6_init cX6_init 1 none 0 := ⟨tw_21, tw_1, by decide +kernel, by decide +kernel, by decide +kernel⟩
theorem k_X6_init : Cond.instanceMethod yX6_init ∈ eg_T ∧ yX6_init.name = "<init>" := ⟨tw_20, rfl⟩
theorem m_X5_init : eg_M yX5_init cX5_init 1 none 0 := ⟨tw_33, tw_2, by decide +kernel, by decide +kernel, by decide +kernel⟩
theorem k_X5_init : Cond.instanceMethod yX5_init ∈ eg_T ∧ yX5_init.name = "<init>" := ⟨tw_32, rfl⟩
theorem m_X2_init : eg_M yX2_init cX2_init 1 none 0 := ⟨tw_63, tw_3, by decide +kernel, by decide +kernel, by decide +kernel⟩
theorem k_X2_init : Cond.instanceMethod yX2_init ∈ eg_T ∧ yX2_init.name = "<init>" := ⟨tw_62, rfl⟩
theorem m_X6_addHall : eg_M yX6_addHall cX6_addHall 3 (some .int) 1 := ⟨tw_98, tw_1, by decide +kernel, by decide +kernel, by decide +kernel⟩
theorem k_X6_addHall : Cond.instanceMethod yX6_addHall ∈ eg_T ∧ Cond.selects yX6_addHall.cls yX6_addHall yX6_addHall ∈ eg_T := ⟨tw_96, tw_97⟩
theorem m_X6_checkDamping : eg_M yX6_checkDamping cX6_checkDamping 1 none 1 := ⟨tw_101, tw_1, by decide +kernel, by decide +kernel, by decide +kernel⟩
theorem k_X6_checkDamping : Cond.static yX6_checkDamping ∈ eg_T := tw_100
theorem m_X6_isWithin : eg_M yX6_isWithin cX6_isWithin 3 (some .boolean) 3 := ⟨tw_104, tw_1, by decide +kernel, by decide +kernel, by decide +kernel⟩
theorem k_X6_isWithin : Cond.static yX6_isWithin ∈ eg_T := tw_103
theorem m_X0_init : eg_M yX0_init cX0_init 2 none 1 := ⟨tw_192, tw_11, by decide +kernel, by decide +kernel, by decide +kernel⟩
theorem k_X0_init : Cond.instanceMethod yX0_init ∈ eg_T ∧ yX0_init.name = "<init>" := ⟨tw_191, rfl⟩
theorem m_X6_addSurface : eg_M yX6_addSurface cX6_addSurface 5 (some .int) 3 := ⟨tw_224, tw_1, by decide +kernel, by decide +kernel, by decide +kernel⟩
theorem k_X6_addSurface : Cond.instanceMethod yX6_addSurface ∈ eg_T ∧ Cond.selects yX6_addSurface.cls yX6_addSurface yX6_addSurface ∈ eg_T := ⟨tw_222, tw_223⟩
theorem m_X6_findHall : eg_M yX6_findHall cX6_findHall 3 (some (.object "EchoBureau$Hall")) 1 := ⟨tw_228, tw_1, by decide +kernel, by decide +kernel, by decide +kernel⟩
theorem k_X6_findHall : Cond.instanceMethod yX6_findHall ∈ eg_T ∧ Cond.selects yX6_findHall.cls yX6_findHall yX6_findHall ∈ eg_T := ⟨tw_227, tp_X6_findHall⟩
theorem m_X6_checkDistance : eg_M yX6_checkDistance cX6_checkDistance 1 none 1 := ⟨tw_248, tw_1, by decide +kernel, by decide +kernel, by decide +kernel⟩
theorem k_X6_checkDistance : Cond.static yX6_checkDistance ∈ eg_T := tw_247
theorem m_X0_isFull : eg_M yX0_isFull cX0_isFull 1 (some .boolean) 0 := ⟨tw_254, tw_11, by decide +kernel, by decide +kernel, by decide +kernel⟩
theorem k_X0_isFull : Cond.instanceMethod yX0_isFull ∈ eg_T ∧ Cond.selects yX0_isFull.cls yX0_isFull yX0_isFull ∈ eg_T := ⟨tw_253, tp_X0_isFull⟩
theorem m_X0_loseCertificate : eg_M yX0_loseCertificate cX0_loseCertificate 1 none 0 := ⟨tw_259, tw_11, by decide +kernel, by decide +kernel, by decide +kernel⟩
theorem k_X0_loseCertificate : Cond.instanceMethod yX0_loseCertificate ∈ eg_T ∧ Cond.selects yX0_loseCertificate.cls yX0_loseCertificate yX0_loseCertificate ∈ eg_T := ⟨tw_258, tp_X0_loseCertificate⟩
theorem m_X4_init : eg_M yX4_init cX4_init 3 none 2 := ⟨tw_264, tw_13, by decide +kernel, by decide +kernel, by decide +kernel⟩
theorem k_X4_init : Cond.instanceMethod yX4_init ∈ eg_T ∧ yX4_init.name = "<init>" := ⟨tw_263, rfl⟩
theorem m_X0_build : eg_M yX0_build cX0_build 3 (some .int) 1 := ⟨tw_277, tw_11, by decide +kernel, by decide +kernel, by decide +kernel⟩
theorem k_X0_build : Cond.instanceMethod yX0_build ∈ eg_T ∧ Cond.selects yX0_build.cls yX0_build yX0_build ∈ eg_T := ⟨tw_276, tp_X0_build⟩
theorem m_X6_surfacesOf : eg_M yX6_surfacesOf cX6_surfacesOf 2 (some .int) 1 := ⟨tw_281, tw_1, by decide +kernel, by decide +kernel, by decide +kernel⟩
theorem k_X6_surfacesOf : Cond.instanceMethod yX6_surfacesOf ∈ eg_T ∧ Cond.selects yX6_surfacesOf.cls yX6_surfacesOf yX6_surfacesOf ∈ eg_T := ⟨tw_279, tw_280⟩
theorem m_X6_distanceOf : eg_M yX6_distanceOf cX6_distanceOf 3 (some .int) 2 := ⟨tw_285, tw_1, by decide +kernel, by decide +kernel, by decide +kernel⟩
theorem k_X6_distanceOf : Cond.instanceMethod yX6_distanceOf ∈ eg_T ∧ Cond.selects yX6_distanceOf.cls yX6_distanceOf yX6_distanceOf ∈ eg_T := ⟨tw_283, tw_284⟩
theorem m_X6_findSurface : eg_M yX6_findSurface cX6_findSurface 3 (some (.object "EchoBureau$Surface")) 2 := ⟨tw_288, tw_1, by decide +kernel, by decide +kernel, by decide +kernel⟩
theorem k_X6_findSurface : Cond.static yX6_findSurface ∈ eg_T := tw_287
theorem m_X6_hardnessOf : eg_M yX6_hardnessOf cX6_hardnessOf 4 (some .int) 2 := ⟨tw_294, tw_1, by decide +kernel, by decide +kernel, by decide +kernel⟩
theorem k_X6_hardnessOf : Cond.instanceMethod yX6_hardnessOf ∈ eg_T ∧ Cond.selects yX6_hardnessOf.cls yX6_hardnessOf yX6_hardnessOf ∈ eg_T := ⟨tw_292, tw_293⟩
theorem m_X4_hardnessUnder : eg_M yX4_hardnessUnder cX4_hardnessUnder 2 (some .int) 1 := ⟨tw_298, tw_13, by decide +kernel, by decide +kernel, by decide +kernel⟩
theorem k_X4_hardnessUnder : Cond.instanceMethod yX4_hardnessUnder ∈ eg_T ∧ Cond.selects yX4_hardnessUnder.cls yX4_hardnessUnder yX4_hardnessUnder ∈ eg_T := ⟨tw_297, tp_X4_hardnessUnder⟩
theorem m_X6_dampingOf : eg_M yX6_dampingOf cX6_dampingOf 2 (some .int) 1 := ⟨tw_305, tw_1, by decide +kernel, by decide +kernel, by decide +kernel⟩
theorem k_X6_dampingOf : Cond.instanceMethod yX6_dampingOf ∈ eg_T ∧ Cond.selects yX6_dampingOf.cls yX6_dampingOf yX6_dampingOf ∈ eg_T := ⟨tw_303, tw_304⟩
theorem m_X6_dustOf : eg_M yX6_dustOf cX6_dustOf 2 (some .int) 1 := ⟨tw_309, tw_1, by decide +kernel, by decide +kernel, by decide +kernel⟩
theorem k_X6_dustOf : Cond.instanceMethod yX6_dustOf ∈ eg_T ∧ Cond.selects yX6_dustOf.cls yX6_dustOf yX6_dustOf ∈ eg_T := ⟨tw_307, tw_308⟩
theorem m_X6_echoes : eg_M yX6_echoes cX6_echoes 3 (some .int) 2 := ⟨tw_313, tw_1, by decide +kernel, by decide +kernel, by decide +kernel⟩
theorem k_X6_echoes : Cond.instanceMethod yX6_echoes ∈ eg_T ∧ Cond.selects yX6_echoes.cls yX6_echoes yX6_echoes ∈ eg_T := ⟨tw_311, tw_312⟩
theorem m_X6_tallyOfClick : eg_M yX6_tallyOfClick cX6_tallyOfClick 4 (some (.object "EchoBureau$Tally")) 2 := ⟨tw_317, tw_1, by decide +kernel, by decide +kernel, by decide +kernel⟩
theorem k_X6_tallyOfClick : Cond.instanceMethod yX6_tallyOfClick ∈ eg_T ∧ Cond.selects yX6_tallyOfClick.cls yX6_tallyOfClick yX6_tallyOfClick ∈ eg_T := ⟨tw_316, tp_X6_tallyOfClick⟩
theorem m_X6_checkLoudness : eg_M yX6_checkLoudness cX6_checkLoudness 1 none 1 := ⟨tw_320, tw_1, by decide +kernel, by decide +kernel, by decide +kernel⟩
theorem k_X6_checkLoudness : Cond.static yX6_checkLoudness ∈ eg_T := tw_319
theorem m_X6_tallyOf : eg_M yX6_tallyOf cX6_tallyOf 4 (some (.object "EchoBureau$Tally")) 3 := ⟨tw_325, tw_1, by decide +kernel, by decide +kernel, by decide +kernel⟩
theorem k_X6_tallyOf : Cond.instanceMethod yX6_tallyOf ∈ eg_T ∧ Cond.selects yX6_tallyOf.cls yX6_tallyOf yX6_tallyOf ∈ eg_T := ⟨tw_324, tp_X6_tallyOf⟩
theorem m_X5_begin : eg_M yX5_begin cX5_begin 2 none 1 := ⟨tw_329, tw_2, by decide +kernel, by decide +kernel, by decide +kernel⟩
theorem k_X5_begin : Cond.instanceMethod yX5_begin ∈ eg_T ∧ Cond.selects yX5_begin.cls yX5_begin yX5_begin ∈ eg_T := ⟨tw_328, tp_X5_begin⟩
theorem m_X0_throwBack : eg_M yX0_throwBack cX0_throwBack 9 none 4 := ⟨tw_333, tw_11, by decide +kernel, by decide +kernel, by decide +kernel⟩
theorem k_X0_throwBack : Cond.instanceMethod yX0_throwBack ∈ eg_T ∧ Cond.selects yX0_throwBack.cls yX0_throwBack yX0_throwBack ∈ eg_T := ⟨tw_332, tp_X0_throwBack⟩
theorem m_X4_throwRow : eg_M yX4_throwRow cX4_throwRow 9 none 4 := ⟨tw_337, tw_13, by decide +kernel, by decide +kernel, by decide +kernel⟩
theorem k_X4_throwRow : Cond.instanceMethod yX4_throwRow ∈ eg_T ∧ Cond.selects yX4_throwRow.cls yX4_throwRow yX4_throwRow ∈ eg_T := ⟨tw_336, tp_X4_throwRow⟩
theorem m_X2_hear : eg_M yX2_hear cX2_hear 4 none 2 := ⟨tw_348, tw_3, by decide +kernel, by decide +kernel, by decide +kernel⟩
theorem k_X2_hear : Cond.instanceMethod yX2_hear ∈ eg_T ∧ Cond.selects yX2_hear.cls (⟨"EchoBureau$Listener", "hear", "(II)V"⟩ : MethodName) yX2_hear ∈ eg_T := ⟨tw_346, tw_344⟩
theorem m_X5_hear : eg_M yX5_hear cX5_hear 3 none 2 := ⟨tw_354, tw_2, by decide +kernel, by decide +kernel, by decide +kernel⟩
theorem k_X5_hear : Cond.instanceMethod yX5_hear ∈ eg_T ∧ Cond.selects yX5_hear.cls (⟨"EchoBureau$Listener", "hear", "(II)V"⟩ : MethodName) yX5_hear ∈ eg_T := ⟨tw_352, tw_350⟩
theorem m_X6_loudEchoes : eg_M yX6_loudEchoes cX6_loudEchoes 5 (some .int) 3 := ⟨tw_358, tw_1, by decide +kernel, by decide +kernel, by decide +kernel⟩
theorem k_X6_loudEchoes : Cond.instanceMethod yX6_loudEchoes ∈ eg_T ∧ Cond.selects yX6_loudEchoes.cls yX6_loudEchoes yX6_loudEchoes ∈ eg_T := ⟨tw_356, tw_357⟩
theorem m_X6_firstEcho : eg_M yX6_firstEcho cX6_firstEcho 3 (some .int) 2 := ⟨tw_362, tw_1, by decide +kernel, by decide +kernel, by decide +kernel⟩
theorem k_X6_firstEcho : Cond.instanceMethod yX6_firstEcho ∈ eg_T ∧ Cond.selects yX6_firstEcho.cls yX6_firstEcho yX6_firstEcho ∈ eg_T := ⟨tw_360, tw_361⟩
theorem m_X6_lastEcho : eg_M yX6_lastEcho cX6_lastEcho 3 (some .int) 2 := ⟨tw_366, tw_1, by decide +kernel, by decide +kernel, by decide +kernel⟩
theorem k_X6_lastEcho : Cond.instanceMethod yX6_lastEcho ∈ eg_T ∧ Cond.selects yX6_lastEcho.cls yX6_lastEcho yX6_lastEcho ∈ eg_T := ⟨tw_364, tw_365⟩
theorem m_X6_loudnessAt : eg_M yX6_loudnessAt cX6_loudnessAt 5 (some .int) 3 := ⟨tw_370, tw_1, by decide +kernel, by decide +kernel, by decide +kernel⟩
theorem k_X6_loudnessAt : Cond.instanceMethod yX6_loudnessAt ∈ eg_T ∧ Cond.selects yX6_loudnessAt.cls yX6_loudnessAt yX6_loudnessAt ∈ eg_T := ⟨tw_368, tw_369⟩
theorem m_X6_loudnessesOf : eg_M yX6_loudnessesOf cX6_loudnessesOf 3 (some (.object "EchoBureau$Loudnesses")) 2 := ⟨tw_375, tw_1, by decide +kernel, by decide +kernel, by decide +kernel⟩
theorem k_X6_loudnessesOf : Cond.instanceMethod yX6_loudnessesOf ∈ eg_T ∧ Cond.selects yX6_loudnessesOf.cls yX6_loudnessesOf yX6_loudnessesOf ∈ eg_T := ⟨tw_374, tp_X6_loudnessesOf⟩
theorem m_X2_begin : eg_M yX2_begin cX2_begin 1 none 0 := ⟨tw_379, tw_3, by decide +kernel, by decide +kernel, by decide +kernel⟩
theorem k_X2_begin : Cond.instanceMethod yX2_begin ∈ eg_T ∧ Cond.selects yX2_begin.cls yX2_begin yX2_begin ∈ eg_T := ⟨tw_378, tp_X2_begin⟩
theorem m_J7_fill_53178 : eg_M yJ7_fill_53178 cJ7_fill_53178 4 none 2 := ⟨tw_382, tw_16, by decide +kernel, by decide +kernel, by decide +kernel⟩
theorem k_J7_fill_53178 : Cond.static yJ7_fill_53178 ∈ eg_T := tw_381
theorem m_X2_addedAt : eg_M yX2_addedAt cX2_addedAt 4 (some .int) 1 := ⟨tw_386, tw_3, by decide +kernel, by decide +kernel, by decide +kernel⟩
theorem k_X2_addedAt : Cond.instanceMethod yX2_addedAt ∈ eg_T ∧ Cond.selects yX2_addedAt.cls yX2_addedAt yX2_addedAt ∈ eg_T := ⟨tw_385, tp_X2_addedAt⟩
theorem m_X6_meets : eg_M yX6_meets cX6_meets 4 (some .boolean) 2 := ⟨tw_390, tw_1, by decide +kernel, by decide +kernel, by decide +kernel⟩
theorem k_X6_meets : Cond.instanceMethod yX6_meets ∈ eg_T ∧ Cond.selects yX6_meets.cls yX6_meets yX6_meets ∈ eg_T := ⟨tw_388, tw_389⟩
theorem m_X6_findStandard : eg_M yX6_findStandard cX6_findStandard 3 (some (.object "EchoBureau$Standard")) 1 := ⟨tw_394, tw_1, by decide +kernel, by decide +kernel, by decide +kernel⟩
theorem k_X6_findStandard : Cond.instanceMethod yX6_findStandard ∈ eg_T ∧ Cond.selects yX6_findStandard.cls yX6_findStandard yX6_findStandard ∈ eg_T := ⟨tw_393, tp_X6_findStandard⟩
theorem m_X6_meetsNow : eg_M yX6_meetsNow cX6_meetsNow 3 (some .boolean) 2 := ⟨tw_400, tw_1, by decide +kernel, by decide +kernel, by decide +kernel⟩
theorem k_X6_meetsNow : Cond.instanceMethod yX6_meetsNow ∈ eg_T ∧ Cond.selects yX6_meetsNow.cls yX6_meetsNow yX6_meetsNow ∈ eg_T := ⟨tw_399, tp_X6_meetsNow⟩
theorem m_X6_wouldMeet : eg_M yX6_wouldMeet cX6_wouldMeet 5 (some .boolean) 4 := ⟨tw_404, tw_1, by decide +kernel, by decide +kernel, by decide +kernel⟩
theorem k_X6_wouldMeet : Cond.instanceMethod yX6_wouldMeet ∈ eg_T ∧ Cond.selects yX6_wouldMeet.cls yX6_wouldMeet yX6_wouldMeet ∈ eg_T := ⟨tw_403, tp_X6_wouldMeet⟩
theorem m_X3_allows : eg_M yX3_allows cX3_allows 2 (some .boolean) 1 := ⟨tw_409, tw_14, by decide +kernel, by decide +kernel, by decide +kernel⟩
theorem k_X3_allows : Cond.instanceMethod yX3_allows ∈ eg_T ∧ Cond.selects yX3_allows.cls yX3_allows yX3_allows ∈ eg_T := ⟨tw_407, tp_X3_allows⟩
theorem m_X6_hallsMeeting : eg_M yX6_hallsMeeting cX6_hallsMeeting 8 (some .int) 1 := ⟨tw_413, tw_1, by decide +kernel, by decide +kernel, by decide +kernel⟩
theorem k_X6_hallsMeeting : Cond.instanceMethod yX6_hallsMeeting ∈ eg_T ∧ Cond.selects yX6_hallsMeeting.cls yX6_hallsMeeting yX6_hallsMeeting ∈ eg_T := ⟨tw_411, tw_412⟩
theorem m_X6_isCertified : eg_M yX6_isCertified cX6_isCertified 2 (some .boolean) 1 := ⟨tw_417, tw_1, by decide +kernel, by decide +kernel, by decide +kernel⟩
theorem k_X6_isCertified : Cond.instanceMethod yX6_isCertified ∈ eg_T ∧ Cond.selects yX6_isCertified.cls yX6_isCertified yX6_isCertified ∈ eg_T := ⟨tw_415, tw_416⟩
theorem m_X0_hasCertificate : eg_M yX0_hasCertificate cX0_hasCertificate 1 (some .boolean) 0 := ⟨tw_421, tw_11, by decide +kernel, by decide +kernel, by decide +kernel⟩
theorem k_X0_hasCertificate : Cond.instanceMethod yX0_hasCertificate ∈ eg_T ∧ Cond.selects yX0_hasCertificate.cls yX0_hasCertificate yX0_hasCertificate ∈ eg_T := ⟨tw_420, tp_X0_hasCertificate⟩
theorem m_X6_daysLeft : eg_M yX6_daysLeft cX6_daysLeft 2 (some .int) 1 := ⟨tw_425, tw_1, by decide +kernel, by decide +kernel, by decide +kernel⟩
theorem k_X6_daysLeft : Cond.instanceMethod yX6_daysLeft ∈ eg_T ∧ Cond.selects yX6_daysLeft.cls yX6_daysLeft yX6_daysLeft ∈ eg_T := ⟨tw_423, tw_424⟩
theorem m_X6_halls : eg_M yX6_halls cX6_halls 1 (some .int) 0 := ⟨tw_429, tw_1, by decide +kernel, by decide +kernel, by decide +kernel⟩
theorem k_X6_halls : Cond.instanceMethod yX6_halls ∈ eg_T ∧ Cond.selects yX6_halls.cls yX6_halls yX6_halls ∈ eg_T := ⟨tw_427, tw_428⟩
theorem m_X6_standards : eg_M yX6_standards cX6_standards 1 (some .int) 0 := ⟨tw_433, tw_1, by decide +kernel, by decide +kernel, by decide +kernel⟩
theorem k_X6_standards : Cond.instanceMethod yX6_standards ∈ eg_T ∧ Cond.selects yX6_standards.cls yX6_standards yX6_standards ∈ eg_T := ⟨tw_431, tw_432⟩
theorem m_X6_certifiedHalls : eg_M yX6_certifiedHalls cX6_certifiedHalls 1 (some .int) 0 := ⟨tw_437, tw_1, by decide +kernel, by decide +kernel, by decide +kernel⟩
theorem k_X6_certifiedHalls : Cond.instanceMethod yX6_certifiedHalls ∈ eg_T ∧ Cond.selects yX6_certifiedHalls.cls yX6_certifiedHalls yX6_certifiedHalls ∈ eg_T := ⟨tw_435, tw_436⟩
theorem m_X6_countCertified : eg_M yX6_countCertified cX6_countCertified 6 (some .int) 0 := ⟨tw_441, tw_1, by decide +kernel, by decide +kernel, by decide +kernel⟩
theorem k_X6_countCertified : Cond.instanceMethod yX6_countCertified ∈ eg_T ∧ Cond.selects yX6_countCertified.cls yX6_countCertified yX6_countCertified ∈ eg_T := ⟨tw_440, tp_X6_countCertified⟩
theorem m_X6_meetsWithDamping : eg_M yX6_meetsWithDamping cX6_meetsWithDamping 6 (some .boolean) 3 := ⟨tw_445, tw_1, by decide +kernel, by decide +kernel, by decide +kernel⟩
theorem k_X6_meetsWithDamping : Cond.instanceMethod yX6_meetsWithDamping ∈ eg_T ∧ Cond.selects yX6_meetsWithDamping.cls yX6_meetsWithDamping yX6_meetsWithDamping ∈ eg_T := ⟨tw_443, tw_444⟩
theorem m_X6_meanDamping : eg_M yX6_meanDamping cX6_meanDamping 6 (some .double) 0 := ⟨tw_449, tw_1, by decide +kernel, by decide +kernel, by decide +kernel⟩
theorem k_X6_meanDamping : Cond.instanceMethod yX6_meanDamping ∈ eg_T ∧ Cond.selects yX6_meanDamping.cls yX6_meanDamping yX6_meanDamping ∈ eg_T := ⟨tw_447, tw_448⟩
theorem m_X8_isSame : eg_M yX8_isSame cX8_isSame 8 (some .boolean) 2 := ⟨tw_453, tw_4, by decide +kernel, by decide +kernel, by decide +kernel⟩
theorem k_X8_isSame : Cond.instanceMethod yX8_isSame ∈ eg_T ∧ Cond.selects yX8_isSame.cls yX8_isSame yX8_isSame ∈ eg_T := ⟨tw_451, tw_452⟩
theorem m_X6_day : eg_M yX6_day cX6_day 1 (some .int) 0 := ⟨tw_459, tw_1, by decide +kernel, by decide +kernel, by decide +kernel⟩
theorem k_X6_day : Cond.instanceMethod yX6_day ∈ eg_T ∧ Cond.selects yX6_day.cls yX6_day yX6_day ∈ eg_T := ⟨tw_457, tw_458⟩
theorem m_X6_inspections : eg_M yX6_inspections cX6_inspections 1 (some .int) 0 := ⟨tw_463, tw_1, by decide +kernel, by decide +kernel, by decide +kernel⟩
theorem k_X6_inspections : Cond.instanceMethod yX6_inspections ∈ eg_T ∧ Cond.selects yX6_inspections.cls yX6_inspections yX6_inspections ∈ eg_T := ⟨tw_461, tw_462⟩
theorem m_X8_certified : eg_M yX8_certified cX8_certified 6 (some .int) 0 := ⟨tw_468, tw_4, by decide +kernel, by decide +kernel, by decide +kernel⟩
theorem k_X8_certified : Cond.instanceMethod yX8_certified ∈ eg_T ∧ Cond.selects yX8_certified.cls yX8_certified yX8_certified ∈ eg_T := ⟨tw_466, tw_467⟩
theorem m_X6_certifiedBy : eg_M yX6_certifiedBy cX6_certifiedBy 3 (some .int) 1 := ⟨tw_476, tw_1, by decide +kernel, by decide +kernel, by decide +kernel⟩
theorem k_X6_certifiedBy : Cond.instanceMethod yX6_certifiedBy ∈ eg_T ∧ Cond.selects yX6_certifiedBy.cls yX6_certifiedBy yX6_certifiedBy ∈ eg_T := ⟨tw_474, tw_475⟩
theorem m_X6_checkCertificate : eg_M yX6_checkCertificate cX6_checkCertificate 1 none 1 := ⟨tw_479, tw_1, by decide +kernel, by decide +kernel, by decide +kernel⟩
theorem k_X6_checkCertificate : Cond.static yX6_checkCertificate ∈ eg_T := tw_478
theorem m_X7_hard : eg_M yX7_hard cX7_hard 3 (some .int) 2 := ⟨tw_487, tw_5, by decide +kernel, by decide +kernel, by decide +kernel⟩
theorem k_X7_hard : Cond.instanceMethod yX7_hard ∈ eg_T ∧ Cond.selects yX7_hard.cls yX7_hard yX7_hard ∈ eg_T := ⟨tw_485, tw_486⟩
theorem m_X7_echoes : eg_M yX7_echoes cX7_echoes 9 (some (.array .int)) 4 := ⟨tw_492, tw_5, by decide +kernel, by decide +kernel, by decide +kernel⟩
theorem k_X7_echoes : Cond.instanceMethod yX7_echoes ∈ eg_T ∧ Cond.selects yX7_echoes.cls yX7_echoes yX7_echoes ∈ eg_T := ⟨tw_490, tw_491⟩
theorem m_X7_meets : eg_M yX7_meets cX7_meets 5 (some .boolean) 3 := ⟨tw_505, tw_5, by decide +kernel, by decide +kernel, by decide +kernel⟩
theorem k_X7_meets : Cond.instanceMethod yX7_meets ∈ eg_T ∧ Cond.selects yX7_meets.cls yX7_meets yX7_meets ∈ eg_T := ⟨tw_503, tw_504⟩
theorem m_L_below : eg_M yL_below cL_below 2 (some .int) 2 := ⟨tw_510, tw_0, by decide +kernel, by decide +kernel, by decide +kernel⟩
theorem k_L_below : Cond.static yL_below ∈ eg_T := tw_509
theorem m_L_cell : eg_M yL_cell cL_cell 2 (some .int) 2 := ⟨tw_514, tw_0, by decide +kernel, by decide +kernel, by decide +kernel⟩
theorem k_L_cell : Cond.static yL_cell ∈ eg_T := tw_513
theorem m_L_act : eg_M yL_act cL_act 19 (some .boolean) 3 := ⟨tw_518, tw_0, by decide +kernel, by decide +kernel, by decide +kernel⟩
theorem k_L_act : Cond.static yL_act ∈ eg_T := tw_517
theorem m_X7_init : eg_M yX7_init cX7_init 1 none 0 := ⟨tw_524, tw_5, by decide +kernel, by decide +kernel, by decide +kernel⟩
theorem k_X7_init : Cond.instanceMethod yX7_init ∈ eg_T ∧ yX7_init.name = "<init>" := ⟨tw_523, rfl⟩
theorem m_X8_with : eg_M yX8_with cX8_with 4 (some (.array (.array .int))) 2 := ⟨tw_554, tw_4, by decide +kernel, by decide +kernel, by decide +kernel⟩
theorem k_X8_with : Cond.static yX8_with ∈ eg_T := tw_553
theorem m_X7_strike : eg_M yX7_strike cX7_strike 1 none 0 := ⟨tw_559, tw_5, by decide +kernel, by decide +kernel, by decide +kernel⟩
theorem k_X7_strike : Cond.instanceMethod yX7_strike ∈ eg_T ∧ Cond.selects yX7_strike.cls yX7_strike yX7_strike ∈ eg_T := ⟨tw_557, tw_558⟩
theorem m_X6_moveSurface : eg_M yX6_moveSurface cX6_moveSurface 7 (some .int) 3 := ⟨tw_563, tw_1, by decide +kernel, by decide +kernel, by decide +kernel⟩
theorem k_X6_moveSurface : Cond.instanceMethod yX6_moveSurface ∈ eg_T ∧ Cond.selects yX6_moveSurface.cls yX6_moveSurface yX6_moveSurface ∈ eg_T := ⟨tw_561, tw_562⟩
theorem m_X6_setDamping : eg_M yX6_setDamping cX6_setDamping 5 (some .int) 2 := ⟨tw_567, tw_1, by decide +kernel, by decide +kernel, by decide +kernel⟩
theorem k_X6_setDamping : Cond.instanceMethod yX6_setDamping ∈ eg_T ∧ Cond.selects yX6_setDamping.cls yX6_setDamping yX6_setDamping ∈ eg_T := ⟨tw_565, tw_566⟩
theorem m_X6_clean : eg_M yX6_clean cX6_clean 4 (some .int) 1 := ⟨tw_571, tw_1, by decide +kernel, by decide +kernel, by decide +kernel⟩
theorem k_X6_clean : Cond.instanceMethod yX6_clean ∈ eg_T ∧ Cond.selects yX6_clean.cls yX6_clean yX6_clean ∈ eg_T := ⟨tw_569, tw_570⟩
theorem m_X6_addStandard : eg_M yX6_addStandard cX6_addStandard 8 (some .int) 5 := ⟨tw_575, tw_1, by decide +kernel, by decide +kernel, by decide +kernel⟩
theorem k_X6_addStandard : Cond.instanceMethod yX6_addStandard ∈ eg_T ∧ Cond.selects yX6_addStandard.cls yX6_addStandard yX6_addStandard ∈ eg_T := ⟨tw_573, tw_574⟩
theorem m_X3_init : eg_M yX3_init cX3_init 6 none 5 := ⟨tw_580, tw_14, by decide +kernel, by decide +kernel, by decide +kernel⟩
theorem k_X3_init : Cond.instanceMethod yX3_init ∈ eg_T ∧ yX3_init.name = "<init>" := ⟨tw_579, rfl⟩
theorem m_X6_inspect : eg_M yX6_inspect cX6_inspect 6 (some .boolean) 2 := ⟨tw_604, tw_1, by decide +kernel, by decide +kernel, by decide +kernel⟩
theorem k_X6_inspect : Cond.instanceMethod yX6_inspect ∈ eg_T ∧ Cond.selects yX6_inspect.cls yX6_inspect yX6_inspect ∈ eg_T := ⟨tw_602, tw_603⟩
theorem m_X0_takeCertificate : eg_M yX0_takeCertificate cX0_takeCertificate 3 none 2 := ⟨tw_608, tw_11, by decide +kernel, by decide +kernel, by decide +kernel⟩
theorem k_X0_takeCertificate : Cond.instanceMethod yX0_takeCertificate ∈ eg_T ∧ Cond.selects yX0_takeCertificate.cls yX0_takeCertificate yX0_takeCertificate ∈ eg_T := ⟨tw_607, tp_X0_takeCertificate⟩
theorem m_X6_revoke : eg_M yX6_revoke cX6_revoke 4 (some .int) 1 := ⟨tw_612, tw_1, by decide +kernel, by decide +kernel, by decide +kernel⟩
theorem k_X6_revoke : Cond.instanceMethod yX6_revoke ∈ eg_T ∧ Cond.selects yX6_revoke.cls yX6_revoke yX6_revoke ∈ eg_T := ⟨tw_610, tw_611⟩
theorem m_X8_pass : eg_M yX8_pass cX8_pass 5 none 0 := ⟨tw_616, tw_4, by decide +kernel, by decide +kernel, by decide +kernel⟩
theorem k_X8_pass : Cond.instanceMethod yX8_pass ∈ eg_T ∧ Cond.selects yX8_pass.cls yX8_pass yX8_pass ∈ eg_T := ⟨tw_614, tw_615⟩
theorem m_X6_passDays : eg_M yX6_passDays cX6_passDays 6 (some .int) 1 := ⟨tw_621, tw_1, by decide +kernel, by decide +kernel, by decide +kernel⟩
theorem k_X6_passDays : Cond.instanceMethod yX6_passDays ∈ eg_T ∧ Cond.selects yX6_passDays.cls yX6_passDays yX6_passDays ∈ eg_T := ⟨tw_619, tw_620⟩
theorem m_X0_growOlder : eg_M yX0_growOlder cX0_growOlder 2 none 1 := ⟨tw_626, tw_11, by decide +kernel, by decide +kernel, by decide +kernel⟩
theorem k_X0_growOlder : Cond.instanceMethod yX0_growOlder ∈ eg_T ∧ Cond.selects yX0_growOlder.cls yX0_growOlder yX0_growOlder ∈ eg_T := ⟨tw_625, tp_X0_growOlder⟩
theorem m_X0_dustBehind : eg_M yX0_dustBehind cX0_dustBehind 2 (some .int) 1 := ⟨tw_630, tw_11, by decide +kernel, by decide +kernel, by decide +kernel⟩
theorem k_X0_dustBehind : Cond.instanceMethod yX0_dustBehind ∈ eg_T ∧ Cond.selects yX0_dustBehind.cls yX0_dustBehind yX0_dustBehind ∈ eg_T := ⟨tw_629, tp_X0_dustBehind⟩
theorem m_L_build : eg_M yL_build cL_build 5 (some (.object "EchoBureauLaw$Sim")) 2 := ⟨tw_636, tw_0, by decide +kernel, by decide +kernel, by decide +kernel⟩
theorem k_L_build : Cond.static yL_build ∈ eg_T := tw_635
theorem m_X8_init : eg_M yX8_init cX8_init 1 none 0 := ⟨tw_641, tw_4, by decide +kernel, by decide +kernel, by decide +kernel⟩
theorem k_X8_init : Cond.instanceMethod yX8_init ∈ eg_T ∧ yX8_init.name = "<init>" := ⟨tw_640, rfl⟩
