theorem lk_X3_136 : zWd (.methodLink RX3 136 yX3_find) := ⟨pm_3 _ (List.mem_of_getElem? (i := 175) (by decide +kernel)), rfl⟩
theorem lk_X3_140 : zWd (.methodLink RX3 140 yX3_countFolded) := ⟨pm_3 _ (List.mem_of_getElem? (i := 176) (by decide +kernel)), rfl⟩
theorem im_X3_countFolded : zWd (.instanceMethod yX3_countFolded) := ⟨pm_3 _ (List.mem_of_getElem? (i := 177) (by decide +kernel)), rfl⟩
theorem se_X3_X3_countFolded : zWd (.selects RX3 yX3_countFolded yX3_countFolded) := ⟨pm_3 _ (List.mem_of_getElem? (i := 178) (by decide +kernel)), rfl⟩
theorem cd_X3_countFolded : zWd (.code yX3_countFolded cX3_countFolded 3 (some .int)) := ⟨pm_3 _ (List.mem_of_getElem? (i := 179) (by decide +kernel)), rfl⟩
theorem lk_X3_95 : zWd (.methodLink RX3 95 yX3_useOil) := ⟨pm_3 _ (List.mem_of_getElem? (i := 180) (by decide +kernel)), rfl⟩
theorem im_X3_useOil : zWd (.instanceMethod yX3_useOil) := ⟨pm_3 _ (List.mem_of_getElem? (i := 182) (by decide +kernel)), rfl⟩
theorem cd_X3_useOil : zWd (.code yX3_useOil cX3_useOil 3 (some .int)) := ⟨pm_3 _ (List.mem_of_getElem? (i := 183) (by decide +kernel)), rfl⟩
theorem lk_X3_144 : zWd (.methodLink RX3 144 Lib.Math.max.name) := ⟨pm_3 _ (List.mem_of_getElem? (i := 184) (by decide +kernel)), rfl⟩
theorem st_J9_max_7cf53 : zWd (.static Lib.Math.max.name) := ⟨pm_3 _ (List.mem_of_getElem? (i := 185) (by decide +kernel)), rfl⟩
theorem cd_J9_max_7cf53 : zWd (.code Lib.Math.max.name Lib.Math.max.code 2 (some .int)) := ⟨pm_3 _ (List.mem_of_getElem? (i := 186) (by decide +kernel)), rfl⟩
theorem lk_X3_98 : zWd (.methodLink RX3 98 yX3_move) := ⟨pm_3 _ (List.mem_of_getElem? (i := 187) (by decide +kernel)), rfl⟩
theorem im_X3_move : zWd (.instanceMethod yX3_move) := ⟨pm_3 _ (List.mem_of_getElem? (i := 189) (by decide +kernel)), rfl⟩
theorem cd_X3_move : zWd (.code yX3_move cX3_move 5 (some .int)) := ⟨pm_3 _ (List.mem_of_getElem? (i := 190) (by decide +kernel)), rfl⟩
theorem lk_X3_149 : zWd (.methodLink RX3 149 yX3_moveAt) := ⟨pm_3 _ (List.mem_of_getElem? (i := 191) (by decide +kernel)), rfl⟩
theorem im_X3_moveAt : zWd (.instanceMethod yX3_moveAt) := ⟨pm_3 _ (List.mem_of_getElem? (i := 193) (by decide +kernel)), rfl⟩
theorem cd_X3_moveAt : zWd (.code yX3_moveAt cX3_moveAt 4 none) := ⟨pm_3 _ (List.mem_of_getElem? (i := 194) (by decide +kernel)), rfl⟩
theorem lk_X3_101 : zWd (.methodLink RX3 101 yX3_moveHerd) := ⟨pm_3 _ (List.mem_of_getElem? (i := 195) (by decide +kernel)), rfl⟩
theorem im_X3_moveHerd : zWd (.instanceMethod yX3_moveHerd) := ⟨pm_3 _ (List.mem_of_getElem? (i := 197) (by decide +kernel)), rfl⟩
theorem cd_X3_moveHerd : zWd (.code yX3_moveHerd cX3_moveHerd 5 (some .int)) := ⟨pm_3 _ (List.mem_of_getElem? (i := 198) (by decide +kernel)), rfl⟩
theorem lk_X3_152 : zWd (.methodLink RX3 152 yX3_countGrazingOn) := ⟨pm_3 _ (List.mem_of_getElem? (i := 199) (by decide +kernel)), rfl⟩
theorem lk_X3_155 : zWd (.methodLink RX3 155 Lib.Math.min.name) := ⟨pm_3 _ (List.mem_of_getElem? (i := 200) (by decide +kernel)), rfl⟩
theorem st_J9_min_7cf53 : zWd (.static Lib.Math.min.name) := ⟨pm_3 _ (List.mem_of_getElem? (i := 201) (by decide +kernel)), rfl⟩
theorem cd_J9_min_7cf53 : zWd (.code Lib.Math.min.name Lib.Math.min.code 2 (some .int)) := ⟨pm_3 _ (List.mem_of_getElem? (i := 202) (by decide +kernel)), rfl⟩
theorem lk_X3_158 : zWd (.methodLink RX3 158 yX3_firstGrazingOn) := ⟨pm_3 _ (List.mem_of_getElem? (i := 203) (by decide +kernel)), rfl⟩
theorem im_X3_firstGrazingOn : zWd (.instanceMethod yX3_firstGrazingOn) := ⟨pm_3 _ (List.mem_of_getElem? (i := 205) (by decide +kernel)), rfl⟩
theorem cd_X3_firstGrazingOn : zWd (.code yX3_firstGrazingOn cX3_firstGrazingOn 3 (some .int)) := ⟨pm_3 _ (List.mem_of_getElem? (i := 206) (by decide +kernel)), rfl⟩
theorem lk_X3_104 : zWd (.methodLink RX3 104 yX3_pass) := ⟨pm_3 _ (List.mem_of_getElem? (i := 207) (by decide +kernel)), rfl⟩
theorem im_X3_pass : zWd (.instanceMethod yX3_pass) := ⟨pm_3 _ (List.mem_of_getElem? (i := 208) (by decide +kernel)), rfl⟩
theorem se_X3_X3_pass : zWd (.selects RX3 yX3_pass yX3_pass) := ⟨pm_3 _ (List.mem_of_getElem? (i := 209) (by decide +kernel)), rfl⟩
theorem cd_X3_pass : zWd (.code yX3_pass cX3_pass 4 (some .int)) := ⟨pm_3 _ (List.mem_of_getElem? (i := 210) (by decide +kernel)), rfl⟩
theorem lk_X3_165 : zWd (.methodLink RX3 165 yX3_passOneDay) := ⟨pm_3 _ (List.mem_of_getElem? (i := 211) (by decide +kernel)), rfl⟩
theorem im_X3_passOneDay : zWd (.instanceMethod yX3_passOneDay) := ⟨pm_3 _ (List.mem_of_getElem? (i := 212) (by decide +kernel)), rfl⟩
theorem se_X3_X3_passOneDay : zWd (.selects RX3 yX3_passOneDay yX3_passOneDay) := ⟨pm_3 _ (List.mem_of_getElem? (i := 213) (by decide +kernel)), rfl⟩
theorem cd_X3_passOneDay : zWd (.code yX3_passOneDay cX3_passOneDay 3 none) := ⟨pm_3 _ (List.mem_of_getElem? (i := 214) (by decide +kernel)), rfl⟩
theorem lk_X3_168 : zWd (.methodLink RX3 168 yX3_comingSeason) := ⟨pm_3 _ (List.mem_of_getElem? (i := 215) (by decide +kernel)), rfl⟩
theorem im_X3_comingSeason : zWd (.instanceMethod yX3_comingSeason) := ⟨pm_3 _ (List.mem_of_getElem? (i := 216) (by decide +kernel)), rfl⟩
theorem se_X3_X3_comingSeason : zWd (.selects RX3 yX3_comingSeason yX3_comingSeason) := ⟨pm_3 _ (List.mem_of_getElem? (i := 217) (by decide +kernel)), rfl⟩
theorem cd_X3_comingSeason : zWd (.code yX3_comingSeason cX3_comingSeason 1 (some .int)) := ⟨pm_3 _ (List.mem_of_getElem? (i := 218) (by decide +kernel)), rfl⟩
theorem lk_X3_171 : zWd (.methodLink RX3 171 yX3_graze) := ⟨pm_3 _ (List.mem_of_getElem? (i := 219) (by decide +kernel)), rfl⟩
theorem im_X3_graze : zWd (.instanceMethod yX3_graze) := ⟨pm_3 _ (List.mem_of_getElem? (i := 221) (by decide +kernel)), rfl⟩
theorem cd_X3_graze : zWd (.code yX3_graze cX3_graze 6 none) := ⟨pm_3 _ (List.mem_of_getElem? (i := 222) (by decide +kernel)), rfl⟩
theorem lk_X3_174 : zWd (.methodLink RX3 174 yX3_collapse) := ⟨pm_3 _ (List.mem_of_getElem? (i := 223) (by decide +kernel)), rfl⟩
theorem im_X3_collapse : zWd (.instanceMethod yX3_collapse) := ⟨pm_3 _ (List.mem_of_getElem? (i := 225) (by decide +kernel)), rfl⟩
theorem cd_X3_collapse : zWd (.code yX3_collapse cX3_collapse 4 none) := ⟨pm_3 _ (List.mem_of_getElem? (i := 226) (by decide +kernel)), rfl⟩
theorem lk_L_213 : zWd (.methodLink RL 213 yL_addChair) := ⟨pm_3 _ (List.mem_of_getElem? (i := 227) (by decide +kernel)), rfl⟩
theorem st_L_addChair : zWd (.static yL_addChair) := ⟨pm_3 _ (List.mem_of_getElem? (i := 228) (by decide +kernel)), rfl⟩
theorem cd_L_addChair : zWd (.codeWith yL_addChair cL_addChair 4 (some .int) [(0, 6, 7, 13), (0, 6, 12, 15), (0, 6, 17, 17)]) := ⟨pm_3 _ (List.mem_of_getElem? (i := 229) (by decide +kernel)), rfl⟩
theorem lk_L_48 : zWd (.methodLink RL 48 yX9_addChair) := ⟨pm_3 _ (List.mem_of_getElem? (i := 230) (by decide +kernel)), rfl⟩
theorem im_X9_addChair : zWd (.instanceMethod yX9_addChair) := ⟨pm_3 _ (List.mem_of_getElem? (i := 231) (by decide +kernel)), rfl⟩
theorem se_X9_X9_addChair : zWd (.selects RX9 yX9_addChair yX9_addChair) := ⟨pm_3 _ (List.mem_of_getElem? (i := 232) (by decide +kernel)), rfl⟩
theorem cd_X9_addChair : zWd (.code yX9_addChair cX9_addChair 3 (some .int)) := ⟨pm_3 _ (List.mem_of_getElem? (i := 233) (by decide +kernel)), rfl⟩
theorem lk_L_288 : zWd (.methodLink RL 288 yL_scrap) := ⟨pm_3 _ (List.mem_of_getElem? (i := 234) (by decide +kernel)), rfl⟩
theorem st_L_scrap : zWd (.static yL_scrap) := ⟨pm_3 _ (List.mem_of_getElem? (i := 235) (by decide +kernel)), rfl⟩
theorem cd_L_scrap : zWd (.codeWith yL_scrap cL_scrap 3 (some .int) [(0, 5, 6, 13)]) := ⟨pm_3 _ (List.mem_of_getElem? (i := 236) (by decide +kernel)), rfl⟩
theorem lk_L_51 : zWd (.methodLink RL 51 yX9_scrapChair) := ⟨pm_3 _ (List.mem_of_getElem? (i := 237) (by decide +kernel)), rfl⟩
theorem im_X9_scrapChair : zWd (.instanceMethod yX9_scrapChair) := ⟨pm_3 _ (List.mem_of_getElem? (i := 238) (by decide +kernel)), rfl⟩
theorem se_X9_X9_scrapChair : zWd (.selects RX9 yX9_scrapChair yX9_scrapChair) := ⟨pm_3 _ (List.mem_of_getElem? (i := 239) (by decide +kernel)), rfl⟩
theorem cd_X9_scrapChair : zWd (.code yX9_scrapChair cX9_scrapChair 2 (some .int)) := ⟨pm_4 _ (List.mem_of_getElem? (i := 0) (by decide +kernel)), rfl⟩
theorem lk_L_296 : zWd (.methodLink RL 296 yL_migrate) := ⟨pm_4 _ (List.mem_of_getElem? (i := 1) (by decide +kernel)), rfl⟩
theorem st_L_migrate : zWd (.static yL_migrate) := ⟨pm_4 _ (List.mem_of_getElem? (i := 2) (by decide +kernel)), rfl⟩
theorem cd_L_migrate : zWd (.codeWith yL_migrate cL_migrate 4 (some .int) [(0, 6, 7, 13), (0, 6, 12, 17)]) := ⟨pm_4 _ (List.mem_of_getElem? (i := 3) (by decide +kernel)), rfl⟩
theorem lk_L_63 : zWd (.methodLink RL 63 yX9_migrate) := ⟨pm_4 _ (List.mem_of_getElem? (i := 4) (by decide +kernel)), rfl⟩
theorem im_X9_migrate : zWd (.instanceMethod yX9_migrate) := ⟨pm_4 _ (List.mem_of_getElem? (i := 5) (by decide +kernel)), rfl⟩
theorem se_X9_X9_migrate : zWd (.selects RX9 yX9_migrate yX9_migrate) := ⟨pm_4 _ (List.mem_of_getElem? (i := 6) (by decide +kernel)), rfl⟩
theorem cd_X9_migrate : zWd (.code yX9_migrate cX9_migrate 3 (some .int)) := ⟨pm_4 _ (List.mem_of_getElem? (i := 7) (by decide +kernel)), rfl⟩
theorem lk_L_335 : zWd (.methodLink RL 335 yL_herdSize) := ⟨pm_4 _ (List.mem_of_getElem? (i := 8) (by decide +kernel)), rfl⟩
theorem st_L_herdSize : zWd (.static yL_herdSize) := ⟨pm_4 _ (List.mem_of_getElem? (i := 9) (by decide +kernel)), rfl⟩
theorem cd_L_herdSize : zWd (.codeWith yL_herdSize cL_herdSize 3 (some .int) [(0, 5, 6, 13)]) := ⟨pm_4 _ (List.mem_of_getElem? (i := 10) (by decide +kernel)), rfl⟩
theorem lk_L_88 : zWd (.methodLink RL 88 yX9_herdSize) := ⟨pm_4 _ (List.mem_of_getElem? (i := 11) (by decide +kernel)), rfl⟩
theorem im_X9_herdSize : zWd (.instanceMethod yX9_herdSize) := ⟨pm_4 _ (List.mem_of_getElem? (i := 12) (by decide +kernel)), rfl⟩
theorem se_X9_X9_herdSize : zWd (.selects RX9 yX9_herdSize yX9_herdSize) := ⟨pm_4 _ (List.mem_of_getElem? (i := 13) (by decide +kernel)), rfl⟩
theorem cd_X9_herdSize : zWd (.code yX9_herdSize cX9_herdSize 2 (some .int)) := ⟨pm_4 _ (List.mem_of_getElem? (i := 14) (by decide +kernel)), rfl⟩
theorem lk_X9_70 : zWd (.methodLink RX9 70 yX9_demandLawn) := ⟨pm_4 _ (List.mem_of_getElem? (i := 15) (by decide +kernel)), rfl⟩
theorem st_X9_demandLawn : zWd (.static yX9_demandLawn) := ⟨pm_4 _ (List.mem_of_getElem? (i := 16) (by decide +kernel)), rfl⟩
theorem cd_X9_demandLawn : zWd (.code yX9_demandLawn cX9_demandLawn 1 none) := ⟨pm_4 _ (List.mem_of_getElem? (i := 17) (by decide +kernel)), rfl⟩
theorem lk_X9_329 : zWd (.methodLink RX9 329 yX9_isLawn) := ⟨pm_4 _ (List.mem_of_getElem? (i := 18) (by decide +kernel)), rfl⟩
theorem lk_X9_332 : (.stringRef RX9 332 "no such lawn" : Cond) ∈ lw_tbl := pm_4 _ (List.mem_of_getElem? (i := 19) (by decide +kernel))
theorem lk_X9_119 : zWd (.methodLink RX9 119 yX7_at) := ⟨pm_4 _ (List.mem_of_getElem? (i := 20) (by decide +kernel)), rfl⟩
theorem lk_L_220 : zWd (.methodLink RL 220 yL_passDays) := ⟨pm_4 _ (List.mem_of_getElem? (i := 21) (by decide +kernel)), rfl⟩
theorem st_L_passDays : zWd (.static yL_passDays) := ⟨pm_4 _ (List.mem_of_getElem? (i := 22) (by decide +kernel)), rfl⟩
theorem cd_L_passDays : zWd (.codeWith yL_passDays cL_passDays 3 (some .int) [(0, 5, 6, 15)]) := ⟨pm_4 _ (List.mem_of_getElem? (i := 23) (by decide +kernel)), rfl⟩
theorem lk_L_106 : zWd (.methodLink RL 106 yX9_passDays) := ⟨pm_4 _ (List.mem_of_getElem? (i := 24) (by decide +kernel)), rfl⟩
theorem im_X9_passDays : zWd (.instanceMethod yX9_passDays) := ⟨pm_4 _ (List.mem_of_getElem? (i := 25) (by decide +kernel)), rfl⟩
theorem se_X9_X9_passDays : zWd (.selects RX9 yX9_passDays yX9_passDays) := ⟨pm_4 _ (List.mem_of_getElem? (i := 26) (by decide +kernel)), rfl⟩
theorem cd_X9_passDays : zWd (.code yX9_passDays cX9_passDays 2 (some .int)) := ⟨pm_4 _ (List.mem_of_getElem? (i := 27) (by decide +kernel)), rfl⟩
theorem lk_L_180 : zWd (.methodLink RL 180 yL_append) := ⟨pm_4 _ (List.mem_of_getElem? (i := 28) (by decide +kernel)), rfl⟩
theorem st_L_append : zWd (.static yL_append) := ⟨pm_4 _ (List.mem_of_getElem? (i := 29) (by decide +kernel)), rfl⟩
theorem cd_L_append : zWd (.codeWith yL_append cL_append 3 (some .int) [(0, 5, 6, 15), (0, 5, 11, 148)]) := ⟨pm_4 _ (List.mem_of_getElem? (i := 30) (by decide +kernel)), rfl⟩
theorem lk_L_148 : zWd (.classLink RL 148 "java/lang/IllegalStateException") := ⟨pm_4 _ (List.mem_of_getElem? (i := 31) (by decide +kernel)), rfl⟩
theorem lk_L_144 : zWd (.methodLink RL 144 yX9_appendInput) := ⟨pm_4 _ (List.mem_of_getElem? (i := 32) (by decide +kernel)), rfl⟩
theorem im_X9_appendInput : zWd (.instanceMethod yX9_appendInput) := ⟨pm_4 _ (List.mem_of_getElem? (i := 33) (by decide +kernel)), rfl⟩
theorem se_X9_X9_appendInput : zWd (.selects RX9 yX9_appendInput yX9_appendInput) := ⟨pm_4 _ (List.mem_of_getElem? (i := 34) (by decide +kernel)), rfl⟩
theorem cd_X9_appendInput : zWd (.code yX9_appendInput cX9_appendInput 2 (some .int)) := ⟨pm_4 _ (List.mem_of_getElem? (i := 35) (by decide +kernel)), rfl⟩
theorem lk_X9_269 : (.stringRef RX9 269 "code out of range" : Cond) ∈ lw_tbl := pm_4 _ (List.mem_of_getElem? (i := 36) (by decide +kernel))
theorem lk_X9_271 : zWd (.methodLink RX9 271 yX1_isFull) := ⟨pm_4 _ (List.mem_of_getElem? (i := 37) (by decide +kernel)), rfl⟩
theorem im_X1_isFull : zWd (.instanceMethod yX1_isFull) := ⟨pm_4 _ (List.mem_of_getElem? (i := 38) (by decide +kernel)), rfl⟩
theorem se_X1_X1_isFull : zWd (.selects RX1 yX1_isFull yX1_isFull) := ⟨pm_4 _ (List.mem_of_getElem? (i := 39) (by decide +kernel)), rfl⟩
theorem cd_X1_isFull : zWd (.code yX1_isFull cX1_isFull 1 (some .boolean)) := ⟨pm_4 _ (List.mem_of_getElem? (i := 40) (by decide +kernel)), rfl⟩
theorem lk_X9_274 : zWd (.classLink RX9 274 "java/lang/IllegalStateException") := ⟨pm_4 _ (List.mem_of_getElem? (i := 41) (by decide +kernel)), rfl⟩
theorem it_java_lang_IllegalStateException : zWd (.instantiable "java/lang/IllegalStateException" 6) := ⟨pm_4 _ (List.mem_of_getElem? (i := 42) (by decide +kernel)), rfl⟩
theorem ca_java_lang_IllegalStateException_java_lang_IllegalStateException : (.castable "java/lang/IllegalStateException" "java/lang/IllegalStateException" : Cond) ∈ lw_tbl := pm_4 _ (List.mem_of_getElem? (i := 43) (by decide +kernel))
theorem ly_java_lang_IllegalStateException_cause : zWd (.lays "java/lang/IllegalStateException" "java/lang/Throwable" "cause" "Ljava/lang/Throwable;") := ⟨pm_4 _ (List.mem_of_getElem? (i := 45) (by decide +kernel)), rfl⟩
theorem ly_java_lang_IllegalStateException_stackTrace : zWd (.lays "java/lang/IllegalStateException" "java/lang/Throwable" "stackTrace" "[Ljava/lang/StackTraceElement;") := ⟨pm_4 _ (List.mem_of_getElem? (i := 46) (by decide +kernel)), rfl⟩
theorem ly_java_lang_IllegalStateException_suppressedExceptions : zWd (.lays "java/lang/IllegalStateException" "java/lang/Throwable" "suppressedExceptions" "Ljava/util/List;") := ⟨pm_4 _ (List.mem_of_getElem? (i := 47) (by decide +kernel)), rfl⟩
theorem ly_java_lang_IllegalStateException_detailMessage : zWd (.lays "java/lang/IllegalStateException" "java/lang/Throwable" "detailMessage" "Ljava/lang/String;") := ⟨pm_4 _ (List.mem_of_getElem? (i := 48) (by decide +kernel)), rfl⟩
theorem ly_java_lang_IllegalStateException_backtrace : zWd (.lays "java/lang/IllegalStateException" "java/lang/Throwable" "backtrace" "Ljava/lang/Object;") := ⟨pm_4 _ (List.mem_of_getElem? (i := 49) (by decide +kernel)), rfl⟩
theorem lk_X9_276 : (.stringRef RX9 276 "the input is full" : Cond) ∈ lw_tbl := pm_4 _ (List.mem_of_getElem? (i := 50) (by decide +kernel))
theorem ly_java_lang_IllegalStateException_depth : zWd (.lays "java/lang/IllegalStateException" "java/lang/Throwable" "depth" "I") := ⟨pm_4 _ (List.mem_of_getElem? (i := 55) (by decide +kernel)), rfl⟩
theorem su_java_lang_IllegalStateException_java_lang_RuntimeException : zWd (.superclass "java/lang/IllegalStateException" "java/lang/RuntimeException") := ⟨pm_4 _ (List.mem_of_getElem? (i := 56) (by decide +kernel)), rfl⟩
theorem lk_X9_279 : zWd (.methodLink RX9 279 yX1_take) := ⟨pm_4 _ (List.mem_of_getElem? (i := 57) (by decide +kernel)), rfl⟩
theorem im_X1_take : zWd (.instanceMethod yX1_take) := ⟨pm_4 _ (List.mem_of_getElem? (i := 58) (by decide +kernel)), rfl⟩
theorem se_X1_X1_take : zWd (.selects RX1 yX1_take yX1_take) := ⟨pm_4 _ (List.mem_of_getElem? (i := 59) (by decide +kernel)), rfl⟩
theorem cd_X1_take : zWd (.code yX1_take cX1_take 2 (some .int)) := ⟨pm_4 _ (List.mem_of_getElem? (i := 60) (by decide +kernel)), rfl⟩
theorem lk_X1_29 : zWd (.methodLink RX1 29 yX1_isFull) := ⟨pm_4 _ (List.mem_of_getElem? (i := 61) (by decide +kernel)), rfl⟩
theorem lk_L_186 : zWd (.methodLink RL 186 yL_execute) := ⟨pm_4 _ (List.mem_of_getElem? (i := 62) (by decide +kernel)), rfl⟩
theorem st_L_execute : zWd (.static yL_execute) := ⟨pm_4 _ (List.mem_of_getElem? (i := 63) (by decide +kernel)), rfl⟩
theorem cd_L_execute : zWd (.codeWith yL_execute cL_execute 2 (some .int) [(0, 4, 5, 15), (0, 4, 10, 148), (0, 4, 15, 17)]) := ⟨pm_4 _ (List.mem_of_getElem? (i := 64) (by decide +kernel)), rfl⟩
theorem lk_L_150 : zWd (.methodLink RL 150 yX9_execute) := ⟨pm_4 _ (List.mem_of_getElem? (i := 65) (by decide +kernel)), rfl⟩
theorem im_X9_execute : zWd (.instanceMethod yX9_execute) := ⟨pm_4 _ (List.mem_of_getElem? (i := 66) (by decide +kernel)), rfl⟩
theorem se_X9_X9_execute : zWd (.selects RX9 yX9_execute yX9_execute) := ⟨pm_4 _ (List.mem_of_getElem? (i := 67) (by decide +kernel)), rfl⟩
theorem cd_X9_execute : zWd (.code yX9_execute cX9_execute 3 (some .int)) := ⟨pm_4 _ (List.mem_of_getElem? (i := 68) (by decide +kernel)), rfl⟩
theorem lk_X9_283 : zWd (.methodLink RX9 283 yX1_readCommands) := ⟨pm_4 _ (List.mem_of_getElem? (i := 69) (by decide +kernel)), rfl⟩
theorem im_X1_readCommands : zWd (.instanceMethod yX1_readCommands) := ⟨pm_4 _ (List.mem_of_getElem? (i := 70) (by decide +kernel)), rfl⟩
theorem se_X1_X1_readCommands : zWd (.selects RX1 yX1_readCommands yX1_readCommands) := ⟨pm_4 _ (List.mem_of_getElem? (i := 71) (by decide +kernel)), rfl⟩
theorem cd_X1_readCommands : zWd (.code yX1_readCommands cX1_readCommands 2 (some .int)) := ⟨pm_4 _ (List.mem_of_getElem? (i := 72) (by decide +kernel)), rfl⟩
theorem lk_X1_43 : zWd (.methodLink RX1 43 yX1_readCommand) := ⟨pm_4 _ (List.mem_of_getElem? (i := 73) (by decide +kernel)), rfl⟩
theorem im_X1_readCommand : zWd (.instanceMethod yX1_readCommand) := ⟨pm_4 _ (List.mem_of_getElem? (i := 75) (by decide +kernel)), rfl⟩
theorem cd_X1_readCommand : zWd (.code yX1_readCommand cX1_readCommand 4 (some .boolean)) := ⟨pm_4 _ (List.mem_of_getElem? (i := 76) (by decide +kernel)), rfl⟩
theorem lk_X1_46 : zWd (.methodLink RX1 46 yX1_next) := ⟨pm_4 _ (List.mem_of_getElem? (i := 77) (by decide +kernel)), rfl⟩
theorem im_X1_next : zWd (.instanceMethod yX1_next) := ⟨pm_4 _ (List.mem_of_getElem? (i := 79) (by decide +kernel)), rfl⟩
theorem cd_X1_next : zWd (.code yX1_next cX1_next 1 (some .char)) := ⟨pm_4 _ (List.mem_of_getElem? (i := 80) (by decide +kernel)), rfl⟩
theorem lk_X1_66 : zWd (.methodLink RX1 66 yX1_shapeOf) := ⟨pm_4 _ (List.mem_of_getElem? (i := 81) (by decide +kernel)), rfl⟩
theorem st_X1_shapeOf : zWd (.static yX1_shapeOf) := ⟨pm_4 _ (List.mem_of_getElem? (i := 82) (by decide +kernel)), rfl⟩
theorem cd_X1_shapeOf : zWd (.code yX1_shapeOf cX1_shapeOf 1 (some (.object "java/lang/String"))) := ⟨pm_4 _ (List.mem_of_getElem? (i := 83) (by decide +kernel)), rfl⟩
theorem lk_X1_54 : (.stringRef RX1 54 "dd" : Cond) ∈ lw_tbl := pm_4 _ (List.mem_of_getElem? (i := 84) (by decide +kernel))
theorem lk_X1_56 : (.stringRef RX1 56 "d=n" : Cond) ∈ lw_tbl := pm_4 _ (List.mem_of_getElem? (i := 85) (by decide +kernel))
theorem lk_X1_58 : (.stringRef RX1 58 "n>d" : Cond) ∈ lw_tbl := pm_4 _ (List.mem_of_getElem? (i := 86) (by decide +kernel))
theorem lk_X1_60 : (.stringRef RX1 60 "d>d" : Cond) ∈ lw_tbl := pm_4 _ (List.mem_of_getElem? (i := 87) (by decide +kernel))
theorem lk_X1_62 : (.stringRef RX1 62 "n" : Cond) ∈ lw_tbl := pm_4 _ (List.mem_of_getElem? (i := 88) (by decide +kernel))
theorem lk_X1_64 : (.stringRef RX1 64 "" : Cond) ∈ lw_tbl := pm_4 _ (List.mem_of_getElem? (i := 89) (by decide +kernel))
theorem lk_X1_70 : zWd (.methodLink RX1 70 yJ0_isEmpty_aae02) := ⟨pm_4 _ (List.mem_of_getElem? (i := 90) (by decide +kernel)), rfl⟩
theorem im_J0_isEmpty_aae02 : zWd (.instanceMethod yJ0_isEmpty_aae02) := ⟨pm_4 _ (List.mem_of_getElem? (i := 91) (by decide +kernel)), rfl⟩
theorem se_J0_J0_isEmpty_aae02 : zWd (.selects RJ0 yJ0_isEmpty_aae02 yJ0_isEmpty_aae02) := ⟨pm_4 _ (List.mem_of_getElem? (i := 92) (by decide +kernel)), rfl⟩
theorem cd_J0_isEmpty_aae02 : zWd (.code yJ0_isEmpty_aae02 cJ0_isEmpty_aae02 1 (some .boolean)) := ⟨pm_4 _ (List.mem_of_getElem? (i := 93) (by decide +kernel)), rfl⟩
theorem lk_X1_75 : zWd (.methodLink RX1 75 yJ0_length_8abf5) := ⟨pm_4 _ (List.mem_of_getElem? (i := 94) (by decide +kernel)), rfl⟩
theorem im_J0_length_8abf5 : zWd (.instanceMethod yJ0_length_8abf5) := ⟨pm_4 _ (List.mem_of_getElem? (i := 95) (by decide +kernel)), rfl⟩
theorem se_J0_J0_length_8abf5 : zWd (.selects RJ0 yJ0_length_8abf5 yJ0_length_8abf5) := ⟨pm_4 _ (List.mem_of_getElem? (i := 96) (by decide +kernel)), rfl⟩
theorem cd_J0_length_8abf5 : zWd (.code yJ0_length_8abf5 cJ0_length_8abf5 1 (some .int)) := ⟨pm_4 _ (List.mem_of_getElem? (i := 97) (by decide +kernel)), rfl⟩
theorem lk_J0_335 : zWd (.methodLink RJ0 335 yJ0_coder_7d493) := ⟨pm_4 _ (List.mem_of_getElem? (i := 98) (by decide +kernel)), rfl⟩
theorem im_J0_coder_7d493 : zWd (.instanceMethod yJ0_coder_7d493) := ⟨pm_4 _ (List.mem_of_getElem? (i := 99) (by decide +kernel)), rfl⟩
theorem se_J0_J0_coder_7d493 : zWd (.selects RJ0 yJ0_coder_7d493 yJ0_coder_7d493) := ⟨pm_4 _ (List.mem_of_getElem? (i := 100) (by decide +kernel)), rfl⟩
theorem cd_J0_coder_7d493 : zWd (.code yJ0_coder_7d493 cJ0_coder_7d493 1 (some .byte)) := ⟨pm_4 _ (List.mem_of_getElem? (i := 101) (by decide +kernel)), rfl⟩
theorem lk_J0_38 : zWd (.fieldLink RJ0 38 "java/lang/String" "COMPACT_STRINGS" "Z") := ⟨pm_4 _ (List.mem_of_getElem? (i := 102) (by decide +kernel)), rfl⟩
theorem lk_X1_78 : zWd (.methodLink RX1 78 yJ0_charAt_5068e) := ⟨pm_4 _ (List.mem_of_getElem? (i := 103) (by decide +kernel)), rfl⟩
theorem im_J0_charAt_5068e : zWd (.instanceMethod yJ0_charAt_5068e) := ⟨pm_4 _ (List.mem_of_getElem? (i := 104) (by decide +kernel)), rfl⟩
theorem se_J0_J0_charAt_5068e : zWd (.selects RJ0 yJ0_charAt_5068e yJ0_charAt_5068e) := ⟨pm_4 _ (List.mem_of_getElem? (i := 105) (by decide +kernel)), rfl⟩
theorem cd_J0_charAt_5068e : zWd (.code yJ0_charAt_5068e cJ0_charAt_5068e 2 (some .char)) := ⟨pm_4 _ (List.mem_of_getElem? (i := 106) (by decide +kernel)), rfl⟩
theorem lk_J0_492 : zWd (.methodLink RJ0 492 yJ0_isLatin1_aae02) := ⟨pm_4 _ (List.mem_of_getElem? (i := 107) (by decide +kernel)), rfl⟩
theorem im_J0_isLatin1_aae02 : zWd (.instanceMethod yJ0_isLatin1_aae02) := ⟨pm_4 _ (List.mem_of_getElem? (i := 108) (by decide +kernel)), rfl⟩
theorem se_J0_J0_isLatin1_aae02 : zWd (.selects RJ0 yJ0_isLatin1_aae02 yJ0_isLatin1_aae02) := ⟨pm_4 _ (List.mem_of_getElem? (i := 109) (by decide +kernel)), rfl⟩
theorem cd_J0_isLatin1_aae02 : zWd (.code yJ0_isLatin1_aae02 cJ0_isLatin1_aae02 1 (some .boolean)) := ⟨pm_4 _ (List.mem_of_getElem? (i := 110) (by decide +kernel)), rfl⟩
theorem lk_J0_495 : zWd (.methodLink RJ0 495 yJ1_charAt_3b067) := ⟨pm_4 _ (List.mem_of_getElem? (i := 111) (by decide +kernel)), rfl⟩
theorem st_J1_charAt_3b067 : zWd (.static yJ1_charAt_3b067) := ⟨pm_4 _ (List.mem_of_getElem? (i := 112) (by decide +kernel)), rfl⟩
theorem cd_J1_charAt_3b067 : zWd (.code yJ1_charAt_3b067 cJ1_charAt_3b067 2 (some .char)) := ⟨pm_4 _ (List.mem_of_getElem? (i := 113) (by decide +kernel)), rfl⟩
theorem lk_J1_9 : zWd (.methodLink RJ1 9 yJ0_checkIndex_df160) := ⟨pm_4 _ (List.mem_of_getElem? (i := 114) (by decide +kernel)), rfl⟩
theorem st_J0_checkIndex_df160 : zWd (.static yJ0_checkIndex_df160) := ⟨pm_4 _ (List.mem_of_getElem? (i := 115) (by decide +kernel)), rfl⟩
theorem cd_J0_checkIndex_df160 : zWd (.code yJ0_checkIndex_df160 cJ0_checkIndex_df160 2 none) := ⟨pm_4 _ (List.mem_of_getElem? (i := 116) (by decide +kernel)), rfl⟩
theorem lk_J0_1053 : zWd (.fieldLink RJ0 1053 "jdk/internal/util/Preconditions" "SIOOBE_FORMATTER" "Ljava/util/function/BiFunction;") := ⟨pm_4 _ (List.mem_of_getElem? (i := 117) (by decide +kernel)), rfl⟩
theorem ls_J3_SIOOBE_FORMATTER : (.laysStatic RJ3 "SIOOBE_FORMATTER" "Ljava/util/function/BiFunction;" : Cond) ∈ lw_tbl := pm_4 _ (List.mem_of_getElem? (i := 118) (by decide +kernel))
theorem lk_J0_1059 : zWd (.methodLink RJ0 1059 yJ3_checkIndex_8e157) := ⟨pm_4 _ (List.mem_of_getElem? (i := 119) (by decide +kernel)), rfl⟩
theorem st_J3_checkIndex_8e157 : zWd (.static yJ3_checkIndex_8e157) := ⟨pm_4 _ (List.mem_of_getElem? (i := 120) (by decide +kernel)), rfl⟩
theorem cd_J3_checkIndex_8e157 : zWd (.code yJ3_checkIndex_8e157 cJ3_checkIndex_8e157 3 (some .int)) := ⟨pm_4 _ (List.mem_of_getElem? (i := 121) (by decide +kernel)), rfl⟩
theorem lk_J0_498 : zWd (.methodLink RJ0 498 yJ2_charAt_3b067) := ⟨pm_4 _ (List.mem_of_getElem? (i := 122) (by decide +kernel)), rfl⟩
theorem st_J2_charAt_3b067 : zWd (.static yJ2_charAt_3b067) := ⟨pm_4 _ (List.mem_of_getElem? (i := 123) (by decide +kernel)), rfl⟩
theorem cd_J2_charAt_3b067 : zWd (.code yJ2_charAt_3b067 cJ2_charAt_3b067 2 (some .char)) := ⟨pm_4 _ (List.mem_of_getElem? (i := 124) (by decide +kernel)), rfl⟩
theorem lk_J2_67 : zWd (.methodLink RJ2 67 yJ2_checkIndex_2214a) := ⟨pm_4 _ (List.mem_of_getElem? (i := 125) (by decide +kernel)), rfl⟩
theorem st_J2_checkIndex_2214a : zWd (.static yJ2_checkIndex_2214a) := ⟨pm_4 _ (List.mem_of_getElem? (i := 126) (by decide +kernel)), rfl⟩
theorem cd_J2_checkIndex_2214a : zWd (.code yJ2_checkIndex_2214a cJ2_checkIndex_2214a 2 none) := ⟨pm_4 _ (List.mem_of_getElem? (i := 127) (by decide +kernel)), rfl⟩
theorem lk_J2_48 : zWd (.methodLink RJ2 48 yJ2_length_9d52b) := ⟨pm_4 _ (List.mem_of_getElem? (i := 128) (by decide +kernel)), rfl⟩
theorem st_J2_length_9d52b : zWd (.static yJ2_length_9d52b) := ⟨pm_4 _ (List.mem_of_getElem? (i := 129) (by decide +kernel)), rfl⟩
theorem cd_J2_length_9d52b : zWd (.code yJ2_length_9d52b cJ2_length_9d52b 1 (some .int)) := ⟨pm_4 _ (List.mem_of_getElem? (i := 130) (by decide +kernel)), rfl⟩
theorem lk_J2_414 : zWd (.methodLink RJ2 414 yJ0_checkIndex_df160) := ⟨pm_4 _ (List.mem_of_getElem? (i := 131) (by decide +kernel)), rfl⟩
theorem lk_J2_71 : zWd (.methodLink RJ2 71 yJ2_getChar_3b067) := ⟨pm_4 _ (List.mem_of_getElem? (i := 132) (by decide +kernel)), rfl⟩
theorem st_J2_getChar_3b067 : zWd (.static yJ2_getChar_3b067) := ⟨pm_4 _ (List.mem_of_getElem? (i := 133) (by decide +kernel)), rfl⟩
theorem cd_J2_getChar_3b067 : zWd (.code yJ2_getChar_3b067 cJ2_getChar_3b067 2 (some .char)) := ⟨pm_4 _ (List.mem_of_getElem? (i := 134) (by decide +kernel)), rfl⟩
theorem lk_J2_44 : zWd (.fieldLink RJ2 44 "java/lang/StringUTF16" "$assertionsDisabled" "Z") := ⟨pm_4 _ (List.mem_of_getElem? (i := 135) (by decide +kernel)), rfl⟩
theorem ls_J2__assertionsDisabled : (.laysStatic RJ2 "$assertionsDisabled" "Z" : Cond) ∈ lw_tbl := pm_4 _ (List.mem_of_getElem? (i := 136) (by decide +kernel))
theorem lk_J2_59 : zWd (.fieldLink RJ2 59 "java/lang/StringUTF16" "HI_BYTE_SHIFT" "I") := ⟨pm_4 _ (List.mem_of_getElem? (i := 137) (by decide +kernel)), rfl⟩
theorem ls_J2_HI_BYTE_SHIFT : (.laysStatic RJ2 "HI_BYTE_SHIFT" "I" : Cond) ∈ lw_tbl := pm_4 _ (List.mem_of_getElem? (i := 138) (by decide +kernel))
theorem lk_J2_63 : zWd (.fieldLink RJ2 63 "java/lang/StringUTF16" "LO_BYTE_SHIFT" "I") := ⟨pm_4 _ (List.mem_of_getElem? (i := 139) (by decide +kernel)), rfl⟩
theorem ls_J2_LO_BYTE_SHIFT : (.laysStatic RJ2 "LO_BYTE_SHIFT" "I" : Cond) ∈ lw_tbl := pm_4 _ (List.mem_of_getElem? (i := 140) (by decide +kernel))
theorem lk_X1_82 : zWd (.methodLink RX1 82 yX1_readPart) := ⟨pm_4 _ (List.mem_of_getElem? (i := 141) (by decide +kernel)), rfl⟩
theorem im_X1_readPart : zWd (.instanceMethod yX1_readPart) := ⟨pm_4 _ (List.mem_of_getElem? (i := 143) (by decide +kernel)), rfl⟩
theorem cd_X1_readPart : zWd (.code yX1_readPart cX1_readPart 4 (some .boolean)) := ⟨pm_4 _ (List.mem_of_getElem? (i := 144) (by decide +kernel)), rfl⟩
theorem lk_X1_50 : zWd (.methodLink RX1 50 yX1_readSign) := ⟨pm_4 _ (List.mem_of_getElem? (i := 145) (by decide +kernel)), rfl⟩
theorem im_X1_readSign : zWd (.instanceMethod yX1_readSign) := ⟨pm_4 _ (List.mem_of_getElem? (i := 147) (by decide +kernel)), rfl⟩
theorem cd_X1_readSign : zWd (.code yX1_readSign cX1_readSign 2 (some .boolean)) := ⟨pm_4 _ (List.mem_of_getElem? (i := 148) (by decide +kernel)), rfl⟩
theorem lk_X1_86 : zWd (.methodLink RX1 86 yX1_readNumber) := ⟨pm_4 _ (List.mem_of_getElem? (i := 149) (by decide +kernel)), rfl⟩
theorem im_X1_readNumber : zWd (.instanceMethod yX1_readNumber) := ⟨pm_4 _ (List.mem_of_getElem? (i := 151) (by decide +kernel)), rfl⟩
theorem cd_X1_readNumber : zWd (.code yX1_readNumber cX1_readNumber 4 (some .int)) := ⟨pm_4 _ (List.mem_of_getElem? (i := 152) (by decide +kernel)), rfl⟩
theorem lk_X1_90 : zWd (.methodLink RX1 90 yX1_isDigit) := ⟨pm_4 _ (List.mem_of_getElem? (i := 153) (by decide +kernel)), rfl⟩
theorem st_X1_isDigit : zWd (.static yX1_isDigit) := ⟨pm_4 _ (List.mem_of_getElem? (i := 154) (by decide +kernel)), rfl⟩
theorem cd_X1_isDigit : zWd (.code yX1_isDigit cX1_isDigit 1 (some .boolean)) := ⟨pm_4 _ (List.mem_of_getElem? (i := 155) (by decide +kernel)), rfl⟩
theorem lk_X1_93 : zWd (.methodLink RX1 93 Lib.Math.max.name) := ⟨pm_4 _ (List.mem_of_getElem? (i := 156) (by decide +kernel)), rfl⟩
theorem lk_X9_286 : zWd (.methodLink RX9 286 yX1_empty) := ⟨pm_4 _ (List.mem_of_getElem? (i := 157) (by decide +kernel)), rfl⟩
theorem im_X1_empty : zWd (.instanceMethod yX1_empty) := ⟨pm_4 _ (List.mem_of_getElem? (i := 158) (by decide +kernel)), rfl⟩
theorem se_X1_X1_empty : zWd (.selects RX1 yX1_empty yX1_empty) := ⟨pm_4 _ (List.mem_of_getElem? (i := 159) (by decide +kernel)), rfl⟩
theorem cd_X1_empty : zWd (.code yX1_empty cX1_empty 1 none) := ⟨pm_4 _ (List.mem_of_getElem? (i := 160) (by decide +kernel)), rfl⟩
theorem lk_X9_289 : (.stringRef RX9 289 "syntax error" : Cond) ∈ lw_tbl := pm_4 _ (List.mem_of_getElem? (i := 161) (by decide +kernel))
theorem lk_X9_291 : zWd (.methodLink RX9 291 yX9_performCommands) := ⟨pm_4 _ (List.mem_of_getElem? (i := 162) (by decide +kernel)), rfl⟩
theorem im_X9_performCommands : zWd (.instanceMethod yX9_performCommands) := ⟨pm_4 _ (List.mem_of_getElem? (i := 164) (by decide +kernel)), rfl⟩
theorem cd_X9_performCommands : zWd (.code yX9_performCommands cX9_performCommands 5 (some .int)) := ⟨pm_4 _ (List.mem_of_getElem? (i := 165) (by decide +kernel)), rfl⟩
theorem lk_X9_371 : zWd (.methodLink RX9 371 yX1_deedOf) := ⟨pm_4 _ (List.mem_of_getElem? (i := 166) (by decide +kernel)), rfl⟩
theorem im_X1_deedOf : zWd (.instanceMethod yX1_deedOf) := ⟨pm_4 _ (List.mem_of_getElem? (i := 167) (by decide +kernel)), rfl⟩
theorem se_X1_X1_deedOf : zWd (.selects RX1 yX1_deedOf yX1_deedOf) := ⟨pm_4 _ (List.mem_of_getElem? (i := 168) (by decide +kernel)), rfl⟩
theorem cd_X1_deedOf : zWd (.code yX1_deedOf cX1_deedOf 2 (some .char)) := ⟨pm_4 _ (List.mem_of_getElem? (i := 169) (by decide +kernel)), rfl⟩
theorem lk_X1_33 : zWd (.methodLink RX1 33 yX1_isCommand) := ⟨pm_4 _ (List.mem_of_getElem? (i := 170) (by decide +kernel)), rfl⟩
theorem im_X1_isCommand : zWd (.instanceMethod yX1_isCommand) := ⟨pm_4 _ (List.mem_of_getElem? (i := 172) (by decide +kernel)), rfl⟩
theorem cd_X1_isCommand : zWd (.code yX1_isCommand cX1_isCommand 2 (some .boolean)) := ⟨pm_4 _ (List.mem_of_getElem? (i := 173) (by decide +kernel)), rfl⟩
theorem lk_X9_374 : zWd (.methodLink RX9 374 yX1_firstOf) := ⟨pm_4 _ (List.mem_of_getElem? (i := 174) (by decide +kernel)), rfl⟩
theorem im_X1_firstOf : zWd (.instanceMethod yX1_firstOf) := ⟨pm_4 _ (List.mem_of_getElem? (i := 175) (by decide +kernel)), rfl⟩
theorem se_X1_X1_firstOf : zWd (.selects RX1 yX1_firstOf yX1_firstOf) := ⟨pm_4 _ (List.mem_of_getElem? (i := 176) (by decide +kernel)), rfl⟩
theorem cd_X1_firstOf : zWd (.code yX1_firstOf cX1_firstOf 2 (some .int)) := ⟨pm_4 _ (List.mem_of_getElem? (i := 177) (by decide +kernel)), rfl⟩
theorem lk_X9_377 : zWd (.methodLink RX9 377 yX1_secondOf) := ⟨pm_4 _ (List.mem_of_getElem? (i := 178) (by decide +kernel)), rfl⟩
theorem im_X1_secondOf : zWd (.instanceMethod yX1_secondOf) := ⟨pm_4 _ (List.mem_of_getElem? (i := 179) (by decide +kernel)), rfl⟩
theorem se_X1_X1_secondOf : zWd (.selects RX1 yX1_secondOf yX1_secondOf) := ⟨pm_4 _ (List.mem_of_getElem? (i := 180) (by decide +kernel)), rfl⟩
theorem cd_X1_secondOf : zWd (.code yX1_secondOf cX1_secondOf 2 (some .int)) := ⟨pm_4 _ (List.mem_of_getElem? (i := 181) (by decide +kernel)), rfl⟩
theorem lk_X9_295 : zWd (.methodLink RX9 295 yX9_throwForCommand) := ⟨pm_4 _ (List.mem_of_getElem? (i := 182) (by decide +kernel)), rfl⟩
theorem im_X9_throwForCommand : zWd (.instanceMethod yX9_throwForCommand) := ⟨pm_4 _ (List.mem_of_getElem? (i := 184) (by decide +kernel)), rfl⟩
theorem cd_X9_throwForCommand : zWd (.code yX9_throwForCommand cX9_throwForCommand 2 none) := ⟨pm_4 _ (List.mem_of_getElem? (i := 185) (by decide +kernel)), rfl⟩
theorem lk_X9_383 : (.stringRef RX9 383 "a command is not accepted" : Cond) ∈ lw_tbl := pm_4 _ (List.mem_of_getElem? (i := 186) (by decide +kernel))
theorem lk_X9_385 : (.stringRef RX9 385 "a command is rejected" : Cond) ∈ lw_tbl := pm_4 _ (List.mem_of_getElem? (i := 187) (by decide +kernel))
theorem lk_L_373 : zWd (.methodLink RL 373 yL_syntaxError) := ⟨pm_4 _ (List.mem_of_getElem? (i := 188) (by decide +kernel)), rfl⟩
theorem st_L_syntaxError : zWd (.static yL_syntaxError) := ⟨pm_4 _ (List.mem_of_getElem? (i := 189) (by decide +kernel)), rfl⟩
theorem cd_L_syntaxError : zWd (.codeWith yL_syntaxError cL_syntaxError 2 (some .int) [(0, 4, 5, 29)]) := ⟨pm_4 _ (List.mem_of_getElem? (i := 190) (by decide +kernel)), rfl⟩
theorem lk_L_29 : zWd (.classLink RL 29 "java/util/NoSuchElementException") := ⟨pm_4 _ (List.mem_of_getElem? (i := 191) (by decide +kernel)), rfl⟩
theorem lk_L_154 : zWd (.methodLink RL 154 yX9_syntaxErrorOffset) := ⟨pm_4 _ (List.mem_of_getElem? (i := 192) (by decide +kernel)), rfl⟩
theorem im_X9_syntaxErrorOffset : zWd (.instanceMethod yX9_syntaxErrorOffset) := ⟨pm_4 _ (List.mem_of_getElem? (i := 193) (by decide +kernel)), rfl⟩
theorem se_X9_X9_syntaxErrorOffset : zWd (.selects RX9 yX9_syntaxErrorOffset yX9_syntaxErrorOffset) := ⟨pm_4 _ (List.mem_of_getElem? (i := 194) (by decide +kernel)), rfl⟩
theorem cd_X9_syntaxErrorOffset : zWd (.code yX9_syntaxErrorOffset cX9_syntaxErrorOffset 1 (some .int)) := ⟨pm_4 _ (List.mem_of_getElem? (i := 195) (by decide +kernel)), rfl⟩
theorem lk_X9_88 : zWd (.methodLink RX9 88 yX9_demandElement) := ⟨pm_4 _ (List.mem_of_getElem? (i := 196) (by decide +kernel)), rfl⟩
theorem st_X9_demandElement : zWd (.static yX9_demandElement) := ⟨pm_4 _ (List.mem_of_getElem? (i := 197) (by decide +kernel)), rfl⟩
theorem cd_X9_demandElement : zWd (.code yX9_demandElement cX9_demandElement 1 (some .int)) := ⟨pm_4 _ (List.mem_of_getElem? (i := 198) (by decide +kernel)), rfl⟩
theorem lk_X9_99 : zWd (.classLink RX9 99 "java/util/NoSuchElementException") := ⟨pm_4 _ (List.mem_of_getElem? (i := 199) (by decide +kernel)), rfl⟩
theorem it_java_util_NoSuchElementException : zWd (.instantiable "java/util/NoSuchElementException" 6) := ⟨pm_4 _ (List.mem_of_getElem? (i := 200) (by decide +kernel)), rfl⟩
theorem ca_java_util_NoSuchElementException_java_util_NoSuchElementException : (.castable "java/util/NoSuchElementException" "java/util/NoSuchElementException" : Cond) ∈ lw_tbl := pm_4 _ (List.mem_of_getElem? (i := 201) (by decide +kernel))
theorem ly_java_util_NoSuchElementException_cause : zWd (.lays "java/util/NoSuchElementException" "java/lang/Throwable" "cause" "Ljava/lang/Throwable;") := ⟨pm_4 _ (List.mem_of_getElem? (i := 203) (by decide +kernel)), rfl⟩
theorem ly_java_util_NoSuchElementException_stackTrace : zWd (.lays "java/util/NoSuchElementException" "java/lang/Throwable" "stackTrace" "[Ljava/lang/StackTraceElement;") := ⟨pm_4 _ (List.mem_of_getElem? (i := 204) (by decide +kernel)), rfl⟩
theorem ly_java_util_NoSuchElementException_suppressedExceptions : zWd (.lays "java/util/NoSuchElementException" "java/lang/Throwable" "suppressedExceptions" "Ljava/util/List;") := ⟨pm_4 _ (List.mem_of_getElem? (i := 205) (by decide +kernel)), rfl⟩
theorem ly_java_util_NoSuchElementException_detailMessage : zWd (.lays "java/util/NoSuchElementException" "java/lang/Throwable" "detailMessage" "Ljava/lang/String;") := ⟨pm_4 _ (List.mem_of_getElem? (i := 206) (by decide +kernel)), rfl⟩
theorem ly_java_util_NoSuchElementException_backtrace : zWd (.lays "java/util/NoSuchElementException" "java/lang/Throwable" "backtrace" "Ljava/lang/Object;") := ⟨pm_4 _ (List.mem_of_getElem? (i := 207) (by decide +kernel)), rfl⟩
theorem lk_X9_336 : (.stringRef RX9 336 "there is none" : Cond) ∈ lw_tbl := pm_4 _ (List.mem_of_getElem? (i := 208) (by decide +kernel))
theorem ly_java_util_NoSuchElementException_depth : zWd (.lays "java/util/NoSuchElementException" "java/lang/Throwable" "depth" "I") := ⟨pm_4 _ (List.mem_of_getElem? (i := 213) (by decide +kernel)), rfl⟩
theorem su_java_util_NoSuchElementException_java_lang_RuntimeException : zWd (.superclass "java/util/NoSuchElementException" "java/lang/RuntimeException") := ⟨pm_4 _ (List.mem_of_getElem? (i := 214) (by decide +kernel)), rfl⟩
theorem lk_L_387 : zWd (.methodLink RL 387 yL_undo) := ⟨pm_4 _ (List.mem_of_getElem? (i := 215) (by decide +kernel)), rfl⟩
theorem st_L_undo : zWd (.static yL_undo) := ⟨pm_4 _ (List.mem_of_getElem? (i := 216) (by decide +kernel)), rfl⟩
theorem cd_L_undo : zWd (.codeWith yL_undo cL_undo 2 (some .int) [(0, 4, 5, 148)]) := ⟨pm_4 _ (List.mem_of_getElem? (i := 217) (by decide +kernel)), rfl⟩
theorem lk_L_166 : zWd (.methodLink RL 166 yX9_undo) := ⟨pm_4 _ (List.mem_of_getElem? (i := 218) (by decide +kernel)), rfl⟩
theorem im_X9_undo : zWd (.instanceMethod yX9_undo) := ⟨pm_4 _ (List.mem_of_getElem? (i := 219) (by decide +kernel)), rfl⟩
theorem se_X9_X9_undo : zWd (.selects RX9 yX9_undo yX9_undo) := ⟨pm_4 _ (List.mem_of_getElem? (i := 220) (by decide +kernel)), rfl⟩
theorem cd_X9_undo : zWd (.code yX9_undo cX9_undo 1 (some .int)) := ⟨pm_4 _ (List.mem_of_getElem? (i := 221) (by decide +kernel)), rfl⟩
theorem lk_X9_316 : (.stringRef RX9 316 "no change to undo" : Cond) ∈ lw_tbl := pm_4 _ (List.mem_of_getElem? (i := 222) (by decide +kernel))
theorem lk_X9_318 : zWd (.methodLink RX9 318 yX4_takeBack) := ⟨pm_4 _ (List.mem_of_getElem? (i := 223) (by decide +kernel)), rfl⟩
theorem im_X4_takeBack : zWd (.instanceMethod yX4_takeBack) := ⟨pm_4 _ (List.mem_of_getElem? (i := 224) (by decide +kernel)), rfl⟩
theorem se_X4_X4_takeBack : zWd (.selects RX4 yX4_takeBack yX4_takeBack) := ⟨pm_4 _ (List.mem_of_getElem? (i := 225) (by decide +kernel)), rfl⟩
theorem cd_X4_takeBack : zWd (.code yX4_takeBack cX4_takeBack 2 none) := ⟨pm_4 _ (List.mem_of_getElem? (i := 226) (by decide +kernel)), rfl⟩
theorem lk_L_389 : zWd (.methodLink RL 389 yL_restore) := ⟨pm_4 _ (List.mem_of_getElem? (i := 227) (by decide +kernel)), rfl⟩
theorem st_L_restore : zWd (.static yL_restore) := ⟨pm_4 _ (List.mem_of_getElem? (i := 228) (by decide +kernel)), rfl⟩
theorem cd_L_restore : zWd (.codeWith yL_restore cL_restore 2 (some .int) [(0, 4, 5, 148)]) := ⟨pm_4 _ (List.mem_of_getElem? (i := 229) (by decide +kernel)), rfl⟩
theorem lk_L_169 : zWd (.methodLink RL 169 yX9_restoreSnapshot) := ⟨pm_4 _ (List.mem_of_getElem? (i := 230) (by decide +kernel)), rfl⟩
theorem im_X9_restoreSnapshot : zWd (.instanceMethod yX9_restoreSnapshot) := ⟨pm_4 _ (List.mem_of_getElem? (i := 231) (by decide +kernel)), rfl⟩
theorem se_X9_X9_restoreSnapshot : zWd (.selects RX9 yX9_restoreSnapshot yX9_restoreSnapshot) := ⟨pm_4 _ (List.mem_of_getElem? (i := 232) (by decide +kernel)), rfl⟩
theorem cd_X9_restoreSnapshot : zWd (.code yX9_restoreSnapshot cX9_restoreSnapshot 1 (some .int)) := ⟨pm_4 _ (List.mem_of_getElem? (i := 233) (by decide +kernel)), rfl⟩
theorem lk_X9_324 : (.stringRef RX9 324 "no snapshot" : Cond) ∈ lw_tbl := pm_4 _ (List.mem_of_getElem? (i := 234) (by decide +kernel))
theorem lk_X9_326 : zWd (.methodLink RX9 326 yX4_forget) := ⟨pm_4 _ (List.mem_of_getElem? (i := 235) (by decide +kernel)), rfl⟩
theorem im_X4_forget : zWd (.instanceMethod yX4_forget) := ⟨pm_4 _ (List.mem_of_getElem? (i := 236) (by decide +kernel)), rfl⟩
theorem se_X4_X4_forget : zWd (.selects RX4 yX4_forget yX4_forget) := ⟨pm_4 _ (List.mem_of_getElem? (i := 237) (by decide +kernel)), rfl⟩
theorem cd_X4_forget : zWd (.code yX4_forget cX4_forget 1 none) := ⟨pm_4 _ (List.mem_of_getElem? (i := 238) (by decide +kernel)), rfl⟩
theorem lk_L_329 : zWd (.methodLink RL 329 yL_is) := ⟨pm_4 _ (List.mem_of_getElem? (i := 239) (by decide +kernel)), rfl⟩
theorem st_L_is : zWd (.static yL_is) := ⟨pm_5 _ (List.mem_of_getElem? (i := 0) (by decide +kernel)), rfl⟩
theorem cd_L_is : zWd (.code yL_is cL_is 3 (some .boolean)) := ⟨pm_5 _ (List.mem_of_getElem? (i := 1) (by decide +kernel)), rfl⟩
theorem lk_L_189 : zWd (.methodLink RL 189 yL_reason) := ⟨pm_5 _ (List.mem_of_getElem? (i := 2) (by decide +kernel)), rfl⟩
theorem st_L_reason : zWd (.static yL_reason) := ⟨pm_5 _ (List.mem_of_getElem? (i := 3) (by decide +kernel)), rfl⟩
theorem cd_L_reason : zWd (.codeWith yL_reason cL_reason 2 (some .int) [(0, 4, 5, 29)]) := ⟨pm_5 _ (List.mem_of_getElem? (i := 4) (by decide +kernel)), rfl⟩
theorem lk_L_157 : zWd (.methodLink RL 157 yX9_rejectionReason) := ⟨pm_5 _ (List.mem_of_getElem? (i := 5) (by decide +kernel)), rfl⟩
theorem im_X9_rejectionReason : zWd (.instanceMethod yX9_rejectionReason) := ⟨pm_5 _ (List.mem_of_getElem? (i := 6) (by decide +kernel)), rfl⟩
theorem se_X9_X9_rejectionReason : zWd (.selects RX9 yX9_rejectionReason yX9_rejectionReason) := ⟨pm_5 _ (List.mem_of_getElem? (i := 7) (by decide +kernel)), rfl⟩
theorem cd_X9_rejectionReason : zWd (.code yX9_rejectionReason cX9_rejectionReason 1 (some .int)) := ⟨pm_5 _ (List.mem_of_getElem? (i := 8) (by decide +kernel)), rfl⟩
theorem lk_X9_301 : zWd (.methodLink RX9 301 yX9_demandRejection) := ⟨pm_5 _ (List.mem_of_getElem? (i := 9) (by decide +kernel)), rfl⟩
theorem im_X9_demandRejection : zWd (.instanceMethod yX9_demandRejection) := ⟨pm_5 _ (List.mem_of_getElem? (i := 11) (by decide +kernel)), rfl⟩
theorem cd_X9_demandRejection : zWd (.code yX9_demandRejection cX9_demandRejection 1 none) := ⟨pm_5 _ (List.mem_of_getElem? (i := 12) (by decide +kernel)), rfl⟩
theorem lk_X9_343 : (.stringRef RX9 343 "no call was rejected" : Cond) ∈ lw_tbl := pm_5 _ (List.mem_of_getElem? (i := 13) (by decide +kernel))
theorem lk_L_192 : zWd (.methodLink RL 192 yL_detail) := ⟨pm_5 _ (List.mem_of_getElem? (i := 14) (by decide +kernel)), rfl⟩
theorem st_L_detail : zWd (.static yL_detail) := ⟨pm_5 _ (List.mem_of_getElem? (i := 15) (by decide +kernel)), rfl⟩
theorem cd_L_detail : zWd (.codeWith yL_detail cL_detail 2 (some .int) [(0, 4, 5, 29)]) := ⟨pm_5 _ (List.mem_of_getElem? (i := 16) (by decide +kernel)), rfl⟩
theorem lk_L_160 : zWd (.methodLink RL 160 yX9_rejectionDetail) := ⟨pm_5 _ (List.mem_of_getElem? (i := 17) (by decide +kernel)), rfl⟩
theorem im_X9_rejectionDetail : zWd (.instanceMethod yX9_rejectionDetail) := ⟨pm_5 _ (List.mem_of_getElem? (i := 18) (by decide +kernel)), rfl⟩
theorem se_X9_X9_rejectionDetail : zWd (.selects RX9 yX9_rejectionDetail yX9_rejectionDetail) := ⟨pm_5 _ (List.mem_of_getElem? (i := 19) (by decide +kernel)), rfl⟩
theorem cd_X9_rejectionDetail : zWd (.code yX9_rejectionDetail cX9_rejectionDetail 1 (some .int)) := ⟨pm_5 _ (List.mem_of_getElem? (i := 20) (by decide +kernel)), rfl⟩
theorem lk_L_195 : zWd (.methodLink RL 195 yL_cause) := ⟨pm_5 _ (List.mem_of_getElem? (i := 21) (by decide +kernel)), rfl⟩
theorem st_L_cause : zWd (.static yL_cause) := ⟨pm_5 _ (List.mem_of_getElem? (i := 22) (by decide +kernel)), rfl⟩
theorem cd_L_cause : zWd (.codeWith yL_cause cL_cause 2 (some .int) [(0, 4, 5, 29)]) := ⟨pm_5 _ (List.mem_of_getElem? (i := 23) (by decide +kernel)), rfl⟩
theorem lk_L_163 : zWd (.methodLink RL 163 yX9_causeReason) := ⟨pm_5 _ (List.mem_of_getElem? (i := 24) (by decide +kernel)), rfl⟩
theorem im_X9_causeReason : zWd (.instanceMethod yX9_causeReason) := ⟨pm_5 _ (List.mem_of_getElem? (i := 25) (by decide +kernel)), rfl⟩
theorem se_X9_X9_causeReason : zWd (.selects RX9 yX9_causeReason yX9_causeReason) := ⟨pm_5 _ (List.mem_of_getElem? (i := 26) (by decide +kernel)), rfl⟩
theorem cd_X9_causeReason : zWd (.code yX9_causeReason cX9_causeReason 1 (some .int)) := ⟨pm_5 _ (List.mem_of_getElem? (i := 27) (by decide +kernel)), rfl⟩
theorem lk_X9_310 : (.stringRef RX9 310 "no command was rejected lately" : Cond) ∈ lw_tbl := pm_5 _ (List.mem_of_getElem? (i := 28) (by decide +kernel))
theorem lk_L_395 : zWd (.methodLink RL 395 yL_makes) := ⟨pm_5 _ (List.mem_of_getElem? (i := 29) (by decide +kernel)), rfl⟩
theorem st_L_makes : zWd (.static yL_makes) := ⟨pm_5 _ (List.mem_of_getElem? (i := 30) (by decide +kernel)), rfl⟩
theorem cd_L_makes : zWd (.code yL_makes cL_makes 6 (some .boolean)) := ⟨pm_5 _ (List.mem_of_getElem? (i := 31) (by decide +kernel)), rfl⟩
theorem lk_L_205 : zWd (.methodLink RL 205 yL_some) := ⟨pm_5 _ (List.mem_of_getElem? (i := 32) (by decide +kernel)), rfl⟩
theorem st_L_some : zWd (.static yL_some) := ⟨pm_5 _ (List.mem_of_getElem? (i := 33) (by decide +kernel)), rfl⟩
theorem cd_L_some : zWd (.code yL_some cL_some 3 (some .int)) := ⟨pm_5 _ (List.mem_of_getElem? (i := 34) (by decide +kernel)), rfl⟩
theorem lk_L_211 : zWd (.methodLink RL 211 yL_setShade) := ⟨pm_5 _ (List.mem_of_getElem? (i := 35) (by decide +kernel)), rfl⟩
theorem st_L_setShade : zWd (.static yL_setShade) := ⟨pm_5 _ (List.mem_of_getElem? (i := 36) (by decide +kernel)), rfl⟩
theorem cd_L_setShade : zWd (.codeWith yL_setShade cL_setShade 4 (some .int) [(0, 6, 7, 13), (0, 6, 12, 15)]) := ⟨pm_5 _ (List.mem_of_getElem? (i := 37) (by decide +kernel)), rfl⟩
theorem lk_L_42 : zWd (.methodLink RL 42 yX9_setShade) := ⟨pm_5 _ (List.mem_of_getElem? (i := 38) (by decide +kernel)), rfl⟩
theorem im_X9_setShade : zWd (.instanceMethod yX9_setShade) := ⟨pm_5 _ (List.mem_of_getElem? (i := 39) (by decide +kernel)), rfl⟩
theorem se_X9_X9_setShade : zWd (.selects RX9 yX9_setShade yX9_setShade) := ⟨pm_5 _ (List.mem_of_getElem? (i := 40) (by decide +kernel)), rfl⟩
theorem cd_X9_setShade : zWd (.code yX9_setShade cX9_setShade 3 (some .int)) := ⟨pm_5 _ (List.mem_of_getElem? (i := 41) (by decide +kernel)), rfl⟩
theorem lk_L_215 : zWd (.methodLink RL 215 yL_fold) := ⟨pm_5 _ (List.mem_of_getElem? (i := 42) (by decide +kernel)), rfl⟩
theorem st_L_fold : zWd (.static yL_fold) := ⟨pm_5 _ (List.mem_of_getElem? (i := 43) (by decide +kernel)), rfl⟩
theorem cd_L_fold : zWd (.codeWith yL_fold cL_fold 3 (some .int) [(0, 5, 6, 13), (0, 5, 11, 17)]) := ⟨pm_5 _ (List.mem_of_getElem? (i := 44) (by decide +kernel)), rfl⟩
theorem lk_L_54 : zWd (.methodLink RL 54 yX9_fold) := ⟨pm_5 _ (List.mem_of_getElem? (i := 45) (by decide +kernel)), rfl⟩
theorem im_X9_fold : zWd (.instanceMethod yX9_fold) := ⟨pm_5 _ (List.mem_of_getElem? (i := 46) (by decide +kernel)), rfl⟩
theorem se_X9_X9_fold : zWd (.selects RX9 yX9_fold yX9_fold) := ⟨pm_5 _ (List.mem_of_getElem? (i := 47) (by decide +kernel)), rfl⟩
theorem cd_X9_fold : zWd (.code yX9_fold cX9_fold 2 (some .int)) := ⟨pm_5 _ (List.mem_of_getElem? (i := 48) (by decide +kernel)), rfl⟩
theorem lk_L_325 : zWd (.methodLink RL 325 yL_asks) := ⟨pm_5 _ (List.mem_of_getElem? (i := 49) (by decide +kernel)), rfl⟩
theorem st_L_asks : zWd (.static yL_asks) := ⟨pm_5 _ (List.mem_of_getElem? (i := 50) (by decide +kernel)), rfl⟩
theorem cd_L_asks : zWd (.code yL_asks cL_asks 7 (some .long)) := ⟨pm_5 _ (List.mem_of_getElem? (i := 51) (by decide +kernel)), rfl⟩
theorem lk_L_227 : zWd (.methodLink RL 227 yL_meanRust) := ⟨pm_5 _ (List.mem_of_getElem? (i := 53) (by decide +kernel)), rfl⟩
theorem st_L_meanRust : zWd (.static yL_meanRust) := ⟨pm_5 _ (List.mem_of_getElem? (i := 54) (by decide +kernel)), rfl⟩
theorem cd_L_meanRust : zWd (.codeWith yL_meanRust cL_meanRust 2 (some .double) [(0, 4, 5, 128)]) := ⟨pm_5 _ (List.mem_of_getElem? (i := 55) (by decide +kernel)), rfl⟩
theorem lk_L_128 : zWd (.classLink RL 128 "java/lang/ArithmeticException") := ⟨pm_5 _ (List.mem_of_getElem? (i := 56) (by decide +kernel)), rfl⟩
theorem it_java_lang_ArithmeticException : zWd (.instantiable "java/lang/ArithmeticException" 6) := ⟨pm_5 _ (List.mem_of_getElem? (i := 57) (by decide +kernel)), rfl⟩
theorem ly_java_lang_ArithmeticException_backtrace : zWd (.lays "java/lang/ArithmeticException" "java/lang/Throwable" "backtrace" "Ljava/lang/Object;") := ⟨pm_5 _ (List.mem_of_getElem? (i := 61) (by decide +kernel)), rfl⟩
theorem ly_java_lang_ArithmeticException_detailMessage : zWd (.lays "java/lang/ArithmeticException" "java/lang/Throwable" "detailMessage" "Ljava/lang/String;") := ⟨pm_5 _ (List.mem_of_getElem? (i := 62) (by decide +kernel)), rfl⟩
theorem ly_java_lang_ArithmeticException_cause : zWd (.lays "java/lang/ArithmeticException" "java/lang/Throwable" "cause" "Ljava/lang/Throwable;") := ⟨pm_5 _ (List.mem_of_getElem? (i := 63) (by decide +kernel)), rfl⟩
theorem ly_java_lang_ArithmeticException_stackTrace : zWd (.lays "java/lang/ArithmeticException" "java/lang/Throwable" "stackTrace" "[Ljava/lang/StackTraceElement;") := ⟨pm_5 _ (List.mem_of_getElem? (i := 64) (by decide +kernel)), rfl⟩
theorem ly_java_lang_ArithmeticException_depth : zWd (.lays "java/lang/ArithmeticException" "java/lang/Throwable" "depth" "I") := ⟨pm_5 _ (List.mem_of_getElem? (i := 65) (by decide +kernel)), rfl⟩
theorem ly_java_lang_ArithmeticException_suppressedExceptions : zWd (.lays "java/lang/ArithmeticException" "java/lang/Throwable" "suppressedExceptions" "Ljava/util/List;") := ⟨pm_5 _ (List.mem_of_getElem? (i := 66) (by decide +kernel)), rfl⟩
theorem su_java_lang_ArithmeticException_java_lang_RuntimeException : zWd (.superclass "java/lang/ArithmeticException" "java/lang/RuntimeException") := ⟨pm_5 _ (List.mem_of_getElem? (i := 67) (by decide +kernel)), rfl⟩
theorem ca_java_lang_ArithmeticException_java_lang_ArithmeticException : (.castable "java/lang/ArithmeticException" "java/lang/ArithmeticException" : Cond) ∈ lw_tbl := pm_5 _ (List.mem_of_getElem? (i := 68) (by decide +kernel))
theorem lk_L_124 : zWd (.methodLink RL 124 yX9_meanRust) := ⟨pm_5 _ (List.mem_of_getElem? (i := 70) (by decide +kernel)), rfl⟩
theorem im_X9_meanRust : zWd (.instanceMethod yX9_meanRust) := ⟨pm_5 _ (List.mem_of_getElem? (i := 71) (by decide +kernel)), rfl⟩
theorem se_X9_X9_meanRust : zWd (.selects RX9 yX9_meanRust yX9_meanRust) := ⟨pm_5 _ (List.mem_of_getElem? (i := 72) (by decide +kernel)), rfl⟩
theorem cd_X9_meanRust : zWd (.code yX9_meanRust cX9_meanRust 1 (some .double)) := ⟨pm_5 _ (List.mem_of_getElem? (i := 73) (by decide +kernel)), rfl⟩
theorem lk_X9_236 : zWd (.methodLink RX9 236 yX9_demandChairs) := ⟨pm_5 _ (List.mem_of_getElem? (i := 74) (by decide +kernel)), rfl⟩
theorem im_X9_demandChairs : zWd (.instanceMethod yX9_demandChairs) := ⟨pm_5 _ (List.mem_of_getElem? (i := 76) (by decide +kernel)), rfl⟩
theorem cd_X9_demandChairs : zWd (.code yX9_demandChairs cX9_demandChairs 1 none) := ⟨pm_5 _ (List.mem_of_getElem? (i := 77) (by decide +kernel)), rfl⟩
theorem lk_X9_338 : zWd (.classLink RX9 338 "java/lang/ArithmeticException") := ⟨pm_5 _ (List.mem_of_getElem? (i := 78) (by decide +kernel)), rfl⟩
theorem lk_X9_340 : (.stringRef RX9 340 "there are no chairs" : Cond) ∈ lw_tbl := pm_5 _ (List.mem_of_getElem? (i := 79) (by decide +kernel))
theorem lk_X9_212 : zWd (.methodLink RX9 212 yX3_sumOfRust) := ⟨pm_5 _ (List.mem_of_getElem? (i := 81) (by decide +kernel)), rfl⟩
theorem im_X3_sumOfRust : zWd (.instanceMethod yX3_sumOfRust) := ⟨pm_5 _ (List.mem_of_getElem? (i := 82) (by decide +kernel)), rfl⟩
theorem se_X3_X3_sumOfRust : zWd (.selects RX3 yX3_sumOfRust yX3_sumOfRust) := ⟨pm_5 _ (List.mem_of_getElem? (i := 83) (by decide +kernel)), rfl⟩
theorem cd_X3_sumOfRust : zWd (.code yX3_sumOfRust cX3_sumOfRust 3 (some .int)) := ⟨pm_5 _ (List.mem_of_getElem? (i := 84) (by decide +kernel)), rfl⟩
theorem lk_L_230 : zWd (.methodLink RL 230 yJxe99ae_doubleToLongBits_ccdee) := ⟨pm_5 _ (List.mem_of_getElem? (i := 86) (by decide +kernel)), rfl⟩
theorem st_Jxe99ae_doubleToLongBits_ccdee : zWd (.static yJxe99ae_doubleToLongBits_ccdee) := ⟨pm_5 _ (List.mem_of_getElem? (i := 87) (by decide +kernel)), rfl⟩
theorem cd_Jxe99ae_doubleToLongBits_ccdee : zWd (.code yJxe99ae_doubleToLongBits_ccdee cJxe99ae_doubleToLongBits_ccdee 2 (some .long)) := ⟨pm_5 _ (List.mem_of_getElem? (i := 88) (by decide +kernel)), rfl⟩
theorem lk_Jxe99ae_122 : zWd (.methodLink RJxe99ae 122 yJxe99ae_isNaN_b9ae7) := ⟨pm_5 _ (List.mem_of_getElem? (i := 89) (by decide +kernel)), rfl⟩
theorem st_Jxe99ae_isNaN_b9ae7 : zWd (.static yJxe99ae_isNaN_b9ae7) := ⟨pm_5 _ (List.mem_of_getElem? (i := 90) (by decide +kernel)), rfl⟩
theorem cd_Jxe99ae_isNaN_b9ae7 : zWd (.code yJxe99ae_isNaN_b9ae7 cJxe99ae_isNaN_b9ae7 2 (some .boolean)) := ⟨pm_5 _ (List.mem_of_getElem? (i := 91) (by decide +kernel)), rfl⟩
theorem lk_L_236 : zWd (.methodLink RL 236 yL_foldedShare) := ⟨pm_5 _ (List.mem_of_getElem? (i := 96) (by decide +kernel)), rfl⟩
theorem st_L_foldedShare : zWd (.static yL_foldedShare) := ⟨pm_5 _ (List.mem_of_getElem? (i := 97) (by decide +kernel)), rfl⟩
theorem cd_L_foldedShare : zWd (.codeWith yL_foldedShare cL_foldedShare 2 (some .float) [(0, 4, 5, 128)]) := ⟨pm_5 _ (List.mem_of_getElem? (i := 98) (by decide +kernel)), rfl⟩
theorem lk_L_132 : zWd (.methodLink RL 132 yX9_foldedShare) := ⟨pm_5 _ (List.mem_of_getElem? (i := 99) (by decide +kernel)), rfl⟩
theorem im_X9_foldedShare : zWd (.instanceMethod yX9_foldedShare) := ⟨pm_5 _ (List.mem_of_getElem? (i := 100) (by decide +kernel)), rfl⟩
theorem se_X9_X9_foldedShare : zWd (.selects RX9 yX9_foldedShare yX9_foldedShare) := ⟨pm_5 _ (List.mem_of_getElem? (i := 101) (by decide +kernel)), rfl⟩
theorem cd_X9_foldedShare : zWd (.code yX9_foldedShare cX9_foldedShare 1 (some .float)) := ⟨pm_5 _ (List.mem_of_getElem? (i := 102) (by decide +kernel)), rfl⟩
theorem lk_X9_206 : zWd (.methodLink RX9 206 yX3_countFolded) := ⟨pm_5 _ (List.mem_of_getElem? (i := 103) (by decide +kernel)), rfl⟩
theorem lk_L_239 : zWd (.methodLink RL 239 yJxf58ca_floatToIntBits_5c35a) := ⟨pm_5 _ (List.mem_of_getElem? (i := 105) (by decide +kernel)), rfl⟩
theorem st_Jxf58ca_floatToIntBits_5c35a : zWd (.static yJxf58ca_floatToIntBits_5c35a) := ⟨pm_5 _ (List.mem_of_getElem? (i := 106) (by decide +kernel)), rfl⟩
theorem cd_Jxf58ca_floatToIntBits_5c35a : zWd (.code yJxf58ca_floatToIntBits_5c35a cJxf58ca_floatToIntBits_5c35a 1 (some .int)) := ⟨pm_5 _ (List.mem_of_getElem? (i := 107) (by decide +kernel)), rfl⟩
theorem lk_Jxf58ca_59 : zWd (.methodLink RJxf58ca 59 yJxf58ca_isNaN_12338) := ⟨pm_5 _ (List.mem_of_getElem? (i := 108) (by decide +kernel)), rfl⟩
theorem st_Jxf58ca_isNaN_12338 : zWd (.static yJxf58ca_isNaN_12338) := ⟨pm_5 _ (List.mem_of_getElem? (i := 109) (by decide +kernel)), rfl⟩
theorem cd_Jxf58ca_isNaN_12338 : zWd (.code yJxf58ca_isNaN_12338 cJxf58ca_isNaN_12338 1 (some .boolean)) := ⟨pm_5 _ (List.mem_of_getElem? (i := 110) (by decide +kernel)), rfl⟩
theorem co_Jxf58ca_77 : zWd (.constant RJxf58ca 77 2143289344) := ⟨pm_5 _ (List.mem_of_getElem? (i := 114) (by decide +kernel)), rfl⟩
theorem lk_L_251 : zWd (.methodLink RL 251 yX9_oil) := ⟨pm_5 _ (List.mem_of_getElem? (i := 115) (by decide +kernel)), rfl⟩
theorem im_X9_oil : zWd (.instanceMethod yX9_oil) := ⟨pm_5 _ (List.mem_of_getElem? (i := 116) (by decide +kernel)), rfl⟩
theorem se_X9_X9_oil : zWd (.selects RX9 yX9_oil yX9_oil) := ⟨pm_5 _ (List.mem_of_getElem? (i := 117) (by decide +kernel)), rfl⟩
theorem cd_X9_oil : zWd (.code yX9_oil cX9_oil 1 (some .int)) := ⟨pm_5 _ (List.mem_of_getElem? (i := 118) (by decide +kernel)), rfl⟩
theorem lk_L_254 : zWd (.methodLink RL 254 yX9_collapsedChairs) := ⟨pm_5 _ (List.mem_of_getElem? (i := 119) (by decide +kernel)), rfl⟩
theorem im_X9_collapsedChairs : zWd (.instanceMethod yX9_collapsedChairs) := ⟨pm_5 _ (List.mem_of_getElem? (i := 120) (by decide +kernel)), rfl⟩
theorem se_X9_X9_collapsedChairs : zWd (.selects RX9 yX9_collapsedChairs yX9_collapsedChairs) := ⟨pm_5 _ (List.mem_of_getElem? (i := 121) (by decide +kernel)), rfl⟩
theorem cd_X9_collapsedChairs : zWd (.code yX9_collapsedChairs cX9_collapsedChairs 1 (some .int)) := ⟨pm_5 _ (List.mem_of_getElem? (i := 122) (by decide +kernel)), rfl⟩
theorem lk_L_257 : zWd (.methodLink RL 257 yX9_scrappedChairs) := ⟨pm_5 _ (List.mem_of_getElem? (i := 123) (by decide +kernel)), rfl⟩
theorem im_X9_scrappedChairs : zWd (.instanceMethod yX9_scrappedChairs) := ⟨pm_5 _ (List.mem_of_getElem? (i := 124) (by decide +kernel)), rfl⟩
theorem se_X9_X9_scrappedChairs : zWd (.selects RX9 yX9_scrappedChairs yX9_scrappedChairs) := ⟨pm_5 _ (List.mem_of_getElem? (i := 125) (by decide +kernel)), rfl⟩
theorem cd_X9_scrappedChairs : zWd (.code yX9_scrappedChairs cX9_scrappedChairs 1 (some .int)) := ⟨pm_5 _ (List.mem_of_getElem? (i := 126) (by decide +kernel)), rfl⟩
theorem lk_L_260 : zWd (.methodLink RL 260 yX9_moveCount) := ⟨pm_5 _ (List.mem_of_getElem? (i := 127) (by decide +kernel)), rfl⟩
theorem im_X9_moveCount : zWd (.instanceMethod yX9_moveCount) := ⟨pm_5 _ (List.mem_of_getElem? (i := 128) (by decide +kernel)), rfl⟩
theorem se_X9_X9_moveCount : zWd (.selects RX9 yX9_moveCount yX9_moveCount) := ⟨pm_5 _ (List.mem_of_getElem? (i := 129) (by decide +kernel)), rfl⟩
theorem cd_X9_moveCount : zWd (.code yX9_moveCount cX9_moveCount 1 (some .int)) := ⟨pm_5 _ (List.mem_of_getElem? (i := 130) (by decide +kernel)), rfl⟩
theorem lk_L_263 : zWd (.methodLink RL 263 yX9_grazedShade) := ⟨pm_5 _ (List.mem_of_getElem? (i := 131) (by decide +kernel)), rfl⟩
theorem im_X9_grazedShade : zWd (.instanceMethod yX9_grazedShade) := ⟨pm_5 _ (List.mem_of_getElem? (i := 132) (by decide +kernel)), rfl⟩
theorem se_X9_X9_grazedShade : zWd (.selects RX9 yX9_grazedShade yX9_grazedShade) := ⟨pm_5 _ (List.mem_of_getElem? (i := 133) (by decide +kernel)), rfl⟩
theorem cd_X9_grazedShade : zWd (.code yX9_grazedShade cX9_grazedShade 1 (some .int)) := ⟨pm_5 _ (List.mem_of_getElem? (i := 134) (by decide +kernel)), rfl⟩
theorem lk_L_266 : zWd (.methodLink RL 266 yL_wouldCollapse) := ⟨pm_5 _ (List.mem_of_getElem? (i := 135) (by decide +kernel)), rfl⟩
theorem st_L_wouldCollapse : zWd (.static yL_wouldCollapse) := ⟨pm_5 _ (List.mem_of_getElem? (i := 136) (by decide +kernel)), rfl⟩
theorem cd_L_wouldCollapse : zWd (.codeWith yL_wouldCollapse cL_wouldCollapse 3 (some .int) [(0, 5, 6, 15)]) := ⟨pm_5 _ (List.mem_of_getElem? (i := 137) (by decide +kernel)), rfl⟩
theorem lk_L_112 : zWd (.methodLink RL 112 yX9_wouldCollapse) := ⟨pm_5 _ (List.mem_of_getElem? (i := 138) (by decide +kernel)), rfl⟩
theorem im_X9_wouldCollapse : zWd (.instanceMethod yX9_wouldCollapse) := ⟨pm_5 _ (List.mem_of_getElem? (i := 139) (by decide +kernel)), rfl⟩
theorem se_X9_X9_wouldCollapse : zWd (.selects RX9 yX9_wouldCollapse yX9_wouldCollapse) := ⟨pm_5 _ (List.mem_of_getElem? (i := 140) (by decide +kernel)), rfl⟩
theorem cd_X9_wouldCollapse : zWd (.code yX9_wouldCollapse cX9_wouldCollapse 2 (some .int)) := ⟨pm_5 _ (List.mem_of_getElem? (i := 141) (by decide +kernel)), rfl⟩
theorem lk_X9_185 : zWd (.methodLink RX9 185 yX9_areDays) := ⟨pm_5 _ (List.mem_of_getElem? (i := 142) (by decide +kernel)), rfl⟩
theorem lk_X9_189 : (.stringRef RX9 189 "days out of range" : Cond) ∈ lw_tbl := pm_5 _ (List.mem_of_getElem? (i := 143) (by decide +kernel))
theorem lk_X9_195 : zWd (.methodLink RX9 195 yX3_pass) := ⟨pm_5 _ (List.mem_of_getElem? (i := 144) (by decide +kernel)), rfl⟩
theorem lk_L_268 : zWd (.methodLink RL 268 yL_elder) := ⟨pm_5 _ (List.mem_of_getElem? (i := 145) (by decide +kernel)), rfl⟩
theorem st_L_elder : zWd (.static yL_elder) := ⟨pm_5 _ (List.mem_of_getElem? (i := 146) (by decide +kernel)), rfl⟩
theorem cd_L_elder : zWd (.codeWith yL_elder cL_elder 3 (some .int) [(0, 5, 6, 13), (0, 5, 11, 29)]) := ⟨pm_5 _ (List.mem_of_getElem? (i := 147) (by decide +kernel)), rfl⟩
theorem lk_L_97 : zWd (.methodLink RL 97 yX9_elderOf) := ⟨pm_5 _ (List.mem_of_getElem? (i := 148) (by decide +kernel)), rfl⟩
theorem im_X9_elderOf : zWd (.instanceMethod yX9_elderOf) := ⟨pm_5 _ (List.mem_of_getElem? (i := 149) (by decide +kernel)), rfl⟩
theorem se_X9_X9_elderOf : zWd (.selects RX9 yX9_elderOf yX9_elderOf) := ⟨pm_5 _ (List.mem_of_getElem? (i := 150) (by decide +kernel)), rfl⟩
theorem cd_X9_elderOf : zWd (.code yX9_elderOf cX9_elderOf 2 (some .int)) := ⟨pm_5 _ (List.mem_of_getElem? (i := 151) (by decide +kernel)), rfl⟩
theorem lk_X9_162 : zWd (.methodLink RX9 162 yX3_idOfElder) := ⟨pm_5 _ (List.mem_of_getElem? (i := 152) (by decide +kernel)), rfl⟩
theorem im_X3_idOfElder : zWd (.instanceMethod yX3_idOfElder) := ⟨pm_5 _ (List.mem_of_getElem? (i := 153) (by decide +kernel)), rfl⟩
theorem se_X3_X3_idOfElder : zWd (.selects RX3 yX3_idOfElder yX3_idOfElder) := ⟨pm_5 _ (List.mem_of_getElem? (i := 154) (by decide +kernel)), rfl⟩
theorem cd_X3_idOfElder : zWd (.code yX3_idOfElder cX3_idOfElder 5 (some .int)) := ⟨pm_5 _ (List.mem_of_getElem? (i := 155) (by decide +kernel)), rfl⟩
theorem lk_X3_181 : zWd (.methodLink RX3 181 yX0_isElderThan) := ⟨pm_5 _ (List.mem_of_getElem? (i := 156) (by decide +kernel)), rfl⟩
theorem im_X0_isElderThan : zWd (.instanceMethod yX0_isElderThan) := ⟨pm_5 _ (List.mem_of_getElem? (i := 157) (by decide +kernel)), rfl⟩
theorem se_X0_X0_isElderThan : zWd (.selects RX0 yX0_isElderThan yX0_isElderThan) := ⟨pm_5 _ (List.mem_of_getElem? (i := 158) (by decide +kernel)), rfl⟩
theorem cd_X0_isElderThan : zWd (.code yX0_isElderThan cX0_isElderThan 2 (some .boolean)) := ⟨pm_5 _ (List.mem_of_getElem? (i := 159) (by decide +kernel)), rfl⟩
theorem lk_L_271 : zWd (.methodLink RL 271 yL_bestNeighbour) := ⟨pm_5 _ (List.mem_of_getElem? (i := 160) (by decide +kernel)), rfl⟩
theorem st_L_bestNeighbour : zWd (.static yL_bestNeighbour) := ⟨pm_5 _ (List.mem_of_getElem? (i := 161) (by decide +kernel)), rfl⟩
theorem cd_L_bestNeighbour : zWd (.codeWith yL_bestNeighbour cL_bestNeighbour 3 (some .int) [(0, 5, 6, 13), (0, 5, 11, 29)]) := ⟨pm_5 _ (List.mem_of_getElem? (i := 162) (by decide +kernel)), rfl⟩
theorem lk_L_103 : zWd (.methodLink RL 103 yX9_bestNeighbour) := ⟨pm_5 _ (List.mem_of_getElem? (i := 163) (by decide +kernel)), rfl⟩
theorem im_X9_bestNeighbour : zWd (.instanceMethod yX9_bestNeighbour) := ⟨pm_5 _ (List.mem_of_getElem? (i := 164) (by decide +kernel)), rfl⟩
theorem se_X9_X9_bestNeighbour : zWd (.selects RX9 yX9_bestNeighbour yX9_bestNeighbour) := ⟨pm_5 _ (List.mem_of_getElem? (i := 165) (by decide +kernel)), rfl⟩
theorem cd_X9_bestNeighbour : zWd (.code yX9_bestNeighbour cX9_bestNeighbour 2 (some .int)) := ⟨pm_5 _ (List.mem_of_getElem? (i := 166) (by decide +kernel)), rfl⟩
theorem lk_X9_173 : zWd (.methodLink RX9 173 yX3_shadiestNeighbour) := ⟨pm_5 _ (List.mem_of_getElem? (i := 167) (by decide +kernel)), rfl⟩
theorem im_X3_shadiestNeighbour : zWd (.instanceMethod yX3_shadiestNeighbour) := ⟨pm_5 _ (List.mem_of_getElem? (i := 168) (by decide +kernel)), rfl⟩
theorem se_X3_X3_shadiestNeighbour : zWd (.selects RX3 yX3_shadiestNeighbour yX3_shadiestNeighbour) := ⟨pm_5 _ (List.mem_of_getElem? (i := 169) (by decide +kernel)), rfl⟩
theorem cd_X3_shadiestNeighbour : zWd (.code yX3_shadiestNeighbour cX3_shadiestNeighbour 4 (some .int)) := ⟨pm_5 _ (List.mem_of_getElem? (i := 170) (by decide +kernel)), rfl⟩
theorem lk_X3_199 : zWd (.methodLink RX3 199 yX8_areNeighbours) := ⟨pm_5 _ (List.mem_of_getElem? (i := 171) (by decide +kernel)), rfl⟩
theorem lk_X3_195 : zWd (.methodLink RX3 195 yX3_isBetter) := ⟨pm_5 _ (List.mem_of_getElem? (i := 172) (by decide +kernel)), rfl⟩
theorem im_X3_isBetter : zWd (.instanceMethod yX3_isBetter) := ⟨pm_5 _ (List.mem_of_getElem? (i := 174) (by decide +kernel)), rfl⟩
theorem cd_X3_isBetter : zWd (.code yX3_isBetter cX3_isBetter 3 (some .boolean)) := ⟨pm_5 _ (List.mem_of_getElem? (i := 175) (by decide +kernel)), rfl⟩
theorem lk_L_273 : zWd (.methodLink RL 273 yL_byShade) := ⟨pm_5 _ (List.mem_of_getElem? (i := 176) (by decide +kernel)), rfl⟩
theorem st_L_byShade : zWd (.static yL_byShade) := ⟨pm_5 _ (List.mem_of_getElem? (i := 177) (by decide +kernel)), rfl⟩
theorem cd_L_byShade : zWd (.codeWith yL_byShade cL_byShade 3 (some .int) [(0, 5, 6, 29)]) := ⟨pm_5 _ (List.mem_of_getElem? (i := 178) (by decide +kernel)), rfl⟩
theorem lk_L_121 : zWd (.methodLink RL 121 yX9_lawnByShade) := ⟨pm_5 _ (List.mem_of_getElem? (i := 179) (by decide +kernel)), rfl⟩
theorem im_X9_lawnByShade : zWd (.instanceMethod yX9_lawnByShade) := ⟨pm_5 _ (List.mem_of_getElem? (i := 180) (by decide +kernel)), rfl⟩
theorem se_X9_X9_lawnByShade : zWd (.selects RX9 yX9_lawnByShade yX9_lawnByShade) := ⟨pm_5 _ (List.mem_of_getElem? (i := 181) (by decide +kernel)), rfl⟩
theorem cd_X9_lawnByShade : zWd (.code yX9_lawnByShade cX9_lawnByShade 2 (some .int)) := ⟨pm_5 _ (List.mem_of_getElem? (i := 182) (by decide +kernel)), rfl⟩
theorem lk_X9_233 : zWd (.methodLink RX9 233 yX3_lawnAtRank) := ⟨pm_5 _ (List.mem_of_getElem? (i := 183) (by decide +kernel)), rfl⟩
theorem im_X3_lawnAtRank : zWd (.instanceMethod yX3_lawnAtRank) := ⟨pm_5 _ (List.mem_of_getElem? (i := 184) (by decide +kernel)), rfl⟩
theorem se_X3_X3_lawnAtRank : zWd (.selects RX3 yX3_lawnAtRank yX3_lawnAtRank) := ⟨pm_5 _ (List.mem_of_getElem? (i := 185) (by decide +kernel)), rfl⟩
theorem cd_X3_lawnAtRank : zWd (.code yX3_lawnAtRank cX3_lawnAtRank 3 (some .int)) := ⟨pm_5 _ (List.mem_of_getElem? (i := 186) (by decide +kernel)), rfl⟩
theorem lk_X3_192 : zWd (.methodLink RX3 192 yX3_rankOfLawn) := ⟨pm_5 _ (List.mem_of_getElem? (i := 187) (by decide +kernel)), rfl⟩
theorem im_X3_rankOfLawn : zWd (.instanceMethod yX3_rankOfLawn) := ⟨pm_5 _ (List.mem_of_getElem? (i := 189) (by decide +kernel)), rfl⟩
theorem cd_X3_rankOfLawn : zWd (.code yX3_rankOfLawn cX3_rankOfLawn 4 (some .int)) := ⟨pm_5 _ (List.mem_of_getElem? (i := 190) (by decide +kernel)), rfl⟩
theorem lk_L_276 : zWd (.methodLink RL 276 yL_distance) := ⟨pm_5 _ (List.mem_of_getElem? (i := 191) (by decide +kernel)), rfl⟩
theorem st_L_distance : zWd (.static yL_distance) := ⟨pm_5 _ (List.mem_of_getElem? (i := 192) (by decide +kernel)), rfl⟩
theorem cd_L_distance : zWd (.codeWith yL_distance cL_distance 4 (some .int) [(0, 6, 7, 13), (0, 6, 12, 29)]) := ⟨pm_5 _ (List.mem_of_getElem? (i := 193) (by decide +kernel)), rfl⟩
theorem lk_L_26 : zWd (.methodLink RL 26 yX9_distance) := ⟨pm_5 _ (List.mem_of_getElem? (i := 194) (by decide +kernel)), rfl⟩
theorem im_X9_distance : zWd (.instanceMethod yX9_distance) := ⟨pm_5 _ (List.mem_of_getElem? (i := 195) (by decide +kernel)), rfl⟩
theorem se_X9_X9_distance : zWd (.selects RX9 yX9_distance yX9_distance) := ⟨pm_5 _ (List.mem_of_getElem? (i := 196) (by decide +kernel)), rfl⟩
theorem cd_X9_distance : zWd (.code yX9_distance cX9_distance 3 (some .int)) := ⟨pm_5 _ (List.mem_of_getElem? (i := 197) (by decide +kernel)), rfl⟩
theorem lk_X9_84 : zWd (.methodLink RX9 84 yX8_stepsBetween) := ⟨pm_5 _ (List.mem_of_getElem? (i := 198) (by decide +kernel)), rfl⟩
theorem lk_L_278 : zWd (.methodLink RL 278 yL_writeLawn) := ⟨pm_5 _ (List.mem_of_getElem? (i := 199) (by decide +kernel)), rfl⟩
theorem st_L_writeLawn : zWd (.static yL_writeLawn) := ⟨pm_5 _ (List.mem_of_getElem? (i := 200) (by decide +kernel)), rfl⟩
theorem cd_L_writeLawn : zWd (.codeWith yL_writeLawn cL_writeLawn 3 (some .int) [(0, 5, 6, 13)]) := ⟨pm_5 _ (List.mem_of_getElem? (i := 201) (by decide +kernel)), rfl⟩
theorem lk_L_137 : zWd (.methodLink RL 137 yX9_writeLawn) := ⟨pm_5 _ (List.mem_of_getElem? (i := 202) (by decide +kernel)), rfl⟩
theorem im_X9_writeLawn : zWd (.instanceMethod yX9_writeLawn) := ⟨pm_5 _ (List.mem_of_getElem? (i := 203) (by decide +kernel)), rfl⟩
theorem se_X9_X9_writeLawn : zWd (.selects RX9 yX9_writeLawn yX9_writeLawn) := ⟨pm_5 _ (List.mem_of_getElem? (i := 204) (by decide +kernel)), rfl⟩
theorem cd_X9_writeLawn : zWd (.code yX9_writeLawn cX9_writeLawn 2 (some .int)) := ⟨pm_5 _ (List.mem_of_getElem? (i := 205) (by decide +kernel)), rfl⟩
theorem lk_X9_250 : zWd (.methodLink RX9 250 yJ4_setLength_d00df) := ⟨pm_5 _ (List.mem_of_getElem? (i := 206) (by decide +kernel)), rfl⟩
theorem im_J4_setLength_d00df : zWd (.instanceMethod yJ4_setLength_d00df) := ⟨pm_5 _ (List.mem_of_getElem? (i := 207) (by decide +kernel)), rfl⟩
theorem se_J4_J4_setLength_d00df : zWd (.selects RJ4 yJ4_setLength_d00df yJ4_setLength_d00df) := ⟨pm_5 _ (List.mem_of_getElem? (i := 208) (by decide +kernel)), rfl⟩
theorem cd_J4_setLength_d00df : zWd (.code yJ4_setLength_d00df cJ4_setLength_d00df 2 none) := ⟨pm_5 _ (List.mem_of_getElem? (i := 209) (by decide +kernel)), rfl⟩
theorem lk_J4_333 : zWd (.methodLink RJ4 333 yJ5_setLength_d00df) := ⟨pm_5 _ (List.mem_of_getElem? (i := 210) (by decide +kernel)), rfl⟩
theorem im_J5_setLength_d00df : zWd (.instanceMethod yJ5_setLength_d00df) := ⟨pm_5 _ (List.mem_of_getElem? (i := 211) (by decide +kernel)), rfl⟩
theorem cd_J5_setLength_d00df : zWd (.code yJ5_setLength_d00df cJ5_setLength_d00df 2 none) := ⟨pm_5 _ (List.mem_of_getElem? (i := 212) (by decide +kernel)), rfl⟩
theorem lk_J5_129 : zWd (.classLink RJ5 129 "java/lang/StringIndexOutOfBoundsException") := ⟨pm_5 _ (List.mem_of_getElem? (i := 213) (by decide +kernel)), rfl⟩
theorem it_Jx7c733 : zWd (.instantiable RJx7c733 6) := ⟨pm_5 _ (List.mem_of_getElem? (i := 214) (by decide +kernel)), rfl⟩
theorem lk_J5_131 : zWd (.methodLink RJ5 131 yJx7c733_init_d00df) := ⟨pm_5 _ (List.mem_of_getElem? (i := 215) (by decide +kernel)), rfl⟩
theorem im_Jx7c733_init_d00df : zWd (.instanceMethod yJx7c733_init_d00df) := ⟨pm_5 _ (List.mem_of_getElem? (i := 216) (by decide +kernel)), rfl⟩
theorem cd_Jx7c733_init_d00df : zWd (.code yJx7c733_init_d00df cJx7c733_init_d00df 2 none) := ⟨pm_5 _ (List.mem_of_getElem? (i := 217) (by decide +kernel)), rfl⟩
theorem lk_Jx7c733_10 : zWd (.classLink RJx7c733 10 "java/lang/StringBuilder") := ⟨pm_5 _ (List.mem_of_getElem? (i := 218) (by decide +kernel)), rfl⟩
theorem lk_Jx7c733_12 : zWd (.methodLink RJx7c733 12 yJ4_init_da8c8) := ⟨pm_5 _ (List.mem_of_getElem? (i := 219) (by decide +kernel)), rfl⟩
theorem lk_Jx7c733_13 : (.stringRef RJx7c733 13 "String index out of range: " : Cond) ∈ lw_tbl := pm_5 _ (List.mem_of_getElem? (i := 220) (by decide +kernel))
theorem lk_Jx7c733_15 : zWd (.methodLink RJx7c733 15 yJ4_append_15ec4) := ⟨pm_5 _ (List.mem_of_getElem? (i := 221) (by decide +kernel)), rfl⟩
theorem im_J4_append_15ec4 : zWd (.instanceMethod yJ4_append_15ec4) := ⟨pm_5 _ (List.mem_of_getElem? (i := 222) (by decide +kernel)), rfl⟩
theorem se_J4_J4_append_15ec4 : zWd (.selects RJ4 yJ4_append_15ec4 yJ4_append_15ec4) := ⟨pm_5 _ (List.mem_of_getElem? (i := 223) (by decide +kernel)), rfl⟩
theorem cd_J4_append_15ec4 : zWd (.code yJ4_append_15ec4 cJ4_append_15ec4 2 (some (.object "java/lang/StringBuilder"))) := ⟨pm_5 _ (List.mem_of_getElem? (i := 224) (by decide +kernel)), rfl⟩
theorem lk_J4_29 : zWd (.methodLink RJ4 29 yJ5_append_cf1ce) := ⟨pm_5 _ (List.mem_of_getElem? (i := 225) (by decide +kernel)), rfl⟩
theorem im_J5_append_cf1ce : zWd (.instanceMethod yJ5_append_cf1ce) := ⟨pm_5 _ (List.mem_of_getElem? (i := 226) (by decide +kernel)), rfl⟩
theorem cd_J5_append_cf1ce : zWd (.code yJ5_append_cf1ce cJ5_append_cf1ce 3 (some (.object "java/lang/AbstractStringBuilder"))) := ⟨pm_5 _ (List.mem_of_getElem? (i := 227) (by decide +kernel)), rfl⟩
theorem lk_J5_204 : zWd (.methodLink RJ5 204 yJ5_appendNull_278bc) := ⟨pm_5 _ (List.mem_of_getElem? (i := 228) (by decide +kernel)), rfl⟩
theorem im_J5_appendNull_278bc : zWd (.instanceMethod yJ5_appendNull_278bc) := ⟨pm_5 _ (List.mem_of_getElem? (i := 230) (by decide +kernel)), rfl⟩
theorem cd_J5_appendNull_278bc : zWd (.code yJ5_appendNull_278bc cJ5_appendNull_278bc 3 (some (.object "java/lang/AbstractStringBuilder"))) := ⟨pm_5 _ (List.mem_of_getElem? (i := 231) (by decide +kernel)), rfl⟩
theorem lk_J5_100 : zWd (.methodLink RJ5 100 yJ5_ensureCapacityInternal_d00df) := ⟨pm_5 _ (List.mem_of_getElem? (i := 232) (by decide +kernel)), rfl⟩
theorem im_J5_ensureCapacityInternal_d00df : zWd (.instanceMethod yJ5_ensureCapacityInternal_d00df) := ⟨pm_5 _ (List.mem_of_getElem? (i := 234) (by decide +kernel)), rfl⟩
theorem cd_J5_ensureCapacityInternal_d00df : zWd (.code yJ5_ensureCapacityInternal_d00df cJ5_ensureCapacityInternal_d00df 3 none) := ⟨pm_5 _ (List.mem_of_getElem? (i := 235) (by decide +kernel)), rfl⟩
theorem lk_J5_104 : zWd (.methodLink RJ5 104 yJ5_newCapacity_0f7a4) := ⟨pm_5 _ (List.mem_of_getElem? (i := 236) (by decide +kernel)), rfl⟩
theorem im_J5_newCapacity_0f7a4 : zWd (.instanceMethod yJ5_newCapacity_0f7a4) := ⟨pm_5 _ (List.mem_of_getElem? (i := 238) (by decide +kernel)), rfl⟩
theorem cd_J5_newCapacity_0f7a4 : zWd (.code yJ5_newCapacity_0f7a4 cJ5_newCapacity_0f7a4 6 (some .int)) := ⟨pm_5 _ (List.mem_of_getElem? (i := 239) (by decide +kernel)), rfl⟩
theorem lk_J5_114 : zWd (.methodLink RJ5 114 yJ8_newLength_cabcc) := ⟨pm_6 _ (List.mem_of_getElem? (i := 0) (by decide +kernel)), rfl⟩
theorem st_J8_newLength_cabcc : zWd (.static yJ8_newLength_cabcc) := ⟨pm_6 _ (List.mem_of_getElem? (i := 1) (by decide +kernel)), rfl⟩
theorem cd_J8_newLength_cabcc : zWd (.code yJ8_newLength_cabcc cJ8_newLength_cabcc 4 (some .int)) := ⟨pm_6 _ (List.mem_of_getElem? (i := 2) (by decide +kernel)), rfl⟩
theorem lk_J8_194 : zWd (.methodLink RJ8 194 Lib.Math.max.name) := ⟨pm_6 _ (List.mem_of_getElem? (i := 3) (by decide +kernel)), rfl⟩
theorem co_J8_200 : zWd (.constant RJ8 200 2147483639) := ⟨pm_6 _ (List.mem_of_getElem? (i := 4) (by decide +kernel)), rfl⟩
theorem lk_J8_201 : zWd (.methodLink RJ8 201 yJ8_hugeLength_7cf53) := ⟨pm_6 _ (List.mem_of_getElem? (i := 5) (by decide +kernel)), rfl⟩
theorem st_J8_hugeLength_7cf53 : zWd (.static yJ8_hugeLength_7cf53) := ⟨pm_6 _ (List.mem_of_getElem? (i := 6) (by decide +kernel)), rfl⟩
theorem cd_J8_hugeLength_7cf53 : zWd (.code yJ8_hugeLength_7cf53 cJ8_hugeLength_7cf53 3 (some .int)) := ⟨pm_6 _ (List.mem_of_getElem? (i := 7) (by decide +kernel)), rfl⟩
theorem co_J5_39 : zWd (.constant RJ5 39 2147483647) := ⟨pm_6 _ (List.mem_of_getElem? (i := 8) (by decide +kernel)), rfl⟩
theorem lk_J5_108 : zWd (.methodLink RJ5 108 yJ7_copyOf_9075b) := ⟨pm_6 _ (List.mem_of_getElem? (i := 9) (by decide +kernel)), rfl⟩
theorem st_J7_copyOf_9075b : zWd (.static yJ7_copyOf_9075b) := ⟨pm_6 _ (List.mem_of_getElem? (i := 10) (by decide +kernel)), rfl⟩
theorem cd_J7_copyOf_9075b : zWd (.code yJ7_copyOf_9075b cJ7_copyOf_9075b 3 (some (.array .byte))) := ⟨pm_6 _ (List.mem_of_getElem? (i := 11) (by decide +kernel)), rfl⟩
theorem sm__B_java_lang_Object_1213 : zWd (.sameMethod "[B" "java/lang/Object" "clone" "()Ljava/lang/Object;") := ⟨pm_6 _ (List.mem_of_getElem? (i := 13) (by decide +kernel)), rfl⟩
theorem ca__B_Jx8e188 : (.castable "[B" "java/lang/Cloneable" : Cond) ∈ lw_tbl := pm_6 _ (List.mem_of_getElem? (i := 17) (by decide +kernel))
theorem lk_J7_311 : zWd (.classLink RJ7 311 "[B") := ⟨pm_6 _ (List.mem_of_getElem? (i := 18) (by decide +kernel)), rfl⟩
theorem lk_J7_304 : zWd (.methodLink RJ7 304 Lib.Math.min.name) := ⟨pm_6 _ (List.mem_of_getElem? (i := 19) (by decide +kernel)), rfl⟩
theorem lk_J7_150 : zWd (.methodLink RJ7 150 arraycopyName) := ⟨pm_6 _ (List.mem_of_getElem? (i := 20) (by decide +kernel)), rfl⟩
theorem lk_J5_83 : zWd (.methodLink RJ5 83 yJ5_isLatin1_aae02) := ⟨pm_6 _ (List.mem_of_getElem? (i := 21) (by decide +kernel)), rfl⟩
theorem im_J5_isLatin1_aae02 : zWd (.instanceMethod yJ5_isLatin1_aae02) := ⟨pm_6 _ (List.mem_of_getElem? (i := 22) (by decide +kernel)), rfl⟩
theorem sm_J5_J5_J5_isLatin1_aae02 : zWd (.sameMethod RJ5 RJ5 "isLatin1" "()Z") := ⟨pm_6 _ (List.mem_of_getElem? (i := 23) (by decide +kernel)), rfl⟩
theorem se_J4_J5_isLatin1_aae02 : zWd (.selects RJ4 yJ5_isLatin1_aae02 yJ5_isLatin1_aae02) := ⟨pm_6 _ (List.mem_of_getElem? (i := 24) (by decide +kernel)), rfl⟩
theorem cd_J5_isLatin1_aae02 : zWd (.code yJ5_isLatin1_aae02 cJ5_isLatin1_aae02 1 (some .boolean)) := ⟨pm_6 _ (List.mem_of_getElem? (i := 25) (by decide +kernel)), rfl⟩
theorem lk_J5_226 : zWd (.methodLink RJ5 226 yJ2_putCharsAt_cd4e5) := ⟨pm_6 _ (List.mem_of_getElem? (i := 26) (by decide +kernel)), rfl⟩
theorem st_J2_putCharsAt_cd4e5 : zWd (.static yJ2_putCharsAt_cd4e5) := ⟨pm_6 _ (List.mem_of_getElem? (i := 27) (by decide +kernel)), rfl⟩
theorem cd_J2_putCharsAt_cd4e5 : zWd (.code yJ2_putCharsAt_cd4e5 cJ2_putCharsAt_cd4e5 7 (some .int)) := ⟨pm_6 _ (List.mem_of_getElem? (i := 28) (by decide +kernel)), rfl⟩
theorem lk_J2_96 : zWd (.methodLink RJ2 96 yJ2_checkBoundsBeginEnd_d044e) := ⟨pm_6 _ (List.mem_of_getElem? (i := 29) (by decide +kernel)), rfl⟩
theorem st_J2_checkBoundsBeginEnd_d044e : zWd (.static yJ2_checkBoundsBeginEnd_d044e) := ⟨pm_6 _ (List.mem_of_getElem? (i := 30) (by decide +kernel)), rfl⟩
theorem cd_J2_checkBoundsBeginEnd_d044e : zWd (.code yJ2_checkBoundsBeginEnd_d044e cJ2_checkBoundsBeginEnd_d044e 3 none) := ⟨pm_6 _ (List.mem_of_getElem? (i := 31) (by decide +kernel)), rfl⟩
theorem lk_J2_241 : zWd (.methodLink RJ2 241 yJ0_checkBoundsBeginEnd_23922) := ⟨pm_6 _ (List.mem_of_getElem? (i := 32) (by decide +kernel)), rfl⟩
theorem st_J0_checkBoundsBeginEnd_23922 : zWd (.static yJ0_checkBoundsBeginEnd_23922) := ⟨pm_6 _ (List.mem_of_getElem? (i := 33) (by decide +kernel)), rfl⟩
theorem cd_J0_checkBoundsBeginEnd_23922 : zWd (.code yJ0_checkBoundsBeginEnd_23922 cJ0_checkBoundsBeginEnd_23922 3 none) := ⟨pm_6 _ (List.mem_of_getElem? (i := 34) (by decide +kernel)), rfl⟩
theorem lk_J0_1062 : zWd (.methodLink RJ0 1062 yJ3_checkFromToIndex_8c36e) := ⟨pm_6 _ (List.mem_of_getElem? (i := 35) (by decide +kernel)), rfl⟩
