theorem ly_java_util_NoSuchElementException_backtrace : zWd (.lays "java/util/NoSuchElementException" "java/lang/Throwable" "backtrace" "Ljava/lang/Object;") := ⟨pm_4 _ (List.mem_of_getElem? (i := 116) (by decide +kernel)), rfl⟩
theorem lk_X9_336 : (.stringRef RX9 336 "there is none" : Cond) ∈ lw_tbl := pm_4 _ (List.mem_of_getElem? (i := 117) (by decide +kernel))
theorem ly_java_util_NoSuchElementException_depth : zWd (.lays "java/util/NoSuchElementException" "java/lang/Throwable" "depth" "I") := ⟨pm_4 _ (List.mem_of_getElem? (i := 122) (by decide +kernel)), rfl⟩
theorem su_java_util_NoSuchElementException_java_lang_RuntimeException : zWd (.superclass "java/util/NoSuchElementException" "java/lang/RuntimeException") := ⟨pm_4 _ (List.mem_of_getElem? (i := 123) (by decide +kernel)), rfl⟩
theorem lk_L_191 : zWd (.methodLink RL 191 yL_distanceByImprovement) := ⟨pm_4 _ (List.mem_of_getElem? (i := 124) (by decide +kernel)), rfl⟩
theorem st_L_distanceByImprovement : zWd (.static yL_distanceByImprovement) := ⟨pm_4 _ (List.mem_of_getElem? (i := 125) (by decide +kernel)), rfl⟩
theorem cd_L_distanceByImprovement : zWd (.codeWith yL_distanceByImprovement cL_distanceByImprovement 5 (some .int) [(0, 10, 13, 13), (0, 10, 17, 29)]) := ⟨pm_4 _ (List.mem_of_getElem? (i := 126) (by decide +kernel)), rfl⟩
theorem lk_L_31 : zWd (.methodLink RL 31 yX9_distanceByImprovement) := ⟨pm_4 _ (List.mem_of_getElem? (i := 127) (by decide +kernel)), rfl⟩
theorem im_X9_distanceByImprovement : zWd (.instanceMethod yX9_distanceByImprovement) := ⟨pm_4 _ (List.mem_of_getElem? (i := 128) (by decide +kernel)), rfl⟩
theorem se_X9_X9_distanceByImprovement : zWd (.selects RX9 yX9_distanceByImprovement yX9_distanceByImprovement) := ⟨pm_4 _ (List.mem_of_getElem? (i := 129) (by decide +kernel)), rfl⟩
theorem cd_X9_distanceByImprovement : zWd (.code yX9_distanceByImprovement cX9_distanceByImprovement 3 (some .int)) := ⟨pm_4 _ (List.mem_of_getElem? (i := 130) (by decide +kernel)), rfl⟩
theorem lk_X9_96 : zWd (.methodLink RX9 96 yX5_between) := ⟨pm_4 _ (List.mem_of_getElem? (i := 131) (by decide +kernel)), rfl⟩
theorem lk_L_194 : zWd (.methodLink RL 194 yL_routeAt) := ⟨pm_4 _ (List.mem_of_getElem? (i := 132) (by decide +kernel)), rfl⟩
theorem st_L_routeAt : zWd (.static yL_routeAt) := ⟨pm_4 _ (List.mem_of_getElem? (i := 133) (by decide +kernel)), rfl⟩
theorem cd_L_routeAt : zWd (.codeWith yL_routeAt cL_routeAt 6 (some .int) [(0, 12, 15, 13), (0, 12, 19, 29)]) := ⟨pm_4 _ (List.mem_of_getElem? (i := 134) (by decide +kernel)), rfl⟩
theorem lk_L_34 : zWd (.methodLink RL 34 yX9_routeAt) := ⟨pm_4 _ (List.mem_of_getElem? (i := 135) (by decide +kernel)), rfl⟩
theorem im_X9_routeAt : zWd (.instanceMethod yX9_routeAt) := ⟨pm_4 _ (List.mem_of_getElem? (i := 136) (by decide +kernel)), rfl⟩
theorem se_X9_X9_routeAt : zWd (.selects RX9 yX9_routeAt yX9_routeAt) := ⟨pm_4 _ (List.mem_of_getElem? (i := 137) (by decide +kernel)), rfl⟩
theorem cd_X9_routeAt : zWd (.code yX9_routeAt cX9_routeAt 7 (some .int)) := ⟨pm_4 _ (List.mem_of_getElem? (i := 138) (by decide +kernel)), rfl⟩
theorem lk_X9_101 : (.stringRef RX9 101 "no such position on a route" : Cond) ∈ lw_tbl := pm_4 _ (List.mem_of_getElem? (i := 139) (by decide +kernel))
theorem lk_X9_106 : zWd (.methodLink RX9 106 yX8_nextTowards) := ⟨pm_4 _ (List.mem_of_getElem? (i := 140) (by decide +kernel)), rfl⟩
theorem im_X8_nextTowards : zWd (.instanceMethod yX8_nextTowards) := ⟨pm_4 _ (List.mem_of_getElem? (i := 141) (by decide +kernel)), rfl⟩
theorem se_X8_X8_nextTowards : zWd (.selects RX8 yX8_nextTowards yX8_nextTowards) := ⟨pm_4 _ (List.mem_of_getElem? (i := 142) (by decide +kernel)), rfl⟩
theorem cd_X8_nextTowards : zWd (.code yX8_nextTowards cX8_nextTowards 5 (some .int)) := ⟨pm_4 _ (List.mem_of_getElem? (i := 143) (by decide +kernel)), rfl⟩
theorem lk_X8_46 : zWd (.methodLink RX8 46 yX8_stepsBetween) := ⟨pm_4 _ (List.mem_of_getElem? (i := 144) (by decide +kernel)), rfl⟩
theorem lk_X8_50 : zWd (.methodLink RX8 50 yX8_areNeighbours) := ⟨pm_4 _ (List.mem_of_getElem? (i := 145) (by decide +kernel)), rfl⟩
theorem lk_L_198 : zWd (.methodLink RL 198 yL_reachableLawns) := ⟨pm_4 _ (List.mem_of_getElem? (i := 146) (by decide +kernel)), rfl⟩
theorem st_L_reachableLawns : zWd (.static yL_reachableLawns) := ⟨pm_4 _ (List.mem_of_getElem? (i := 147) (by decide +kernel)), rfl⟩
theorem cd_L_reachableLawns : zWd (.codeWith yL_reachableLawns cL_reachableLawns 4 (some .int) [(0, 9, 12, 13)]) := ⟨pm_4 _ (List.mem_of_getElem? (i := 148) (by decide +kernel)), rfl⟩
theorem lk_L_38 : zWd (.methodLink RL 38 yX9_reachableLawns) := ⟨pm_4 _ (List.mem_of_getElem? (i := 149) (by decide +kernel)), rfl⟩
theorem im_X9_reachableLawns : zWd (.instanceMethod yX9_reachableLawns) := ⟨pm_4 _ (List.mem_of_getElem? (i := 150) (by decide +kernel)), rfl⟩
theorem se_X9_X9_reachableLawns : zWd (.selects RX9 yX9_reachableLawns yX9_reachableLawns) := ⟨pm_4 _ (List.mem_of_getElem? (i := 151) (by decide +kernel)), rfl⟩
theorem cd_X9_reachableLawns : zWd (.code yX9_reachableLawns cX9_reachableLawns 2 (some .int)) := ⟨pm_4 _ (List.mem_of_getElem? (i := 152) (by decide +kernel)), rfl⟩
theorem lk_X9_109 : zWd (.methodLink RX9 109 yX8_countReached) := ⟨pm_4 _ (List.mem_of_getElem? (i := 153) (by decide +kernel)), rfl⟩
theorem im_X8_countReached : zWd (.instanceMethod yX8_countReached) := ⟨pm_4 _ (List.mem_of_getElem? (i := 154) (by decide +kernel)), rfl⟩
theorem se_X8_X8_countReached : zWd (.selects RX8 yX8_countReached yX8_countReached) := ⟨pm_4 _ (List.mem_of_getElem? (i := 155) (by decide +kernel)), rfl⟩
theorem cd_X8_countReached : zWd (.code yX8_countReached cX8_countReached 4 (some .int)) := ⟨pm_4 _ (List.mem_of_getElem? (i := 156) (by decide +kernel)), rfl⟩
theorem lk_X8_41 : zWd (.methodLink RX8 41 yJ6_bitCount_0f7a4) := ⟨pm_4 _ (List.mem_of_getElem? (i := 157) (by decide +kernel)), rfl⟩
theorem st_J6_bitCount_0f7a4 : zWd (.static yJ6_bitCount_0f7a4) := ⟨pm_4 _ (List.mem_of_getElem? (i := 158) (by decide +kernel)), rfl⟩
theorem cd_J6_bitCount_0f7a4 : zWd (.code yJ6_bitCount_0f7a4 cJ6_bitCount_0f7a4 1 (some .int)) := ⟨pm_4 _ (List.mem_of_getElem? (i := 159) (by decide +kernel)), rfl⟩
theorem co_J6_265 : zWd (.constant RJ6 265 1431655765) := ⟨pm_4 _ (List.mem_of_getElem? (i := 160) (by decide +kernel)), rfl⟩
theorem co_J6_266 : zWd (.constant RJ6 266 858993459) := ⟨pm_4 _ (List.mem_of_getElem? (i := 161) (by decide +kernel)), rfl⟩
theorem co_J6_267 : zWd (.constant RJ6 267 252645135) := ⟨pm_4 _ (List.mem_of_getElem? (i := 162) (by decide +kernel)), rfl⟩
theorem lk_L_206 : zWd (.methodLink RL 206 yL_setShade) := ⟨pm_4 _ (List.mem_of_getElem? (i := 163) (by decide +kernel)), rfl⟩
theorem st_L_setShade : zWd (.static yL_setShade) := ⟨pm_4 _ (List.mem_of_getElem? (i := 164) (by decide +kernel)), rfl⟩
theorem cd_L_setShade : zWd (.codeWith yL_setShade cL_setShade 5 (some .int) [(0, 10, 13, 13), (0, 10, 17, 15)]) := ⟨pm_4 _ (List.mem_of_getElem? (i := 165) (by decide +kernel)), rfl⟩
theorem lk_L_42 : zWd (.methodLink RL 42 yX9_setShade) := ⟨pm_4 _ (List.mem_of_getElem? (i := 166) (by decide +kernel)), rfl⟩
theorem im_X9_setShade : zWd (.instanceMethod yX9_setShade) := ⟨pm_4 _ (List.mem_of_getElem? (i := 167) (by decide +kernel)), rfl⟩
theorem se_X9_X9_setShade : zWd (.selects RX9 yX9_setShade yX9_setShade) := ⟨pm_4 _ (List.mem_of_getElem? (i := 168) (by decide +kernel)), rfl⟩
theorem cd_X9_setShade : zWd (.code yX9_setShade cX9_setShade 3 (some .int)) := ⟨pm_4 _ (List.mem_of_getElem? (i := 169) (by decide +kernel)), rfl⟩
theorem lk_L_209 : zWd (.methodLink RL 209 yL_shadeOf) := ⟨pm_4 _ (List.mem_of_getElem? (i := 170) (by decide +kernel)), rfl⟩
theorem st_L_shadeOf : zWd (.static yL_shadeOf) := ⟨pm_4 _ (List.mem_of_getElem? (i := 171) (by decide +kernel)), rfl⟩
theorem cd_L_shadeOf : zWd (.codeWith yL_shadeOf cL_shadeOf 4 (some .int) [(0, 9, 12, 13)]) := ⟨pm_4 _ (List.mem_of_getElem? (i := 172) (by decide +kernel)), rfl⟩
theorem lk_L_45 : zWd (.methodLink RL 45 yX9_shadeOf) := ⟨pm_4 _ (List.mem_of_getElem? (i := 173) (by decide +kernel)), rfl⟩
theorem im_X9_shadeOf : zWd (.instanceMethod yX9_shadeOf) := ⟨pm_4 _ (List.mem_of_getElem? (i := 174) (by decide +kernel)), rfl⟩
theorem se_X9_X9_shadeOf : zWd (.selects RX9 yX9_shadeOf yX9_shadeOf) := ⟨pm_4 _ (List.mem_of_getElem? (i := 175) (by decide +kernel)), rfl⟩
theorem cd_X9_shadeOf : zWd (.code yX9_shadeOf cX9_shadeOf 2 (some .int)) := ⟨pm_4 _ (List.mem_of_getElem? (i := 176) (by decide +kernel)), rfl⟩
theorem lk_X9_119 : zWd (.methodLink RX9 119 yX7_at) := ⟨pm_4 _ (List.mem_of_getElem? (i := 177) (by decide +kernel)), rfl⟩
theorem lk_L_212 : zWd (.methodLink RL 212 yL_addChair) := ⟨pm_4 _ (List.mem_of_getElem? (i := 178) (by decide +kernel)), rfl⟩
theorem st_L_addChair : zWd (.static yL_addChair) := ⟨pm_4 _ (List.mem_of_getElem? (i := 179) (by decide +kernel)), rfl⟩
theorem cd_L_addChair : zWd (.codeWith yL_addChair cL_addChair 5 (some .int) [(0, 10, 13, 13), (0, 10, 17, 15), (0, 10, 21, 17)]) := ⟨pm_4 _ (List.mem_of_getElem? (i := 180) (by decide +kernel)), rfl⟩
theorem lk_L_48 : zWd (.methodLink RL 48 yX9_addChair) := ⟨pm_4 _ (List.mem_of_getElem? (i := 181) (by decide +kernel)), rfl⟩
theorem im_X9_addChair : zWd (.instanceMethod yX9_addChair) := ⟨pm_4 _ (List.mem_of_getElem? (i := 182) (by decide +kernel)), rfl⟩
theorem se_X9_X9_addChair : zWd (.selects RX9 yX9_addChair yX9_addChair) := ⟨pm_4 _ (List.mem_of_getElem? (i := 183) (by decide +kernel)), rfl⟩
theorem cd_X9_addChair : zWd (.code yX9_addChair cX9_addChair 3 (some .int)) := ⟨pm_4 _ (List.mem_of_getElem? (i := 184) (by decide +kernel)), rfl⟩
theorem lk_L_215 : zWd (.methodLink RL 215 yL_scrapChair) := ⟨pm_4 _ (List.mem_of_getElem? (i := 185) (by decide +kernel)), rfl⟩
theorem st_L_scrapChair : zWd (.static yL_scrapChair) := ⟨pm_4 _ (List.mem_of_getElem? (i := 186) (by decide +kernel)), rfl⟩
theorem cd_L_scrapChair : zWd (.codeWith yL_scrapChair cL_scrapChair 4 (some .int) [(0, 9, 12, 13)]) := ⟨pm_4 _ (List.mem_of_getElem? (i := 187) (by decide +kernel)), rfl⟩
theorem lk_L_51 : zWd (.methodLink RL 51 yX9_scrapChair) := ⟨pm_4 _ (List.mem_of_getElem? (i := 188) (by decide +kernel)), rfl⟩
theorem im_X9_scrapChair : zWd (.instanceMethod yX9_scrapChair) := ⟨pm_4 _ (List.mem_of_getElem? (i := 189) (by decide +kernel)), rfl⟩
theorem se_X9_X9_scrapChair : zWd (.selects RX9 yX9_scrapChair yX9_scrapChair) := ⟨pm_4 _ (List.mem_of_getElem? (i := 190) (by decide +kernel)), rfl⟩
theorem cd_X9_scrapChair : zWd (.code yX9_scrapChair cX9_scrapChair 2 (some .int)) := ⟨pm_4 _ (List.mem_of_getElem? (i := 191) (by decide +kernel)), rfl⟩
theorem lk_L_218 : zWd (.methodLink RL 218 yL_fold) := ⟨pm_4 _ (List.mem_of_getElem? (i := 192) (by decide +kernel)), rfl⟩
theorem st_L_fold : zWd (.static yL_fold) := ⟨pm_4 _ (List.mem_of_getElem? (i := 193) (by decide +kernel)), rfl⟩
theorem cd_L_fold : zWd (.codeWith yL_fold cL_fold 4 (some .int) [(0, 9, 12, 13), (0, 9, 15, 17)]) := ⟨pm_4 _ (List.mem_of_getElem? (i := 194) (by decide +kernel)), rfl⟩
theorem lk_L_54 : zWd (.methodLink RL 54 yX9_fold) := ⟨pm_4 _ (List.mem_of_getElem? (i := 195) (by decide +kernel)), rfl⟩
theorem im_X9_fold : zWd (.instanceMethod yX9_fold) := ⟨pm_4 _ (List.mem_of_getElem? (i := 196) (by decide +kernel)), rfl⟩
theorem se_X9_X9_fold : zWd (.selects RX9 yX9_fold yX9_fold) := ⟨pm_4 _ (List.mem_of_getElem? (i := 197) (by decide +kernel)), rfl⟩
theorem cd_X9_fold : zWd (.code yX9_fold cX9_fold 2 (some .int)) := ⟨pm_4 _ (List.mem_of_getElem? (i := 198) (by decide +kernel)), rfl⟩
theorem lk_L_221 : zWd (.methodLink RL 221 yL_unfold) := ⟨pm_4 _ (List.mem_of_getElem? (i := 199) (by decide +kernel)), rfl⟩
theorem st_L_unfold : zWd (.static yL_unfold) := ⟨pm_4 _ (List.mem_of_getElem? (i := 200) (by decide +kernel)), rfl⟩
theorem cd_L_unfold : zWd (.codeWith yL_unfold cL_unfold 4 (some .int) [(0, 9, 12, 13), (0, 9, 15, 17)]) := ⟨pm_4 _ (List.mem_of_getElem? (i := 201) (by decide +kernel)), rfl⟩
theorem lk_L_57 : zWd (.methodLink RL 57 yX9_unfold) := ⟨pm_4 _ (List.mem_of_getElem? (i := 202) (by decide +kernel)), rfl⟩
theorem im_X9_unfold : zWd (.instanceMethod yX9_unfold) := ⟨pm_4 _ (List.mem_of_getElem? (i := 203) (by decide +kernel)), rfl⟩
theorem se_X9_X9_unfold : zWd (.selects RX9 yX9_unfold yX9_unfold) := ⟨pm_4 _ (List.mem_of_getElem? (i := 204) (by decide +kernel)), rfl⟩
theorem cd_X9_unfold : zWd (.code yX9_unfold cX9_unfold 2 (some .int)) := ⟨pm_4 _ (List.mem_of_getElem? (i := 205) (by decide +kernel)), rfl⟩
theorem lk_L_224 : zWd (.methodLink RL 224 yL_moveChair) := ⟨pm_4 _ (List.mem_of_getElem? (i := 206) (by decide +kernel)), rfl⟩
theorem st_L_moveChair : zWd (.static yL_moveChair) := ⟨pm_4 _ (List.mem_of_getElem? (i := 207) (by decide +kernel)), rfl⟩
theorem cd_L_moveChair : zWd (.codeWith yL_moveChair cL_moveChair 5 (some .int) [(0, 10, 13, 13), (0, 10, 17, 17)]) := ⟨pm_4 _ (List.mem_of_getElem? (i := 208) (by decide +kernel)), rfl⟩
theorem lk_L_60 : zWd (.methodLink RL 60 yX9_moveChair) := ⟨pm_4 _ (List.mem_of_getElem? (i := 209) (by decide +kernel)), rfl⟩
theorem im_X9_moveChair : zWd (.instanceMethod yX9_moveChair) := ⟨pm_4 _ (List.mem_of_getElem? (i := 210) (by decide +kernel)), rfl⟩
theorem se_X9_X9_moveChair : zWd (.selects RX9 yX9_moveChair yX9_moveChair) := ⟨pm_4 _ (List.mem_of_getElem? (i := 211) (by decide +kernel)), rfl⟩
theorem cd_X9_moveChair : zWd (.code yX9_moveChair cX9_moveChair 3 (some .int)) := ⟨pm_4 _ (List.mem_of_getElem? (i := 212) (by decide +kernel)), rfl⟩
theorem lk_L_227 : zWd (.methodLink RL 227 yL_migrate) := ⟨pm_4 _ (List.mem_of_getElem? (i := 213) (by decide +kernel)), rfl⟩
theorem st_L_migrate : zWd (.static yL_migrate) := ⟨pm_4 _ (List.mem_of_getElem? (i := 214) (by decide +kernel)), rfl⟩
theorem cd_L_migrate : zWd (.codeWith yL_migrate cL_migrate 5 (some .int) [(0, 10, 13, 13), (0, 10, 17, 17)]) := ⟨pm_4 _ (List.mem_of_getElem? (i := 215) (by decide +kernel)), rfl⟩
theorem lk_L_63 : zWd (.methodLink RL 63 yX9_migrate) := ⟨pm_4 _ (List.mem_of_getElem? (i := 216) (by decide +kernel)), rfl⟩
theorem im_X9_migrate : zWd (.instanceMethod yX9_migrate) := ⟨pm_4 _ (List.mem_of_getElem? (i := 217) (by decide +kernel)), rfl⟩
theorem se_X9_X9_migrate : zWd (.selects RX9 yX9_migrate yX9_migrate) := ⟨pm_4 _ (List.mem_of_getElem? (i := 218) (by decide +kernel)), rfl⟩
theorem cd_X9_migrate : zWd (.code yX9_migrate cX9_migrate 3 (some .int)) := ⟨pm_4 _ (List.mem_of_getElem? (i := 219) (by decide +kernel)), rfl⟩
theorem lk_L_230 : zWd (.methodLink RL 230 yL_oilChair) := ⟨pm_4 _ (List.mem_of_getElem? (i := 220) (by decide +kernel)), rfl⟩
theorem st_L_oilChair : zWd (.static yL_oilChair) := ⟨pm_4 _ (List.mem_of_getElem? (i := 221) (by decide +kernel)), rfl⟩
theorem cd_L_oilChair : zWd (.codeWith yL_oilChair cL_oilChair 4 (some .int) [(0, 9, 12, 13), (0, 9, 15, 17)]) := ⟨pm_4 _ (List.mem_of_getElem? (i := 222) (by decide +kernel)), rfl⟩
theorem lk_L_66 : zWd (.methodLink RL 66 yX9_oilChair) := ⟨pm_4 _ (List.mem_of_getElem? (i := 223) (by decide +kernel)), rfl⟩
theorem im_X9_oilChair : zWd (.instanceMethod yX9_oilChair) := ⟨pm_4 _ (List.mem_of_getElem? (i := 224) (by decide +kernel)), rfl⟩
theorem se_X9_X9_oilChair : zWd (.selects RX9 yX9_oilChair yX9_oilChair) := ⟨pm_4 _ (List.mem_of_getElem? (i := 225) (by decide +kernel)), rfl⟩
theorem cd_X9_oilChair : zWd (.code yX9_oilChair cX9_oilChair 2 (some .int)) := ⟨pm_4 _ (List.mem_of_getElem? (i := 226) (by decide +kernel)), rfl⟩
theorem lk_L_233 : zWd (.methodLink RL 233 yL_addOil) := ⟨pm_4 _ (List.mem_of_getElem? (i := 227) (by decide +kernel)), rfl⟩
theorem st_L_addOil : zWd (.static yL_addOil) := ⟨pm_4 _ (List.mem_of_getElem? (i := 228) (by decide +kernel)), rfl⟩
theorem cd_L_addOil : zWd (.codeWith yL_addOil cL_addOil 4 (some .int) [(0, 9, 12, 15), (0, 9, 15, 17)]) := ⟨pm_4 _ (List.mem_of_getElem? (i := 229) (by decide +kernel)), rfl⟩
theorem lk_L_69 : zWd (.methodLink RL 69 yX9_addOil) := ⟨pm_4 _ (List.mem_of_getElem? (i := 230) (by decide +kernel)), rfl⟩
theorem im_X9_addOil : zWd (.instanceMethod yX9_addOil) := ⟨pm_4 _ (List.mem_of_getElem? (i := 231) (by decide +kernel)), rfl⟩
theorem se_X9_X9_addOil : zWd (.selects RX9 yX9_addOil yX9_addOil) := ⟨pm_4 _ (List.mem_of_getElem? (i := 232) (by decide +kernel)), rfl⟩
theorem cd_X9_addOil : zWd (.code yX9_addOil cX9_addOil 2 (some .int)) := ⟨pm_4 _ (List.mem_of_getElem? (i := 233) (by decide +kernel)), rfl⟩
theorem lk_L_240 : zWd (.methodLink RL 240 yL_lawnOf) := ⟨pm_4 _ (List.mem_of_getElem? (i := 234) (by decide +kernel)), rfl⟩
theorem st_L_lawnOf : zWd (.static yL_lawnOf) := ⟨pm_4 _ (List.mem_of_getElem? (i := 235) (by decide +kernel)), rfl⟩
theorem cd_L_lawnOf : zWd (.codeWith yL_lawnOf cL_lawnOf 4 (some .int) [(0, 9, 12, 13)]) := ⟨pm_4 _ (List.mem_of_getElem? (i := 236) (by decide +kernel)), rfl⟩
theorem lk_L_72 : zWd (.methodLink RL 72 yX9_lawnOf) := ⟨pm_4 _ (List.mem_of_getElem? (i := 237) (by decide +kernel)), rfl⟩
theorem im_X9_lawnOf : zWd (.instanceMethod yX9_lawnOf) := ⟨pm_4 _ (List.mem_of_getElem? (i := 238) (by decide +kernel)), rfl⟩
theorem se_X9_X9_lawnOf : zWd (.selects RX9 yX9_lawnOf yX9_lawnOf) := ⟨pm_4 _ (List.mem_of_getElem? (i := 239) (by decide +kernel)), rfl⟩
theorem cd_X9_lawnOf : zWd (.code yX9_lawnOf cX9_lawnOf 2 (some .int)) := ⟨pm_5 _ (List.mem_of_getElem? (i := 0) (by decide +kernel)), rfl⟩
theorem lk_X9_128 : zWd (.methodLink RX9 128 yX9_demandChair) := ⟨pm_5 _ (List.mem_of_getElem? (i := 1) (by decide +kernel)), rfl⟩
theorem im_X9_demandChair : zWd (.instanceMethod yX9_demandChair) := ⟨pm_5 _ (List.mem_of_getElem? (i := 3) (by decide +kernel)), rfl⟩
theorem cd_X9_demandChair : zWd (.code yX9_demandChair cX9_demandChair 3 (some (.object "ChairMigration$Chair"))) := ⟨pm_5 _ (List.mem_of_getElem? (i := 4) (by decide +kernel)), rfl⟩
theorem lk_X9_334 : (.stringRef RX9 334 "no such chair" : Cond) ∈ lw_tbl := pm_5 _ (List.mem_of_getElem? (i := 5) (by decide +kernel))
theorem lk_L_243 : zWd (.methodLink RL 243 yL_rustOf) := ⟨pm_5 _ (List.mem_of_getElem? (i := 6) (by decide +kernel)), rfl⟩
theorem st_L_rustOf : zWd (.static yL_rustOf) := ⟨pm_5 _ (List.mem_of_getElem? (i := 7) (by decide +kernel)), rfl⟩
theorem cd_L_rustOf : zWd (.codeWith yL_rustOf cL_rustOf 4 (some .int) [(0, 9, 12, 13)]) := ⟨pm_5 _ (List.mem_of_getElem? (i := 8) (by decide +kernel)), rfl⟩
theorem lk_L_75 : zWd (.methodLink RL 75 yX9_rustOf) := ⟨pm_5 _ (List.mem_of_getElem? (i := 9) (by decide +kernel)), rfl⟩
theorem im_X9_rustOf : zWd (.instanceMethod yX9_rustOf) := ⟨pm_5 _ (List.mem_of_getElem? (i := 10) (by decide +kernel)), rfl⟩
theorem se_X9_X9_rustOf : zWd (.selects RX9 yX9_rustOf yX9_rustOf) := ⟨pm_5 _ (List.mem_of_getElem? (i := 11) (by decide +kernel)), rfl⟩
theorem cd_X9_rustOf : zWd (.code yX9_rustOf cX9_rustOf 2 (some .int)) := ⟨pm_5 _ (List.mem_of_getElem? (i := 12) (by decide +kernel)), rfl⟩
theorem lk_L_246 : zWd (.methodLink RL 246 yL_isFolded) := ⟨pm_5 _ (List.mem_of_getElem? (i := 13) (by decide +kernel)), rfl⟩
theorem st_L_isFolded : zWd (.static yL_isFolded) := ⟨pm_5 _ (List.mem_of_getElem? (i := 14) (by decide +kernel)), rfl⟩
theorem cd_L_isFolded : zWd (.codeWith yL_isFolded cL_isFolded 4 (some .int) [(0, 16, 19, 13)]) := ⟨pm_5 _ (List.mem_of_getElem? (i := 15) (by decide +kernel)), rfl⟩
theorem lk_L_78 : zWd (.methodLink RL 78 yX9_isFolded) := ⟨pm_5 _ (List.mem_of_getElem? (i := 16) (by decide +kernel)), rfl⟩
theorem im_X9_isFolded : zWd (.instanceMethod yX9_isFolded) := ⟨pm_5 _ (List.mem_of_getElem? (i := 17) (by decide +kernel)), rfl⟩
theorem se_X9_X9_isFolded : zWd (.selects RX9 yX9_isFolded yX9_isFolded) := ⟨pm_5 _ (List.mem_of_getElem? (i := 18) (by decide +kernel)), rfl⟩
theorem cd_X9_isFolded : zWd (.code yX9_isFolded cX9_isFolded 2 (some .boolean)) := ⟨pm_5 _ (List.mem_of_getElem? (i := 19) (by decide +kernel)), rfl⟩
theorem lk_L_249 : zWd (.methodLink RL 249 yL_ageOf) := ⟨pm_5 _ (List.mem_of_getElem? (i := 20) (by decide +kernel)), rfl⟩
theorem st_L_ageOf : zWd (.static yL_ageOf) := ⟨pm_5 _ (List.mem_of_getElem? (i := 21) (by decide +kernel)), rfl⟩
theorem cd_L_ageOf : zWd (.codeWith yL_ageOf cL_ageOf 4 (some .int) [(0, 9, 12, 13)]) := ⟨pm_5 _ (List.mem_of_getElem? (i := 22) (by decide +kernel)), rfl⟩
theorem lk_L_82 : zWd (.methodLink RL 82 yX9_ageOf) := ⟨pm_5 _ (List.mem_of_getElem? (i := 23) (by decide +kernel)), rfl⟩
theorem im_X9_ageOf : zWd (.instanceMethod yX9_ageOf) := ⟨pm_5 _ (List.mem_of_getElem? (i := 24) (by decide +kernel)), rfl⟩
theorem se_X9_X9_ageOf : zWd (.selects RX9 yX9_ageOf yX9_ageOf) := ⟨pm_5 _ (List.mem_of_getElem? (i := 25) (by decide +kernel)), rfl⟩
theorem cd_X9_ageOf : zWd (.code yX9_ageOf cX9_ageOf 2 (some .int)) := ⟨pm_5 _ (List.mem_of_getElem? (i := 26) (by decide +kernel)), rfl⟩
theorem lk_L_252 : zWd (.methodLink RL 252 yL_positionOf) := ⟨pm_5 _ (List.mem_of_getElem? (i := 27) (by decide +kernel)), rfl⟩
theorem st_L_positionOf : zWd (.static yL_positionOf) := ⟨pm_5 _ (List.mem_of_getElem? (i := 28) (by decide +kernel)), rfl⟩
theorem cd_L_positionOf : zWd (.codeWith yL_positionOf cL_positionOf 4 (some .int) [(0, 9, 12, 13)]) := ⟨pm_5 _ (List.mem_of_getElem? (i := 29) (by decide +kernel)), rfl⟩
theorem lk_L_85 : zWd (.methodLink RL 85 yX9_positionOf) := ⟨pm_5 _ (List.mem_of_getElem? (i := 30) (by decide +kernel)), rfl⟩
theorem im_X9_positionOf : zWd (.instanceMethod yX9_positionOf) := ⟨pm_5 _ (List.mem_of_getElem? (i := 31) (by decide +kernel)), rfl⟩
theorem se_X9_X9_positionOf : zWd (.selects RX9 yX9_positionOf yX9_positionOf) := ⟨pm_5 _ (List.mem_of_getElem? (i := 32) (by decide +kernel)), rfl⟩
theorem cd_X9_positionOf : zWd (.code yX9_positionOf cX9_positionOf 2 (some .int)) := ⟨pm_5 _ (List.mem_of_getElem? (i := 33) (by decide +kernel)), rfl⟩
theorem lk_X9_149 : zWd (.methodLink RX9 149 yX3_placeInHerd) := ⟨pm_5 _ (List.mem_of_getElem? (i := 34) (by decide +kernel)), rfl⟩
theorem im_X3_placeInHerd : zWd (.instanceMethod yX3_placeInHerd) := ⟨pm_5 _ (List.mem_of_getElem? (i := 35) (by decide +kernel)), rfl⟩
theorem se_X3_X3_placeInHerd : zWd (.selects RX3 yX3_placeInHerd yX3_placeInHerd) := ⟨pm_5 _ (List.mem_of_getElem? (i := 36) (by decide +kernel)), rfl⟩
theorem cd_X3_placeInHerd : zWd (.code yX3_placeInHerd cX3_placeInHerd 4 (some .int)) := ⟨pm_5 _ (List.mem_of_getElem? (i := 37) (by decide +kernel)), rfl⟩
theorem lk_L_255 : zWd (.methodLink RL 255 yL_herdSize) := ⟨pm_5 _ (List.mem_of_getElem? (i := 38) (by decide +kernel)), rfl⟩
theorem st_L_herdSize : zWd (.static yL_herdSize) := ⟨pm_5 _ (List.mem_of_getElem? (i := 39) (by decide +kernel)), rfl⟩
theorem cd_L_herdSize : zWd (.codeWith yL_herdSize cL_herdSize 4 (some .int) [(0, 9, 12, 13)]) := ⟨pm_5 _ (List.mem_of_getElem? (i := 40) (by decide +kernel)), rfl⟩
theorem lk_L_88 : zWd (.methodLink RL 88 yX9_herdSize) := ⟨pm_5 _ (List.mem_of_getElem? (i := 41) (by decide +kernel)), rfl⟩
theorem im_X9_herdSize : zWd (.instanceMethod yX9_herdSize) := ⟨pm_5 _ (List.mem_of_getElem? (i := 42) (by decide +kernel)), rfl⟩
theorem se_X9_X9_herdSize : zWd (.selects RX9 yX9_herdSize yX9_herdSize) := ⟨pm_5 _ (List.mem_of_getElem? (i := 43) (by decide +kernel)), rfl⟩
theorem cd_X9_herdSize : zWd (.code yX9_herdSize cX9_herdSize 2 (some .int)) := ⟨pm_5 _ (List.mem_of_getElem? (i := 44) (by decide +kernel)), rfl⟩
theorem lk_L_258 : zWd (.methodLink RL 258 yL_herdSizeByChairs) := ⟨pm_5 _ (List.mem_of_getElem? (i := 45) (by decide +kernel)), rfl⟩
theorem st_L_herdSizeByChairs : zWd (.static yL_herdSizeByChairs) := ⟨pm_5 _ (List.mem_of_getElem? (i := 46) (by decide +kernel)), rfl⟩
theorem cd_L_herdSizeByChairs : zWd (.codeWith yL_herdSizeByChairs cL_herdSizeByChairs 4 (some .int) [(0, 9, 12, 13)]) := ⟨pm_5 _ (List.mem_of_getElem? (i := 47) (by decide +kernel)), rfl⟩
theorem lk_L_91 : zWd (.methodLink RL 91 yX9_herdSizeByChairs) := ⟨pm_5 _ (List.mem_of_getElem? (i := 48) (by decide +kernel)), rfl⟩
theorem im_X9_herdSizeByChairs : zWd (.instanceMethod yX9_herdSizeByChairs) := ⟨pm_5 _ (List.mem_of_getElem? (i := 49) (by decide +kernel)), rfl⟩
theorem se_X9_X9_herdSizeByChairs : zWd (.selects RX9 yX9_herdSizeByChairs yX9_herdSizeByChairs) := ⟨pm_5 _ (List.mem_of_getElem? (i := 50) (by decide +kernel)), rfl⟩
theorem cd_X9_herdSizeByChairs : zWd (.code yX9_herdSizeByChairs cX9_herdSizeByChairs 2 (some .int)) := ⟨pm_5 _ (List.mem_of_getElem? (i := 51) (by decide +kernel)), rfl⟩
theorem lk_X9_156 : zWd (.methodLink RX9 156 yX3_countChairsOn) := ⟨pm_5 _ (List.mem_of_getElem? (i := 52) (by decide +kernel)), rfl⟩
theorem lk_L_261 : zWd (.methodLink RL 261 yL_chairAt) := ⟨pm_5 _ (List.mem_of_getElem? (i := 53) (by decide +kernel)), rfl⟩
theorem st_L_chairAt : zWd (.static yL_chairAt) := ⟨pm_5 _ (List.mem_of_getElem? (i := 54) (by decide +kernel)), rfl⟩
theorem cd_L_chairAt : zWd (.codeWith yL_chairAt cL_chairAt 5 (some .int) [(0, 10, 13, 13), (0, 10, 17, 29)]) := ⟨pm_5 _ (List.mem_of_getElem? (i := 55) (by decide +kernel)), rfl⟩
theorem lk_L_94 : zWd (.methodLink RL 94 yX9_chairAt) := ⟨pm_5 _ (List.mem_of_getElem? (i := 56) (by decide +kernel)), rfl⟩
theorem im_X9_chairAt : zWd (.instanceMethod yX9_chairAt) := ⟨pm_5 _ (List.mem_of_getElem? (i := 57) (by decide +kernel)), rfl⟩
theorem se_X9_X9_chairAt : zWd (.selects RX9 yX9_chairAt yX9_chairAt) := ⟨pm_5 _ (List.mem_of_getElem? (i := 58) (by decide +kernel)), rfl⟩
theorem cd_X9_chairAt : zWd (.code yX9_chairAt cX9_chairAt 3 (some .int)) := ⟨pm_5 _ (List.mem_of_getElem? (i := 59) (by decide +kernel)), rfl⟩
theorem lk_X9_159 : zWd (.methodLink RX9 159 yX3_idInHerd) := ⟨pm_5 _ (List.mem_of_getElem? (i := 60) (by decide +kernel)), rfl⟩
theorem im_X3_idInHerd : zWd (.instanceMethod yX3_idInHerd) := ⟨pm_5 _ (List.mem_of_getElem? (i := 61) (by decide +kernel)), rfl⟩
theorem se_X3_X3_idInHerd : zWd (.selects RX3 yX3_idInHerd yX3_idInHerd) := ⟨pm_5 _ (List.mem_of_getElem? (i := 62) (by decide +kernel)), rfl⟩
theorem cd_X3_idInHerd : zWd (.code yX3_idInHerd cX3_idInHerd 4 (some .int)) := ⟨pm_5 _ (List.mem_of_getElem? (i := 63) (by decide +kernel)), rfl⟩
theorem lk_L_264 : zWd (.methodLink RL 264 yL_elderOf) := ⟨pm_5 _ (List.mem_of_getElem? (i := 64) (by decide +kernel)), rfl⟩
theorem st_L_elderOf : zWd (.static yL_elderOf) := ⟨pm_5 _ (List.mem_of_getElem? (i := 65) (by decide +kernel)), rfl⟩
theorem cd_L_elderOf : zWd (.codeWith yL_elderOf cL_elderOf 4 (some .int) [(0, 9, 12, 13), (0, 9, 15, 29)]) := ⟨pm_5 _ (List.mem_of_getElem? (i := 66) (by decide +kernel)), rfl⟩
theorem lk_L_97 : zWd (.methodLink RL 97 yX9_elderOf) := ⟨pm_5 _ (List.mem_of_getElem? (i := 67) (by decide +kernel)), rfl⟩
theorem im_X9_elderOf : zWd (.instanceMethod yX9_elderOf) := ⟨pm_5 _ (List.mem_of_getElem? (i := 68) (by decide +kernel)), rfl⟩
theorem se_X9_X9_elderOf : zWd (.selects RX9 yX9_elderOf yX9_elderOf) := ⟨pm_5 _ (List.mem_of_getElem? (i := 69) (by decide +kernel)), rfl⟩
theorem cd_X9_elderOf : zWd (.code yX9_elderOf cX9_elderOf 2 (some .int)) := ⟨pm_5 _ (List.mem_of_getElem? (i := 70) (by decide +kernel)), rfl⟩
theorem lk_X9_162 : zWd (.methodLink RX9 162 yX3_idOfElder) := ⟨pm_5 _ (List.mem_of_getElem? (i := 71) (by decide +kernel)), rfl⟩
theorem im_X3_idOfElder : zWd (.instanceMethod yX3_idOfElder) := ⟨pm_5 _ (List.mem_of_getElem? (i := 72) (by decide +kernel)), rfl⟩
theorem se_X3_X3_idOfElder : zWd (.selects RX3 yX3_idOfElder yX3_idOfElder) := ⟨pm_5 _ (List.mem_of_getElem? (i := 73) (by decide +kernel)), rfl⟩
theorem cd_X3_idOfElder : zWd (.code yX3_idOfElder cX3_idOfElder 5 (some .int)) := ⟨pm_5 _ (List.mem_of_getElem? (i := 74) (by decide +kernel)), rfl⟩
theorem lk_X3_181 : zWd (.methodLink RX3 181 yX0_isElderThan) := ⟨pm_5 _ (List.mem_of_getElem? (i := 75) (by decide +kernel)), rfl⟩
theorem im_X0_isElderThan : zWd (.instanceMethod yX0_isElderThan) := ⟨pm_5 _ (List.mem_of_getElem? (i := 76) (by decide +kernel)), rfl⟩
theorem se_X0_X0_isElderThan : zWd (.selects RX0 yX0_isElderThan yX0_isElderThan) := ⟨pm_5 _ (List.mem_of_getElem? (i := 77) (by decide +kernel)), rfl⟩
theorem cd_X0_isElderThan : zWd (.code yX0_isElderThan cX0_isElderThan 2 (some .boolean)) := ⟨pm_5 _ (List.mem_of_getElem? (i := 78) (by decide +kernel)), rfl⟩
theorem lk_L_267 : zWd (.methodLink RL 267 yL_hungryChairs) := ⟨pm_5 _ (List.mem_of_getElem? (i := 79) (by decide +kernel)), rfl⟩
theorem st_L_hungryChairs : zWd (.static yL_hungryChairs) := ⟨pm_5 _ (List.mem_of_getElem? (i := 80) (by decide +kernel)), rfl⟩
theorem cd_L_hungryChairs : zWd (.codeWith yL_hungryChairs cL_hungryChairs 4 (some .int) [(0, 9, 12, 13)]) := ⟨pm_5 _ (List.mem_of_getElem? (i := 81) (by decide +kernel)), rfl⟩
theorem lk_L_100 : zWd (.methodLink RL 100 yX9_hungryChairs) := ⟨pm_5 _ (List.mem_of_getElem? (i := 82) (by decide +kernel)), rfl⟩
theorem im_X9_hungryChairs : zWd (.instanceMethod yX9_hungryChairs) := ⟨pm_5 _ (List.mem_of_getElem? (i := 83) (by decide +kernel)), rfl⟩
theorem se_X9_X9_hungryChairs : zWd (.selects RX9 yX9_hungryChairs yX9_hungryChairs) := ⟨pm_5 _ (List.mem_of_getElem? (i := 84) (by decide +kernel)), rfl⟩
theorem cd_X9_hungryChairs : zWd (.code yX9_hungryChairs cX9_hungryChairs 2 (some .int)) := ⟨pm_5 _ (List.mem_of_getElem? (i := 85) (by decide +kernel)), rfl⟩
theorem lk_X9_165 : zWd (.methodLink RX9 165 yX3_countGrazingOn) := ⟨pm_5 _ (List.mem_of_getElem? (i := 86) (by decide +kernel)), rfl⟩
theorem lk_X9_168 : zWd (.methodLink RX9 168 Lib.Math.max.name) := ⟨pm_5 _ (List.mem_of_getElem? (i := 87) (by decide +kernel)), rfl⟩
theorem lk_L_270 : zWd (.methodLink RL 270 yL_bestNeighbour) := ⟨pm_5 _ (List.mem_of_getElem? (i := 88) (by decide +kernel)), rfl⟩
theorem st_L_bestNeighbour : zWd (.static yL_bestNeighbour) := ⟨pm_5 _ (List.mem_of_getElem? (i := 89) (by decide +kernel)), rfl⟩
theorem cd_L_bestNeighbour : zWd (.codeWith yL_bestNeighbour cL_bestNeighbour 4 (some .int) [(0, 9, 12, 13), (0, 9, 15, 29)]) := ⟨pm_5 _ (List.mem_of_getElem? (i := 90) (by decide +kernel)), rfl⟩
theorem lk_L_103 : zWd (.methodLink RL 103 yX9_bestNeighbour) := ⟨pm_5 _ (List.mem_of_getElem? (i := 91) (by decide +kernel)), rfl⟩
theorem im_X9_bestNeighbour : zWd (.instanceMethod yX9_bestNeighbour) := ⟨pm_5 _ (List.mem_of_getElem? (i := 92) (by decide +kernel)), rfl⟩
theorem se_X9_X9_bestNeighbour : zWd (.selects RX9 yX9_bestNeighbour yX9_bestNeighbour) := ⟨pm_5 _ (List.mem_of_getElem? (i := 93) (by decide +kernel)), rfl⟩
theorem cd_X9_bestNeighbour : zWd (.code yX9_bestNeighbour cX9_bestNeighbour 2 (some .int)) := ⟨pm_5 _ (List.mem_of_getElem? (i := 94) (by decide +kernel)), rfl⟩
theorem lk_X9_173 : zWd (.methodLink RX9 173 yX3_shadiestNeighbour) := ⟨pm_5 _ (List.mem_of_getElem? (i := 95) (by decide +kernel)), rfl⟩
theorem im_X3_shadiestNeighbour : zWd (.instanceMethod yX3_shadiestNeighbour) := ⟨pm_5 _ (List.mem_of_getElem? (i := 96) (by decide +kernel)), rfl⟩
theorem se_X3_X3_shadiestNeighbour : zWd (.selects RX3 yX3_shadiestNeighbour yX3_shadiestNeighbour) := ⟨pm_5 _ (List.mem_of_getElem? (i := 97) (by decide +kernel)), rfl⟩
theorem cd_X3_shadiestNeighbour : zWd (.code yX3_shadiestNeighbour cX3_shadiestNeighbour 4 (some .int)) := ⟨pm_5 _ (List.mem_of_getElem? (i := 98) (by decide +kernel)), rfl⟩
theorem lk_X3_199 : zWd (.methodLink RX3 199 yX8_areNeighbours) := ⟨pm_5 _ (List.mem_of_getElem? (i := 99) (by decide +kernel)), rfl⟩
theorem lk_X3_195 : zWd (.methodLink RX3 195 yX3_isBetter) := ⟨pm_5 _ (List.mem_of_getElem? (i := 100) (by decide +kernel)), rfl⟩
theorem im_X3_isBetter : zWd (.instanceMethod yX3_isBetter) := ⟨pm_5 _ (List.mem_of_getElem? (i := 102) (by decide +kernel)), rfl⟩
theorem cd_X3_isBetter : zWd (.code yX3_isBetter cX3_isBetter 3 (some .boolean)) := ⟨pm_5 _ (List.mem_of_getElem? (i := 103) (by decide +kernel)), rfl⟩
theorem lk_L_273 : zWd (.methodLink RL 273 yL_passDays) := ⟨pm_5 _ (List.mem_of_getElem? (i := 104) (by decide +kernel)), rfl⟩
theorem st_L_passDays : zWd (.static yL_passDays) := ⟨pm_5 _ (List.mem_of_getElem? (i := 105) (by decide +kernel)), rfl⟩
theorem cd_L_passDays : zWd (.codeWith yL_passDays cL_passDays 4 (some .int) [(0, 9, 12, 15)]) := ⟨pm_5 _ (List.mem_of_getElem? (i := 106) (by decide +kernel)), rfl⟩
theorem lk_L_106 : zWd (.methodLink RL 106 yX9_passDays) := ⟨pm_5 _ (List.mem_of_getElem? (i := 107) (by decide +kernel)), rfl⟩
theorem im_X9_passDays : zWd (.instanceMethod yX9_passDays) := ⟨pm_5 _ (List.mem_of_getElem? (i := 108) (by decide +kernel)), rfl⟩
theorem se_X9_X9_passDays : zWd (.selects RX9 yX9_passDays yX9_passDays) := ⟨pm_5 _ (List.mem_of_getElem? (i := 109) (by decide +kernel)), rfl⟩
theorem cd_X9_passDays : zWd (.code yX9_passDays cX9_passDays 2 (some .int)) := ⟨pm_5 _ (List.mem_of_getElem? (i := 110) (by decide +kernel)), rfl⟩
theorem lk_L_284 : zWd (.methodLink RL 284 yL_daysUntil) := ⟨pm_5 _ (List.mem_of_getElem? (i := 111) (by decide +kernel)), rfl⟩
theorem st_L_daysUntil : zWd (.static yL_daysUntil) := ⟨pm_5 _ (List.mem_of_getElem? (i := 112) (by decide +kernel)), rfl⟩
theorem cd_L_daysUntil : zWd (.codeWith yL_daysUntil cL_daysUntil 4 (some .int) [(0, 9, 12, 15)]) := ⟨pm_5 _ (List.mem_of_getElem? (i := 113) (by decide +kernel)), rfl⟩
theorem lk_L_109 : zWd (.methodLink RL 109 yX9_daysUntil) := ⟨pm_5 _ (List.mem_of_getElem? (i := 114) (by decide +kernel)), rfl⟩
theorem im_X9_daysUntil : zWd (.instanceMethod yX9_daysUntil) := ⟨pm_5 _ (List.mem_of_getElem? (i := 115) (by decide +kernel)), rfl⟩
theorem se_X9_X9_daysUntil : zWd (.selects RX9 yX9_daysUntil yX9_daysUntil) := ⟨pm_5 _ (List.mem_of_getElem? (i := 116) (by decide +kernel)), rfl⟩
theorem cd_X9_daysUntil : zWd (.code yX9_daysUntil cX9_daysUntil 3 (some .int)) := ⟨pm_5 _ (List.mem_of_getElem? (i := 117) (by decide +kernel)), rfl⟩
theorem lk_X9_182 : (.stringRef RX9 182 "no such season" : Cond) ∈ lw_tbl := pm_5 _ (List.mem_of_getElem? (i := 118) (by decide +kernel))
theorem lk_L_287 : zWd (.methodLink RL 287 yL_wouldCollapse) := ⟨pm_5 _ (List.mem_of_getElem? (i := 119) (by decide +kernel)), rfl⟩
theorem st_L_wouldCollapse : zWd (.static yL_wouldCollapse) := ⟨pm_5 _ (List.mem_of_getElem? (i := 120) (by decide +kernel)), rfl⟩
theorem cd_L_wouldCollapse : zWd (.codeWith yL_wouldCollapse cL_wouldCollapse 4 (some .int) [(0, 9, 12, 15)]) := ⟨pm_5 _ (List.mem_of_getElem? (i := 121) (by decide +kernel)), rfl⟩
theorem lk_L_112 : zWd (.methodLink RL 112 yX9_wouldCollapse) := ⟨pm_5 _ (List.mem_of_getElem? (i := 122) (by decide +kernel)), rfl⟩
theorem im_X9_wouldCollapse : zWd (.instanceMethod yX9_wouldCollapse) := ⟨pm_5 _ (List.mem_of_getElem? (i := 123) (by decide +kernel)), rfl⟩
theorem se_X9_X9_wouldCollapse : zWd (.selects RX9 yX9_wouldCollapse yX9_wouldCollapse) := ⟨pm_5 _ (List.mem_of_getElem? (i := 124) (by decide +kernel)), rfl⟩
theorem cd_X9_wouldCollapse : zWd (.code yX9_wouldCollapse cX9_wouldCollapse 2 (some .int)) := ⟨pm_5 _ (List.mem_of_getElem? (i := 125) (by decide +kernel)), rfl⟩
theorem lk_X9_185 : zWd (.methodLink RX9 185 yX9_areDays) := ⟨pm_5 _ (List.mem_of_getElem? (i := 126) (by decide +kernel)), rfl⟩
theorem lk_X9_189 : (.stringRef RX9 189 "days out of range" : Cond) ∈ lw_tbl := pm_5 _ (List.mem_of_getElem? (i := 127) (by decide +kernel))
theorem lk_X9_195 : zWd (.methodLink RX9 195 yX3_pass) := ⟨pm_5 _ (List.mem_of_getElem? (i := 128) (by decide +kernel)), rfl⟩
theorem lk_L_290 : zWd (.methodLink RL 290 yL_collapseDay) := ⟨pm_5 _ (List.mem_of_getElem? (i := 129) (by decide +kernel)), rfl⟩
theorem st_L_collapseDay : zWd (.static yL_collapseDay) := ⟨pm_5 _ (List.mem_of_getElem? (i := 130) (by decide +kernel)), rfl⟩
theorem cd_L_collapseDay : zWd (.codeWith yL_collapseDay cL_collapseDay 4 (some .int) [(0, 9, 12, 13), (0, 9, 15, 29)]) := ⟨pm_5 _ (List.mem_of_getElem? (i := 131) (by decide +kernel)), rfl⟩
theorem lk_L_115 : zWd (.methodLink RL 115 yX9_collapseDay) := ⟨pm_5 _ (List.mem_of_getElem? (i := 132) (by decide +kernel)), rfl⟩
theorem im_X9_collapseDay : zWd (.instanceMethod yX9_collapseDay) := ⟨pm_5 _ (List.mem_of_getElem? (i := 133) (by decide +kernel)), rfl⟩
theorem se_X9_X9_collapseDay : zWd (.selects RX9 yX9_collapseDay yX9_collapseDay) := ⟨pm_5 _ (List.mem_of_getElem? (i := 134) (by decide +kernel)), rfl⟩
theorem cd_X9_collapseDay : zWd (.code yX9_collapseDay cX9_collapseDay 3 (some .int)) := ⟨pm_5 _ (List.mem_of_getElem? (i := 135) (by decide +kernel)), rfl⟩
theorem lk_X9_198 : zWd (.methodLink RX9 198 yX3_passOneDay) := ⟨pm_5 _ (List.mem_of_getElem? (i := 136) (by decide +kernel)), rfl⟩
theorem lk_X9_201 : (.stringRef RX9 201 "no collapse within the days of the forecast" : Cond) ∈ lw_tbl := pm_5 _ (List.mem_of_getElem? (i := 137) (by decide +kernel))
theorem lk_L_329 : zWd (.methodLink RL 329 yL_chairByRust) := ⟨pm_5 _ (List.mem_of_getElem? (i := 138) (by decide +kernel)), rfl⟩
theorem st_L_chairByRust : zWd (.static yL_chairByRust) := ⟨pm_5 _ (List.mem_of_getElem? (i := 139) (by decide +kernel)), rfl⟩
theorem cd_L_chairByRust : zWd (.codeWith yL_chairByRust cL_chairByRust 4 (some .int) [(0, 9, 12, 29)]) := ⟨pm_5 _ (List.mem_of_getElem? (i := 140) (by decide +kernel)), rfl⟩
theorem lk_L_118 : zWd (.methodLink RL 118 yX9_chairByRust) := ⟨pm_5 _ (List.mem_of_getElem? (i := 141) (by decide +kernel)), rfl⟩
theorem im_X9_chairByRust : zWd (.instanceMethod yX9_chairByRust) := ⟨pm_5 _ (List.mem_of_getElem? (i := 142) (by decide +kernel)), rfl⟩
theorem se_X9_X9_chairByRust : zWd (.selects RX9 yX9_chairByRust yX9_chairByRust) := ⟨pm_5 _ (List.mem_of_getElem? (i := 143) (by decide +kernel)), rfl⟩
theorem cd_X9_chairByRust : zWd (.code yX9_chairByRust cX9_chairByRust 2 (some .int)) := ⟨pm_5 _ (List.mem_of_getElem? (i := 144) (by decide +kernel)), rfl⟩
theorem lk_X9_230 : zWd (.methodLink RX9 230 yX3_idAtRank) := ⟨pm_5 _ (List.mem_of_getElem? (i := 145) (by decide +kernel)), rfl⟩
theorem im_X3_idAtRank : zWd (.instanceMethod yX3_idAtRank) := ⟨pm_5 _ (List.mem_of_getElem? (i := 146) (by decide +kernel)), rfl⟩
theorem se_X3_X3_idAtRank : zWd (.selects RX3 yX3_idAtRank yX3_idAtRank) := ⟨pm_5 _ (List.mem_of_getElem? (i := 147) (by decide +kernel)), rfl⟩
theorem cd_X3_idAtRank : zWd (.code yX3_idAtRank cX3_idAtRank 3 (some .int)) := ⟨pm_5 _ (List.mem_of_getElem? (i := 148) (by decide +kernel)), rfl⟩
theorem lk_X3_185 : zWd (.methodLink RX3 185 yX3_rankOf) := ⟨pm_5 _ (List.mem_of_getElem? (i := 149) (by decide +kernel)), rfl⟩
theorem im_X3_rankOf : zWd (.instanceMethod yX3_rankOf) := ⟨pm_5 _ (List.mem_of_getElem? (i := 151) (by decide +kernel)), rfl⟩
theorem cd_X3_rankOf : zWd (.code yX3_rankOf cX3_rankOf 4 (some .int)) := ⟨pm_5 _ (List.mem_of_getElem? (i := 152) (by decide +kernel)), rfl⟩
theorem lk_X3_189 : zWd (.methodLink RX3 189 yX0_rustsAheadOf) := ⟨pm_5 _ (List.mem_of_getElem? (i := 153) (by decide +kernel)), rfl⟩
theorem im_X0_rustsAheadOf : zWd (.instanceMethod yX0_rustsAheadOf) := ⟨pm_5 _ (List.mem_of_getElem? (i := 154) (by decide +kernel)), rfl⟩
theorem se_X0_X0_rustsAheadOf : zWd (.selects RX0 yX0_rustsAheadOf yX0_rustsAheadOf) := ⟨pm_5 _ (List.mem_of_getElem? (i := 155) (by decide +kernel)), rfl⟩
theorem cd_X0_rustsAheadOf : zWd (.code yX0_rustsAheadOf cX0_rustsAheadOf 2 (some .boolean)) := ⟨pm_5 _ (List.mem_of_getElem? (i := 156) (by decide +kernel)), rfl⟩
theorem lk_X0_26 : zWd (.methodLink RX0 26 yX0_isElderThan) := ⟨pm_5 _ (List.mem_of_getElem? (i := 157) (by decide +kernel)), rfl⟩
theorem lk_L_332 : zWd (.methodLink RL 332 yL_lawnByShade) := ⟨pm_5 _ (List.mem_of_getElem? (i := 158) (by decide +kernel)), rfl⟩
theorem st_L_lawnByShade : zWd (.static yL_lawnByShade) := ⟨pm_5 _ (List.mem_of_getElem? (i := 159) (by decide +kernel)), rfl⟩
theorem cd_L_lawnByShade : zWd (.codeWith yL_lawnByShade cL_lawnByShade 4 (some .int) [(0, 9, 12, 29)]) := ⟨pm_5 _ (List.mem_of_getElem? (i := 160) (by decide +kernel)), rfl⟩
theorem lk_L_121 : zWd (.methodLink RL 121 yX9_lawnByShade) := ⟨pm_5 _ (List.mem_of_getElem? (i := 161) (by decide +kernel)), rfl⟩
theorem im_X9_lawnByShade : zWd (.instanceMethod yX9_lawnByShade) := ⟨pm_5 _ (List.mem_of_getElem? (i := 162) (by decide +kernel)), rfl⟩
theorem se_X9_X9_lawnByShade : zWd (.selects RX9 yX9_lawnByShade yX9_lawnByShade) := ⟨pm_5 _ (List.mem_of_getElem? (i := 163) (by decide +kernel)), rfl⟩
theorem cd_X9_lawnByShade : zWd (.code yX9_lawnByShade cX9_lawnByShade 2 (some .int)) := ⟨pm_5 _ (List.mem_of_getElem? (i := 164) (by decide +kernel)), rfl⟩
theorem lk_X9_233 : zWd (.methodLink RX9 233 yX3_lawnAtRank) := ⟨pm_5 _ (List.mem_of_getElem? (i := 165) (by decide +kernel)), rfl⟩
theorem im_X3_lawnAtRank : zWd (.instanceMethod yX3_lawnAtRank) := ⟨pm_5 _ (List.mem_of_getElem? (i := 166) (by decide +kernel)), rfl⟩
theorem se_X3_X3_lawnAtRank : zWd (.selects RX3 yX3_lawnAtRank yX3_lawnAtRank) := ⟨pm_5 _ (List.mem_of_getElem? (i := 167) (by decide +kernel)), rfl⟩
theorem cd_X3_lawnAtRank : zWd (.code yX3_lawnAtRank cX3_lawnAtRank 3 (some .int)) := ⟨pm_5 _ (List.mem_of_getElem? (i := 168) (by decide +kernel)), rfl⟩
theorem lk_X3_192 : zWd (.methodLink RX3 192 yX3_rankOfLawn) := ⟨pm_5 _ (List.mem_of_getElem? (i := 169) (by decide +kernel)), rfl⟩
theorem im_X3_rankOfLawn : zWd (.instanceMethod yX3_rankOfLawn) := ⟨pm_5 _ (List.mem_of_getElem? (i := 171) (by decide +kernel)), rfl⟩
theorem cd_X3_rankOfLawn : zWd (.code yX3_rankOfLawn cX3_rankOfLawn 4 (some .int)) := ⟨pm_5 _ (List.mem_of_getElem? (i := 172) (by decide +kernel)), rfl⟩
theorem lk_L_335 : zWd (.methodLink RL 335 yL_meanRust) := ⟨pm_5 _ (List.mem_of_getElem? (i := 173) (by decide +kernel)), rfl⟩
theorem st_L_meanRust : zWd (.static yL_meanRust) := ⟨pm_5 _ (List.mem_of_getElem? (i := 174) (by decide +kernel)), rfl⟩
theorem cd_L_meanRust : zWd (.codeWith yL_meanRust cL_meanRust 3 (some .int) [(0, 7, 10, 128)]) := ⟨pm_5 _ (List.mem_of_getElem? (i := 175) (by decide +kernel)), rfl⟩
theorem lk_L_128 : zWd (.classLink RL 128 "java/lang/ArithmeticException") := ⟨pm_5 _ (List.mem_of_getElem? (i := 176) (by decide +kernel)), rfl⟩
theorem it_java_lang_ArithmeticException : zWd (.instantiable "java/lang/ArithmeticException" 6) := ⟨pm_5 _ (List.mem_of_getElem? (i := 177) (by decide +kernel)), rfl⟩
theorem ly_java_lang_ArithmeticException_backtrace : zWd (.lays "java/lang/ArithmeticException" "java/lang/Throwable" "backtrace" "Ljava/lang/Object;") := ⟨pm_5 _ (List.mem_of_getElem? (i := 181) (by decide +kernel)), rfl⟩
theorem ly_java_lang_ArithmeticException_detailMessage : zWd (.lays "java/lang/ArithmeticException" "java/lang/Throwable" "detailMessage" "Ljava/lang/String;") := ⟨pm_5 _ (List.mem_of_getElem? (i := 182) (by decide +kernel)), rfl⟩
theorem ly_java_lang_ArithmeticException_cause : zWd (.lays "java/lang/ArithmeticException" "java/lang/Throwable" "cause" "Ljava/lang/Throwable;") := ⟨pm_5 _ (List.mem_of_getElem? (i := 183) (by decide +kernel)), rfl⟩
theorem ly_java_lang_ArithmeticException_stackTrace : zWd (.lays "java/lang/ArithmeticException" "java/lang/Throwable" "stackTrace" "[Ljava/lang/StackTraceElement;") := ⟨pm_5 _ (List.mem_of_getElem? (i := 184) (by decide +kernel)), rfl⟩
theorem ly_java_lang_ArithmeticException_depth : zWd (.lays "java/lang/ArithmeticException" "java/lang/Throwable" "depth" "I") := ⟨pm_5 _ (List.mem_of_getElem? (i := 185) (by decide +kernel)), rfl⟩
theorem ly_java_lang_ArithmeticException_suppressedExceptions : zWd (.lays "java/lang/ArithmeticException" "java/lang/Throwable" "suppressedExceptions" "Ljava/util/List;") := ⟨pm_5 _ (List.mem_of_getElem? (i := 186) (by decide +kernel)), rfl⟩
theorem su_java_lang_ArithmeticException_java_lang_RuntimeException : zWd (.superclass "java/lang/ArithmeticException" "java/lang/RuntimeException") := ⟨pm_5 _ (List.mem_of_getElem? (i := 187) (by decide +kernel)), rfl⟩
theorem ca_java_lang_ArithmeticException_java_lang_ArithmeticException : (.castable "java/lang/ArithmeticException" "java/lang/ArithmeticException" : Cond) ∈ lw_tbl := pm_5 _ (List.mem_of_getElem? (i := 188) (by decide +kernel))
theorem lk_L_124 : zWd (.methodLink RL 124 yX9_meanRust) := ⟨pm_5 _ (List.mem_of_getElem? (i := 190) (by decide +kernel)), rfl⟩
theorem im_X9_meanRust : zWd (.instanceMethod yX9_meanRust) := ⟨pm_5 _ (List.mem_of_getElem? (i := 191) (by decide +kernel)), rfl⟩
theorem se_X9_X9_meanRust : zWd (.selects RX9 yX9_meanRust yX9_meanRust) := ⟨pm_5 _ (List.mem_of_getElem? (i := 192) (by decide +kernel)), rfl⟩
theorem cd_X9_meanRust : zWd (.code yX9_meanRust cX9_meanRust 1 (some .double)) := ⟨pm_5 _ (List.mem_of_getElem? (i := 193) (by decide +kernel)), rfl⟩
theorem lk_X9_236 : zWd (.methodLink RX9 236 yX9_demandChairs) := ⟨pm_5 _ (List.mem_of_getElem? (i := 194) (by decide +kernel)), rfl⟩
theorem im_X9_demandChairs : zWd (.instanceMethod yX9_demandChairs) := ⟨pm_5 _ (List.mem_of_getElem? (i := 196) (by decide +kernel)), rfl⟩
theorem cd_X9_demandChairs : zWd (.code yX9_demandChairs cX9_demandChairs 1 none) := ⟨pm_5 _ (List.mem_of_getElem? (i := 197) (by decide +kernel)), rfl⟩
theorem lk_X9_338 : zWd (.classLink RX9 338 "java/lang/ArithmeticException") := ⟨pm_5 _ (List.mem_of_getElem? (i := 198) (by decide +kernel)), rfl⟩
theorem lk_X9_340 : (.stringRef RX9 340 "there are no chairs" : Cond) ∈ lw_tbl := pm_5 _ (List.mem_of_getElem? (i := 199) (by decide +kernel))
theorem lk_L_339 : zWd (.methodLink RL 339 yL_foldedShare) := ⟨pm_5 _ (List.mem_of_getElem? (i := 201) (by decide +kernel)), rfl⟩
theorem st_L_foldedShare : zWd (.static yL_foldedShare) := ⟨pm_5 _ (List.mem_of_getElem? (i := 202) (by decide +kernel)), rfl⟩
theorem cd_L_foldedShare : zWd (.codeWith yL_foldedShare cL_foldedShare 3 (some .int) [(0, 8, 11, 128)]) := ⟨pm_5 _ (List.mem_of_getElem? (i := 203) (by decide +kernel)), rfl⟩
theorem lk_L_130 : zWd (.methodLink RL 130 yX9_foldedShare) := ⟨pm_5 _ (List.mem_of_getElem? (i := 204) (by decide +kernel)), rfl⟩
theorem im_X9_foldedShare : zWd (.instanceMethod yX9_foldedShare) := ⟨pm_5 _ (List.mem_of_getElem? (i := 205) (by decide +kernel)), rfl⟩
theorem se_X9_X9_foldedShare : zWd (.selects RX9 yX9_foldedShare yX9_foldedShare) := ⟨pm_5 _ (List.mem_of_getElem? (i := 206) (by decide +kernel)), rfl⟩
theorem cd_X9_foldedShare : zWd (.code yX9_foldedShare cX9_foldedShare 1 (some .float)) := ⟨pm_5 _ (List.mem_of_getElem? (i := 207) (by decide +kernel)), rfl⟩
theorem lk_L_347 : zWd (.methodLink RL 347 yL_writeLawn) := ⟨pm_5 _ (List.mem_of_getElem? (i := 208) (by decide +kernel)), rfl⟩
theorem st_L_writeLawn : zWd (.static yL_writeLawn) := ⟨pm_5 _ (List.mem_of_getElem? (i := 209) (by decide +kernel)), rfl⟩
theorem cd_L_writeLawn : zWd (.codeWith yL_writeLawn cL_writeLawn 4 (some .int) [(0, 9, 12, 13)]) := ⟨pm_5 _ (List.mem_of_getElem? (i := 210) (by decide +kernel)), rfl⟩
theorem lk_L_134 : zWd (.methodLink RL 134 yX9_writeLawn) := ⟨pm_5 _ (List.mem_of_getElem? (i := 211) (by decide +kernel)), rfl⟩
theorem im_X9_writeLawn : zWd (.instanceMethod yX9_writeLawn) := ⟨pm_5 _ (List.mem_of_getElem? (i := 212) (by decide +kernel)), rfl⟩
theorem se_X9_X9_writeLawn : zWd (.selects RX9 yX9_writeLawn yX9_writeLawn) := ⟨pm_5 _ (List.mem_of_getElem? (i := 213) (by decide +kernel)), rfl⟩
theorem cd_X9_writeLawn : zWd (.code yX9_writeLawn cX9_writeLawn 2 (some .int)) := ⟨pm_5 _ (List.mem_of_getElem? (i := 214) (by decide +kernel)), rfl⟩
theorem lk_X9_250 : zWd (.methodLink RX9 250 yJ4_setLength_d00df) := ⟨pm_5 _ (List.mem_of_getElem? (i := 215) (by decide +kernel)), rfl⟩
theorem im_J4_setLength_d00df : zWd (.instanceMethod yJ4_setLength_d00df) := ⟨pm_5 _ (List.mem_of_getElem? (i := 216) (by decide +kernel)), rfl⟩
theorem se_J4_J4_setLength_d00df : zWd (.selects RJ4 yJ4_setLength_d00df yJ4_setLength_d00df) := ⟨pm_5 _ (List.mem_of_getElem? (i := 217) (by decide +kernel)), rfl⟩
theorem cd_J4_setLength_d00df : zWd (.code yJ4_setLength_d00df cJ4_setLength_d00df 2 none) := ⟨pm_5 _ (List.mem_of_getElem? (i := 218) (by decide +kernel)), rfl⟩
theorem lk_J4_333 : zWd (.methodLink RJ4 333 yJ5_setLength_d00df) := ⟨pm_5 _ (List.mem_of_getElem? (i := 219) (by decide +kernel)), rfl⟩
theorem im_J5_setLength_d00df : zWd (.instanceMethod yJ5_setLength_d00df) := ⟨pm_5 _ (List.mem_of_getElem? (i := 220) (by decide +kernel)), rfl⟩
theorem cd_J5_setLength_d00df : zWd (.code yJ5_setLength_d00df cJ5_setLength_d00df 2 none) := ⟨pm_5 _ (List.mem_of_getElem? (i := 221) (by decide +kernel)), rfl⟩
theorem lk_J5_129 : zWd (.classLink RJ5 129 "java/lang/StringIndexOutOfBoundsException") := ⟨pm_5 _ (List.mem_of_getElem? (i := 222) (by decide +kernel)), rfl⟩
theorem it_Jx7c733 : zWd (.instantiable RJx7c733 6) := ⟨pm_5 _ (List.mem_of_getElem? (i := 223) (by decide +kernel)), rfl⟩
theorem lk_J5_131 : zWd (.methodLink RJ5 131 yJx7c733_init_d00df) := ⟨pm_5 _ (List.mem_of_getElem? (i := 224) (by decide +kernel)), rfl⟩
theorem im_Jx7c733_init_d00df : zWd (.instanceMethod yJx7c733_init_d00df) := ⟨pm_5 _ (List.mem_of_getElem? (i := 225) (by decide +kernel)), rfl⟩
theorem cd_Jx7c733_init_d00df : zWd (.code yJx7c733_init_d00df cJx7c733_init_d00df 2 none) := ⟨pm_5 _ (List.mem_of_getElem? (i := 226) (by decide +kernel)), rfl⟩
theorem lk_Jx7c733_10 : zWd (.classLink RJx7c733 10 "java/lang/StringBuilder") := ⟨pm_5 _ (List.mem_of_getElem? (i := 227) (by decide +kernel)), rfl⟩
theorem lk_Jx7c733_12 : zWd (.methodLink RJx7c733 12 yJ4_init_da8c8) := ⟨pm_5 _ (List.mem_of_getElem? (i := 228) (by decide +kernel)), rfl⟩
theorem lk_Jx7c733_13 : (.stringRef RJx7c733 13 "String index out of range: " : Cond) ∈ lw_tbl := pm_5 _ (List.mem_of_getElem? (i := 229) (by decide +kernel))
theorem lk_Jx7c733_15 : zWd (.methodLink RJx7c733 15 yJ4_append_15ec4) := ⟨pm_5 _ (List.mem_of_getElem? (i := 230) (by decide +kernel)), rfl⟩
theorem im_J4_append_15ec4 : zWd (.instanceMethod yJ4_append_15ec4) := ⟨pm_5 _ (List.mem_of_getElem? (i := 231) (by decide +kernel)), rfl⟩
theorem se_J4_J4_append_15ec4 : zWd (.selects RJ4 yJ4_append_15ec4 yJ4_append_15ec4) := ⟨pm_5 _ (List.mem_of_getElem? (i := 232) (by decide +kernel)), rfl⟩
theorem cd_J4_append_15ec4 : zWd (.code yJ4_append_15ec4 cJ4_append_15ec4 2 (some (.object "java/lang/StringBuilder"))) := ⟨pm_5 _ (List.mem_of_getElem? (i := 233) (by decide +kernel)), rfl⟩
theorem lk_J4_29 : zWd (.methodLink RJ4 29 yJ5_append_cf1ce) := ⟨pm_5 _ (List.mem_of_getElem? (i := 234) (by decide +kernel)), rfl⟩
theorem im_J5_append_cf1ce : zWd (.instanceMethod yJ5_append_cf1ce) := ⟨pm_5 _ (List.mem_of_getElem? (i := 235) (by decide +kernel)), rfl⟩
theorem cd_J5_append_cf1ce : zWd (.code yJ5_append_cf1ce cJ5_append_cf1ce 3 (some (.object "java/lang/AbstractStringBuilder"))) := ⟨pm_5 _ (List.mem_of_getElem? (i := 236) (by decide +kernel)), rfl⟩
theorem lk_J5_204 : zWd (.methodLink RJ5 204 yJ5_appendNull_278bc) := ⟨pm_5 _ (List.mem_of_getElem? (i := 237) (by decide +kernel)), rfl⟩
theorem im_J5_appendNull_278bc : zWd (.instanceMethod yJ5_appendNull_278bc) := ⟨pm_5 _ (List.mem_of_getElem? (i := 239) (by decide +kernel)), rfl⟩
theorem cd_J5_appendNull_278bc : zWd (.code yJ5_appendNull_278bc cJ5_appendNull_278bc 3 (some (.object "java/lang/AbstractStringBuilder"))) := ⟨pm_6 _ (List.mem_of_getElem? (i := 0) (by decide +kernel)), rfl⟩
theorem lk_J5_100 : zWd (.methodLink RJ5 100 yJ5_ensureCapacityInternal_d00df) := ⟨pm_6 _ (List.mem_of_getElem? (i := 1) (by decide +kernel)), rfl⟩
theorem im_J5_ensureCapacityInternal_d00df : zWd (.instanceMethod yJ5_ensureCapacityInternal_d00df) := ⟨pm_6 _ (List.mem_of_getElem? (i := 3) (by decide +kernel)), rfl⟩
theorem cd_J5_ensureCapacityInternal_d00df : zWd (.code yJ5_ensureCapacityInternal_d00df cJ5_ensureCapacityInternal_d00df 3 none) := ⟨pm_6 _ (List.mem_of_getElem? (i := 4) (by decide +kernel)), rfl⟩
theorem lk_J5_104 : zWd (.methodLink RJ5 104 yJ5_newCapacity_0f7a4) := ⟨pm_6 _ (List.mem_of_getElem? (i := 5) (by decide +kernel)), rfl⟩
theorem im_J5_newCapacity_0f7a4 : zWd (.instanceMethod yJ5_newCapacity_0f7a4) := ⟨pm_6 _ (List.mem_of_getElem? (i := 7) (by decide +kernel)), rfl⟩
theorem cd_J5_newCapacity_0f7a4 : zWd (.code yJ5_newCapacity_0f7a4 cJ5_newCapacity_0f7a4 6 (some .int)) := ⟨pm_6 _ (List.mem_of_getElem? (i := 8) (by decide +kernel)), rfl⟩
theorem lk_J5_114 : zWd (.methodLink RJ5 114 yJ8_newLength_cabcc) := ⟨pm_6 _ (List.mem_of_getElem? (i := 9) (by decide +kernel)), rfl⟩
theorem st_J8_newLength_cabcc : zWd (.static yJ8_newLength_cabcc) := ⟨pm_6 _ (List.mem_of_getElem? (i := 10) (by decide +kernel)), rfl⟩
theorem cd_J8_newLength_cabcc : zWd (.code yJ8_newLength_cabcc cJ8_newLength_cabcc 4 (some .int)) := ⟨pm_6 _ (List.mem_of_getElem? (i := 11) (by decide +kernel)), rfl⟩
theorem lk_J8_194 : zWd (.methodLink RJ8 194 Lib.Math.max.name) := ⟨pm_6 _ (List.mem_of_getElem? (i := 12) (by decide +kernel)), rfl⟩
theorem co_J8_200 : zWd (.constant RJ8 200 2147483639) := ⟨pm_6 _ (List.mem_of_getElem? (i := 13) (by decide +kernel)), rfl⟩
theorem lk_J8_201 : zWd (.methodLink RJ8 201 yJ8_hugeLength_7cf53) := ⟨pm_6 _ (List.mem_of_getElem? (i := 14) (by decide +kernel)), rfl⟩
theorem st_J8_hugeLength_7cf53 : zWd (.static yJ8_hugeLength_7cf53) := ⟨pm_6 _ (List.mem_of_getElem? (i := 15) (by decide +kernel)), rfl⟩
theorem cd_J8_hugeLength_7cf53 : zWd (.code yJ8_hugeLength_7cf53 cJ8_hugeLength_7cf53 3 (some .int)) := ⟨pm_6 _ (List.mem_of_getElem? (i := 16) (by decide +kernel)), rfl⟩
theorem co_J5_39 : zWd (.constant RJ5 39 2147483647) := ⟨pm_6 _ (List.mem_of_getElem? (i := 17) (by decide +kernel)), rfl⟩
theorem lk_J5_108 : zWd (.methodLink RJ5 108 yJ7_copyOf_9075b) := ⟨pm_6 _ (List.mem_of_getElem? (i := 18) (by decide +kernel)), rfl⟩
theorem st_J7_copyOf_9075b : zWd (.static yJ7_copyOf_9075b) := ⟨pm_6 _ (List.mem_of_getElem? (i := 19) (by decide +kernel)), rfl⟩
theorem cd_J7_copyOf_9075b : zWd (.code yJ7_copyOf_9075b cJ7_copyOf_9075b 3 (some (.array .byte))) := ⟨pm_6 _ (List.mem_of_getElem? (i := 20) (by decide +kernel)), rfl⟩
theorem sm__B_java_lang_Object_1222 : zWd (.sameMethod "[B" "java/lang/Object" "clone" "()Ljava/lang/Object;") := ⟨pm_6 _ (List.mem_of_getElem? (i := 22) (by decide +kernel)), rfl⟩
theorem ca__B_Jx8e188 : (.castable "[B" "java/lang/Cloneable" : Cond) ∈ lw_tbl := pm_6 _ (List.mem_of_getElem? (i := 26) (by decide +kernel))
theorem lk_J7_311 : zWd (.classLink RJ7 311 "[B") := ⟨pm_6 _ (List.mem_of_getElem? (i := 27) (by decide +kernel)), rfl⟩
theorem lk_J7_304 : zWd (.methodLink RJ7 304 Lib.Math.min.name) := ⟨pm_6 _ (List.mem_of_getElem? (i := 28) (by decide +kernel)), rfl⟩
theorem lk_J7_150 : zWd (.methodLink RJ7 150 arraycopyName) := ⟨pm_6 _ (List.mem_of_getElem? (i := 29) (by decide +kernel)), rfl⟩
theorem lk_J5_83 : zWd (.methodLink RJ5 83 yJ5_isLatin1_aae02) := ⟨pm_6 _ (List.mem_of_getElem? (i := 30) (by decide +kernel)), rfl⟩
theorem im_J5_isLatin1_aae02 : zWd (.instanceMethod yJ5_isLatin1_aae02) := ⟨pm_6 _ (List.mem_of_getElem? (i := 31) (by decide +kernel)), rfl⟩
theorem sm_J5_J5_J5_isLatin1_aae02 : zWd (.sameMethod RJ5 RJ5 "isLatin1" "()Z") := ⟨pm_6 _ (List.mem_of_getElem? (i := 32) (by decide +kernel)), rfl⟩
theorem se_J4_J5_isLatin1_aae02 : zWd (.selects RJ4 yJ5_isLatin1_aae02 yJ5_isLatin1_aae02) := ⟨pm_6 _ (List.mem_of_getElem? (i := 33) (by decide +kernel)), rfl⟩
theorem cd_J5_isLatin1_aae02 : zWd (.code yJ5_isLatin1_aae02 cJ5_isLatin1_aae02 1 (some .boolean)) := ⟨pm_6 _ (List.mem_of_getElem? (i := 34) (by decide +kernel)), rfl⟩
theorem lk_J5_226 : zWd (.methodLink RJ5 226 yJ2_putCharsAt_cd4e5) := ⟨pm_6 _ (List.mem_of_getElem? (i := 35) (by decide +kernel)), rfl⟩
theorem st_J2_putCharsAt_cd4e5 : zWd (.static yJ2_putCharsAt_cd4e5) := ⟨pm_6 _ (List.mem_of_getElem? (i := 36) (by decide +kernel)), rfl⟩
theorem cd_J2_putCharsAt_cd4e5 : zWd (.code yJ2_putCharsAt_cd4e5 cJ2_putCharsAt_cd4e5 7 (some .int)) := ⟨pm_6 _ (List.mem_of_getElem? (i := 37) (by decide +kernel)), rfl⟩
theorem lk_J2_96 : zWd (.methodLink RJ2 96 yJ2_checkBoundsBeginEnd_d044e) := ⟨pm_6 _ (List.mem_of_getElem? (i := 38) (by decide +kernel)), rfl⟩
theorem st_J2_checkBoundsBeginEnd_d044e : zWd (.static yJ2_checkBoundsBeginEnd_d044e) := ⟨pm_6 _ (List.mem_of_getElem? (i := 39) (by decide +kernel)), rfl⟩
theorem cd_J2_checkBoundsBeginEnd_d044e : zWd (.code yJ2_checkBoundsBeginEnd_d044e cJ2_checkBoundsBeginEnd_d044e 3 none) := ⟨pm_6 _ (List.mem_of_getElem? (i := 40) (by decide +kernel)), rfl⟩
theorem lk_J2_48 : zWd (.methodLink RJ2 48 yJ2_length_9d52b) := ⟨pm_6 _ (List.mem_of_getElem? (i := 41) (by decide +kernel)), rfl⟩
theorem st_J2_length_9d52b : zWd (.static yJ2_length_9d52b) := ⟨pm_6 _ (List.mem_of_getElem? (i := 42) (by decide +kernel)), rfl⟩
theorem cd_J2_length_9d52b : zWd (.code yJ2_length_9d52b cJ2_length_9d52b 1 (some .int)) := ⟨pm_6 _ (List.mem_of_getElem? (i := 43) (by decide +kernel)), rfl⟩
theorem lk_J2_241 : zWd (.methodLink RJ2 241 yJ0_checkBoundsBeginEnd_23922) := ⟨pm_6 _ (List.mem_of_getElem? (i := 44) (by decide +kernel)), rfl⟩
theorem st_J0_checkBoundsBeginEnd_23922 : zWd (.static yJ0_checkBoundsBeginEnd_23922) := ⟨pm_6 _ (List.mem_of_getElem? (i := 45) (by decide +kernel)), rfl⟩
theorem cd_J0_checkBoundsBeginEnd_23922 : zWd (.code yJ0_checkBoundsBeginEnd_23922 cJ0_checkBoundsBeginEnd_23922 3 none) := ⟨pm_6 _ (List.mem_of_getElem? (i := 46) (by decide +kernel)), rfl⟩
theorem lk_J0_1053 : zWd (.fieldLink RJ0 1053 "jdk/internal/util/Preconditions" "SIOOBE_FORMATTER" "Ljava/util/function/BiFunction;") := ⟨pm_6 _ (List.mem_of_getElem? (i := 47) (by decide +kernel)), rfl⟩
theorem ls_J3_SIOOBE_FORMATTER : (.laysStatic RJ3 "SIOOBE_FORMATTER" "Ljava/util/function/BiFunction;" : Cond) ∈ lw_tbl := pm_6 _ (List.mem_of_getElem? (i := 48) (by decide +kernel))
theorem lk_J0_1062 : zWd (.methodLink RJ0 1062 yJ3_checkFromToIndex_8c36e) := ⟨pm_6 _ (List.mem_of_getElem? (i := 49) (by decide +kernel)), rfl⟩
theorem st_J3_checkFromToIndex_8c36e : zWd (.static yJ3_checkFromToIndex_8c36e) := ⟨pm_6 _ (List.mem_of_getElem? (i := 50) (by decide +kernel)), rfl⟩
theorem cd_J3_checkFromToIndex_8c36e : zWd (.code yJ3_checkFromToIndex_8c36e cJ3_checkFromToIndex_8c36e 4 (some .int)) := ⟨pm_6 _ (List.mem_of_getElem? (i := 51) (by decide +kernel)), rfl⟩
theorem lk_J2_111 : zWd (.methodLink RJ2 111 yJ2_putChar_b72d1) := ⟨pm_6 _ (List.mem_of_getElem? (i := 52) (by decide +kernel)), rfl⟩
theorem st_J2_putChar_b72d1 : zWd (.static yJ2_putChar_b72d1) := ⟨pm_6 _ (List.mem_of_getElem? (i := 53) (by decide +kernel)), rfl⟩
theorem cd_J2_putChar_b72d1 : zWd (.code yJ2_putChar_b72d1 cJ2_putChar_b72d1 3 none) := ⟨pm_6 _ (List.mem_of_getElem? (i := 54) (by decide +kernel)), rfl⟩
theorem lk_J2_44 : zWd (.fieldLink RJ2 44 "java/lang/StringUTF16" "$assertionsDisabled" "Z") := ⟨pm_6 _ (List.mem_of_getElem? (i := 55) (by decide +kernel)), rfl⟩
theorem ls_J2__assertionsDisabled : (.laysStatic RJ2 "$assertionsDisabled" "Z" : Cond) ∈ lw_tbl := pm_6 _ (List.mem_of_getElem? (i := 56) (by decide +kernel))
theorem lk_J2_59 : zWd (.fieldLink RJ2 59 "java/lang/StringUTF16" "HI_BYTE_SHIFT" "I") := ⟨pm_6 _ (List.mem_of_getElem? (i := 57) (by decide +kernel)), rfl⟩
theorem ls_J2_HI_BYTE_SHIFT : (.laysStatic RJ2 "HI_BYTE_SHIFT" "I" : Cond) ∈ lw_tbl := pm_6 _ (List.mem_of_getElem? (i := 58) (by decide +kernel))
theorem lk_J2_63 : zWd (.fieldLink RJ2 63 "java/lang/StringUTF16" "LO_BYTE_SHIFT" "I") := ⟨pm_6 _ (List.mem_of_getElem? (i := 59) (by decide +kernel)), rfl⟩
theorem ls_J2_LO_BYTE_SHIFT : (.laysStatic RJ2 "LO_BYTE_SHIFT" "I" : Cond) ∈ lw_tbl := pm_6 _ (List.mem_of_getElem? (i := 60) (by decide +kernel))
theorem lk_J5_32 : zWd (.methodLink RJ5 32 yJ0_length_8abf5) := ⟨pm_6 _ (List.mem_of_getElem? (i := 61) (by decide +kernel)), rfl⟩
theorem im_J0_length_8abf5 : zWd (.instanceMethod yJ0_length_8abf5) := ⟨pm_6 _ (List.mem_of_getElem? (i := 62) (by decide +kernel)), rfl⟩
theorem se_J0_J0_length_8abf5 : zWd (.selects RJ0 yJ0_length_8abf5 yJ0_length_8abf5) := ⟨pm_6 _ (List.mem_of_getElem? (i := 63) (by decide +kernel)), rfl⟩
theorem cd_J0_length_8abf5 : zWd (.code yJ0_length_8abf5 cJ0_length_8abf5 1 (some .int)) := ⟨pm_6 _ (List.mem_of_getElem? (i := 64) (by decide +kernel)), rfl⟩
theorem lk_J0_335 : zWd (.methodLink RJ0 335 yJ0_coder_7d493) := ⟨pm_6 _ (List.mem_of_getElem? (i := 65) (by decide +kernel)), rfl⟩
theorem im_J0_coder_7d493 : zWd (.instanceMethod yJ0_coder_7d493) := ⟨pm_6 _ (List.mem_of_getElem? (i := 66) (by decide +kernel)), rfl⟩
theorem se_J0_J0_coder_7d493 : zWd (.selects RJ0 yJ0_coder_7d493 yJ0_coder_7d493) := ⟨pm_6 _ (List.mem_of_getElem? (i := 67) (by decide +kernel)), rfl⟩
theorem cd_J0_coder_7d493 : zWd (.code yJ0_coder_7d493 cJ0_coder_7d493 1 (some .byte)) := ⟨pm_6 _ (List.mem_of_getElem? (i := 68) (by decide +kernel)), rfl⟩
theorem lk_J0_38 : zWd (.fieldLink RJ0 38 "java/lang/String" "COMPACT_STRINGS" "Z") := ⟨pm_6 _ (List.mem_of_getElem? (i := 69) (by decide +kernel)), rfl⟩
theorem lk_J5_208 : zWd (.methodLink RJ5 208 yJ5_putStringAt_47b60) := ⟨pm_6 _ (List.mem_of_getElem? (i := 70) (by decide +kernel)), rfl⟩
theorem im_J5_putStringAt_47b60 : zWd (.instanceMethod yJ5_putStringAt_47b60) := ⟨pm_6 _ (List.mem_of_getElem? (i := 72) (by decide +kernel)), rfl⟩
theorem cd_J5_putStringAt_47b60 : zWd (.code yJ5_putStringAt_47b60 cJ5_putStringAt_47b60 3 none) := ⟨pm_6 _ (List.mem_of_getElem? (i := 73) (by decide +kernel)), rfl⟩
theorem lk_J5_397 : zWd (.methodLink RJ5 397 yJ5_inflateIfNeededFor_a7421) := ⟨pm_6 _ (List.mem_of_getElem? (i := 74) (by decide +kernel)), rfl⟩
theorem im_J5_inflateIfNeededFor_a7421 : zWd (.instanceMethod yJ5_inflateIfNeededFor_a7421) := ⟨pm_6 _ (List.mem_of_getElem? (i := 76) (by decide +kernel)), rfl⟩
theorem cd_J5_inflateIfNeededFor_a7421 : zWd (.code yJ5_inflateIfNeededFor_a7421 cJ5_inflateIfNeededFor_a7421 2 none) := ⟨pm_6 _ (List.mem_of_getElem? (i := 77) (by decide +kernel)), rfl⟩
theorem lk_J5_40 : zWd (.methodLink RJ5 40 yJ0_coder_7d493) := ⟨pm_6 _ (List.mem_of_getElem? (i := 78) (by decide +kernel)), rfl⟩
theorem lk_J5_195 : zWd (.methodLink RJ5 195 yJ5_inflate_da8c8) := ⟨pm_6 _ (List.mem_of_getElem? (i := 79) (by decide +kernel)), rfl⟩
theorem im_J5_inflate_da8c8 : zWd (.instanceMethod yJ5_inflate_da8c8) := ⟨pm_6 _ (List.mem_of_getElem? (i := 81) (by decide +kernel)), rfl⟩
theorem cd_J5_inflate_da8c8 : zWd (.code yJ5_inflate_da8c8 cJ5_inflate_da8c8 2 none) := ⟨pm_6 _ (List.mem_of_getElem? (i := 82) (by decide +kernel)), rfl⟩
theorem lk_J5_125 : zWd (.methodLink RJ5 125 yJ1_inflate_0e8fd) := ⟨pm_6 _ (List.mem_of_getElem? (i := 83) (by decide +kernel)), rfl⟩
theorem st_J1_inflate_0e8fd : zWd (.static yJ1_inflate_0e8fd) := ⟨pm_6 _ (List.mem_of_getElem? (i := 84) (by decide +kernel)), rfl⟩
theorem cd_J1_inflate_0e8fd : zWd (.code yJ1_inflate_0e8fd cJ1_inflate_0e8fd 5 none) := ⟨pm_6 _ (List.mem_of_getElem? (i := 85) (by decide +kernel)), rfl⟩
theorem lk_J1_240 : zWd (.methodLink RJ1 240 yJ2_inflate_0e8fd) := ⟨pm_6 _ (List.mem_of_getElem? (i := 86) (by decide +kernel)), rfl⟩
theorem st_J2_inflate_0e8fd : zWd (.static yJ2_inflate_0e8fd) := ⟨pm_6 _ (List.mem_of_getElem? (i := 87) (by decide +kernel)), rfl⟩
theorem cd_J2_inflate_0e8fd : zWd (.code yJ2_inflate_0e8fd cJ2_inflate_0e8fd 6 none) := ⟨pm_6 _ (List.mem_of_getElem? (i := 88) (by decide +kernel)), rfl⟩
theorem lk_J2_173 : zWd (.methodLink RJ2 173 yJ2_checkBoundsOffCount_d044e) := ⟨pm_6 _ (List.mem_of_getElem? (i := 89) (by decide +kernel)), rfl⟩
theorem st_J2_checkBoundsOffCount_d044e : zWd (.static yJ2_checkBoundsOffCount_d044e) := ⟨pm_6 _ (List.mem_of_getElem? (i := 90) (by decide +kernel)), rfl⟩
theorem cd_J2_checkBoundsOffCount_d044e : zWd (.code yJ2_checkBoundsOffCount_d044e cJ2_checkBoundsOffCount_d044e 3 none) := ⟨pm_6 _ (List.mem_of_getElem? (i := 91) (by decide +kernel)), rfl⟩
theorem lk_J2_419 : zWd (.methodLink RJ2 419 yJ0_checkBoundsOffCount_cabcc) := ⟨pm_6 _ (List.mem_of_getElem? (i := 92) (by decide +kernel)), rfl⟩
theorem st_J0_checkBoundsOffCount_cabcc : zWd (.static yJ0_checkBoundsOffCount_cabcc) := ⟨pm_6 _ (List.mem_of_getElem? (i := 93) (by decide +kernel)), rfl⟩
theorem cd_J0_checkBoundsOffCount_cabcc : zWd (.code yJ0_checkBoundsOffCount_cabcc cJ0_checkBoundsOffCount_cabcc 3 (some .int)) := ⟨pm_6 _ (List.mem_of_getElem? (i := 94) (by decide +kernel)), rfl⟩
theorem lk_J0_1065 : zWd (.methodLink RJ0 1065 yJ3_checkFromIndexSize_8c36e) := ⟨pm_6 _ (List.mem_of_getElem? (i := 95) (by decide +kernel)), rfl⟩
theorem st_J3_checkFromIndexSize_8c36e : zWd (.static yJ3_checkFromIndexSize_8c36e) := ⟨pm_6 _ (List.mem_of_getElem? (i := 96) (by decide +kernel)), rfl⟩
theorem cd_J3_checkFromIndexSize_8c36e : zWd (.code yJ3_checkFromIndexSize_8c36e cJ3_checkFromIndexSize_8c36e 4 (some .int)) := ⟨pm_6 _ (List.mem_of_getElem? (i := 97) (by decide +kernel)), rfl⟩
theorem lk_J5_399 : zWd (.methodLink RJ5 399 yJ0_getBytes_840e7) := ⟨pm_6 _ (List.mem_of_getElem? (i := 98) (by decide +kernel)), rfl⟩
theorem im_J0_getBytes_840e7 : zWd (.instanceMethod yJ0_getBytes_840e7) := ⟨pm_6 _ (List.mem_of_getElem? (i := 99) (by decide +kernel)), rfl⟩
theorem se_J0_J0_getBytes_840e7 : zWd (.selects RJ0 yJ0_getBytes_840e7 yJ0_getBytes_840e7) := ⟨pm_6 _ (List.mem_of_getElem? (i := 100) (by decide +kernel)), rfl⟩
theorem cd_J0_getBytes_840e7 : zWd (.code yJ0_getBytes_840e7 cJ0_getBytes_840e7 4 none) := ⟨pm_6 _ (List.mem_of_getElem? (i := 101) (by decide +kernel)), rfl⟩
theorem lk_J0_212 : zWd (.methodLink RJ0 212 arraycopyName) := ⟨pm_6 _ (List.mem_of_getElem? (i := 102) (by decide +kernel)), rfl⟩
theorem lk_J0_106 : zWd (.methodLink RJ0 106 yJ1_inflate_0e8fd) := ⟨pm_6 _ (List.mem_of_getElem? (i := 103) (by decide +kernel)), rfl⟩
theorem lk_Jx7c733_19 : zWd (.methodLink RJx7c733 19 yJ4_append_bf812) := ⟨pm_6 _ (List.mem_of_getElem? (i := 104) (by decide +kernel)), rfl⟩
theorem im_J4_append_bf812 : zWd (.instanceMethod yJ4_append_bf812) := ⟨pm_6 _ (List.mem_of_getElem? (i := 105) (by decide +kernel)), rfl⟩
theorem se_J4_J4_append_bf812 : zWd (.selects RJ4 yJ4_append_bf812 yJ4_append_bf812) := ⟨pm_6 _ (List.mem_of_getElem? (i := 106) (by decide +kernel)), rfl⟩
theorem cd_J4_append_bf812 : zWd (.code yJ4_append_bf812 cJ4_append_bf812 2 (some (.object "java/lang/StringBuilder"))) := ⟨pm_6 _ (List.mem_of_getElem? (i := 107) (by decide +kernel)), rfl⟩
theorem lk_J4_53 : zWd (.methodLink RJ4 53 yJ5_append_c97b9) := ⟨pm_6 _ (List.mem_of_getElem? (i := 108) (by decide +kernel)), rfl⟩
theorem im_J5_append_c97b9 : zWd (.instanceMethod yJ5_append_c97b9) := ⟨pm_6 _ (List.mem_of_getElem? (i := 109) (by decide +kernel)), rfl⟩
theorem cd_J5_append_c97b9 : zWd (.code yJ5_append_c97b9 cJ5_append_c97b9 4 (some (.object "java/lang/AbstractStringBuilder"))) := ⟨pm_6 _ (List.mem_of_getElem? (i := 110) (by decide +kernel)), rfl⟩
theorem lk_J5_245 : zWd (.methodLink RJ5 245 yJ6_stringSize_0f7a4) := ⟨pm_6 _ (List.mem_of_getElem? (i := 111) (by decide +kernel)), rfl⟩
theorem st_J6_stringSize_0f7a4 : zWd (.static yJ6_stringSize_0f7a4) := ⟨pm_6 _ (List.mem_of_getElem? (i := 112) (by decide +kernel)), rfl⟩
theorem cd_J6_stringSize_0f7a4 : zWd (.code yJ6_stringSize_0f7a4 cJ6_stringSize_0f7a4 4 (some .int)) := ⟨pm_6 _ (List.mem_of_getElem? (i := 113) (by decide +kernel)), rfl⟩
theorem lk_J5_248 : zWd (.methodLink RJ5 248 yJ6_getChars_ba4f3) := ⟨pm_6 _ (List.mem_of_getElem? (i := 114) (by decide +kernel)), rfl⟩
theorem st_J6_getChars_ba4f3 : zWd (.static yJ6_getChars_ba4f3) := ⟨pm_6 _ (List.mem_of_getElem? (i := 115) (by decide +kernel)), rfl⟩
theorem cd_J6_getChars_ba4f3 : zWd (.code yJ6_getChars_ba4f3 cJ6_getChars_ba4f3 7 (some .int)) := ⟨pm_6 _ (List.mem_of_getElem? (i := 116) (by decide +kernel)), rfl⟩
theorem lk_J6_83 : zWd (.fieldLink RJ6 83 "java/lang/Integer" "DigitOnes" "[B") := ⟨pm_6 _ (List.mem_of_getElem? (i := 117) (by decide +kernel)), rfl⟩
theorem ls_J6_DigitOnes : (.laysStatic RJ6 "DigitOnes" "[B" : Cond) ∈ lw_tbl := pm_6 _ (List.mem_of_getElem? (i := 118) (by decide +kernel))
theorem lk_J6_87 : zWd (.fieldLink RJ6 87 "java/lang/Integer" "DigitTens" "[B") := ⟨pm_6 _ (List.mem_of_getElem? (i := 119) (by decide +kernel)), rfl⟩
theorem ls_J6_DigitTens : (.laysStatic RJ6 "DigitTens" "[B" : Cond) ∈ lw_tbl := pm_6 _ (List.mem_of_getElem? (i := 120) (by decide +kernel))
theorem lk_J5_251 : zWd (.methodLink RJ5 251 yJ2_getChars_46870) := ⟨pm_6 _ (List.mem_of_getElem? (i := 121) (by decide +kernel)), rfl⟩
theorem st_J2_getChars_46870 : zWd (.static yJ2_getChars_46870) := ⟨pm_6 _ (List.mem_of_getElem? (i := 122) (by decide +kernel)), rfl⟩
theorem cd_J2_getChars_46870 : zWd (.code yJ2_getChars_46870 cJ2_getChars_46870 5 (some .int)) := ⟨pm_6 _ (List.mem_of_getElem? (i := 123) (by decide +kernel)), rfl⟩
theorem lk_J2_393 : zWd (.methodLink RJ2 393 yJ2_getChars_ba4f3) := ⟨pm_6 _ (List.mem_of_getElem? (i := 124) (by decide +kernel)), rfl⟩
theorem st_J2_getChars_ba4f3 : zWd (.static yJ2_getChars_ba4f3) := ⟨pm_6 _ (List.mem_of_getElem? (i := 125) (by decide +kernel)), rfl⟩
theorem cd_J2_getChars_ba4f3 : zWd (.code yJ2_getChars_ba4f3 cJ2_getChars_ba4f3 7 (some .int)) := ⟨pm_6 _ (List.mem_of_getElem? (i := 126) (by decide +kernel)), rfl⟩
theorem lk_J2_403 : zWd (.fieldLink RJ2 403 "java/lang/Integer" "DigitOnes" "[B") := ⟨pm_6 _ (List.mem_of_getElem? (i := 127) (by decide +kernel)), rfl⟩
theorem lk_J2_407 : zWd (.fieldLink RJ2 407 "java/lang/Integer" "DigitTens" "[B") := ⟨pm_6 _ (List.mem_of_getElem? (i := 128) (by decide +kernel)), rfl⟩
theorem lk_Jx7c733_22 : zWd (.methodLink RJx7c733 22 yJ4_toString_0e30d) := ⟨pm_6 _ (List.mem_of_getElem? (i := 129) (by decide +kernel)), rfl⟩
theorem im_J4_toString_0e30d : zWd (.instanceMethod yJ4_toString_0e30d) := ⟨pm_6 _ (List.mem_of_getElem? (i := 130) (by decide +kernel)), rfl⟩
theorem se_J4_J4_toString_0e30d : zWd (.selects RJ4 yJ4_toString_0e30d yJ4_toString_0e30d) := ⟨pm_6 _ (List.mem_of_getElem? (i := 131) (by decide +kernel)), rfl⟩
theorem cd_J4_toString_0e30d : zWd (.code yJ4_toString_0e30d cJ4_toString_0e30d 1 (some (.object "java/lang/String"))) := ⟨pm_6 _ (List.mem_of_getElem? (i := 132) (by decide +kernel)), rfl⟩
theorem lk_J4_18 : zWd (.classLink RJ4 18 "java/lang/String") := ⟨pm_6 _ (List.mem_of_getElem? (i := 133) (by decide +kernel)), rfl⟩
theorem lk_J4_137 : zWd (.methodLink RJ4 137 yJ0_init_81219) := ⟨pm_6 _ (List.mem_of_getElem? (i := 134) (by decide +kernel)), rfl⟩
theorem im_J0_init_81219 : zWd (.instanceMethod yJ0_init_81219) := ⟨pm_6 _ (List.mem_of_getElem? (i := 135) (by decide +kernel)), rfl⟩
theorem cd_J0_init_81219 : zWd (.code yJ0_init_81219 cJ0_init_81219 2 none) := ⟨pm_6 _ (List.mem_of_getElem? (i := 136) (by decide +kernel)), rfl⟩
theorem lk_J0_489 : zWd (.methodLink RJ0 489 yJ0_init_db425) := ⟨pm_6 _ (List.mem_of_getElem? (i := 137) (by decide +kernel)), rfl⟩
theorem im_J0_init_db425 : zWd (.instanceMethod yJ0_init_db425) := ⟨pm_6 _ (List.mem_of_getElem? (i := 138) (by decide +kernel)), rfl⟩
theorem cd_J0_init_db425 : zWd (.code yJ0_init_db425 cJ0_init_db425 5 none) := ⟨pm_6 _ (List.mem_of_getElem? (i := 139) (by decide +kernel)), rfl⟩
theorem lk_J0_1 : zWd (.methodLink RJ0 1 Lib.objectInit) := ⟨pm_6 _ (List.mem_of_getElem? (i := 140) (by decide +kernel)), rfl⟩
theorem lk_J0_552 : zWd (.methodLink RJ0 552 yJ5_getValue_6d5f1) := ⟨pm_6 _ (List.mem_of_getElem? (i := 141) (by decide +kernel)), rfl⟩
theorem im_J5_getValue_6d5f1 : zWd (.instanceMethod yJ5_getValue_6d5f1) := ⟨pm_6 _ (List.mem_of_getElem? (i := 142) (by decide +kernel)), rfl⟩
theorem sm_J5_J5_J5_getValue_6d5f1 : zWd (.sameMethod RJ5 RJ5 "getValue" "()[B") := ⟨pm_6 _ (List.mem_of_getElem? (i := 143) (by decide +kernel)), rfl⟩
theorem se_J4_J5_getValue_6d5f1 : zWd (.selects RJ4 yJ5_getValue_6d5f1 yJ5_getValue_6d5f1) := ⟨pm_6 _ (List.mem_of_getElem? (i := 144) (by decide +kernel)), rfl⟩
theorem cd_J5_getValue_6d5f1 : zWd (.code yJ5_getValue_6d5f1 cJ5_getValue_6d5f1 1 (some (.array .byte))) := ⟨pm_6 _ (List.mem_of_getElem? (i := 145) (by decide +kernel)), rfl⟩
theorem lk_J0_549 : zWd (.methodLink RJ0 549 yJ5_length_8abf5) := ⟨pm_6 _ (List.mem_of_getElem? (i := 146) (by decide +kernel)), rfl⟩
theorem im_J5_length_8abf5 : zWd (.instanceMethod yJ5_length_8abf5) := ⟨pm_6 _ (List.mem_of_getElem? (i := 147) (by decide +kernel)), rfl⟩
theorem sm_J5_J5_J5_length_8abf5 : zWd (.sameMethod RJ5 RJ5 "length" "()I") := ⟨pm_6 _ (List.mem_of_getElem? (i := 148) (by decide +kernel)), rfl⟩
theorem se_J4_J5_length_8abf5 : zWd (.selects RJ4 yJ5_length_8abf5 yJ4_length_8abf5) := ⟨pm_6 _ (List.mem_of_getElem? (i := 149) (by decide +kernel)), rfl⟩
theorem im_J4_length_8abf5 : zWd (.instanceMethod yJ4_length_8abf5) := ⟨pm_6 _ (List.mem_of_getElem? (i := 150) (by decide +kernel)), rfl⟩
theorem cd_J4_length_8abf5 : zWd (.code yJ4_length_8abf5 cJ4_length_8abf5 1 (some .int)) := ⟨pm_6 _ (List.mem_of_getElem? (i := 151) (by decide +kernel)), rfl⟩
theorem lk_J4_343 : zWd (.methodLink RJ4 343 yJ5_length_8abf5) := ⟨pm_6 _ (List.mem_of_getElem? (i := 152) (by decide +kernel)), rfl⟩
theorem cd_J5_length_8abf5 : zWd (.code yJ5_length_8abf5 cJ5_length_8abf5 1 (some .int)) := ⟨pm_6 _ (List.mem_of_getElem? (i := 153) (by decide +kernel)), rfl⟩
theorem lk_J0_1047 : zWd (.methodLink RJ0 1047 yJ5_isLatin1_aae02) := ⟨pm_6 _ (List.mem_of_getElem? (i := 154) (by decide +kernel)), rfl⟩
theorem lk_J0_54 : zWd (.methodLink RJ0 54 yJ7_copyOfRange_39247) := ⟨pm_6 _ (List.mem_of_getElem? (i := 155) (by decide +kernel)), rfl⟩
theorem st_J7_copyOfRange_39247 : zWd (.static yJ7_copyOfRange_39247) := ⟨pm_6 _ (List.mem_of_getElem? (i := 156) (by decide +kernel)), rfl⟩
theorem cd_J7_copyOfRange_39247 : zWd (.code yJ7_copyOfRange_39247 cJ7_copyOfRange_39247 3 (some (.array .byte))) := ⟨pm_6 _ (List.mem_of_getElem? (i := 157) (by decide +kernel)), rfl⟩
theorem lk_J7_339 : zWd (.methodLink RJ7 339 yJ7_copyOfRangeByte_39247) := ⟨pm_6 _ (List.mem_of_getElem? (i := 158) (by decide +kernel)), rfl⟩
theorem st_J7_copyOfRangeByte_39247 : zWd (.static yJ7_copyOfRangeByte_39247) := ⟨pm_6 _ (List.mem_of_getElem? (i := 159) (by decide +kernel)), rfl⟩
theorem cd_J7_copyOfRangeByte_39247 : zWd (.code yJ7_copyOfRangeByte_39247 cJ7_copyOfRangeByte_39247 5 (some (.array .byte))) := ⟨pm_6 _ (List.mem_of_getElem? (i := 160) (by decide +kernel)), rfl⟩
theorem lk_J7_343 : zWd (.methodLink RJ7 343 yJ7_checkLength_df160) := ⟨pm_6 _ (List.mem_of_getElem? (i := 161) (by decide +kernel)), rfl⟩
theorem st_J7_checkLength_df160 : zWd (.static yJ7_checkLength_df160) := ⟨pm_6 _ (List.mem_of_getElem? (i := 162) (by decide +kernel)), rfl⟩
theorem cd_J7_checkLength_df160 : zWd (.code yJ7_checkLength_df160 cJ7_checkLength_df160 2 none) := ⟨pm_6 _ (List.mem_of_getElem? (i := 163) (by decide +kernel)), rfl⟩
theorem lk_J7_43 : zWd (.classLink RJ7 43 "java/lang/IllegalArgumentException") := ⟨pm_6 _ (List.mem_of_getElem? (i := 164) (by decide +kernel)), rfl⟩
theorem lk_J7_45 : zWd (.classLink RJ7 45 "java/lang/StringBuilder") := ⟨pm_6 _ (List.mem_of_getElem? (i := 165) (by decide +kernel)), rfl⟩
theorem lk_J7_47 : zWd (.methodLink RJ7 47 yJ4_init_da8c8) := ⟨pm_6 _ (List.mem_of_getElem? (i := 166) (by decide +kernel)), rfl⟩
theorem lk_J7_54 : zWd (.methodLink RJ7 54 yJ4_append_bf812) := ⟨pm_6 _ (List.mem_of_getElem? (i := 167) (by decide +kernel)), rfl⟩
theorem lk_J7_337 : (.stringRef RJ7 337 " > " : Cond) ∈ lw_tbl := pm_6 _ (List.mem_of_getElem? (i := 168) (by decide +kernel))
theorem lk_J7_50 : zWd (.methodLink RJ7 50 yJ4_append_15ec4) := ⟨pm_6 _ (List.mem_of_getElem? (i := 169) (by decide +kernel)), rfl⟩
theorem lk_J7_61 : zWd (.methodLink RJ7 61 yJ4_toString_0e30d) := ⟨pm_6 _ (List.mem_of_getElem? (i := 170) (by decide +kernel)), rfl⟩
theorem lk_J0_1051 : zWd (.methodLink RJ0 1051 yJ2_compress_39247) := ⟨pm_6 _ (List.mem_of_getElem? (i := 172) (by decide +kernel)), rfl⟩
theorem st_J2_compress_39247 : zWd (.static yJ2_compress_39247) := ⟨pm_6 _ (List.mem_of_getElem? (i := 173) (by decide +kernel)), rfl⟩
theorem cd_J2_compress_39247 : zWd (.code yJ2_compress_39247 cJ2_compress_39247 6 (some (.array .byte))) := ⟨pm_6 _ (List.mem_of_getElem? (i := 174) (by decide +kernel)), rfl⟩
theorem lk_J2_123 : zWd (.methodLink RJ2 123 yJ2_compress_5af95) := ⟨pm_6 _ (List.mem_of_getElem? (i := 175) (by decide +kernel)), rfl⟩
theorem st_J2_compress_5af95 : zWd (.static yJ2_compress_5af95) := ⟨pm_6 _ (List.mem_of_getElem? (i := 176) (by decide +kernel)), rfl⟩
theorem cd_J2_compress_5af95 : zWd (.code yJ2_compress_5af95 cJ2_compress_5af95 7 (some .int)) := ⟨pm_6 _ (List.mem_of_getElem? (i := 177) (by decide +kernel)), rfl⟩
theorem lk_J2_71 : zWd (.methodLink RJ2 71 yJ2_getChar_3b067) := ⟨pm_6 _ (List.mem_of_getElem? (i := 178) (by decide +kernel)), rfl⟩
theorem st_J2_getChar_3b067 : zWd (.static yJ2_getChar_3b067) := ⟨pm_6 _ (List.mem_of_getElem? (i := 179) (by decide +kernel)), rfl⟩
theorem cd_J2_getChar_3b067 : zWd (.code yJ2_getChar_3b067 cJ2_getChar_3b067 2 (some .char)) := ⟨pm_6 _ (List.mem_of_getElem? (i := 180) (by decide +kernel)), rfl⟩
theorem lk_J2_126 : zWd (.methodLink RJ2 126 yJ7_copyOfRange_39247) := ⟨pm_6 _ (List.mem_of_getElem? (i := 181) (by decide +kernel)), rfl⟩
theorem lk_J0_47 : zWd (.methodLink RJ0 47 yJ2_coderFromArrayLen_85cad) := ⟨pm_6 _ (List.mem_of_getElem? (i := 182) (by decide +kernel)), rfl⟩
theorem st_J2_coderFromArrayLen_85cad : zWd (.static yJ2_coderFromArrayLen_85cad) := ⟨pm_6 _ (List.mem_of_getElem? (i := 183) (by decide +kernel)), rfl⟩
theorem cd_J2_coderFromArrayLen_85cad : zWd (.code yJ2_coderFromArrayLen_85cad cJ2_coderFromArrayLen_85cad 2 (some .byte)) := ⟨pm_6 _ (List.mem_of_getElem? (i := 184) (by decide +kernel)), rfl⟩
theorem lk_J0_9 : zWd (.fieldLink RJ0 9 "java/lang/String" "value" "[B") := ⟨pm_6 _ (List.mem_of_getElem? (i := 185) (by decide +kernel)), rfl⟩
theorem lk_J0_15 : zWd (.fieldLink RJ0 15 "java/lang/String" "coder" "B") := ⟨pm_6 _ (List.mem_of_getElem? (i := 186) (by decide +kernel)), rfl⟩
theorem ly_J0_hash : zWd (.lays RJ0 "java/lang/String" "hash" "I") := ⟨pm_6 _ (List.mem_of_getElem? (i := 187) (by decide +kernel)), rfl⟩
theorem ly_J0_hashIsZero : zWd (.lays RJ0 "java/lang/String" "hashIsZero" "Z") := ⟨pm_6 _ (List.mem_of_getElem? (i := 189) (by decide +kernel)), rfl⟩
theorem su_J0_java_lang_Object : zWd (.superclass RJ0 "java/lang/Object") := ⟨pm_6 _ (List.mem_of_getElem? (i := 191) (by decide +kernel)), rfl⟩
theorem ly_Jx7c733_backtrace : zWd (.lays RJx7c733 "java/lang/Throwable" "backtrace" "Ljava/lang/Object;") := ⟨pm_6 _ (List.mem_of_getElem? (i := 193) (by decide +kernel)), rfl⟩
theorem ly_Jx7c733_detailMessage : zWd (.lays RJx7c733 "java/lang/Throwable" "detailMessage" "Ljava/lang/String;") := ⟨pm_6 _ (List.mem_of_getElem? (i := 194) (by decide +kernel)), rfl⟩
theorem ly_Jx7c733_cause : zWd (.lays RJx7c733 "java/lang/Throwable" "cause" "Ljava/lang/Throwable;") := ⟨pm_6 _ (List.mem_of_getElem? (i := 195) (by decide +kernel)), rfl⟩
theorem ly_Jx7c733_stackTrace : zWd (.lays RJx7c733 "java/lang/Throwable" "stackTrace" "[Ljava/lang/StackTraceElement;") := ⟨pm_6 _ (List.mem_of_getElem? (i := 196) (by decide +kernel)), rfl⟩
theorem ly_Jx7c733_depth : zWd (.lays RJx7c733 "java/lang/Throwable" "depth" "I") := ⟨pm_6 _ (List.mem_of_getElem? (i := 197) (by decide +kernel)), rfl⟩
theorem ly_Jx7c733_suppressedExceptions : zWd (.lays RJx7c733 "java/lang/Throwable" "suppressedExceptions" "Ljava/util/List;") := ⟨pm_6 _ (List.mem_of_getElem? (i := 198) (by decide +kernel)), rfl⟩
theorem su_Jx7c733_java_lang_IndexOutOfBoundsException : zWd (.superclass RJx7c733 "java/lang/IndexOutOfBoundsException") := ⟨pm_6 _ (List.mem_of_getElem? (i := 199) (by decide +kernel)), rfl⟩
theorem lk_J5_133 : zWd (.methodLink RJ5 133 yJ1_fillNull_b72d1) := ⟨pm_6 _ (List.mem_of_getElem? (i := 200) (by decide +kernel)), rfl⟩
theorem st_J1_fillNull_b72d1 : zWd (.static yJ1_fillNull_b72d1) := ⟨pm_6 _ (List.mem_of_getElem? (i := 201) (by decide +kernel)), rfl⟩
theorem cd_J1_fillNull_b72d1 : zWd (.code yJ1_fillNull_b72d1 cJ1_fillNull_b72d1 3 none) := ⟨pm_6 _ (List.mem_of_getElem? (i := 202) (by decide +kernel)), rfl⟩
theorem lk_J1_236 : zWd (.methodLink RJ1 236 yJ7_fill_eb02e) := ⟨pm_6 _ (List.mem_of_getElem? (i := 203) (by decide +kernel)), rfl⟩
theorem st_J7_fill_eb02e : zWd (.static yJ7_fill_eb02e) := ⟨pm_6 _ (List.mem_of_getElem? (i := 204) (by decide +kernel)), rfl⟩
theorem cd_J7_fill_eb02e : zWd (.code yJ7_fill_eb02e cJ7_fill_eb02e 5 none) := ⟨pm_6 _ (List.mem_of_getElem? (i := 205) (by decide +kernel)), rfl⟩
theorem lk_J7_13 : zWd (.methodLink RJ7 13 yJ7_rangeCheck_23922) := ⟨pm_6 _ (List.mem_of_getElem? (i := 206) (by decide +kernel)), rfl⟩
theorem st_J7_rangeCheck_23922 : zWd (.static yJ7_rangeCheck_23922) := ⟨pm_6 _ (List.mem_of_getElem? (i := 207) (by decide +kernel)), rfl⟩
theorem cd_J7_rangeCheck_23922 : zWd (.code yJ7_rangeCheck_23922 cJ7_rangeCheck_23922 3 none) := ⟨pm_6 _ (List.mem_of_getElem? (i := 208) (by decide +kernel)), rfl⟩
theorem lk_J7_48 : (.stringRef RJ7 48 "fromIndex(" : Cond) ∈ lw_tbl := pm_6 _ (List.mem_of_getElem? (i := 209) (by decide +kernel))
theorem lk_J7_57 : (.stringRef RJ7 57 ") > toIndex(" : Cond) ∈ lw_tbl := pm_6 _ (List.mem_of_getElem? (i := 210) (by decide +kernel))
theorem lk_J7_59 : (.stringRef RJ7 59 ")" : Cond) ∈ lw_tbl := pm_6 _ (List.mem_of_getElem? (i := 211) (by decide +kernel))
theorem lk_J7_68 : zWd (.classLink RJ7 68 "java/lang/ArrayIndexOutOfBoundsException") := ⟨pm_6 _ (List.mem_of_getElem? (i := 212) (by decide +kernel)), rfl⟩
theorem lk_J7_70 : zWd (.methodLink RJ7 70 yJx00060_init_d00df) := ⟨pm_6 _ (List.mem_of_getElem? (i := 213) (by decide +kernel)), rfl⟩
theorem im_Jx00060_init_d00df : zWd (.instanceMethod yJx00060_init_d00df) := ⟨pm_6 _ (List.mem_of_getElem? (i := 214) (by decide +kernel)), rfl⟩
theorem cd_Jx00060_init_d00df : zWd (.code yJx00060_init_d00df cJx00060_init_d00df 2 none) := ⟨pm_6 _ (List.mem_of_getElem? (i := 215) (by decide +kernel)), rfl⟩
theorem lk_Jx00060_10 : zWd (.classLink RJx00060 10 "java/lang/StringBuilder") := ⟨pm_6 _ (List.mem_of_getElem? (i := 216) (by decide +kernel)), rfl⟩
theorem lk_Jx00060_12 : zWd (.methodLink RJx00060 12 yJ4_init_da8c8) := ⟨pm_6 _ (List.mem_of_getElem? (i := 217) (by decide +kernel)), rfl⟩
theorem lk_Jx00060_13 : (.stringRef RJx00060 13 "Array index out of range: " : Cond) ∈ lw_tbl := pm_6 _ (List.mem_of_getElem? (i := 218) (by decide +kernel))
theorem lk_Jx00060_15 : zWd (.methodLink RJx00060 15 yJ4_append_15ec4) := ⟨pm_6 _ (List.mem_of_getElem? (i := 219) (by decide +kernel)), rfl⟩
theorem lk_Jx00060_19 : zWd (.methodLink RJx00060 19 yJ4_append_bf812) := ⟨pm_6 _ (List.mem_of_getElem? (i := 220) (by decide +kernel)), rfl⟩
theorem lk_Jx00060_22 : zWd (.methodLink RJx00060 22 yJ4_toString_0e30d) := ⟨pm_6 _ (List.mem_of_getElem? (i := 221) (by decide +kernel)), rfl⟩
theorem lk_J5_137 : zWd (.methodLink RJ5 137 yJ2_fillNull_b72d1) := ⟨pm_6 _ (List.mem_of_getElem? (i := 222) (by decide +kernel)), rfl⟩
theorem st_J2_fillNull_b72d1 : zWd (.static yJ2_fillNull_b72d1) := ⟨pm_6 _ (List.mem_of_getElem? (i := 223) (by decide +kernel)), rfl⟩
theorem cd_J2_fillNull_b72d1 : zWd (.code yJ2_fillNull_b72d1 cJ2_fillNull_b72d1 3 none) := ⟨pm_6 _ (List.mem_of_getElem? (i := 224) (by decide +kernel)), rfl⟩
theorem lk_J2_380 : zWd (.methodLink RJ2 380 yJ7_fill_eb02e) := ⟨pm_6 _ (List.mem_of_getElem? (i := 225) (by decide +kernel)), rfl⟩
theorem lk_X9_253 : zWd (.methodLink RX9 253 yX3_describe) := ⟨pm_6 _ (List.mem_of_getElem? (i := 226) (by decide +kernel)), rfl⟩
theorem im_X3_describe : zWd (.instanceMethod yX3_describe) := ⟨pm_6 _ (List.mem_of_getElem? (i := 227) (by decide +kernel)), rfl⟩
theorem se_X3_X3_describe : zWd (.selects RX3 yX3_describe yX3_describe) := ⟨pm_6 _ (List.mem_of_getElem? (i := 228) (by decide +kernel)), rfl⟩
theorem cd_X3_describe : zWd (.code yX3_describe cX3_describe 5 none) := ⟨pm_6 _ (List.mem_of_getElem? (i := 229) (by decide +kernel)), rfl⟩
theorem lk_X3_208 : zWd (.methodLink RX3 208 yJ4_append_bf812) := ⟨pm_6 _ (List.mem_of_getElem? (i := 230) (by decide +kernel)), rfl⟩
theorem lk_X3_214 : zWd (.methodLink RX3 214 yJ4_append_cf468) := ⟨pm_6 _ (List.mem_of_getElem? (i := 231) (by decide +kernel)), rfl⟩
theorem im_J4_append_cf468 : zWd (.instanceMethod yJ4_append_cf468) := ⟨pm_6 _ (List.mem_of_getElem? (i := 232) (by decide +kernel)), rfl⟩
theorem se_J4_J4_append_cf468 : zWd (.selects RJ4 yJ4_append_cf468 yJ4_append_cf468) := ⟨pm_6 _ (List.mem_of_getElem? (i := 233) (by decide +kernel)), rfl⟩
theorem cd_J4_append_cf468 : zWd (.code yJ4_append_cf468 cJ4_append_cf468 2 (some (.object "java/lang/StringBuilder"))) := ⟨pm_6 _ (List.mem_of_getElem? (i := 234) (by decide +kernel)), rfl⟩
theorem lk_J4_50 : zWd (.methodLink RJ4 50 yJ5_append_3fe6f) := ⟨pm_6 _ (List.mem_of_getElem? (i := 235) (by decide +kernel)), rfl⟩
theorem im_J5_append_3fe6f : zWd (.instanceMethod yJ5_append_3fe6f) := ⟨pm_6 _ (List.mem_of_getElem? (i := 236) (by decide +kernel)), rfl⟩
theorem cd_J5_append_3fe6f : zWd (.code yJ5_append_3fe6f cJ5_append_3fe6f 2 (some (.object "java/lang/AbstractStringBuilder"))) := ⟨pm_6 _ (List.mem_of_getElem? (i := 237) (by decide +kernel)), rfl⟩
theorem lk_J5_191 : zWd (.methodLink RJ5 191 yJ1_canEncode_fc78d) := ⟨pm_6 _ (List.mem_of_getElem? (i := 238) (by decide +kernel)), rfl⟩
theorem st_J1_canEncode_fc78d : zWd (.static yJ1_canEncode_fc78d) := ⟨pm_6 _ (List.mem_of_getElem? (i := 239) (by decide +kernel)), rfl⟩
theorem cd_J1_canEncode_fc78d : zWd (.code yJ1_canEncode_fc78d cJ1_canEncode_fc78d 1 (some .boolean)) := ⟨pm_7 _ (List.mem_of_getElem? (i := 0) (by decide +kernel)), rfl⟩
theorem lk_J5_197 : zWd (.methodLink RJ5 197 yJ2_putCharSB_b72d1) := ⟨pm_7 _ (List.mem_of_getElem? (i := 1) (by decide +kernel)), rfl⟩
theorem st_J2_putCharSB_b72d1 : zWd (.static yJ2_putCharSB_b72d1) := ⟨pm_7 _ (List.mem_of_getElem? (i := 2) (by decide +kernel)), rfl⟩
theorem cd_J2_putCharSB_b72d1 : zWd (.code yJ2_putCharSB_b72d1 cJ2_putCharSB_b72d1 3 none) := ⟨pm_7 _ (List.mem_of_getElem? (i := 3) (by decide +kernel)), rfl⟩
theorem lk_J2_67 : zWd (.methodLink RJ2 67 yJ2_checkIndex_2214a) := ⟨pm_7 _ (List.mem_of_getElem? (i := 4) (by decide +kernel)), rfl⟩
theorem st_J2_checkIndex_2214a : zWd (.static yJ2_checkIndex_2214a) := ⟨pm_7 _ (List.mem_of_getElem? (i := 5) (by decide +kernel)), rfl⟩
theorem cd_J2_checkIndex_2214a : zWd (.code yJ2_checkIndex_2214a cJ2_checkIndex_2214a 2 none) := ⟨pm_7 _ (List.mem_of_getElem? (i := 6) (by decide +kernel)), rfl⟩
theorem lk_J2_414 : zWd (.methodLink RJ2 414 yJ0_checkIndex_df160) := ⟨pm_7 _ (List.mem_of_getElem? (i := 7) (by decide +kernel)), rfl⟩
theorem st_J0_checkIndex_df160 : zWd (.static yJ0_checkIndex_df160) := ⟨pm_7 _ (List.mem_of_getElem? (i := 8) (by decide +kernel)), rfl⟩
theorem cd_J0_checkIndex_df160 : zWd (.code yJ0_checkIndex_df160 cJ0_checkIndex_df160 2 none) := ⟨pm_7 _ (List.mem_of_getElem? (i := 9) (by decide +kernel)), rfl⟩
theorem lk_J0_1059 : zWd (.methodLink RJ0 1059 yJ3_checkIndex_8e157) := ⟨pm_7 _ (List.mem_of_getElem? (i := 10) (by decide +kernel)), rfl⟩
theorem st_J3_checkIndex_8e157 : zWd (.static yJ3_checkIndex_8e157) := ⟨pm_7 _ (List.mem_of_getElem? (i := 11) (by decide +kernel)), rfl⟩
theorem cd_J3_checkIndex_8e157 : zWd (.code yJ3_checkIndex_8e157 cJ3_checkIndex_8e157 3 (some .int)) := ⟨pm_7 _ (List.mem_of_getElem? (i := 12) (by decide +kernel)), rfl⟩
theorem lk_X9_257 : zWd (.methodLink RX9 257 yJ4_length_8abf5) := ⟨pm_7 _ (List.mem_of_getElem? (i := 13) (by decide +kernel)), rfl⟩
theorem lk_L_350 : zWd (.methodLink RL 350 yL_outputAt) := ⟨pm_7 _ (List.mem_of_getElem? (i := 14) (by decide +kernel)), rfl⟩
theorem st_L_outputAt : zWd (.static yL_outputAt) := ⟨pm_7 _ (List.mem_of_getElem? (i := 15) (by decide +kernel)), rfl⟩
theorem cd_L_outputAt : zWd (.codeWith yL_outputAt cL_outputAt 4 (some .int) [(0, 9, 12, 13)]) := ⟨pm_7 _ (List.mem_of_getElem? (i := 16) (by decide +kernel)), rfl⟩
theorem lk_L_137 : zWd (.methodLink RL 137 yX9_outputAt) := ⟨pm_7 _ (List.mem_of_getElem? (i := 17) (by decide +kernel)), rfl⟩
theorem im_X9_outputAt : zWd (.instanceMethod yX9_outputAt) := ⟨pm_7 _ (List.mem_of_getElem? (i := 18) (by decide +kernel)), rfl⟩
theorem se_X9_X9_outputAt : zWd (.selects RX9 yX9_outputAt yX9_outputAt) := ⟨pm_7 _ (List.mem_of_getElem? (i := 19) (by decide +kernel)), rfl⟩
theorem cd_X9_outputAt : zWd (.code yX9_outputAt cX9_outputAt 2 (some .char)) := ⟨pm_7 _ (List.mem_of_getElem? (i := 20) (by decide +kernel)), rfl⟩
theorem lk_X9_262 : (.stringRef RX9 262 "no character at this index" : Cond) ∈ lw_tbl := pm_7 _ (List.mem_of_getElem? (i := 21) (by decide +kernel))
theorem lk_X9_265 : zWd (.methodLink RX9 265 yJ4_charAt_5068e) := ⟨pm_7 _ (List.mem_of_getElem? (i := 22) (by decide +kernel)), rfl⟩
theorem im_J4_charAt_5068e : zWd (.instanceMethod yJ4_charAt_5068e) := ⟨pm_7 _ (List.mem_of_getElem? (i := 23) (by decide +kernel)), rfl⟩
theorem se_J4_J4_charAt_5068e : zWd (.selects RJ4 yJ4_charAt_5068e yJ4_charAt_5068e) := ⟨pm_7 _ (List.mem_of_getElem? (i := 24) (by decide +kernel)), rfl⟩
theorem cd_J4_charAt_5068e : zWd (.code yJ4_charAt_5068e cJ4_charAt_5068e 2 (some .char)) := ⟨pm_7 _ (List.mem_of_getElem? (i := 25) (by decide +kernel)), rfl⟩
theorem lk_J4_329 : zWd (.methodLink RJ4 329 yJ5_charAt_5068e) := ⟨pm_7 _ (List.mem_of_getElem? (i := 26) (by decide +kernel)), rfl⟩
theorem im_J5_charAt_5068e : zWd (.instanceMethod yJ5_charAt_5068e) := ⟨pm_7 _ (List.mem_of_getElem? (i := 27) (by decide +kernel)), rfl⟩
theorem cd_J5_charAt_5068e : zWd (.code yJ5_charAt_5068e cJ5_charAt_5068e 5 (some .char)) := ⟨pm_7 _ (List.mem_of_getElem? (i := 28) (by decide +kernel)), rfl⟩
theorem lk_J5_138 : zWd (.methodLink RJ5 138 Lib.Math.min.name) := ⟨pm_7 _ (List.mem_of_getElem? (i := 29) (by decide +kernel)), rfl⟩
theorem lk_J5_144 : zWd (.methodLink RJ5 144 yJ0_checkIndex_df160) := ⟨pm_7 _ (List.mem_of_getElem? (i := 30) (by decide +kernel)), rfl⟩
theorem lk_J5_148 : zWd (.methodLink RJ5 148 yJ2_getChar_3b067) := ⟨pm_7 _ (List.mem_of_getElem? (i := 31) (by decide +kernel)), rfl⟩
theorem lk_L_353 : zWd (.methodLink RL 353 yL_appendInput) := ⟨pm_7 _ (List.mem_of_getElem? (i := 32) (by decide +kernel)), rfl⟩
theorem st_L_appendInput : zWd (.static yL_appendInput) := ⟨pm_7 _ (List.mem_of_getElem? (i := 33) (by decide +kernel)), rfl⟩
theorem cd_L_appendInput : zWd (.codeWith yL_appendInput cL_appendInput 4 (some .int) [(0, 9, 12, 15), (0, 9, 15, 145)]) := ⟨pm_7 _ (List.mem_of_getElem? (i := 34) (by decide +kernel)), rfl⟩
theorem lk_L_145 : zWd (.classLink RL 145 "java/lang/IllegalStateException") := ⟨pm_7 _ (List.mem_of_getElem? (i := 35) (by decide +kernel)), rfl⟩
theorem lk_L_141 : zWd (.methodLink RL 141 yX9_appendInput) := ⟨pm_7 _ (List.mem_of_getElem? (i := 36) (by decide +kernel)), rfl⟩
theorem im_X9_appendInput : zWd (.instanceMethod yX9_appendInput) := ⟨pm_7 _ (List.mem_of_getElem? (i := 37) (by decide +kernel)), rfl⟩
theorem se_X9_X9_appendInput : zWd (.selects RX9 yX9_appendInput yX9_appendInput) := ⟨pm_7 _ (List.mem_of_getElem? (i := 38) (by decide +kernel)), rfl⟩
theorem cd_X9_appendInput : zWd (.code yX9_appendInput cX9_appendInput 2 (some .int)) := ⟨pm_7 _ (List.mem_of_getElem? (i := 39) (by decide +kernel)), rfl⟩
theorem lk_X9_269 : (.stringRef RX9 269 "code out of range" : Cond) ∈ lw_tbl := pm_7 _ (List.mem_of_getElem? (i := 40) (by decide +kernel))
theorem lk_X9_271 : zWd (.methodLink RX9 271 yX1_isFull) := ⟨pm_7 _ (List.mem_of_getElem? (i := 41) (by decide +kernel)), rfl⟩
theorem im_X1_isFull : zWd (.instanceMethod yX1_isFull) := ⟨pm_7 _ (List.mem_of_getElem? (i := 42) (by decide +kernel)), rfl⟩
theorem se_X1_X1_isFull : zWd (.selects RX1 yX1_isFull yX1_isFull) := ⟨pm_7 _ (List.mem_of_getElem? (i := 43) (by decide +kernel)), rfl⟩
theorem cd_X1_isFull : zWd (.code yX1_isFull cX1_isFull 1 (some .boolean)) := ⟨pm_7 _ (List.mem_of_getElem? (i := 44) (by decide +kernel)), rfl⟩
theorem lk_X9_274 : zWd (.classLink RX9 274 "java/lang/IllegalStateException") := ⟨pm_7 _ (List.mem_of_getElem? (i := 45) (by decide +kernel)), rfl⟩
theorem it_java_lang_IllegalStateException : zWd (.instantiable "java/lang/IllegalStateException" 6) := ⟨pm_7 _ (List.mem_of_getElem? (i := 46) (by decide +kernel)), rfl⟩
theorem ca_java_lang_IllegalStateException_java_lang_IllegalStateException : (.castable "java/lang/IllegalStateException" "java/lang/IllegalStateException" : Cond) ∈ lw_tbl := pm_7 _ (List.mem_of_getElem? (i := 47) (by decide +kernel))
theorem ly_java_lang_IllegalStateException_cause : zWd (.lays "java/lang/IllegalStateException" "java/lang/Throwable" "cause" "Ljava/lang/Throwable;") := ⟨pm_7 _ (List.mem_of_getElem? (i := 49) (by decide +kernel)), rfl⟩
theorem ly_java_lang_IllegalStateException_stackTrace : zWd (.lays "java/lang/IllegalStateException" "java/lang/Throwable" "stackTrace" "[Ljava/lang/StackTraceElement;") := ⟨pm_7 _ (List.mem_of_getElem? (i := 50) (by decide +kernel)), rfl⟩
theorem ly_java_lang_IllegalStateException_suppressedExceptions : zWd (.lays "java/lang/IllegalStateException" "java/lang/Throwable" "suppressedExceptions" "Ljava/util/List;") := ⟨pm_7 _ (List.mem_of_getElem? (i := 51) (by decide +kernel)), rfl⟩
theorem ly_java_lang_IllegalStateException_detailMessage : zWd (.lays "java/lang/IllegalStateException" "java/lang/Throwable" "detailMessage" "Ljava/lang/String;") := ⟨pm_7 _ (List.mem_of_getElem? (i := 52) (by decide +kernel)), rfl⟩
theorem ly_java_lang_IllegalStateException_backtrace : zWd (.lays "java/lang/IllegalStateException" "java/lang/Throwable" "backtrace" "Ljava/lang/Object;") := ⟨pm_7 _ (List.mem_of_getElem? (i := 53) (by decide +kernel)), rfl⟩
theorem lk_X9_276 : (.stringRef RX9 276 "the input is full" : Cond) ∈ lw_tbl := pm_7 _ (List.mem_of_getElem? (i := 54) (by decide +kernel))
theorem ly_java_lang_IllegalStateException_depth : zWd (.lays "java/lang/IllegalStateException" "java/lang/Throwable" "depth" "I") := ⟨pm_7 _ (List.mem_of_getElem? (i := 59) (by decide +kernel)), rfl⟩
theorem su_java_lang_IllegalStateException_java_lang_RuntimeException : zWd (.superclass "java/lang/IllegalStateException" "java/lang/RuntimeException") := ⟨pm_7 _ (List.mem_of_getElem? (i := 60) (by decide +kernel)), rfl⟩
theorem lk_X9_279 : zWd (.methodLink RX9 279 yX1_take) := ⟨pm_7 _ (List.mem_of_getElem? (i := 61) (by decide +kernel)), rfl⟩
theorem im_X1_take : zWd (.instanceMethod yX1_take) := ⟨pm_7 _ (List.mem_of_getElem? (i := 62) (by decide +kernel)), rfl⟩
theorem se_X1_X1_take : zWd (.selects RX1 yX1_take yX1_take) := ⟨pm_7 _ (List.mem_of_getElem? (i := 63) (by decide +kernel)), rfl⟩
theorem cd_X1_take : zWd (.code yX1_take cX1_take 2 (some .int)) := ⟨pm_7 _ (List.mem_of_getElem? (i := 64) (by decide +kernel)), rfl⟩
theorem lk_X1_29 : zWd (.methodLink RX1 29 yX1_isFull) := ⟨pm_7 _ (List.mem_of_getElem? (i := 65) (by decide +kernel)), rfl⟩
theorem lk_L_357 : zWd (.methodLink RL 357 yL_execute) := ⟨pm_7 _ (List.mem_of_getElem? (i := 66) (by decide +kernel)), rfl⟩
theorem st_L_execute : zWd (.static yL_execute) := ⟨pm_7 _ (List.mem_of_getElem? (i := 67) (by decide +kernel)), rfl⟩
theorem cd_L_execute : zWd (.codeWith yL_execute cL_execute 3 (some .int) [(0, 8, 11, 15), (0, 8, 14, 145), (0, 8, 17, 17)]) := ⟨pm_7 _ (List.mem_of_getElem? (i := 68) (by decide +kernel)), rfl⟩
theorem lk_L_147 : zWd (.methodLink RL 147 yX9_execute) := ⟨pm_7 _ (List.mem_of_getElem? (i := 69) (by decide +kernel)), rfl⟩
theorem im_X9_execute : zWd (.instanceMethod yX9_execute) := ⟨pm_7 _ (List.mem_of_getElem? (i := 70) (by decide +kernel)), rfl⟩
theorem se_X9_X9_execute : zWd (.selects RX9 yX9_execute yX9_execute) := ⟨pm_7 _ (List.mem_of_getElem? (i := 71) (by decide +kernel)), rfl⟩
theorem cd_X9_execute : zWd (.code yX9_execute cX9_execute 3 (some .int)) := ⟨pm_7 _ (List.mem_of_getElem? (i := 72) (by decide +kernel)), rfl⟩
theorem lk_X9_283 : zWd (.methodLink RX9 283 yX1_readCommands) := ⟨pm_7 _ (List.mem_of_getElem? (i := 73) (by decide +kernel)), rfl⟩
theorem im_X1_readCommands : zWd (.instanceMethod yX1_readCommands) := ⟨pm_7 _ (List.mem_of_getElem? (i := 74) (by decide +kernel)), rfl⟩
theorem se_X1_X1_readCommands : zWd (.selects RX1 yX1_readCommands yX1_readCommands) := ⟨pm_7 _ (List.mem_of_getElem? (i := 75) (by decide +kernel)), rfl⟩
theorem cd_X1_readCommands : zWd (.code yX1_readCommands cX1_readCommands 2 (some .int)) := ⟨pm_7 _ (List.mem_of_getElem? (i := 76) (by decide +kernel)), rfl⟩
theorem lk_X1_43 : zWd (.methodLink RX1 43 yX1_readCommand) := ⟨pm_7 _ (List.mem_of_getElem? (i := 77) (by decide +kernel)), rfl⟩
theorem im_X1_readCommand : zWd (.instanceMethod yX1_readCommand) := ⟨pm_7 _ (List.mem_of_getElem? (i := 79) (by decide +kernel)), rfl⟩
theorem cd_X1_readCommand : zWd (.code yX1_readCommand cX1_readCommand 4 (some .boolean)) := ⟨pm_7 _ (List.mem_of_getElem? (i := 80) (by decide +kernel)), rfl⟩
theorem lk_X1_46 : zWd (.methodLink RX1 46 yX1_next) := ⟨pm_7 _ (List.mem_of_getElem? (i := 81) (by decide +kernel)), rfl⟩
theorem im_X1_next : zWd (.instanceMethod yX1_next) := ⟨pm_7 _ (List.mem_of_getElem? (i := 83) (by decide +kernel)), rfl⟩
theorem cd_X1_next : zWd (.code yX1_next cX1_next 1 (some .char)) := ⟨pm_7 _ (List.mem_of_getElem? (i := 84) (by decide +kernel)), rfl⟩
theorem lk_X1_66 : zWd (.methodLink RX1 66 yX1_shapeOf) := ⟨pm_7 _ (List.mem_of_getElem? (i := 85) (by decide +kernel)), rfl⟩
theorem st_X1_shapeOf : zWd (.static yX1_shapeOf) := ⟨pm_7 _ (List.mem_of_getElem? (i := 86) (by decide +kernel)), rfl⟩
theorem cd_X1_shapeOf : zWd (.code yX1_shapeOf cX1_shapeOf 1 (some (.object "java/lang/String"))) := ⟨pm_7 _ (List.mem_of_getElem? (i := 87) (by decide +kernel)), rfl⟩
theorem lk_X1_54 : (.stringRef RX1 54 "dd" : Cond) ∈ lw_tbl := pm_7 _ (List.mem_of_getElem? (i := 88) (by decide +kernel))
theorem lk_X1_56 : (.stringRef RX1 56 "d=n" : Cond) ∈ lw_tbl := pm_7 _ (List.mem_of_getElem? (i := 89) (by decide +kernel))
theorem lk_X1_58 : (.stringRef RX1 58 "n>d" : Cond) ∈ lw_tbl := pm_7 _ (List.mem_of_getElem? (i := 90) (by decide +kernel))
theorem lk_X1_60 : (.stringRef RX1 60 "d>d" : Cond) ∈ lw_tbl := pm_7 _ (List.mem_of_getElem? (i := 91) (by decide +kernel))
theorem lk_X1_62 : (.stringRef RX1 62 "n" : Cond) ∈ lw_tbl := pm_7 _ (List.mem_of_getElem? (i := 92) (by decide +kernel))
theorem lk_X1_64 : (.stringRef RX1 64 "" : Cond) ∈ lw_tbl := pm_7 _ (List.mem_of_getElem? (i := 93) (by decide +kernel))
theorem lk_X1_70 : zWd (.methodLink RX1 70 yJ0_isEmpty_aae02) := ⟨pm_7 _ (List.mem_of_getElem? (i := 94) (by decide +kernel)), rfl⟩
theorem im_J0_isEmpty_aae02 : zWd (.instanceMethod yJ0_isEmpty_aae02) := ⟨pm_7 _ (List.mem_of_getElem? (i := 95) (by decide +kernel)), rfl⟩
theorem se_J0_J0_isEmpty_aae02 : zWd (.selects RJ0 yJ0_isEmpty_aae02 yJ0_isEmpty_aae02) := ⟨pm_7 _ (List.mem_of_getElem? (i := 96) (by decide +kernel)), rfl⟩
theorem cd_J0_isEmpty_aae02 : zWd (.code yJ0_isEmpty_aae02 cJ0_isEmpty_aae02 1 (some .boolean)) := ⟨pm_7 _ (List.mem_of_getElem? (i := 97) (by decide +kernel)), rfl⟩
theorem lk_X1_75 : zWd (.methodLink RX1 75 yJ0_length_8abf5) := ⟨pm_7 _ (List.mem_of_getElem? (i := 98) (by decide +kernel)), rfl⟩
theorem lk_X1_78 : zWd (.methodLink RX1 78 yJ0_charAt_5068e) := ⟨pm_7 _ (List.mem_of_getElem? (i := 99) (by decide +kernel)), rfl⟩
theorem im_J0_charAt_5068e : zWd (.instanceMethod yJ0_charAt_5068e) := ⟨pm_7 _ (List.mem_of_getElem? (i := 100) (by decide +kernel)), rfl⟩
theorem se_J0_J0_charAt_5068e : zWd (.selects RJ0 yJ0_charAt_5068e yJ0_charAt_5068e) := ⟨pm_7 _ (List.mem_of_getElem? (i := 101) (by decide +kernel)), rfl⟩
theorem cd_J0_charAt_5068e : zWd (.code yJ0_charAt_5068e cJ0_charAt_5068e 2 (some .char)) := ⟨pm_7 _ (List.mem_of_getElem? (i := 102) (by decide +kernel)), rfl⟩
theorem lk_J0_492 : zWd (.methodLink RJ0 492 yJ0_isLatin1_aae02) := ⟨pm_7 _ (List.mem_of_getElem? (i := 103) (by decide +kernel)), rfl⟩
theorem im_J0_isLatin1_aae02 : zWd (.instanceMethod yJ0_isLatin1_aae02) := ⟨pm_7 _ (List.mem_of_getElem? (i := 104) (by decide +kernel)), rfl⟩
theorem se_J0_J0_isLatin1_aae02 : zWd (.selects RJ0 yJ0_isLatin1_aae02 yJ0_isLatin1_aae02) := ⟨pm_7 _ (List.mem_of_getElem? (i := 105) (by decide +kernel)), rfl⟩
theorem cd_J0_isLatin1_aae02 : zWd (.code yJ0_isLatin1_aae02 cJ0_isLatin1_aae02 1 (some .boolean)) := ⟨pm_7 _ (List.mem_of_getElem? (i := 106) (by decide +kernel)), rfl⟩
theorem lk_J0_495 : zWd (.methodLink RJ0 495 yJ1_charAt_3b067) := ⟨pm_7 _ (List.mem_of_getElem? (i := 107) (by decide +kernel)), rfl⟩
theorem st_J1_charAt_3b067 : zWd (.static yJ1_charAt_3b067) := ⟨pm_7 _ (List.mem_of_getElem? (i := 108) (by decide +kernel)), rfl⟩
theorem cd_J1_charAt_3b067 : zWd (.code yJ1_charAt_3b067 cJ1_charAt_3b067 2 (some .char)) := ⟨pm_7 _ (List.mem_of_getElem? (i := 109) (by decide +kernel)), rfl⟩
theorem lk_J1_9 : zWd (.methodLink RJ1 9 yJ0_checkIndex_df160) := ⟨pm_7 _ (List.mem_of_getElem? (i := 110) (by decide +kernel)), rfl⟩
theorem lk_J0_498 : zWd (.methodLink RJ0 498 yJ2_charAt_3b067) := ⟨pm_7 _ (List.mem_of_getElem? (i := 111) (by decide +kernel)), rfl⟩
theorem st_J2_charAt_3b067 : zWd (.static yJ2_charAt_3b067) := ⟨pm_7 _ (List.mem_of_getElem? (i := 112) (by decide +kernel)), rfl⟩
theorem cd_J2_charAt_3b067 : zWd (.code yJ2_charAt_3b067 cJ2_charAt_3b067 2 (some .char)) := ⟨pm_7 _ (List.mem_of_getElem? (i := 113) (by decide +kernel)), rfl⟩
theorem lk_X1_82 : zWd (.methodLink RX1 82 yX1_readPart) := ⟨pm_7 _ (List.mem_of_getElem? (i := 114) (by decide +kernel)), rfl⟩
theorem im_X1_readPart : zWd (.instanceMethod yX1_readPart) := ⟨pm_7 _ (List.mem_of_getElem? (i := 116) (by decide +kernel)), rfl⟩
theorem cd_X1_readPart : zWd (.code yX1_readPart cX1_readPart 4 (some .boolean)) := ⟨pm_7 _ (List.mem_of_getElem? (i := 117) (by decide +kernel)), rfl⟩
theorem lk_X1_50 : zWd (.methodLink RX1 50 yX1_readSign) := ⟨pm_7 _ (List.mem_of_getElem? (i := 118) (by decide +kernel)), rfl⟩
theorem im_X1_readSign : zWd (.instanceMethod yX1_readSign) := ⟨pm_7 _ (List.mem_of_getElem? (i := 120) (by decide +kernel)), rfl⟩
theorem cd_X1_readSign : zWd (.code yX1_readSign cX1_readSign 2 (some .boolean)) := ⟨pm_7 _ (List.mem_of_getElem? (i := 121) (by decide +kernel)), rfl⟩
theorem lk_X1_86 : zWd (.methodLink RX1 86 yX1_readNumber) := ⟨pm_7 _ (List.mem_of_getElem? (i := 122) (by decide +kernel)), rfl⟩
theorem im_X1_readNumber : zWd (.instanceMethod yX1_readNumber) := ⟨pm_7 _ (List.mem_of_getElem? (i := 124) (by decide +kernel)), rfl⟩
theorem cd_X1_readNumber : zWd (.code yX1_readNumber cX1_readNumber 4 (some .int)) := ⟨pm_7 _ (List.mem_of_getElem? (i := 125) (by decide +kernel)), rfl⟩
theorem lk_X1_90 : zWd (.methodLink RX1 90 yX1_isDigit) := ⟨pm_7 _ (List.mem_of_getElem? (i := 126) (by decide +kernel)), rfl⟩
theorem st_X1_isDigit : zWd (.static yX1_isDigit) := ⟨pm_7 _ (List.mem_of_getElem? (i := 127) (by decide +kernel)), rfl⟩
theorem cd_X1_isDigit : zWd (.code yX1_isDigit cX1_isDigit 1 (some .boolean)) := ⟨pm_7 _ (List.mem_of_getElem? (i := 128) (by decide +kernel)), rfl⟩
theorem lk_X1_93 : zWd (.methodLink RX1 93 Lib.Math.max.name) := ⟨pm_7 _ (List.mem_of_getElem? (i := 129) (by decide +kernel)), rfl⟩
theorem lk_X9_286 : zWd (.methodLink RX9 286 yX1_empty) := ⟨pm_7 _ (List.mem_of_getElem? (i := 130) (by decide +kernel)), rfl⟩
theorem im_X1_empty : zWd (.instanceMethod yX1_empty) := ⟨pm_7 _ (List.mem_of_getElem? (i := 131) (by decide +kernel)), rfl⟩
theorem se_X1_X1_empty : zWd (.selects RX1 yX1_empty yX1_empty) := ⟨pm_7 _ (List.mem_of_getElem? (i := 132) (by decide +kernel)), rfl⟩
theorem cd_X1_empty : zWd (.code yX1_empty cX1_empty 1 none) := ⟨pm_7 _ (List.mem_of_getElem? (i := 133) (by decide +kernel)), rfl⟩
theorem lk_X9_289 : (.stringRef RX9 289 "syntax error" : Cond) ∈ lw_tbl := pm_7 _ (List.mem_of_getElem? (i := 134) (by decide +kernel))
theorem lk_X9_291 : zWd (.methodLink RX9 291 yX9_performCommands) := ⟨pm_7 _ (List.mem_of_getElem? (i := 135) (by decide +kernel)), rfl⟩
