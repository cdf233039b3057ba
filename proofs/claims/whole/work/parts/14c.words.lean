theorem im_X9_performCommands : zWd (.instanceMethod yX9_performCommands) := ⟨pm_7 _ (List.mem_of_getElem? (i := 137) (by decide +kernel)), rfl⟩
theorem cd_X9_performCommands : zWd (.code yX9_performCommands cX9_performCommands 5 (some .int)) := ⟨pm_7 _ (List.mem_of_getElem? (i := 138) (by decide +kernel)), rfl⟩
theorem lk_X9_371 : zWd (.methodLink RX9 371 yX1_deedOf) := ⟨pm_7 _ (List.mem_of_getElem? (i := 139) (by decide +kernel)), rfl⟩
theorem im_X1_deedOf : zWd (.instanceMethod yX1_deedOf) := ⟨pm_7 _ (List.mem_of_getElem? (i := 140) (by decide +kernel)), rfl⟩
theorem se_X1_X1_deedOf : zWd (.selects RX1 yX1_deedOf yX1_deedOf) := ⟨pm_7 _ (List.mem_of_getElem? (i := 141) (by decide +kernel)), rfl⟩
theorem cd_X1_deedOf : zWd (.code yX1_deedOf cX1_deedOf 2 (some .char)) := ⟨pm_7 _ (List.mem_of_getElem? (i := 142) (by decide +kernel)), rfl⟩
theorem lk_X1_33 : zWd (.methodLink RX1 33 yX1_isCommand) := ⟨pm_7 _ (List.mem_of_getElem? (i := 143) (by decide +kernel)), rfl⟩
theorem im_X1_isCommand : zWd (.instanceMethod yX1_isCommand) := ⟨pm_7 _ (List.mem_of_getElem? (i := 145) (by decide +kernel)), rfl⟩
theorem cd_X1_isCommand : zWd (.code yX1_isCommand cX1_isCommand 2 (some .boolean)) := ⟨pm_7 _ (List.mem_of_getElem? (i := 146) (by decide +kernel)), rfl⟩
theorem lk_X9_374 : zWd (.methodLink RX9 374 yX1_firstOf) := ⟨pm_7 _ (List.mem_of_getElem? (i := 147) (by decide +kernel)), rfl⟩
theorem im_X1_firstOf : zWd (.instanceMethod yX1_firstOf) := ⟨pm_7 _ (List.mem_of_getElem? (i := 148) (by decide +kernel)), rfl⟩
theorem se_X1_X1_firstOf : zWd (.selects RX1 yX1_firstOf yX1_firstOf) := ⟨pm_7 _ (List.mem_of_getElem? (i := 149) (by decide +kernel)), rfl⟩
theorem cd_X1_firstOf : zWd (.code yX1_firstOf cX1_firstOf 2 (some .int)) := ⟨pm_7 _ (List.mem_of_getElem? (i := 150) (by decide +kernel)), rfl⟩
theorem lk_X9_377 : zWd (.methodLink RX9 377 yX1_secondOf) := ⟨pm_7 _ (List.mem_of_getElem? (i := 151) (by decide +kernel)), rfl⟩
theorem im_X1_secondOf : zWd (.instanceMethod yX1_secondOf) := ⟨pm_7 _ (List.mem_of_getElem? (i := 152) (by decide +kernel)), rfl⟩
theorem se_X1_X1_secondOf : zWd (.selects RX1 yX1_secondOf yX1_secondOf) := ⟨pm_7 _ (List.mem_of_getElem? (i := 153) (by decide +kernel)), rfl⟩
theorem cd_X1_secondOf : zWd (.code yX1_secondOf cX1_secondOf 2 (some .int)) := ⟨pm_7 _ (List.mem_of_getElem? (i := 154) (by decide +kernel)), rfl⟩
theorem lk_X9_295 : zWd (.methodLink RX9 295 yX9_throwForCommand) := ⟨pm_7 _ (List.mem_of_getElem? (i := 155) (by decide +kernel)), rfl⟩
theorem im_X9_throwForCommand : zWd (.instanceMethod yX9_throwForCommand) := ⟨pm_7 _ (List.mem_of_getElem? (i := 157) (by decide +kernel)), rfl⟩
theorem cd_X9_throwForCommand : zWd (.code yX9_throwForCommand cX9_throwForCommand 2 none) := ⟨pm_7 _ (List.mem_of_getElem? (i := 158) (by decide +kernel)), rfl⟩
theorem lk_X9_383 : (.stringRef RX9 383 "a command is not accepted" : Cond) ∈ lw_tbl := pm_7 _ (List.mem_of_getElem? (i := 159) (by decide +kernel))
theorem lk_X9_385 : (.stringRef RX9 385 "a command is rejected" : Cond) ∈ lw_tbl := pm_7 _ (List.mem_of_getElem? (i := 160) (by decide +kernel))
theorem lk_L_361 : zWd (.methodLink RL 361 yL_syntaxErrorOffset) := ⟨pm_7 _ (List.mem_of_getElem? (i := 161) (by decide +kernel)), rfl⟩
theorem st_L_syntaxErrorOffset : zWd (.static yL_syntaxErrorOffset) := ⟨pm_7 _ (List.mem_of_getElem? (i := 162) (by decide +kernel)), rfl⟩
theorem cd_L_syntaxErrorOffset : zWd (.codeWith yL_syntaxErrorOffset cL_syntaxErrorOffset 3 (some .int) [(0, 8, 11, 29)]) := ⟨pm_7 _ (List.mem_of_getElem? (i := 163) (by decide +kernel)), rfl⟩
theorem lk_L_151 : zWd (.methodLink RL 151 yX9_syntaxErrorOffset) := ⟨pm_7 _ (List.mem_of_getElem? (i := 164) (by decide +kernel)), rfl⟩
theorem im_X9_syntaxErrorOffset : zWd (.instanceMethod yX9_syntaxErrorOffset) := ⟨pm_7 _ (List.mem_of_getElem? (i := 165) (by decide +kernel)), rfl⟩
theorem se_X9_X9_syntaxErrorOffset : zWd (.selects RX9 yX9_syntaxErrorOffset yX9_syntaxErrorOffset) := ⟨pm_7 _ (List.mem_of_getElem? (i := 166) (by decide +kernel)), rfl⟩
theorem cd_X9_syntaxErrorOffset : zWd (.code yX9_syntaxErrorOffset cX9_syntaxErrorOffset 1 (some .int)) := ⟨pm_7 _ (List.mem_of_getElem? (i := 167) (by decide +kernel)), rfl⟩
theorem lk_L_364 : zWd (.methodLink RL 364 yL_rejectionReason) := ⟨pm_7 _ (List.mem_of_getElem? (i := 168) (by decide +kernel)), rfl⟩
theorem st_L_rejectionReason : zWd (.static yL_rejectionReason) := ⟨pm_7 _ (List.mem_of_getElem? (i := 169) (by decide +kernel)), rfl⟩
theorem cd_L_rejectionReason : zWd (.codeWith yL_rejectionReason cL_rejectionReason 3 (some .int) [(0, 8, 11, 29)]) := ⟨pm_7 _ (List.mem_of_getElem? (i := 170) (by decide +kernel)), rfl⟩
theorem lk_L_154 : zWd (.methodLink RL 154 yX9_rejectionReason) := ⟨pm_7 _ (List.mem_of_getElem? (i := 171) (by decide +kernel)), rfl⟩
theorem im_X9_rejectionReason : zWd (.instanceMethod yX9_rejectionReason) := ⟨pm_7 _ (List.mem_of_getElem? (i := 172) (by decide +kernel)), rfl⟩
theorem se_X9_X9_rejectionReason : zWd (.selects RX9 yX9_rejectionReason yX9_rejectionReason) := ⟨pm_7 _ (List.mem_of_getElem? (i := 173) (by decide +kernel)), rfl⟩
theorem cd_X9_rejectionReason : zWd (.code yX9_rejectionReason cX9_rejectionReason 1 (some .int)) := ⟨pm_7 _ (List.mem_of_getElem? (i := 174) (by decide +kernel)), rfl⟩
theorem lk_X9_301 : zWd (.methodLink RX9 301 yX9_demandRejection) := ⟨pm_7 _ (List.mem_of_getElem? (i := 175) (by decide +kernel)), rfl⟩
theorem im_X9_demandRejection : zWd (.instanceMethod yX9_demandRejection) := ⟨pm_7 _ (List.mem_of_getElem? (i := 177) (by decide +kernel)), rfl⟩
theorem cd_X9_demandRejection : zWd (.code yX9_demandRejection cX9_demandRejection 1 none) := ⟨pm_7 _ (List.mem_of_getElem? (i := 178) (by decide +kernel)), rfl⟩
theorem lk_X9_343 : (.stringRef RX9 343 "no call was rejected" : Cond) ∈ lw_tbl := pm_7 _ (List.mem_of_getElem? (i := 179) (by decide +kernel))
theorem lk_L_367 : zWd (.methodLink RL 367 yL_rejectionDetail) := ⟨pm_7 _ (List.mem_of_getElem? (i := 180) (by decide +kernel)), rfl⟩
theorem st_L_rejectionDetail : zWd (.static yL_rejectionDetail) := ⟨pm_7 _ (List.mem_of_getElem? (i := 181) (by decide +kernel)), rfl⟩
theorem cd_L_rejectionDetail : zWd (.codeWith yL_rejectionDetail cL_rejectionDetail 3 (some .int) [(0, 8, 11, 29)]) := ⟨pm_7 _ (List.mem_of_getElem? (i := 182) (by decide +kernel)), rfl⟩
theorem lk_L_157 : zWd (.methodLink RL 157 yX9_rejectionDetail) := ⟨pm_7 _ (List.mem_of_getElem? (i := 183) (by decide +kernel)), rfl⟩
theorem im_X9_rejectionDetail : zWd (.instanceMethod yX9_rejectionDetail) := ⟨pm_7 _ (List.mem_of_getElem? (i := 184) (by decide +kernel)), rfl⟩
theorem se_X9_X9_rejectionDetail : zWd (.selects RX9 yX9_rejectionDetail yX9_rejectionDetail) := ⟨pm_7 _ (List.mem_of_getElem? (i := 185) (by decide +kernel)), rfl⟩
theorem cd_X9_rejectionDetail : zWd (.code yX9_rejectionDetail cX9_rejectionDetail 1 (some .int)) := ⟨pm_7 _ (List.mem_of_getElem? (i := 186) (by decide +kernel)), rfl⟩
theorem lk_L_370 : zWd (.methodLink RL 370 yL_causeReason) := ⟨pm_7 _ (List.mem_of_getElem? (i := 187) (by decide +kernel)), rfl⟩
theorem st_L_causeReason : zWd (.static yL_causeReason) := ⟨pm_7 _ (List.mem_of_getElem? (i := 188) (by decide +kernel)), rfl⟩
theorem cd_L_causeReason : zWd (.codeWith yL_causeReason cL_causeReason 3 (some .int) [(0, 8, 11, 29)]) := ⟨pm_7 _ (List.mem_of_getElem? (i := 189) (by decide +kernel)), rfl⟩
theorem lk_L_160 : zWd (.methodLink RL 160 yX9_causeReason) := ⟨pm_7 _ (List.mem_of_getElem? (i := 190) (by decide +kernel)), rfl⟩
theorem im_X9_causeReason : zWd (.instanceMethod yX9_causeReason) := ⟨pm_7 _ (List.mem_of_getElem? (i := 191) (by decide +kernel)), rfl⟩
theorem se_X9_X9_causeReason : zWd (.selects RX9 yX9_causeReason yX9_causeReason) := ⟨pm_7 _ (List.mem_of_getElem? (i := 192) (by decide +kernel)), rfl⟩
theorem cd_X9_causeReason : zWd (.code yX9_causeReason cX9_causeReason 1 (some .int)) := ⟨pm_7 _ (List.mem_of_getElem? (i := 193) (by decide +kernel)), rfl⟩
theorem lk_X9_310 : (.stringRef RX9 310 "no command was rejected lately" : Cond) ∈ lw_tbl := pm_7 _ (List.mem_of_getElem? (i := 194) (by decide +kernel))
theorem lk_L_373 : zWd (.methodLink RL 373 yL_undo) := ⟨pm_7 _ (List.mem_of_getElem? (i := 195) (by decide +kernel)), rfl⟩
theorem st_L_undo : zWd (.static yL_undo) := ⟨pm_7 _ (List.mem_of_getElem? (i := 196) (by decide +kernel)), rfl⟩
theorem cd_L_undo : zWd (.codeWith yL_undo cL_undo 3 (some .int) [(0, 8, 11, 145)]) := ⟨pm_7 _ (List.mem_of_getElem? (i := 197) (by decide +kernel)), rfl⟩
theorem lk_L_163 : zWd (.methodLink RL 163 yX9_undo) := ⟨pm_7 _ (List.mem_of_getElem? (i := 198) (by decide +kernel)), rfl⟩
theorem im_X9_undo : zWd (.instanceMethod yX9_undo) := ⟨pm_7 _ (List.mem_of_getElem? (i := 199) (by decide +kernel)), rfl⟩
theorem se_X9_X9_undo : zWd (.selects RX9 yX9_undo yX9_undo) := ⟨pm_7 _ (List.mem_of_getElem? (i := 200) (by decide +kernel)), rfl⟩
theorem cd_X9_undo : zWd (.code yX9_undo cX9_undo 1 (some .int)) := ⟨pm_7 _ (List.mem_of_getElem? (i := 201) (by decide +kernel)), rfl⟩
theorem lk_X9_316 : (.stringRef RX9 316 "no change to undo" : Cond) ∈ lw_tbl := pm_7 _ (List.mem_of_getElem? (i := 202) (by decide +kernel))
theorem lk_X9_318 : zWd (.methodLink RX9 318 yX4_takeBack) := ⟨pm_7 _ (List.mem_of_getElem? (i := 203) (by decide +kernel)), rfl⟩
theorem im_X4_takeBack : zWd (.instanceMethod yX4_takeBack) := ⟨pm_7 _ (List.mem_of_getElem? (i := 204) (by decide +kernel)), rfl⟩
theorem se_X4_X4_takeBack : zWd (.selects RX4 yX4_takeBack yX4_takeBack) := ⟨pm_7 _ (List.mem_of_getElem? (i := 205) (by decide +kernel)), rfl⟩
theorem cd_X4_takeBack : zWd (.code yX4_takeBack cX4_takeBack 2 none) := ⟨pm_7 _ (List.mem_of_getElem? (i := 206) (by decide +kernel)), rfl⟩
theorem lk_L_380 : zWd (.methodLink RL 380 yL_restoreSnapshot) := ⟨pm_7 _ (List.mem_of_getElem? (i := 207) (by decide +kernel)), rfl⟩
theorem st_L_restoreSnapshot : zWd (.static yL_restoreSnapshot) := ⟨pm_7 _ (List.mem_of_getElem? (i := 208) (by decide +kernel)), rfl⟩
theorem cd_L_restoreSnapshot : zWd (.codeWith yL_restoreSnapshot cL_restoreSnapshot 3 (some .int) [(0, 8, 11, 145)]) := ⟨pm_7 _ (List.mem_of_getElem? (i := 209) (by decide +kernel)), rfl⟩
theorem lk_L_166 : zWd (.methodLink RL 166 yX9_restoreSnapshot) := ⟨pm_7 _ (List.mem_of_getElem? (i := 210) (by decide +kernel)), rfl⟩
theorem im_X9_restoreSnapshot : zWd (.instanceMethod yX9_restoreSnapshot) := ⟨pm_7 _ (List.mem_of_getElem? (i := 211) (by decide +kernel)), rfl⟩
theorem se_X9_X9_restoreSnapshot : zWd (.selects RX9 yX9_restoreSnapshot yX9_restoreSnapshot) := ⟨pm_7 _ (List.mem_of_getElem? (i := 212) (by decide +kernel)), rfl⟩
theorem cd_X9_restoreSnapshot : zWd (.code yX9_restoreSnapshot cX9_restoreSnapshot 1 (some .int)) := ⟨pm_7 _ (List.mem_of_getElem? (i := 213) (by decide +kernel)), rfl⟩
theorem lk_X9_324 : (.stringRef RX9 324 "no snapshot" : Cond) ∈ lw_tbl := pm_7 _ (List.mem_of_getElem? (i := 214) (by decide +kernel))
theorem lk_X9_326 : zWd (.methodLink RX9 326 yX4_forget) := ⟨pm_7 _ (List.mem_of_getElem? (i := 215) (by decide +kernel)), rfl⟩
theorem im_X4_forget : zWd (.instanceMethod yX4_forget) := ⟨pm_7 _ (List.mem_of_getElem? (i := 216) (by decide +kernel)), rfl⟩
theorem se_X4_X4_forget : zWd (.selects RX4 yX4_forget yX4_forget) := ⟨pm_7 _ (List.mem_of_getElem? (i := 217) (by decide +kernel)), rfl⟩
theorem cd_X4_forget : zWd (.code yX4_forget cX4_forget 1 none) := ⟨pm_7 _ (List.mem_of_getElem? (i := 218) (by decide +kernel)), rfl⟩
theorem lk_L_170 : zWd (.classLink RL 170 "ChairMigrationModel") := ⟨pm_7 _ (List.mem_of_getElem? (i := 219) (by decide +kernel)), rfl⟩
theorem it_X10 : zWd (.instantiable RX10 20) := ⟨pm_7 _ (List.mem_of_getElem? (i := 220) (by decide +kernel)), rfl⟩
theorem lk_L_172 : zWd (.methodLink RL 172 yX10_init) := ⟨pm_7 _ (List.mem_of_getElem? (i := 221) (by decide +kernel)), rfl⟩
theorem im_X10_init : zWd (.instanceMethod yX10_init) := ⟨pm_7 _ (List.mem_of_getElem? (i := 222) (by decide +kernel)), rfl⟩
theorem cd_X10_init : zWd (.code yX10_init cX10_init 2 none) := ⟨pm_7 _ (List.mem_of_getElem? (i := 223) (by decide +kernel)), rfl⟩
theorem lk_X10_3 : zWd (.methodLink RX10 3 Lib.objectInit) := ⟨pm_7 _ (List.mem_of_getElem? (i := 224) (by decide +kernel)), rfl⟩
theorem lk_X10_9 : zWd (.fieldLink RX10 9 "ChairMigrationModel" "now" "[I") := ⟨pm_7 _ (List.mem_of_getElem? (i := 225) (by decide +kernel)), rfl⟩
theorem lk_X10_13 : zWd (.fieldLink RX10 13 "ChairMigrationModel" "tried" "[I") := ⟨pm_7 _ (List.mem_of_getElem? (i := 226) (by decide +kernel)), rfl⟩
theorem lk_X10_16 : zWd (.fieldLink RX10 16 "ChairMigrationModel" "thought" "[I") := ⟨pm_7 _ (List.mem_of_getElem? (i := 227) (by decide +kernel)), rfl⟩
theorem lk_X10_19 : zWd (.fieldLink RX10 19 "ChairMigrationModel" "kept" "[I") := ⟨pm_7 _ (List.mem_of_getElem? (i := 228) (by decide +kernel)), rfl⟩
theorem lk_X10_58 : zWd (.fieldLink RX10 58 "ChairMigrationModel" "undos" "I") := ⟨pm_7 _ (List.mem_of_getElem? (i := 229) (by decide +kernel)), rfl⟩
theorem lk_X10_22 : zWd (.fieldLink RX10 22 "ChairMigrationModel" "saved" "[I") := ⟨pm_7 _ (List.mem_of_getElem? (i := 230) (by decide +kernel)), rfl⟩
theorem lk_X10_244 : zWd (.fieldLink RX10 244 "ChairMigrationModel" "isSaved" "Z") := ⟨pm_7 _ (List.mem_of_getElem? (i := 231) (by decide +kernel)), rfl⟩
theorem lk_X10_25 : zWd (.fieldLink RX10 25 "ChairMigrationModel" "output" "[C") := ⟨pm_7 _ (List.mem_of_getElem? (i := 232) (by decide +kernel)), rfl⟩
theorem lk_X10_203 : zWd (.fieldLink RX10 203 "ChairMigrationModel" "written" "I") := ⟨pm_7 _ (List.mem_of_getElem? (i := 233) (by decide +kernel)), rfl⟩
theorem lk_X10_29 : zWd (.fieldLink RX10 29 "ChairMigrationModel" "text" "[C") := ⟨pm_7 _ (List.mem_of_getElem? (i := 234) (by decide +kernel)), rfl⟩
theorem lk_X10_213 : zWd (.fieldLink RX10 213 "ChairMigrationModel" "length" "I") := ⟨pm_7 _ (List.mem_of_getElem? (i := 235) (by decide +kernel)), rfl⟩
theorem lk_X10_216 : zWd (.fieldLink RX10 216 "ChairMigrationModel" "at" "I") := ⟨pm_7 _ (List.mem_of_getElem? (i := 236) (by decide +kernel)), rfl⟩
theorem lk_X10_226 : zWd (.fieldLink RX10 226 "ChairMigrationModel" "word" "C") := ⟨pm_7 _ (List.mem_of_getElem? (i := 237) (by decide +kernel)), rfl⟩
theorem lk_X10_32 : zWd (.fieldLink RX10 32 "ChairMigrationModel" "told" "[I") := ⟨pm_7 _ (List.mem_of_getElem? (i := 238) (by decide +kernel)), rfl⟩
theorem lk_X10_35 : zWd (.fieldLink RX10 35 "ChairMigrationModel" "fault" "I") := ⟨pm_7 _ (List.mem_of_getElem? (i := 239) (by decide +kernel)), rfl⟩
theorem lk_X10_45 : zWd (.fieldLink RX10 45 "ChairMigrationModel" "reason" "I") := ⟨pm_8 _ (List.mem_of_getElem? (i := 0) (by decide +kernel)), rfl⟩
theorem lk_X10_48 : zWd (.fieldLink RX10 48 "ChairMigrationModel" "detail" "I") := ⟨pm_8 _ (List.mem_of_getElem? (i := 1) (by decide +kernel)), rfl⟩
theorem lk_X10_51 : zWd (.fieldLink RX10 51 "ChairMigrationModel" "cause" "I") := ⟨pm_8 _ (List.mem_of_getElem? (i := 2) (by decide +kernel)), rfl⟩
theorem lk_X10_42 : zWd (.fieldLink RX10 42 "ChairMigrationModel" "answer" "I") := ⟨pm_8 _ (List.mem_of_getElem? (i := 3) (by decide +kernel)), rfl⟩
theorem lk_X10_39 : zWd (.fieldLink RX10 39 "ChairMigrationModel" "thrown" "I") := ⟨pm_8 _ (List.mem_of_getElem? (i := 4) (by decide +kernel)), rfl⟩
theorem ly_X10_now : zWd (.laysFinal RX10 "ChairMigrationModel" "now" "[I") := ⟨pm_8 _ (List.mem_of_getElem? (i := 5) (by decide +kernel)), rfl⟩
theorem ly_X10_tried : zWd (.laysFinal RX10 "ChairMigrationModel" "tried" "[I") := ⟨pm_8 _ (List.mem_of_getElem? (i := 7) (by decide +kernel)), rfl⟩
theorem ly_X10_thought : zWd (.laysFinal RX10 "ChairMigrationModel" "thought" "[I") := ⟨pm_8 _ (List.mem_of_getElem? (i := 9) (by decide +kernel)), rfl⟩
theorem ly_X10_kept : zWd (.laysFinal RX10 "ChairMigrationModel" "kept" "[I") := ⟨pm_8 _ (List.mem_of_getElem? (i := 11) (by decide +kernel)), rfl⟩
theorem ly_X10_undos : zWd (.lays RX10 "ChairMigrationModel" "undos" "I") := ⟨pm_8 _ (List.mem_of_getElem? (i := 13) (by decide +kernel)), rfl⟩
theorem ly_X10_saved : zWd (.laysFinal RX10 "ChairMigrationModel" "saved" "[I") := ⟨pm_8 _ (List.mem_of_getElem? (i := 15) (by decide +kernel)), rfl⟩
theorem ly_X10_isSaved : zWd (.lays RX10 "ChairMigrationModel" "isSaved" "Z") := ⟨pm_8 _ (List.mem_of_getElem? (i := 17) (by decide +kernel)), rfl⟩
theorem ly_X10_output : zWd (.laysFinal RX10 "ChairMigrationModel" "output" "[C") := ⟨pm_8 _ (List.mem_of_getElem? (i := 19) (by decide +kernel)), rfl⟩
theorem ly_X10_written : zWd (.lays RX10 "ChairMigrationModel" "written" "I") := ⟨pm_8 _ (List.mem_of_getElem? (i := 21) (by decide +kernel)), rfl⟩
theorem ly_X10_text : zWd (.laysFinal RX10 "ChairMigrationModel" "text" "[C") := ⟨pm_8 _ (List.mem_of_getElem? (i := 23) (by decide +kernel)), rfl⟩
theorem ly_X10_length : zWd (.lays RX10 "ChairMigrationModel" "length" "I") := ⟨pm_8 _ (List.mem_of_getElem? (i := 25) (by decide +kernel)), rfl⟩
theorem ly_X10_at : zWd (.lays RX10 "ChairMigrationModel" "at" "I") := ⟨pm_8 _ (List.mem_of_getElem? (i := 27) (by decide +kernel)), rfl⟩
theorem ly_X10_word : zWd (.lays RX10 "ChairMigrationModel" "word" "C") := ⟨pm_8 _ (List.mem_of_getElem? (i := 29) (by decide +kernel)), rfl⟩
theorem ly_X10_told : zWd (.laysFinal RX10 "ChairMigrationModel" "told" "[I") := ⟨pm_8 _ (List.mem_of_getElem? (i := 31) (by decide +kernel)), rfl⟩
theorem ly_X10_fault : zWd (.lays RX10 "ChairMigrationModel" "fault" "I") := ⟨pm_8 _ (List.mem_of_getElem? (i := 33) (by decide +kernel)), rfl⟩
theorem ly_X10_reason : zWd (.lays RX10 "ChairMigrationModel" "reason" "I") := ⟨pm_8 _ (List.mem_of_getElem? (i := 35) (by decide +kernel)), rfl⟩
theorem ly_X10_detail : zWd (.lays RX10 "ChairMigrationModel" "detail" "I") := ⟨pm_8 _ (List.mem_of_getElem? (i := 37) (by decide +kernel)), rfl⟩
theorem ly_X10_cause : zWd (.lays RX10 "ChairMigrationModel" "cause" "I") := ⟨pm_8 _ (List.mem_of_getElem? (i := 39) (by decide +kernel)), rfl⟩
theorem ly_X10_answer : zWd (.lays RX10 "ChairMigrationModel" "answer" "I") := ⟨pm_8 _ (List.mem_of_getElem? (i := 41) (by decide +kernel)), rfl⟩
theorem ly_X10_thrown : zWd (.lays RX10 "ChairMigrationModel" "thrown" "I") := ⟨pm_8 _ (List.mem_of_getElem? (i := 43) (by decide +kernel)), rfl⟩
theorem su_X10_java_lang_Object : zWd (.superclass RX10 "java/lang/Object") := ⟨pm_8 _ (List.mem_of_getElem? (i := 45) (by decide +kernel)), rfl⟩
theorem lk_L_179 : zWd (.methodLink RL 179 yX10_thrown) := ⟨pm_8 _ (List.mem_of_getElem? (i := 46) (by decide +kernel)), rfl⟩
theorem im_X10_thrown : zWd (.instanceMethod yX10_thrown) := ⟨pm_8 _ (List.mem_of_getElem? (i := 47) (by decide +kernel)), rfl⟩
theorem se_X10_X10_thrown : zWd (.selects RX10 yX10_thrown yX10_thrown) := ⟨pm_8 _ (List.mem_of_getElem? (i := 48) (by decide +kernel)), rfl⟩
theorem cd_X10_thrown : zWd (.code yX10_thrown cX10_thrown 1 (some .int)) := ⟨pm_8 _ (List.mem_of_getElem? (i := 49) (by decide +kernel)), rfl⟩
theorem lk_L_178 : zWd (.methodLink RL 178 yX10_addPath) := ⟨pm_8 _ (List.mem_of_getElem? (i := 50) (by decide +kernel)), rfl⟩
theorem im_X10_addPath : zWd (.instanceMethod yX10_addPath) := ⟨pm_8 _ (List.mem_of_getElem? (i := 51) (by decide +kernel)), rfl⟩
theorem se_X10_X10_addPath : zWd (.selects RX10 yX10_addPath yX10_addPath) := ⟨pm_8 _ (List.mem_of_getElem? (i := 52) (by decide +kernel)), rfl⟩
theorem cd_X10_addPath : zWd (.code yX10_addPath cX10_addPath 3 (some .int)) := ⟨pm_8 _ (List.mem_of_getElem? (i := 53) (by decide +kernel)), rfl⟩
theorem lk_X10_103 : zWd (.methodLink RX10 103 yX10_tries) := ⟨pm_8 _ (List.mem_of_getElem? (i := 54) (by decide +kernel)), rfl⟩
theorem im_X10_tries : zWd (.instanceMethod yX10_tries) := ⟨pm_8 _ (List.mem_of_getElem? (i := 56) (by decide +kernel)), rfl⟩
theorem cd_X10_tries : zWd (.code yX10_tries cX10_tries 2 none) := ⟨pm_8 _ (List.mem_of_getElem? (i := 57) (by decide +kernel)), rfl⟩
theorem lk_X10_106 : zWd (.methodLink RX10 106 yX10_paves) := ⟨pm_8 _ (List.mem_of_getElem? (i := 58) (by decide +kernel)), rfl⟩
theorem im_X10_paves : zWd (.instanceMethod yX10_paves) := ⟨pm_8 _ (List.mem_of_getElem? (i := 60) (by decide +kernel)), rfl⟩
theorem cd_X10_paves : zWd (.code yX10_paves cX10_paves 3 (some .int)) := ⟨pm_8 _ (List.mem_of_getElem? (i := 61) (by decide +kernel)), rfl⟩
theorem lk_X10_85 : zWd (.methodLink RX10 85 yX10_isLawn) := ⟨pm_8 _ (List.mem_of_getElem? (i := 62) (by decide +kernel)), rfl⟩
theorem st_X10_isLawn : zWd (.static yX10_isLawn) := ⟨pm_8 _ (List.mem_of_getElem? (i := 63) (by decide +kernel)), rfl⟩
theorem cd_X10_isLawn : zWd (.code yX10_isLawn cX10_isLawn 1 (some .boolean)) := ⟨pm_8 _ (List.mem_of_getElem? (i := 64) (by decide +kernel)), rfl⟩
theorem lk_X10_61 : zWd (.methodLink RX10 61 yX10_in) := ⟨pm_8 _ (List.mem_of_getElem? (i := 65) (by decide +kernel)), rfl⟩
theorem st_X10_in : zWd (.static yX10_in) := ⟨pm_8 _ (List.mem_of_getElem? (i := 66) (by decide +kernel)), rfl⟩
theorem cd_X10_in : zWd (.code yX10_in cX10_in 3 (some .boolean)) := ⟨pm_8 _ (List.mem_of_getElem? (i := 67) (by decide +kernel)), rfl⟩
theorem lk_X10_89 : zWd (.methodLink RX10 89 yX10_isPathBetween) := ⟨pm_8 _ (List.mem_of_getElem? (i := 68) (by decide +kernel)), rfl⟩
theorem im_X10_isPathBetween : zWd (.instanceMethod yX10_isPathBetween) := ⟨pm_8 _ (List.mem_of_getElem? (i := 70) (by decide +kernel)), rfl⟩
theorem cd_X10_isPathBetween : zWd (.code yX10_isPathBetween cX10_isPathBetween 3 (some .boolean)) := ⟨pm_8 _ (List.mem_of_getElem? (i := 71) (by decide +kernel)), rfl⟩
theorem lk_X10_69 : zWd (.methodLink RX10 69 yX10_lawn) := ⟨pm_8 _ (List.mem_of_getElem? (i := 72) (by decide +kernel)), rfl⟩
theorem im_X10_lawn : zWd (.instanceMethod yX10_lawn) := ⟨pm_8 _ (List.mem_of_getElem? (i := 74) (by decide +kernel)), rfl⟩
theorem cd_X10_lawn : zWd (.code yX10_lawn cX10_lawn 3 (some .int)) := ⟨pm_8 _ (List.mem_of_getElem? (i := 75) (by decide +kernel)), rfl⟩
theorem lk_X10_93 : zWd (.methodLink RX10 93 yX10_paths) := ⟨pm_8 _ (List.mem_of_getElem? (i := 76) (by decide +kernel)), rfl⟩
theorem im_X10_paths : zWd (.instanceMethod yX10_paths) := ⟨pm_8 _ (List.mem_of_getElem? (i := 78) (by decide +kernel)), rfl⟩
theorem cd_X10_paths : zWd (.code yX10_paths cX10_paths 3 (some .int)) := ⟨pm_8 _ (List.mem_of_getElem? (i := 79) (by decide +kernel)), rfl⟩
theorem lk_X10_72 : zWd (.methodLink RX10 72 yJ6_bitCount_0f7a4) := ⟨pm_8 _ (List.mem_of_getElem? (i := 80) (by decide +kernel)), rfl⟩
theorem lk_X10_97 : zWd (.methodLink RX10 97 yX10_rejects) := ⟨pm_8 _ (List.mem_of_getElem? (i := 81) (by decide +kernel)), rfl⟩
theorem im_X10_rejects : zWd (.instanceMethod yX10_rejects) := ⟨pm_8 _ (List.mem_of_getElem? (i := 83) (by decide +kernel)), rfl⟩
theorem cd_X10_rejects : zWd (.code yX10_rejects cX10_rejects 3 (some .int)) := ⟨pm_8 _ (List.mem_of_getElem? (i := 84) (by decide +kernel)), rfl⟩
theorem lk_X10_100 : zWd (.methodLink RX10 100 yX10_does) := ⟨pm_8 _ (List.mem_of_getElem? (i := 85) (by decide +kernel)), rfl⟩
theorem im_X10_does : zWd (.instanceMethod yX10_does) := ⟨pm_8 _ (List.mem_of_getElem? (i := 87) (by decide +kernel)), rfl⟩
theorem cd_X10_does : zWd (.code yX10_does cX10_does 2 (some .int)) := ⟨pm_8 _ (List.mem_of_getElem? (i := 88) (by decide +kernel)), rfl⟩
theorem lk_X10_109 : zWd (.methodLink RX10 109 yX10_ends) := ⟨pm_8 _ (List.mem_of_getElem? (i := 89) (by decide +kernel)), rfl⟩
theorem im_X10_ends : zWd (.instanceMethod yX10_ends) := ⟨pm_8 _ (List.mem_of_getElem? (i := 91) (by decide +kernel)), rfl⟩
theorem cd_X10_ends : zWd (.code yX10_ends cX10_ends 6 (some .int)) := ⟨pm_8 _ (List.mem_of_getElem? (i := 92) (by decide +kernel)), rfl⟩
theorem lk_X10_54 : zWd (.methodLink RX10 54 yX10_raises) := ⟨pm_8 _ (List.mem_of_getElem? (i := 93) (by decide +kernel)), rfl⟩
theorem im_X10_raises : zWd (.instanceMethod yX10_raises) := ⟨pm_8 _ (List.mem_of_getElem? (i := 95) (by decide +kernel)), rfl⟩
theorem cd_X10_raises : zWd (.code yX10_raises cX10_raises 2 (some .int)) := ⟨pm_8 _ (List.mem_of_getElem? (i := 96) (by decide +kernel)), rfl⟩
theorem lk_L_184 : zWd (.methodLink RL 184 yX10_removePath) := ⟨pm_8 _ (List.mem_of_getElem? (i := 97) (by decide +kernel)), rfl⟩
theorem im_X10_removePath : zWd (.instanceMethod yX10_removePath) := ⟨pm_8 _ (List.mem_of_getElem? (i := 98) (by decide +kernel)), rfl⟩
theorem se_X10_X10_removePath : zWd (.selects RX10 yX10_removePath yX10_removePath) := ⟨pm_8 _ (List.mem_of_getElem? (i := 99) (by decide +kernel)), rfl⟩
theorem cd_X10_removePath : zWd (.code yX10_removePath cX10_removePath 3 (some .int)) := ⟨pm_8 _ (List.mem_of_getElem? (i := 100) (by decide +kernel)), rfl⟩
theorem lk_X10_116 : zWd (.methodLink RX10 116 yX10_digs) := ⟨pm_8 _ (List.mem_of_getElem? (i := 101) (by decide +kernel)), rfl⟩
theorem im_X10_digs : zWd (.instanceMethod yX10_digs) := ⟨pm_8 _ (List.mem_of_getElem? (i := 103) (by decide +kernel)), rfl⟩
theorem cd_X10_digs : zWd (.code yX10_digs cX10_digs 3 (some .int)) := ⟨pm_8 _ (List.mem_of_getElem? (i := 104) (by decide +kernel)), rfl⟩
theorem lk_X10_113 : zWd (.methodLink RX10 113 yX10_far) := ⟨pm_8 _ (List.mem_of_getElem? (i := 105) (by decide +kernel)), rfl⟩
theorem im_X10_far : zWd (.instanceMethod yX10_far) := ⟨pm_8 _ (List.mem_of_getElem? (i := 107) (by decide +kernel)), rfl⟩
theorem cd_X10_far : zWd (.code yX10_far cX10_far 7 (some .int)) := ⟨pm_8 _ (List.mem_of_getElem? (i := 108) (by decide +kernel)), rfl⟩
theorem lk_L_208 : zWd (.methodLink RL 208 yX10_setShade) := ⟨pm_8 _ (List.mem_of_getElem? (i := 109) (by decide +kernel)), rfl⟩
theorem im_X10_setShade : zWd (.instanceMethod yX10_setShade) := ⟨pm_8 _ (List.mem_of_getElem? (i := 110) (by decide +kernel)), rfl⟩
theorem se_X10_X10_setShade : zWd (.selects RX10 yX10_setShade yX10_setShade) := ⟨pm_8 _ (List.mem_of_getElem? (i := 111) (by decide +kernel)), rfl⟩
theorem cd_X10_setShade : zWd (.code yX10_setShade cX10_setShade 3 (some .int)) := ⟨pm_8 _ (List.mem_of_getElem? (i := 112) (by decide +kernel)), rfl⟩
theorem lk_X10_119 : zWd (.methodLink RX10 119 yX10_shades) := ⟨pm_8 _ (List.mem_of_getElem? (i := 113) (by decide +kernel)), rfl⟩
theorem im_X10_shades : zWd (.instanceMethod yX10_shades) := ⟨pm_8 _ (List.mem_of_getElem? (i := 115) (by decide +kernel)), rfl⟩
theorem cd_X10_shades : zWd (.code yX10_shades cX10_shades 4 (some .int)) := ⟨pm_8 _ (List.mem_of_getElem? (i := 116) (by decide +kernel)), rfl⟩
theorem lk_L_214 : zWd (.methodLink RL 214 yX10_addChair) := ⟨pm_8 _ (List.mem_of_getElem? (i := 117) (by decide +kernel)), rfl⟩
theorem im_X10_addChair : zWd (.instanceMethod yX10_addChair) := ⟨pm_8 _ (List.mem_of_getElem? (i := 118) (by decide +kernel)), rfl⟩
theorem se_X10_X10_addChair : zWd (.selects RX10 yX10_addChair yX10_addChair) := ⟨pm_8 _ (List.mem_of_getElem? (i := 119) (by decide +kernel)), rfl⟩
theorem cd_X10_addChair : zWd (.code yX10_addChair cX10_addChair 3 (some .int)) := ⟨pm_8 _ (List.mem_of_getElem? (i := 120) (by decide +kernel)), rfl⟩
theorem lk_X10_126 : zWd (.methodLink RX10 126 yX10_comes) := ⟨pm_8 _ (List.mem_of_getElem? (i := 121) (by decide +kernel)), rfl⟩
theorem im_X10_comes : zWd (.instanceMethod yX10_comes) := ⟨pm_8 _ (List.mem_of_getElem? (i := 123) (by decide +kernel)), rfl⟩
theorem cd_X10_comes : zWd (.code yX10_comes cX10_comes 4 (some .int)) := ⟨pm_8 _ (List.mem_of_getElem? (i := 124) (by decide +kernel)), rfl⟩
theorem lk_X10_77 : zWd (.methodLink RX10 77 yX10_sets) := ⟨pm_8 _ (List.mem_of_getElem? (i := 125) (by decide +kernel)), rfl⟩
theorem im_X10_sets : zWd (.instanceMethod yX10_sets) := ⟨pm_8 _ (List.mem_of_getElem? (i := 127) (by decide +kernel)), rfl⟩
theorem cd_X10_sets : zWd (.code yX10_sets cX10_sets 4 none) := ⟨pm_8 _ (List.mem_of_getElem? (i := 128) (by decide +kernel)), rfl⟩
theorem lk_X10_122 : zWd (.methodLink RX10 122 yX10_joins) := ⟨pm_8 _ (List.mem_of_getElem? (i := 129) (by decide +kernel)), rfl⟩
theorem im_X10_joins : zWd (.instanceMethod yX10_joins) := ⟨pm_8 _ (List.mem_of_getElem? (i := 131) (by decide +kernel)), rfl⟩
theorem cd_X10_joins : zWd (.code yX10_joins cX10_joins 4 none) := ⟨pm_8 _ (List.mem_of_getElem? (i := 132) (by decide +kernel)), rfl⟩
theorem lk_X10_65 : zWd (.methodLink RX10 65 yX10_of) := ⟨pm_8 _ (List.mem_of_getElem? (i := 133) (by decide +kernel)), rfl⟩
theorem im_X10_of : zWd (.instanceMethod yX10_of) := ⟨pm_8 _ (List.mem_of_getElem? (i := 135) (by decide +kernel)), rfl⟩
theorem cd_X10_of : zWd (.code yX10_of cX10_of 3 (some .int)) := ⟨pm_8 _ (List.mem_of_getElem? (i := 136) (by decide +kernel)), rfl⟩
theorem lk_L_217 : zWd (.methodLink RL 217 yX10_scrapChair) := ⟨pm_8 _ (List.mem_of_getElem? (i := 137) (by decide +kernel)), rfl⟩
theorem im_X10_scrapChair : zWd (.instanceMethod yX10_scrapChair) := ⟨pm_8 _ (List.mem_of_getElem? (i := 138) (by decide +kernel)), rfl⟩
theorem se_X10_X10_scrapChair : zWd (.selects RX10 yX10_scrapChair yX10_scrapChair) := ⟨pm_8 _ (List.mem_of_getElem? (i := 139) (by decide +kernel)), rfl⟩
theorem cd_X10_scrapChair : zWd (.code yX10_scrapChair cX10_scrapChair 2 (some .int)) := ⟨pm_8 _ (List.mem_of_getElem? (i := 140) (by decide +kernel)), rfl⟩
theorem lk_X10_135 : zWd (.methodLink RX10 135 yX10_scraps) := ⟨pm_8 _ (List.mem_of_getElem? (i := 141) (by decide +kernel)), rfl⟩
theorem im_X10_scraps : zWd (.instanceMethod yX10_scraps) := ⟨pm_8 _ (List.mem_of_getElem? (i := 143) (by decide +kernel)), rfl⟩
theorem cd_X10_scraps : zWd (.code yX10_scraps cX10_scraps 4 (some .int)) := ⟨pm_8 _ (List.mem_of_getElem? (i := 144) (by decide +kernel)), rfl⟩
theorem lk_X10_129 : zWd (.methodLink RX10 129 yX10_place) := ⟨pm_8 _ (List.mem_of_getElem? (i := 145) (by decide +kernel)), rfl⟩
theorem im_X10_place : zWd (.instanceMethod yX10_place) := ⟨pm_8 _ (List.mem_of_getElem? (i := 147) (by decide +kernel)), rfl⟩
theorem cd_X10_place : zWd (.code yX10_place cX10_place 3 (some .int)) := ⟨pm_8 _ (List.mem_of_getElem? (i := 148) (by decide +kernel)), rfl⟩
theorem lk_X10_132 : zWd (.methodLink RX10 132 yX10_removes) := ⟨pm_8 _ (List.mem_of_getElem? (i := 149) (by decide +kernel)), rfl⟩
theorem im_X10_removes : zWd (.instanceMethod yX10_removes) := ⟨pm_8 _ (List.mem_of_getElem? (i := 151) (by decide +kernel)), rfl⟩
theorem cd_X10_removes : zWd (.code yX10_removes cX10_removes 3 none) := ⟨pm_8 _ (List.mem_of_getElem? (i := 152) (by decide +kernel)), rfl⟩
theorem lk_X10_81 : zWd (.methodLink RX10 81 yX10_leaves) := ⟨pm_8 _ (List.mem_of_getElem? (i := 153) (by decide +kernel)), rfl⟩
theorem im_X10_leaves : zWd (.instanceMethod yX10_leaves) := ⟨pm_8 _ (List.mem_of_getElem? (i := 155) (by decide +kernel)), rfl⟩
theorem cd_X10_leaves : zWd (.code yX10_leaves cX10_leaves 5 none) := ⟨pm_8 _ (List.mem_of_getElem? (i := 156) (by decide +kernel)), rfl⟩
theorem lk_L_220 : zWd (.methodLink RL 220 yX10_fold) := ⟨pm_8 _ (List.mem_of_getElem? (i := 157) (by decide +kernel)), rfl⟩
theorem im_X10_fold : zWd (.instanceMethod yX10_fold) := ⟨pm_8 _ (List.mem_of_getElem? (i := 158) (by decide +kernel)), rfl⟩
theorem se_X10_X10_fold : zWd (.selects RX10 yX10_fold yX10_fold) := ⟨pm_8 _ (List.mem_of_getElem? (i := 159) (by decide +kernel)), rfl⟩
theorem cd_X10_fold : zWd (.code yX10_fold cX10_fold 2 (some .int)) := ⟨pm_8 _ (List.mem_of_getElem? (i := 160) (by decide +kernel)), rfl⟩
theorem lk_X10_141 : zWd (.methodLink RX10 141 yX10_folds) := ⟨pm_8 _ (List.mem_of_getElem? (i := 161) (by decide +kernel)), rfl⟩
theorem im_X10_folds : zWd (.instanceMethod yX10_folds) := ⟨pm_8 _ (List.mem_of_getElem? (i := 163) (by decide +kernel)), rfl⟩
theorem cd_X10_folds : zWd (.code yX10_folds cX10_folds 4 (some .int)) := ⟨pm_8 _ (List.mem_of_getElem? (i := 164) (by decide +kernel)), rfl⟩
theorem lk_X10_138 : zWd (.methodLink RX10 138 yX10_folded) := ⟨pm_8 _ (List.mem_of_getElem? (i := 165) (by decide +kernel)), rfl⟩
theorem im_X10_folded : zWd (.instanceMethod yX10_folded) := ⟨pm_8 _ (List.mem_of_getElem? (i := 167) (by decide +kernel)), rfl⟩
theorem cd_X10_folded : zWd (.code yX10_folded cX10_folded 3 (some .int)) := ⟨pm_8 _ (List.mem_of_getElem? (i := 168) (by decide +kernel)), rfl⟩
theorem lk_L_223 : zWd (.methodLink RL 223 yX10_unfold) := ⟨pm_8 _ (List.mem_of_getElem? (i := 169) (by decide +kernel)), rfl⟩
theorem im_X10_unfold : zWd (.instanceMethod yX10_unfold) := ⟨pm_8 _ (List.mem_of_getElem? (i := 170) (by decide +kernel)), rfl⟩
theorem se_X10_X10_unfold : zWd (.selects RX10 yX10_unfold yX10_unfold) := ⟨pm_8 _ (List.mem_of_getElem? (i := 171) (by decide +kernel)), rfl⟩
theorem cd_X10_unfold : zWd (.code yX10_unfold cX10_unfold 2 (some .int)) := ⟨pm_8 _ (List.mem_of_getElem? (i := 172) (by decide +kernel)), rfl⟩
theorem lk_L_226 : zWd (.methodLink RL 226 yX10_moveChair) := ⟨pm_8 _ (List.mem_of_getElem? (i := 173) (by decide +kernel)), rfl⟩
theorem im_X10_moveChair : zWd (.instanceMethod yX10_moveChair) := ⟨pm_8 _ (List.mem_of_getElem? (i := 174) (by decide +kernel)), rfl⟩
theorem se_X10_X10_moveChair : zWd (.selects RX10 yX10_moveChair yX10_moveChair) := ⟨pm_8 _ (List.mem_of_getElem? (i := 175) (by decide +kernel)), rfl⟩
theorem cd_X10_moveChair : zWd (.code yX10_moveChair cX10_moveChair 3 (some .int)) := ⟨pm_8 _ (List.mem_of_getElem? (i := 176) (by decide +kernel)), rfl⟩
theorem lk_X10_144 : zWd (.methodLink RX10 144 yX10_moves) := ⟨pm_8 _ (List.mem_of_getElem? (i := 177) (by decide +kernel)), rfl⟩
theorem im_X10_moves : zWd (.instanceMethod yX10_moves) := ⟨pm_8 _ (List.mem_of_getElem? (i := 179) (by decide +kernel)), rfl⟩
theorem cd_X10_moves : zWd (.code yX10_moves cX10_moves 5 (some .int)) := ⟨pm_8 _ (List.mem_of_getElem? (i := 180) (by decide +kernel)), rfl⟩
theorem lk_L_229 : zWd (.methodLink RL 229 yX10_migrate) := ⟨pm_8 _ (List.mem_of_getElem? (i := 181) (by decide +kernel)), rfl⟩
theorem im_X10_migrate : zWd (.instanceMethod yX10_migrate) := ⟨pm_8 _ (List.mem_of_getElem? (i := 182) (by decide +kernel)), rfl⟩
theorem se_X10_X10_migrate : zWd (.selects RX10 yX10_migrate yX10_migrate) := ⟨pm_8 _ (List.mem_of_getElem? (i := 183) (by decide +kernel)), rfl⟩
theorem cd_X10_migrate : zWd (.code yX10_migrate cX10_migrate 3 (some .int)) := ⟨pm_8 _ (List.mem_of_getElem? (i := 184) (by decide +kernel)), rfl⟩
theorem lk_X10_153 : zWd (.methodLink RX10 153 yX10_wanders) := ⟨pm_8 _ (List.mem_of_getElem? (i := 185) (by decide +kernel)), rfl⟩
theorem im_X10_wanders : zWd (.instanceMethod yX10_wanders) := ⟨pm_8 _ (List.mem_of_getElem? (i := 187) (by decide +kernel)), rfl⟩
theorem cd_X10_wanders : zWd (.code yX10_wanders cX10_wanders 6 (some .int)) := ⟨pm_8 _ (List.mem_of_getElem? (i := 188) (by decide +kernel)), rfl⟩
theorem lk_X10_150 : zWd (.methodLink RX10 150 yX10_open) := ⟨pm_8 _ (List.mem_of_getElem? (i := 189) (by decide +kernel)), rfl⟩
theorem im_X10_open : zWd (.instanceMethod yX10_open) := ⟨pm_8 _ (List.mem_of_getElem? (i := 191) (by decide +kernel)), rfl⟩
theorem cd_X10_open : zWd (.code yX10_open cX10_open 4 (some .int)) := ⟨pm_8 _ (List.mem_of_getElem? (i := 192) (by decide +kernel)), rfl⟩
theorem lk_X10_147 : zWd (.methodLink RX10 147 yX10_herd) := ⟨pm_8 _ (List.mem_of_getElem? (i := 193) (by decide +kernel)), rfl⟩
theorem im_X10_herd : zWd (.instanceMethod yX10_herd) := ⟨pm_8 _ (List.mem_of_getElem? (i := 195) (by decide +kernel)), rfl⟩
theorem cd_X10_herd : zWd (.code yX10_herd cX10_herd 3 (some .int)) := ⟨pm_8 _ (List.mem_of_getElem? (i := 196) (by decide +kernel)), rfl⟩
theorem lk_L_232 : zWd (.methodLink RL 232 yX10_oilChair) := ⟨pm_8 _ (List.mem_of_getElem? (i := 197) (by decide +kernel)), rfl⟩
theorem im_X10_oilChair : zWd (.instanceMethod yX10_oilChair) := ⟨pm_8 _ (List.mem_of_getElem? (i := 198) (by decide +kernel)), rfl⟩
theorem se_X10_X10_oilChair : zWd (.selects RX10 yX10_oilChair yX10_oilChair) := ⟨pm_8 _ (List.mem_of_getElem? (i := 199) (by decide +kernel)), rfl⟩
theorem cd_X10_oilChair : zWd (.code yX10_oilChair cX10_oilChair 2 (some .int)) := ⟨pm_8 _ (List.mem_of_getElem? (i := 200) (by decide +kernel)), rfl⟩
theorem lk_X10_161 : zWd (.methodLink RX10 161 yX10_oils) := ⟨pm_8 _ (List.mem_of_getElem? (i := 201) (by decide +kernel)), rfl⟩
theorem im_X10_oils : zWd (.instanceMethod yX10_oils) := ⟨pm_8 _ (List.mem_of_getElem? (i := 203) (by decide +kernel)), rfl⟩
theorem cd_X10_oils : zWd (.code yX10_oils cX10_oils 3 (some .int)) := ⟨pm_8 _ (List.mem_of_getElem? (i := 204) (by decide +kernel)), rfl⟩
theorem lk_X10_156 : zWd (.methodLink RX10 156 Lib.Math.max.name) := ⟨pm_8 _ (List.mem_of_getElem? (i := 205) (by decide +kernel)), rfl⟩
theorem lk_L_235 : zWd (.methodLink RL 235 yX10_addOil) := ⟨pm_8 _ (List.mem_of_getElem? (i := 206) (by decide +kernel)), rfl⟩
theorem im_X10_addOil : zWd (.instanceMethod yX10_addOil) := ⟨pm_8 _ (List.mem_of_getElem? (i := 207) (by decide +kernel)), rfl⟩
theorem se_X10_X10_addOil : zWd (.selects RX10 yX10_addOil yX10_addOil) := ⟨pm_8 _ (List.mem_of_getElem? (i := 208) (by decide +kernel)), rfl⟩
theorem cd_X10_addOil : zWd (.code yX10_addOil cX10_addOil 2 (some .int)) := ⟨pm_8 _ (List.mem_of_getElem? (i := 209) (by decide +kernel)), rfl⟩
theorem lk_X10_164 : zWd (.methodLink RX10 164 yX10_stores) := ⟨pm_8 _ (List.mem_of_getElem? (i := 210) (by decide +kernel)), rfl⟩
theorem im_X10_stores : zWd (.instanceMethod yX10_stores) := ⟨pm_8 _ (List.mem_of_getElem? (i := 212) (by decide +kernel)), rfl⟩
theorem cd_X10_stores : zWd (.code yX10_stores cX10_stores 2 (some .int)) := ⟨pm_8 _ (List.mem_of_getElem? (i := 213) (by decide +kernel)), rfl⟩
theorem lk_L_275 : zWd (.methodLink RL 275 yX10_passDays) := ⟨pm_8 _ (List.mem_of_getElem? (i := 214) (by decide +kernel)), rfl⟩
theorem im_X10_passDays : zWd (.instanceMethod yX10_passDays) := ⟨pm_8 _ (List.mem_of_getElem? (i := 215) (by decide +kernel)), rfl⟩
theorem se_X10_X10_passDays : zWd (.selects RX10 yX10_passDays yX10_passDays) := ⟨pm_8 _ (List.mem_of_getElem? (i := 216) (by decide +kernel)), rfl⟩
theorem cd_X10_passDays : zWd (.code yX10_passDays cX10_passDays 2 (some .int)) := ⟨pm_8 _ (List.mem_of_getElem? (i := 217) (by decide +kernel)), rfl⟩
theorem lk_X10_173 : zWd (.methodLink RX10 173 yX10_passes) := ⟨pm_8 _ (List.mem_of_getElem? (i := 218) (by decide +kernel)), rfl⟩
theorem im_X10_passes : zWd (.instanceMethod yX10_passes) := ⟨pm_8 _ (List.mem_of_getElem? (i := 220) (by decide +kernel)), rfl⟩
theorem cd_X10_passes : zWd (.code yX10_passes cX10_passes 4 (some .int)) := ⟨pm_8 _ (List.mem_of_getElem? (i := 221) (by decide +kernel)), rfl⟩
theorem lk_X10_170 : zWd (.methodLink RX10 170 yX10_goesBy) := ⟨pm_8 _ (List.mem_of_getElem? (i := 222) (by decide +kernel)), rfl⟩
theorem im_X10_goesBy : zWd (.instanceMethod yX10_goesBy) := ⟨pm_8 _ (List.mem_of_getElem? (i := 224) (by decide +kernel)), rfl⟩
theorem cd_X10_goesBy : zWd (.code yX10_goesBy cX10_goesBy 8 (some .int)) := ⟨pm_8 _ (List.mem_of_getElem? (i := 225) (by decide +kernel)), rfl⟩
theorem lk_X10_167 : zWd (.methodLink RX10 167 Lib.Math.min.name) := ⟨pm_8 _ (List.mem_of_getElem? (i := 226) (by decide +kernel)), rfl⟩
theorem lk_L_187 : zWd (.methodLink RL 187 yX10_isPath) := ⟨pm_8 _ (List.mem_of_getElem? (i := 227) (by decide +kernel)), rfl⟩
theorem im_X10_isPath : zWd (.instanceMethod yX10_isPath) := ⟨pm_8 _ (List.mem_of_getElem? (i := 228) (by decide +kernel)), rfl⟩
theorem se_X10_X10_isPath : zWd (.selects RX10 yX10_isPath yX10_isPath) := ⟨pm_8 _ (List.mem_of_getElem? (i := 229) (by decide +kernel)), rfl⟩
theorem cd_X10_isPath : zWd (.code yX10_isPath cX10_isPath 3 (some .boolean)) := ⟨pm_8 _ (List.mem_of_getElem? (i := 230) (by decide +kernel)), rfl⟩
theorem lk_L_190 : zWd (.methodLink RL 190 yX10_distance) := ⟨pm_8 _ (List.mem_of_getElem? (i := 231) (by decide +kernel)), rfl⟩
theorem im_X10_distance : zWd (.instanceMethod yX10_distance) := ⟨pm_8 _ (List.mem_of_getElem? (i := 232) (by decide +kernel)), rfl⟩
theorem se_X10_X10_distance : zWd (.selects RX10 yX10_distance yX10_distance) := ⟨pm_8 _ (List.mem_of_getElem? (i := 233) (by decide +kernel)), rfl⟩
theorem cd_X10_distance : zWd (.code yX10_distance cX10_distance 4 (some .int)) := ⟨pm_8 _ (List.mem_of_getElem? (i := 234) (by decide +kernel)), rfl⟩
theorem lk_L_193 : zWd (.methodLink RL 193 yX10_distanceByImprovement) := ⟨pm_8 _ (List.mem_of_getElem? (i := 235) (by decide +kernel)), rfl⟩
theorem im_X10_distanceByImprovement : zWd (.instanceMethod yX10_distanceByImprovement) := ⟨pm_8 _ (List.mem_of_getElem? (i := 236) (by decide +kernel)), rfl⟩
theorem se_X10_X10_distanceByImprovement : zWd (.selects RX10 yX10_distanceByImprovement yX10_distanceByImprovement) := ⟨pm_8 _ (List.mem_of_getElem? (i := 237) (by decide +kernel)), rfl⟩
theorem cd_X10_distanceByImprovement : zWd (.code yX10_distanceByImprovement cX10_distanceByImprovement 3 (some .int)) := ⟨pm_8 _ (List.mem_of_getElem? (i := 238) (by decide +kernel)), rfl⟩
theorem lk_X10_176 : zWd (.methodLink RX10 176 yX10_distance) := ⟨pm_8 _ (List.mem_of_getElem? (i := 239) (by decide +kernel)), rfl⟩
theorem lk_L_197 : zWd (.methodLink RL 197 yX10_routeAt) := ⟨pm_9 _ (List.mem_of_getElem? (i := 0) (by decide +kernel)), rfl⟩
theorem im_X10_routeAt : zWd (.instanceMethod yX10_routeAt) := ⟨pm_9 _ (List.mem_of_getElem? (i := 1) (by decide +kernel)), rfl⟩
theorem se_X10_X10_routeAt : zWd (.selects RX10 yX10_routeAt yX10_routeAt) := ⟨pm_9 _ (List.mem_of_getElem? (i := 2) (by decide +kernel)), rfl⟩
theorem cd_X10_routeAt : zWd (.code yX10_routeAt cX10_routeAt 7 (some .int)) := ⟨pm_9 _ (List.mem_of_getElem? (i := 3) (by decide +kernel)), rfl⟩
theorem lk_L_201 : zWd (.methodLink RL 201 yX10_reachableLawns) := ⟨pm_9 _ (List.mem_of_getElem? (i := 4) (by decide +kernel)), rfl⟩
theorem im_X10_reachableLawns : zWd (.instanceMethod yX10_reachableLawns) := ⟨pm_9 _ (List.mem_of_getElem? (i := 5) (by decide +kernel)), rfl⟩
theorem se_X10_X10_reachableLawns : zWd (.selects RX10 yX10_reachableLawns yX10_reachableLawns) := ⟨pm_9 _ (List.mem_of_getElem? (i := 6) (by decide +kernel)), rfl⟩
theorem cd_X10_reachableLawns : zWd (.code yX10_reachableLawns cX10_reachableLawns 4 (some .int)) := ⟨pm_9 _ (List.mem_of_getElem? (i := 7) (by decide +kernel)), rfl⟩
theorem lk_L_205 : zWd (.methodLink RL 205 yX10_pathCount) := ⟨pm_9 _ (List.mem_of_getElem? (i := 8) (by decide +kernel)), rfl⟩
theorem im_X10_pathCount : zWd (.instanceMethod yX10_pathCount) := ⟨pm_9 _ (List.mem_of_getElem? (i := 9) (by decide +kernel)), rfl⟩
theorem se_X10_X10_pathCount : zWd (.selects RX10 yX10_pathCount yX10_pathCount) := ⟨pm_9 _ (List.mem_of_getElem? (i := 10) (by decide +kernel)), rfl⟩
theorem cd_X10_pathCount : zWd (.code yX10_pathCount cX10_pathCount 1 (some .int)) := ⟨pm_9 _ (List.mem_of_getElem? (i := 11) (by decide +kernel)), rfl⟩
theorem lk_L_211 : zWd (.methodLink RL 211 yX10_shadeOf) := ⟨pm_9 _ (List.mem_of_getElem? (i := 12) (by decide +kernel)), rfl⟩
theorem im_X10_shadeOf : zWd (.instanceMethod yX10_shadeOf) := ⟨pm_9 _ (List.mem_of_getElem? (i := 13) (by decide +kernel)), rfl⟩
theorem se_X10_X10_shadeOf : zWd (.selects RX10 yX10_shadeOf yX10_shadeOf) := ⟨pm_9 _ (List.mem_of_getElem? (i := 14) (by decide +kernel)), rfl⟩
theorem cd_X10_shadeOf : zWd (.code yX10_shadeOf cX10_shadeOf 2 (some .int)) := ⟨pm_9 _ (List.mem_of_getElem? (i := 15) (by decide +kernel)), rfl⟩
theorem lk_L_239 : zWd (.methodLink RL 239 yX10_exists) := ⟨pm_9 _ (List.mem_of_getElem? (i := 16) (by decide +kernel)), rfl⟩
theorem im_X10_exists : zWd (.instanceMethod yX10_exists) := ⟨pm_9 _ (List.mem_of_getElem? (i := 17) (by decide +kernel)), rfl⟩
theorem se_X10_X10_exists : zWd (.selects RX10 yX10_exists yX10_exists) := ⟨pm_9 _ (List.mem_of_getElem? (i := 18) (by decide +kernel)), rfl⟩
theorem cd_X10_exists : zWd (.code yX10_exists cX10_exists 2 (some .boolean)) := ⟨pm_9 _ (List.mem_of_getElem? (i := 19) (by decide +kernel)), rfl⟩
theorem lk_L_242 : zWd (.methodLink RL 242 yX10_lawnOf) := ⟨pm_9 _ (List.mem_of_getElem? (i := 20) (by decide +kernel)), rfl⟩
theorem im_X10_lawnOf : zWd (.instanceMethod yX10_lawnOf) := ⟨pm_9 _ (List.mem_of_getElem? (i := 21) (by decide +kernel)), rfl⟩
theorem se_X10_X10_lawnOf : zWd (.selects RX10 yX10_lawnOf yX10_lawnOf) := ⟨pm_9 _ (List.mem_of_getElem? (i := 22) (by decide +kernel)), rfl⟩
theorem cd_X10_lawnOf : zWd (.code yX10_lawnOf cX10_lawnOf 2 (some .int)) := ⟨pm_9 _ (List.mem_of_getElem? (i := 23) (by decide +kernel)), rfl⟩
theorem lk_X10_179 : zWd (.methodLink RX10 179 yX10_tells) := ⟨pm_9 _ (List.mem_of_getElem? (i := 24) (by decide +kernel)), rfl⟩
theorem im_X10_tells : zWd (.instanceMethod yX10_tells) := ⟨pm_9 _ (List.mem_of_getElem? (i := 26) (by decide +kernel)), rfl⟩
theorem cd_X10_tells : zWd (.code yX10_tells cX10_tells 4 (some .int)) := ⟨pm_9 _ (List.mem_of_getElem? (i := 27) (by decide +kernel)), rfl⟩
theorem lk_L_245 : zWd (.methodLink RL 245 yX10_rustOf) := ⟨pm_9 _ (List.mem_of_getElem? (i := 28) (by decide +kernel)), rfl⟩
theorem im_X10_rustOf : zWd (.instanceMethod yX10_rustOf) := ⟨pm_9 _ (List.mem_of_getElem? (i := 29) (by decide +kernel)), rfl⟩
theorem se_X10_X10_rustOf : zWd (.selects RX10 yX10_rustOf yX10_rustOf) := ⟨pm_9 _ (List.mem_of_getElem? (i := 30) (by decide +kernel)), rfl⟩
theorem cd_X10_rustOf : zWd (.code yX10_rustOf cX10_rustOf 2 (some .int)) := ⟨pm_9 _ (List.mem_of_getElem? (i := 31) (by decide +kernel)), rfl⟩
theorem lk_L_248 : zWd (.methodLink RL 248 yX10_isFolded) := ⟨pm_9 _ (List.mem_of_getElem? (i := 32) (by decide +kernel)), rfl⟩
theorem im_X10_isFolded : zWd (.instanceMethod yX10_isFolded) := ⟨pm_9 _ (List.mem_of_getElem? (i := 33) (by decide +kernel)), rfl⟩
theorem se_X10_X10_isFolded : zWd (.selects RX10 yX10_isFolded yX10_isFolded) := ⟨pm_9 _ (List.mem_of_getElem? (i := 34) (by decide +kernel)), rfl⟩
theorem cd_X10_isFolded : zWd (.code yX10_isFolded cX10_isFolded 2 (some .boolean)) := ⟨pm_9 _ (List.mem_of_getElem? (i := 35) (by decide +kernel)), rfl⟩
theorem lk_L_251 : zWd (.methodLink RL 251 yX10_ageOf) := ⟨pm_9 _ (List.mem_of_getElem? (i := 36) (by decide +kernel)), rfl⟩
theorem im_X10_ageOf : zWd (.instanceMethod yX10_ageOf) := ⟨pm_9 _ (List.mem_of_getElem? (i := 37) (by decide +kernel)), rfl⟩
theorem se_X10_X10_ageOf : zWd (.selects RX10 yX10_ageOf yX10_ageOf) := ⟨pm_9 _ (List.mem_of_getElem? (i := 38) (by decide +kernel)), rfl⟩
theorem cd_X10_ageOf : zWd (.code yX10_ageOf cX10_ageOf 3 (some .int)) := ⟨pm_9 _ (List.mem_of_getElem? (i := 39) (by decide +kernel)), rfl⟩
theorem lk_L_254 : zWd (.methodLink RL 254 yX10_positionOf) := ⟨pm_9 _ (List.mem_of_getElem? (i := 40) (by decide +kernel)), rfl⟩
theorem im_X10_positionOf : zWd (.instanceMethod yX10_positionOf) := ⟨pm_9 _ (List.mem_of_getElem? (i := 41) (by decide +kernel)), rfl⟩
theorem se_X10_X10_positionOf : zWd (.selects RX10 yX10_positionOf yX10_positionOf) := ⟨pm_9 _ (List.mem_of_getElem? (i := 42) (by decide +kernel)), rfl⟩
theorem cd_X10_positionOf : zWd (.code yX10_positionOf cX10_positionOf 4 (some .int)) := ⟨pm_9 _ (List.mem_of_getElem? (i := 43) (by decide +kernel)), rfl⟩
theorem lk_L_257 : zWd (.methodLink RL 257 yX10_herdSize) := ⟨pm_9 _ (List.mem_of_getElem? (i := 44) (by decide +kernel)), rfl⟩
theorem im_X10_herdSize : zWd (.instanceMethod yX10_herdSize) := ⟨pm_9 _ (List.mem_of_getElem? (i := 45) (by decide +kernel)), rfl⟩
theorem se_X10_X10_herdSize : zWd (.selects RX10 yX10_herdSize yX10_herdSize) := ⟨pm_9 _ (List.mem_of_getElem? (i := 46) (by decide +kernel)), rfl⟩
theorem cd_X10_herdSize : zWd (.code yX10_herdSize cX10_herdSize 2 (some .int)) := ⟨pm_9 _ (List.mem_of_getElem? (i := 47) (by decide +kernel)), rfl⟩
theorem lk_L_260 : zWd (.methodLink RL 260 yX10_herdSizeByChairs) := ⟨pm_9 _ (List.mem_of_getElem? (i := 48) (by decide +kernel)), rfl⟩
theorem im_X10_herdSizeByChairs : zWd (.instanceMethod yX10_herdSizeByChairs) := ⟨pm_9 _ (List.mem_of_getElem? (i := 49) (by decide +kernel)), rfl⟩
theorem se_X10_X10_herdSizeByChairs : zWd (.selects RX10 yX10_herdSizeByChairs yX10_herdSizeByChairs) := ⟨pm_9 _ (List.mem_of_getElem? (i := 50) (by decide +kernel)), rfl⟩
theorem cd_X10_herdSizeByChairs : zWd (.code yX10_herdSizeByChairs cX10_herdSizeByChairs 2 (some .int)) := ⟨pm_9 _ (List.mem_of_getElem? (i := 51) (by decide +kernel)), rfl⟩
theorem lk_X10_182 : zWd (.methodLink RX10 182 yX10_herdSize) := ⟨pm_9 _ (List.mem_of_getElem? (i := 52) (by decide +kernel)), rfl⟩
theorem lk_L_263 : zWd (.methodLink RL 263 yX10_chairAt) := ⟨pm_9 _ (List.mem_of_getElem? (i := 53) (by decide +kernel)), rfl⟩
theorem im_X10_chairAt : zWd (.instanceMethod yX10_chairAt) := ⟨pm_9 _ (List.mem_of_getElem? (i := 54) (by decide +kernel)), rfl⟩
theorem se_X10_X10_chairAt : zWd (.selects RX10 yX10_chairAt yX10_chairAt) := ⟨pm_9 _ (List.mem_of_getElem? (i := 55) (by decide +kernel)), rfl⟩
theorem cd_X10_chairAt : zWd (.code yX10_chairAt cX10_chairAt 3 (some .int)) := ⟨pm_9 _ (List.mem_of_getElem? (i := 56) (by decide +kernel)), rfl⟩
theorem lk_L_266 : zWd (.methodLink RL 266 yX10_elderOf) := ⟨pm_9 _ (List.mem_of_getElem? (i := 57) (by decide +kernel)), rfl⟩
theorem im_X10_elderOf : zWd (.instanceMethod yX10_elderOf) := ⟨pm_9 _ (List.mem_of_getElem? (i := 58) (by decide +kernel)), rfl⟩
theorem se_X10_X10_elderOf : zWd (.selects RX10 yX10_elderOf yX10_elderOf) := ⟨pm_9 _ (List.mem_of_getElem? (i := 59) (by decide +kernel)), rfl⟩
theorem cd_X10_elderOf : zWd (.code yX10_elderOf cX10_elderOf 4 (some .int)) := ⟨pm_9 _ (List.mem_of_getElem? (i := 60) (by decide +kernel)), rfl⟩
theorem lk_L_269 : zWd (.methodLink RL 269 yX10_hungryChairs) := ⟨pm_9 _ (List.mem_of_getElem? (i := 61) (by decide +kernel)), rfl⟩
theorem im_X10_hungryChairs : zWd (.instanceMethod yX10_hungryChairs) := ⟨pm_9 _ (List.mem_of_getElem? (i := 62) (by decide +kernel)), rfl⟩
theorem se_X10_X10_hungryChairs : zWd (.selects RX10 yX10_hungryChairs yX10_hungryChairs) := ⟨pm_9 _ (List.mem_of_getElem? (i := 63) (by decide +kernel)), rfl⟩
theorem cd_X10_hungryChairs : zWd (.code yX10_hungryChairs cX10_hungryChairs 2 (some .int)) := ⟨pm_9 _ (List.mem_of_getElem? (i := 64) (by decide +kernel)), rfl⟩
theorem lk_L_272 : zWd (.methodLink RL 272 yX10_bestNeighbour) := ⟨pm_9 _ (List.mem_of_getElem? (i := 65) (by decide +kernel)), rfl⟩
theorem im_X10_bestNeighbour : zWd (.instanceMethod yX10_bestNeighbour) := ⟨pm_9 _ (List.mem_of_getElem? (i := 66) (by decide +kernel)), rfl⟩
theorem se_X10_X10_bestNeighbour : zWd (.selects RX10 yX10_bestNeighbour yX10_bestNeighbour) := ⟨pm_9 _ (List.mem_of_getElem? (i := 67) (by decide +kernel)), rfl⟩
theorem cd_X10_bestNeighbour : zWd (.code yX10_bestNeighbour cX10_bestNeighbour 4 (some .int)) := ⟨pm_9 _ (List.mem_of_getElem? (i := 68) (by decide +kernel)), rfl⟩
theorem lk_X10_185 : zWd (.methodLink RX10 185 yX10_isShadier) := ⟨pm_9 _ (List.mem_of_getElem? (i := 69) (by decide +kernel)), rfl⟩
theorem im_X10_isShadier : zWd (.instanceMethod yX10_isShadier) := ⟨pm_9 _ (List.mem_of_getElem? (i := 71) (by decide +kernel)), rfl⟩
theorem cd_X10_isShadier : zWd (.code yX10_isShadier cX10_isShadier 4 (some .boolean)) := ⟨pm_9 _ (List.mem_of_getElem? (i := 72) (by decide +kernel)), rfl⟩
theorem lk_L_279 : zWd (.methodLink RL 279 yX10_day) := ⟨pm_9 _ (List.mem_of_getElem? (i := 73) (by decide +kernel)), rfl⟩
theorem im_X10_day : zWd (.instanceMethod yX10_day) := ⟨pm_9 _ (List.mem_of_getElem? (i := 74) (by decide +kernel)), rfl⟩
theorem se_X10_X10_day : zWd (.selects RX10 yX10_day yX10_day) := ⟨pm_9 _ (List.mem_of_getElem? (i := 75) (by decide +kernel)), rfl⟩
theorem cd_X10_day : zWd (.code yX10_day cX10_day 1 (some .int)) := ⟨pm_9 _ (List.mem_of_getElem? (i := 76) (by decide +kernel)), rfl⟩
theorem lk_L_283 : zWd (.methodLink RL 283 yX10_season) := ⟨pm_9 _ (List.mem_of_getElem? (i := 77) (by decide +kernel)), rfl⟩
theorem im_X10_season : zWd (.instanceMethod yX10_season) := ⟨pm_9 _ (List.mem_of_getElem? (i := 78) (by decide +kernel)), rfl⟩
theorem se_X10_X10_season : zWd (.selects RX10 yX10_season yX10_season) := ⟨pm_9 _ (List.mem_of_getElem? (i := 79) (by decide +kernel)), rfl⟩
theorem cd_X10_season : zWd (.code yX10_season cX10_season 1 (some .int)) := ⟨pm_9 _ (List.mem_of_getElem? (i := 80) (by decide +kernel)), rfl⟩
theorem lk_L_286 : zWd (.methodLink RL 286 yX10_daysUntil) := ⟨pm_9 _ (List.mem_of_getElem? (i := 81) (by decide +kernel)), rfl⟩
theorem im_X10_daysUntil : zWd (.instanceMethod yX10_daysUntil) := ⟨pm_9 _ (List.mem_of_getElem? (i := 82) (by decide +kernel)), rfl⟩
theorem se_X10_X10_daysUntil : zWd (.selects RX10 yX10_daysUntil yX10_daysUntil) := ⟨pm_9 _ (List.mem_of_getElem? (i := 83) (by decide +kernel)), rfl⟩
theorem cd_X10_daysUntil : zWd (.code yX10_daysUntil cX10_daysUntil 3 (some .int)) := ⟨pm_9 _ (List.mem_of_getElem? (i := 84) (by decide +kernel)), rfl⟩
theorem lk_L_289 : zWd (.methodLink RL 289 yX10_wouldCollapse) := ⟨pm_9 _ (List.mem_of_getElem? (i := 85) (by decide +kernel)), rfl⟩
theorem im_X10_wouldCollapse : zWd (.instanceMethod yX10_wouldCollapse) := ⟨pm_9 _ (List.mem_of_getElem? (i := 86) (by decide +kernel)), rfl⟩
theorem se_X10_X10_wouldCollapse : zWd (.selects RX10 yX10_wouldCollapse yX10_wouldCollapse) := ⟨pm_9 _ (List.mem_of_getElem? (i := 87) (by decide +kernel)), rfl⟩
theorem cd_X10_wouldCollapse : zWd (.code yX10_wouldCollapse cX10_wouldCollapse 4 (some .int)) := ⟨pm_9 _ (List.mem_of_getElem? (i := 88) (by decide +kernel)), rfl⟩
theorem lk_X10_188 : zWd (.methodLink RX10 188 yX10_thinks) := ⟨pm_9 _ (List.mem_of_getElem? (i := 89) (by decide +kernel)), rfl⟩
theorem im_X10_thinks : zWd (.instanceMethod yX10_thinks) := ⟨pm_9 _ (List.mem_of_getElem? (i := 91) (by decide +kernel)), rfl⟩
theorem cd_X10_thinks : zWd (.code yX10_thinks cX10_thinks 2 none) := ⟨pm_9 _ (List.mem_of_getElem? (i := 92) (by decide +kernel)), rfl⟩
theorem lk_X10_191 : zWd (.methodLink RX10 191 yX10_forgets) := ⟨pm_9 _ (List.mem_of_getElem? (i := 93) (by decide +kernel)), rfl⟩
theorem im_X10_forgets : zWd (.instanceMethod yX10_forgets) := ⟨pm_9 _ (List.mem_of_getElem? (i := 95) (by decide +kernel)), rfl⟩
theorem cd_X10_forgets : zWd (.code yX10_forgets cX10_forgets 2 none) := ⟨pm_9 _ (List.mem_of_getElem? (i := 96) (by decide +kernel)), rfl⟩
theorem lk_L_292 : zWd (.methodLink RL 292 yX10_collapseDay) := ⟨pm_9 _ (List.mem_of_getElem? (i := 97) (by decide +kernel)), rfl⟩
theorem im_X10_collapseDay : zWd (.instanceMethod yX10_collapseDay) := ⟨pm_9 _ (List.mem_of_getElem? (i := 98) (by decide +kernel)), rfl⟩
theorem se_X10_X10_collapseDay : zWd (.selects RX10 yX10_collapseDay yX10_collapseDay) := ⟨pm_9 _ (List.mem_of_getElem? (i := 99) (by decide +kernel)), rfl⟩
theorem cd_X10_collapseDay : zWd (.code yX10_collapseDay cX10_collapseDay 4 (some .int)) := ⟨pm_9 _ (List.mem_of_getElem? (i := 100) (by decide +kernel)), rfl⟩
theorem lk_L_296 : zWd (.methodLink RL 296 yX10_chairCount) := ⟨pm_9 _ (List.mem_of_getElem? (i := 101) (by decide +kernel)), rfl⟩
theorem im_X10_chairCount : zWd (.instanceMethod yX10_chairCount) := ⟨pm_9 _ (List.mem_of_getElem? (i := 102) (by decide +kernel)), rfl⟩
theorem se_X10_X10_chairCount : zWd (.selects RX10 yX10_chairCount yX10_chairCount) := ⟨pm_9 _ (List.mem_of_getElem? (i := 103) (by decide +kernel)), rfl⟩
theorem cd_X10_chairCount : zWd (.code yX10_chairCount cX10_chairCount 1 (some .int)) := ⟨pm_9 _ (List.mem_of_getElem? (i := 104) (by decide +kernel)), rfl⟩
theorem lk_L_300 : zWd (.methodLink RL 300 yX10_foldedCount) := ⟨pm_9 _ (List.mem_of_getElem? (i := 105) (by decide +kernel)), rfl⟩
theorem im_X10_foldedCount : zWd (.instanceMethod yX10_foldedCount) := ⟨pm_9 _ (List.mem_of_getElem? (i := 106) (by decide +kernel)), rfl⟩
theorem se_X10_X10_foldedCount : zWd (.selects RX10 yX10_foldedCount yX10_foldedCount) := ⟨pm_9 _ (List.mem_of_getElem? (i := 107) (by decide +kernel)), rfl⟩
theorem cd_X10_foldedCount : zWd (.code yX10_foldedCount cX10_foldedCount 1 (some .int)) := ⟨pm_9 _ (List.mem_of_getElem? (i := 108) (by decide +kernel)), rfl⟩
theorem lk_L_304 : zWd (.methodLink RL 304 yX10_oil) := ⟨pm_9 _ (List.mem_of_getElem? (i := 109) (by decide +kernel)), rfl⟩
theorem im_X10_oil : zWd (.instanceMethod yX10_oil) := ⟨pm_9 _ (List.mem_of_getElem? (i := 110) (by decide +kernel)), rfl⟩
theorem se_X10_X10_oil : zWd (.selects RX10 yX10_oil yX10_oil) := ⟨pm_9 _ (List.mem_of_getElem? (i := 111) (by decide +kernel)), rfl⟩
theorem cd_X10_oil : zWd (.code yX10_oil cX10_oil 1 (some .int)) := ⟨pm_9 _ (List.mem_of_getElem? (i := 112) (by decide +kernel)), rfl⟩
theorem lk_L_308 : zWd (.methodLink RL 308 yX10_totalRust) := ⟨pm_9 _ (List.mem_of_getElem? (i := 113) (by decide +kernel)), rfl⟩
theorem im_X10_totalRust : zWd (.instanceMethod yX10_totalRust) := ⟨pm_9 _ (List.mem_of_getElem? (i := 114) (by decide +kernel)), rfl⟩
theorem se_X10_X10_totalRust : zWd (.selects RX10 yX10_totalRust yX10_totalRust) := ⟨pm_9 _ (List.mem_of_getElem? (i := 115) (by decide +kernel)), rfl⟩
theorem cd_X10_totalRust : zWd (.code yX10_totalRust cX10_totalRust 1 (some .int)) := ⟨pm_9 _ (List.mem_of_getElem? (i := 116) (by decide +kernel)), rfl⟩
theorem lk_X10_194 : zWd (.methodLink RX10 194 yX10_rusts) := ⟨pm_9 _ (List.mem_of_getElem? (i := 117) (by decide +kernel)), rfl⟩
theorem im_X10_rusts : zWd (.instanceMethod yX10_rusts) := ⟨pm_9 _ (List.mem_of_getElem? (i := 119) (by decide +kernel)), rfl⟩
theorem cd_X10_rusts : zWd (.code yX10_rusts cX10_rusts 3 (some .int)) := ⟨pm_9 _ (List.mem_of_getElem? (i := 120) (by decide +kernel)), rfl⟩
theorem lk_L_312 : zWd (.methodLink RL 312 yX10_totalRustByHerds) := ⟨pm_9 _ (List.mem_of_getElem? (i := 121) (by decide +kernel)), rfl⟩
theorem im_X10_totalRustByHerds : zWd (.instanceMethod yX10_totalRustByHerds) := ⟨pm_9 _ (List.mem_of_getElem? (i := 122) (by decide +kernel)), rfl⟩
theorem se_X10_X10_totalRustByHerds : zWd (.selects RX10 yX10_totalRustByHerds yX10_totalRustByHerds) := ⟨pm_9 _ (List.mem_of_getElem? (i := 123) (by decide +kernel)), rfl⟩
theorem cd_X10_totalRustByHerds : zWd (.code yX10_totalRustByHerds cX10_totalRustByHerds 1 (some .int)) := ⟨pm_9 _ (List.mem_of_getElem? (i := 124) (by decide +kernel)), rfl⟩
theorem lk_X10_197 : zWd (.methodLink RX10 197 yX10_totalRust) := ⟨pm_9 _ (List.mem_of_getElem? (i := 125) (by decide +kernel)), rfl⟩
theorem lk_L_316 : zWd (.methodLink RL 316 yX10_collapsedChairs) := ⟨pm_9 _ (List.mem_of_getElem? (i := 126) (by decide +kernel)), rfl⟩
theorem im_X10_collapsedChairs : zWd (.instanceMethod yX10_collapsedChairs) := ⟨pm_9 _ (List.mem_of_getElem? (i := 127) (by decide +kernel)), rfl⟩
theorem se_X10_X10_collapsedChairs : zWd (.selects RX10 yX10_collapsedChairs yX10_collapsedChairs) := ⟨pm_9 _ (List.mem_of_getElem? (i := 128) (by decide +kernel)), rfl⟩
theorem cd_X10_collapsedChairs : zWd (.code yX10_collapsedChairs cX10_collapsedChairs 1 (some .int)) := ⟨pm_9 _ (List.mem_of_getElem? (i := 129) (by decide +kernel)), rfl⟩
theorem lk_L_320 : zWd (.methodLink RL 320 yX10_scrappedChairs) := ⟨pm_9 _ (List.mem_of_getElem? (i := 130) (by decide +kernel)), rfl⟩
theorem im_X10_scrappedChairs : zWd (.instanceMethod yX10_scrappedChairs) := ⟨pm_9 _ (List.mem_of_getElem? (i := 131) (by decide +kernel)), rfl⟩
theorem se_X10_X10_scrappedChairs : zWd (.selects RX10 yX10_scrappedChairs yX10_scrappedChairs) := ⟨pm_9 _ (List.mem_of_getElem? (i := 132) (by decide +kernel)), rfl⟩
theorem cd_X10_scrappedChairs : zWd (.code yX10_scrappedChairs cX10_scrappedChairs 1 (some .int)) := ⟨pm_9 _ (List.mem_of_getElem? (i := 133) (by decide +kernel)), rfl⟩
theorem lk_L_324 : zWd (.methodLink RL 324 yX10_moveCount) := ⟨pm_9 _ (List.mem_of_getElem? (i := 134) (by decide +kernel)), rfl⟩
theorem im_X10_moveCount : zWd (.instanceMethod yX10_moveCount) := ⟨pm_9 _ (List.mem_of_getElem? (i := 135) (by decide +kernel)), rfl⟩
theorem se_X10_X10_moveCount : zWd (.selects RX10 yX10_moveCount yX10_moveCount) := ⟨pm_9 _ (List.mem_of_getElem? (i := 136) (by decide +kernel)), rfl⟩
theorem cd_X10_moveCount : zWd (.code yX10_moveCount cX10_moveCount 1 (some .int)) := ⟨pm_9 _ (List.mem_of_getElem? (i := 137) (by decide +kernel)), rfl⟩
theorem lk_L_328 : zWd (.methodLink RL 328 yX10_grazedShade) := ⟨pm_9 _ (List.mem_of_getElem? (i := 138) (by decide +kernel)), rfl⟩
theorem im_X10_grazedShade : zWd (.instanceMethod yX10_grazedShade) := ⟨pm_9 _ (List.mem_of_getElem? (i := 139) (by decide +kernel)), rfl⟩
theorem se_X10_X10_grazedShade : zWd (.selects RX10 yX10_grazedShade yX10_grazedShade) := ⟨pm_9 _ (List.mem_of_getElem? (i := 140) (by decide +kernel)), rfl⟩
theorem cd_X10_grazedShade : zWd (.code yX10_grazedShade cX10_grazedShade 1 (some .int)) := ⟨pm_9 _ (List.mem_of_getElem? (i := 141) (by decide +kernel)), rfl⟩
theorem lk_L_331 : zWd (.methodLink RL 331 yX10_chairByRust) := ⟨pm_9 _ (List.mem_of_getElem? (i := 142) (by decide +kernel)), rfl⟩
theorem im_X10_chairByRust : zWd (.instanceMethod yX10_chairByRust) := ⟨pm_9 _ (List.mem_of_getElem? (i := 143) (by decide +kernel)), rfl⟩
theorem se_X10_X10_chairByRust : zWd (.selects RX10 yX10_chairByRust yX10_chairByRust) := ⟨pm_9 _ (List.mem_of_getElem? (i := 144) (by decide +kernel)), rfl⟩
theorem cd_X10_chairByRust : zWd (.code yX10_chairByRust cX10_chairByRust 5 (some .int)) := ⟨pm_9 _ (List.mem_of_getElem? (i := 145) (by decide +kernel)), rfl⟩
theorem lk_X10_200 : zWd (.methodLink RX10 200 yX10_isRustier) := ⟨pm_9 _ (List.mem_of_getElem? (i := 146) (by decide +kernel)), rfl⟩
theorem im_X10_isRustier : zWd (.instanceMethod yX10_isRustier) := ⟨pm_9 _ (List.mem_of_getElem? (i := 148) (by decide +kernel)), rfl⟩
theorem cd_X10_isRustier : zWd (.code yX10_isRustier cX10_isRustier 4 (some .boolean)) := ⟨pm_9 _ (List.mem_of_getElem? (i := 149) (by decide +kernel)), rfl⟩
theorem lk_L_334 : zWd (.methodLink RL 334 yX10_lawnByShade) := ⟨pm_9 _ (List.mem_of_getElem? (i := 150) (by decide +kernel)), rfl⟩
theorem im_X10_lawnByShade : zWd (.instanceMethod yX10_lawnByShade) := ⟨pm_9 _ (List.mem_of_getElem? (i := 151) (by decide +kernel)), rfl⟩
theorem se_X10_X10_lawnByShade : zWd (.selects RX10 yX10_lawnByShade yX10_lawnByShade) := ⟨pm_9 _ (List.mem_of_getElem? (i := 152) (by decide +kernel)), rfl⟩
theorem cd_X10_lawnByShade : zWd (.code yX10_lawnByShade cX10_lawnByShade 5 (some .int)) := ⟨pm_9 _ (List.mem_of_getElem? (i := 153) (by decide +kernel)), rfl⟩
theorem lk_L_338 : zWd (.methodLink RL 338 yX10_meanRust) := ⟨pm_9 _ (List.mem_of_getElem? (i := 154) (by decide +kernel)), rfl⟩
theorem im_X10_meanRust : zWd (.instanceMethod yX10_meanRust) := ⟨pm_9 _ (List.mem_of_getElem? (i := 155) (by decide +kernel)), rfl⟩
theorem se_X10_X10_meanRust : zWd (.selects RX10 yX10_meanRust yX10_meanRust) := ⟨pm_9 _ (List.mem_of_getElem? (i := 156) (by decide +kernel)), rfl⟩
theorem cd_X10_meanRust : zWd (.code yX10_meanRust cX10_meanRust 1 (some .double)) := ⟨pm_9 _ (List.mem_of_getElem? (i := 157) (by decide +kernel)), rfl⟩
theorem lk_L_341 : zWd (.methodLink RL 341 yX10_foldedShare) := ⟨pm_9 _ (List.mem_of_getElem? (i := 158) (by decide +kernel)), rfl⟩
theorem im_X10_foldedShare : zWd (.instanceMethod yX10_foldedShare) := ⟨pm_9 _ (List.mem_of_getElem? (i := 159) (by decide +kernel)), rfl⟩
theorem se_X10_X10_foldedShare : zWd (.selects RX10 yX10_foldedShare yX10_foldedShare) := ⟨pm_9 _ (List.mem_of_getElem? (i := 160) (by decide +kernel)), rfl⟩
theorem cd_X10_foldedShare : zWd (.code yX10_foldedShare cX10_foldedShare 1 (some .float)) := ⟨pm_9 _ (List.mem_of_getElem? (i := 161) (by decide +kernel)), rfl⟩
theorem lk_L_346 : zWd (.methodLink RL 346 yX10_isConsistent) := ⟨pm_9 _ (List.mem_of_getElem? (i := 162) (by decide +kernel)), rfl⟩
theorem im_X10_isConsistent : zWd (.instanceMethod yX10_isConsistent) := ⟨pm_9 _ (List.mem_of_getElem? (i := 163) (by decide +kernel)), rfl⟩
theorem se_X10_X10_isConsistent : zWd (.selects RX10 yX10_isConsistent yX10_isConsistent) := ⟨pm_9 _ (List.mem_of_getElem? (i := 164) (by decide +kernel)), rfl⟩
theorem cd_X10_isConsistent : zWd (.code yX10_isConsistent cX10_isConsistent 1 (some .boolean)) := ⟨pm_9 _ (List.mem_of_getElem? (i := 165) (by decide +kernel)), rfl⟩
theorem lk_L_349 : zWd (.methodLink RL 349 yX10_writeLawn) := ⟨pm_9 _ (List.mem_of_getElem? (i := 166) (by decide +kernel)), rfl⟩
theorem im_X10_writeLawn : zWd (.instanceMethod yX10_writeLawn) := ⟨pm_9 _ (List.mem_of_getElem? (i := 167) (by decide +kernel)), rfl⟩
theorem se_X10_X10_writeLawn : zWd (.selects RX10 yX10_writeLawn yX10_writeLawn) := ⟨pm_9 _ (List.mem_of_getElem? (i := 168) (by decide +kernel)), rfl⟩
theorem cd_X10_writeLawn : zWd (.code yX10_writeLawn cX10_writeLawn 4 (some .int)) := ⟨pm_9 _ (List.mem_of_getElem? (i := 169) (by decide +kernel)), rfl⟩
theorem lk_X10_206 : zWd (.methodLink RX10 206 yX10_writes) := ⟨pm_9 _ (List.mem_of_getElem? (i := 170) (by decide +kernel)), rfl⟩
theorem im_X10_writes : zWd (.instanceMethod yX10_writes) := ⟨pm_9 _ (List.mem_of_getElem? (i := 172) (by decide +kernel)), rfl⟩
theorem cd_X10_writes : zWd (.code yX10_writes cX10_writes 2 none) := ⟨pm_9 _ (List.mem_of_getElem? (i := 173) (by decide +kernel)), rfl⟩
theorem lk_X10_209 : zWd (.methodLink RX10 209 yX10_signs) := ⟨pm_9 _ (List.mem_of_getElem? (i := 174) (by decide +kernel)), rfl⟩
theorem im_X10_signs : zWd (.instanceMethod yX10_signs) := ⟨pm_9 _ (List.mem_of_getElem? (i := 176) (by decide +kernel)), rfl⟩
theorem cd_X10_signs : zWd (.code yX10_signs cX10_signs 2 none) := ⟨pm_9 _ (List.mem_of_getElem? (i := 177) (by decide +kernel)), rfl⟩
theorem lk_L_352 : zWd (.methodLink RL 352 yX10_outputAt) := ⟨pm_9 _ (List.mem_of_getElem? (i := 178) (by decide +kernel)), rfl⟩
theorem im_X10_outputAt : zWd (.instanceMethod yX10_outputAt) := ⟨pm_9 _ (List.mem_of_getElem? (i := 179) (by decide +kernel)), rfl⟩
theorem se_X10_X10_outputAt : zWd (.selects RX10 yX10_outputAt yX10_outputAt) := ⟨pm_9 _ (List.mem_of_getElem? (i := 180) (by decide +kernel)), rfl⟩
theorem cd_X10_outputAt : zWd (.code yX10_outputAt cX10_outputAt 2 (some .char)) := ⟨pm_9 _ (List.mem_of_getElem? (i := 181) (by decide +kernel)), rfl⟩
theorem lk_L_356 : zWd (.methodLink RL 356 yX10_appendInput) := ⟨pm_9 _ (List.mem_of_getElem? (i := 182) (by decide +kernel)), rfl⟩
theorem im_X10_appendInput : zWd (.instanceMethod yX10_appendInput) := ⟨pm_9 _ (List.mem_of_getElem? (i := 183) (by decide +kernel)), rfl⟩
theorem se_X10_X10_appendInput : zWd (.selects RX10 yX10_appendInput yX10_appendInput) := ⟨pm_9 _ (List.mem_of_getElem? (i := 184) (by decide +kernel)), rfl⟩
theorem cd_X10_appendInput : zWd (.code yX10_appendInput cX10_appendInput 2 (some .int)) := ⟨pm_9 _ (List.mem_of_getElem? (i := 185) (by decide +kernel)), rfl⟩
theorem lk_L_360 : zWd (.methodLink RL 360 yX10_execute) := ⟨pm_9 _ (List.mem_of_getElem? (i := 186) (by decide +kernel)), rfl⟩
theorem im_X10_execute : zWd (.instanceMethod yX10_execute) := ⟨pm_9 _ (List.mem_of_getElem? (i := 187) (by decide +kernel)), rfl⟩
theorem se_X10_X10_execute : zWd (.selects RX10 yX10_execute yX10_execute) := ⟨pm_9 _ (List.mem_of_getElem? (i := 188) (by decide +kernel)), rfl⟩
theorem cd_X10_execute : zWd (.code yX10_execute cX10_execute 6 (some .int)) := ⟨pm_9 _ (List.mem_of_getElem? (i := 189) (by decide +kernel)), rfl⟩
theorem lk_X10_237 : zWd (.methodLink RX10 237 yX10_isCommand) := ⟨pm_9 _ (List.mem_of_getElem? (i := 190) (by decide +kernel)), rfl⟩
theorem im_X10_isCommand : zWd (.instanceMethod yX10_isCommand) := ⟨pm_9 _ (List.mem_of_getElem? (i := 192) (by decide +kernel)), rfl⟩
theorem cd_X10_isCommand : zWd (.code yX10_isCommand cX10_isCommand 1 (some .boolean)) := ⟨pm_9 _ (List.mem_of_getElem? (i := 193) (by decide +kernel)), rfl⟩
theorem lk_X10_219 : (.stringRef RX10 219 "pqhcsfuomgad" : Cond) ∈ lw_tbl := pm_9 _ (List.mem_of_getElem? (i := 194) (by decide +kernel))
theorem lk_X10_221 : zWd (.methodLink RX10 221 yJ0_indexOf_0f7a4) := ⟨pm_9 _ (List.mem_of_getElem? (i := 195) (by decide +kernel)), rfl⟩
theorem im_J0_indexOf_0f7a4 : zWd (.instanceMethod yJ0_indexOf_0f7a4) := ⟨pm_9 _ (List.mem_of_getElem? (i := 196) (by decide +kernel)), rfl⟩
theorem se_J0_J0_indexOf_0f7a4 : zWd (.selects RJ0 yJ0_indexOf_0f7a4 yJ0_indexOf_0f7a4) := ⟨pm_9 _ (List.mem_of_getElem? (i := 197) (by decide +kernel)), rfl⟩
theorem cd_J0_indexOf_0f7a4 : zWd (.code yJ0_indexOf_0f7a4 cJ0_indexOf_0f7a4 2 (some .int)) := ⟨pm_9 _ (List.mem_of_getElem? (i := 198) (by decide +kernel)), rfl⟩
theorem lk_J0_633 : zWd (.methodLink RJ0 633 yJ0_indexOf_7cf53) := ⟨pm_9 _ (List.mem_of_getElem? (i := 199) (by decide +kernel)), rfl⟩
theorem im_J0_indexOf_7cf53 : zWd (.instanceMethod yJ0_indexOf_7cf53) := ⟨pm_9 _ (List.mem_of_getElem? (i := 200) (by decide +kernel)), rfl⟩
theorem se_J0_J0_indexOf_7cf53 : zWd (.selects RJ0 yJ0_indexOf_7cf53 yJ0_indexOf_7cf53) := ⟨pm_9 _ (List.mem_of_getElem? (i := 201) (by decide +kernel)), rfl⟩
theorem cd_J0_indexOf_7cf53 : zWd (.code yJ0_indexOf_7cf53 cJ0_indexOf_7cf53 3 (some .int)) := ⟨pm_9 _ (List.mem_of_getElem? (i := 202) (by decide +kernel)), rfl⟩
theorem lk_J0_505 : zWd (.methodLink RJ0 505 yJ0_length_8abf5) := ⟨pm_9 _ (List.mem_of_getElem? (i := 203) (by decide +kernel)), rfl⟩
theorem lk_J0_637 : zWd (.methodLink RJ0 637 yJ1_indexOf_4cfef) := ⟨pm_9 _ (List.mem_of_getElem? (i := 204) (by decide +kernel)), rfl⟩
theorem st_J1_indexOf_4cfef : zWd (.static yJ1_indexOf_4cfef) := ⟨pm_9 _ (List.mem_of_getElem? (i := 205) (by decide +kernel)), rfl⟩
theorem cd_J1_indexOf_4cfef : zWd (.code yJ1_indexOf_4cfef cJ1_indexOf_4cfef 4 (some .int)) := ⟨pm_9 _ (List.mem_of_getElem? (i := 206) (by decide +kernel)), rfl⟩
theorem lk_J1_88 : zWd (.methodLink RJ1 88 yJ1_canEncode_9a6ad) := ⟨pm_9 _ (List.mem_of_getElem? (i := 207) (by decide +kernel)), rfl⟩
theorem st_J1_canEncode_9a6ad : zWd (.static yJ1_canEncode_9a6ad) := ⟨pm_9 _ (List.mem_of_getElem? (i := 208) (by decide +kernel)), rfl⟩
theorem cd_J1_canEncode_9a6ad : zWd (.code yJ1_canEncode_9a6ad cJ1_canEncode_9a6ad 1 (some .boolean)) := ⟨pm_9 _ (List.mem_of_getElem? (i := 209) (by decide +kernel)), rfl⟩
theorem lk_J1_92 : zWd (.methodLink RJ1 92 Lib.Math.max.name) := ⟨pm_9 _ (List.mem_of_getElem? (i := 210) (by decide +kernel)), rfl⟩
theorem lk_J1_38 : zWd (.methodLink RJ1 38 Lib.Math.min.name) := ⟨pm_9 _ (List.mem_of_getElem? (i := 211) (by decide +kernel)), rfl⟩
theorem lk_J1_95 : zWd (.methodLink RJ1 95 yJ1_indexOfChar_4cfef) := ⟨pm_9 _ (List.mem_of_getElem? (i := 212) (by decide +kernel)), rfl⟩
theorem st_J1_indexOfChar_4cfef : zWd (.static yJ1_indexOfChar_4cfef) := ⟨pm_9 _ (List.mem_of_getElem? (i := 213) (by decide +kernel)), rfl⟩
theorem cd_J1_indexOfChar_4cfef : zWd (.code yJ1_indexOfChar_4cfef cJ1_indexOfChar_4cfef 6 (some .int)) := ⟨pm_9 _ (List.mem_of_getElem? (i := 214) (by decide +kernel)), rfl⟩
theorem lk_J0_640 : zWd (.methodLink RJ0 640 yJ2_indexOf_4cfef) := ⟨pm_9 _ (List.mem_of_getElem? (i := 215) (by decide +kernel)), rfl⟩
theorem st_J2_indexOf_4cfef : zWd (.static yJ2_indexOf_4cfef) := ⟨pm_9 _ (List.mem_of_getElem? (i := 216) (by decide +kernel)), rfl⟩
theorem cd_J2_indexOf_4cfef : zWd (.code yJ2_indexOf_4cfef cJ2_indexOf_4cfef 4 (some .int)) := ⟨pm_9 _ (List.mem_of_getElem? (i := 217) (by decide +kernel)), rfl⟩
theorem lk_J2_224 : zWd (.methodLink RJ2 224 Lib.Math.max.name) := ⟨pm_9 _ (List.mem_of_getElem? (i := 218) (by decide +kernel)), rfl⟩
theorem lk_J2_183 : zWd (.methodLink RJ2 183 Lib.Math.min.name) := ⟨pm_9 _ (List.mem_of_getElem? (i := 219) (by decide +kernel)), rfl⟩
theorem co_J2_227 : zWd (.constant RJ2 227 65536) := ⟨pm_9 _ (List.mem_of_getElem? (i := 220) (by decide +kernel)), rfl⟩
theorem lk_J2_228 : zWd (.methodLink RJ2 228 yJ2_indexOfChar_4cfef) := ⟨pm_9 _ (List.mem_of_getElem? (i := 221) (by decide +kernel)), rfl⟩
theorem st_J2_indexOfChar_4cfef : zWd (.static yJ2_indexOfChar_4cfef) := ⟨pm_9 _ (List.mem_of_getElem? (i := 222) (by decide +kernel)), rfl⟩
theorem cd_J2_indexOfChar_4cfef : zWd (.code yJ2_indexOfChar_4cfef cJ2_indexOfChar_4cfef 4 (some .int)) := ⟨pm_9 _ (List.mem_of_getElem? (i := 223) (by decide +kernel)), rfl⟩
theorem lk_J2_244 : zWd (.methodLink RJ2 244 yJ2_indexOfCharUnsafe_4cfef) := ⟨pm_9 _ (List.mem_of_getElem? (i := 224) (by decide +kernel)), rfl⟩
theorem st_J2_indexOfCharUnsafe_4cfef : zWd (.static yJ2_indexOfCharUnsafe_4cfef) := ⟨pm_9 _ (List.mem_of_getElem? (i := 225) (by decide +kernel)), rfl⟩
theorem cd_J2_indexOfCharUnsafe_4cfef : zWd (.code yJ2_indexOfCharUnsafe_4cfef cJ2_indexOfCharUnsafe_4cfef 5 (some .int)) := ⟨pm_9 _ (List.mem_of_getElem? (i := 226) (by decide +kernel)), rfl⟩
theorem lk_J2_232 : zWd (.methodLink RJ2 232 yJ2_indexOfSupplementary_4cfef) := ⟨pm_9 _ (List.mem_of_getElem? (i := 227) (by decide +kernel)), rfl⟩
theorem st_J2_indexOfSupplementary_4cfef : zWd (.static yJ2_indexOfSupplementary_4cfef) := ⟨pm_9 _ (List.mem_of_getElem? (i := 228) (by decide +kernel)), rfl⟩
theorem cd_J2_indexOfSupplementary_4cfef : zWd (.code yJ2_indexOfSupplementary_4cfef cJ2_indexOfSupplementary_4cfef 7 (some .int)) := ⟨pm_9 _ (List.mem_of_getElem? (i := 229) (by decide +kernel)), rfl⟩
theorem lk_J2_164 : zWd (.methodLink RJ2 164 yJ11_isValidCodePoint_9a6ad) := ⟨pm_9 _ (List.mem_of_getElem? (i := 230) (by decide +kernel)), rfl⟩
theorem st_J11_isValidCodePoint_9a6ad : zWd (.static yJ11_isValidCodePoint_9a6ad) := ⟨pm_9 _ (List.mem_of_getElem? (i := 231) (by decide +kernel)), rfl⟩
theorem cd_J11_isValidCodePoint_9a6ad : zWd (.code yJ11_isValidCodePoint_9a6ad cJ11_isValidCodePoint_9a6ad 2 (some .boolean)) := ⟨pm_9 _ (List.mem_of_getElem? (i := 232) (by decide +kernel)), rfl⟩
theorem lk_J2_157 : zWd (.methodLink RJ2 157 yJ11_highSurrogate_5068e) := ⟨pm_9 _ (List.mem_of_getElem? (i := 233) (by decide +kernel)), rfl⟩
theorem st_J11_highSurrogate_5068e : zWd (.static yJ11_highSurrogate_5068e) := ⟨pm_9 _ (List.mem_of_getElem? (i := 234) (by decide +kernel)), rfl⟩
theorem cd_J11_highSurrogate_5068e : zWd (.code yJ11_highSurrogate_5068e cJ11_highSurrogate_5068e 1 (some .char)) := ⟨pm_9 _ (List.mem_of_getElem? (i := 235) (by decide +kernel)), rfl⟩
theorem co_J11_110 : zWd (.constant RJ11 110 55232) := ⟨pm_9 _ (List.mem_of_getElem? (i := 236) (by decide +kernel)), rfl⟩
theorem lk_J2_161 : zWd (.methodLink RJ2 161 yJ11_lowSurrogate_5068e) := ⟨pm_9 _ (List.mem_of_getElem? (i := 237) (by decide +kernel)), rfl⟩
theorem st_J11_lowSurrogate_5068e : zWd (.static yJ11_lowSurrogate_5068e) := ⟨pm_9 _ (List.mem_of_getElem? (i := 238) (by decide +kernel)), rfl⟩
theorem cd_J11_lowSurrogate_5068e : zWd (.code yJ11_lowSurrogate_5068e cJ11_lowSurrogate_5068e 1 (some .char)) := ⟨pm_9 _ (List.mem_of_getElem? (i := 239) (by decide +kernel)), rfl⟩
theorem co_J11_76 : zWd (.constant RJ11 76 56320) := ⟨pm_10 _ (List.mem_of_getElem? (i := 0) (by decide +kernel)), rfl⟩
theorem lk_X10_230 : zWd (.methodLink RX10 230 yX10_digits) := ⟨pm_10 _ (List.mem_of_getElem? (i := 1) (by decide +kernel)), rfl⟩
theorem im_X10_digits : zWd (.instanceMethod yX10_digits) := ⟨pm_10 _ (List.mem_of_getElem? (i := 3) (by decide +kernel)), rfl⟩
theorem cd_X10_digits : zWd (.code yX10_digits cX10_digits 4 (some .boolean)) := ⟨pm_10 _ (List.mem_of_getElem? (i := 4) (by decide +kernel)), rfl⟩
theorem lk_X10_233 : zWd (.methodLink RX10 233 yX10_takes) := ⟨pm_10 _ (List.mem_of_getElem? (i := 5) (by decide +kernel)), rfl⟩
theorem im_X10_takes : zWd (.instanceMethod yX10_takes) := ⟨pm_10 _ (List.mem_of_getElem? (i := 7) (by decide +kernel)), rfl⟩
theorem cd_X10_takes : zWd (.code yX10_takes cX10_takes 2 (some .boolean)) := ⟨pm_10 _ (List.mem_of_getElem? (i := 8) (by decide +kernel)), rfl⟩
theorem lk_X10_241 : zWd (.methodLink RX10 241 yX10_carries) := ⟨pm_10 _ (List.mem_of_getElem? (i := 9) (by decide +kernel)), rfl⟩
theorem im_X10_carries : zWd (.instanceMethod yX10_carries) := ⟨pm_10 _ (List.mem_of_getElem? (i := 11) (by decide +kernel)), rfl⟩
theorem cd_X10_carries : zWd (.code yX10_carries cX10_carries 1 (some .int)) := ⟨pm_10 _ (List.mem_of_getElem? (i := 12) (by decide +kernel)), rfl⟩
theorem lk_L_363 : zWd (.methodLink RL 363 yX10_syntaxErrorOffset) := ⟨pm_10 _ (List.mem_of_getElem? (i := 13) (by decide +kernel)), rfl⟩
theorem im_X10_syntaxErrorOffset : zWd (.instanceMethod yX10_syntaxErrorOffset) := ⟨pm_10 _ (List.mem_of_getElem? (i := 14) (by decide +kernel)), rfl⟩
theorem se_X10_X10_syntaxErrorOffset : zWd (.selects RX10 yX10_syntaxErrorOffset yX10_syntaxErrorOffset) := ⟨pm_10 _ (List.mem_of_getElem? (i := 15) (by decide +kernel)), rfl⟩
theorem cd_X10_syntaxErrorOffset : zWd (.code yX10_syntaxErrorOffset cX10_syntaxErrorOffset 1 (some .int)) := ⟨pm_10 _ (List.mem_of_getElem? (i := 16) (by decide +kernel)), rfl⟩
theorem lk_L_366 : zWd (.methodLink RL 366 yX10_rejectionReason) := ⟨pm_10 _ (List.mem_of_getElem? (i := 17) (by decide +kernel)), rfl⟩
theorem im_X10_rejectionReason : zWd (.instanceMethod yX10_rejectionReason) := ⟨pm_10 _ (List.mem_of_getElem? (i := 18) (by decide +kernel)), rfl⟩
theorem se_X10_X10_rejectionReason : zWd (.selects RX10 yX10_rejectionReason yX10_rejectionReason) := ⟨pm_10 _ (List.mem_of_getElem? (i := 19) (by decide +kernel)), rfl⟩
theorem cd_X10_rejectionReason : zWd (.code yX10_rejectionReason cX10_rejectionReason 1 (some .int)) := ⟨pm_10 _ (List.mem_of_getElem? (i := 20) (by decide +kernel)), rfl⟩
theorem lk_L_369 : zWd (.methodLink RL 369 yX10_rejectionDetail) := ⟨pm_10 _ (List.mem_of_getElem? (i := 21) (by decide +kernel)), rfl⟩
theorem im_X10_rejectionDetail : zWd (.instanceMethod yX10_rejectionDetail) := ⟨pm_10 _ (List.mem_of_getElem? (i := 22) (by decide +kernel)), rfl⟩
theorem se_X10_X10_rejectionDetail : zWd (.selects RX10 yX10_rejectionDetail yX10_rejectionDetail) := ⟨pm_10 _ (List.mem_of_getElem? (i := 23) (by decide +kernel)), rfl⟩
theorem cd_X10_rejectionDetail : zWd (.code yX10_rejectionDetail cX10_rejectionDetail 1 (some .int)) := ⟨pm_10 _ (List.mem_of_getElem? (i := 24) (by decide +kernel)), rfl⟩
theorem lk_L_372 : zWd (.methodLink RL 372 yX10_causeReason) := ⟨pm_10 _ (List.mem_of_getElem? (i := 25) (by decide +kernel)), rfl⟩
theorem im_X10_causeReason : zWd (.instanceMethod yX10_causeReason) := ⟨pm_10 _ (List.mem_of_getElem? (i := 26) (by decide +kernel)), rfl⟩
theorem se_X10_X10_causeReason : zWd (.selects RX10 yX10_causeReason yX10_causeReason) := ⟨pm_10 _ (List.mem_of_getElem? (i := 27) (by decide +kernel)), rfl⟩
theorem cd_X10_causeReason : zWd (.code yX10_causeReason cX10_causeReason 1 (some .int)) := ⟨pm_10 _ (List.mem_of_getElem? (i := 28) (by decide +kernel)), rfl⟩
theorem lk_L_375 : zWd (.methodLink RL 375 yX10_undo) := ⟨pm_10 _ (List.mem_of_getElem? (i := 29) (by decide +kernel)), rfl⟩
theorem im_X10_undo : zWd (.instanceMethod yX10_undo) := ⟨pm_10 _ (List.mem_of_getElem? (i := 30) (by decide +kernel)), rfl⟩
theorem se_X10_X10_undo : zWd (.selects RX10 yX10_undo yX10_undo) := ⟨pm_10 _ (List.mem_of_getElem? (i := 31) (by decide +kernel)), rfl⟩
theorem cd_X10_undo : zWd (.code yX10_undo cX10_undo 2 (some .int)) := ⟨pm_10 _ (List.mem_of_getElem? (i := 32) (by decide +kernel)), rfl⟩
theorem lk_L_379 : zWd (.methodLink RL 379 yX10_saveSnapshot) := ⟨pm_10 _ (List.mem_of_getElem? (i := 33) (by decide +kernel)), rfl⟩
theorem im_X10_saveSnapshot : zWd (.instanceMethod yX10_saveSnapshot) := ⟨pm_10 _ (List.mem_of_getElem? (i := 34) (by decide +kernel)), rfl⟩
theorem se_X10_X10_saveSnapshot : zWd (.selects RX10 yX10_saveSnapshot yX10_saveSnapshot) := ⟨pm_10 _ (List.mem_of_getElem? (i := 35) (by decide +kernel)), rfl⟩
theorem cd_X10_saveSnapshot : zWd (.code yX10_saveSnapshot cX10_saveSnapshot 2 (some .int)) := ⟨pm_10 _ (List.mem_of_getElem? (i := 36) (by decide +kernel)), rfl⟩
theorem lk_L_382 : zWd (.methodLink RL 382 yX10_restoreSnapshot) := ⟨pm_10 _ (List.mem_of_getElem? (i := 37) (by decide +kernel)), rfl⟩
theorem im_X10_restoreSnapshot : zWd (.instanceMethod yX10_restoreSnapshot) := ⟨pm_10 _ (List.mem_of_getElem? (i := 38) (by decide +kernel)), rfl⟩
theorem se_X10_X10_restoreSnapshot : zWd (.selects RX10 yX10_restoreSnapshot yX10_restoreSnapshot) := ⟨pm_10 _ (List.mem_of_getElem? (i := 39) (by decide +kernel)), rfl⟩
theorem cd_X10_restoreSnapshot : zWd (.code yX10_restoreSnapshot cX10_restoreSnapshot 2 (some .int)) := ⟨pm_10 _ (List.mem_of_getElem? (i := 40) (by decide +kernel)), rfl⟩
theorem ac_long : zWd (.arrayClass .long) := ⟨pm_10 _ (List.mem_of_getElem? (i := 41) (by decide +kernel)), rfl⟩
theorem ac_double : zWd (.arrayClass .double) := ⟨pm_10 _ (List.mem_of_getElem? (i := 42) (by decide +kernel)), rfl⟩
theorem sm_java_lang_Throwable_java_lang_Throwable_2203 : zWd (.sameMethod "java/lang/Throwable" "java/lang/Throwable" "fillInStackTrace" "(I)Ljava/lang/Throwable;") := ⟨pm_10 _ (List.mem_of_getElem? (i := 43) (by decide +kernel)), rfl⟩
theorem sm_J5_J5_J5_setLength_d00df : zWd (.sameMethod RJ5 RJ5 "setLength" "(I)V") := ⟨pm_10 _ (List.mem_of_getElem? (i := 44) (by decide +kernel)), rfl⟩
theorem sm_J5_J5_J5_append_cf1ce : zWd (.sameMethod RJ5 RJ5 "append" "(Ljava/lang/String;)Ljava/lang/AbstractStringBuilder;") := ⟨pm_10 _ (List.mem_of_getElem? (i := 45) (by decide +kernel)), rfl⟩
theorem sm_J5_J5_J5_appendNull_278bc : zWd (.sameMethod RJ5 RJ5 "appendNull" "()Ljava/lang/AbstractStringBuilder;") := ⟨pm_10 _ (List.mem_of_getElem? (i := 46) (by decide +kernel)), rfl⟩
theorem sm_J5_J5_J5_ensureCapacityInternal_d00df : zWd (.sameMethod RJ5 RJ5 "ensureCapacityInternal" "(I)V") := ⟨pm_10 _ (List.mem_of_getElem? (i := 47) (by decide +kernel)), rfl⟩
theorem sm_J5_J5_J5_newCapacity_0f7a4 : zWd (.sameMethod RJ5 RJ5 "newCapacity" "(I)I") := ⟨pm_10 _ (List.mem_of_getElem? (i := 48) (by decide +kernel)), rfl⟩
theorem sm_J5_J5_J5_putStringAt_47b60 : zWd (.sameMethod RJ5 RJ5 "putStringAt" "(ILjava/lang/String;)V") := ⟨pm_10 _ (List.mem_of_getElem? (i := 49) (by decide +kernel)), rfl⟩
theorem sm_J5_J5_J5_inflateIfNeededFor_a7421 : zWd (.sameMethod RJ5 RJ5 "inflateIfNeededFor" "(Ljava/lang/String;)V") := ⟨pm_10 _ (List.mem_of_getElem? (i := 50) (by decide +kernel)), rfl⟩
theorem sm_J5_J5_J5_inflate_da8c8 : zWd (.sameMethod RJ5 RJ5 "inflate" "()V") := ⟨pm_10 _ (List.mem_of_getElem? (i := 51) (by decide +kernel)), rfl⟩
theorem sm_J5_J5_J5_append_c97b9 : zWd (.sameMethod RJ5 RJ5 "append" "(I)Ljava/lang/AbstractStringBuilder;") := ⟨pm_10 _ (List.mem_of_getElem? (i := 52) (by decide +kernel)), rfl⟩
theorem sm_J5_J5_J5_append_3fe6f : zWd (.sameMethod RJ5 RJ5 "append" "(C)Ljava/lang/AbstractStringBuilder;") := ⟨pm_10 _ (List.mem_of_getElem? (i := 53) (by decide +kernel)), rfl⟩
theorem se_J4_J4_length_8abf5 : zWd (.selects RJ4 yJ4_length_8abf5 yJ4_length_8abf5) := ⟨pm_10 _ (List.mem_of_getElem? (i := 54) (by decide +kernel)), rfl⟩
theorem sm_J5_J5_J5_charAt_5068e : zWd (.sameMethod RJ5 RJ5 "charAt" "(I)C") := ⟨pm_10 _ (List.mem_of_getElem? (i := 55) (by decide +kernel)), rfl⟩
theorem ca_Jx00060_java_lang_IndexOutOfBoundsException : (.castable "java/lang/ArrayIndexOutOfBoundsException" "java/lang/IndexOutOfBoundsException" : Cond) ∈ lw_tbl := pm_10 _ (List.mem_of_getElem? (i := 56) (by decide +kernel))
theorem ca_Jx7c733_java_lang_IndexOutOfBoundsException : (.castable "java/lang/StringIndexOutOfBoundsException" "java/lang/IndexOutOfBoundsException" : Cond) ∈ lw_tbl := pm_10 _ (List.mem_of_getElem? (i := 57) (by decide +kernel))
theorem ca_X9_java_lang_Object : (.castable "ChairMigration" "java/lang/Object" : Cond) ∈ lw_tbl := pm_10 _ (List.mem_of_getElem? (i := 58) (by decide +kernel))
theorem ca_X3_java_lang_Object : (.castable "ChairMigration$Garden" "java/lang/Object" : Cond) ∈ lw_tbl := pm_10 _ (List.mem_of_getElem? (i := 59) (by decide +kernel))
theorem ca_X8_java_lang_Object : (.castable "ChairMigration$Paths" "java/lang/Object" : Cond) ∈ lw_tbl := pm_10 _ (List.mem_of_getElem? (i := 60) (by decide +kernel))
theorem ca_X7_java_lang_Object : (.castable "ChairMigration$LawnRow" "java/lang/Object" : Cond) ∈ lw_tbl := pm_10 _ (List.mem_of_getElem? (i := 61) (by decide +kernel))
theorem ca_X0_java_lang_Object : (.castable "ChairMigration$Chair" "java/lang/Object" : Cond) ∈ lw_tbl := pm_10 _ (List.mem_of_getElem? (i := 62) (by decide +kernel))
theorem ca_X4_java_lang_Object : (.castable "ChairMigration$History" "java/lang/Object" : Cond) ∈ lw_tbl := pm_10 _ (List.mem_of_getElem? (i := 63) (by decide +kernel))
theorem ca_X5_java_lang_Object : (.castable "ChairMigration$Improvement" "java/lang/Object" : Cond) ∈ lw_tbl := pm_10 _ (List.mem_of_getElem? (i := 64) (by decide +kernel))
theorem ca_X6_java_lang_Object : (.castable "ChairMigration$Judge" "java/lang/Object" : Cond) ∈ lw_tbl := pm_10 _ (List.mem_of_getElem? (i := 65) (by decide +kernel))
theorem ca_X1_java_lang_Object : (.castable "ChairMigration$CommandInput" "java/lang/Object" : Cond) ∈ lw_tbl := pm_10 _ (List.mem_of_getElem? (i := 66) (by decide +kernel))
theorem ca_J4_java_lang_Object : (.castable "java/lang/StringBuilder" "java/lang/Object" : Cond) ∈ lw_tbl := pm_10 _ (List.mem_of_getElem? (i := 67) (by decide +kernel))
theorem ca_X10_java_lang_Object : (.castable "ChairMigrationModel" "java/lang/Object" : Cond) ∈ lw_tbl := pm_10 _ (List.mem_of_getElem? (i := 68) (by decide +kernel))
theorem ca_Jx00060_java_lang_Object : (.castable "java/lang/ArrayIndexOutOfBoundsException" "java/lang/Object" : Cond) ∈ lw_tbl := pm_10 _ (List.mem_of_getElem? (i := 69) (by decide +kernel))
theorem ca_java_lang_IndexOutOfBoundsException_java_lang_Object : (.castable "java/lang/IndexOutOfBoundsException" "java/lang/Object" : Cond) ∈ lw_tbl := pm_10 _ (List.mem_of_getElem? (i := 70) (by decide +kernel))
theorem ca_java_lang_IllegalArgumentException_java_lang_Object : (.castable "java/lang/IllegalArgumentException" "java/lang/Object" : Cond) ∈ lw_tbl := pm_10 _ (List.mem_of_getElem? (i := 71) (by decide +kernel))
theorem ca_java_lang_UnsupportedOperationException_java_lang_Object : (.castable "java/lang/UnsupportedOperationException" "java/lang/Object" : Cond) ∈ lw_tbl := pm_10 _ (List.mem_of_getElem? (i := 72) (by decide +kernel))
theorem ca_java_util_NoSuchElementException_java_lang_Object : (.castable "java/util/NoSuchElementException" "java/lang/Object" : Cond) ∈ lw_tbl := pm_10 _ (List.mem_of_getElem? (i := 73) (by decide +kernel))
theorem ca_java_lang_ArithmeticException_java_lang_Object : (.castable "java/lang/ArithmeticException" "java/lang/Object" : Cond) ∈ lw_tbl := pm_10 _ (List.mem_of_getElem? (i := 74) (by decide +kernel))
theorem ca_Jx7c733_java_lang_Object : (.castable "java/lang/StringIndexOutOfBoundsException" "java/lang/Object" : Cond) ∈ lw_tbl := pm_10 _ (List.mem_of_getElem? (i := 75) (by decide +kernel))
theorem ca_J0_java_lang_Object : (.castable "java/lang/String" "java/lang/Object" : Cond) ∈ lw_tbl := pm_10 _ (List.mem_of_getElem? (i := 76) (by decide +kernel))
theorem ca_java_lang_IllegalStateException_java_lang_Object : (.castable "java/lang/IllegalStateException" "java/lang/Object" : Cond) ∈ lw_tbl := pm_10 _ (List.mem_of_getElem? (i := 77) (by decide +kernel))
theorem ca_java_lang_Throwable_java_lang_Object : (.castable "java/lang/Throwable" "java/lang/Object" : Cond) ∈ lw_tbl := pm_10 _ (List.mem_of_getElem? (i := 78) (by decide +kernel))
theorem se_X3_X3_indexOf : zWd (.selects RX3 yX3_indexOf yX3_indexOf) := ⟨List.mem_append_left _ (List.mem_of_getElem? (i := 0) (by decide +kernel)), rfl⟩
theorem se_X3_X3_findInHerd : zWd (.selects RX3 yX3_findInHerd yX3_findInHerd) := ⟨List.mem_append_left _ (List.mem_of_getElem? (i := 1) (by decide +kernel)), rfl⟩
theorem se_X5_X5_improve : zWd (.selects RX5 yX5_improve yX5_improve) := ⟨List.mem_append_left _ (List.mem_of_getElem? (i := 2) (by decide +kernel)), rfl⟩
theorem se_X8_X8_withNeighbours : zWd (.selects RX8 yX8_withNeighbours yX8_withNeighbours) := ⟨List.mem_append_left _ (List.mem_of_getElem? (i := 3) (by decide +kernel)), rfl⟩
theorem se_X3_X3_countHerdsOf : zWd (.selects RX3 yX3_countHerdsOf yX3_countHerdsOf) := ⟨List.mem_append_left _ (List.mem_of_getElem? (i := 4) (by decide +kernel)), rfl⟩
theorem se_X9_X9_change : zWd (.selects RX9 yX9_change yX9_change) := ⟨List.mem_append_left _ (List.mem_of_getElem? (i := 6) (by decide +kernel)), rfl⟩
theorem se_X6_X6_examineNewPath : zWd (.selects RX6 yX6_examineNewPath yX6_examineNewPath) := ⟨List.mem_append_left _ (List.mem_of_getElem? (i := 7) (by decide +kernel)), rfl⟩
theorem se_X6_X6_reject : zWd (.selects RX6 yX6_reject yX6_reject) := ⟨List.mem_append_left _ (List.mem_of_getElem? (i := 8) (by decide +kernel)), rfl⟩
theorem se_X6_X6_examineOldPath : zWd (.selects RX6 yX6_examineOldPath yX6_examineOldPath) := ⟨List.mem_append_left _ (List.mem_of_getElem? (i := 9) (by decide +kernel)), rfl⟩
theorem se_X6_X6_examineShade : zWd (.selects RX6 yX6_examineShade yX6_examineShade) := ⟨List.mem_append_left _ (List.mem_of_getElem? (i := 10) (by decide +kernel)), rfl⟩
theorem se_X6_X6_examineNewChair : zWd (.selects RX6 yX6_examineNewChair yX6_examineNewChair) := ⟨List.mem_append_left _ (List.mem_of_getElem? (i := 11) (by decide +kernel)), rfl⟩
theorem se_X6_X6_examineScrapping : zWd (.selects RX6 yX6_examineScrapping yX6_examineScrapping) := ⟨List.mem_append_left _ (List.mem_of_getElem? (i := 12) (by decide +kernel)), rfl⟩
theorem se_X6_X6_examineFolding : zWd (.selects RX6 yX6_examineFolding yX6_examineFolding) := ⟨List.mem_append_left _ (List.mem_of_getElem? (i := 13) (by decide +kernel)), rfl⟩
theorem se_X6_X6_examineUnfolding : zWd (.selects RX6 yX6_examineUnfolding yX6_examineUnfolding) := ⟨List.mem_append_left _ (List.mem_of_getElem? (i := 14) (by decide +kernel)), rfl⟩
theorem se_X6_X6_examineOiling : zWd (.selects RX6 yX6_examineOiling yX6_examineOiling) := ⟨List.mem_append_left _ (List.mem_of_getElem? (i := 15) (by decide +kernel)), rfl⟩
theorem se_X6_X6_examineMove : zWd (.selects RX6 yX6_examineMove yX6_examineMove) := ⟨List.mem_append_left _ (List.mem_of_getElem? (i := 16) (by decide +kernel)), rfl⟩
theorem se_X6_X6_examineMigration : zWd (.selects RX6 yX6_examineMigration yX6_examineMigration) := ⟨List.mem_append_left _ (List.mem_of_getElem? (i := 17) (by decide +kernel)), rfl⟩
theorem se_X6_X6_examineNewOil : zWd (.selects RX6 yX6_examineNewOil yX6_examineNewOil) := ⟨List.mem_append_left _ (List.mem_of_getElem? (i := 18) (by decide +kernel)), rfl⟩
theorem se_X6_X6_examineDays : zWd (.selects RX6 yX6_examineDays yX6_examineDays) := ⟨List.mem_append_left _ (List.mem_of_getElem? (i := 19) (by decide +kernel)), rfl⟩
theorem se_X9_X9_rememberRejection : zWd (.selects RX9 yX9_rememberRejection yX9_rememberRejection) := ⟨List.mem_append_left _ (List.mem_of_getElem? (i := 20) (by decide +kernel)), rfl⟩
theorem se_X4_X4_dropOldest : zWd (.selects RX4 yX4_dropOldest yX4_dropOldest) := ⟨List.mem_append_left _ (List.mem_of_getElem? (i := 21) (by decide +kernel)), rfl⟩
theorem se_X3_X3_changeShade : zWd (.selects RX3 yX3_changeShade yX3_changeShade) := ⟨List.mem_append_left _ (List.mem_of_getElem? (i := 22) (by decide +kernel)), rfl⟩
theorem se_X3_X3_settle : zWd (.selects RX3 yX3_settle yX3_settle) := ⟨List.mem_append_left _ (List.mem_of_getElem? (i := 23) (by decide +kernel)), rfl⟩
theorem se_X3_X3_scrap : zWd (.selects RX3 yX3_scrap yX3_scrap) := ⟨List.mem_append_left _ (List.mem_of_getElem? (i := 24) (by decide +kernel)), rfl⟩
theorem se_X3_X3_shiftToEnd : zWd (.selects RX3 yX3_shiftToEnd yX3_shiftToEnd) := ⟨List.mem_append_left _ (List.mem_of_getElem? (i := 25) (by decide +kernel)), rfl⟩
theorem se_X3_X3_setFolded : zWd (.selects RX3 yX3_setFolded yX3_setFolded) := ⟨List.mem_append_left _ (List.mem_of_getElem? (i := 26) (by decide +kernel)), rfl⟩
theorem se_X3_X3_useOil : zWd (.selects RX3 yX3_useOil yX3_useOil) := ⟨List.mem_append_left _ (List.mem_of_getElem? (i := 27) (by decide +kernel)), rfl⟩
theorem se_X3_X3_move : zWd (.selects RX3 yX3_move yX3_move) := ⟨List.mem_append_left _ (List.mem_of_getElem? (i := 28) (by decide +kernel)), rfl⟩
theorem se_X3_X3_moveAt : zWd (.selects RX3 yX3_moveAt yX3_moveAt) := ⟨List.mem_append_left _ (List.mem_of_getElem? (i := 29) (by decide +kernel)), rfl⟩
theorem se_X3_X3_moveHerd : zWd (.selects RX3 yX3_moveHerd yX3_moveHerd) := ⟨List.mem_append_left _ (List.mem_of_getElem? (i := 30) (by decide +kernel)), rfl⟩
theorem se_X3_X3_firstGrazingOn : zWd (.selects RX3 yX3_firstGrazingOn yX3_firstGrazingOn) := ⟨List.mem_append_left _ (List.mem_of_getElem? (i := 31) (by decide +kernel)), rfl⟩
theorem se_X3_X3_graze : zWd (.selects RX3 yX3_graze yX3_graze) := ⟨List.mem_append_left _ (List.mem_of_getElem? (i := 32) (by decide +kernel)), rfl⟩
theorem se_X3_X3_collapse : zWd (.selects RX3 yX3_collapse yX3_collapse) := ⟨List.mem_append_left _ (List.mem_of_getElem? (i := 33) (by decide +kernel)), rfl⟩
theorem se_X9_X9_demandChair : zWd (.selects RX9 yX9_demandChair yX9_demandChair) := ⟨List.mem_append_left _ (List.mem_of_getElem? (i := 34) (by decide +kernel)), rfl⟩
theorem se_X3_X3_isBetter : zWd (.selects RX3 yX3_isBetter yX3_isBetter) := ⟨List.mem_append_left _ (List.mem_of_getElem? (i := 35) (by decide +kernel)), rfl⟩
theorem se_X3_X3_rankOf : zWd (.selects RX3 yX3_rankOf yX3_rankOf) := ⟨List.mem_append_left _ (List.mem_of_getElem? (i := 36) (by decide +kernel)), rfl⟩
theorem se_X3_X3_rankOfLawn : zWd (.selects RX3 yX3_rankOfLawn yX3_rankOfLawn) := ⟨List.mem_append_left _ (List.mem_of_getElem? (i := 37) (by decide +kernel)), rfl⟩
theorem se_X9_X9_demandChairs : zWd (.selects RX9 yX9_demandChairs yX9_demandChairs) := ⟨List.mem_append_left _ (List.mem_of_getElem? (i := 38) (by decide +kernel)), rfl⟩
theorem se_X1_X1_readCommand : zWd (.selects RX1 yX1_readCommand yX1_readCommand) := ⟨List.mem_append_left _ (List.mem_of_getElem? (i := 39) (by decide +kernel)), rfl⟩
theorem se_X1_X1_next : zWd (.selects RX1 yX1_next yX1_next) := ⟨List.mem_append_left _ (List.mem_of_getElem? (i := 40) (by decide +kernel)), rfl⟩
theorem se_X1_X1_readPart : zWd (.selects RX1 yX1_readPart yX1_readPart) := ⟨List.mem_append_left _ (List.mem_of_getElem? (i := 41) (by decide +kernel)), rfl⟩
theorem se_X1_X1_readSign : zWd (.selects RX1 yX1_readSign yX1_readSign) := ⟨List.mem_append_left _ (List.mem_of_getElem? (i := 42) (by decide +kernel)), rfl⟩
theorem se_X1_X1_readNumber : zWd (.selects RX1 yX1_readNumber yX1_readNumber) := ⟨List.mem_append_left _ (List.mem_of_getElem? (i := 43) (by decide +kernel)), rfl⟩
theorem se_X9_X9_performCommands : zWd (.selects RX9 yX9_performCommands yX9_performCommands) := ⟨List.mem_append_left _ (List.mem_of_getElem? (i := 44) (by decide +kernel)), rfl⟩
theorem se_X1_X1_isCommand : zWd (.selects RX1 yX1_isCommand yX1_isCommand) := ⟨List.mem_append_left _ (List.mem_of_getElem? (i := 45) (by decide +kernel)), rfl⟩
theorem se_X9_X9_throwForCommand : zWd (.selects RX9 yX9_throwForCommand yX9_throwForCommand) := ⟨List.mem_append_left _ (List.mem_of_getElem? (i := 46) (by decide +kernel)), rfl⟩
theorem se_X9_X9_demandRejection : zWd (.selects RX9 yX9_demandRejection yX9_demandRejection) := ⟨List.mem_append_left _ (List.mem_of_getElem? (i := 47) (by decide +kernel)), rfl⟩
theorem se_X10_X10_tries : zWd (.selects RX10 yX10_tries yX10_tries) := ⟨List.mem_append_left _ (List.mem_of_getElem? (i := 48) (by decide +kernel)), rfl⟩
theorem se_X10_X10_paves : zWd (.selects RX10 yX10_paves yX10_paves) := ⟨List.mem_append_left _ (List.mem_of_getElem? (i := 49) (by decide +kernel)), rfl⟩
theorem se_X10_X10_isPathBetween : zWd (.selects RX10 yX10_isPathBetween yX10_isPathBetween) := ⟨List.mem_append_left _ (List.mem_of_getElem? (i := 50) (by decide +kernel)), rfl⟩
theorem se_X10_X10_lawn : zWd (.selects RX10 yX10_lawn yX10_lawn) := ⟨List.mem_append_left _ (List.mem_of_getElem? (i := 51) (by decide +kernel)), rfl⟩
theorem se_X10_X10_paths : zWd (.selects RX10 yX10_paths yX10_paths) := ⟨List.mem_append_left _ (List.mem_of_getElem? (i := 52) (by decide +kernel)), rfl⟩
theorem se_X10_X10_rejects : zWd (.selects RX10 yX10_rejects yX10_rejects) := ⟨List.mem_append_left _ (List.mem_of_getElem? (i := 53) (by decide +kernel)), rfl⟩
theorem se_X10_X10_does : zWd (.selects RX10 yX10_does yX10_does) := ⟨List.mem_append_left _ (List.mem_of_getElem? (i := 54) (by decide +kernel)), rfl⟩
theorem se_X10_X10_ends : zWd (.selects RX10 yX10_ends yX10_ends) := ⟨List.mem_append_left _ (List.mem_of_getElem? (i := 55) (by decide +kernel)), rfl⟩
theorem se_X10_X10_raises : zWd (.selects RX10 yX10_raises yX10_raises) := ⟨List.mem_append_left _ (List.mem_of_getElem? (i := 56) (by decide +kernel)), rfl⟩
theorem se_X10_X10_digs : zWd (.selects RX10 yX10_digs yX10_digs) := ⟨List.mem_append_left _ (List.mem_of_getElem? (i := 57) (by decide +kernel)), rfl⟩
theorem se_X10_X10_far : zWd (.selects RX10 yX10_far yX10_far) := ⟨List.mem_append_left _ (List.mem_of_getElem? (i := 58) (by decide +kernel)), rfl⟩
theorem se_X10_X10_shades : zWd (.selects RX10 yX10_shades yX10_shades) := ⟨List.mem_append_left _ (List.mem_of_getElem? (i := 59) (by decide +kernel)), rfl⟩
theorem se_X10_X10_comes : zWd (.selects RX10 yX10_comes yX10_comes) := ⟨List.mem_append_left _ (List.mem_of_getElem? (i := 60) (by decide +kernel)), rfl⟩
theorem se_X10_X10_sets : zWd (.selects RX10 yX10_sets yX10_sets) := ⟨List.mem_append_left _ (List.mem_of_getElem? (i := 61) (by decide +kernel)), rfl⟩
theorem se_X10_X10_joins : zWd (.selects RX10 yX10_joins yX10_joins) := ⟨List.mem_append_left _ (List.mem_of_getElem? (i := 62) (by decide +kernel)), rfl⟩
theorem se_X10_X10_of : zWd (.selects RX10 yX10_of yX10_of) := ⟨List.mem_append_left _ (List.mem_of_getElem? (i := 63) (by decide +kernel)), rfl⟩
theorem se_X10_X10_scraps : zWd (.selects RX10 yX10_scraps yX10_scraps) := ⟨List.mem_append_left _ (List.mem_of_getElem? (i := 64) (by decide +kernel)), rfl⟩
theorem se_X10_X10_place : zWd (.selects RX10 yX10_place yX10_place) := ⟨List.mem_append_left _ (List.mem_of_getElem? (i := 65) (by decide +kernel)), rfl⟩
theorem se_X10_X10_removes : zWd (.selects RX10 yX10_removes yX10_removes) := ⟨List.mem_append_left _ (List.mem_of_getElem? (i := 66) (by decide +kernel)), rfl⟩
theorem se_X10_X10_leaves : zWd (.selects RX10 yX10_leaves yX10_leaves) := ⟨List.mem_append_left _ (List.mem_of_getElem? (i := 67) (by decide +kernel)), rfl⟩
theorem se_X10_X10_folds : zWd (.selects RX10 yX10_folds yX10_folds) := ⟨List.mem_append_left _ (List.mem_of_getElem? (i := 68) (by decide +kernel)), rfl⟩
theorem se_X10_X10_folded : zWd (.selects RX10 yX10_folded yX10_folded) := ⟨List.mem_append_left _ (List.mem_of_getElem? (i := 69) (by decide +kernel)), rfl⟩
theorem se_X10_X10_moves : zWd (.selects RX10 yX10_moves yX10_moves) := ⟨List.mem_append_left _ (List.mem_of_getElem? (i := 70) (by decide +kernel)), rfl⟩
theorem se_X10_X10_wanders : zWd (.selects RX10 yX10_wanders yX10_wanders) := ⟨List.mem_append_left _ (List.mem_of_getElem? (i := 71) (by decide +kernel)), rfl⟩
theorem se_X10_X10_open : zWd (.selects RX10 yX10_open yX10_open) := ⟨List.mem_append_left _ (List.mem_of_getElem? (i := 72) (by decide +kernel)), rfl⟩
theorem se_X10_X10_herd : zWd (.selects RX10 yX10_herd yX10_herd) := ⟨List.mem_append_left _ (List.mem_of_getElem? (i := 73) (by decide +kernel)), rfl⟩
theorem se_X10_X10_oils : zWd (.selects RX10 yX10_oils yX10_oils) := ⟨List.mem_append_left _ (List.mem_of_getElem? (i := 74) (by decide +kernel)), rfl⟩
theorem se_X10_X10_stores : zWd (.selects RX10 yX10_stores yX10_stores) := ⟨List.mem_append_left _ (List.mem_of_getElem? (i := 75) (by decide +kernel)), rfl⟩
theorem se_X10_X10_passes : zWd (.selects RX10 yX10_passes yX10_passes) := ⟨List.mem_append_left _ (List.mem_of_getElem? (i := 76) (by decide +kernel)), rfl⟩
theorem se_X10_X10_goesBy : zWd (.selects RX10 yX10_goesBy yX10_goesBy) := ⟨List.mem_append_left _ (List.mem_of_getElem? (i := 77) (by decide +kernel)), rfl⟩
theorem se_X10_X10_tells : zWd (.selects RX10 yX10_tells yX10_tells) := ⟨List.mem_append_left _ (List.mem_of_getElem? (i := 78) (by decide +kernel)), rfl⟩
theorem se_X10_X10_isShadier : zWd (.selects RX10 yX10_isShadier yX10_isShadier) := ⟨List.mem_append_left _ (List.mem_of_getElem? (i := 79) (by decide +kernel)), rfl⟩
theorem se_X10_X10_thinks : zWd (.selects RX10 yX10_thinks yX10_thinks) := ⟨List.mem_append_left _ (List.mem_of_getElem? (i := 80) (by decide +kernel)), rfl⟩
theorem se_X10_X10_forgets : zWd (.selects RX10 yX10_forgets yX10_forgets) := ⟨List.mem_append_left _ (List.mem_of_getElem? (i := 81) (by decide +kernel)), rfl⟩
theorem se_X10_X10_rusts : zWd (.selects RX10 yX10_rusts yX10_rusts) := ⟨List.mem_append_left _ (List.mem_of_getElem? (i := 82) (by decide +kernel)), rfl⟩
theorem se_X10_X10_isRustier : zWd (.selects RX10 yX10_isRustier yX10_isRustier) := ⟨List.mem_append_left _ (List.mem_of_getElem? (i := 83) (by decide +kernel)), rfl⟩
theorem se_X10_X10_writes : zWd (.selects RX10 yX10_writes yX10_writes) := ⟨List.mem_append_left _ (List.mem_of_getElem? (i := 84) (by decide +kernel)), rfl⟩
theorem se_X10_X10_signs : zWd (.selects RX10 yX10_signs yX10_signs) := ⟨List.mem_append_left _ (List.mem_of_getElem? (i := 85) (by decide +kernel)), rfl⟩
theorem se_X10_X10_isCommand : zWd (.selects RX10 yX10_isCommand yX10_isCommand) := ⟨List.mem_append_left _ (List.mem_of_getElem? (i := 86) (by decide +kernel)), rfl⟩
theorem se_X10_X10_digits : zWd (.selects RX10 yX10_digits yX10_digits) := ⟨List.mem_append_left _ (List.mem_of_getElem? (i := 87) (by decide +kernel)), rfl⟩
theorem se_X10_X10_takes : zWd (.selects RX10 yX10_takes yX10_takes) := ⟨List.mem_append_left _ (List.mem_of_getElem? (i := 88) (by decide +kernel)), rfl⟩
theorem se_X10_X10_carries : zWd (.selects RX10 yX10_carries yX10_carries) := ⟨List.mem_append_left _ (List.mem_of_getElem? (i := 89) (by decide +kernel)), rfl⟩
theorem zcl_J0 : zCl 0 RJ0 TJ0 4 tyJ0 := ⟨rfl, List.forall_mem_cons.mpr ⟨ly_J0_value, List.forall_mem_cons.mpr ⟨ly_J0_coder, List.forall_mem_cons.mpr ⟨ly_J0_hash, List.forall_mem_cons.mpr ⟨ly_J0_hashIsZero, fun _ h => absurd h List.not_mem_nil⟩⟩⟩⟩, tyJ0_ok, nmJ0, rfl, by decide⟩
theorem zcl_J4 : zCl 1 RJ4 TJ4 4 tyJ4 := ⟨rfl, List.forall_mem_cons.mpr ⟨ly_J4_value, List.forall_mem_cons.mpr ⟨ly_J4_coder, List.forall_mem_cons.mpr ⟨ly_J4_maybeLatin1, List.forall_mem_cons.mpr ⟨ly_J4_count, fun _ h => absurd h List.not_mem_nil⟩⟩⟩⟩, tyJ4_ok, nmJ4, rfl, by decide⟩
theorem zcl_Jx00060 : zCl 2 RJx00060 TJx00060 6 tyJx00060 := ⟨rfl, List.forall_mem_cons.mpr ⟨ly_Jx00060_backtrace, List.forall_mem_cons.mpr ⟨ly_Jx00060_detailMessage, List.forall_mem_cons.mpr ⟨ly_Jx00060_cause, List.forall_mem_cons.mpr ⟨ly_Jx00060_stackTrace, List.forall_mem_cons.mpr ⟨ly_Jx00060_depth, List.forall_mem_cons.mpr ⟨ly_Jx00060_suppressedExceptions, fun _ h => absurd h List.not_mem_nil⟩⟩⟩⟩⟩⟩, tyJx00060_ok, nmJx00060, rfl, by decide⟩
theorem zcl_Jx7c733 : zCl 3 RJx7c733 TJx7c733 6 tyJx7c733 := ⟨rfl, List.forall_mem_cons.mpr ⟨ly_Jx7c733_backtrace, List.forall_mem_cons.mpr ⟨ly_Jx7c733_detailMessage, List.forall_mem_cons.mpr ⟨ly_Jx7c733_cause, List.forall_mem_cons.mpr ⟨ly_Jx7c733_stackTrace, List.forall_mem_cons.mpr ⟨ly_Jx7c733_depth, List.forall_mem_cons.mpr ⟨ly_Jx7c733_suppressedExceptions, fun _ h => absurd h List.not_mem_nil⟩⟩⟩⟩⟩⟩, tyJx7c733_ok, nmJx7c733, rfl, by decide⟩
theorem zcl_X0 : zCl 4 RX0 TX0 5 tyX0 := ⟨rfl, List.forall_mem_cons.mpr ⟨ly_X0_id, List.forall_mem_cons.mpr ⟨ly_X0_lawn, List.forall_mem_cons.mpr ⟨ly_X0_rust, List.forall_mem_cons.mpr ⟨ly_X0_dayAdded, List.forall_mem_cons.mpr ⟨ly_X0_folded, fun _ h => absurd h List.not_mem_nil⟩⟩⟩⟩⟩, tyX0_ok, nmX0, rfl, by decide⟩
theorem zcl_X1 : zCl 5 RX1 TX1 7 tyX1 := ⟨rfl, List.forall_mem_cons.mpr ⟨ly_X1_text, List.forall_mem_cons.mpr ⟨ly_X1_deeds, List.forall_mem_cons.mpr ⟨ly_X1_firsts, List.forall_mem_cons.mpr ⟨ly_X1_seconds, List.forall_mem_cons.mpr ⟨ly_X1_length, List.forall_mem_cons.mpr ⟨ly_X1_position, List.forall_mem_cons.mpr ⟨ly_X1_count, fun _ h => absurd h List.not_mem_nil⟩⟩⟩⟩⟩⟩⟩, tyX1_ok, nmX1, rfl, by decide⟩
theorem zcl_X3 : zCl 6 RX3 TX3 12 tyX3 := ⟨rfl, List.forall_mem_cons.mpr ⟨ly_X3_paths, List.forall_mem_cons.mpr ⟨ly_X3_shades, List.forall_mem_cons.mpr ⟨ly_X3_herdSizes, List.forall_mem_cons.mpr ⟨ly_X3_chairs, List.forall_mem_cons.mpr ⟨ly_X3_chairCount, List.forall_mem_cons.mpr ⟨ly_X3_nextId, List.forall_mem_cons.mpr ⟨ly_X3_day, List.forall_mem_cons.mpr ⟨ly_X3_oil, List.forall_mem_cons.mpr ⟨ly_X3_collapsed, List.forall_mem_cons.mpr ⟨ly_X3_scrapped, List.forall_mem_cons.mpr ⟨ly_X3_moves, List.forall_mem_cons.mpr ⟨ly_X3_grazed, fun _ h => absurd h List.not_mem_nil⟩⟩⟩⟩⟩⟩⟩⟩⟩⟩⟩⟩, tyX3_ok, nmX3, rfl, by decide⟩
theorem zcl_X4 : zCl 7 RX4 TX4 2 tyX4 := ⟨rfl, List.forall_mem_cons.mpr ⟨ly_X4_past, List.forall_mem_cons.mpr ⟨ly_X4_count, fun _ h => absurd h List.not_mem_nil⟩⟩, tyX4_ok, nmX4, rfl, by decide⟩
theorem zcl_X5 : zCl 8 RX5 TX5 1 tyX5 := ⟨rfl, List.forall_mem_cons.mpr ⟨ly_X5_bounds, fun _ h => absurd h List.not_mem_nil⟩, tyX5_ok, nmX5, rfl, by decide⟩
theorem zcl_X6 : zCl 9 RX6 TX6 3 tyX6 := ⟨rfl, List.forall_mem_cons.mpr ⟨ly_X6_verdict, List.forall_mem_cons.mpr ⟨ly_X6_reason, List.forall_mem_cons.mpr ⟨ly_X6_detail, fun _ h => absurd h List.not_mem_nil⟩⟩⟩, tyX6_ok, nmX6, rfl, by decide⟩
theorem zcl_X7 : zCl 10 RX7 TX7 1 tyX7 := ⟨rfl, List.forall_mem_cons.mpr ⟨ly_X7_numbers, fun _ h => absurd h List.not_mem_nil⟩, tyX7_ok, nmX7, rfl, by decide⟩
theorem zcl_X8 : zCl 11 RX8 TX8 2 tyX8 := ⟨rfl, List.forall_mem_cons.mpr ⟨ly_X8_neighbours, List.forall_mem_cons.mpr ⟨ly_X8_count, fun _ h => absurd h List.not_mem_nil⟩⟩, tyX8_ok, nmX8, rfl, by decide⟩
theorem zcl_X9 : zCl 12 RX9 TX9 14 tyX9 := ⟨rfl, List.forall_mem_cons.mpr ⟨ly_X9_garden, List.forall_mem_cons.mpr ⟨ly_X9_forecast, List.forall_mem_cons.mpr ⟨ly_X9_beforeCommands, List.forall_mem_cons.mpr ⟨ly_X9_snapshot, List.forall_mem_cons.mpr ⟨ly_X9_history, List.forall_mem_cons.mpr ⟨ly_X9_improvement, List.forall_mem_cons.mpr ⟨ly_X9_judge, List.forall_mem_cons.mpr ⟨ly_X9_input, List.forall_mem_cons.mpr ⟨ly_X9_output, List.forall_mem_cons.mpr ⟨ly_X9_snapshotSaved, List.forall_mem_cons.mpr ⟨ly_X9_syntaxOffset, List.forall_mem_cons.mpr ⟨ly_X9_latestReason, List.forall_mem_cons.mpr ⟨ly_X9_latestDetail, List.forall_mem_cons.mpr ⟨ly_X9_latestCause, fun _ h => absurd h List.not_mem_nil⟩⟩⟩⟩⟩⟩⟩⟩⟩⟩⟩⟩⟩⟩, tyX9_ok, nmX9, rfl, by decide⟩
theorem zcl_X10 : zCl 13 RX10 TX10 20 tyX10 := ⟨rfl, List.forall_mem_cons.mpr ⟨ly_X10_now, List.forall_mem_cons.mpr ⟨ly_X10_tried, List.forall_mem_cons.mpr ⟨ly_X10_thought, List.forall_mem_cons.mpr ⟨ly_X10_kept, List.forall_mem_cons.mpr ⟨ly_X10_undos, List.forall_mem_cons.mpr ⟨ly_X10_saved, List.forall_mem_cons.mpr ⟨ly_X10_isSaved, List.forall_mem_cons.mpr ⟨ly_X10_output, List.forall_mem_cons.mpr ⟨ly_X10_written, List.forall_mem_cons.mpr ⟨ly_X10_text, List.forall_mem_cons.mpr ⟨ly_X10_length, List.forall_mem_cons.mpr ⟨ly_X10_at, List.forall_mem_cons.mpr ⟨ly_X10_word, List.forall_mem_cons.mpr ⟨ly_X10_told, List.forall_mem_cons.mpr ⟨ly_X10_fault, List.forall_mem_cons.mpr ⟨ly_X10_reason, List.forall_mem_cons.mpr ⟨ly_X10_detail, List.forall_mem_cons.mpr ⟨ly_X10_cause, List.forall_mem_cons.mpr ⟨ly_X10_answer, List.forall_mem_cons.mpr ⟨ly_X10_thrown, fun _ h => absurd h List.not_mem_nil⟩⟩⟩⟩⟩⟩⟩⟩⟩⟩⟩⟩⟩⟩⟩⟩⟩⟩⟩⟩, tyX10_ok, nmX10, rfl, by decide⟩
