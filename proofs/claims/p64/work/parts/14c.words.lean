theorem st_J3_checkFromToIndex_8c36e : zWd (.static yJ3_checkFromToIndex_8c36e) := ⟨pm_6 _ (List.mem_of_getElem? (i := 36) (by decide +kernel)), rfl⟩
theorem cd_J3_checkFromToIndex_8c36e : zWd (.code yJ3_checkFromToIndex_8c36e cJ3_checkFromToIndex_8c36e 4 (some .int)) := ⟨pm_6 _ (List.mem_of_getElem? (i := 37) (by decide +kernel)), rfl⟩
theorem lk_J2_111 : zWd (.methodLink RJ2 111 yJ2_putChar_b72d1) := ⟨pm_6 _ (List.mem_of_getElem? (i := 38) (by decide +kernel)), rfl⟩
theorem st_J2_putChar_b72d1 : zWd (.static yJ2_putChar_b72d1) := ⟨pm_6 _ (List.mem_of_getElem? (i := 39) (by decide +kernel)), rfl⟩
theorem cd_J2_putChar_b72d1 : zWd (.code yJ2_putChar_b72d1 cJ2_putChar_b72d1 3 none) := ⟨pm_6 _ (List.mem_of_getElem? (i := 40) (by decide +kernel)), rfl⟩
theorem lk_J5_32 : zWd (.methodLink RJ5 32 yJ0_length_8abf5) := ⟨pm_6 _ (List.mem_of_getElem? (i := 41) (by decide +kernel)), rfl⟩
theorem lk_J5_208 : zWd (.methodLink RJ5 208 yJ5_putStringAt_47b60) := ⟨pm_6 _ (List.mem_of_getElem? (i := 42) (by decide +kernel)), rfl⟩
theorem im_J5_putStringAt_47b60 : zWd (.instanceMethod yJ5_putStringAt_47b60) := ⟨pm_6 _ (List.mem_of_getElem? (i := 44) (by decide +kernel)), rfl⟩
theorem cd_J5_putStringAt_47b60 : zWd (.code yJ5_putStringAt_47b60 cJ5_putStringAt_47b60 3 none) := ⟨pm_6 _ (List.mem_of_getElem? (i := 45) (by decide +kernel)), rfl⟩
theorem lk_J5_397 : zWd (.methodLink RJ5 397 yJ5_inflateIfNeededFor_a7421) := ⟨pm_6 _ (List.mem_of_getElem? (i := 46) (by decide +kernel)), rfl⟩
theorem im_J5_inflateIfNeededFor_a7421 : zWd (.instanceMethod yJ5_inflateIfNeededFor_a7421) := ⟨pm_6 _ (List.mem_of_getElem? (i := 48) (by decide +kernel)), rfl⟩
theorem cd_J5_inflateIfNeededFor_a7421 : zWd (.code yJ5_inflateIfNeededFor_a7421 cJ5_inflateIfNeededFor_a7421 2 none) := ⟨pm_6 _ (List.mem_of_getElem? (i := 49) (by decide +kernel)), rfl⟩
theorem lk_J5_40 : zWd (.methodLink RJ5 40 yJ0_coder_7d493) := ⟨pm_6 _ (List.mem_of_getElem? (i := 50) (by decide +kernel)), rfl⟩
theorem lk_J5_195 : zWd (.methodLink RJ5 195 yJ5_inflate_da8c8) := ⟨pm_6 _ (List.mem_of_getElem? (i := 51) (by decide +kernel)), rfl⟩
theorem im_J5_inflate_da8c8 : zWd (.instanceMethod yJ5_inflate_da8c8) := ⟨pm_6 _ (List.mem_of_getElem? (i := 53) (by decide +kernel)), rfl⟩
theorem cd_J5_inflate_da8c8 : zWd (.code yJ5_inflate_da8c8 cJ5_inflate_da8c8 2 none) := ⟨pm_6 _ (List.mem_of_getElem? (i := 54) (by decide +kernel)), rfl⟩
theorem lk_J5_125 : zWd (.methodLink RJ5 125 yJ1_inflate_0e8fd) := ⟨pm_6 _ (List.mem_of_getElem? (i := 55) (by decide +kernel)), rfl⟩
theorem st_J1_inflate_0e8fd : zWd (.static yJ1_inflate_0e8fd) := ⟨pm_6 _ (List.mem_of_getElem? (i := 56) (by decide +kernel)), rfl⟩
theorem cd_J1_inflate_0e8fd : zWd (.code yJ1_inflate_0e8fd cJ1_inflate_0e8fd 5 none) := ⟨pm_6 _ (List.mem_of_getElem? (i := 57) (by decide +kernel)), rfl⟩
theorem lk_J1_240 : zWd (.methodLink RJ1 240 yJ2_inflate_0e8fd) := ⟨pm_6 _ (List.mem_of_getElem? (i := 58) (by decide +kernel)), rfl⟩
theorem st_J2_inflate_0e8fd : zWd (.static yJ2_inflate_0e8fd) := ⟨pm_6 _ (List.mem_of_getElem? (i := 59) (by decide +kernel)), rfl⟩
theorem cd_J2_inflate_0e8fd : zWd (.code yJ2_inflate_0e8fd cJ2_inflate_0e8fd 6 none) := ⟨pm_6 _ (List.mem_of_getElem? (i := 60) (by decide +kernel)), rfl⟩
theorem lk_J2_173 : zWd (.methodLink RJ2 173 yJ2_checkBoundsOffCount_d044e) := ⟨pm_6 _ (List.mem_of_getElem? (i := 61) (by decide +kernel)), rfl⟩
theorem st_J2_checkBoundsOffCount_d044e : zWd (.static yJ2_checkBoundsOffCount_d044e) := ⟨pm_6 _ (List.mem_of_getElem? (i := 62) (by decide +kernel)), rfl⟩
theorem cd_J2_checkBoundsOffCount_d044e : zWd (.code yJ2_checkBoundsOffCount_d044e cJ2_checkBoundsOffCount_d044e 3 none) := ⟨pm_6 _ (List.mem_of_getElem? (i := 63) (by decide +kernel)), rfl⟩
theorem lk_J2_419 : zWd (.methodLink RJ2 419 yJ0_checkBoundsOffCount_cabcc) := ⟨pm_6 _ (List.mem_of_getElem? (i := 64) (by decide +kernel)), rfl⟩
theorem st_J0_checkBoundsOffCount_cabcc : zWd (.static yJ0_checkBoundsOffCount_cabcc) := ⟨pm_6 _ (List.mem_of_getElem? (i := 65) (by decide +kernel)), rfl⟩
theorem cd_J0_checkBoundsOffCount_cabcc : zWd (.code yJ0_checkBoundsOffCount_cabcc cJ0_checkBoundsOffCount_cabcc 3 (some .int)) := ⟨pm_6 _ (List.mem_of_getElem? (i := 66) (by decide +kernel)), rfl⟩
theorem lk_J0_1065 : zWd (.methodLink RJ0 1065 yJ3_checkFromIndexSize_8c36e) := ⟨pm_6 _ (List.mem_of_getElem? (i := 67) (by decide +kernel)), rfl⟩
theorem st_J3_checkFromIndexSize_8c36e : zWd (.static yJ3_checkFromIndexSize_8c36e) := ⟨pm_6 _ (List.mem_of_getElem? (i := 68) (by decide +kernel)), rfl⟩
theorem cd_J3_checkFromIndexSize_8c36e : zWd (.code yJ3_checkFromIndexSize_8c36e cJ3_checkFromIndexSize_8c36e 4 (some .int)) := ⟨pm_6 _ (List.mem_of_getElem? (i := 69) (by decide +kernel)), rfl⟩
theorem lk_J5_399 : zWd (.methodLink RJ5 399 yJ0_getBytes_840e7) := ⟨pm_6 _ (List.mem_of_getElem? (i := 70) (by decide +kernel)), rfl⟩
theorem im_J0_getBytes_840e7 : zWd (.instanceMethod yJ0_getBytes_840e7) := ⟨pm_6 _ (List.mem_of_getElem? (i := 71) (by decide +kernel)), rfl⟩
theorem se_J0_J0_getBytes_840e7 : zWd (.selects RJ0 yJ0_getBytes_840e7 yJ0_getBytes_840e7) := ⟨pm_6 _ (List.mem_of_getElem? (i := 72) (by decide +kernel)), rfl⟩
theorem cd_J0_getBytes_840e7 : zWd (.code yJ0_getBytes_840e7 cJ0_getBytes_840e7 4 none) := ⟨pm_6 _ (List.mem_of_getElem? (i := 73) (by decide +kernel)), rfl⟩
theorem lk_J0_212 : zWd (.methodLink RJ0 212 arraycopyName) := ⟨pm_6 _ (List.mem_of_getElem? (i := 74) (by decide +kernel)), rfl⟩
theorem lk_J0_106 : zWd (.methodLink RJ0 106 yJ1_inflate_0e8fd) := ⟨pm_6 _ (List.mem_of_getElem? (i := 75) (by decide +kernel)), rfl⟩
theorem lk_Jx7c733_19 : zWd (.methodLink RJx7c733 19 yJ4_append_bf812) := ⟨pm_6 _ (List.mem_of_getElem? (i := 76) (by decide +kernel)), rfl⟩
theorem im_J4_append_bf812 : zWd (.instanceMethod yJ4_append_bf812) := ⟨pm_6 _ (List.mem_of_getElem? (i := 77) (by decide +kernel)), rfl⟩
theorem se_J4_J4_append_bf812 : zWd (.selects RJ4 yJ4_append_bf812 yJ4_append_bf812) := ⟨pm_6 _ (List.mem_of_getElem? (i := 78) (by decide +kernel)), rfl⟩
theorem cd_J4_append_bf812 : zWd (.code yJ4_append_bf812 cJ4_append_bf812 2 (some (.object "java/lang/StringBuilder"))) := ⟨pm_6 _ (List.mem_of_getElem? (i := 79) (by decide +kernel)), rfl⟩
theorem lk_J4_53 : zWd (.methodLink RJ4 53 yJ5_append_c97b9) := ⟨pm_6 _ (List.mem_of_getElem? (i := 80) (by decide +kernel)), rfl⟩
theorem im_J5_append_c97b9 : zWd (.instanceMethod yJ5_append_c97b9) := ⟨pm_6 _ (List.mem_of_getElem? (i := 81) (by decide +kernel)), rfl⟩
theorem cd_J5_append_c97b9 : zWd (.code yJ5_append_c97b9 cJ5_append_c97b9 4 (some (.object "java/lang/AbstractStringBuilder"))) := ⟨pm_6 _ (List.mem_of_getElem? (i := 82) (by decide +kernel)), rfl⟩
theorem lk_J5_245 : zWd (.methodLink RJ5 245 yJ6_stringSize_0f7a4) := ⟨pm_6 _ (List.mem_of_getElem? (i := 83) (by decide +kernel)), rfl⟩
theorem st_J6_stringSize_0f7a4 : zWd (.static yJ6_stringSize_0f7a4) := ⟨pm_6 _ (List.mem_of_getElem? (i := 84) (by decide +kernel)), rfl⟩
theorem cd_J6_stringSize_0f7a4 : zWd (.code yJ6_stringSize_0f7a4 cJ6_stringSize_0f7a4 4 (some .int)) := ⟨pm_6 _ (List.mem_of_getElem? (i := 85) (by decide +kernel)), rfl⟩
theorem lk_J5_248 : zWd (.methodLink RJ5 248 yJ6_getChars_ba4f3) := ⟨pm_6 _ (List.mem_of_getElem? (i := 86) (by decide +kernel)), rfl⟩
theorem st_J6_getChars_ba4f3 : zWd (.static yJ6_getChars_ba4f3) := ⟨pm_6 _ (List.mem_of_getElem? (i := 87) (by decide +kernel)), rfl⟩
theorem cd_J6_getChars_ba4f3 : zWd (.code yJ6_getChars_ba4f3 cJ6_getChars_ba4f3 7 (some .int)) := ⟨pm_6 _ (List.mem_of_getElem? (i := 88) (by decide +kernel)), rfl⟩
theorem lk_J6_83 : zWd (.fieldLink RJ6 83 "java/lang/Integer" "DigitOnes" "[B") := ⟨pm_6 _ (List.mem_of_getElem? (i := 89) (by decide +kernel)), rfl⟩
theorem ls_J6_DigitOnes : (.laysStatic RJ6 "DigitOnes" "[B" : Cond) ∈ lw_tbl := pm_6 _ (List.mem_of_getElem? (i := 90) (by decide +kernel))
theorem lk_J6_87 : zWd (.fieldLink RJ6 87 "java/lang/Integer" "DigitTens" "[B") := ⟨pm_6 _ (List.mem_of_getElem? (i := 91) (by decide +kernel)), rfl⟩
theorem ls_J6_DigitTens : (.laysStatic RJ6 "DigitTens" "[B" : Cond) ∈ lw_tbl := pm_6 _ (List.mem_of_getElem? (i := 92) (by decide +kernel))
theorem lk_J5_251 : zWd (.methodLink RJ5 251 yJ2_getChars_46870) := ⟨pm_6 _ (List.mem_of_getElem? (i := 93) (by decide +kernel)), rfl⟩
theorem st_J2_getChars_46870 : zWd (.static yJ2_getChars_46870) := ⟨pm_6 _ (List.mem_of_getElem? (i := 94) (by decide +kernel)), rfl⟩
theorem cd_J2_getChars_46870 : zWd (.code yJ2_getChars_46870 cJ2_getChars_46870 5 (some .int)) := ⟨pm_6 _ (List.mem_of_getElem? (i := 95) (by decide +kernel)), rfl⟩
theorem lk_J2_393 : zWd (.methodLink RJ2 393 yJ2_getChars_ba4f3) := ⟨pm_6 _ (List.mem_of_getElem? (i := 96) (by decide +kernel)), rfl⟩
theorem st_J2_getChars_ba4f3 : zWd (.static yJ2_getChars_ba4f3) := ⟨pm_6 _ (List.mem_of_getElem? (i := 97) (by decide +kernel)), rfl⟩
theorem cd_J2_getChars_ba4f3 : zWd (.code yJ2_getChars_ba4f3 cJ2_getChars_ba4f3 7 (some .int)) := ⟨pm_6 _ (List.mem_of_getElem? (i := 98) (by decide +kernel)), rfl⟩
theorem lk_J2_403 : zWd (.fieldLink RJ2 403 "java/lang/Integer" "DigitOnes" "[B") := ⟨pm_6 _ (List.mem_of_getElem? (i := 99) (by decide +kernel)), rfl⟩
theorem lk_J2_407 : zWd (.fieldLink RJ2 407 "java/lang/Integer" "DigitTens" "[B") := ⟨pm_6 _ (List.mem_of_getElem? (i := 100) (by decide +kernel)), rfl⟩
theorem lk_Jx7c733_22 : zWd (.methodLink RJx7c733 22 yJ4_toString_0e30d) := ⟨pm_6 _ (List.mem_of_getElem? (i := 101) (by decide +kernel)), rfl⟩
theorem im_J4_toString_0e30d : zWd (.instanceMethod yJ4_toString_0e30d) := ⟨pm_6 _ (List.mem_of_getElem? (i := 102) (by decide +kernel)), rfl⟩
theorem se_J4_J4_toString_0e30d : zWd (.selects RJ4 yJ4_toString_0e30d yJ4_toString_0e30d) := ⟨pm_6 _ (List.mem_of_getElem? (i := 103) (by decide +kernel)), rfl⟩
theorem cd_J4_toString_0e30d : zWd (.code yJ4_toString_0e30d cJ4_toString_0e30d 1 (some (.object "java/lang/String"))) := ⟨pm_6 _ (List.mem_of_getElem? (i := 104) (by decide +kernel)), rfl⟩
theorem lk_J4_18 : zWd (.classLink RJ4 18 "java/lang/String") := ⟨pm_6 _ (List.mem_of_getElem? (i := 105) (by decide +kernel)), rfl⟩
theorem lk_J4_137 : zWd (.methodLink RJ4 137 yJ0_init_81219) := ⟨pm_6 _ (List.mem_of_getElem? (i := 106) (by decide +kernel)), rfl⟩
theorem im_J0_init_81219 : zWd (.instanceMethod yJ0_init_81219) := ⟨pm_6 _ (List.mem_of_getElem? (i := 107) (by decide +kernel)), rfl⟩
theorem cd_J0_init_81219 : zWd (.code yJ0_init_81219 cJ0_init_81219 2 none) := ⟨pm_6 _ (List.mem_of_getElem? (i := 108) (by decide +kernel)), rfl⟩
theorem lk_J0_489 : zWd (.methodLink RJ0 489 yJ0_init_db425) := ⟨pm_6 _ (List.mem_of_getElem? (i := 109) (by decide +kernel)), rfl⟩
theorem im_J0_init_db425 : zWd (.instanceMethod yJ0_init_db425) := ⟨pm_6 _ (List.mem_of_getElem? (i := 110) (by decide +kernel)), rfl⟩
theorem cd_J0_init_db425 : zWd (.code yJ0_init_db425 cJ0_init_db425 5 none) := ⟨pm_6 _ (List.mem_of_getElem? (i := 111) (by decide +kernel)), rfl⟩
theorem lk_J0_1 : zWd (.methodLink RJ0 1 Lib.objectInit) := ⟨pm_6 _ (List.mem_of_getElem? (i := 112) (by decide +kernel)), rfl⟩
theorem lk_J0_552 : zWd (.methodLink RJ0 552 yJ5_getValue_6d5f1) := ⟨pm_6 _ (List.mem_of_getElem? (i := 113) (by decide +kernel)), rfl⟩
theorem im_J5_getValue_6d5f1 : zWd (.instanceMethod yJ5_getValue_6d5f1) := ⟨pm_6 _ (List.mem_of_getElem? (i := 114) (by decide +kernel)), rfl⟩
theorem sm_J5_J5_J5_getValue_6d5f1 : zWd (.sameMethod RJ5 RJ5 "getValue" "()[B") := ⟨pm_6 _ (List.mem_of_getElem? (i := 115) (by decide +kernel)), rfl⟩
theorem se_J4_J5_getValue_6d5f1 : zWd (.selects RJ4 yJ5_getValue_6d5f1 yJ5_getValue_6d5f1) := ⟨pm_6 _ (List.mem_of_getElem? (i := 116) (by decide +kernel)), rfl⟩
theorem cd_J5_getValue_6d5f1 : zWd (.code yJ5_getValue_6d5f1 cJ5_getValue_6d5f1 1 (some (.array .byte))) := ⟨pm_6 _ (List.mem_of_getElem? (i := 117) (by decide +kernel)), rfl⟩
theorem lk_J0_549 : zWd (.methodLink RJ0 549 yJ5_length_8abf5) := ⟨pm_6 _ (List.mem_of_getElem? (i := 118) (by decide +kernel)), rfl⟩
theorem im_J5_length_8abf5 : zWd (.instanceMethod yJ5_length_8abf5) := ⟨pm_6 _ (List.mem_of_getElem? (i := 119) (by decide +kernel)), rfl⟩
theorem sm_J5_J5_J5_length_8abf5 : zWd (.sameMethod RJ5 RJ5 "length" "()I") := ⟨pm_6 _ (List.mem_of_getElem? (i := 120) (by decide +kernel)), rfl⟩
theorem se_J4_J5_length_8abf5 : zWd (.selects RJ4 yJ5_length_8abf5 yJ4_length_8abf5) := ⟨pm_6 _ (List.mem_of_getElem? (i := 121) (by decide +kernel)), rfl⟩
theorem im_J4_length_8abf5 : zWd (.instanceMethod yJ4_length_8abf5) := ⟨pm_6 _ (List.mem_of_getElem? (i := 122) (by decide +kernel)), rfl⟩
theorem cd_J4_length_8abf5 : zWd (.code yJ4_length_8abf5 cJ4_length_8abf5 1 (some .int)) := ⟨pm_6 _ (List.mem_of_getElem? (i := 123) (by decide +kernel)), rfl⟩
theorem lk_J4_343 : zWd (.methodLink RJ4 343 yJ5_length_8abf5) := ⟨pm_6 _ (List.mem_of_getElem? (i := 124) (by decide +kernel)), rfl⟩
theorem cd_J5_length_8abf5 : zWd (.code yJ5_length_8abf5 cJ5_length_8abf5 1 (some .int)) := ⟨pm_6 _ (List.mem_of_getElem? (i := 125) (by decide +kernel)), rfl⟩
theorem lk_J0_1047 : zWd (.methodLink RJ0 1047 yJ5_isLatin1_aae02) := ⟨pm_6 _ (List.mem_of_getElem? (i := 126) (by decide +kernel)), rfl⟩
theorem lk_J0_54 : zWd (.methodLink RJ0 54 yJ7_copyOfRange_39247) := ⟨pm_6 _ (List.mem_of_getElem? (i := 127) (by decide +kernel)), rfl⟩
theorem st_J7_copyOfRange_39247 : zWd (.static yJ7_copyOfRange_39247) := ⟨pm_6 _ (List.mem_of_getElem? (i := 128) (by decide +kernel)), rfl⟩
theorem cd_J7_copyOfRange_39247 : zWd (.code yJ7_copyOfRange_39247 cJ7_copyOfRange_39247 3 (some (.array .byte))) := ⟨pm_6 _ (List.mem_of_getElem? (i := 129) (by decide +kernel)), rfl⟩
theorem lk_J7_339 : zWd (.methodLink RJ7 339 yJ7_copyOfRangeByte_39247) := ⟨pm_6 _ (List.mem_of_getElem? (i := 130) (by decide +kernel)), rfl⟩
theorem st_J7_copyOfRangeByte_39247 : zWd (.static yJ7_copyOfRangeByte_39247) := ⟨pm_6 _ (List.mem_of_getElem? (i := 131) (by decide +kernel)), rfl⟩
theorem cd_J7_copyOfRangeByte_39247 : zWd (.code yJ7_copyOfRangeByte_39247 cJ7_copyOfRangeByte_39247 5 (some (.array .byte))) := ⟨pm_6 _ (List.mem_of_getElem? (i := 132) (by decide +kernel)), rfl⟩
theorem lk_J7_343 : zWd (.methodLink RJ7 343 yJ7_checkLength_df160) := ⟨pm_6 _ (List.mem_of_getElem? (i := 133) (by decide +kernel)), rfl⟩
theorem st_J7_checkLength_df160 : zWd (.static yJ7_checkLength_df160) := ⟨pm_6 _ (List.mem_of_getElem? (i := 134) (by decide +kernel)), rfl⟩
theorem cd_J7_checkLength_df160 : zWd (.code yJ7_checkLength_df160 cJ7_checkLength_df160 2 none) := ⟨pm_6 _ (List.mem_of_getElem? (i := 135) (by decide +kernel)), rfl⟩
theorem lk_J7_43 : zWd (.classLink RJ7 43 "java/lang/IllegalArgumentException") := ⟨pm_6 _ (List.mem_of_getElem? (i := 136) (by decide +kernel)), rfl⟩
theorem lk_J7_45 : zWd (.classLink RJ7 45 "java/lang/StringBuilder") := ⟨pm_6 _ (List.mem_of_getElem? (i := 137) (by decide +kernel)), rfl⟩
theorem lk_J7_47 : zWd (.methodLink RJ7 47 yJ4_init_da8c8) := ⟨pm_6 _ (List.mem_of_getElem? (i := 138) (by decide +kernel)), rfl⟩
theorem lk_J7_54 : zWd (.methodLink RJ7 54 yJ4_append_bf812) := ⟨pm_6 _ (List.mem_of_getElem? (i := 139) (by decide +kernel)), rfl⟩
theorem lk_J7_337 : (.stringRef RJ7 337 " > " : Cond) ∈ lw_tbl := pm_6 _ (List.mem_of_getElem? (i := 140) (by decide +kernel))
theorem lk_J7_50 : zWd (.methodLink RJ7 50 yJ4_append_15ec4) := ⟨pm_6 _ (List.mem_of_getElem? (i := 141) (by decide +kernel)), rfl⟩
theorem lk_J7_61 : zWd (.methodLink RJ7 61 yJ4_toString_0e30d) := ⟨pm_6 _ (List.mem_of_getElem? (i := 142) (by decide +kernel)), rfl⟩
theorem lk_J0_1051 : zWd (.methodLink RJ0 1051 yJ2_compress_39247) := ⟨pm_6 _ (List.mem_of_getElem? (i := 144) (by decide +kernel)), rfl⟩
theorem st_J2_compress_39247 : zWd (.static yJ2_compress_39247) := ⟨pm_6 _ (List.mem_of_getElem? (i := 145) (by decide +kernel)), rfl⟩
theorem cd_J2_compress_39247 : zWd (.code yJ2_compress_39247 cJ2_compress_39247 6 (some (.array .byte))) := ⟨pm_6 _ (List.mem_of_getElem? (i := 146) (by decide +kernel)), rfl⟩
theorem lk_J2_123 : zWd (.methodLink RJ2 123 yJ2_compress_5af95) := ⟨pm_6 _ (List.mem_of_getElem? (i := 147) (by decide +kernel)), rfl⟩
theorem st_J2_compress_5af95 : zWd (.static yJ2_compress_5af95) := ⟨pm_6 _ (List.mem_of_getElem? (i := 148) (by decide +kernel)), rfl⟩
theorem cd_J2_compress_5af95 : zWd (.code yJ2_compress_5af95 cJ2_compress_5af95 7 (some .int)) := ⟨pm_6 _ (List.mem_of_getElem? (i := 149) (by decide +kernel)), rfl⟩
theorem lk_J2_126 : zWd (.methodLink RJ2 126 yJ7_copyOfRange_39247) := ⟨pm_6 _ (List.mem_of_getElem? (i := 150) (by decide +kernel)), rfl⟩
theorem lk_J0_47 : zWd (.methodLink RJ0 47 yJ2_coderFromArrayLen_85cad) := ⟨pm_6 _ (List.mem_of_getElem? (i := 151) (by decide +kernel)), rfl⟩
theorem st_J2_coderFromArrayLen_85cad : zWd (.static yJ2_coderFromArrayLen_85cad) := ⟨pm_6 _ (List.mem_of_getElem? (i := 152) (by decide +kernel)), rfl⟩
theorem cd_J2_coderFromArrayLen_85cad : zWd (.code yJ2_coderFromArrayLen_85cad cJ2_coderFromArrayLen_85cad 2 (some .byte)) := ⟨pm_6 _ (List.mem_of_getElem? (i := 153) (by decide +kernel)), rfl⟩
theorem lk_J0_9 : zWd (.fieldLink RJ0 9 "java/lang/String" "value" "[B") := ⟨pm_6 _ (List.mem_of_getElem? (i := 154) (by decide +kernel)), rfl⟩
theorem lk_J0_15 : zWd (.fieldLink RJ0 15 "java/lang/String" "coder" "B") := ⟨pm_6 _ (List.mem_of_getElem? (i := 155) (by decide +kernel)), rfl⟩
theorem ly_J0_hash : zWd (.lays RJ0 "java/lang/String" "hash" "I") := ⟨pm_6 _ (List.mem_of_getElem? (i := 156) (by decide +kernel)), rfl⟩
theorem ly_J0_hashIsZero : zWd (.lays RJ0 "java/lang/String" "hashIsZero" "Z") := ⟨pm_6 _ (List.mem_of_getElem? (i := 158) (by decide +kernel)), rfl⟩
theorem su_J0_java_lang_Object : zWd (.superclass RJ0 "java/lang/Object") := ⟨pm_6 _ (List.mem_of_getElem? (i := 160) (by decide +kernel)), rfl⟩
theorem ly_Jx7c733_backtrace : zWd (.lays RJx7c733 "java/lang/Throwable" "backtrace" "Ljava/lang/Object;") := ⟨pm_6 _ (List.mem_of_getElem? (i := 162) (by decide +kernel)), rfl⟩
theorem ly_Jx7c733_detailMessage : zWd (.lays RJx7c733 "java/lang/Throwable" "detailMessage" "Ljava/lang/String;") := ⟨pm_6 _ (List.mem_of_getElem? (i := 163) (by decide +kernel)), rfl⟩
theorem ly_Jx7c733_cause : zWd (.lays RJx7c733 "java/lang/Throwable" "cause" "Ljava/lang/Throwable;") := ⟨pm_6 _ (List.mem_of_getElem? (i := 164) (by decide +kernel)), rfl⟩
theorem ly_Jx7c733_stackTrace : zWd (.lays RJx7c733 "java/lang/Throwable" "stackTrace" "[Ljava/lang/StackTraceElement;") := ⟨pm_6 _ (List.mem_of_getElem? (i := 165) (by decide +kernel)), rfl⟩
theorem ly_Jx7c733_depth : zWd (.lays RJx7c733 "java/lang/Throwable" "depth" "I") := ⟨pm_6 _ (List.mem_of_getElem? (i := 166) (by decide +kernel)), rfl⟩
theorem ly_Jx7c733_suppressedExceptions : zWd (.lays RJx7c733 "java/lang/Throwable" "suppressedExceptions" "Ljava/util/List;") := ⟨pm_6 _ (List.mem_of_getElem? (i := 167) (by decide +kernel)), rfl⟩
theorem su_Jx7c733_java_lang_IndexOutOfBoundsException : zWd (.superclass RJx7c733 "java/lang/IndexOutOfBoundsException") := ⟨pm_6 _ (List.mem_of_getElem? (i := 168) (by decide +kernel)), rfl⟩
theorem lk_J5_133 : zWd (.methodLink RJ5 133 yJ1_fillNull_b72d1) := ⟨pm_6 _ (List.mem_of_getElem? (i := 169) (by decide +kernel)), rfl⟩
theorem st_J1_fillNull_b72d1 : zWd (.static yJ1_fillNull_b72d1) := ⟨pm_6 _ (List.mem_of_getElem? (i := 170) (by decide +kernel)), rfl⟩
theorem cd_J1_fillNull_b72d1 : zWd (.code yJ1_fillNull_b72d1 cJ1_fillNull_b72d1 3 none) := ⟨pm_6 _ (List.mem_of_getElem? (i := 171) (by decide +kernel)), rfl⟩
theorem lk_J1_236 : zWd (.methodLink RJ1 236 yJ7_fill_eb02e) := ⟨pm_6 _ (List.mem_of_getElem? (i := 172) (by decide +kernel)), rfl⟩
theorem st_J7_fill_eb02e : zWd (.static yJ7_fill_eb02e) := ⟨pm_6 _ (List.mem_of_getElem? (i := 173) (by decide +kernel)), rfl⟩
theorem cd_J7_fill_eb02e : zWd (.code yJ7_fill_eb02e cJ7_fill_eb02e 5 none) := ⟨pm_6 _ (List.mem_of_getElem? (i := 174) (by decide +kernel)), rfl⟩
theorem lk_J7_13 : zWd (.methodLink RJ7 13 yJ7_rangeCheck_23922) := ⟨pm_6 _ (List.mem_of_getElem? (i := 175) (by decide +kernel)), rfl⟩
theorem st_J7_rangeCheck_23922 : zWd (.static yJ7_rangeCheck_23922) := ⟨pm_6 _ (List.mem_of_getElem? (i := 176) (by decide +kernel)), rfl⟩
theorem cd_J7_rangeCheck_23922 : zWd (.code yJ7_rangeCheck_23922 cJ7_rangeCheck_23922 3 none) := ⟨pm_6 _ (List.mem_of_getElem? (i := 177) (by decide +kernel)), rfl⟩
theorem lk_J7_48 : (.stringRef RJ7 48 "fromIndex(" : Cond) ∈ lw_tbl := pm_6 _ (List.mem_of_getElem? (i := 178) (by decide +kernel))
theorem lk_J7_57 : (.stringRef RJ7 57 ") > toIndex(" : Cond) ∈ lw_tbl := pm_6 _ (List.mem_of_getElem? (i := 179) (by decide +kernel))
theorem lk_J7_59 : (.stringRef RJ7 59 ")" : Cond) ∈ lw_tbl := pm_6 _ (List.mem_of_getElem? (i := 180) (by decide +kernel))
theorem lk_J7_68 : zWd (.classLink RJ7 68 "java/lang/ArrayIndexOutOfBoundsException") := ⟨pm_6 _ (List.mem_of_getElem? (i := 181) (by decide +kernel)), rfl⟩
theorem lk_J7_70 : zWd (.methodLink RJ7 70 yJx00060_init_d00df) := ⟨pm_6 _ (List.mem_of_getElem? (i := 182) (by decide +kernel)), rfl⟩
theorem im_Jx00060_init_d00df : zWd (.instanceMethod yJx00060_init_d00df) := ⟨pm_6 _ (List.mem_of_getElem? (i := 183) (by decide +kernel)), rfl⟩
theorem cd_Jx00060_init_d00df : zWd (.code yJx00060_init_d00df cJx00060_init_d00df 2 none) := ⟨pm_6 _ (List.mem_of_getElem? (i := 184) (by decide +kernel)), rfl⟩
theorem lk_Jx00060_10 : zWd (.classLink RJx00060 10 "java/lang/StringBuilder") := ⟨pm_6 _ (List.mem_of_getElem? (i := 185) (by decide +kernel)), rfl⟩
theorem lk_Jx00060_12 : zWd (.methodLink RJx00060 12 yJ4_init_da8c8) := ⟨pm_6 _ (List.mem_of_getElem? (i := 186) (by decide +kernel)), rfl⟩
theorem lk_Jx00060_13 : (.stringRef RJx00060 13 "Array index out of range: " : Cond) ∈ lw_tbl := pm_6 _ (List.mem_of_getElem? (i := 187) (by decide +kernel))
theorem lk_Jx00060_15 : zWd (.methodLink RJx00060 15 yJ4_append_15ec4) := ⟨pm_6 _ (List.mem_of_getElem? (i := 188) (by decide +kernel)), rfl⟩
theorem lk_Jx00060_19 : zWd (.methodLink RJx00060 19 yJ4_append_bf812) := ⟨pm_6 _ (List.mem_of_getElem? (i := 189) (by decide +kernel)), rfl⟩
theorem lk_Jx00060_22 : zWd (.methodLink RJx00060 22 yJ4_toString_0e30d) := ⟨pm_6 _ (List.mem_of_getElem? (i := 190) (by decide +kernel)), rfl⟩
theorem lk_J5_137 : zWd (.methodLink RJ5 137 yJ2_fillNull_b72d1) := ⟨pm_6 _ (List.mem_of_getElem? (i := 191) (by decide +kernel)), rfl⟩
theorem st_J2_fillNull_b72d1 : zWd (.static yJ2_fillNull_b72d1) := ⟨pm_6 _ (List.mem_of_getElem? (i := 192) (by decide +kernel)), rfl⟩
theorem cd_J2_fillNull_b72d1 : zWd (.code yJ2_fillNull_b72d1 cJ2_fillNull_b72d1 3 none) := ⟨pm_6 _ (List.mem_of_getElem? (i := 193) (by decide +kernel)), rfl⟩
theorem lk_J2_380 : zWd (.methodLink RJ2 380 yJ7_fill_eb02e) := ⟨pm_6 _ (List.mem_of_getElem? (i := 194) (by decide +kernel)), rfl⟩
theorem lk_X9_253 : zWd (.methodLink RX9 253 yX3_describe) := ⟨pm_6 _ (List.mem_of_getElem? (i := 195) (by decide +kernel)), rfl⟩
theorem im_X3_describe : zWd (.instanceMethod yX3_describe) := ⟨pm_6 _ (List.mem_of_getElem? (i := 196) (by decide +kernel)), rfl⟩
theorem se_X3_X3_describe : zWd (.selects RX3 yX3_describe yX3_describe) := ⟨pm_6 _ (List.mem_of_getElem? (i := 197) (by decide +kernel)), rfl⟩
theorem cd_X3_describe : zWd (.code yX3_describe cX3_describe 5 none) := ⟨pm_6 _ (List.mem_of_getElem? (i := 198) (by decide +kernel)), rfl⟩
theorem lk_X3_208 : zWd (.methodLink RX3 208 yJ4_append_bf812) := ⟨pm_6 _ (List.mem_of_getElem? (i := 199) (by decide +kernel)), rfl⟩
theorem lk_X3_214 : zWd (.methodLink RX3 214 yJ4_append_cf468) := ⟨pm_6 _ (List.mem_of_getElem? (i := 200) (by decide +kernel)), rfl⟩
theorem im_J4_append_cf468 : zWd (.instanceMethod yJ4_append_cf468) := ⟨pm_6 _ (List.mem_of_getElem? (i := 201) (by decide +kernel)), rfl⟩
theorem se_J4_J4_append_cf468 : zWd (.selects RJ4 yJ4_append_cf468 yJ4_append_cf468) := ⟨pm_6 _ (List.mem_of_getElem? (i := 202) (by decide +kernel)), rfl⟩
theorem cd_J4_append_cf468 : zWd (.code yJ4_append_cf468 cJ4_append_cf468 2 (some (.object "java/lang/StringBuilder"))) := ⟨pm_6 _ (List.mem_of_getElem? (i := 203) (by decide +kernel)), rfl⟩
theorem lk_J4_50 : zWd (.methodLink RJ4 50 yJ5_append_3fe6f) := ⟨pm_6 _ (List.mem_of_getElem? (i := 204) (by decide +kernel)), rfl⟩
theorem im_J5_append_3fe6f : zWd (.instanceMethod yJ5_append_3fe6f) := ⟨pm_6 _ (List.mem_of_getElem? (i := 205) (by decide +kernel)), rfl⟩
theorem cd_J5_append_3fe6f : zWd (.code yJ5_append_3fe6f cJ5_append_3fe6f 2 (some (.object "java/lang/AbstractStringBuilder"))) := ⟨pm_6 _ (List.mem_of_getElem? (i := 206) (by decide +kernel)), rfl⟩
theorem lk_J5_191 : zWd (.methodLink RJ5 191 yJ1_canEncode_fc78d) := ⟨pm_6 _ (List.mem_of_getElem? (i := 207) (by decide +kernel)), rfl⟩
theorem st_J1_canEncode_fc78d : zWd (.static yJ1_canEncode_fc78d) := ⟨pm_6 _ (List.mem_of_getElem? (i := 208) (by decide +kernel)), rfl⟩
theorem cd_J1_canEncode_fc78d : zWd (.code yJ1_canEncode_fc78d cJ1_canEncode_fc78d 1 (some .boolean)) := ⟨pm_6 _ (List.mem_of_getElem? (i := 209) (by decide +kernel)), rfl⟩
theorem lk_J5_197 : zWd (.methodLink RJ5 197 yJ2_putCharSB_b72d1) := ⟨pm_6 _ (List.mem_of_getElem? (i := 210) (by decide +kernel)), rfl⟩
theorem st_J2_putCharSB_b72d1 : zWd (.static yJ2_putCharSB_b72d1) := ⟨pm_6 _ (List.mem_of_getElem? (i := 211) (by decide +kernel)), rfl⟩
theorem cd_J2_putCharSB_b72d1 : zWd (.code yJ2_putCharSB_b72d1 cJ2_putCharSB_b72d1 3 none) := ⟨pm_6 _ (List.mem_of_getElem? (i := 212) (by decide +kernel)), rfl⟩
theorem lk_X9_257 : zWd (.methodLink RX9 257 yJ4_length_8abf5) := ⟨pm_6 _ (List.mem_of_getElem? (i := 213) (by decide +kernel)), rfl⟩
theorem lk_L_198 : zWd (.methodLink RL 198 yL_outputAt) := ⟨pm_6 _ (List.mem_of_getElem? (i := 214) (by decide +kernel)), rfl⟩
theorem st_L_outputAt : zWd (.static yL_outputAt) := ⟨pm_6 _ (List.mem_of_getElem? (i := 215) (by decide +kernel)), rfl⟩
theorem cd_L_outputAt : zWd (.codeWith yL_outputAt cL_outputAt 3 (some .int) [(0, 5, 6, 13)]) := ⟨pm_6 _ (List.mem_of_getElem? (i := 216) (by decide +kernel)), rfl⟩
theorem lk_L_140 : zWd (.methodLink RL 140 yX9_outputAt) := ⟨pm_6 _ (List.mem_of_getElem? (i := 217) (by decide +kernel)), rfl⟩
theorem im_X9_outputAt : zWd (.instanceMethod yX9_outputAt) := ⟨pm_6 _ (List.mem_of_getElem? (i := 218) (by decide +kernel)), rfl⟩
theorem se_X9_X9_outputAt : zWd (.selects RX9 yX9_outputAt yX9_outputAt) := ⟨pm_6 _ (List.mem_of_getElem? (i := 219) (by decide +kernel)), rfl⟩
theorem cd_X9_outputAt : zWd (.code yX9_outputAt cX9_outputAt 2 (some .char)) := ⟨pm_6 _ (List.mem_of_getElem? (i := 220) (by decide +kernel)), rfl⟩
theorem lk_X9_262 : (.stringRef RX9 262 "no character at this index" : Cond) ∈ lw_tbl := pm_6 _ (List.mem_of_getElem? (i := 221) (by decide +kernel))
theorem lk_X9_265 : zWd (.methodLink RX9 265 yJ4_charAt_5068e) := ⟨pm_6 _ (List.mem_of_getElem? (i := 222) (by decide +kernel)), rfl⟩
theorem im_J4_charAt_5068e : zWd (.instanceMethod yJ4_charAt_5068e) := ⟨pm_6 _ (List.mem_of_getElem? (i := 223) (by decide +kernel)), rfl⟩
theorem se_J4_J4_charAt_5068e : zWd (.selects RJ4 yJ4_charAt_5068e yJ4_charAt_5068e) := ⟨pm_6 _ (List.mem_of_getElem? (i := 224) (by decide +kernel)), rfl⟩
theorem cd_J4_charAt_5068e : zWd (.code yJ4_charAt_5068e cJ4_charAt_5068e 2 (some .char)) := ⟨pm_6 _ (List.mem_of_getElem? (i := 225) (by decide +kernel)), rfl⟩
theorem lk_J4_329 : zWd (.methodLink RJ4 329 yJ5_charAt_5068e) := ⟨pm_6 _ (List.mem_of_getElem? (i := 226) (by decide +kernel)), rfl⟩
theorem im_J5_charAt_5068e : zWd (.instanceMethod yJ5_charAt_5068e) := ⟨pm_6 _ (List.mem_of_getElem? (i := 227) (by decide +kernel)), rfl⟩
theorem cd_J5_charAt_5068e : zWd (.code yJ5_charAt_5068e cJ5_charAt_5068e 5 (some .char)) := ⟨pm_6 _ (List.mem_of_getElem? (i := 228) (by decide +kernel)), rfl⟩
theorem lk_J5_138 : zWd (.methodLink RJ5 138 Lib.Math.min.name) := ⟨pm_6 _ (List.mem_of_getElem? (i := 229) (by decide +kernel)), rfl⟩
theorem lk_J5_144 : zWd (.methodLink RJ5 144 yJ0_checkIndex_df160) := ⟨pm_6 _ (List.mem_of_getElem? (i := 230) (by decide +kernel)), rfl⟩
theorem lk_J5_148 : zWd (.methodLink RJ5 148 yJ2_getChar_3b067) := ⟨pm_6 _ (List.mem_of_getElem? (i := 231) (by decide +kernel)), rfl⟩
theorem lk_L_280 : zWd (.methodLink RL 280 yL_byRust) := ⟨pm_6 _ (List.mem_of_getElem? (i := 232) (by decide +kernel)), rfl⟩
theorem st_L_byRust : zWd (.static yL_byRust) := ⟨pm_6 _ (List.mem_of_getElem? (i := 233) (by decide +kernel)), rfl⟩
theorem cd_L_byRust : zWd (.codeWith yL_byRust cL_byRust 3 (some .int) [(0, 5, 6, 29)]) := ⟨pm_6 _ (List.mem_of_getElem? (i := 234) (by decide +kernel)), rfl⟩
theorem lk_L_118 : zWd (.methodLink RL 118 yX9_chairByRust) := ⟨pm_6 _ (List.mem_of_getElem? (i := 235) (by decide +kernel)), rfl⟩
theorem im_X9_chairByRust : zWd (.instanceMethod yX9_chairByRust) := ⟨pm_6 _ (List.mem_of_getElem? (i := 236) (by decide +kernel)), rfl⟩
theorem se_X9_X9_chairByRust : zWd (.selects RX9 yX9_chairByRust yX9_chairByRust) := ⟨pm_6 _ (List.mem_of_getElem? (i := 237) (by decide +kernel)), rfl⟩
theorem cd_X9_chairByRust : zWd (.code yX9_chairByRust cX9_chairByRust 2 (some .int)) := ⟨pm_6 _ (List.mem_of_getElem? (i := 238) (by decide +kernel)), rfl⟩
theorem lk_X9_230 : zWd (.methodLink RX9 230 yX3_idAtRank) := ⟨pm_6 _ (List.mem_of_getElem? (i := 239) (by decide +kernel)), rfl⟩
theorem im_X3_idAtRank : zWd (.instanceMethod yX3_idAtRank) := ⟨pm_7 _ (List.mem_of_getElem? (i := 0) (by decide +kernel)), rfl⟩
theorem se_X3_X3_idAtRank : zWd (.selects RX3 yX3_idAtRank yX3_idAtRank) := ⟨pm_7 _ (List.mem_of_getElem? (i := 1) (by decide +kernel)), rfl⟩
theorem cd_X3_idAtRank : zWd (.code yX3_idAtRank cX3_idAtRank 3 (some .int)) := ⟨pm_7 _ (List.mem_of_getElem? (i := 2) (by decide +kernel)), rfl⟩
theorem lk_X3_185 : zWd (.methodLink RX3 185 yX3_rankOf) := ⟨pm_7 _ (List.mem_of_getElem? (i := 3) (by decide +kernel)), rfl⟩
theorem im_X3_rankOf : zWd (.instanceMethod yX3_rankOf) := ⟨pm_7 _ (List.mem_of_getElem? (i := 5) (by decide +kernel)), rfl⟩
theorem cd_X3_rankOf : zWd (.code yX3_rankOf cX3_rankOf 4 (some .int)) := ⟨pm_7 _ (List.mem_of_getElem? (i := 6) (by decide +kernel)), rfl⟩
theorem lk_X3_189 : zWd (.methodLink RX3 189 yX0_rustsAheadOf) := ⟨pm_7 _ (List.mem_of_getElem? (i := 7) (by decide +kernel)), rfl⟩
theorem im_X0_rustsAheadOf : zWd (.instanceMethod yX0_rustsAheadOf) := ⟨pm_7 _ (List.mem_of_getElem? (i := 8) (by decide +kernel)), rfl⟩
theorem se_X0_X0_rustsAheadOf : zWd (.selects RX0 yX0_rustsAheadOf yX0_rustsAheadOf) := ⟨pm_7 _ (List.mem_of_getElem? (i := 9) (by decide +kernel)), rfl⟩
theorem cd_X0_rustsAheadOf : zWd (.code yX0_rustsAheadOf cX0_rustsAheadOf 2 (some .boolean)) := ⟨pm_7 _ (List.mem_of_getElem? (i := 10) (by decide +kernel)), rfl⟩
theorem lk_X0_26 : zWd (.methodLink RX0 26 yX0_isElderThan) := ⟨pm_7 _ (List.mem_of_getElem? (i := 11) (by decide +kernel)), rfl⟩
theorem lk_L_283 : zWd (.methodLink RL 283 yL_age) := ⟨pm_7 _ (List.mem_of_getElem? (i := 12) (by decide +kernel)), rfl⟩
theorem st_L_age : zWd (.static yL_age) := ⟨pm_7 _ (List.mem_of_getElem? (i := 13) (by decide +kernel)), rfl⟩
theorem cd_L_age : zWd (.codeWith yL_age cL_age 3 (some .int) [(0, 5, 6, 13)]) := ⟨pm_7 _ (List.mem_of_getElem? (i := 14) (by decide +kernel)), rfl⟩
theorem lk_L_82 : zWd (.methodLink RL 82 yX9_ageOf) := ⟨pm_7 _ (List.mem_of_getElem? (i := 15) (by decide +kernel)), rfl⟩
theorem im_X9_ageOf : zWd (.instanceMethod yX9_ageOf) := ⟨pm_7 _ (List.mem_of_getElem? (i := 16) (by decide +kernel)), rfl⟩
theorem se_X9_X9_ageOf : zWd (.selects RX9 yX9_ageOf yX9_ageOf) := ⟨pm_7 _ (List.mem_of_getElem? (i := 17) (by decide +kernel)), rfl⟩
theorem cd_X9_ageOf : zWd (.code yX9_ageOf cX9_ageOf 2 (some .int)) := ⟨pm_7 _ (List.mem_of_getElem? (i := 18) (by decide +kernel)), rfl⟩
theorem lk_X9_128 : zWd (.methodLink RX9 128 yX9_demandChair) := ⟨pm_7 _ (List.mem_of_getElem? (i := 19) (by decide +kernel)), rfl⟩
theorem im_X9_demandChair : zWd (.instanceMethod yX9_demandChair) := ⟨pm_7 _ (List.mem_of_getElem? (i := 21) (by decide +kernel)), rfl⟩
theorem cd_X9_demandChair : zWd (.code yX9_demandChair cX9_demandChair 3 (some (.object "ChairMigration$Chair"))) := ⟨pm_7 _ (List.mem_of_getElem? (i := 22) (by decide +kernel)), rfl⟩
theorem lk_X9_334 : (.stringRef RX9 334 "no such chair" : Cond) ∈ lw_tbl := pm_7 _ (List.mem_of_getElem? (i := 23) (by decide +kernel))
theorem lk_L_402 : zWd (.methodLink RL 402 yL_changes) := ⟨pm_7 _ (List.mem_of_getElem? (i := 24) (by decide +kernel)), rfl⟩
theorem st_L_changes : zWd (.static yL_changes) := ⟨pm_7 _ (List.mem_of_getElem? (i := 25) (by decide +kernel)), rfl⟩
theorem cd_L_changes : zWd (.code yL_changes cL_changes 5 (some .boolean)) := ⟨pm_7 _ (List.mem_of_getElem? (i := 26) (by decide +kernel)), rfl⟩
theorem lk_L_286 : zWd (.methodLink RL 286 yL_removePath) := ⟨pm_7 _ (List.mem_of_getElem? (i := 27) (by decide +kernel)), rfl⟩
theorem st_L_removePath : zWd (.static yL_removePath) := ⟨pm_7 _ (List.mem_of_getElem? (i := 28) (by decide +kernel)), rfl⟩
theorem cd_L_removePath : zWd (.codeWith yL_removePath cL_removePath 4 (some .int) [(0, 6, 7, 13), (0, 6, 12, 15), (0, 6, 17, 17)]) := ⟨pm_7 _ (List.mem_of_getElem? (i := 29) (by decide +kernel)), rfl⟩
theorem lk_L_19 : zWd (.methodLink RL 19 yX9_removePath) := ⟨pm_7 _ (List.mem_of_getElem? (i := 30) (by decide +kernel)), rfl⟩
theorem im_X9_removePath : zWd (.instanceMethod yX9_removePath) := ⟨pm_7 _ (List.mem_of_getElem? (i := 31) (by decide +kernel)), rfl⟩
theorem se_X9_X9_removePath : zWd (.selects RX9 yX9_removePath yX9_removePath) := ⟨pm_7 _ (List.mem_of_getElem? (i := 32) (by decide +kernel)), rfl⟩
theorem cd_X9_removePath : zWd (.code yX9_removePath cX9_removePath 3 (some .int)) := ⟨pm_7 _ (List.mem_of_getElem? (i := 33) (by decide +kernel)), rfl⟩
theorem lk_L_291 : zWd (.methodLink RL 291 yL_unfold) := ⟨pm_7 _ (List.mem_of_getElem? (i := 34) (by decide +kernel)), rfl⟩
theorem st_L_unfold : zWd (.static yL_unfold) := ⟨pm_7 _ (List.mem_of_getElem? (i := 35) (by decide +kernel)), rfl⟩
theorem cd_L_unfold : zWd (.codeWith yL_unfold cL_unfold 3 (some .int) [(0, 5, 6, 13), (0, 5, 11, 17)]) := ⟨pm_7 _ (List.mem_of_getElem? (i := 36) (by decide +kernel)), rfl⟩
theorem lk_L_57 : zWd (.methodLink RL 57 yX9_unfold) := ⟨pm_7 _ (List.mem_of_getElem? (i := 37) (by decide +kernel)), rfl⟩
theorem im_X9_unfold : zWd (.instanceMethod yX9_unfold) := ⟨pm_7 _ (List.mem_of_getElem? (i := 38) (by decide +kernel)), rfl⟩
theorem se_X9_X9_unfold : zWd (.selects RX9 yX9_unfold yX9_unfold) := ⟨pm_7 _ (List.mem_of_getElem? (i := 39) (by decide +kernel)), rfl⟩
theorem cd_X9_unfold : zWd (.code yX9_unfold cX9_unfold 2 (some .int)) := ⟨pm_7 _ (List.mem_of_getElem? (i := 40) (by decide +kernel)), rfl⟩
theorem lk_L_293 : zWd (.methodLink RL 293 yL_move) := ⟨pm_7 _ (List.mem_of_getElem? (i := 41) (by decide +kernel)), rfl⟩
theorem st_L_move : zWd (.static yL_move) := ⟨pm_7 _ (List.mem_of_getElem? (i := 42) (by decide +kernel)), rfl⟩
theorem cd_L_move : zWd (.codeWith yL_move cL_move 4 (some .int) [(0, 6, 7, 13), (0, 6, 12, 17)]) := ⟨pm_7 _ (List.mem_of_getElem? (i := 43) (by decide +kernel)), rfl⟩
theorem lk_L_60 : zWd (.methodLink RL 60 yX9_moveChair) := ⟨pm_7 _ (List.mem_of_getElem? (i := 44) (by decide +kernel)), rfl⟩
theorem im_X9_moveChair : zWd (.instanceMethod yX9_moveChair) := ⟨pm_7 _ (List.mem_of_getElem? (i := 45) (by decide +kernel)), rfl⟩
theorem se_X9_X9_moveChair : zWd (.selects RX9 yX9_moveChair yX9_moveChair) := ⟨pm_7 _ (List.mem_of_getElem? (i := 46) (by decide +kernel)), rfl⟩
theorem cd_X9_moveChair : zWd (.code yX9_moveChair cX9_moveChair 3 (some .int)) := ⟨pm_7 _ (List.mem_of_getElem? (i := 47) (by decide +kernel)), rfl⟩
theorem lk_L_298 : zWd (.methodLink RL 298 yL_oilChair) := ⟨pm_7 _ (List.mem_of_getElem? (i := 48) (by decide +kernel)), rfl⟩
theorem st_L_oilChair : zWd (.static yL_oilChair) := ⟨pm_7 _ (List.mem_of_getElem? (i := 49) (by decide +kernel)), rfl⟩
theorem cd_L_oilChair : zWd (.codeWith yL_oilChair cL_oilChair 3 (some .int) [(0, 5, 6, 13), (0, 5, 11, 17)]) := ⟨pm_7 _ (List.mem_of_getElem? (i := 50) (by decide +kernel)), rfl⟩
theorem lk_L_66 : zWd (.methodLink RL 66 yX9_oilChair) := ⟨pm_7 _ (List.mem_of_getElem? (i := 51) (by decide +kernel)), rfl⟩
theorem im_X9_oilChair : zWd (.instanceMethod yX9_oilChair) := ⟨pm_7 _ (List.mem_of_getElem? (i := 52) (by decide +kernel)), rfl⟩
theorem se_X9_X9_oilChair : zWd (.selects RX9 yX9_oilChair yX9_oilChair) := ⟨pm_7 _ (List.mem_of_getElem? (i := 53) (by decide +kernel)), rfl⟩
theorem cd_X9_oilChair : zWd (.code yX9_oilChair cX9_oilChair 2 (some .int)) := ⟨pm_7 _ (List.mem_of_getElem? (i := 54) (by decide +kernel)), rfl⟩
theorem lk_L_300 : zWd (.methodLink RL 300 yL_addOil) := ⟨pm_7 _ (List.mem_of_getElem? (i := 55) (by decide +kernel)), rfl⟩
theorem st_L_addOil : zWd (.static yL_addOil) := ⟨pm_7 _ (List.mem_of_getElem? (i := 56) (by decide +kernel)), rfl⟩
theorem cd_L_addOil : zWd (.codeWith yL_addOil cL_addOil 3 (some .int) [(0, 5, 6, 15), (0, 5, 11, 17)]) := ⟨pm_7 _ (List.mem_of_getElem? (i := 57) (by decide +kernel)), rfl⟩
theorem lk_L_69 : zWd (.methodLink RL 69 yX9_addOil) := ⟨pm_7 _ (List.mem_of_getElem? (i := 58) (by decide +kernel)), rfl⟩
theorem im_X9_addOil : zWd (.instanceMethod yX9_addOil) := ⟨pm_7 _ (List.mem_of_getElem? (i := 59) (by decide +kernel)), rfl⟩
theorem se_X9_X9_addOil : zWd (.selects RX9 yX9_addOil yX9_addOil) := ⟨pm_7 _ (List.mem_of_getElem? (i := 60) (by decide +kernel)), rfl⟩
theorem cd_X9_addOil : zWd (.code yX9_addOil cX9_addOil 2 (some .int)) := ⟨pm_7 _ (List.mem_of_getElem? (i := 61) (by decide +kernel)), rfl⟩
theorem lk_L_302 : zWd (.classLink RL 302 "java/lang/StringBuilder") := ⟨pm_7 _ (List.mem_of_getElem? (i := 62) (by decide +kernel)), rfl⟩
theorem lk_L_304 : zWd (.methodLink RL 304 yJ4_init_da8c8) := ⟨pm_7 _ (List.mem_of_getElem? (i := 63) (by decide +kernel)), rfl⟩
theorem lk_L_305 : (.stringRef RL 305 "d2;f" : Cond) ∈ lw_tbl := pm_7 _ (List.mem_of_getElem? (i := 64) (by decide +kernel))
theorem lk_L_307 : zWd (.methodLink RL 307 yJ4_append_15ec4) := ⟨pm_7 _ (List.mem_of_getElem? (i := 65) (by decide +kernel)), rfl⟩
theorem lk_L_310 : zWd (.methodLink RL 310 yJ4_append_bf812) := ⟨pm_7 _ (List.mem_of_getElem? (i := 66) (by decide +kernel)), rfl⟩
theorem lk_L_313 : zWd (.methodLink RL 313 yJ4_toString_0e30d) := ⟨pm_7 _ (List.mem_of_getElem? (i := 67) (by decide +kernel)), rfl⟩
theorem lk_L_317 : (.stringRef RL 317 "a1;m" : Cond) ∈ lw_tbl := pm_7 _ (List.mem_of_getElem? (i := 68) (by decide +kernel))
theorem lk_L_319 : (.stringRef RL 319 ">" : Cond) ∈ lw_tbl := pm_7 _ (List.mem_of_getElem? (i := 69) (by decide +kernel))
theorem lk_L_321 : zWd (.methodLink RL 321 yL_runs) := ⟨pm_7 _ (List.mem_of_getElem? (i := 70) (by decide +kernel)), rfl⟩
theorem st_L_runs : zWd (.static yL_runs) := ⟨pm_7 _ (List.mem_of_getElem? (i := 71) (by decide +kernel)), rfl⟩
theorem cd_L_runs : zWd (.code yL_runs cL_runs 3 (some .int)) := ⟨pm_7 _ (List.mem_of_getElem? (i := 72) (by decide +kernel)), rfl⟩
theorem lk_L_172 : zWd (.methodLink RL 172 yJ0_length_8abf5) := ⟨pm_7 _ (List.mem_of_getElem? (i := 73) (by decide +kernel)), rfl⟩
theorem lk_L_177 : zWd (.methodLink RL 177 yJ0_charAt_5068e) := ⟨pm_7 _ (List.mem_of_getElem? (i := 74) (by decide +kernel)), rfl⟩
theorem lk_L_399 : zWd (.methodLink RL 399 yL_thrown) := ⟨pm_7 _ (List.mem_of_getElem? (i := 75) (by decide +kernel)), rfl⟩
theorem st_L_thrown : zWd (.static yL_thrown) := ⟨pm_7 _ (List.mem_of_getElem? (i := 76) (by decide +kernel)), rfl⟩
theorem cd_L_thrown : zWd (.code yL_thrown cL_thrown 9 (some .boolean)) := ⟨pm_7 _ (List.mem_of_getElem? (i := 77) rfl), rfl⟩
theorem lk_L_333 : zWd (.methodLink RL 333 yL_isPath) := ⟨pm_7 _ (List.mem_of_getElem? (i := 78) (by decide +kernel)), rfl⟩
theorem st_L_isPath : zWd (.static yL_isPath) := ⟨pm_7 _ (List.mem_of_getElem? (i := 79) (by decide +kernel)), rfl⟩
theorem cd_L_isPath : zWd (.codeWith yL_isPath cL_isPath 4 (some .int) [(0, 14, 15, 13)]) := ⟨pm_7 _ (List.mem_of_getElem? (i := 80) (by decide +kernel)), rfl⟩
theorem lk_L_22 : zWd (.methodLink RL 22 yX9_isPath) := ⟨pm_7 _ (List.mem_of_getElem? (i := 81) (by decide +kernel)), rfl⟩
theorem im_X9_isPath : zWd (.instanceMethod yX9_isPath) := ⟨pm_7 _ (List.mem_of_getElem? (i := 82) (by decide +kernel)), rfl⟩
theorem se_X9_X9_isPath : zWd (.selects RX9 yX9_isPath yX9_isPath) := ⟨pm_7 _ (List.mem_of_getElem? (i := 83) (by decide +kernel)), rfl⟩
theorem cd_X9_isPath : zWd (.code yX9_isPath cX9_isPath 3 (some .boolean)) := ⟨pm_7 _ (List.mem_of_getElem? (i := 84) (by decide +kernel)), rfl⟩
theorem lk_X9_78 : zWd (.methodLink RX9 78 yX8_areNeighbours) := ⟨pm_7 _ (List.mem_of_getElem? (i := 85) (by decide +kernel)), rfl⟩
theorem lk_L_337 : zWd (.methodLink RL 337 yL_isFolded) := ⟨pm_7 _ (List.mem_of_getElem? (i := 86) (by decide +kernel)), rfl⟩
theorem st_L_isFolded : zWd (.static yL_isFolded) := ⟨pm_7 _ (List.mem_of_getElem? (i := 87) (by decide +kernel)), rfl⟩
theorem cd_L_isFolded : zWd (.codeWith yL_isFolded cL_isFolded 3 (some .int) [(0, 13, 14, 13)]) := ⟨pm_7 _ (List.mem_of_getElem? (i := 88) (by decide +kernel)), rfl⟩
theorem lk_L_78 : zWd (.methodLink RL 78 yX9_isFolded) := ⟨pm_7 _ (List.mem_of_getElem? (i := 89) (by decide +kernel)), rfl⟩
theorem im_X9_isFolded : zWd (.instanceMethod yX9_isFolded) := ⟨pm_7 _ (List.mem_of_getElem? (i := 90) (by decide +kernel)), rfl⟩
theorem se_X9_X9_isFolded : zWd (.selects RX9 yX9_isFolded yX9_isFolded) := ⟨pm_7 _ (List.mem_of_getElem? (i := 91) (by decide +kernel)), rfl⟩
theorem cd_X9_isFolded : zWd (.code yX9_isFolded cX9_isFolded 2 (some .boolean)) := ⟨pm_7 _ (List.mem_of_getElem? (i := 92) (by decide +kernel)), rfl⟩
theorem lk_L_339 : zWd (.methodLink RL 339 yL_lawnOf) := ⟨pm_7 _ (List.mem_of_getElem? (i := 93) (by decide +kernel)), rfl⟩
theorem st_L_lawnOf : zWd (.static yL_lawnOf) := ⟨pm_7 _ (List.mem_of_getElem? (i := 94) (by decide +kernel)), rfl⟩
theorem cd_L_lawnOf : zWd (.codeWith yL_lawnOf cL_lawnOf 3 (some .int) [(0, 5, 6, 13)]) := ⟨pm_7 _ (List.mem_of_getElem? (i := 95) (by decide +kernel)), rfl⟩
theorem lk_L_72 : zWd (.methodLink RL 72 yX9_lawnOf) := ⟨pm_7 _ (List.mem_of_getElem? (i := 96) (by decide +kernel)), rfl⟩
theorem im_X9_lawnOf : zWd (.instanceMethod yX9_lawnOf) := ⟨pm_7 _ (List.mem_of_getElem? (i := 97) (by decide +kernel)), rfl⟩
theorem se_X9_X9_lawnOf : zWd (.selects RX9 yX9_lawnOf yX9_lawnOf) := ⟨pm_7 _ (List.mem_of_getElem? (i := 98) (by decide +kernel)), rfl⟩
theorem cd_X9_lawnOf : zWd (.code yX9_lawnOf cX9_lawnOf 2 (some .int)) := ⟨pm_7 _ (List.mem_of_getElem? (i := 99) (by decide +kernel)), rfl⟩
theorem lk_L_341 : zWd (.methodLink RL 341 yL_rust) := ⟨pm_7 _ (List.mem_of_getElem? (i := 100) (by decide +kernel)), rfl⟩
theorem st_L_rust : zWd (.static yL_rust) := ⟨pm_7 _ (List.mem_of_getElem? (i := 101) (by decide +kernel)), rfl⟩
theorem cd_L_rust : zWd (.codeWith yL_rust cL_rust 3 (some .int) [(0, 5, 6, 13)]) := ⟨pm_7 _ (List.mem_of_getElem? (i := 102) (by decide +kernel)), rfl⟩
theorem lk_L_75 : zWd (.methodLink RL 75 yX9_rustOf) := ⟨pm_7 _ (List.mem_of_getElem? (i := 103) (by decide +kernel)), rfl⟩
theorem im_X9_rustOf : zWd (.instanceMethod yX9_rustOf) := ⟨pm_7 _ (List.mem_of_getElem? (i := 104) (by decide +kernel)), rfl⟩
theorem se_X9_X9_rustOf : zWd (.selects RX9 yX9_rustOf yX9_rustOf) := ⟨pm_7 _ (List.mem_of_getElem? (i := 105) (by decide +kernel)), rfl⟩
theorem cd_X9_rustOf : zWd (.code yX9_rustOf cX9_rustOf 2 (some .int)) := ⟨pm_7 _ (List.mem_of_getElem? (i := 106) (by decide +kernel)), rfl⟩
theorem lk_L_344 : zWd (.methodLink RL 344 yL_distanceAgain) := ⟨pm_7 _ (List.mem_of_getElem? (i := 107) (by decide +kernel)), rfl⟩
theorem st_L_distanceAgain : zWd (.static yL_distanceAgain) := ⟨pm_7 _ (List.mem_of_getElem? (i := 108) (by decide +kernel)), rfl⟩
theorem cd_L_distanceAgain : zWd (.codeWith yL_distanceAgain cL_distanceAgain 4 (some .int) [(0, 6, 7, 13), (0, 6, 12, 29)]) := ⟨pm_7 _ (List.mem_of_getElem? (i := 109) (by decide +kernel)), rfl⟩
theorem lk_L_31 : zWd (.methodLink RL 31 yX9_distanceByImprovement) := ⟨pm_7 _ (List.mem_of_getElem? (i := 110) (by decide +kernel)), rfl⟩
theorem im_X9_distanceByImprovement : zWd (.instanceMethod yX9_distanceByImprovement) := ⟨pm_7 _ (List.mem_of_getElem? (i := 111) (by decide +kernel)), rfl⟩
theorem se_X9_X9_distanceByImprovement : zWd (.selects RX9 yX9_distanceByImprovement yX9_distanceByImprovement) := ⟨pm_7 _ (List.mem_of_getElem? (i := 112) (by decide +kernel)), rfl⟩
theorem cd_X9_distanceByImprovement : zWd (.code yX9_distanceByImprovement cX9_distanceByImprovement 3 (some .int)) := ⟨pm_7 _ (List.mem_of_getElem? (i := 113) (by decide +kernel)), rfl⟩
theorem lk_X9_92 : zWd (.methodLink RX9 92 yX5_measure) := ⟨pm_7 _ (List.mem_of_getElem? (i := 114) (by decide +kernel)), rfl⟩
theorem im_X5_measure : zWd (.instanceMethod yX5_measure) := ⟨pm_7 _ (List.mem_of_getElem? (i := 115) (by decide +kernel)), rfl⟩
theorem se_X5_X5_measure : zWd (.selects RX5 yX5_measure yX5_measure) := ⟨pm_7 _ (List.mem_of_getElem? (i := 116) (by decide +kernel)), rfl⟩
theorem cd_X5_measure : zWd (.code yX5_measure cX5_measure 4 none) := ⟨pm_7 _ (List.mem_of_getElem? (i := 117) (by decide +kernel)), rfl⟩
theorem lk_X5_16 : zWd (.methodLink RX5 16 yX5_firstBound) := ⟨pm_7 _ (List.mem_of_getElem? (i := 118) (by decide +kernel)), rfl⟩
theorem st_X5_firstBound : zWd (.static yX5_firstBound) := ⟨pm_7 _ (List.mem_of_getElem? (i := 119) (by decide +kernel)), rfl⟩
theorem cd_X5_firstBound : zWd (.code yX5_firstBound cX5_firstBound 3 (some .int)) := ⟨pm_7 _ (List.mem_of_getElem? (i := 120) (by decide +kernel)), rfl⟩
theorem lk_X5_37 : zWd (.methodLink RX5 37 yX8_areNeighbours) := ⟨pm_7 _ (List.mem_of_getElem? (i := 121) (by decide +kernel)), rfl⟩
theorem lk_X5_20 : zWd (.methodLink RX5 20 yX5_improve) := ⟨pm_7 _ (List.mem_of_getElem? (i := 122) (by decide +kernel)), rfl⟩
theorem im_X5_improve : zWd (.instanceMethod yX5_improve) := ⟨pm_7 _ (List.mem_of_getElem? (i := 124) (by decide +kernel)), rfl⟩
theorem cd_X5_improve : zWd (.code yX5_improve cX5_improve 6 (some .boolean)) := ⟨pm_7 _ (List.mem_of_getElem? (i := 125) (by decide +kernel)), rfl⟩
theorem lk_X9_96 : zWd (.methodLink RX9 96 yX5_between) := ⟨pm_7 _ (List.mem_of_getElem? (i := 126) (by decide +kernel)), rfl⟩
theorem im_X5_between : zWd (.instanceMethod yX5_between) := ⟨pm_7 _ (List.mem_of_getElem? (i := 127) (by decide +kernel)), rfl⟩
theorem se_X5_X5_between : zWd (.selects RX5 yX5_between yX5_between) := ⟨pm_7 _ (List.mem_of_getElem? (i := 128) (by decide +kernel)), rfl⟩
theorem cd_X5_between : zWd (.code yX5_between cX5_between 4 (some .int)) := ⟨pm_7 _ (List.mem_of_getElem? (i := 129) (by decide +kernel)), rfl⟩
theorem lk_X5_24 : (.methodLinkNest RX5 24 yX9_isLawn "ChairMigration" : Cond) ∈ lw_tbl := pm_7 _ (List.mem_of_getElem? (i := 130) (by decide +kernel))
theorem lk_L_347 : zWd (.methodLink RL 347 yL_routeAt) := ⟨pm_7 _ (List.mem_of_getElem? (i := 131) (by decide +kernel)), rfl⟩
theorem st_L_routeAt : zWd (.static yL_routeAt) := ⟨pm_7 _ (List.mem_of_getElem? (i := 132) (by decide +kernel)), rfl⟩
theorem cd_L_routeAt : zWd (.codeWith yL_routeAt cL_routeAt 5 (some .int) [(0, 7, 8, 13), (0, 7, 14, 29)]) := ⟨pm_7 _ (List.mem_of_getElem? (i := 133) (by decide +kernel)), rfl⟩
theorem lk_L_34 : zWd (.methodLink RL 34 yX9_routeAt) := ⟨pm_7 _ (List.mem_of_getElem? (i := 134) (by decide +kernel)), rfl⟩
theorem im_X9_routeAt : zWd (.instanceMethod yX9_routeAt) := ⟨pm_7 _ (List.mem_of_getElem? (i := 135) (by decide +kernel)), rfl⟩
theorem se_X9_X9_routeAt : zWd (.selects RX9 yX9_routeAt yX9_routeAt) := ⟨pm_7 _ (List.mem_of_getElem? (i := 136) (by decide +kernel)), rfl⟩
theorem cd_X9_routeAt : zWd (.code yX9_routeAt cX9_routeAt 7 (some .int)) := ⟨pm_7 _ (List.mem_of_getElem? (i := 137) (by decide +kernel)), rfl⟩
theorem lk_X9_101 : (.stringRef RX9 101 "no such position on a route" : Cond) ∈ lw_tbl := pm_7 _ (List.mem_of_getElem? (i := 138) (by decide +kernel))
theorem lk_X9_106 : zWd (.methodLink RX9 106 yX8_nextTowards) := ⟨pm_7 _ (List.mem_of_getElem? (i := 139) (by decide +kernel)), rfl⟩
theorem im_X8_nextTowards : zWd (.instanceMethod yX8_nextTowards) := ⟨pm_7 _ (List.mem_of_getElem? (i := 140) (by decide +kernel)), rfl⟩
theorem se_X8_X8_nextTowards : zWd (.selects RX8 yX8_nextTowards yX8_nextTowards) := ⟨pm_7 _ (List.mem_of_getElem? (i := 141) (by decide +kernel)), rfl⟩
theorem cd_X8_nextTowards : zWd (.code yX8_nextTowards cX8_nextTowards 5 (some .int)) := ⟨pm_7 _ (List.mem_of_getElem? (i := 142) (by decide +kernel)), rfl⟩
theorem lk_X8_46 : zWd (.methodLink RX8 46 yX8_stepsBetween) := ⟨pm_7 _ (List.mem_of_getElem? (i := 143) (by decide +kernel)), rfl⟩
theorem lk_X8_50 : zWd (.methodLink RX8 50 yX8_areNeighbours) := ⟨pm_7 _ (List.mem_of_getElem? (i := 144) (by decide +kernel)), rfl⟩
theorem lk_L_350 : zWd (.methodLink RL 350 yL_reachable) := ⟨pm_7 _ (List.mem_of_getElem? (i := 145) (by decide +kernel)), rfl⟩
theorem st_L_reachable : zWd (.static yL_reachable) := ⟨pm_7 _ (List.mem_of_getElem? (i := 146) (by decide +kernel)), rfl⟩
theorem cd_L_reachable : zWd (.codeWith yL_reachable cL_reachable 3 (some .int) [(0, 5, 6, 13)]) := ⟨pm_7 _ (List.mem_of_getElem? (i := 147) (by decide +kernel)), rfl⟩
theorem lk_L_38 : zWd (.methodLink RL 38 yX9_reachableLawns) := ⟨pm_7 _ (List.mem_of_getElem? (i := 148) (by decide +kernel)), rfl⟩
theorem im_X9_reachableLawns : zWd (.instanceMethod yX9_reachableLawns) := ⟨pm_7 _ (List.mem_of_getElem? (i := 149) (by decide +kernel)), rfl⟩
theorem se_X9_X9_reachableLawns : zWd (.selects RX9 yX9_reachableLawns yX9_reachableLawns) := ⟨pm_7 _ (List.mem_of_getElem? (i := 150) (by decide +kernel)), rfl⟩
theorem cd_X9_reachableLawns : zWd (.code yX9_reachableLawns cX9_reachableLawns 2 (some .int)) := ⟨pm_7 _ (List.mem_of_getElem? (i := 151) (by decide +kernel)), rfl⟩
theorem lk_X9_109 : zWd (.methodLink RX9 109 yX8_countReached) := ⟨pm_7 _ (List.mem_of_getElem? (i := 152) (by decide +kernel)), rfl⟩
theorem im_X8_countReached : zWd (.instanceMethod yX8_countReached) := ⟨pm_7 _ (List.mem_of_getElem? (i := 153) (by decide +kernel)), rfl⟩
theorem se_X8_X8_countReached : zWd (.selects RX8 yX8_countReached yX8_countReached) := ⟨pm_7 _ (List.mem_of_getElem? (i := 154) (by decide +kernel)), rfl⟩
theorem cd_X8_countReached : zWd (.code yX8_countReached cX8_countReached 4 (some .int)) := ⟨pm_7 _ (List.mem_of_getElem? (i := 155) (by decide +kernel)), rfl⟩
theorem lk_X8_41 : zWd (.methodLink RX8 41 yJ6_bitCount_0f7a4) := ⟨pm_7 _ (List.mem_of_getElem? (i := 156) (by decide +kernel)), rfl⟩
theorem st_J6_bitCount_0f7a4 : zWd (.static yJ6_bitCount_0f7a4) := ⟨pm_7 _ (List.mem_of_getElem? (i := 157) (by decide +kernel)), rfl⟩
theorem cd_J6_bitCount_0f7a4 : zWd (.code yJ6_bitCount_0f7a4 cJ6_bitCount_0f7a4 1 (some .int)) := ⟨pm_7 _ (List.mem_of_getElem? (i := 158) (by decide +kernel)), rfl⟩
theorem co_J6_265 : zWd (.constant RJ6 265 1431655765) := ⟨pm_7 _ (List.mem_of_getElem? (i := 159) (by decide +kernel)), rfl⟩
theorem co_J6_266 : zWd (.constant RJ6 266 858993459) := ⟨pm_7 _ (List.mem_of_getElem? (i := 160) (by decide +kernel)), rfl⟩
theorem co_J6_267 : zWd (.constant RJ6 267 252645135) := ⟨pm_7 _ (List.mem_of_getElem? (i := 161) (by decide +kernel)), rfl⟩
theorem lk_L_353 : zWd (.methodLink RL 353 yL_shade) := ⟨pm_7 _ (List.mem_of_getElem? (i := 162) (by decide +kernel)), rfl⟩
theorem st_L_shade : zWd (.static yL_shade) := ⟨pm_7 _ (List.mem_of_getElem? (i := 163) (by decide +kernel)), rfl⟩
theorem cd_L_shade : zWd (.codeWith yL_shade cL_shade 3 (some .int) [(0, 5, 6, 13)]) := ⟨pm_7 _ (List.mem_of_getElem? (i := 164) (by decide +kernel)), rfl⟩
theorem lk_L_45 : zWd (.methodLink RL 45 yX9_shadeOf) := ⟨pm_7 _ (List.mem_of_getElem? (i := 165) (by decide +kernel)), rfl⟩
theorem im_X9_shadeOf : zWd (.instanceMethod yX9_shadeOf) := ⟨pm_7 _ (List.mem_of_getElem? (i := 166) (by decide +kernel)), rfl⟩
theorem se_X9_X9_shadeOf : zWd (.selects RX9 yX9_shadeOf yX9_shadeOf) := ⟨pm_7 _ (List.mem_of_getElem? (i := 167) (by decide +kernel)), rfl⟩
theorem cd_X9_shadeOf : zWd (.code yX9_shadeOf cX9_shadeOf 2 (some .int)) := ⟨pm_7 _ (List.mem_of_getElem? (i := 168) (by decide +kernel)), rfl⟩
theorem lk_L_356 : zWd (.methodLink RL 356 yL_position) := ⟨pm_7 _ (List.mem_of_getElem? (i := 169) (by decide +kernel)), rfl⟩
theorem st_L_position : zWd (.static yL_position) := ⟨pm_7 _ (List.mem_of_getElem? (i := 170) (by decide +kernel)), rfl⟩
theorem cd_L_position : zWd (.codeWith yL_position cL_position 3 (some .int) [(0, 5, 6, 13)]) := ⟨pm_7 _ (List.mem_of_getElem? (i := 171) (by decide +kernel)), rfl⟩
theorem lk_L_85 : zWd (.methodLink RL 85 yX9_positionOf) := ⟨pm_7 _ (List.mem_of_getElem? (i := 172) (by decide +kernel)), rfl⟩
theorem im_X9_positionOf : zWd (.instanceMethod yX9_positionOf) := ⟨pm_7 _ (List.mem_of_getElem? (i := 173) (by decide +kernel)), rfl⟩
theorem se_X9_X9_positionOf : zWd (.selects RX9 yX9_positionOf yX9_positionOf) := ⟨pm_7 _ (List.mem_of_getElem? (i := 174) (by decide +kernel)), rfl⟩
theorem cd_X9_positionOf : zWd (.code yX9_positionOf cX9_positionOf 2 (some .int)) := ⟨pm_7 _ (List.mem_of_getElem? (i := 175) (by decide +kernel)), rfl⟩
theorem lk_X9_149 : zWd (.methodLink RX9 149 yX3_placeInHerd) := ⟨pm_7 _ (List.mem_of_getElem? (i := 176) (by decide +kernel)), rfl⟩
theorem im_X3_placeInHerd : zWd (.instanceMethod yX3_placeInHerd) := ⟨pm_7 _ (List.mem_of_getElem? (i := 177) (by decide +kernel)), rfl⟩
theorem se_X3_X3_placeInHerd : zWd (.selects RX3 yX3_placeInHerd yX3_placeInHerd) := ⟨pm_7 _ (List.mem_of_getElem? (i := 178) (by decide +kernel)), rfl⟩
theorem cd_X3_placeInHerd : zWd (.code yX3_placeInHerd cX3_placeInHerd 4 (some .int)) := ⟨pm_7 _ (List.mem_of_getElem? (i := 179) (by decide +kernel)), rfl⟩
theorem lk_L_359 : zWd (.methodLink RL 359 yL_herdSizeAgain) := ⟨pm_7 _ (List.mem_of_getElem? (i := 180) (by decide +kernel)), rfl⟩
theorem st_L_herdSizeAgain : zWd (.static yL_herdSizeAgain) := ⟨pm_7 _ (List.mem_of_getElem? (i := 181) (by decide +kernel)), rfl⟩
theorem cd_L_herdSizeAgain : zWd (.codeWith yL_herdSizeAgain cL_herdSizeAgain 3 (some .int) [(0, 5, 6, 13)]) := ⟨pm_7 _ (List.mem_of_getElem? (i := 182) (by decide +kernel)), rfl⟩
theorem lk_L_91 : zWd (.methodLink RL 91 yX9_herdSizeByChairs) := ⟨pm_7 _ (List.mem_of_getElem? (i := 183) (by decide +kernel)), rfl⟩
theorem im_X9_herdSizeByChairs : zWd (.instanceMethod yX9_herdSizeByChairs) := ⟨pm_7 _ (List.mem_of_getElem? (i := 184) (by decide +kernel)), rfl⟩
theorem se_X9_X9_herdSizeByChairs : zWd (.selects RX9 yX9_herdSizeByChairs yX9_herdSizeByChairs) := ⟨pm_7 _ (List.mem_of_getElem? (i := 185) (by decide +kernel)), rfl⟩
theorem cd_X9_herdSizeByChairs : zWd (.code yX9_herdSizeByChairs cX9_herdSizeByChairs 2 (some .int)) := ⟨pm_7 _ (List.mem_of_getElem? (i := 186) (by decide +kernel)), rfl⟩
theorem lk_X9_156 : zWd (.methodLink RX9 156 yX3_countChairsOn) := ⟨pm_7 _ (List.mem_of_getElem? (i := 187) (by decide +kernel)), rfl⟩
theorem im_X3_countChairsOn : zWd (.instanceMethod yX3_countChairsOn) := ⟨pm_7 _ (List.mem_of_getElem? (i := 188) (by decide +kernel)), rfl⟩
theorem se_X3_X3_countChairsOn : zWd (.selects RX3 yX3_countChairsOn yX3_countChairsOn) := ⟨pm_7 _ (List.mem_of_getElem? (i := 189) (by decide +kernel)), rfl⟩
theorem cd_X3_countChairsOn : zWd (.code yX3_countChairsOn cX3_countChairsOn 4 (some .int)) := ⟨pm_7 _ (List.mem_of_getElem? (i := 190) (by decide +kernel)), rfl⟩
theorem lk_L_362 : zWd (.methodLink RL 362 yL_chairAt) := ⟨pm_7 _ (List.mem_of_getElem? (i := 191) (by decide +kernel)), rfl⟩
theorem st_L_chairAt : zWd (.static yL_chairAt) := ⟨pm_7 _ (List.mem_of_getElem? (i := 192) (by decide +kernel)), rfl⟩
theorem cd_L_chairAt : zWd (.codeWith yL_chairAt cL_chairAt 4 (some .int) [(0, 6, 7, 13), (0, 6, 12, 29)]) := ⟨pm_7 _ (List.mem_of_getElem? (i := 193) (by decide +kernel)), rfl⟩
theorem lk_L_94 : zWd (.methodLink RL 94 yX9_chairAt) := ⟨pm_7 _ (List.mem_of_getElem? (i := 194) (by decide +kernel)), rfl⟩
theorem im_X9_chairAt : zWd (.instanceMethod yX9_chairAt) := ⟨pm_7 _ (List.mem_of_getElem? (i := 195) (by decide +kernel)), rfl⟩
theorem se_X9_X9_chairAt : zWd (.selects RX9 yX9_chairAt yX9_chairAt) := ⟨pm_7 _ (List.mem_of_getElem? (i := 196) (by decide +kernel)), rfl⟩
theorem cd_X9_chairAt : zWd (.code yX9_chairAt cX9_chairAt 3 (some .int)) := ⟨pm_7 _ (List.mem_of_getElem? (i := 197) (by decide +kernel)), rfl⟩
theorem lk_X9_159 : zWd (.methodLink RX9 159 yX3_idInHerd) := ⟨pm_7 _ (List.mem_of_getElem? (i := 198) (by decide +kernel)), rfl⟩
theorem im_X3_idInHerd : zWd (.instanceMethod yX3_idInHerd) := ⟨pm_7 _ (List.mem_of_getElem? (i := 199) (by decide +kernel)), rfl⟩
theorem se_X3_X3_idInHerd : zWd (.selects RX3 yX3_idInHerd yX3_idInHerd) := ⟨pm_7 _ (List.mem_of_getElem? (i := 200) (by decide +kernel)), rfl⟩
theorem cd_X3_idInHerd : zWd (.code yX3_idInHerd cX3_idInHerd 4 (some .int)) := ⟨pm_7 _ (List.mem_of_getElem? (i := 201) (by decide +kernel)), rfl⟩
theorem lk_X3_177 : zWd (.methodLink RX3 177 yX3_findInHerd) := ⟨pm_7 _ (List.mem_of_getElem? (i := 202) (by decide +kernel)), rfl⟩
theorem im_X3_findInHerd : zWd (.instanceMethod yX3_findInHerd) := ⟨pm_7 _ (List.mem_of_getElem? (i := 204) (by decide +kernel)), rfl⟩
theorem cd_X3_findInHerd : zWd (.code yX3_findInHerd cX3_findInHerd 5 (some (.object "ChairMigration$Chair"))) := ⟨pm_7 _ (List.mem_of_getElem? (i := 205) (by decide +kernel)), rfl⟩
theorem lk_L_364 : zWd (.methodLink RL 364 yL_hungry) := ⟨pm_7 _ (List.mem_of_getElem? (i := 206) (by decide +kernel)), rfl⟩
theorem st_L_hungry : zWd (.static yL_hungry) := ⟨pm_7 _ (List.mem_of_getElem? (i := 207) (by decide +kernel)), rfl⟩
theorem cd_L_hungry : zWd (.codeWith yL_hungry cL_hungry 3 (some .int) [(0, 5, 6, 13)]) := ⟨pm_7 _ (List.mem_of_getElem? (i := 208) (by decide +kernel)), rfl⟩
theorem lk_L_100 : zWd (.methodLink RL 100 yX9_hungryChairs) := ⟨pm_7 _ (List.mem_of_getElem? (i := 209) (by decide +kernel)), rfl⟩
theorem im_X9_hungryChairs : zWd (.instanceMethod yX9_hungryChairs) := ⟨pm_7 _ (List.mem_of_getElem? (i := 210) (by decide +kernel)), rfl⟩
theorem se_X9_X9_hungryChairs : zWd (.selects RX9 yX9_hungryChairs yX9_hungryChairs) := ⟨pm_7 _ (List.mem_of_getElem? (i := 211) (by decide +kernel)), rfl⟩
theorem cd_X9_hungryChairs : zWd (.code yX9_hungryChairs cX9_hungryChairs 2 (some .int)) := ⟨pm_7 _ (List.mem_of_getElem? (i := 212) (by decide +kernel)), rfl⟩
theorem lk_X9_165 : zWd (.methodLink RX9 165 yX3_countGrazingOn) := ⟨pm_7 _ (List.mem_of_getElem? (i := 213) (by decide +kernel)), rfl⟩
theorem lk_X9_168 : zWd (.methodLink RX9 168 Lib.Math.max.name) := ⟨pm_7 _ (List.mem_of_getElem? (i := 214) (by decide +kernel)), rfl⟩
theorem lk_L_367 : zWd (.methodLink RL 367 yL_daysUntil) := ⟨pm_7 _ (List.mem_of_getElem? (i := 215) (by decide +kernel)), rfl⟩
theorem st_L_daysUntil : zWd (.static yL_daysUntil) := ⟨pm_7 _ (List.mem_of_getElem? (i := 216) (by decide +kernel)), rfl⟩
theorem cd_L_daysUntil : zWd (.codeWith yL_daysUntil cL_daysUntil 3 (some .int) [(0, 5, 6, 15)]) := ⟨pm_7 _ (List.mem_of_getElem? (i := 217) (by decide +kernel)), rfl⟩
theorem lk_L_109 : zWd (.methodLink RL 109 yX9_daysUntil) := ⟨pm_7 _ (List.mem_of_getElem? (i := 218) (by decide +kernel)), rfl⟩
theorem im_X9_daysUntil : zWd (.instanceMethod yX9_daysUntil) := ⟨pm_7 _ (List.mem_of_getElem? (i := 219) (by decide +kernel)), rfl⟩
theorem se_X9_X9_daysUntil : zWd (.selects RX9 yX9_daysUntil yX9_daysUntil) := ⟨pm_7 _ (List.mem_of_getElem? (i := 220) (by decide +kernel)), rfl⟩
theorem cd_X9_daysUntil : zWd (.code yX9_daysUntil cX9_daysUntil 3 (some .int)) := ⟨pm_7 _ (List.mem_of_getElem? (i := 221) (by decide +kernel)), rfl⟩
theorem lk_X9_182 : (.stringRef RX9 182 "no such season" : Cond) ∈ lw_tbl := pm_7 _ (List.mem_of_getElem? (i := 222) (by decide +kernel))
theorem lk_X9_176 : zWd (.methodLink RX9 176 yX3_comingSeason) := ⟨pm_7 _ (List.mem_of_getElem? (i := 223) (by decide +kernel)), rfl⟩
theorem lk_L_369 : zWd (.methodLink RL 369 yL_collapseDay) := ⟨pm_7 _ (List.mem_of_getElem? (i := 224) (by decide +kernel)), rfl⟩
theorem st_L_collapseDay : zWd (.static yL_collapseDay) := ⟨pm_7 _ (List.mem_of_getElem? (i := 225) (by decide +kernel)), rfl⟩
theorem cd_L_collapseDay : zWd (.codeWith yL_collapseDay cL_collapseDay 3 (some .int) [(0, 5, 6, 13), (0, 5, 11, 29)]) := ⟨pm_7 _ (List.mem_of_getElem? (i := 226) (by decide +kernel)), rfl⟩
theorem lk_L_115 : zWd (.methodLink RL 115 yX9_collapseDay) := ⟨pm_7 _ (List.mem_of_getElem? (i := 227) (by decide +kernel)), rfl⟩
theorem im_X9_collapseDay : zWd (.instanceMethod yX9_collapseDay) := ⟨pm_7 _ (List.mem_of_getElem? (i := 228) (by decide +kernel)), rfl⟩
theorem se_X9_X9_collapseDay : zWd (.selects RX9 yX9_collapseDay yX9_collapseDay) := ⟨pm_7 _ (List.mem_of_getElem? (i := 229) (by decide +kernel)), rfl⟩
theorem cd_X9_collapseDay : zWd (.code yX9_collapseDay cX9_collapseDay 3 (some .int)) := ⟨pm_7 _ (List.mem_of_getElem? (i := 230) (by decide +kernel)), rfl⟩
theorem lk_X9_198 : zWd (.methodLink RX9 198 yX3_passOneDay) := ⟨pm_7 _ (List.mem_of_getElem? (i := 231) (by decide +kernel)), rfl⟩
theorem lk_X9_201 : (.stringRef RX9 201 "no collapse within the days of the forecast" : Cond) ∈ lw_tbl := pm_7 _ (List.mem_of_getElem? (i := 232) (by decide +kernel))
theorem lk_L_371 : (.stringRef RL 371 "x" : Cond) ∈ lw_tbl := pm_7 _ (List.mem_of_getElem? (i := 233) (by decide +kernel))
theorem lk_L_376 : (.stringRef RL 376 "d1;s99" : Cond) ∈ lw_tbl := pm_7 _ (List.mem_of_getElem? (i := 234) (by decide +kernel))
theorem lk_L_378 : (.stringRef RL 378 "a1;d0" : Cond) ∈ lw_tbl := pm_7 _ (List.mem_of_getElem? (i := 235) (by decide +kernel))
theorem lk_L_380 : (.stringRef RL 380 "d5;h0=9;m" : Cond) ∈ lw_tbl := pm_7 _ (List.mem_of_getElem? (i := 236) (by decide +kernel))
theorem lk_L_382 : zWd (.methodLink RL 382 yL_rejects) := ⟨pm_7 _ (List.mem_of_getElem? (i := 237) (by decide +kernel)), rfl⟩
theorem st_L_rejects : zWd (.static yL_rejects) := ⟨pm_7 _ (List.mem_of_getElem? (i := 238) (by decide +kernel)), rfl⟩
theorem cd_L_rejects : zWd (.code yL_rejects cL_rejects 1 (some .boolean)) := ⟨pm_7 _ (List.mem_of_getElem? (i := 239) (by decide +kernel)), rfl⟩
theorem ac_long : zWd (.arrayClass .long) := ⟨pm_8 _ (List.mem_of_getElem? (i := 0) (by decide +kernel)), rfl⟩
theorem sm_java_lang_Throwable_java_lang_Throwable_1681 : zWd (.sameMethod "java/lang/Throwable" "java/lang/Throwable" "fillInStackTrace" "(I)Ljava/lang/Throwable;") := ⟨pm_8 _ (List.mem_of_getElem? (i := 1) (by decide +kernel)), rfl⟩
theorem sm_J5_J5_J5_setLength_d00df : zWd (.sameMethod RJ5 RJ5 "setLength" "(I)V") := ⟨pm_8 _ (List.mem_of_getElem? (i := 2) (by decide +kernel)), rfl⟩
theorem sm_J5_J5_J5_append_cf1ce : zWd (.sameMethod RJ5 RJ5 "append" "(Ljava/lang/String;)Ljava/lang/AbstractStringBuilder;") := ⟨pm_8 _ (List.mem_of_getElem? (i := 3) (by decide +kernel)), rfl⟩
theorem sm_J5_J5_J5_appendNull_278bc : zWd (.sameMethod RJ5 RJ5 "appendNull" "()Ljava/lang/AbstractStringBuilder;") := ⟨pm_8 _ (List.mem_of_getElem? (i := 4) (by decide +kernel)), rfl⟩
theorem sm_J5_J5_J5_ensureCapacityInternal_d00df : zWd (.sameMethod RJ5 RJ5 "ensureCapacityInternal" "(I)V") := ⟨pm_8 _ (List.mem_of_getElem? (i := 5) (by decide +kernel)), rfl⟩
theorem sm_J5_J5_J5_newCapacity_0f7a4 : zWd (.sameMethod RJ5 RJ5 "newCapacity" "(I)I") := ⟨pm_8 _ (List.mem_of_getElem? (i := 6) (by decide +kernel)), rfl⟩
theorem sm_J5_J5_J5_putStringAt_47b60 : zWd (.sameMethod RJ5 RJ5 "putStringAt" "(ILjava/lang/String;)V") := ⟨pm_8 _ (List.mem_of_getElem? (i := 7) (by decide +kernel)), rfl⟩
theorem sm_J5_J5_J5_inflateIfNeededFor_a7421 : zWd (.sameMethod RJ5 RJ5 "inflateIfNeededFor" "(Ljava/lang/String;)V") := ⟨pm_8 _ (List.mem_of_getElem? (i := 8) (by decide +kernel)), rfl⟩
theorem sm_J5_J5_J5_inflate_da8c8 : zWd (.sameMethod RJ5 RJ5 "inflate" "()V") := ⟨pm_8 _ (List.mem_of_getElem? (i := 9) (by decide +kernel)), rfl⟩
theorem sm_J5_J5_J5_append_c97b9 : zWd (.sameMethod RJ5 RJ5 "append" "(I)Ljava/lang/AbstractStringBuilder;") := ⟨pm_8 _ (List.mem_of_getElem? (i := 10) (by decide +kernel)), rfl⟩
theorem sm_J5_J5_J5_append_3fe6f : zWd (.sameMethod RJ5 RJ5 "append" "(C)Ljava/lang/AbstractStringBuilder;") := ⟨pm_8 _ (List.mem_of_getElem? (i := 11) (by decide +kernel)), rfl⟩
theorem se_J4_J4_length_8abf5 : zWd (.selects RJ4 yJ4_length_8abf5 yJ4_length_8abf5) := ⟨pm_8 _ (List.mem_of_getElem? (i := 12) (by decide +kernel)), rfl⟩
theorem sm_J5_J5_J5_charAt_5068e : zWd (.sameMethod RJ5 RJ5 "charAt" "(I)C") := ⟨pm_8 _ (List.mem_of_getElem? (i := 13) (by decide +kernel)), rfl⟩
theorem ca_Jx00060_java_lang_IndexOutOfBoundsException : (.castable "java/lang/ArrayIndexOutOfBoundsException" "java/lang/IndexOutOfBoundsException" : Cond) ∈ lw_tbl := pm_8 _ (List.mem_of_getElem? (i := 14) (by decide +kernel))
theorem ca_Jx7c733_java_lang_IndexOutOfBoundsException : (.castable "java/lang/StringIndexOutOfBoundsException" "java/lang/IndexOutOfBoundsException" : Cond) ∈ lw_tbl := pm_8 _ (List.mem_of_getElem? (i := 15) (by decide +kernel))
theorem ca_X9_java_lang_Object : (.castable "ChairMigration" "java/lang/Object" : Cond) ∈ lw_tbl := pm_8 _ (List.mem_of_getElem? (i := 16) (by decide +kernel))
theorem ca_X3_java_lang_Object : (.castable "ChairMigration$Garden" "java/lang/Object" : Cond) ∈ lw_tbl := pm_8 _ (List.mem_of_getElem? (i := 17) (by decide +kernel))
theorem ca_X8_java_lang_Object : (.castable "ChairMigration$Paths" "java/lang/Object" : Cond) ∈ lw_tbl := pm_8 _ (List.mem_of_getElem? (i := 18) (by decide +kernel))
theorem ca_X7_java_lang_Object : (.castable "ChairMigration$LawnRow" "java/lang/Object" : Cond) ∈ lw_tbl := pm_8 _ (List.mem_of_getElem? (i := 19) (by decide +kernel))
theorem ca_X0_java_lang_Object : (.castable "ChairMigration$Chair" "java/lang/Object" : Cond) ∈ lw_tbl := pm_8 _ (List.mem_of_getElem? (i := 20) (by decide +kernel))
theorem ca_X4_java_lang_Object : (.castable "ChairMigration$History" "java/lang/Object" : Cond) ∈ lw_tbl := pm_8 _ (List.mem_of_getElem? (i := 21) (by decide +kernel))
theorem ca_X5_java_lang_Object : (.castable "ChairMigration$Improvement" "java/lang/Object" : Cond) ∈ lw_tbl := pm_8 _ (List.mem_of_getElem? (i := 22) (by decide +kernel))
theorem ca_X6_java_lang_Object : (.castable "ChairMigration$Judge" "java/lang/Object" : Cond) ∈ lw_tbl := pm_8 _ (List.mem_of_getElem? (i := 23) (by decide +kernel))
theorem ca_X1_java_lang_Object : (.castable "ChairMigration$CommandInput" "java/lang/Object" : Cond) ∈ lw_tbl := pm_8 _ (List.mem_of_getElem? (i := 24) (by decide +kernel))
theorem ca_J4_java_lang_Object : (.castable "java/lang/StringBuilder" "java/lang/Object" : Cond) ∈ lw_tbl := pm_8 _ (List.mem_of_getElem? (i := 25) (by decide +kernel))
theorem ca_java_lang_IllegalStateException_java_lang_Object : (.castable "java/lang/IllegalStateException" "java/lang/Object" : Cond) ∈ lw_tbl := pm_8 _ (List.mem_of_getElem? (i := 26) (by decide +kernel))
theorem ca_java_lang_IndexOutOfBoundsException_java_lang_Object : (.castable "java/lang/IndexOutOfBoundsException" "java/lang/Object" : Cond) ∈ lw_tbl := pm_8 _ (List.mem_of_getElem? (i := 27) (by decide +kernel))
theorem ca_java_lang_IllegalArgumentException_java_lang_Object : (.castable "java/lang/IllegalArgumentException" "java/lang/Object" : Cond) ∈ lw_tbl := pm_8 _ (List.mem_of_getElem? (i := 28) (by decide +kernel))
theorem ca_java_lang_UnsupportedOperationException_java_lang_Object : (.castable "java/lang/UnsupportedOperationException" "java/lang/Object" : Cond) ∈ lw_tbl := pm_8 _ (List.mem_of_getElem? (i := 29) (by decide +kernel))
theorem ca_java_util_NoSuchElementException_java_lang_Object : (.castable "java/util/NoSuchElementException" "java/lang/Object" : Cond) ∈ lw_tbl := pm_8 _ (List.mem_of_getElem? (i := 30) (by decide +kernel))
theorem ca_Jx00060_java_lang_Object : (.castable "java/lang/ArrayIndexOutOfBoundsException" "java/lang/Object" : Cond) ∈ lw_tbl := pm_8 _ (List.mem_of_getElem? (i := 31) (by decide +kernel))
theorem ca_java_lang_ArithmeticException_java_lang_Object : (.castable "java/lang/ArithmeticException" "java/lang/Object" : Cond) ∈ lw_tbl := pm_8 _ (List.mem_of_getElem? (i := 32) (by decide +kernel))
theorem ca_Jx7c733_java_lang_Object : (.castable "java/lang/StringIndexOutOfBoundsException" "java/lang/Object" : Cond) ∈ lw_tbl := pm_8 _ (List.mem_of_getElem? (i := 33) (by decide +kernel))
theorem ca_J0_java_lang_Object : (.castable "java/lang/String" "java/lang/Object" : Cond) ∈ lw_tbl := pm_8 _ (List.mem_of_getElem? (i := 34) (by decide +kernel))
theorem ca_java_lang_Throwable_java_lang_Object : (.castable "java/lang/Throwable" "java/lang/Object" : Cond) ∈ lw_tbl := pm_8 _ (List.mem_of_getElem? (i := 35) (by decide +kernel))
theorem se_X3_X3_indexOf : zWd (.selects RX3 yX3_indexOf yX3_indexOf) := ⟨List.mem_append_left _ (List.mem_of_getElem? (i := 0) (by decide +kernel)), rfl⟩
theorem se_X9_X9_change : zWd (.selects RX9 yX9_change yX9_change) := ⟨List.mem_append_left _ (List.mem_of_getElem? (i := 2) (by decide +kernel)), rfl⟩
theorem se_X6_X6_examineNewPath : zWd (.selects RX6 yX6_examineNewPath yX6_examineNewPath) := ⟨List.mem_append_left _ (List.mem_of_getElem? (i := 3) (by decide +kernel)), rfl⟩
theorem se_X6_X6_reject : zWd (.selects RX6 yX6_reject yX6_reject) := ⟨List.mem_append_left _ (List.mem_of_getElem? (i := 4) (by decide +kernel)), rfl⟩
theorem se_X6_X6_examineOldPath : zWd (.selects RX6 yX6_examineOldPath yX6_examineOldPath) := ⟨List.mem_append_left _ (List.mem_of_getElem? (i := 5) (by decide +kernel)), rfl⟩
theorem se_X8_X8_withNeighbours : zWd (.selects RX8 yX8_withNeighbours yX8_withNeighbours) := ⟨List.mem_append_left _ (List.mem_of_getElem? (i := 6) (by decide +kernel)), rfl⟩
theorem se_X6_X6_examineShade : zWd (.selects RX6 yX6_examineShade yX6_examineShade) := ⟨List.mem_append_left _ (List.mem_of_getElem? (i := 7) (by decide +kernel)), rfl⟩
theorem se_X6_X6_examineNewChair : zWd (.selects RX6 yX6_examineNewChair yX6_examineNewChair) := ⟨List.mem_append_left _ (List.mem_of_getElem? (i := 8) (by decide +kernel)), rfl⟩
theorem se_X6_X6_examineScrapping : zWd (.selects RX6 yX6_examineScrapping yX6_examineScrapping) := ⟨List.mem_append_left _ (List.mem_of_getElem? (i := 9) (by decide +kernel)), rfl⟩
theorem se_X6_X6_examineFolding : zWd (.selects RX6 yX6_examineFolding yX6_examineFolding) := ⟨List.mem_append_left _ (List.mem_of_getElem? (i := 10) (by decide +kernel)), rfl⟩
theorem se_X6_X6_examineUnfolding : zWd (.selects RX6 yX6_examineUnfolding yX6_examineUnfolding) := ⟨List.mem_append_left _ (List.mem_of_getElem? (i := 11) (by decide +kernel)), rfl⟩
theorem se_X6_X6_examineOiling : zWd (.selects RX6 yX6_examineOiling yX6_examineOiling) := ⟨List.mem_append_left _ (List.mem_of_getElem? (i := 12) (by decide +kernel)), rfl⟩
theorem se_X6_X6_examineMove : zWd (.selects RX6 yX6_examineMove yX6_examineMove) := ⟨List.mem_append_left _ (List.mem_of_getElem? (i := 13) (by decide +kernel)), rfl⟩
theorem se_X6_X6_examineMigration : zWd (.selects RX6 yX6_examineMigration yX6_examineMigration) := ⟨List.mem_append_left _ (List.mem_of_getElem? (i := 14) (by decide +kernel)), rfl⟩
theorem se_X6_X6_examineNewOil : zWd (.selects RX6 yX6_examineNewOil yX6_examineNewOil) := ⟨List.mem_append_left _ (List.mem_of_getElem? (i := 15) (by decide +kernel)), rfl⟩
theorem se_X6_X6_examineDays : zWd (.selects RX6 yX6_examineDays yX6_examineDays) := ⟨List.mem_append_left _ (List.mem_of_getElem? (i := 16) (by decide +kernel)), rfl⟩
theorem se_X9_X9_rememberRejection : zWd (.selects RX9 yX9_rememberRejection yX9_rememberRejection) := ⟨List.mem_append_left _ (List.mem_of_getElem? (i := 17) (by decide +kernel)), rfl⟩
theorem se_X4_X4_dropOldest : zWd (.selects RX4 yX4_dropOldest yX4_dropOldest) := ⟨List.mem_append_left _ (List.mem_of_getElem? (i := 18) (by decide +kernel)), rfl⟩
theorem se_X3_X3_changeShade : zWd (.selects RX3 yX3_changeShade yX3_changeShade) := ⟨List.mem_append_left _ (List.mem_of_getElem? (i := 19) (by decide +kernel)), rfl⟩
theorem se_X3_X3_settle : zWd (.selects RX3 yX3_settle yX3_settle) := ⟨List.mem_append_left _ (List.mem_of_getElem? (i := 20) (by decide +kernel)), rfl⟩
theorem se_X3_X3_scrap : zWd (.selects RX3 yX3_scrap yX3_scrap) := ⟨List.mem_append_left _ (List.mem_of_getElem? (i := 21) (by decide +kernel)), rfl⟩
theorem se_X3_X3_shiftToEnd : zWd (.selects RX3 yX3_shiftToEnd yX3_shiftToEnd) := ⟨List.mem_append_left _ (List.mem_of_getElem? (i := 22) (by decide +kernel)), rfl⟩
theorem se_X3_X3_setFolded : zWd (.selects RX3 yX3_setFolded yX3_setFolded) := ⟨List.mem_append_left _ (List.mem_of_getElem? (i := 23) (by decide +kernel)), rfl⟩
theorem se_X3_X3_useOil : zWd (.selects RX3 yX3_useOil yX3_useOil) := ⟨List.mem_append_left _ (List.mem_of_getElem? (i := 24) (by decide +kernel)), rfl⟩
theorem se_X3_X3_move : zWd (.selects RX3 yX3_move yX3_move) := ⟨List.mem_append_left _ (List.mem_of_getElem? (i := 25) (by decide +kernel)), rfl⟩
theorem se_X3_X3_moveAt : zWd (.selects RX3 yX3_moveAt yX3_moveAt) := ⟨List.mem_append_left _ (List.mem_of_getElem? (i := 26) (by decide +kernel)), rfl⟩
theorem se_X3_X3_moveHerd : zWd (.selects RX3 yX3_moveHerd yX3_moveHerd) := ⟨List.mem_append_left _ (List.mem_of_getElem? (i := 27) (by decide +kernel)), rfl⟩
theorem se_X3_X3_firstGrazingOn : zWd (.selects RX3 yX3_firstGrazingOn yX3_firstGrazingOn) := ⟨List.mem_append_left _ (List.mem_of_getElem? (i := 28) (by decide +kernel)), rfl⟩
theorem se_X3_X3_graze : zWd (.selects RX3 yX3_graze yX3_graze) := ⟨List.mem_append_left _ (List.mem_of_getElem? (i := 29) (by decide +kernel)), rfl⟩
theorem se_X3_X3_collapse : zWd (.selects RX3 yX3_collapse yX3_collapse) := ⟨List.mem_append_left _ (List.mem_of_getElem? (i := 30) (by decide +kernel)), rfl⟩
theorem se_X1_X1_readCommand : zWd (.selects RX1 yX1_readCommand yX1_readCommand) := ⟨List.mem_append_left _ (List.mem_of_getElem? (i := 31) (by decide +kernel)), rfl⟩
theorem se_X1_X1_next : zWd (.selects RX1 yX1_next yX1_next) := ⟨List.mem_append_left _ (List.mem_of_getElem? (i := 32) (by decide +kernel)), rfl⟩
theorem se_X1_X1_readPart : zWd (.selects RX1 yX1_readPart yX1_readPart) := ⟨List.mem_append_left _ (List.mem_of_getElem? (i := 33) (by decide +kernel)), rfl⟩
theorem se_X1_X1_readSign : zWd (.selects RX1 yX1_readSign yX1_readSign) := ⟨List.mem_append_left _ (List.mem_of_getElem? (i := 34) (by decide +kernel)), rfl⟩
theorem se_X1_X1_readNumber : zWd (.selects RX1 yX1_readNumber yX1_readNumber) := ⟨List.mem_append_left _ (List.mem_of_getElem? (i := 35) (by decide +kernel)), rfl⟩
theorem se_X9_X9_performCommands : zWd (.selects RX9 yX9_performCommands yX9_performCommands) := ⟨List.mem_append_left _ (List.mem_of_getElem? (i := 36) (by decide +kernel)), rfl⟩
theorem se_X1_X1_isCommand : zWd (.selects RX1 yX1_isCommand yX1_isCommand) := ⟨List.mem_append_left _ (List.mem_of_getElem? (i := 37) (by decide +kernel)), rfl⟩
theorem se_X9_X9_throwForCommand : zWd (.selects RX9 yX9_throwForCommand yX9_throwForCommand) := ⟨List.mem_append_left _ (List.mem_of_getElem? (i := 38) (by decide +kernel)), rfl⟩
theorem se_X9_X9_demandRejection : zWd (.selects RX9 yX9_demandRejection yX9_demandRejection) := ⟨List.mem_append_left _ (List.mem_of_getElem? (i := 39) (by decide +kernel)), rfl⟩
theorem se_X9_X9_demandChairs : zWd (.selects RX9 yX9_demandChairs yX9_demandChairs) := ⟨List.mem_append_left _ (List.mem_of_getElem? (i := 40) (by decide +kernel)), rfl⟩
theorem se_X3_X3_isBetter : zWd (.selects RX3 yX3_isBetter yX3_isBetter) := ⟨List.mem_append_left _ (List.mem_of_getElem? (i := 41) (by decide +kernel)), rfl⟩
theorem se_X3_X3_rankOfLawn : zWd (.selects RX3 yX3_rankOfLawn yX3_rankOfLawn) := ⟨List.mem_append_left _ (List.mem_of_getElem? (i := 42) (by decide +kernel)), rfl⟩
theorem se_X3_X3_rankOf : zWd (.selects RX3 yX3_rankOf yX3_rankOf) := ⟨List.mem_append_left _ (List.mem_of_getElem? (i := 43) (by decide +kernel)), rfl⟩
theorem se_X9_X9_demandChair : zWd (.selects RX9 yX9_demandChair yX9_demandChair) := ⟨List.mem_append_left _ (List.mem_of_getElem? (i := 44) (by decide +kernel)), rfl⟩
theorem se_X5_X5_improve : zWd (.selects RX5 yX5_improve yX5_improve) := ⟨List.mem_append_left _ (List.mem_of_getElem? (i := 45) (by decide +kernel)), rfl⟩
theorem se_X3_X3_findInHerd : zWd (.selects RX3 yX3_findInHerd yX3_findInHerd) := ⟨List.mem_append_left _ (List.mem_of_getElem? (i := 46) (by decide +kernel)), rfl⟩
theorem zcl_J0 : zCl 0 RJ0 TJ0 4 tyJ0 := ⟨rfl, List.forall_mem_cons.mpr ⟨ly_J0_value, List.forall_mem_cons.mpr ⟨ly_J0_coder, List.forall_mem_cons.mpr ⟨ly_J0_hash, List.forall_mem_cons.mpr ⟨ly_J0_hashIsZero, fun _ h => absurd h List.not_mem_nil⟩⟩⟩⟩, tyJ0_ok, nmJ0, rfl, by decide⟩
theorem zcl_J4 : zCl 1 RJ4 TJ4 4 tyJ4 := ⟨rfl, List.forall_mem_cons.mpr ⟨ly_J4_value, List.forall_mem_cons.mpr ⟨ly_J4_coder, List.forall_mem_cons.mpr ⟨ly_J4_maybeLatin1, List.forall_mem_cons.mpr ⟨ly_J4_count, fun _ h => absurd h List.not_mem_nil⟩⟩⟩⟩, tyJ4_ok, nmJ4, rfl, by decide⟩
theorem zcl_Jx00060 : zCl 2 RJx00060 TJx00060 6 tyJx00060 := ⟨rfl, List.forall_mem_cons.mpr ⟨ly_Jx00060_backtrace, List.forall_mem_cons.mpr ⟨ly_Jx00060_detailMessage, List.forall_mem_cons.mpr ⟨ly_Jx00060_cause, List.forall_mem_cons.mpr ⟨ly_Jx00060_stackTrace, List.forall_mem_cons.mpr ⟨ly_Jx00060_depth, List.forall_mem_cons.mpr ⟨ly_Jx00060_suppressedExceptions, fun _ h => absurd h List.not_mem_nil⟩⟩⟩⟩⟩⟩, tyJx00060_ok, nmJx00060, rfl, by decide⟩
theorem zcl_Jx7c733 : zCl 3 RJx7c733 TJx7c733 6 tyJx7c733 := ⟨rfl, List.forall_mem_cons.mpr ⟨ly_Jx7c733_backtrace, List.forall_mem_cons.mpr ⟨ly_Jx7c733_detailMessage, List.forall_mem_cons.mpr ⟨ly_Jx7c733_cause, List.forall_mem_cons.mpr ⟨ly_Jx7c733_stackTrace, List.forall_mem_cons.mpr ⟨ly_Jx7c733_depth, List.forall_mem_cons.mpr ⟨ly_Jx7c733_suppressedExceptions, fun _ h => absurd h List.not_mem_nil⟩⟩⟩⟩⟩⟩, tyJx7c733_ok, nmJx7c733, rfl, by decide⟩
theorem zcl_X0 : zCl 4 RX0 TX0 5 tyX0 := ⟨rfl, List.forall_mem_cons.mpr ⟨ly_X0_id, List.forall_mem_cons.mpr ⟨ly_X0_lawn, List.forall_mem_cons.mpr ⟨ly_X0_rust, List.forall_mem_cons.mpr ⟨ly_X0_dayAdded, List.forall_mem_cons.mpr ⟨ly_X0_folded, fun _ h => absurd h List.not_mem_nil⟩⟩⟩⟩⟩, tyX0_ok, nmX0, rfl, by decide⟩
theorem zcl_X1 : zCl 5 RX1 TX1 7 tyX1 := ⟨rfl, List.forall_mem_cons.mpr ⟨ly_X1_text, List.forall_mem_cons.mpr ⟨ly_X1_deeds, List.forall_mem_cons.mpr ⟨ly_X1_firsts, List.forall_mem_cons.mpr ⟨ly_X1_seconds, List.forall_mem_cons.mpr ⟨ly_X1_length, List.forall_mem_cons.mpr ⟨ly_X1_position, List.forall_mem_cons.mpr ⟨ly_X1_count, fun _ h => absurd h List.not_mem_nil⟩⟩⟩⟩⟩⟩⟩, tyX1_ok, nmX1, rfl, by decide⟩
theorem zcl_X3 : zCl 6 RX3 TX3 12 tyX3 := ⟨rfl, List.forall_mem_cons.mpr ⟨ly_X3_paths, List.forall_mem_cons.mpr ⟨ly_X3_shades, List.forall_mem_cons.mpr ⟨ly_X3_herdSizes, List.forall_mem_cons.mpr ⟨ly_X3_chairs, List.forall_mem_cons.mpr ⟨ly_X3_chairCount, List.forall_mem_cons.mpr ⟨ly_X3_nextId, List.forall_mem_cons.mpr ⟨ly_X3_day, List.forall_mem_cons.mpr ⟨ly_X3_oil, List.forall_mem_cons.mpr ⟨ly_X3_collapsed, List.forall_mem_cons.mpr ⟨ly_X3_scrapped, List.forall_mem_cons.mpr ⟨ly_X3_moves, List.forall_mem_cons.mpr ⟨ly_X3_grazed, fun _ h => absurd h List.not_mem_nil⟩⟩⟩⟩⟩⟩⟩⟩⟩⟩⟩⟩, tyX3_ok, nmX3, rfl, by decide⟩
theorem zcl_X4 : zCl 7 RX4 TX4 2 tyX4 := ⟨rfl, List.forall_mem_cons.mpr ⟨ly_X4_past, List.forall_mem_cons.mpr ⟨ly_X4_count, fun _ h => absurd h List.not_mem_nil⟩⟩, tyX4_ok, nmX4, rfl, by decide⟩
theorem zcl_X5 : zCl 8 RX5 TX5 1 tyX5 := ⟨rfl, List.forall_mem_cons.mpr ⟨ly_X5_bounds, fun _ h => absurd h List.not_mem_nil⟩, tyX5_ok, nmX5, rfl, by decide⟩
theorem zcl_X6 : zCl 9 RX6 TX6 3 tyX6 := ⟨rfl, List.forall_mem_cons.mpr ⟨ly_X6_verdict, List.forall_mem_cons.mpr ⟨ly_X6_reason, List.forall_mem_cons.mpr ⟨ly_X6_detail, fun _ h => absurd h List.not_mem_nil⟩⟩⟩, tyX6_ok, nmX6, rfl, by decide⟩
theorem zcl_X7 : zCl 10 RX7 TX7 1 tyX7 := ⟨rfl, List.forall_mem_cons.mpr ⟨ly_X7_numbers, fun _ h => absurd h List.not_mem_nil⟩, tyX7_ok, nmX7, rfl, by decide⟩
theorem zcl_X8 : zCl 11 RX8 TX8 2 tyX8 := ⟨rfl, List.forall_mem_cons.mpr ⟨ly_X8_neighbours, List.forall_mem_cons.mpr ⟨ly_X8_count, fun _ h => absurd h List.not_mem_nil⟩⟩, tyX8_ok, nmX8, rfl, by decide⟩
theorem zcl_X9 : zCl 12 RX9 TX9 14 tyX9 := ⟨rfl, List.forall_mem_cons.mpr ⟨ly_X9_garden, List.forall_mem_cons.mpr ⟨ly_X9_forecast, List.forall_mem_cons.mpr ⟨ly_X9_beforeCommands, List.forall_mem_cons.mpr ⟨ly_X9_snapshot, List.forall_mem_cons.mpr ⟨ly_X9_history, List.forall_mem_cons.mpr ⟨ly_X9_improvement, List.forall_mem_cons.mpr ⟨ly_X9_judge, List.forall_mem_cons.mpr ⟨ly_X9_input, List.forall_mem_cons.mpr ⟨ly_X9_output, List.forall_mem_cons.mpr ⟨ly_X9_snapshotSaved, List.forall_mem_cons.mpr ⟨ly_X9_syntaxOffset, List.forall_mem_cons.mpr ⟨ly_X9_latestReason, List.forall_mem_cons.mpr ⟨ly_X9_latestDetail, List.forall_mem_cons.mpr ⟨ly_X9_latestCause, fun _ h => absurd h List.not_mem_nil⟩⟩⟩⟩⟩⟩⟩⟩⟩⟩⟩⟩⟩⟩, tyX9_ok, nmX9, rfl, by decide⟩
