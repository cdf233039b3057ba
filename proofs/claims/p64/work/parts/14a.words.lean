theorem pm_1 : ∀ w ∈ tables_1_1, w ∈ lw_tbl := fun w h => List.mem_append_right _ (List.mem_append_left _ h)
theorem pm_2 : ∀ w ∈ tables_1_2, w ∈ lw_tbl := fun w h => List.mem_append_right _ (List.mem_append_right _ (List.mem_append_left _ h))
theorem pm_3 : ∀ w ∈ tables_1_3, w ∈ lw_tbl := fun w h => List.mem_append_right _ (List.mem_append_right _ (List.mem_append_right _ (List.mem_append_left _ h)))
theorem pm_4 : ∀ w ∈ tables_1_4, w ∈ lw_tbl := fun w h => List.mem_append_right _ (List.mem_append_right _ (List.mem_append_right _ (List.mem_append_right _ (List.mem_append_left _ h))))
theorem pm_5 : ∀ w ∈ tables_1_5, w ∈ lw_tbl := fun w h => List.mem_append_right _ (List.mem_append_right _ (List.mem_append_right _ (List.mem_append_right _ (List.mem_append_right _ (List.mem_append_left _ h)))))
theorem pm_6 : ∀ w ∈ tables_1_6, w ∈ lw_tbl := fun w h => List.mem_append_right _ (List.mem_append_right _ (List.mem_append_right _ (List.mem_append_right _ (List.mem_append_right _ (List.mem_append_right _ (List.mem_append_left _ h))))))
theorem pm_7 : ∀ w ∈ tables_1_7, w ∈ lw_tbl := fun w h => List.mem_append_right _ (List.mem_append_right _ (List.mem_append_right _ (List.mem_append_right _ (List.mem_append_right _ (List.mem_append_right _ (List.mem_append_right _ (List.mem_append_left _ h)))))))
theorem pm_8 : ∀ w ∈ tables_1_8, w ∈ lw_tbl := fun w h => List.mem_append_right _ (List.mem_append_right _ (List.mem_append_right _ (List.mem_append_right _ (List.mem_append_right _ (List.mem_append_right _ (List.mem_append_right _ (List.mem_append_right _ (h))))))))
theorem in_L : zWd (.initialized RL) := ⟨pm_1 _ (List.mem_of_getElem? (i := 0) (by decide +kernel)), rfl⟩
theorem in_X9 : zWd (.initialized RX9) := ⟨pm_1 _ (List.mem_of_getElem? (i := 1) (by decide +kernel)), rfl⟩
theorem in_X3 : zWd (.initialized RX3) := ⟨pm_1 _ (List.mem_of_getElem? (i := 2) (by decide +kernel)), rfl⟩
theorem in_X8 : zWd (.initialized RX8) := ⟨pm_1 _ (List.mem_of_getElem? (i := 3) (by decide +kernel)), rfl⟩
theorem in_X7 : zWd (.initialized RX7) := ⟨pm_1 _ (List.mem_of_getElem? (i := 4) (by decide +kernel)), rfl⟩
theorem in_X0 : zWd (.initialized RX0) := ⟨pm_1 _ (List.mem_of_getElem? (i := 5) (by decide +kernel)), rfl⟩
theorem in_X4 : zWd (.initialized RX4) := ⟨pm_1 _ (List.mem_of_getElem? (i := 6) (by decide +kernel)), rfl⟩
theorem in_X5 : zWd (.initialized RX5) := ⟨pm_1 _ (List.mem_of_getElem? (i := 7) (by decide +kernel)), rfl⟩
theorem in_X6 : zWd (.initialized RX6) := ⟨pm_1 _ (List.mem_of_getElem? (i := 8) (by decide +kernel)), rfl⟩
theorem in_X1 : zWd (.initialized RX1) := ⟨pm_1 _ (List.mem_of_getElem? (i := 9) (by decide +kernel)), rfl⟩
theorem in_J5 : zWd (.initialized RJ5) := ⟨pm_1 _ (List.mem_of_getElem? (i := 10) (by decide +kernel)), rfl⟩
theorem in_J4 : zWd (.initialized RJ4) := ⟨pm_1 _ (List.mem_of_getElem? (i := 11) (by decide +kernel)), rfl⟩
theorem in_J0 : zWd (.initialized RJ0) := ⟨pm_1 _ (List.mem_of_getElem? (i := 12) (by decide +kernel)), rfl⟩
theorem in_J2 : zWd (.initialized RJ2) := ⟨pm_1 _ (List.mem_of_getElem? (i := 13) (by decide +kernel)), rfl⟩
theorem in_java_lang_Throwable : zWd (.initialized "java/lang/Throwable") := ⟨pm_1 _ (List.mem_of_getElem? (i := 14) (by decide +kernel)), rfl⟩
theorem in_java_lang_Exception : zWd (.initialized "java/lang/Exception") := ⟨pm_1 _ (List.mem_of_getElem? (i := 15) (by decide +kernel)), rfl⟩
theorem in_java_lang_RuntimeException : zWd (.initialized "java/lang/RuntimeException") := ⟨pm_1 _ (List.mem_of_getElem? (i := 16) (by decide +kernel)), rfl⟩
theorem in_java_lang_IllegalStateException : zWd (.initialized "java/lang/IllegalStateException") := ⟨pm_1 _ (List.mem_of_getElem? (i := 17) (by decide +kernel)), rfl⟩
theorem in_J10 : zWd (.initialized RJ10) := ⟨pm_1 _ (List.mem_of_getElem? (i := 18) (by decide +kernel)), rfl⟩
theorem in_java_lang_IndexOutOfBoundsException : zWd (.initialized "java/lang/IndexOutOfBoundsException") := ⟨pm_1 _ (List.mem_of_getElem? (i := 19) (by decide +kernel)), rfl⟩
theorem in_java_lang_IllegalArgumentException : zWd (.initialized "java/lang/IllegalArgumentException") := ⟨pm_1 _ (List.mem_of_getElem? (i := 20) (by decide +kernel)), rfl⟩
theorem in_java_lang_UnsupportedOperationException : zWd (.initialized "java/lang/UnsupportedOperationException") := ⟨pm_1 _ (List.mem_of_getElem? (i := 21) (by decide +kernel)), rfl⟩
theorem in_J9 : zWd (.initialized RJ9) := ⟨pm_1 _ (List.mem_of_getElem? (i := 22) (by decide +kernel)), rfl⟩
theorem in_J1 : zWd (.initialized RJ1) := ⟨pm_1 _ (List.mem_of_getElem? (i := 23) (by decide +kernel)), rfl⟩
theorem in_J3 : zWd (.initialized RJ3) := ⟨pm_1 _ (List.mem_of_getElem? (i := 24) (by decide +kernel)), rfl⟩
theorem in_java_util_NoSuchElementException : zWd (.initialized "java/util/NoSuchElementException") := ⟨pm_1 _ (List.mem_of_getElem? (i := 25) (by decide +kernel)), rfl⟩
theorem in_Jx00060 : zWd (.initialized RJx00060) := ⟨pm_1 _ (List.mem_of_getElem? (i := 26) (by decide +kernel)), rfl⟩
theorem in_java_lang_ArithmeticException : zWd (.initialized "java/lang/ArithmeticException") := ⟨pm_1 _ (List.mem_of_getElem? (i := 27) (by decide +kernel)), rfl⟩
theorem in_Jxd2413 : zWd (.initialized RJxd2413) := ⟨pm_1 _ (List.mem_of_getElem? (i := 28) (by decide +kernel)), rfl⟩
theorem in_Jxe99ae : zWd (.initialized RJxe99ae) := ⟨pm_1 _ (List.mem_of_getElem? (i := 29) (by decide +kernel)), rfl⟩
theorem in_Jxf58ca : zWd (.initialized RJxf58ca) := ⟨pm_1 _ (List.mem_of_getElem? (i := 30) (by decide +kernel)), rfl⟩
theorem in_Jx7c733 : zWd (.initialized RJx7c733) := ⟨pm_1 _ (List.mem_of_getElem? (i := 31) (by decide +kernel)), rfl⟩
theorem in_J8 : zWd (.initialized RJ8) := ⟨pm_1 _ (List.mem_of_getElem? (i := 32) (by decide +kernel)), rfl⟩
theorem in_J7 : zWd (.initialized RJ7) := ⟨pm_1 _ (List.mem_of_getElem? (i := 33) (by decide +kernel)), rfl⟩
theorem in_J6 : zWd (.initialized RJ6) := ⟨pm_1 _ (List.mem_of_getElem? (i := 34) (by decide +kernel)), rfl⟩
theorem lk_L_8 : zWd (.classLink RL 8 "ChairMigration") := ⟨pm_1 _ (List.mem_of_getElem? (i := 35) (by decide +kernel)), rfl⟩
theorem it_X9 : zWd (.instantiable RX9 14) := ⟨pm_1 _ (List.mem_of_getElem? (i := 36) (by decide +kernel)), rfl⟩
theorem lk_L_386 : zWd (.methodLink RL 386 yX9_init) := ⟨pm_1 _ (List.mem_of_getElem? (i := 37) (by decide +kernel)), rfl⟩
theorem im_X9_init : zWd (.instanceMethod yX9_init) := ⟨pm_1 _ (List.mem_of_getElem? (i := 38) (by decide +kernel)), rfl⟩
theorem cd_X9_init : zWd (.code yX9_init cX9_init 1 none) := ⟨pm_1 _ (List.mem_of_getElem? (i := 39) (by decide +kernel)), rfl⟩
theorem lk_X9_1 : zWd (.methodLink RX9 1 Lib.objectInit) := ⟨pm_1 _ (List.mem_of_getElem? (i := 40) (by decide +kernel)), rfl⟩
theorem im_Oinit : zWd (.instanceMethod Lib.objectInit) := ⟨pm_1 _ (List.mem_of_getElem? (i := 41) (by decide +kernel)), rfl⟩
theorem cd_Oinit : zWd (.code Lib.objectInit ⟨#[0xb1]⟩ 1 none) := ⟨pm_1 _ (List.mem_of_getElem? (i := 42) (by decide +kernel)), rfl⟩
theorem lk_X9_7 : zWd (.classLink RX9 7 "ChairMigration$Garden") := ⟨pm_1 _ (List.mem_of_getElem? (i := 43) (by decide +kernel)), rfl⟩
theorem it_X3 : zWd (.instantiable RX3 12) := ⟨pm_1 _ (List.mem_of_getElem? (i := 44) (by decide +kernel)), rfl⟩
theorem lk_X9_9 : zWd (.methodLink RX9 9 yX3_init) := ⟨pm_1 _ (List.mem_of_getElem? (i := 45) (by decide +kernel)), rfl⟩
theorem im_X3_init : zWd (.instanceMethod yX3_init) := ⟨pm_1 _ (List.mem_of_getElem? (i := 46) (by decide +kernel)), rfl⟩
theorem cd_X3_init : zWd (.code yX3_init cX3_init 2 none) := ⟨pm_1 _ (List.mem_of_getElem? (i := 47) (by decide +kernel)), rfl⟩
theorem lk_X3_3 : zWd (.methodLink RX3 3 Lib.objectInit) := ⟨pm_1 _ (List.mem_of_getElem? (i := 48) (by decide +kernel)), rfl⟩
theorem lk_X3_9 : zWd (.classLink RX3 9 "ChairMigration$Paths") := ⟨pm_1 _ (List.mem_of_getElem? (i := 49) (by decide +kernel)), rfl⟩
theorem it_X8 : zWd (.instantiable RX8 2) := ⟨pm_1 _ (List.mem_of_getElem? (i := 50) (by decide +kernel)), rfl⟩
theorem lk_X3_11 : (.methodLinkNest RX3 11 yX8_init "ChairMigration" : Cond) ∈ lw_tbl := pm_1 _ (List.mem_of_getElem? (i := 51) (by decide +kernel))
theorem im_X8_init : zWd (.instanceMethod yX8_init) := ⟨pm_1 _ (List.mem_of_getElem? (i := 52) (by decide +kernel)), rfl⟩
theorem cd_X8_init : zWd (.code yX8_init cX8_init 1 none) := ⟨pm_1 _ (List.mem_of_getElem? (i := 53) (by decide +kernel)), rfl⟩
theorem lk_X8_3 : zWd (.methodLink RX8 3 Lib.objectInit) := ⟨pm_1 _ (List.mem_of_getElem? (i := 54) (by decide +kernel)), rfl⟩
theorem lk_X8_9 : zWd (.classLink RX8 9 "ChairMigration$LawnRow") := ⟨pm_1 _ (List.mem_of_getElem? (i := 55) (by decide +kernel)), rfl⟩
theorem it_X7 : zWd (.instantiable RX7 1) := ⟨pm_1 _ (List.mem_of_getElem? (i := 56) (by decide +kernel)), rfl⟩
theorem lk_X8_11 : (.methodLinkNest RX8 11 yX7_init "ChairMigration" : Cond) ∈ lw_tbl := pm_1 _ (List.mem_of_getElem? (i := 57) (by decide +kernel))
theorem im_X7_init : zWd (.instanceMethod yX7_init) := ⟨pm_1 _ (List.mem_of_getElem? (i := 58) (by decide +kernel)), rfl⟩
theorem cd_X7_init : zWd (.code yX7_init cX7_init 1 none) := ⟨pm_1 _ (List.mem_of_getElem? (i := 59) (by decide +kernel)), rfl⟩
theorem lk_X7_3 : zWd (.methodLink RX7 3 Lib.objectInit) := ⟨pm_1 _ (List.mem_of_getElem? (i := 60) (by decide +kernel)), rfl⟩
theorem lk_X7_9 : zWd (.fieldLink RX7 9 "ChairMigration$LawnRow" "numbers" "[I") := ⟨pm_1 _ (List.mem_of_getElem? (i := 61) (by decide +kernel)), rfl⟩
theorem ly_X7_numbers : zWd (.laysFinal RX7 "ChairMigration$LawnRow" "numbers" "[I") := ⟨pm_1 _ (List.mem_of_getElem? (i := 62) (by decide +kernel)), rfl⟩
theorem su_X7_java_lang_Object : zWd (.superclass RX7 "java/lang/Object") := ⟨pm_1 _ (List.mem_of_getElem? (i := 64) (by decide +kernel)), rfl⟩
theorem ac_int : zWd (.arrayClass .int) := ⟨pm_1 _ (List.mem_of_getElem? (i := 65) (by decide +kernel)), rfl⟩
theorem lk_X8_12 : zWd (.fieldLink RX8 12 "ChairMigration$Paths" "neighbours" "LChairMigration$LawnRow;") := ⟨pm_1 _ (List.mem_of_getElem? (i := 66) (by decide +kernel)), rfl⟩
theorem lk_X8_22 : zWd (.fieldLink RX8 22 "ChairMigration$Paths" "count" "I") := ⟨pm_1 _ (List.mem_of_getElem? (i := 67) (by decide +kernel)), rfl⟩
theorem lk_X6_87 : (.fieldLinkNest RX6 87 "ChairMigration$Paths" "count" "I" "ChairMigration" : Cond) ∈ lw_tbl := pm_1 _ (List.mem_of_getElem? (i := 68) (by decide +kernel))
theorem lk_X9_112 : (.fieldLinkNest RX9 112 "ChairMigration$Paths" "count" "I" "ChairMigration" : Cond) ∈ lw_tbl := pm_1 _ (List.mem_of_getElem? (i := 69) (by decide +kernel))
theorem ly_X8_neighbours : zWd (.laysFinal RX8 "ChairMigration$Paths" "neighbours" "LChairMigration$LawnRow;") := ⟨pm_1 _ (List.mem_of_getElem? (i := 70) (by decide +kernel)), rfl⟩
theorem ly_X8_count : zWd (.lays RX8 "ChairMigration$Paths" "count" "I") := ⟨pm_1 _ (List.mem_of_getElem? (i := 72) (by decide +kernel)), rfl⟩
theorem su_X8_java_lang_Object : zWd (.superclass RX8 "java/lang/Object") := ⟨pm_1 _ (List.mem_of_getElem? (i := 74) (by decide +kernel)), rfl⟩
theorem lk_X3_18 : zWd (.classLink RX3 18 "ChairMigration$LawnRow") := ⟨pm_1 _ (List.mem_of_getElem? (i := 75) (by decide +kernel)), rfl⟩
theorem lk_X3_20 : (.methodLinkNest RX3 20 yX7_init "ChairMigration" : Cond) ∈ lw_tbl := pm_1 _ (List.mem_of_getElem? (i := 76) (by decide +kernel))
theorem lk_X3_28 : zWd (.classLink RX3 28 "ChairMigration$Chair") := ⟨pm_1 _ (List.mem_of_getElem? (i := 77) (by decide +kernel)), rfl⟩
theorem ao_object_ChairMigration_Chair : (.arrayOver (.object "ChairMigration$Chair") : Cond) ∈ lw_tbl := pm_1 _ (List.mem_of_getElem? (i := 78) (by decide +kernel))
theorem lk_X3_38 : zWd (.methodLink RX3 38 yX7_set) := ⟨pm_1 _ (List.mem_of_getElem? (i := 79) (by decide +kernel)), rfl⟩
theorem im_X7_set : zWd (.instanceMethod yX7_set) := ⟨pm_1 _ (List.mem_of_getElem? (i := 80) (by decide +kernel)), rfl⟩
theorem se_X7_X7_set : zWd (.selects RX7 yX7_set yX7_set) := ⟨pm_1 _ (List.mem_of_getElem? (i := 81) (by decide +kernel)), rfl⟩
theorem cd_X7_set : zWd (.code yX7_set cX7_set 3 none) := ⟨pm_1 _ (List.mem_of_getElem? (i := 82) (by decide +kernel)), rfl⟩
theorem it_X0 : zWd (.instantiable RX0 5) := ⟨pm_1 _ (List.mem_of_getElem? (i := 83) (by decide +kernel)), rfl⟩
theorem lk_X3_42 : (.methodLinkNest RX3 42 yX0_init "ChairMigration" : Cond) ∈ lw_tbl := pm_1 _ (List.mem_of_getElem? (i := 84) (by decide +kernel))
theorem im_X0_init : zWd (.instanceMethod yX0_init) := ⟨pm_1 _ (List.mem_of_getElem? (i := 85) (by decide +kernel)), rfl⟩
theorem cd_X0_init : zWd (.code yX0_init cX0_init 1 none) := ⟨pm_1 _ (List.mem_of_getElem? (i := 86) (by decide +kernel)), rfl⟩
theorem lk_X0_1 : zWd (.methodLink RX0 1 Lib.objectInit) := ⟨pm_1 _ (List.mem_of_getElem? (i := 87) (by decide +kernel)), rfl⟩
theorem lk_X0_7 : zWd (.fieldLink RX0 7 "ChairMigration$Chair" "id" "I") := ⟨pm_1 _ (List.mem_of_getElem? (i := 88) (by decide +kernel)), rfl⟩
theorem lk_X3_110 : (.fieldLinkNest RX3 110 "ChairMigration$Chair" "id" "I" "ChairMigration" : Cond) ∈ lw_tbl := pm_1 _ (List.mem_of_getElem? (i := 89) (by decide +kernel))
theorem lk_X0_13 : zWd (.fieldLink RX0 13 "ChairMigration$Chair" "lawn" "I") := ⟨pm_1 _ (List.mem_of_getElem? (i := 90) (by decide +kernel)), rfl⟩
theorem lk_X3_113 : (.fieldLinkNest RX3 113 "ChairMigration$Chair" "lawn" "I" "ChairMigration" : Cond) ∈ lw_tbl := pm_1 _ (List.mem_of_getElem? (i := 91) (by decide +kernel))
theorem lk_X6_120 : (.fieldLinkNest RX6 120 "ChairMigration$Chair" "lawn" "I" "ChairMigration" : Cond) ∈ lw_tbl := pm_1 _ (List.mem_of_getElem? (i := 92) (by decide +kernel))
theorem lk_X9_131 : (.fieldLinkNest RX9 131 "ChairMigration$Chair" "lawn" "I" "ChairMigration" : Cond) ∈ lw_tbl := pm_1 _ (List.mem_of_getElem? (i := 93) (by decide +kernel))
theorem lk_X0_16 : zWd (.fieldLink RX0 16 "ChairMigration$Chair" "rust" "I") := ⟨pm_1 _ (List.mem_of_getElem? (i := 94) (by decide +kernel)), rfl⟩
theorem lk_X3_116 : (.fieldLinkNest RX3 116 "ChairMigration$Chair" "rust" "I" "ChairMigration" : Cond) ∈ lw_tbl := pm_1 _ (List.mem_of_getElem? (i := 95) (by decide +kernel))
theorem lk_X6_114 : (.fieldLinkNest RX6 114 "ChairMigration$Chair" "rust" "I" "ChairMigration" : Cond) ∈ lw_tbl := pm_1 _ (List.mem_of_getElem? (i := 96) (by decide +kernel))
theorem lk_X9_136 : (.fieldLinkNest RX9 136 "ChairMigration$Chair" "rust" "I" "ChairMigration" : Cond) ∈ lw_tbl := pm_1 _ (List.mem_of_getElem? (i := 97) (by decide +kernel))
theorem lk_X0_19 : zWd (.fieldLink RX0 19 "ChairMigration$Chair" "dayAdded" "I") := ⟨pm_1 _ (List.mem_of_getElem? (i := 98) (by decide +kernel)), rfl⟩
theorem lk_X3_119 : (.fieldLinkNest RX3 119 "ChairMigration$Chair" "dayAdded" "I" "ChairMigration" : Cond) ∈ lw_tbl := pm_1 _ (List.mem_of_getElem? (i := 99) (by decide +kernel))
theorem lk_X9_146 : (.fieldLinkNest RX9 146 "ChairMigration$Chair" "dayAdded" "I" "ChairMigration" : Cond) ∈ lw_tbl := pm_1 _ (List.mem_of_getElem? (i := 100) (by decide +kernel))
theorem lk_X0_22 : zWd (.fieldLink RX0 22 "ChairMigration$Chair" "folded" "Z") := ⟨pm_1 _ (List.mem_of_getElem? (i := 101) (by decide +kernel)), rfl⟩
theorem lk_X3_122 : (.fieldLinkNest RX3 122 "ChairMigration$Chair" "folded" "Z" "ChairMigration" : Cond) ∈ lw_tbl := pm_1 _ (List.mem_of_getElem? (i := 102) (by decide +kernel))
theorem lk_X6_108 : (.fieldLinkNest RX6 108 "ChairMigration$Chair" "folded" "Z" "ChairMigration" : Cond) ∈ lw_tbl := pm_1 _ (List.mem_of_getElem? (i := 103) (by decide +kernel))
theorem lk_X9_139 : (.fieldLinkNest RX9 139 "ChairMigration$Chair" "folded" "Z" "ChairMigration" : Cond) ∈ lw_tbl := pm_1 _ (List.mem_of_getElem? (i := 104) (by decide +kernel))
theorem ly_X0_id : zWd (.lays RX0 "ChairMigration$Chair" "id" "I") := ⟨pm_1 _ (List.mem_of_getElem? (i := 105) (by decide +kernel)), rfl⟩
theorem ly_X0_lawn : zWd (.lays RX0 "ChairMigration$Chair" "lawn" "I") := ⟨pm_1 _ (List.mem_of_getElem? (i := 107) (by decide +kernel)), rfl⟩
theorem ly_X0_rust : zWd (.lays RX0 "ChairMigration$Chair" "rust" "I") := ⟨pm_1 _ (List.mem_of_getElem? (i := 109) (by decide +kernel)), rfl⟩
theorem ly_X0_dayAdded : zWd (.lays RX0 "ChairMigration$Chair" "dayAdded" "I") := ⟨pm_1 _ (List.mem_of_getElem? (i := 111) (by decide +kernel)), rfl⟩
theorem ly_X0_folded : zWd (.lays RX0 "ChairMigration$Chair" "folded" "Z") := ⟨pm_1 _ (List.mem_of_getElem? (i := 113) (by decide +kernel)), rfl⟩
theorem su_X0_java_lang_Object : zWd (.superclass RX0 "java/lang/Object") := ⟨pm_1 _ (List.mem_of_getElem? (i := 115) (by decide +kernel)), rfl⟩
theorem lk_X3_12 : zWd (.fieldLink RX3 12 "ChairMigration$Garden" "paths" "LChairMigration$Paths;") := ⟨pm_1 _ (List.mem_of_getElem? (i := 116) (by decide +kernel)), rfl⟩
theorem lk_X9_74 : (.fieldLinkNest RX9 74 "ChairMigration$Garden" "paths" "LChairMigration$Paths;" "ChairMigration" : Cond) ∈ lw_tbl := pm_1 _ (List.mem_of_getElem? (i := 117) (by decide +kernel))
theorem lk_X6_77 : (.fieldLinkNest RX6 77 "ChairMigration$Garden" "paths" "LChairMigration$Paths;" "ChairMigration" : Cond) ∈ lw_tbl := pm_1 _ (List.mem_of_getElem? (i := 118) (by decide +kernel))
theorem lk_X3_21 : zWd (.fieldLink RX3 21 "ChairMigration$Garden" "shades" "LChairMigration$LawnRow;") := ⟨pm_1 _ (List.mem_of_getElem? (i := 119) (by decide +kernel)), rfl⟩
theorem lk_X9_115 : (.fieldLinkNest RX9 115 "ChairMigration$Garden" "shades" "LChairMigration$LawnRow;" "ChairMigration" : Cond) ∈ lw_tbl := pm_1 _ (List.mem_of_getElem? (i := 120) (by decide +kernel))
theorem lk_X3_25 : zWd (.fieldLink RX3 25 "ChairMigration$Garden" "herdSizes" "LChairMigration$LawnRow;") := ⟨pm_1 _ (List.mem_of_getElem? (i := 121) (by decide +kernel)), rfl⟩
theorem lk_X6_61 : (.fieldLinkNest RX6 61 "ChairMigration$Garden" "herdSizes" "LChairMigration$LawnRow;" "ChairMigration" : Cond) ∈ lw_tbl := pm_1 _ (List.mem_of_getElem? (i := 122) (by decide +kernel))
theorem lk_X9_153 : (.fieldLinkNest RX9 153 "ChairMigration$Garden" "herdSizes" "LChairMigration$LawnRow;" "ChairMigration" : Cond) ∈ lw_tbl := pm_1 _ (List.mem_of_getElem? (i := 123) (by decide +kernel))
theorem lk_X3_30 : zWd (.fieldLink RX3 30 "ChairMigration$Garden" "chairs" "[LChairMigration$Chair;") := ⟨pm_1 _ (List.mem_of_getElem? (i := 124) (by decide +kernel)), rfl⟩
theorem lk_X3_50 : zWd (.fieldLink RX3 50 "ChairMigration$Garden" "chairCount" "I") := ⟨pm_1 _ (List.mem_of_getElem? (i := 125) (by decide +kernel)), rfl⟩
theorem lk_X6_97 : (.fieldLinkNest RX6 97 "ChairMigration$Garden" "chairCount" "I" "ChairMigration" : Cond) ∈ lw_tbl := pm_1 _ (List.mem_of_getElem? (i := 126) (by decide +kernel))
theorem lk_X9_203 : (.fieldLinkNest RX9 203 "ChairMigration$Garden" "chairCount" "I" "ChairMigration" : Cond) ∈ lw_tbl := pm_1 _ (List.mem_of_getElem? (i := 127) (by decide +kernel))
theorem lk_X3_56 : zWd (.fieldLink RX3 56 "ChairMigration$Garden" "nextId" "I") := ⟨pm_1 _ (List.mem_of_getElem? (i := 128) (by decide +kernel)), rfl⟩
theorem lk_X3_59 : zWd (.fieldLink RX3 59 "ChairMigration$Garden" "day" "I") := ⟨pm_1 _ (List.mem_of_getElem? (i := 129) (by decide +kernel)), rfl⟩
theorem lk_X9_143 : (.fieldLinkNest RX9 143 "ChairMigration$Garden" "day" "I" "ChairMigration" : Cond) ∈ lw_tbl := pm_1 _ (List.mem_of_getElem? (i := 130) (by decide +kernel))
theorem lk_X3_34 : zWd (.fieldLink RX3 34 "ChairMigration$Garden" "oil" "I") := ⟨pm_1 _ (List.mem_of_getElem? (i := 131) (by decide +kernel)), rfl⟩
theorem lk_X6_117 : (.fieldLinkNest RX6 117 "ChairMigration$Garden" "oil" "I" "ChairMigration" : Cond) ∈ lw_tbl := pm_1 _ (List.mem_of_getElem? (i := 132) (by decide +kernel))
theorem lk_X9_209 : (.fieldLinkNest RX9 209 "ChairMigration$Garden" "oil" "I" "ChairMigration" : Cond) ∈ lw_tbl := pm_1 _ (List.mem_of_getElem? (i := 133) (by decide +kernel))
theorem lk_X3_62 : zWd (.fieldLink RX3 62 "ChairMigration$Garden" "collapsed" "I") := ⟨pm_1 _ (List.mem_of_getElem? (i := 134) (by decide +kernel)), rfl⟩
theorem lk_X9_218 : (.fieldLinkNest RX9 218 "ChairMigration$Garden" "collapsed" "I" "ChairMigration" : Cond) ∈ lw_tbl := pm_1 _ (List.mem_of_getElem? (i := 135) (by decide +kernel))
theorem lk_X3_65 : zWd (.fieldLink RX3 65 "ChairMigration$Garden" "scrapped" "I") := ⟨pm_1 _ (List.mem_of_getElem? (i := 136) (by decide +kernel)), rfl⟩
theorem lk_X9_221 : (.fieldLinkNest RX9 221 "ChairMigration$Garden" "scrapped" "I" "ChairMigration" : Cond) ∈ lw_tbl := pm_1 _ (List.mem_of_getElem? (i := 137) (by decide +kernel))
theorem lk_X3_68 : zWd (.fieldLink RX3 68 "ChairMigration$Garden" "moves" "I") := ⟨pm_1 _ (List.mem_of_getElem? (i := 138) (by decide +kernel)), rfl⟩
theorem lk_X9_224 : (.fieldLinkNest RX9 224 "ChairMigration$Garden" "moves" "I" "ChairMigration" : Cond) ∈ lw_tbl := pm_1 _ (List.mem_of_getElem? (i := 139) (by decide +kernel))
theorem lk_X3_71 : zWd (.fieldLink RX3 71 "ChairMigration$Garden" "grazed" "I") := ⟨pm_1 _ (List.mem_of_getElem? (i := 140) (by decide +kernel)), rfl⟩
theorem lk_X9_227 : (.fieldLinkNest RX9 227 "ChairMigration$Garden" "grazed" "I" "ChairMigration" : Cond) ∈ lw_tbl := pm_1 _ (List.mem_of_getElem? (i := 141) (by decide +kernel))
theorem ly_X3_paths : zWd (.laysFinal RX3 "ChairMigration$Garden" "paths" "LChairMigration$Paths;") := ⟨pm_1 _ (List.mem_of_getElem? (i := 142) (by decide +kernel)), rfl⟩
theorem ly_X3_shades : zWd (.laysFinal RX3 "ChairMigration$Garden" "shades" "LChairMigration$LawnRow;") := ⟨pm_1 _ (List.mem_of_getElem? (i := 144) (by decide +kernel)), rfl⟩
theorem ly_X3_herdSizes : zWd (.laysFinal RX3 "ChairMigration$Garden" "herdSizes" "LChairMigration$LawnRow;") := ⟨pm_1 _ (List.mem_of_getElem? (i := 146) (by decide +kernel)), rfl⟩
theorem ly_X3_chairs : zWd (.laysFinal RX3 "ChairMigration$Garden" "chairs" "[LChairMigration$Chair;") := ⟨pm_1 _ (List.mem_of_getElem? (i := 148) (by decide +kernel)), rfl⟩
theorem ly_X3_chairCount : zWd (.lays RX3 "ChairMigration$Garden" "chairCount" "I") := ⟨pm_1 _ (List.mem_of_getElem? (i := 150) (by decide +kernel)), rfl⟩
theorem ly_X3_nextId : zWd (.lays RX3 "ChairMigration$Garden" "nextId" "I") := ⟨pm_1 _ (List.mem_of_getElem? (i := 152) (by decide +kernel)), rfl⟩
theorem ly_X3_day : zWd (.lays RX3 "ChairMigration$Garden" "day" "I") := ⟨pm_1 _ (List.mem_of_getElem? (i := 154) (by decide +kernel)), rfl⟩
theorem ly_X3_oil : zWd (.lays RX3 "ChairMigration$Garden" "oil" "I") := ⟨pm_1 _ (List.mem_of_getElem? (i := 156) (by decide +kernel)), rfl⟩
theorem ly_X3_collapsed : zWd (.lays RX3 "ChairMigration$Garden" "collapsed" "I") := ⟨pm_1 _ (List.mem_of_getElem? (i := 158) (by decide +kernel)), rfl⟩
theorem ly_X3_scrapped : zWd (.lays RX3 "ChairMigration$Garden" "scrapped" "I") := ⟨pm_1 _ (List.mem_of_getElem? (i := 160) (by decide +kernel)), rfl⟩
theorem ly_X3_moves : zWd (.lays RX3 "ChairMigration$Garden" "moves" "I") := ⟨pm_1 _ (List.mem_of_getElem? (i := 162) (by decide +kernel)), rfl⟩
theorem ly_X3_grazed : zWd (.lays RX3 "ChairMigration$Garden" "grazed" "I") := ⟨pm_1 _ (List.mem_of_getElem? (i := 164) (by decide +kernel)), rfl⟩
theorem su_X3_java_lang_Object : zWd (.superclass RX3 "java/lang/Object") := ⟨pm_1 _ (List.mem_of_getElem? (i := 166) (by decide +kernel)), rfl⟩
theorem lk_X9_25 : zWd (.classLink RX9 25 "ChairMigration$History") := ⟨pm_1 _ (List.mem_of_getElem? (i := 167) (by decide +kernel)), rfl⟩
theorem it_X4 : zWd (.instantiable RX4 2) := ⟨pm_1 _ (List.mem_of_getElem? (i := 168) (by decide +kernel)), rfl⟩
theorem lk_X9_27 : zWd (.methodLink RX9 27 yX4_init) := ⟨pm_1 _ (List.mem_of_getElem? (i := 169) (by decide +kernel)), rfl⟩
theorem im_X4_init : zWd (.instanceMethod yX4_init) := ⟨pm_1 _ (List.mem_of_getElem? (i := 170) (by decide +kernel)), rfl⟩
theorem cd_X4_init : zWd (.code yX4_init cX4_init 2 none) := ⟨pm_1 _ (List.mem_of_getElem? (i := 171) (by decide +kernel)), rfl⟩
theorem lk_X4_3 : zWd (.methodLink RX4 3 Lib.objectInit) := ⟨pm_1 _ (List.mem_of_getElem? (i := 172) (by decide +kernel)), rfl⟩
theorem lk_X4_9 : zWd (.classLink RX4 9 "ChairMigration$Garden") := ⟨pm_1 _ (List.mem_of_getElem? (i := 173) (by decide +kernel)), rfl⟩
theorem ao_object_ChairMigration_Garden : (.arrayOver (.object "ChairMigration$Garden") : Cond) ∈ lw_tbl := pm_1 _ (List.mem_of_getElem? (i := 174) (by decide +kernel))
theorem lk_X4_17 : zWd (.methodLink RX4 17 yX3_init) := ⟨pm_1 _ (List.mem_of_getElem? (i := 175) (by decide +kernel)), rfl⟩
theorem lk_X4_11 : zWd (.fieldLink RX4 11 "ChairMigration$History" "past" "[LChairMigration$Garden;") := ⟨pm_1 _ (List.mem_of_getElem? (i := 176) (by decide +kernel)), rfl⟩
theorem lk_X4_18 : zWd (.fieldLink RX4 18 "ChairMigration$History" "count" "I") := ⟨pm_1 _ (List.mem_of_getElem? (i := 177) (by decide +kernel)), rfl⟩
theorem lk_X9_315 : (.fieldLinkNest RX9 315 "ChairMigration$History" "count" "I" "ChairMigration" : Cond) ∈ lw_tbl := pm_1 _ (List.mem_of_getElem? (i := 178) (by decide +kernel))
theorem ly_X4_past : zWd (.laysFinal RX4 "ChairMigration$History" "past" "[LChairMigration$Garden;") := ⟨pm_1 _ (List.mem_of_getElem? (i := 179) (by decide +kernel)), rfl⟩
theorem ly_X4_count : zWd (.lays RX4 "ChairMigration$History" "count" "I") := ⟨pm_1 _ (List.mem_of_getElem? (i := 181) (by decide +kernel)), rfl⟩
theorem su_X4_java_lang_Object : zWd (.superclass RX4 "java/lang/Object") := ⟨pm_1 _ (List.mem_of_getElem? (i := 183) (by decide +kernel)), rfl⟩
theorem lk_X9_32 : zWd (.classLink RX9 32 "ChairMigration$Improvement") := ⟨pm_1 _ (List.mem_of_getElem? (i := 184) (by decide +kernel)), rfl⟩
theorem it_X5 : zWd (.instantiable RX5 1) := ⟨pm_1 _ (List.mem_of_getElem? (i := 185) (by decide +kernel)), rfl⟩
theorem lk_X9_34 : (.methodLinkNest RX9 34 yX5_init "ChairMigration" : Cond) ∈ lw_tbl := pm_1 _ (List.mem_of_getElem? (i := 186) (by decide +kernel))
theorem im_X5_init : zWd (.instanceMethod yX5_init) := ⟨pm_1 _ (List.mem_of_getElem? (i := 187) (by decide +kernel)), rfl⟩
theorem cd_X5_init : zWd (.code yX5_init cX5_init 1 none) := ⟨pm_1 _ (List.mem_of_getElem? (i := 188) (by decide +kernel)), rfl⟩
theorem lk_X5_5 : zWd (.methodLink RX5 5 Lib.objectInit) := ⟨pm_1 _ (List.mem_of_getElem? (i := 189) (by decide +kernel)), rfl⟩
theorem lk_X5_11 : zWd (.classLink RX5 11 "[[I") := ⟨pm_1 _ (List.mem_of_getElem? (i := 190) (by decide +kernel)), rfl⟩
theorem ao_array_int : (.arrayOver (.array .int) : Cond) ∈ lw_tbl := pm_1 _ (List.mem_of_getElem? (i := 191) (by decide +kernel))
theorem lk_X5_13 : zWd (.fieldLink RX5 13 "ChairMigration$Improvement" "bounds" "[[I") := ⟨pm_1 _ (List.mem_of_getElem? (i := 192) (by decide +kernel)), rfl⟩
theorem ly_X5_bounds : zWd (.laysFinal RX5 "ChairMigration$Improvement" "bounds" "[[I") := ⟨pm_1 _ (List.mem_of_getElem? (i := 193) (by decide +kernel)), rfl⟩
theorem su_X5_java_lang_Object : zWd (.superclass RX5 "java/lang/Object") := ⟨pm_1 _ (List.mem_of_getElem? (i := 195) (by decide +kernel)), rfl⟩
theorem lk_X9_39 : zWd (.classLink RX9 39 "ChairMigration$Judge") := ⟨pm_1 _ (List.mem_of_getElem? (i := 196) (by decide +kernel)), rfl⟩
theorem it_X6 : zWd (.instantiable RX6 3) := ⟨pm_1 _ (List.mem_of_getElem? (i := 197) (by decide +kernel)), rfl⟩
theorem lk_X9_41 : (.methodLinkNest RX9 41 yX6_init "ChairMigration" : Cond) ∈ lw_tbl := pm_1 _ (List.mem_of_getElem? (i := 198) (by decide +kernel))
theorem im_X6_init : zWd (.instanceMethod yX6_init) := ⟨pm_1 _ (List.mem_of_getElem? (i := 199) (by decide +kernel)), rfl⟩
theorem cd_X6_init : zWd (.code yX6_init cX6_init 1 none) := ⟨pm_1 _ (List.mem_of_getElem? (i := 200) (by decide +kernel)), rfl⟩
theorem lk_X6_3 : zWd (.methodLink RX6 3 Lib.objectInit) := ⟨pm_1 _ (List.mem_of_getElem? (i := 201) (by decide +kernel)), rfl⟩
theorem lk_X6_11 : zWd (.fieldLink RX6 11 "ChairMigration$Judge" "verdict" "I") := ⟨pm_1 _ (List.mem_of_getElem? (i := 202) (by decide +kernel)), rfl⟩
theorem lk_X9_380 : (.fieldLinkNest RX9 380 "ChairMigration$Judge" "verdict" "I" "ChairMigration" : Cond) ∈ lw_tbl := pm_1 _ (List.mem_of_getElem? (i := 203) (by decide +kernel))
theorem lk_X6_55 : zWd (.fieldLink RX6 55 "ChairMigration$Judge" "reason" "I") := ⟨pm_1 _ (List.mem_of_getElem? (i := 204) (by decide +kernel)), rfl⟩
theorem lk_X9_353 : (.fieldLinkNest RX9 353 "ChairMigration$Judge" "reason" "I" "ChairMigration" : Cond) ∈ lw_tbl := pm_1 _ (List.mem_of_getElem? (i := 205) (by decide +kernel))
theorem lk_X6_58 : zWd (.fieldLink RX6 58 "ChairMigration$Judge" "detail" "I") := ⟨pm_1 _ (List.mem_of_getElem? (i := 206) (by decide +kernel)), rfl⟩
theorem lk_X9_356 : (.fieldLinkNest RX9 356 "ChairMigration$Judge" "detail" "I" "ChairMigration" : Cond) ∈ lw_tbl := pm_1 _ (List.mem_of_getElem? (i := 207) (by decide +kernel))
theorem ly_X6_verdict : zWd (.lays RX6 "ChairMigration$Judge" "verdict" "I") := ⟨pm_1 _ (List.mem_of_getElem? (i := 208) (by decide +kernel)), rfl⟩
theorem ly_X6_reason : zWd (.lays RX6 "ChairMigration$Judge" "reason" "I") := ⟨pm_1 _ (List.mem_of_getElem? (i := 210) (by decide +kernel)), rfl⟩
theorem ly_X6_detail : zWd (.lays RX6 "ChairMigration$Judge" "detail" "I") := ⟨pm_1 _ (List.mem_of_getElem? (i := 212) (by decide +kernel)), rfl⟩
theorem su_X6_java_lang_Object : zWd (.superclass RX6 "java/lang/Object") := ⟨pm_1 _ (List.mem_of_getElem? (i := 214) (by decide +kernel)), rfl⟩
theorem lk_X9_46 : zWd (.classLink RX9 46 "ChairMigration$CommandInput") := ⟨pm_1 _ (List.mem_of_getElem? (i := 215) (by decide +kernel)), rfl⟩
theorem it_X1 : zWd (.instantiable RX1 7) := ⟨pm_1 _ (List.mem_of_getElem? (i := 216) (by decide +kernel)), rfl⟩
theorem lk_X9_48 : (.methodLinkNest RX9 48 yX1_init "ChairMigration" : Cond) ∈ lw_tbl := pm_1 _ (List.mem_of_getElem? (i := 217) (by decide +kernel))
theorem im_X1_init : zWd (.instanceMethod yX1_init) := ⟨pm_1 _ (List.mem_of_getElem? (i := 218) (by decide +kernel)), rfl⟩
theorem cd_X1_init : zWd (.code yX1_init cX1_init 1 none) := ⟨pm_1 _ (List.mem_of_getElem? (i := 219) (by decide +kernel)), rfl⟩
theorem lk_X1_3 : zWd (.methodLink RX1 3 Lib.objectInit) := ⟨pm_1 _ (List.mem_of_getElem? (i := 220) (by decide +kernel)), rfl⟩
theorem lk_X1_9 : zWd (.fieldLink RX1 9 "ChairMigration$CommandInput" "text" "[C") := ⟨pm_1 _ (List.mem_of_getElem? (i := 221) (by decide +kernel)), rfl⟩
theorem lk_X1_15 : zWd (.fieldLink RX1 15 "ChairMigration$CommandInput" "deeds" "[C") := ⟨pm_1 _ (List.mem_of_getElem? (i := 222) (by decide +kernel)), rfl⟩
theorem lk_X1_18 : zWd (.fieldLink RX1 18 "ChairMigration$CommandInput" "firsts" "[I") := ⟨pm_1 _ (List.mem_of_getElem? (i := 223) (by decide +kernel)), rfl⟩
theorem lk_X1_22 : zWd (.fieldLink RX1 22 "ChairMigration$CommandInput" "seconds" "[I") := ⟨pm_1 _ (List.mem_of_getElem? (i := 224) (by decide +kernel)), rfl⟩
theorem lk_X1_25 : zWd (.fieldLink RX1 25 "ChairMigration$CommandInput" "length" "I") := ⟨pm_1 _ (List.mem_of_getElem? (i := 225) (by decide +kernel)), rfl⟩
theorem lk_X1_37 : zWd (.fieldLink RX1 37 "ChairMigration$CommandInput" "position" "I") := ⟨pm_1 _ (List.mem_of_getElem? (i := 226) (by decide +kernel)), rfl⟩
theorem lk_X1_40 : zWd (.fieldLink RX1 40 "ChairMigration$CommandInput" "count" "I") := ⟨pm_1 _ (List.mem_of_getElem? (i := 227) (by decide +kernel)), rfl⟩
theorem lk_X9_294 : (.fieldLinkNest RX9 294 "ChairMigration$CommandInput" "count" "I" "ChairMigration" : Cond) ∈ lw_tbl := pm_1 _ (List.mem_of_getElem? (i := 228) (by decide +kernel))
theorem ly_X1_text : zWd (.laysFinal RX1 "ChairMigration$CommandInput" "text" "[C") := ⟨pm_1 _ (List.mem_of_getElem? (i := 229) (by decide +kernel)), rfl⟩
theorem ly_X1_deeds : zWd (.laysFinal RX1 "ChairMigration$CommandInput" "deeds" "[C") := ⟨pm_1 _ (List.mem_of_getElem? (i := 231) (by decide +kernel)), rfl⟩
theorem ly_X1_firsts : zWd (.laysFinal RX1 "ChairMigration$CommandInput" "firsts" "[I") := ⟨pm_1 _ (List.mem_of_getElem? (i := 233) (by decide +kernel)), rfl⟩
theorem ly_X1_seconds : zWd (.laysFinal RX1 "ChairMigration$CommandInput" "seconds" "[I") := ⟨pm_1 _ (List.mem_of_getElem? (i := 235) (by decide +kernel)), rfl⟩
theorem ly_X1_length : zWd (.lays RX1 "ChairMigration$CommandInput" "length" "I") := ⟨pm_1 _ (List.mem_of_getElem? (i := 237) (by decide +kernel)), rfl⟩
theorem ly_X1_position : zWd (.lays RX1 "ChairMigration$CommandInput" "position" "I") := ⟨pm_1 _ (List.mem_of_getElem? (i := 239) (by decide +kernel)), rfl⟩
theorem ly_X1_count : zWd (.lays RX1 "ChairMigration$CommandInput" "count" "I") := ⟨pm_2 _ (List.mem_of_getElem? (i := 1) (by decide +kernel)), rfl⟩
theorem su_X1_java_lang_Object : zWd (.superclass RX1 "java/lang/Object") := ⟨pm_2 _ (List.mem_of_getElem? (i := 3) (by decide +kernel)), rfl⟩
theorem ac_char : zWd (.arrayClass .char) := ⟨pm_2 _ (List.mem_of_getElem? (i := 4) (by decide +kernel)), rfl⟩
theorem lk_X9_53 : zWd (.classLink RX9 53 "java/lang/StringBuilder") := ⟨pm_2 _ (List.mem_of_getElem? (i := 5) (by decide +kernel)), rfl⟩
theorem it_J4 : zWd (.instantiable RJ4 4) := ⟨pm_2 _ (List.mem_of_getElem? (i := 6) (by decide +kernel)), rfl⟩
theorem lk_X9_55 : zWd (.methodLink RX9 55 yJ4_init_da8c8) := ⟨pm_2 _ (List.mem_of_getElem? (i := 7) (by decide +kernel)), rfl⟩
theorem im_J4_init_da8c8 : zWd (.instanceMethod yJ4_init_da8c8) := ⟨pm_2 _ (List.mem_of_getElem? (i := 8) (by decide +kernel)), rfl⟩
theorem cd_J4_init_da8c8 : zWd (.code yJ4_init_da8c8 cJ4_init_da8c8 1 none) := ⟨pm_2 _ (List.mem_of_getElem? (i := 9) (by decide +kernel)), rfl⟩
theorem lk_J4_1 : zWd (.methodLink RJ4 1 yJ5_init_d00df) := ⟨pm_2 _ (List.mem_of_getElem? (i := 10) (by decide +kernel)), rfl⟩
theorem im_J5_init_d00df : zWd (.instanceMethod yJ5_init_d00df) := ⟨pm_2 _ (List.mem_of_getElem? (i := 11) (by decide +kernel)), rfl⟩
theorem cd_J5_init_d00df : zWd (.code yJ5_init_d00df cJ5_init_d00df 2 none) := ⟨pm_2 _ (List.mem_of_getElem? (i := 12) (by decide +kernel)), rfl⟩
theorem lk_J5_3 : zWd (.methodLink RJ5 3 Lib.objectInit) := ⟨pm_2 _ (List.mem_of_getElem? (i := 13) (by decide +kernel)), rfl⟩
theorem lk_J5_18 : zWd (.fieldLink RJ5 18 "java/lang/String" "COMPACT_STRINGS" "Z") := ⟨pm_2 _ (List.mem_of_getElem? (i := 14) (by decide +kernel)), rfl⟩
theorem ls_J0_COMPACT_STRINGS : (.laysStatic RJ0 "COMPACT_STRINGS" "Z" : Cond) ∈ lw_tbl := pm_2 _ (List.mem_of_getElem? (i := 15) (by decide +kernel))
theorem lk_J5_26 : zWd (.methodLink RJ5 26 yJ2_newBytesFor_77867) := ⟨pm_2 _ (List.mem_of_getElem? (i := 16) (by decide +kernel)), rfl⟩
theorem st_J2_newBytesFor_77867 : zWd (.static yJ2_newBytesFor_77867) := ⟨pm_2 _ (List.mem_of_getElem? (i := 17) (by decide +kernel)), rfl⟩
theorem cd_J2_newBytesFor_77867 : zWd (.code yJ2_newBytesFor_77867 cJ2_newBytesFor_77867 1 (some (.array .byte))) := ⟨pm_2 _ (List.mem_of_getElem? (i := 18) (by decide +kernel)), rfl⟩
theorem lk_J2_11 : zWd (.methodLink RJ2 11 yJ2_newBytesLength_0f7a4) := ⟨pm_2 _ (List.mem_of_getElem? (i := 19) (by decide +kernel)), rfl⟩
theorem st_J2_newBytesLength_0f7a4 : zWd (.static yJ2_newBytesLength_0f7a4) := ⟨pm_2 _ (List.mem_of_getElem? (i := 20) (by decide +kernel)), rfl⟩
theorem cd_J2_newBytesLength_0f7a4 : zWd (.code yJ2_newBytesLength_0f7a4 cJ2_newBytesLength_0f7a4 1 (some .int)) := ⟨pm_2 _ (List.mem_of_getElem? (i := 21) (by decide +kernel)), rfl⟩
theorem co_J2_20 : zWd (.constant RJ2 20 1073741823) := ⟨pm_2 _ (List.mem_of_getElem? (i := 22) (by decide +kernel)), rfl⟩
theorem lk_J5_15 : zWd (.fieldLink RJ5 15 "java/lang/AbstractStringBuilder" "value" "[B") := ⟨pm_2 _ (List.mem_of_getElem? (i := 23) (by decide +kernel)), rfl⟩
theorem lk_J5_22 : zWd (.fieldLink RJ5 22 "java/lang/AbstractStringBuilder" "coder" "B") := ⟨pm_2 _ (List.mem_of_getElem? (i := 24) (by decide +kernel)), rfl⟩
theorem lk_J5_73 : zWd (.fieldLink RJ5 73 "java/lang/AbstractStringBuilder" "maybeLatin1" "Z") := ⟨pm_2 _ (List.mem_of_getElem? (i := 25) (by decide +kernel)), rfl⟩
theorem lk_J0_1048 : zWd (.fieldLink RJ0 1048 "java/lang/AbstractStringBuilder" "maybeLatin1" "Z") := ⟨pm_2 _ (List.mem_of_getElem? (i := 26) (by decide +kernel)), rfl⟩
theorem lk_J5_79 : zWd (.fieldLink RJ5 79 "java/lang/AbstractStringBuilder" "count" "I") := ⟨pm_2 _ (List.mem_of_getElem? (i := 27) (by decide +kernel)), rfl⟩
theorem ly_J4_value : zWd (.lays RJ4 "java/lang/AbstractStringBuilder" "value" "[B") := ⟨pm_2 _ (List.mem_of_getElem? (i := 28) (by decide +kernel)), rfl⟩
theorem ly_J4_coder : zWd (.lays RJ4 "java/lang/AbstractStringBuilder" "coder" "B") := ⟨pm_2 _ (List.mem_of_getElem? (i := 30) (by decide +kernel)), rfl⟩
theorem ly_J4_maybeLatin1 : zWd (.lays RJ4 "java/lang/AbstractStringBuilder" "maybeLatin1" "Z") := ⟨pm_2 _ (List.mem_of_getElem? (i := 32) (by decide +kernel)), rfl⟩
theorem ly_J4_count : zWd (.lays RJ4 "java/lang/AbstractStringBuilder" "count" "I") := ⟨pm_2 _ (List.mem_of_getElem? (i := 34) (by decide +kernel)), rfl⟩
theorem su_J4_J5 : zWd (.superclass RJ4 RJ5) := ⟨pm_2 _ (List.mem_of_getElem? (i := 36) (by decide +kernel)), rfl⟩
theorem ac_byte : zWd (.arrayClass .byte) := ⟨pm_2 _ (List.mem_of_getElem? (i := 37) (by decide +kernel)), rfl⟩
theorem lk_X9_10 : zWd (.fieldLink RX9 10 "ChairMigration" "garden" "LChairMigration$Garden;") := ⟨pm_2 _ (List.mem_of_getElem? (i := 38) (by decide +kernel)), rfl⟩
theorem lk_X9_16 : zWd (.fieldLink RX9 16 "ChairMigration" "forecast" "LChairMigration$Garden;") := ⟨pm_2 _ (List.mem_of_getElem? (i := 39) (by decide +kernel)), rfl⟩
theorem lk_X9_19 : zWd (.fieldLink RX9 19 "ChairMigration" "beforeCommands" "LChairMigration$Garden;") := ⟨pm_2 _ (List.mem_of_getElem? (i := 40) (by decide +kernel)), rfl⟩
theorem lk_X9_22 : zWd (.fieldLink RX9 22 "ChairMigration" "snapshot" "LChairMigration$Garden;") := ⟨pm_2 _ (List.mem_of_getElem? (i := 41) (by decide +kernel)), rfl⟩
theorem lk_X9_28 : zWd (.fieldLink RX9 28 "ChairMigration" "history" "LChairMigration$History;") := ⟨pm_2 _ (List.mem_of_getElem? (i := 42) (by decide +kernel)), rfl⟩
theorem lk_X9_35 : zWd (.fieldLink RX9 35 "ChairMigration" "improvement" "LChairMigration$Improvement;") := ⟨pm_2 _ (List.mem_of_getElem? (i := 43) (by decide +kernel)), rfl⟩
theorem lk_X9_42 : zWd (.fieldLink RX9 42 "ChairMigration" "judge" "LChairMigration$Judge;") := ⟨pm_2 _ (List.mem_of_getElem? (i := 44) (by decide +kernel)), rfl⟩
theorem lk_X9_49 : zWd (.fieldLink RX9 49 "ChairMigration" "input" "LChairMigration$CommandInput;") := ⟨pm_2 _ (List.mem_of_getElem? (i := 45) (by decide +kernel)), rfl⟩
theorem lk_X9_56 : zWd (.fieldLink RX9 56 "ChairMigration" "output" "Ljava/lang/StringBuilder;") := ⟨pm_2 _ (List.mem_of_getElem? (i := 46) (by decide +kernel)), rfl⟩
theorem lk_X9_321 : zWd (.fieldLink RX9 321 "ChairMigration" "snapshotSaved" "Z") := ⟨pm_2 _ (List.mem_of_getElem? (i := 47) (by decide +kernel)), rfl⟩
theorem lk_X9_60 : zWd (.fieldLink RX9 60 "ChairMigration" "syntaxOffset" "I") := ⟨pm_2 _ (List.mem_of_getElem? (i := 48) (by decide +kernel)), rfl⟩
theorem lk_X9_304 : zWd (.fieldLink RX9 304 "ChairMigration" "latestReason" "I") := ⟨pm_2 _ (List.mem_of_getElem? (i := 49) (by decide +kernel)), rfl⟩
theorem lk_X9_307 : zWd (.fieldLink RX9 307 "ChairMigration" "latestDetail" "I") := ⟨pm_2 _ (List.mem_of_getElem? (i := 50) (by decide +kernel)), rfl⟩
theorem lk_X9_312 : zWd (.fieldLink RX9 312 "ChairMigration" "latestCause" "I") := ⟨pm_2 _ (List.mem_of_getElem? (i := 51) (by decide +kernel)), rfl⟩
theorem ly_X9_garden : zWd (.laysFinal RX9 "ChairMigration" "garden" "LChairMigration$Garden;") := ⟨pm_2 _ (List.mem_of_getElem? (i := 52) (by decide +kernel)), rfl⟩
theorem ly_X9_forecast : zWd (.laysFinal RX9 "ChairMigration" "forecast" "LChairMigration$Garden;") := ⟨pm_2 _ (List.mem_of_getElem? (i := 54) (by decide +kernel)), rfl⟩
theorem ly_X9_beforeCommands : zWd (.laysFinal RX9 "ChairMigration" "beforeCommands" "LChairMigration$Garden;") := ⟨pm_2 _ (List.mem_of_getElem? (i := 56) (by decide +kernel)), rfl⟩
theorem ly_X9_snapshot : zWd (.laysFinal RX9 "ChairMigration" "snapshot" "LChairMigration$Garden;") := ⟨pm_2 _ (List.mem_of_getElem? (i := 58) (by decide +kernel)), rfl⟩
theorem ly_X9_history : zWd (.laysFinal RX9 "ChairMigration" "history" "LChairMigration$History;") := ⟨pm_2 _ (List.mem_of_getElem? (i := 60) (by decide +kernel)), rfl⟩
theorem ly_X9_improvement : zWd (.laysFinal RX9 "ChairMigration" "improvement" "LChairMigration$Improvement;") := ⟨pm_2 _ (List.mem_of_getElem? (i := 62) (by decide +kernel)), rfl⟩
theorem ly_X9_judge : zWd (.laysFinal RX9 "ChairMigration" "judge" "LChairMigration$Judge;") := ⟨pm_2 _ (List.mem_of_getElem? (i := 64) (by decide +kernel)), rfl⟩
theorem ly_X9_input : zWd (.laysFinal RX9 "ChairMigration" "input" "LChairMigration$CommandInput;") := ⟨pm_2 _ (List.mem_of_getElem? (i := 66) (by decide +kernel)), rfl⟩
theorem ly_X9_output : zWd (.laysFinal RX9 "ChairMigration" "output" "Ljava/lang/StringBuilder;") := ⟨pm_2 _ (List.mem_of_getElem? (i := 68) (by decide +kernel)), rfl⟩
theorem ly_X9_snapshotSaved : zWd (.lays RX9 "ChairMigration" "snapshotSaved" "Z") := ⟨pm_2 _ (List.mem_of_getElem? (i := 70) (by decide +kernel)), rfl⟩
theorem ly_X9_syntaxOffset : zWd (.lays RX9 "ChairMigration" "syntaxOffset" "I") := ⟨pm_2 _ (List.mem_of_getElem? (i := 72) (by decide +kernel)), rfl⟩
theorem ly_X9_latestReason : zWd (.lays RX9 "ChairMigration" "latestReason" "I") := ⟨pm_2 _ (List.mem_of_getElem? (i := 74) (by decide +kernel)), rfl⟩
theorem ly_X9_latestDetail : zWd (.lays RX9 "ChairMigration" "latestDetail" "I") := ⟨pm_2 _ (List.mem_of_getElem? (i := 76) (by decide +kernel)), rfl⟩
theorem ly_X9_latestCause : zWd (.lays RX9 "ChairMigration" "latestCause" "I") := ⟨pm_2 _ (List.mem_of_getElem? (i := 78) (by decide +kernel)), rfl⟩
theorem su_X9_java_lang_Object : zWd (.superclass RX9 "java/lang/Object") := ⟨pm_2 _ (List.mem_of_getElem? (i := 80) (by decide +kernel)), rfl⟩
theorem lk_L_245 : zWd (.methodLink RL 245 yX9_pathCount) := ⟨pm_2 _ (List.mem_of_getElem? (i := 81) (by decide +kernel)), rfl⟩
theorem im_X9_pathCount : zWd (.instanceMethod yX9_pathCount) := ⟨pm_2 _ (List.mem_of_getElem? (i := 82) (by decide +kernel)), rfl⟩
theorem se_X9_X9_pathCount : zWd (.selects RX9 yX9_pathCount yX9_pathCount) := ⟨pm_2 _ (List.mem_of_getElem? (i := 83) (by decide +kernel)), rfl⟩
theorem cd_X9_pathCount : zWd (.code yX9_pathCount cX9_pathCount 1 (some .int)) := ⟨pm_2 _ (List.mem_of_getElem? (i := 84) (by decide +kernel)), rfl⟩
theorem lk_L_217 : zWd (.methodLink RL 217 yX9_exists) := ⟨pm_2 _ (List.mem_of_getElem? (i := 85) (by decide +kernel)), rfl⟩
theorem im_X9_exists : zWd (.instanceMethod yX9_exists) := ⟨pm_2 _ (List.mem_of_getElem? (i := 86) (by decide +kernel)), rfl⟩
theorem se_X9_X9_exists : zWd (.selects RX9 yX9_exists yX9_exists) := ⟨pm_2 _ (List.mem_of_getElem? (i := 87) (by decide +kernel)), rfl⟩
theorem cd_X9_exists : zWd (.code yX9_exists cX9_exists 2 (some .boolean)) := ⟨pm_2 _ (List.mem_of_getElem? (i := 88) (by decide +kernel)), rfl⟩
theorem lk_X9_124 : zWd (.methodLink RX9 124 yX3_find) := ⟨pm_2 _ (List.mem_of_getElem? (i := 89) (by decide +kernel)), rfl⟩
theorem im_X3_find : zWd (.instanceMethod yX3_find) := ⟨pm_2 _ (List.mem_of_getElem? (i := 90) (by decide +kernel)), rfl⟩
theorem se_X3_X3_find : zWd (.selects RX3 yX3_find yX3_find) := ⟨pm_2 _ (List.mem_of_getElem? (i := 91) (by decide +kernel)), rfl⟩
theorem cd_X3_find : zWd (.code yX3_find cX3_find 3 (some (.object "ChairMigration$Chair"))) := ⟨pm_2 _ (List.mem_of_getElem? (i := 92) (by decide +kernel)), rfl⟩
theorem lk_X3_129 : zWd (.methodLink RX3 129 yX3_indexOf) := ⟨pm_2 _ (List.mem_of_getElem? (i := 93) (by decide +kernel)), rfl⟩
theorem im_X3_indexOf : zWd (.instanceMethod yX3_indexOf) := ⟨pm_2 _ (List.mem_of_getElem? (i := 95) (by decide +kernel)), rfl⟩
theorem cd_X3_indexOf : zWd (.code yX3_indexOf cX3_indexOf 3 (some .int)) := ⟨pm_2 _ (List.mem_of_getElem? (i := 96) (by decide +kernel)), rfl⟩
theorem lk_L_248 : zWd (.methodLink RL 248 yX9_day) := ⟨pm_2 _ (List.mem_of_getElem? (i := 97) (by decide +kernel)), rfl⟩
theorem im_X9_day : zWd (.instanceMethod yX9_day) := ⟨pm_2 _ (List.mem_of_getElem? (i := 98) (by decide +kernel)), rfl⟩
theorem se_X9_X9_day : zWd (.selects RX9 yX9_day yX9_day) := ⟨pm_2 _ (List.mem_of_getElem? (i := 99) (by decide +kernel)), rfl⟩
theorem cd_X9_day : zWd (.code yX9_day cX9_day 1 (some .int)) := ⟨pm_2 _ (List.mem_of_getElem? (i := 100) (by decide +kernel)), rfl⟩
theorem lk_L_222 : zWd (.methodLink RL 222 yX9_chairCount) := ⟨pm_2 _ (List.mem_of_getElem? (i := 101) (by decide +kernel)), rfl⟩
theorem im_X9_chairCount : zWd (.instanceMethod yX9_chairCount) := ⟨pm_2 _ (List.mem_of_getElem? (i := 102) (by decide +kernel)), rfl⟩
theorem se_X9_X9_chairCount : zWd (.selects RX9 yX9_chairCount yX9_chairCount) := ⟨pm_2 _ (List.mem_of_getElem? (i := 103) (by decide +kernel)), rfl⟩
theorem cd_X9_chairCount : zWd (.code yX9_chairCount cX9_chairCount 1 (some .int)) := ⟨pm_2 _ (List.mem_of_getElem? (i := 104) (by decide +kernel)), rfl⟩
theorem lk_L_392 : zWd (.methodLink RL 392 yX9_saveSnapshot) := ⟨pm_2 _ (List.mem_of_getElem? (i := 105) (by decide +kernel)), rfl⟩
theorem im_X9_saveSnapshot : zWd (.instanceMethod yX9_saveSnapshot) := ⟨pm_2 _ (List.mem_of_getElem? (i := 106) (by decide +kernel)), rfl⟩
theorem se_X9_X9_saveSnapshot : zWd (.selects RX9 yX9_saveSnapshot yX9_saveSnapshot) := ⟨pm_2 _ (List.mem_of_getElem? (i := 107) (by decide +kernel)), rfl⟩
theorem cd_X9_saveSnapshot : zWd (.code yX9_saveSnapshot cX9_saveSnapshot 1 (some .int)) := ⟨pm_2 _ (List.mem_of_getElem? (i := 108) (by decide +kernel)), rfl⟩
theorem lk_X9_191 : zWd (.methodLink RX9 191 yX3_become) := ⟨pm_2 _ (List.mem_of_getElem? (i := 109) (by decide +kernel)), rfl⟩
theorem im_X3_become : zWd (.instanceMethod yX3_become) := ⟨pm_2 _ (List.mem_of_getElem? (i := 110) (by decide +kernel)), rfl⟩
theorem se_X3_X3_become : zWd (.selects RX3 yX3_become yX3_become) := ⟨pm_2 _ (List.mem_of_getElem? (i := 111) (by decide +kernel)), rfl⟩
theorem cd_X3_become : zWd (.code yX3_become cX3_become 3 none) := ⟨pm_2 _ (List.mem_of_getElem? (i := 112) (by decide +kernel)), rfl⟩
theorem lk_X3_43 : zWd (.methodLink RX3 43 yX8_become) := ⟨pm_2 _ (List.mem_of_getElem? (i := 113) (by decide +kernel)), rfl⟩
theorem im_X8_become : zWd (.instanceMethod yX8_become) := ⟨pm_2 _ (List.mem_of_getElem? (i := 114) (by decide +kernel)), rfl⟩
theorem se_X8_X8_become : zWd (.selects RX8 yX8_become yX8_become) := ⟨pm_2 _ (List.mem_of_getElem? (i := 115) (by decide +kernel)), rfl⟩
theorem cd_X8_become : zWd (.code yX8_become cX8_become 2 none) := ⟨pm_2 _ (List.mem_of_getElem? (i := 116) (by decide +kernel)), rfl⟩
theorem lk_X8_18 : zWd (.methodLink RX8 18 yX7_become) := ⟨pm_2 _ (List.mem_of_getElem? (i := 117) (by decide +kernel)), rfl⟩
theorem im_X7_become : zWd (.instanceMethod yX7_become) := ⟨pm_2 _ (List.mem_of_getElem? (i := 118) (by decide +kernel)), rfl⟩
theorem se_X7_X7_become : zWd (.selects RX7 yX7_become yX7_become) := ⟨pm_2 _ (List.mem_of_getElem? (i := 119) (by decide +kernel)), rfl⟩
theorem cd_X7_become : zWd (.code yX7_become cX7_become 2 none) := ⟨pm_2 _ (List.mem_of_getElem? (i := 120) (by decide +kernel)), rfl⟩
theorem lk_X7_15 : zWd (.methodLink RX7 15 arraycopyName) := ⟨pm_2 _ (List.mem_of_getElem? (i := 121) (by decide +kernel)), rfl⟩
theorem st_acopy : zWd (.static arraycopyName) := ⟨pm_2 _ (List.mem_of_getElem? (i := 122) (by decide +kernel)), rfl⟩
theorem na_acopy : zWd (.native arraycopyName) := ⟨pm_2 _ (List.mem_of_getElem? (i := 123) (by decide +kernel)), rfl⟩
theorem lk_X3_47 : zWd (.methodLink RX3 47 yX7_become) := ⟨pm_2 _ (List.mem_of_getElem? (i := 124) (by decide +kernel)), rfl⟩
theorem lk_X3_53 : zWd (.methodLink RX3 53 yX0_become) := ⟨pm_2 _ (List.mem_of_getElem? (i := 125) (by decide +kernel)), rfl⟩
theorem im_X0_become : zWd (.instanceMethod yX0_become) := ⟨pm_2 _ (List.mem_of_getElem? (i := 126) (by decide +kernel)), rfl⟩
theorem se_X0_X0_become : zWd (.selects RX0 yX0_become yX0_become) := ⟨pm_2 _ (List.mem_of_getElem? (i := 127) (by decide +kernel)), rfl⟩
theorem cd_X0_become : zWd (.code yX0_become cX0_become 2 none) := ⟨pm_2 _ (List.mem_of_getElem? (i := 128) (by decide +kernel)), rfl⟩
theorem lk_L_201 : zWd (.methodLink RL 201 yL_at) := ⟨pm_2 _ (List.mem_of_getElem? (i := 129) (by decide +kernel)), rfl⟩
theorem st_L_at : zWd (.static yL_at) := ⟨pm_2 _ (List.mem_of_getElem? (i := 130) (by decide +kernel)), rfl⟩
theorem cd_L_at : zWd (.code yL_at cL_at 2 (some .int)) := ⟨pm_2 _ (List.mem_of_getElem? (i := 131) (by decide +kernel)), rfl⟩
theorem lk_L_208 : zWd (.methodLink RL 208 yL_addPath) := ⟨pm_2 _ (List.mem_of_getElem? (i := 132) (by decide +kernel)), rfl⟩
theorem st_L_addPath : zWd (.static yL_addPath) := ⟨pm_2 _ (List.mem_of_getElem? (i := 133) (by decide +kernel)), rfl⟩
theorem cd_L_addPath : zWd (.codeWith yL_addPath cL_addPath 4 (some .int) [(0, 6, 7, 13), (0, 6, 12, 15), (0, 6, 17, 17)]) := ⟨pm_2 _ (List.mem_of_getElem? (i := 134) (by decide +kernel)), rfl⟩
theorem lk_L_13 : zWd (.classLink RL 13 "java/lang/IndexOutOfBoundsException") := ⟨pm_2 _ (List.mem_of_getElem? (i := 135) (by decide +kernel)), rfl⟩
theorem it_Jx00060 : zWd (.instantiable RJx00060 6) := ⟨pm_2 _ (List.mem_of_getElem? (i := 136) (by decide +kernel)), rfl⟩
theorem im_Jx00060_init_a7421 : zWd (.instanceMethod yJx00060_init_a7421) := ⟨pm_2 _ (List.mem_of_getElem? (i := 137) (by decide +kernel)), rfl⟩
theorem cd_Jx00060_init_a7421 : zWd (.code yJx00060_init_a7421 cJx00060_init_a7421 2 none) := ⟨pm_2 _ (List.mem_of_getElem? (i := 138) (by decide +kernel)), rfl⟩
theorem lk_java_lang_Throwable_1 : zWd (.methodLink "java/lang/Throwable" 1 Lib.objectInit) := ⟨pm_2 _ (List.mem_of_getElem? (i := 151) (by decide +kernel)), rfl⟩
theorem lk_java_lang_Throwable_13 : zWd (.fieldLink "java/lang/Throwable" 13 "java/lang/Throwable" "UNASSIGNED_STACK" "[Ljava/lang/StackTraceElement;") := ⟨pm_2 _ (List.mem_of_getElem? (i := 152) (by decide +kernel)), rfl⟩
theorem ls_java_lang_Throwable_UNASSIGNED_STACK : (.laysStatic "java/lang/Throwable" "UNASSIGNED_STACK" "[Ljava/lang/StackTraceElement;" : Cond) ∈ lw_tbl := pm_2 _ (List.mem_of_getElem? (i := 153) (by decide +kernel))
theorem lk_java_lang_Throwable_20 : zWd (.fieldLink "java/lang/Throwable" 20 "java/lang/Throwable" "SUPPRESSED_SENTINEL" "Ljava/util/List;") := ⟨pm_2 _ (List.mem_of_getElem? (i := 154) (by decide +kernel)), rfl⟩
theorem ls_java_lang_Throwable_SUPPRESSED_SENTINEL : (.laysStatic "java/lang/Throwable" "SUPPRESSED_SENTINEL" "Ljava/util/List;" : Cond) ∈ lw_tbl := pm_2 _ (List.mem_of_getElem? (i := 155) (by decide +kernel))
theorem sm_java_lang_Throwable_java_lang_Throwable_398 : zWd (.sameMethod "java/lang/Throwable" "java/lang/Throwable" "fillInStackTrace" "()Ljava/lang/Throwable;") := ⟨pm_2 _ (List.mem_of_getElem? (i := 158) (by decide +kernel)), rfl⟩
theorem it_java_lang_Throwable : zWd (.instantiable "java/lang/Throwable" 6) := ⟨pm_2 _ (List.mem_of_getElem? (i := 171) (by decide +kernel)), rfl⟩
theorem lk_java_lang_Throwable_198 : zWd (.fieldLink "java/lang/Throwable" 198 "java/lang/Throwable" "backtrace" "Ljava/lang/Object;") := ⟨pm_2 _ (List.mem_of_getElem? (i := 173) (by decide +kernel)), rfl⟩
theorem lk_java_lang_Throwable_31 : zWd (.fieldLink "java/lang/Throwable" 31 "java/lang/Throwable" "detailMessage" "Ljava/lang/String;") := ⟨pm_2 _ (List.mem_of_getElem? (i := 174) (by decide +kernel)), rfl⟩
theorem lk_java_lang_Throwable_7 : zWd (.fieldLink "java/lang/Throwable" 7 "java/lang/Throwable" "cause" "Ljava/lang/Throwable;") := ⟨pm_2 _ (List.mem_of_getElem? (i := 175) (by decide +kernel)), rfl⟩
theorem lk_java_lang_Throwable_17 : zWd (.fieldLink "java/lang/Throwable" 17 "java/lang/Throwable" "stackTrace" "[Ljava/lang/StackTraceElement;") := ⟨pm_2 _ (List.mem_of_getElem? (i := 176) (by decide +kernel)), rfl⟩
theorem lk_java_lang_Throwable_24 : zWd (.fieldLink "java/lang/Throwable" 24 "java/lang/Throwable" "suppressedExceptions" "Ljava/util/List;") := ⟨pm_2 _ (List.mem_of_getElem? (i := 177) (by decide +kernel)), rfl⟩
theorem ly_Jx00060_backtrace : zWd (.lays RJx00060 "java/lang/Throwable" "backtrace" "Ljava/lang/Object;") := ⟨pm_2 _ (List.mem_of_getElem? (i := 178) (by decide +kernel)), rfl⟩
theorem ly_Jx00060_detailMessage : zWd (.lays RJx00060 "java/lang/Throwable" "detailMessage" "Ljava/lang/String;") := ⟨pm_2 _ (List.mem_of_getElem? (i := 180) (by decide +kernel)), rfl⟩
theorem ly_Jx00060_cause : zWd (.lays RJx00060 "java/lang/Throwable" "cause" "Ljava/lang/Throwable;") := ⟨pm_2 _ (List.mem_of_getElem? (i := 182) (by decide +kernel)), rfl⟩
theorem ly_Jx00060_stackTrace : zWd (.lays RJx00060 "java/lang/Throwable" "stackTrace" "[Ljava/lang/StackTraceElement;") := ⟨pm_2 _ (List.mem_of_getElem? (i := 184) (by decide +kernel)), rfl⟩
theorem ly_Jx00060_depth : zWd (.lays RJx00060 "java/lang/Throwable" "depth" "I") := ⟨pm_2 _ (List.mem_of_getElem? (i := 186) (by decide +kernel)), rfl⟩
theorem ly_Jx00060_suppressedExceptions : zWd (.lays RJx00060 "java/lang/Throwable" "suppressedExceptions" "Ljava/util/List;") := ⟨pm_2 _ (List.mem_of_getElem? (i := 188) (by decide +kernel)), rfl⟩
theorem su_Jx00060_java_lang_IndexOutOfBoundsException : zWd (.superclass RJx00060 "java/lang/IndexOutOfBoundsException") := ⟨pm_2 _ (List.mem_of_getElem? (i := 190) (by decide +kernel)), rfl⟩
theorem ca_Jx00060_Jx00060 : (.castable "java/lang/ArrayIndexOutOfBoundsException" "java/lang/ArrayIndexOutOfBoundsException" : Cond) ∈ lw_tbl := pm_2 _ (List.mem_of_getElem? (i := 191) (by decide +kernel))
theorem ly_java_lang_Throwable_cause : zWd (.lays "java/lang/Throwable" "java/lang/Throwable" "cause" "Ljava/lang/Throwable;") := ⟨pm_2 _ (List.mem_of_getElem? (i := 201) (by decide +kernel)), rfl⟩
theorem ly_java_lang_Throwable_stackTrace : zWd (.lays "java/lang/Throwable" "java/lang/Throwable" "stackTrace" "[Ljava/lang/StackTraceElement;") := ⟨pm_2 _ (List.mem_of_getElem? (i := 202) (by decide +kernel)), rfl⟩
theorem ly_java_lang_Throwable_suppressedExceptions : zWd (.lays "java/lang/Throwable" "java/lang/Throwable" "suppressedExceptions" "Ljava/util/List;") := ⟨pm_2 _ (List.mem_of_getElem? (i := 203) (by decide +kernel)), rfl⟩
theorem ly_java_lang_Throwable_detailMessage : zWd (.lays "java/lang/Throwable" "java/lang/Throwable" "detailMessage" "Ljava/lang/String;") := ⟨pm_2 _ (List.mem_of_getElem? (i := 204) (by decide +kernel)), rfl⟩
theorem ly_java_lang_Throwable_backtrace : zWd (.lays "java/lang/Throwable" "java/lang/Throwable" "backtrace" "Ljava/lang/Object;") := ⟨pm_2 _ (List.mem_of_getElem? (i := 205) (by decide +kernel)), rfl⟩
theorem su_java_lang_Throwable_java_lang_Object : zWd (.superclass "java/lang/Throwable" "java/lang/Object") := ⟨pm_2 _ (List.mem_of_getElem? (i := 207) (by decide +kernel)), rfl⟩
theorem it_J0 : zWd (.instantiable RJ0 4) := ⟨pm_2 _ (List.mem_of_getElem? (i := 210) (by decide +kernel)), rfl⟩
theorem ly_J0_value : zWd (.laysFinal RJ0 "java/lang/String" "value" "[B") := ⟨pm_2 _ (List.mem_of_getElem? (i := 211) (by decide +kernel)), rfl⟩
theorem ly_J0_coder : zWd (.laysFinal RJ0 "java/lang/String" "coder" "B") := ⟨pm_2 _ (List.mem_of_getElem? (i := 213) (by decide +kernel)), rfl⟩
theorem lk_L_15 : zWd (.classLink RL 15 "java/lang/IllegalArgumentException") := ⟨pm_2 _ (List.mem_of_getElem? (i := 215) (by decide +kernel)), rfl⟩
theorem lk_L_17 : zWd (.classLink RL 17 "java/lang/UnsupportedOperationException") := ⟨pm_2 _ (List.mem_of_getElem? (i := 216) (by decide +kernel)), rfl⟩
theorem lk_L_7 : zWd (.methodLink RL 7 yX9_addPath) := ⟨pm_2 _ (List.mem_of_getElem? (i := 217) (by decide +kernel)), rfl⟩
theorem im_X9_addPath : zWd (.instanceMethod yX9_addPath) := ⟨pm_2 _ (List.mem_of_getElem? (i := 218) (by decide +kernel)), rfl⟩
theorem se_X9_X9_addPath : zWd (.selects RX9 yX9_addPath yX9_addPath) := ⟨pm_2 _ (List.mem_of_getElem? (i := 219) (by decide +kernel)), rfl⟩
theorem cd_X9_addPath : zWd (.code yX9_addPath cX9_addPath 3 (some .int)) := ⟨pm_2 _ (List.mem_of_getElem? (i := 220) (by decide +kernel)), rfl⟩
theorem lk_X9_66 : zWd (.methodLink RX9 66 yX9_change) := ⟨pm_2 _ (List.mem_of_getElem? (i := 221) (by decide +kernel)), rfl⟩
theorem im_X9_change : zWd (.instanceMethod yX9_change) := ⟨pm_2 _ (List.mem_of_getElem? (i := 223) (by decide +kernel)), rfl⟩
theorem cd_X9_change : zWd (.code yX9_change cX9_change 5 (some .int)) := ⟨pm_2 _ (List.mem_of_getElem? (i := 224) (by decide +kernel)), rfl⟩
theorem lk_X9_345 : zWd (.methodLink RX9 345 yX6_examine) := ⟨pm_2 _ (List.mem_of_getElem? (i := 225) (by decide +kernel)), rfl⟩
theorem im_X6_examine : zWd (.instanceMethod yX6_examine) := ⟨pm_2 _ (List.mem_of_getElem? (i := 226) (by decide +kernel)), rfl⟩
theorem se_X6_X6_examine : zWd (.selects RX6 yX6_examine yX6_examine) := ⟨pm_2 _ (List.mem_of_getElem? (i := 227) (by decide +kernel)), rfl⟩
theorem cd_X6_examine : zWd (.code yX6_examine cX6_examine 5 (some .int)) := ⟨pm_2 _ (List.mem_of_getElem? (i := 228) (by decide +kernel)), rfl⟩
theorem lk_X6_15 : zWd (.methodLink RX6 15 yX6_examineNewPath) := ⟨pm_2 _ (List.mem_of_getElem? (i := 229) (by decide +kernel)), rfl⟩
theorem im_X6_examineNewPath : zWd (.instanceMethod yX6_examineNewPath) := ⟨pm_2 _ (List.mem_of_getElem? (i := 231) (by decide +kernel)), rfl⟩
theorem cd_X6_examineNewPath : zWd (.code yX6_examineNewPath cX6_examineNewPath 4 none) := ⟨pm_2 _ (List.mem_of_getElem? (i := 232) (by decide +kernel)), rfl⟩
theorem lk_X6_73 : (.methodLinkNest RX6 73 yX9_isLawn "ChairMigration" : Cond) ∈ lw_tbl := pm_2 _ (List.mem_of_getElem? (i := 233) (by decide +kernel))
theorem st_X9_isLawn : zWd (.static yX9_isLawn) := ⟨pm_2 _ (List.mem_of_getElem? (i := 234) (by decide +kernel)), rfl⟩
theorem cd_X9_isLawn : zWd (.code yX9_isLawn cX9_isLawn 1 (some .boolean)) := ⟨pm_2 _ (List.mem_of_getElem? (i := 235) (by decide +kernel)), rfl⟩
theorem lk_X6_81 : zWd (.methodLink RX6 81 yX8_areNeighbours) := ⟨pm_2 _ (List.mem_of_getElem? (i := 236) (by decide +kernel)), rfl⟩
theorem im_X8_areNeighbours : zWd (.instanceMethod yX8_areNeighbours) := ⟨pm_2 _ (List.mem_of_getElem? (i := 237) (by decide +kernel)), rfl⟩
theorem se_X8_X8_areNeighbours : zWd (.selects RX8 yX8_areNeighbours yX8_areNeighbours) := ⟨pm_2 _ (List.mem_of_getElem? (i := 238) (by decide +kernel)), rfl⟩
theorem cd_X8_areNeighbours : zWd (.code yX8_areNeighbours cX8_areNeighbours 3 (some .boolean)) := ⟨pm_2 _ (List.mem_of_getElem? (i := 239) (by decide +kernel)), rfl⟩
theorem lk_X8_26 : zWd (.methodLink RX8 26 yX7_at) := ⟨pm_3 _ (List.mem_of_getElem? (i := 0) (by decide +kernel)), rfl⟩
theorem im_X7_at : zWd (.instanceMethod yX7_at) := ⟨pm_3 _ (List.mem_of_getElem? (i := 1) (by decide +kernel)), rfl⟩
theorem se_X7_X7_at : zWd (.selects RX7 yX7_at yX7_at) := ⟨pm_3 _ (List.mem_of_getElem? (i := 2) (by decide +kernel)), rfl⟩
theorem cd_X7_at : zWd (.code yX7_at cX7_at 2 (some .int)) := ⟨pm_3 _ (List.mem_of_getElem? (i := 3) (by decide +kernel)), rfl⟩
theorem lk_X8_30 : zWd (.methodLink RX8 30 yX8_holds) := ⟨pm_3 _ (List.mem_of_getElem? (i := 4) (by decide +kernel)), rfl⟩
theorem st_X8_holds : zWd (.static yX8_holds) := ⟨pm_3 _ (List.mem_of_getElem? (i := 5) (by decide +kernel)), rfl⟩
theorem cd_X8_holds : zWd (.code yX8_holds cX8_holds 2 (some .boolean)) := ⟨pm_3 _ (List.mem_of_getElem? (i := 6) (by decide +kernel)), rfl⟩
theorem lk_X6_90 : zWd (.methodLink RX6 90 yX6_reject) := ⟨pm_3 _ (List.mem_of_getElem? (i := 7) (by decide +kernel)), rfl⟩
theorem im_X6_reject : zWd (.instanceMethod yX6_reject) := ⟨pm_3 _ (List.mem_of_getElem? (i := 9) (by decide +kernel)), rfl⟩
theorem cd_X6_reject : zWd (.code yX6_reject cX6_reject 3 none) := ⟨pm_3 _ (List.mem_of_getElem? (i := 10) (by decide +kernel)), rfl⟩
theorem lk_X6_19 : zWd (.methodLink RX6 19 yX6_examineOldPath) := ⟨pm_3 _ (List.mem_of_getElem? (i := 11) (by decide +kernel)), rfl⟩
theorem im_X6_examineOldPath : zWd (.instanceMethod yX6_examineOldPath) := ⟨pm_3 _ (List.mem_of_getElem? (i := 13) (by decide +kernel)), rfl⟩
theorem cd_X6_examineOldPath : zWd (.code yX6_examineOldPath cX6_examineOldPath 4 none) := ⟨pm_3 _ (List.mem_of_getElem? (i := 14) (by decide +kernel)), rfl⟩
theorem lk_X6_93 : zWd (.methodLink RX6 93 yX8_stepsBetween) := ⟨pm_3 _ (List.mem_of_getElem? (i := 15) (by decide +kernel)), rfl⟩
theorem im_X8_stepsBetween : zWd (.instanceMethod yX8_stepsBetween) := ⟨pm_3 _ (List.mem_of_getElem? (i := 16) (by decide +kernel)), rfl⟩
theorem se_X8_X8_stepsBetween : zWd (.selects RX8 yX8_stepsBetween yX8_stepsBetween) := ⟨pm_3 _ (List.mem_of_getElem? (i := 17) (by decide +kernel)), rfl⟩
theorem cd_X8_stepsBetween : zWd (.code yX8_stepsBetween cX8_stepsBetween 5 (some .int)) := ⟨pm_3 _ (List.mem_of_getElem? (i := 18) (by decide +kernel)), rfl⟩
theorem lk_X8_38 : zWd (.methodLink RX8 38 yX8_withNeighbours) := ⟨pm_3 _ (List.mem_of_getElem? (i := 19) (by decide +kernel)), rfl⟩
theorem im_X8_withNeighbours : zWd (.instanceMethod yX8_withNeighbours) := ⟨pm_3 _ (List.mem_of_getElem? (i := 21) (by decide +kernel)), rfl⟩
theorem cd_X8_withNeighbours : zWd (.code yX8_withNeighbours cX8_withNeighbours 4 (some .int)) := ⟨pm_3 _ (List.mem_of_getElem? (i := 22) (by decide +kernel)), rfl⟩
theorem lk_X6_22 : zWd (.methodLink RX6 22 yX6_examineShade) := ⟨pm_3 _ (List.mem_of_getElem? (i := 23) (by decide +kernel)), rfl⟩
theorem im_X6_examineShade : zWd (.instanceMethod yX6_examineShade) := ⟨pm_3 _ (List.mem_of_getElem? (i := 25) (by decide +kernel)), rfl⟩
theorem cd_X6_examineShade : zWd (.code yX6_examineShade cX6_examineShade 3 none) := ⟨pm_3 _ (List.mem_of_getElem? (i := 26) (by decide +kernel)), rfl⟩
theorem lk_X6_26 : zWd (.methodLink RX6 26 yX6_examineNewChair) := ⟨pm_3 _ (List.mem_of_getElem? (i := 27) (by decide +kernel)), rfl⟩
theorem im_X6_examineNewChair : zWd (.instanceMethod yX6_examineNewChair) := ⟨pm_3 _ (List.mem_of_getElem? (i := 29) (by decide +kernel)), rfl⟩
theorem cd_X6_examineNewChair : zWd (.code yX6_examineNewChair cX6_examineNewChair 4 none) := ⟨pm_3 _ (List.mem_of_getElem? (i := 30) (by decide +kernel)), rfl⟩
theorem lk_X6_100 : zWd (.methodLink RX6 100 yX6_isFull) := ⟨pm_3 _ (List.mem_of_getElem? (i := 31) (by decide +kernel)), rfl⟩
theorem st_X6_isFull : zWd (.static yX6_isFull) := ⟨pm_3 _ (List.mem_of_getElem? (i := 32) (by decide +kernel)), rfl⟩
theorem cd_X6_isFull : zWd (.code yX6_isFull cX6_isFull 2 (some .boolean)) := ⟨pm_3 _ (List.mem_of_getElem? (i := 33) (by decide +kernel)), rfl⟩
theorem lk_X6_67 : zWd (.methodLink RX6 67 yX7_at) := ⟨pm_3 _ (List.mem_of_getElem? (i := 34) (by decide +kernel)), rfl⟩
theorem lk_X6_29 : zWd (.methodLink RX6 29 yX6_examineScrapping) := ⟨pm_3 _ (List.mem_of_getElem? (i := 35) (by decide +kernel)), rfl⟩
theorem im_X6_examineScrapping : zWd (.instanceMethod yX6_examineScrapping) := ⟨pm_3 _ (List.mem_of_getElem? (i := 37) (by decide +kernel)), rfl⟩
theorem cd_X6_examineScrapping : zWd (.code yX6_examineScrapping cX6_examineScrapping 3 none) := ⟨pm_3 _ (List.mem_of_getElem? (i := 38) (by decide +kernel)), rfl⟩
theorem lk_X6_104 : zWd (.methodLink RX6 104 yX3_find) := ⟨pm_3 _ (List.mem_of_getElem? (i := 39) (by decide +kernel)), rfl⟩
theorem lk_X6_33 : zWd (.methodLink RX6 33 yX6_examineFolding) := ⟨pm_3 _ (List.mem_of_getElem? (i := 40) (by decide +kernel)), rfl⟩
theorem im_X6_examineFolding : zWd (.instanceMethod yX6_examineFolding) := ⟨pm_3 _ (List.mem_of_getElem? (i := 42) (by decide +kernel)), rfl⟩
theorem cd_X6_examineFolding : zWd (.code yX6_examineFolding cX6_examineFolding 4 none) := ⟨pm_3 _ (List.mem_of_getElem? (i := 43) (by decide +kernel)), rfl⟩
theorem lk_X6_36 : zWd (.methodLink RX6 36 yX6_examineUnfolding) := ⟨pm_3 _ (List.mem_of_getElem? (i := 44) (by decide +kernel)), rfl⟩
theorem im_X6_examineUnfolding : zWd (.instanceMethod yX6_examineUnfolding) := ⟨pm_3 _ (List.mem_of_getElem? (i := 46) (by decide +kernel)), rfl⟩
theorem cd_X6_examineUnfolding : zWd (.code yX6_examineUnfolding cX6_examineUnfolding 4 none) := ⟨pm_3 _ (List.mem_of_getElem? (i := 47) (by decide +kernel)), rfl⟩
theorem lk_X6_39 : zWd (.methodLink RX6 39 yX6_examineOiling) := ⟨pm_3 _ (List.mem_of_getElem? (i := 48) (by decide +kernel)), rfl⟩
theorem im_X6_examineOiling : zWd (.instanceMethod yX6_examineOiling) := ⟨pm_3 _ (List.mem_of_getElem? (i := 50) (by decide +kernel)), rfl⟩
theorem cd_X6_examineOiling : zWd (.code yX6_examineOiling cX6_examineOiling 4 none) := ⟨pm_3 _ (List.mem_of_getElem? (i := 51) (by decide +kernel)), rfl⟩
theorem lk_X6_42 : zWd (.methodLink RX6 42 yX6_examineMove) := ⟨pm_3 _ (List.mem_of_getElem? (i := 52) (by decide +kernel)), rfl⟩
theorem im_X6_examineMove : zWd (.instanceMethod yX6_examineMove) := ⟨pm_3 _ (List.mem_of_getElem? (i := 54) (by decide +kernel)), rfl⟩
theorem cd_X6_examineMove : zWd (.code yX6_examineMove cX6_examineMove 5 none) := ⟨pm_3 _ (List.mem_of_getElem? (i := 55) (by decide +kernel)), rfl⟩
theorem lk_X6_45 : zWd (.methodLink RX6 45 yX6_examineMigration) := ⟨pm_3 _ (List.mem_of_getElem? (i := 56) (by decide +kernel)), rfl⟩
theorem im_X6_examineMigration : zWd (.instanceMethod yX6_examineMigration) := ⟨pm_3 _ (List.mem_of_getElem? (i := 58) (by decide +kernel)), rfl⟩
theorem cd_X6_examineMigration : zWd (.code yX6_examineMigration cX6_examineMigration 4 none) := ⟨pm_3 _ (List.mem_of_getElem? (i := 59) (by decide +kernel)), rfl⟩
theorem lk_X6_123 : zWd (.methodLink RX6 123 yX3_countGrazingOn) := ⟨pm_3 _ (List.mem_of_getElem? (i := 60) (by decide +kernel)), rfl⟩
theorem im_X3_countGrazingOn : zWd (.instanceMethod yX3_countGrazingOn) := ⟨pm_3 _ (List.mem_of_getElem? (i := 61) (by decide +kernel)), rfl⟩
theorem se_X3_X3_countGrazingOn : zWd (.selects RX3 yX3_countGrazingOn yX3_countGrazingOn) := ⟨pm_3 _ (List.mem_of_getElem? (i := 62) (by decide +kernel)), rfl⟩
theorem cd_X3_countGrazingOn : zWd (.code yX3_countGrazingOn cX3_countGrazingOn 4 (some .int)) := ⟨pm_3 _ (List.mem_of_getElem? (i := 63) (by decide +kernel)), rfl⟩
theorem lk_X3_161 : zWd (.methodLink RX3 161 yX0_grazesOn) := ⟨pm_3 _ (List.mem_of_getElem? (i := 64) (by decide +kernel)), rfl⟩
theorem im_X0_grazesOn : zWd (.instanceMethod yX0_grazesOn) := ⟨pm_3 _ (List.mem_of_getElem? (i := 65) (by decide +kernel)), rfl⟩
theorem se_X0_X0_grazesOn : zWd (.selects RX0 yX0_grazesOn yX0_grazesOn) := ⟨pm_3 _ (List.mem_of_getElem? (i := 66) (by decide +kernel)), rfl⟩
theorem cd_X0_grazesOn : zWd (.code yX0_grazesOn cX0_grazesOn 2 (some .boolean)) := ⟨pm_3 _ (List.mem_of_getElem? (i := 67) (by decide +kernel)), rfl⟩
theorem lk_X6_48 : zWd (.methodLink RX6 48 yX6_examineNewOil) := ⟨pm_3 _ (List.mem_of_getElem? (i := 68) (by decide +kernel)), rfl⟩
theorem im_X6_examineNewOil : zWd (.instanceMethod yX6_examineNewOil) := ⟨pm_3 _ (List.mem_of_getElem? (i := 70) (by decide +kernel)), rfl⟩
theorem cd_X6_examineNewOil : zWd (.code yX6_examineNewOil cX6_examineNewOil 3 none) := ⟨pm_3 _ (List.mem_of_getElem? (i := 71) (by decide +kernel)), rfl⟩
theorem lk_X6_51 : zWd (.methodLink RX6 51 yX6_examineDays) := ⟨pm_3 _ (List.mem_of_getElem? (i := 72) (by decide +kernel)), rfl⟩
theorem im_X6_examineDays : zWd (.instanceMethod yX6_examineDays) := ⟨pm_3 _ (List.mem_of_getElem? (i := 74) (by decide +kernel)), rfl⟩
theorem cd_X6_examineDays : zWd (.code yX6_examineDays cX6_examineDays 2 none) := ⟨pm_3 _ (List.mem_of_getElem? (i := 75) (by decide +kernel)), rfl⟩
theorem lk_X6_126 : (.methodLinkNest RX6 126 yX9_areDays "ChairMigration" : Cond) ∈ lw_tbl := pm_3 _ (List.mem_of_getElem? (i := 76) (by decide +kernel))
theorem st_X9_areDays : zWd (.static yX9_areDays) := ⟨pm_3 _ (List.mem_of_getElem? (i := 77) (by decide +kernel)), rfl⟩
theorem cd_X9_areDays : zWd (.code yX9_areDays cX9_areDays 1 (some .boolean)) := ⟨pm_3 _ (List.mem_of_getElem? (i := 78) (by decide +kernel)), rfl⟩
theorem lk_X9_260 : zWd (.classLink RX9 260 "java/lang/IndexOutOfBoundsException") := ⟨pm_3 _ (List.mem_of_getElem? (i := 79) (by decide +kernel)), rfl⟩
theorem it_java_lang_IndexOutOfBoundsException : zWd (.instantiable "java/lang/IndexOutOfBoundsException" 6) := ⟨pm_3 _ (List.mem_of_getElem? (i := 80) (by decide +kernel)), rfl⟩
theorem ca_java_lang_IndexOutOfBoundsException_java_lang_IndexOutOfBoundsException : (.castable "java/lang/IndexOutOfBoundsException" "java/lang/IndexOutOfBoundsException" : Cond) ∈ lw_tbl := pm_3 _ (List.mem_of_getElem? (i := 81) (by decide +kernel))
theorem ly_java_lang_IndexOutOfBoundsException_cause : zWd (.lays "java/lang/IndexOutOfBoundsException" "java/lang/Throwable" "cause" "Ljava/lang/Throwable;") := ⟨pm_3 _ (List.mem_of_getElem? (i := 83) (by decide +kernel)), rfl⟩
theorem ly_java_lang_IndexOutOfBoundsException_stackTrace : zWd (.lays "java/lang/IndexOutOfBoundsException" "java/lang/Throwable" "stackTrace" "[Ljava/lang/StackTraceElement;") := ⟨pm_3 _ (List.mem_of_getElem? (i := 84) (by decide +kernel)), rfl⟩
theorem ly_java_lang_IndexOutOfBoundsException_suppressedExceptions : zWd (.lays "java/lang/IndexOutOfBoundsException" "java/lang/Throwable" "suppressedExceptions" "Ljava/util/List;") := ⟨pm_3 _ (List.mem_of_getElem? (i := 85) (by decide +kernel)), rfl⟩
theorem ly_java_lang_IndexOutOfBoundsException_detailMessage : zWd (.lays "java/lang/IndexOutOfBoundsException" "java/lang/Throwable" "detailMessage" "Ljava/lang/String;") := ⟨pm_3 _ (List.mem_of_getElem? (i := 86) (by decide +kernel)), rfl⟩
theorem ly_java_lang_IndexOutOfBoundsException_backtrace : zWd (.lays "java/lang/IndexOutOfBoundsException" "java/lang/Throwable" "backtrace" "Ljava/lang/Object;") := ⟨pm_3 _ (List.mem_of_getElem? (i := 87) (by decide +kernel)), rfl⟩
theorem lk_X9_349 : (.stringRef RX9 349 "no such lawn or chair" : Cond) ∈ lw_tbl := pm_3 _ (List.mem_of_getElem? (i := 88) (by decide +kernel))
theorem ly_java_lang_IndexOutOfBoundsException_depth : zWd (.lays "java/lang/IndexOutOfBoundsException" "java/lang/Throwable" "depth" "I") := ⟨pm_3 _ (List.mem_of_getElem? (i := 90) (by decide +kernel)), rfl⟩
theorem su_java_lang_IndexOutOfBoundsException_java_lang_RuntimeException : zWd (.superclass "java/lang/IndexOutOfBoundsException" "java/lang/RuntimeException") := ⟨pm_3 _ (List.mem_of_getElem? (i := 91) (by decide +kernel)), rfl⟩
theorem lk_X9_180 : zWd (.classLink RX9 180 "java/lang/IllegalArgumentException") := ⟨pm_3 _ (List.mem_of_getElem? (i := 92) (by decide +kernel)), rfl⟩
theorem it_java_lang_IllegalArgumentException : zWd (.instantiable "java/lang/IllegalArgumentException" 6) := ⟨pm_3 _ (List.mem_of_getElem? (i := 93) (by decide +kernel)), rfl⟩
theorem ca_java_lang_IllegalArgumentException_java_lang_IllegalArgumentException : (.castable "java/lang/IllegalArgumentException" "java/lang/IllegalArgumentException" : Cond) ∈ lw_tbl := pm_3 _ (List.mem_of_getElem? (i := 94) (by decide +kernel))
theorem ly_java_lang_IllegalArgumentException_cause : zWd (.lays "java/lang/IllegalArgumentException" "java/lang/Throwable" "cause" "Ljava/lang/Throwable;") := ⟨pm_3 _ (List.mem_of_getElem? (i := 96) (by decide +kernel)), rfl⟩
theorem ly_java_lang_IllegalArgumentException_stackTrace : zWd (.lays "java/lang/IllegalArgumentException" "java/lang/Throwable" "stackTrace" "[Ljava/lang/StackTraceElement;") := ⟨pm_3 _ (List.mem_of_getElem? (i := 97) (by decide +kernel)), rfl⟩
theorem ly_java_lang_IllegalArgumentException_suppressedExceptions : zWd (.lays "java/lang/IllegalArgumentException" "java/lang/Throwable" "suppressedExceptions" "Ljava/util/List;") := ⟨pm_3 _ (List.mem_of_getElem? (i := 98) (by decide +kernel)), rfl⟩
theorem ly_java_lang_IllegalArgumentException_detailMessage : zWd (.lays "java/lang/IllegalArgumentException" "java/lang/Throwable" "detailMessage" "Ljava/lang/String;") := ⟨pm_3 _ (List.mem_of_getElem? (i := 99) (by decide +kernel)), rfl⟩
theorem ly_java_lang_IllegalArgumentException_backtrace : zWd (.lays "java/lang/IllegalArgumentException" "java/lang/Throwable" "backtrace" "Ljava/lang/Object;") := ⟨pm_3 _ (List.mem_of_getElem? (i := 100) (by decide +kernel)), rfl⟩
theorem lk_X9_351 : (.stringRef RX9 351 "not accepted" : Cond) ∈ lw_tbl := pm_3 _ (List.mem_of_getElem? (i := 101) (by decide +kernel))
theorem ly_java_lang_IllegalArgumentException_depth : zWd (.lays "java/lang/IllegalArgumentException" "java/lang/Throwable" "depth" "I") := ⟨pm_3 _ (List.mem_of_getElem? (i := 106) (by decide +kernel)), rfl⟩
theorem su_java_lang_IllegalArgumentException_java_lang_RuntimeException : zWd (.superclass "java/lang/IllegalArgumentException" "java/lang/RuntimeException") := ⟨pm_3 _ (List.mem_of_getElem? (i := 107) (by decide +kernel)), rfl⟩
theorem lk_X9_359 : zWd (.methodLink RX9 359 yX9_rememberRejection) := ⟨pm_3 _ (List.mem_of_getElem? (i := 108) (by decide +kernel)), rfl⟩
theorem im_X9_rememberRejection : zWd (.instanceMethod yX9_rememberRejection) := ⟨pm_3 _ (List.mem_of_getElem? (i := 110) (by decide +kernel)), rfl⟩
theorem cd_X9_rememberRejection : zWd (.code yX9_rememberRejection cX9_rememberRejection 4 none) := ⟨pm_3 _ (List.mem_of_getElem? (i := 111) (by decide +kernel)), rfl⟩
theorem lk_X9_363 : zWd (.classLink RX9 363 "java/lang/UnsupportedOperationException") := ⟨pm_3 _ (List.mem_of_getElem? (i := 112) (by decide +kernel)), rfl⟩
theorem it_java_lang_UnsupportedOperationException : zWd (.instantiable "java/lang/UnsupportedOperationException" 6) := ⟨pm_3 _ (List.mem_of_getElem? (i := 113) (by decide +kernel)), rfl⟩
theorem ca_java_lang_UnsupportedOperationException_java_lang_UnsupportedOperationException : (.castable "java/lang/UnsupportedOperationException" "java/lang/UnsupportedOperationException" : Cond) ∈ lw_tbl := pm_3 _ (List.mem_of_getElem? (i := 114) (by decide +kernel))
theorem ly_java_lang_UnsupportedOperationException_cause : zWd (.lays "java/lang/UnsupportedOperationException" "java/lang/Throwable" "cause" "Ljava/lang/Throwable;") := ⟨pm_3 _ (List.mem_of_getElem? (i := 116) (by decide +kernel)), rfl⟩
theorem ly_java_lang_UnsupportedOperationException_stackTrace : zWd (.lays "java/lang/UnsupportedOperationException" "java/lang/Throwable" "stackTrace" "[Ljava/lang/StackTraceElement;") := ⟨pm_3 _ (List.mem_of_getElem? (i := 117) (by decide +kernel)), rfl⟩
theorem ly_java_lang_UnsupportedOperationException_suppressedExceptions : zWd (.lays "java/lang/UnsupportedOperationException" "java/lang/Throwable" "suppressedExceptions" "Ljava/util/List;") := ⟨pm_3 _ (List.mem_of_getElem? (i := 118) (by decide +kernel)), rfl⟩
theorem ly_java_lang_UnsupportedOperationException_detailMessage : zWd (.lays "java/lang/UnsupportedOperationException" "java/lang/Throwable" "detailMessage" "Ljava/lang/String;") := ⟨pm_3 _ (List.mem_of_getElem? (i := 119) (by decide +kernel)), rfl⟩
theorem ly_java_lang_UnsupportedOperationException_backtrace : zWd (.lays "java/lang/UnsupportedOperationException" "java/lang/Throwable" "backtrace" "Ljava/lang/Object;") := ⟨pm_3 _ (List.mem_of_getElem? (i := 120) (by decide +kernel)), rfl⟩
theorem lk_X9_365 : (.stringRef RX9 365 "rejected" : Cond) ∈ lw_tbl := pm_3 _ (List.mem_of_getElem? (i := 121) (by decide +kernel))
theorem ly_java_lang_UnsupportedOperationException_depth : zWd (.lays "java/lang/UnsupportedOperationException" "java/lang/Throwable" "depth" "I") := ⟨pm_3 _ (List.mem_of_getElem? (i := 126) (by decide +kernel)), rfl⟩
theorem su_java_lang_UnsupportedOperationException_java_lang_RuntimeException : zWd (.superclass "java/lang/UnsupportedOperationException" "java/lang/RuntimeException") := ⟨pm_3 _ (List.mem_of_getElem? (i := 127) (by decide +kernel)), rfl⟩
theorem lk_X9_298 : zWd (.methodLink RX9 298 yX4_keep) := ⟨pm_3 _ (List.mem_of_getElem? (i := 128) (by decide +kernel)), rfl⟩
theorem im_X4_keep : zWd (.instanceMethod yX4_keep) := ⟨pm_3 _ (List.mem_of_getElem? (i := 129) (by decide +kernel)), rfl⟩
theorem se_X4_X4_keep : zWd (.selects RX4 yX4_keep yX4_keep) := ⟨pm_3 _ (List.mem_of_getElem? (i := 130) (by decide +kernel)), rfl⟩
theorem cd_X4_keep : zWd (.code yX4_keep cX4_keep 2 none) := ⟨pm_3 _ (List.mem_of_getElem? (i := 131) (by decide +kernel)), rfl⟩
theorem lk_X4_22 : zWd (.methodLink RX4 22 yX4_dropOldest) := ⟨pm_3 _ (List.mem_of_getElem? (i := 132) (by decide +kernel)), rfl⟩
theorem im_X4_dropOldest : zWd (.instanceMethod yX4_dropOldest) := ⟨pm_3 _ (List.mem_of_getElem? (i := 134) (by decide +kernel)), rfl⟩
theorem cd_X4_dropOldest : zWd (.code yX4_dropOldest cX4_dropOldest 3 none) := ⟨pm_3 _ (List.mem_of_getElem? (i := 135) (by decide +kernel)), rfl⟩
theorem lk_X4_25 : zWd (.methodLink RX4 25 yX3_become) := ⟨pm_3 _ (List.mem_of_getElem? (i := 136) (by decide +kernel)), rfl⟩
theorem lk_X9_368 : zWd (.methodLink RX9 368 yX3_perform) := ⟨pm_3 _ (List.mem_of_getElem? (i := 137) (by decide +kernel)), rfl⟩
theorem im_X3_perform : zWd (.instanceMethod yX3_perform) := ⟨pm_3 _ (List.mem_of_getElem? (i := 138) (by decide +kernel)), rfl⟩
theorem se_X3_X3_perform : zWd (.selects RX3 yX3_perform yX3_perform) := ⟨pm_3 _ (List.mem_of_getElem? (i := 139) (by decide +kernel)), rfl⟩
theorem cd_X3_perform : zWd (.code yX3_perform cX3_perform 4 (some .int)) := ⟨pm_3 _ (List.mem_of_getElem? (i := 140) (by decide +kernel)), rfl⟩
theorem lk_X3_74 : zWd (.methodLink RX3 74 yX8_add) := ⟨pm_3 _ (List.mem_of_getElem? (i := 141) (by decide +kernel)), rfl⟩
theorem im_X8_add : zWd (.instanceMethod yX8_add) := ⟨pm_3 _ (List.mem_of_getElem? (i := 142) (by decide +kernel)), rfl⟩
theorem se_X8_X8_add : zWd (.selects RX8 yX8_add yX8_add) := ⟨pm_3 _ (List.mem_of_getElem? (i := 143) (by decide +kernel)), rfl⟩
theorem cd_X8_add : zWd (.code yX8_add cX8_add 3 (some .int)) := ⟨pm_3 _ (List.mem_of_getElem? (i := 144) (by decide +kernel)), rfl⟩
theorem lk_X8_34 : zWd (.methodLink RX8 34 yX7_set) := ⟨pm_3 _ (List.mem_of_getElem? (i := 145) (by decide +kernel)), rfl⟩
theorem lk_X3_78 : zWd (.methodLink RX3 78 yX8_remove) := ⟨pm_3 _ (List.mem_of_getElem? (i := 146) (by decide +kernel)), rfl⟩
theorem im_X8_remove : zWd (.instanceMethod yX8_remove) := ⟨pm_3 _ (List.mem_of_getElem? (i := 147) (by decide +kernel)), rfl⟩
theorem se_X8_X8_remove : zWd (.selects RX8 yX8_remove yX8_remove) := ⟨pm_3 _ (List.mem_of_getElem? (i := 148) (by decide +kernel)), rfl⟩
theorem cd_X8_remove : zWd (.code yX8_remove cX8_remove 3 (some .int)) := ⟨pm_3 _ (List.mem_of_getElem? (i := 149) (by decide +kernel)), rfl⟩
theorem lk_X3_81 : zWd (.methodLink RX3 81 yX3_changeShade) := ⟨pm_3 _ (List.mem_of_getElem? (i := 150) (by decide +kernel)), rfl⟩
theorem im_X3_changeShade : zWd (.instanceMethod yX3_changeShade) := ⟨pm_3 _ (List.mem_of_getElem? (i := 152) (by decide +kernel)), rfl⟩
theorem cd_X3_changeShade : zWd (.code yX3_changeShade cX3_changeShade 4 (some .int)) := ⟨pm_3 _ (List.mem_of_getElem? (i := 153) (by decide +kernel)), rfl⟩
theorem lk_X3_107 : zWd (.methodLink RX3 107 yX7_at) := ⟨pm_3 _ (List.mem_of_getElem? (i := 154) (by decide +kernel)), rfl⟩
theorem lk_X3_84 : zWd (.methodLink RX3 84 yX3_settle) := ⟨pm_3 _ (List.mem_of_getElem? (i := 155) (by decide +kernel)), rfl⟩
theorem im_X3_settle : zWd (.instanceMethod yX3_settle) := ⟨pm_3 _ (List.mem_of_getElem? (i := 157) (by decide +kernel)), rfl⟩
theorem cd_X3_settle : zWd (.code yX3_settle cX3_settle 4 (some .int)) := ⟨pm_3 _ (List.mem_of_getElem? (i := 158) (by decide +kernel)), rfl⟩
theorem lk_X3_126 : zWd (.methodLink RX3 126 yX7_grow) := ⟨pm_3 _ (List.mem_of_getElem? (i := 159) (by decide +kernel)), rfl⟩
theorem im_X7_grow : zWd (.instanceMethod yX7_grow) := ⟨pm_3 _ (List.mem_of_getElem? (i := 160) (by decide +kernel)), rfl⟩
theorem se_X7_X7_grow : zWd (.selects RX7 yX7_grow yX7_grow) := ⟨pm_3 _ (List.mem_of_getElem? (i := 161) (by decide +kernel)), rfl⟩
theorem cd_X7_grow : zWd (.code yX7_grow cX7_grow 3 none) := ⟨pm_3 _ (List.mem_of_getElem? (i := 162) (by decide +kernel)), rfl⟩
theorem lk_X3_87 : zWd (.methodLink RX3 87 yX3_scrap) := ⟨pm_3 _ (List.mem_of_getElem? (i := 163) (by decide +kernel)), rfl⟩
theorem im_X3_scrap : zWd (.instanceMethod yX3_scrap) := ⟨pm_3 _ (List.mem_of_getElem? (i := 165) (by decide +kernel)), rfl⟩
theorem cd_X3_scrap : zWd (.code yX3_scrap cX3_scrap 4 (some .int)) := ⟨pm_3 _ (List.mem_of_getElem? (i := 166) (by decide +kernel)), rfl⟩
theorem lk_X3_132 : zWd (.methodLink RX3 132 yX3_shiftToEnd) := ⟨pm_3 _ (List.mem_of_getElem? (i := 167) (by decide +kernel)), rfl⟩
theorem im_X3_shiftToEnd : zWd (.instanceMethod yX3_shiftToEnd) := ⟨pm_3 _ (List.mem_of_getElem? (i := 169) (by decide +kernel)), rfl⟩
theorem cd_X3_shiftToEnd : zWd (.code yX3_shiftToEnd cX3_shiftToEnd 4 none) := ⟨pm_3 _ (List.mem_of_getElem? (i := 170) (by decide +kernel)), rfl⟩
theorem lk_X3_91 : zWd (.methodLink RX3 91 yX3_setFolded) := ⟨pm_3 _ (List.mem_of_getElem? (i := 171) (by decide +kernel)), rfl⟩
theorem im_X3_setFolded : zWd (.instanceMethod yX3_setFolded) := ⟨pm_3 _ (List.mem_of_getElem? (i := 173) (by decide +kernel)), rfl⟩
theorem cd_X3_setFolded : zWd (.code yX3_setFolded cX3_setFolded 4 (some .int)) := ⟨pm_3 _ (List.mem_of_getElem? (i := 174) (by decide +kernel)), rfl⟩
