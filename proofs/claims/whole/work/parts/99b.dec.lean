theorem dL_addPath_0 : decode cL_addPath 0 = .ok (.aload_n 3, 1) := by decide +kernel
theorem dL_addPath_1 : decode cL_addPath 1 = .ok (.iconst 0, 1) := by decide +kernel
theorem dL_addPath_2 : decode cL_addPath 2 = .ok (.aload_n 0, 1) := by decide +kernel
theorem dL_addPath_3 : decode cL_addPath 3 = .ok (.iload_n 1, 1) := by decide +kernel
theorem dL_addPath_4 : decode cL_addPath 4 = .ok (.iload_n 2, 1) := by decide +kernel
theorem dL_addPath_5 : decode cL_addPath 5 = .ok (.invokevirtual 7, 3) := by decide +kernel
theorem dL_addPath_8 : decode cL_addPath 8 = .ok (.i2l, 1) := by decide +kernel
theorem dL_addPath_9 : decode cL_addPath 9 = .ok (.lastore, 1) := by decide +kernel
theorem dL_addPath_10 : decode cL_addPath 10 = .ok (.goto 15, 3) := by decide +kernel
theorem dL_addPath_13 : decode cL_addPath 13 = .ok (.astore 4, 2) := by decide +kernel
theorem dL_addPath_15 : decode cL_addPath 15 = .ok (.iconst 1, 1) := by decide +kernel
theorem dL_addPath_16 : decode cL_addPath 16 = .ok (.ireturn, 1) := by decide +kernel
theorem dL_addPath_17 : decode cL_addPath 17 = .ok (.astore 4, 2) := by decide +kernel
theorem dL_addPath_19 : decode cL_addPath 19 = .ok (.iconst 2, 1) := by decide +kernel
theorem dL_addPath_20 : decode cL_addPath 20 = .ok (.ireturn, 1) := by decide +kernel
theorem dL_addPath_21 : decode cL_addPath 21 = .ok (.astore 4, 2) := by decide +kernel
theorem dL_addPath_23 : decode cL_addPath 23 = .ok (.iconst 3, 1) := by decide +kernel
theorem dL_addPath_24 : decode cL_addPath 24 = .ok (.ireturn, 1) := by decide +kernel
theorem dL_addPath_25 : decode cL_addPath 25 = .ok (.iconst 0, 1) := by decide +kernel
theorem dL_addPath_26 : decode cL_addPath 26 = .ok (.ireturn, 1) := by decide +kernel
theorem dL_removePath_0 : decode cL_removePath 0 = .ok (.aload_n 3, 1) := by decide +kernel
theorem dL_removePath_1 : decode cL_removePath 1 = .ok (.iconst 0, 1) := by decide +kernel
theorem dL_removePath_2 : decode cL_removePath 2 = .ok (.aload_n 0, 1) := by decide +kernel
theorem dL_removePath_3 : decode cL_removePath 3 = .ok (.iload_n 1, 1) := by decide +kernel
theorem dL_removePath_4 : decode cL_removePath 4 = .ok (.iload_n 2, 1) := by decide +kernel
theorem dL_removePath_5 : decode cL_removePath 5 = .ok (.invokevirtual 19, 3) := by decide +kernel
theorem dL_removePath_8 : decode cL_removePath 8 = .ok (.i2l, 1) := by decide +kernel
theorem dL_removePath_9 : decode cL_removePath 9 = .ok (.lastore, 1) := by decide +kernel
theorem dL_removePath_10 : decode cL_removePath 10 = .ok (.goto 15, 3) := by decide +kernel
theorem dL_removePath_13 : decode cL_removePath 13 = .ok (.astore 4, 2) := by decide +kernel
theorem dL_removePath_15 : decode cL_removePath 15 = .ok (.iconst 1, 1) := by decide +kernel
theorem dL_removePath_16 : decode cL_removePath 16 = .ok (.ireturn, 1) := by decide +kernel
theorem dL_removePath_17 : decode cL_removePath 17 = .ok (.astore 4, 2) := by decide +kernel
theorem dL_removePath_19 : decode cL_removePath 19 = .ok (.iconst 2, 1) := by decide +kernel
theorem dL_removePath_20 : decode cL_removePath 20 = .ok (.ireturn, 1) := by decide +kernel
theorem dL_removePath_21 : decode cL_removePath 21 = .ok (.astore 4, 2) := by decide +kernel
theorem dL_removePath_23 : decode cL_removePath 23 = .ok (.iconst 3, 1) := by decide +kernel
theorem dL_removePath_24 : decode cL_removePath 24 = .ok (.ireturn, 1) := by decide +kernel
theorem dL_removePath_25 : decode cL_removePath 25 = .ok (.iconst 0, 1) := by decide +kernel
theorem dL_removePath_26 : decode cL_removePath 26 = .ok (.ireturn, 1) := by decide +kernel
theorem dL_isPath_0 : decode cL_isPath 0 = .ok (.aload_n 3, 1) := by decide +kernel
theorem dL_isPath_1 : decode cL_isPath 1 = .ok (.iconst 0, 1) := by decide +kernel
theorem dL_isPath_2 : decode cL_isPath 2 = .ok (.aload_n 0, 1) := by decide +kernel
theorem dL_isPath_3 : decode cL_isPath 3 = .ok (.iload_n 1, 1) := by decide +kernel
theorem dL_isPath_4 : decode cL_isPath 4 = .ok (.iload_n 2, 1) := by decide +kernel
theorem dL_isPath_5 : decode cL_isPath 5 = .ok (.invokevirtual 22, 3) := by decide +kernel
theorem dL_isPath_8 : decode cL_isPath 8 = .ok (.ifCond .eq 7, 3) := by decide +kernel
theorem dL_isPath_11 : decode cL_isPath 11 = .ok (.lconst 1, 1) := by decide +kernel
theorem dL_isPath_12 : decode cL_isPath 12 = .ok (.goto 4, 3) := by decide +kernel
theorem dL_isPath_15 : decode cL_isPath 15 = .ok (.lconst 0, 1) := by decide +kernel
theorem dL_isPath_16 : decode cL_isPath 16 = .ok (.lastore, 1) := by decide +kernel
theorem dL_isPath_17 : decode cL_isPath 17 = .ok (.goto 7, 3) := by decide +kernel
theorem dL_isPath_20 : decode cL_isPath 20 = .ok (.astore 4, 2) := by decide +kernel
theorem dL_isPath_22 : decode cL_isPath 22 = .ok (.iconst 1, 1) := by decide +kernel
theorem dL_isPath_23 : decode cL_isPath 23 = .ok (.ireturn, 1) := by decide +kernel
theorem dL_isPath_24 : decode cL_isPath 24 = .ok (.iconst 0, 1) := by decide +kernel
theorem dL_isPath_25 : decode cL_isPath 25 = .ok (.ireturn, 1) := by decide +kernel
theorem dL_distance_0 : decode cL_distance 0 = .ok (.aload_n 3, 1) := by decide +kernel
theorem dL_distance_1 : decode cL_distance 1 = .ok (.iconst 0, 1) := by decide +kernel
theorem dL_distance_2 : decode cL_distance 2 = .ok (.aload_n 0, 1) := by decide +kernel
theorem dL_distance_3 : decode cL_distance 3 = .ok (.iload_n 1, 1) := by decide +kernel
theorem dL_distance_4 : decode cL_distance 4 = .ok (.iload_n 2, 1) := by decide +kernel
theorem dL_distance_5 : decode cL_distance 5 = .ok (.invokevirtual 26, 3) := by decide +kernel
theorem dL_distance_8 : decode cL_distance 8 = .ok (.i2l, 1) := by decide +kernel
theorem dL_distance_9 : decode cL_distance 9 = .ok (.lastore, 1) := by decide +kernel
theorem dL_distance_10 : decode cL_distance 10 = .ok (.goto 11, 3) := by decide +kernel
theorem dL_distance_13 : decode cL_distance 13 = .ok (.astore 4, 2) := by decide +kernel
theorem dL_distance_15 : decode cL_distance 15 = .ok (.iconst 1, 1) := by decide +kernel
theorem dL_distance_16 : decode cL_distance 16 = .ok (.ireturn, 1) := by decide +kernel
theorem dL_distance_17 : decode cL_distance 17 = .ok (.astore 4, 2) := by decide +kernel
theorem dL_distance_19 : decode cL_distance 19 = .ok (.iconst 2, 1) := by decide +kernel
theorem dL_distance_20 : decode cL_distance 20 = .ok (.ireturn, 1) := by decide +kernel
theorem dL_distance_21 : decode cL_distance 21 = .ok (.iconst 0, 1) := by decide +kernel
theorem dL_distance_22 : decode cL_distance 22 = .ok (.ireturn, 1) := by decide +kernel
theorem dL_distanceByImprovement_0 : decode cL_distanceByImprovement 0 = .ok (.aload_n 3, 1) := by decide +kernel
theorem dL_distanceByImprovement_1 : decode cL_distanceByImprovement 1 = .ok (.iconst 0, 1) := by decide +kernel
theorem dL_distanceByImprovement_2 : decode cL_distanceByImprovement 2 = .ok (.aload_n 0, 1) := by decide +kernel
theorem dL_distanceByImprovement_3 : decode cL_distanceByImprovement 3 = .ok (.iload_n 1, 1) := by decide +kernel
theorem dL_distanceByImprovement_4 : decode cL_distanceByImprovement 4 = .ok (.iload_n 2, 1) := by decide +kernel
theorem dL_distanceByImprovement_5 : decode cL_distanceByImprovement 5 = .ok (.invokevirtual 31, 3) := by decide +kernel
theorem dL_distanceByImprovement_8 : decode cL_distanceByImprovement 8 = .ok (.i2l, 1) := by decide +kernel
theorem dL_distanceByImprovement_9 : decode cL_distanceByImprovement 9 = .ok (.lastore, 1) := by decide +kernel
theorem dL_distanceByImprovement_10 : decode cL_distanceByImprovement 10 = .ok (.goto 11, 3) := by decide +kernel
theorem dL_distanceByImprovement_13 : decode cL_distanceByImprovement 13 = .ok (.astore 4, 2) := by decide +kernel
theorem dL_distanceByImprovement_15 : decode cL_distanceByImprovement 15 = .ok (.iconst 1, 1) := by decide +kernel
theorem dL_distanceByImprovement_16 : decode cL_distanceByImprovement 16 = .ok (.ireturn, 1) := by decide +kernel
theorem dL_distanceByImprovement_17 : decode cL_distanceByImprovement 17 = .ok (.astore 4, 2) := by decide +kernel
theorem dL_distanceByImprovement_19 : decode cL_distanceByImprovement 19 = .ok (.iconst 2, 1) := by decide +kernel
theorem dL_distanceByImprovement_20 : decode cL_distanceByImprovement 20 = .ok (.ireturn, 1) := by decide +kernel
theorem dL_distanceByImprovement_21 : decode cL_distanceByImprovement 21 = .ok (.iconst 0, 1) := by decide +kernel
theorem dL_distanceByImprovement_22 : decode cL_distanceByImprovement 22 = .ok (.ireturn, 1) := by decide +kernel
theorem dL_routeAt_0 : decode cL_routeAt 0 = .ok (.aload 4, 2) := by decide +kernel
theorem dL_routeAt_2 : decode cL_routeAt 2 = .ok (.iconst 0, 1) := by decide +kernel
theorem dL_routeAt_3 : decode cL_routeAt 3 = .ok (.aload_n 0, 1) := by decide +kernel
theorem dL_routeAt_4 : decode cL_routeAt 4 = .ok (.iload_n 1, 1) := by decide +kernel
theorem dL_routeAt_5 : decode cL_routeAt 5 = .ok (.iload_n 2, 1) := by decide +kernel
theorem dL_routeAt_6 : decode cL_routeAt 6 = .ok (.iload_n 3, 1) := by decide +kernel
theorem dL_routeAt_7 : decode cL_routeAt 7 = .ok (.invokevirtual 34, 3) := by decide +kernel
theorem dL_routeAt_10 : decode cL_routeAt 10 = .ok (.i2l, 1) := by decide +kernel
theorem dL_routeAt_11 : decode cL_routeAt 11 = .ok (.lastore, 1) := by decide +kernel
theorem dL_routeAt_12 : decode cL_routeAt 12 = .ok (.goto 11, 3) := by decide +kernel
theorem dL_routeAt_15 : decode cL_routeAt 15 = .ok (.astore 5, 2) := by decide +kernel
theorem dL_routeAt_17 : decode cL_routeAt 17 = .ok (.iconst 1, 1) := by decide +kernel
theorem dL_routeAt_18 : decode cL_routeAt 18 = .ok (.ireturn, 1) := by decide +kernel
theorem dL_routeAt_19 : decode cL_routeAt 19 = .ok (.astore 5, 2) := by decide +kernel
theorem dL_routeAt_21 : decode cL_routeAt 21 = .ok (.iconst 2, 1) := by decide +kernel
theorem dL_routeAt_22 : decode cL_routeAt 22 = .ok (.ireturn, 1) := by decide +kernel
theorem dL_routeAt_23 : decode cL_routeAt 23 = .ok (.iconst 0, 1) := by decide +kernel
theorem dL_routeAt_24 : decode cL_routeAt 24 = .ok (.ireturn, 1) := by decide +kernel
theorem dL_reachableLawns_0 : decode cL_reachableLawns 0 = .ok (.aload_n 2, 1) := by decide +kernel
theorem dL_reachableLawns_1 : decode cL_reachableLawns 1 = .ok (.iconst 0, 1) := by decide +kernel
theorem dL_reachableLawns_2 : decode cL_reachableLawns 2 = .ok (.aload_n 0, 1) := by decide +kernel
theorem dL_reachableLawns_3 : decode cL_reachableLawns 3 = .ok (.iload_n 1, 1) := by decide +kernel
theorem dL_reachableLawns_4 : decode cL_reachableLawns 4 = .ok (.invokevirtual 38, 3) := by decide +kernel
theorem dL_reachableLawns_7 : decode cL_reachableLawns 7 = .ok (.i2l, 1) := by decide +kernel
theorem dL_reachableLawns_8 : decode cL_reachableLawns 8 = .ok (.lastore, 1) := by decide +kernel
theorem dL_reachableLawns_9 : decode cL_reachableLawns 9 = .ok (.goto 6, 3) := by decide +kernel
theorem dL_reachableLawns_12 : decode cL_reachableLawns 12 = .ok (.astore_n 3, 1) := by decide +kernel
theorem dL_reachableLawns_13 : decode cL_reachableLawns 13 = .ok (.iconst 1, 1) := by decide +kernel
theorem dL_reachableLawns_14 : decode cL_reachableLawns 14 = .ok (.ireturn, 1) := by decide +kernel
theorem dL_reachableLawns_15 : decode cL_reachableLawns 15 = .ok (.iconst 0, 1) := by decide +kernel
theorem dL_reachableLawns_16 : decode cL_reachableLawns 16 = .ok (.ireturn, 1) := by decide +kernel
theorem dL_setShade_0 : decode cL_setShade 0 = .ok (.aload_n 3, 1) := by decide +kernel
theorem dL_setShade_1 : decode cL_setShade 1 = .ok (.iconst 0, 1) := by decide +kernel
theorem dL_setShade_2 : decode cL_setShade 2 = .ok (.aload_n 0, 1) := by decide +kernel
theorem dL_setShade_3 : decode cL_setShade 3 = .ok (.iload_n 1, 1) := by decide +kernel
theorem dL_setShade_4 : decode cL_setShade 4 = .ok (.iload_n 2, 1) := by decide +kernel
theorem dL_setShade_5 : decode cL_setShade 5 = .ok (.invokevirtual 42, 3) := by decide +kernel
theorem dL_setShade_8 : decode cL_setShade 8 = .ok (.i2l, 1) := by decide +kernel
theorem dL_setShade_9 : decode cL_setShade 9 = .ok (.lastore, 1) := by decide +kernel
theorem dL_setShade_10 : decode cL_setShade 10 = .ok (.goto 11, 3) := by decide +kernel
theorem dL_setShade_13 : decode cL_setShade 13 = .ok (.astore 4, 2) := by decide +kernel
theorem dL_setShade_15 : decode cL_setShade 15 = .ok (.iconst 1, 1) := by decide +kernel
theorem dL_setShade_16 : decode cL_setShade 16 = .ok (.ireturn, 1) := by decide +kernel
theorem dL_setShade_17 : decode cL_setShade 17 = .ok (.astore 4, 2) := by decide +kernel
theorem dL_setShade_19 : decode cL_setShade 19 = .ok (.iconst 2, 1) := by decide +kernel
theorem dL_setShade_20 : decode cL_setShade 20 = .ok (.ireturn, 1) := by decide +kernel
theorem dL_setShade_21 : decode cL_setShade 21 = .ok (.iconst 0, 1) := by decide +kernel
theorem dL_setShade_22 : decode cL_setShade 22 = .ok (.ireturn, 1) := by decide +kernel
theorem dL_shadeOf_0 : decode cL_shadeOf 0 = .ok (.aload_n 2, 1) := by decide +kernel
theorem dL_shadeOf_1 : decode cL_shadeOf 1 = .ok (.iconst 0, 1) := by decide +kernel
theorem dL_shadeOf_2 : decode cL_shadeOf 2 = .ok (.aload_n 0, 1) := by decide +kernel
theorem dL_shadeOf_3 : decode cL_shadeOf 3 = .ok (.iload_n 1, 1) := by decide +kernel
theorem dL_shadeOf_4 : decode cL_shadeOf 4 = .ok (.invokevirtual 45, 3) := by decide +kernel
theorem dL_shadeOf_7 : decode cL_shadeOf 7 = .ok (.i2l, 1) := by decide +kernel
theorem dL_shadeOf_8 : decode cL_shadeOf 8 = .ok (.lastore, 1) := by decide +kernel
theorem dL_shadeOf_9 : decode cL_shadeOf 9 = .ok (.goto 6, 3) := by decide +kernel
theorem dL_shadeOf_12 : decode cL_shadeOf 12 = .ok (.astore_n 3, 1) := by decide +kernel
theorem dL_shadeOf_13 : decode cL_shadeOf 13 = .ok (.iconst 1, 1) := by decide +kernel
theorem dL_shadeOf_14 : decode cL_shadeOf 14 = .ok (.ireturn, 1) := by decide +kernel
theorem dL_shadeOf_15 : decode cL_shadeOf 15 = .ok (.iconst 0, 1) := by decide +kernel
theorem dL_shadeOf_16 : decode cL_shadeOf 16 = .ok (.ireturn, 1) := by decide +kernel
theorem dL_addChair_0 : decode cL_addChair 0 = .ok (.aload_n 3, 1) := by decide +kernel
theorem dL_addChair_1 : decode cL_addChair 1 = .ok (.iconst 0, 1) := by decide +kernel
theorem dL_addChair_2 : decode cL_addChair 2 = .ok (.aload_n 0, 1) := by decide +kernel
theorem dL_addChair_3 : decode cL_addChair 3 = .ok (.iload_n 1, 1) := by decide +kernel
theorem dL_addChair_4 : decode cL_addChair 4 = .ok (.iload_n 2, 1) := by decide +kernel
theorem dL_addChair_5 : decode cL_addChair 5 = .ok (.invokevirtual 48, 3) := by decide +kernel
theorem dL_addChair_8 : decode cL_addChair 8 = .ok (.i2l, 1) := by decide +kernel
theorem dL_addChair_9 : decode cL_addChair 9 = .ok (.lastore, 1) := by decide +kernel
theorem dL_addChair_10 : decode cL_addChair 10 = .ok (.goto 15, 3) := by decide +kernel
theorem dL_addChair_13 : decode cL_addChair 13 = .ok (.astore 4, 2) := by decide +kernel
theorem dL_addChair_15 : decode cL_addChair 15 = .ok (.iconst 1, 1) := by decide +kernel
theorem dL_addChair_16 : decode cL_addChair 16 = .ok (.ireturn, 1) := by decide +kernel
theorem dL_addChair_17 : decode cL_addChair 17 = .ok (.astore 4, 2) := by decide +kernel
theorem dL_addChair_19 : decode cL_addChair 19 = .ok (.iconst 2, 1) := by decide +kernel
theorem dL_addChair_20 : decode cL_addChair 20 = .ok (.ireturn, 1) := by decide +kernel
theorem dL_addChair_21 : decode cL_addChair 21 = .ok (.astore 4, 2) := by decide +kernel
theorem dL_addChair_23 : decode cL_addChair 23 = .ok (.iconst 3, 1) := by decide +kernel
theorem dL_addChair_24 : decode cL_addChair 24 = .ok (.ireturn, 1) := by decide +kernel
theorem dL_addChair_25 : decode cL_addChair 25 = .ok (.iconst 0, 1) := by decide +kernel
theorem dL_addChair_26 : decode cL_addChair 26 = .ok (.ireturn, 1) := by decide +kernel
theorem dL_scrapChair_0 : decode cL_scrapChair 0 = .ok (.aload_n 2, 1) := by decide +kernel
theorem dL_scrapChair_1 : decode cL_scrapChair 1 = .ok (.iconst 0, 1) := by decide +kernel
theorem dL_scrapChair_2 : decode cL_scrapChair 2 = .ok (.aload_n 0, 1) := by decide +kernel
theorem dL_scrapChair_3 : decode cL_scrapChair 3 = .ok (.iload_n 1, 1) := by decide +kernel
theorem dL_scrapChair_4 : decode cL_scrapChair 4 = .ok (.invokevirtual 51, 3) := by decide +kernel
theorem dL_scrapChair_7 : decode cL_scrapChair 7 = .ok (.i2l, 1) := by decide +kernel
theorem dL_scrapChair_8 : decode cL_scrapChair 8 = .ok (.lastore, 1) := by decide +kernel
theorem dL_scrapChair_9 : decode cL_scrapChair 9 = .ok (.goto 6, 3) := by decide +kernel
theorem dL_scrapChair_12 : decode cL_scrapChair 12 = .ok (.astore_n 3, 1) := by decide +kernel
theorem dL_scrapChair_13 : decode cL_scrapChair 13 = .ok (.iconst 1, 1) := by decide +kernel
theorem dL_scrapChair_14 : decode cL_scrapChair 14 = .ok (.ireturn, 1) := by decide +kernel
theorem dL_scrapChair_15 : decode cL_scrapChair 15 = .ok (.iconst 0, 1) := by decide +kernel
theorem dL_scrapChair_16 : decode cL_scrapChair 16 = .ok (.ireturn, 1) := by decide +kernel
theorem dL_fold_0 : decode cL_fold 0 = .ok (.aload_n 2, 1) := by decide +kernel
theorem dL_fold_1 : decode cL_fold 1 = .ok (.iconst 0, 1) := by decide +kernel
theorem dL_fold_2 : decode cL_fold 2 = .ok (.aload_n 0, 1) := by decide +kernel
theorem dL_fold_3 : decode cL_fold 3 = .ok (.iload_n 1, 1) := by decide +kernel
theorem dL_fold_4 : decode cL_fold 4 = .ok (.invokevirtual 54, 3) := by decide +kernel
theorem dL_fold_7 : decode cL_fold 7 = .ok (.i2l, 1) := by decide +kernel
theorem dL_fold_8 : decode cL_fold 8 = .ok (.lastore, 1) := by decide +kernel
theorem dL_fold_9 : decode cL_fold 9 = .ok (.goto 9, 3) := by decide +kernel
theorem dL_fold_12 : decode cL_fold 12 = .ok (.astore_n 3, 1) := by decide +kernel
theorem dL_fold_13 : decode cL_fold 13 = .ok (.iconst 1, 1) := by decide +kernel
theorem dL_fold_14 : decode cL_fold 14 = .ok (.ireturn, 1) := by decide +kernel
theorem dL_fold_15 : decode cL_fold 15 = .ok (.astore_n 3, 1) := by decide +kernel
theorem dL_fold_16 : decode cL_fold 16 = .ok (.iconst 2, 1) := by decide +kernel
theorem dL_fold_17 : decode cL_fold 17 = .ok (.ireturn, 1) := by decide +kernel
theorem dL_fold_18 : decode cL_fold 18 = .ok (.iconst 0, 1) := by decide +kernel
theorem dL_fold_19 : decode cL_fold 19 = .ok (.ireturn, 1) := by decide +kernel
theorem dL_unfold_0 : decode cL_unfold 0 = .ok (.aload_n 2, 1) := by decide +kernel
theorem dL_unfold_1 : decode cL_unfold 1 = .ok (.iconst 0, 1) := by decide +kernel
theorem dL_unfold_2 : decode cL_unfold 2 = .ok (.aload_n 0, 1) := by decide +kernel
theorem dL_unfold_3 : decode cL_unfold 3 = .ok (.iload_n 1, 1) := by decide +kernel
theorem dL_unfold_4 : decode cL_unfold 4 = .ok (.invokevirtual 57, 3) := by decide +kernel
theorem dL_unfold_7 : decode cL_unfold 7 = .ok (.i2l, 1) := by decide +kernel
theorem dL_unfold_8 : decode cL_unfold 8 = .ok (.lastore, 1) := by decide +kernel
theorem dL_unfold_9 : decode cL_unfold 9 = .ok (.goto 9, 3) := by decide +kernel
theorem dL_unfold_12 : decode cL_unfold 12 = .ok (.astore_n 3, 1) := by decide +kernel
theorem dL_unfold_13 : decode cL_unfold 13 = .ok (.iconst 1, 1) := by decide +kernel
theorem dL_unfold_14 : decode cL_unfold 14 = .ok (.ireturn, 1) := by decide +kernel
theorem dL_unfold_15 : decode cL_unfold 15 = .ok (.astore_n 3, 1) := by decide +kernel
theorem dL_unfold_16 : decode cL_unfold 16 = .ok (.iconst 2, 1) := by decide +kernel
theorem dL_unfold_17 : decode cL_unfold 17 = .ok (.ireturn, 1) := by decide +kernel
theorem dL_unfold_18 : decode cL_unfold 18 = .ok (.iconst 0, 1) := by decide +kernel
theorem dL_unfold_19 : decode cL_unfold 19 = .ok (.ireturn, 1) := by decide +kernel
theorem dL_moveChair_0 : decode cL_moveChair 0 = .ok (.aload_n 3, 1) := by decide +kernel
theorem dL_moveChair_1 : decode cL_moveChair 1 = .ok (.iconst 0, 1) := by decide +kernel
theorem dL_moveChair_2 : decode cL_moveChair 2 = .ok (.aload_n 0, 1) := by decide +kernel
theorem dL_moveChair_3 : decode cL_moveChair 3 = .ok (.iload_n 1, 1) := by decide +kernel
theorem dL_moveChair_4 : decode cL_moveChair 4 = .ok (.iload_n 2, 1) := by decide +kernel
theorem dL_moveChair_5 : decode cL_moveChair 5 = .ok (.invokevirtual 60, 3) := by decide +kernel
theorem dL_moveChair_8 : decode cL_moveChair 8 = .ok (.i2l, 1) := by decide +kernel
theorem dL_moveChair_9 : decode cL_moveChair 9 = .ok (.lastore, 1) := by decide +kernel
theorem dL_moveChair_10 : decode cL_moveChair 10 = .ok (.goto 11, 3) := by decide +kernel
theorem dL_moveChair_13 : decode cL_moveChair 13 = .ok (.astore 4, 2) := by decide +kernel
theorem dL_moveChair_15 : decode cL_moveChair 15 = .ok (.iconst 1, 1) := by decide +kernel
theorem dL_moveChair_16 : decode cL_moveChair 16 = .ok (.ireturn, 1) := by decide +kernel
theorem dL_moveChair_17 : decode cL_moveChair 17 = .ok (.astore 4, 2) := by decide +kernel
theorem dL_moveChair_19 : decode cL_moveChair 19 = .ok (.iconst 2, 1) := by decide +kernel
theorem dL_moveChair_20 : decode cL_moveChair 20 = .ok (.ireturn, 1) := by decide +kernel
theorem dL_moveChair_21 : decode cL_moveChair 21 = .ok (.iconst 0, 1) := by decide +kernel
theorem dL_moveChair_22 : decode cL_moveChair 22 = .ok (.ireturn, 1) := by decide +kernel
theorem dL_migrate_0 : decode cL_migrate 0 = .ok (.aload_n 3, 1) := by decide +kernel
theorem dL_migrate_1 : decode cL_migrate 1 = .ok (.iconst 0, 1) := by decide +kernel
theorem dL_migrate_2 : decode cL_migrate 2 = .ok (.aload_n 0, 1) := by decide +kernel
theorem dL_migrate_3 : decode cL_migrate 3 = .ok (.iload_n 1, 1) := by decide +kernel
theorem dL_migrate_4 : decode cL_migrate 4 = .ok (.iload_n 2, 1) := by decide +kernel
theorem dL_migrate_5 : decode cL_migrate 5 = .ok (.invokevirtual 63, 3) := by decide +kernel
theorem dL_migrate_8 : decode cL_migrate 8 = .ok (.i2l, 1) := by decide +kernel
theorem dL_migrate_9 : decode cL_migrate 9 = .ok (.lastore, 1) := by decide +kernel
theorem dL_migrate_10 : decode cL_migrate 10 = .ok (.goto 11, 3) := by decide +kernel
theorem dL_migrate_13 : decode cL_migrate 13 = .ok (.astore 4, 2) := by decide +kernel
theorem dL_migrate_15 : decode cL_migrate 15 = .ok (.iconst 1, 1) := by decide +kernel
theorem dL_migrate_16 : decode cL_migrate 16 = .ok (.ireturn, 1) := by decide +kernel
theorem dL_migrate_17 : decode cL_migrate 17 = .ok (.astore 4, 2) := by decide +kernel
theorem dL_migrate_19 : decode cL_migrate 19 = .ok (.iconst 2, 1) := by decide +kernel
theorem dL_migrate_20 : decode cL_migrate 20 = .ok (.ireturn, 1) := by decide +kernel
theorem dL_migrate_21 : decode cL_migrate 21 = .ok (.iconst 0, 1) := by decide +kernel
theorem dL_migrate_22 : decode cL_migrate 22 = .ok (.ireturn, 1) := by decide +kernel
theorem dL_oilChair_0 : decode cL_oilChair 0 = .ok (.aload_n 2, 1) := by decide +kernel
theorem dL_oilChair_1 : decode cL_oilChair 1 = .ok (.iconst 0, 1) := by decide +kernel
theorem dL_oilChair_2 : decode cL_oilChair 2 = .ok (.aload_n 0, 1) := by decide +kernel
theorem dL_oilChair_3 : decode cL_oilChair 3 = .ok (.iload_n 1, 1) := by decide +kernel
theorem dL_oilChair_4 : decode cL_oilChair 4 = .ok (.invokevirtual 66, 3) := by decide +kernel
theorem dL_oilChair_7 : decode cL_oilChair 7 = .ok (.i2l, 1) := by decide +kernel
theorem dL_oilChair_8 : decode cL_oilChair 8 = .ok (.lastore, 1) := by decide +kernel
theorem dL_oilChair_9 : decode cL_oilChair 9 = .ok (.goto 9, 3) := by decide +kernel
theorem dL_oilChair_12 : decode cL_oilChair 12 = .ok (.astore_n 3, 1) := by decide +kernel
theorem dL_oilChair_13 : decode cL_oilChair 13 = .ok (.iconst 1, 1) := by decide +kernel
theorem dL_oilChair_14 : decode cL_oilChair 14 = .ok (.ireturn, 1) := by decide +kernel
theorem dL_oilChair_15 : decode cL_oilChair 15 = .ok (.astore_n 3, 1) := by decide +kernel
theorem dL_oilChair_16 : decode cL_oilChair 16 = .ok (.iconst 2, 1) := by decide +kernel
theorem dL_oilChair_17 : decode cL_oilChair 17 = .ok (.ireturn, 1) := by decide +kernel
theorem dL_oilChair_18 : decode cL_oilChair 18 = .ok (.iconst 0, 1) := by decide +kernel
theorem dL_oilChair_19 : decode cL_oilChair 19 = .ok (.ireturn, 1) := by decide +kernel
theorem dL_addOil_0 : decode cL_addOil 0 = .ok (.aload_n 2, 1) := by decide +kernel
theorem dL_addOil_1 : decode cL_addOil 1 = .ok (.iconst 0, 1) := by decide +kernel
theorem dL_addOil_2 : decode cL_addOil 2 = .ok (.aload_n 0, 1) := by decide +kernel
theorem dL_addOil_3 : decode cL_addOil 3 = .ok (.iload_n 1, 1) := by decide +kernel
theorem dL_addOil_4 : decode cL_addOil 4 = .ok (.invokevirtual 69, 3) := by decide +kernel
theorem dL_addOil_7 : decode cL_addOil 7 = .ok (.i2l, 1) := by decide +kernel
theorem dL_addOil_8 : decode cL_addOil 8 = .ok (.lastore, 1) := by decide +kernel
theorem dL_addOil_9 : decode cL_addOil 9 = .ok (.goto 9, 3) := by decide +kernel
theorem dL_addOil_12 : decode cL_addOil 12 = .ok (.astore_n 3, 1) := by decide +kernel
theorem dL_addOil_13 : decode cL_addOil 13 = .ok (.iconst 1, 1) := by decide +kernel
theorem dL_addOil_14 : decode cL_addOil 14 = .ok (.ireturn, 1) := by decide +kernel
theorem dL_addOil_15 : decode cL_addOil 15 = .ok (.astore_n 3, 1) := by decide +kernel
theorem dL_addOil_16 : decode cL_addOil 16 = .ok (.iconst 2, 1) := by decide +kernel
theorem dL_addOil_17 : decode cL_addOil 17 = .ok (.ireturn, 1) := by decide +kernel
theorem dL_addOil_18 : decode cL_addOil 18 = .ok (.iconst 0, 1) := by decide +kernel
theorem dL_addOil_19 : decode cL_addOil 19 = .ok (.ireturn, 1) := by decide +kernel
theorem dL_lawnOf_0 : decode cL_lawnOf 0 = .ok (.aload_n 2, 1) := by decide +kernel
theorem dL_lawnOf_1 : decode cL_lawnOf 1 = .ok (.iconst 0, 1) := by decide +kernel
theorem dL_lawnOf_2 : decode cL_lawnOf 2 = .ok (.aload_n 0, 1) := by decide +kernel
theorem dL_lawnOf_3 : decode cL_lawnOf 3 = .ok (.iload_n 1, 1) := by decide +kernel
theorem dL_lawnOf_4 : decode cL_lawnOf 4 = .ok (.invokevirtual 72, 3) := by decide +kernel
theorem dL_lawnOf_7 : decode cL_lawnOf 7 = .ok (.i2l, 1) := by decide +kernel
theorem dL_lawnOf_8 : decode cL_lawnOf 8 = .ok (.lastore, 1) := by decide +kernel
theorem dL_lawnOf_9 : decode cL_lawnOf 9 = .ok (.goto 6, 3) := by decide +kernel
theorem dL_lawnOf_12 : decode cL_lawnOf 12 = .ok (.astore_n 3, 1) := by decide +kernel
theorem dL_lawnOf_13 : decode cL_lawnOf 13 = .ok (.iconst 1, 1) := by decide +kernel
theorem dL_lawnOf_14 : decode cL_lawnOf 14 = .ok (.ireturn, 1) := by decide +kernel
theorem dL_lawnOf_15 : decode cL_lawnOf 15 = .ok (.iconst 0, 1) := by decide +kernel
theorem dL_lawnOf_16 : decode cL_lawnOf 16 = .ok (.ireturn, 1) := by decide +kernel
theorem dL_rustOf_0 : decode cL_rustOf 0 = .ok (.aload_n 2, 1) := by decide +kernel
theorem dL_rustOf_1 : decode cL_rustOf 1 = .ok (.iconst 0, 1) := by decide +kernel
theorem dL_rustOf_2 : decode cL_rustOf 2 = .ok (.aload_n 0, 1) := by decide +kernel
theorem dL_rustOf_3 : decode cL_rustOf 3 = .ok (.iload_n 1, 1) := by decide +kernel
theorem dL_rustOf_4 : decode cL_rustOf 4 = .ok (.invokevirtual 75, 3) := by decide +kernel
theorem dL_rustOf_7 : decode cL_rustOf 7 = .ok (.i2l, 1) := by decide +kernel
theorem dL_rustOf_8 : decode cL_rustOf 8 = .ok (.lastore, 1) := by decide +kernel
theorem dL_rustOf_9 : decode cL_rustOf 9 = .ok (.goto 6, 3) := by decide +kernel
theorem dL_rustOf_12 : decode cL_rustOf 12 = .ok (.astore_n 3, 1) := by decide +kernel
theorem dL_rustOf_13 : decode cL_rustOf 13 = .ok (.iconst 1, 1) := by decide +kernel
theorem dL_rustOf_14 : decode cL_rustOf 14 = .ok (.ireturn, 1) := by decide +kernel
theorem dL_rustOf_15 : decode cL_rustOf 15 = .ok (.iconst 0, 1) := by decide +kernel
theorem dL_rustOf_16 : decode cL_rustOf 16 = .ok (.ireturn, 1) := by decide +kernel
theorem dL_isFolded_0 : decode cL_isFolded 0 = .ok (.aload_n 2, 1) := by decide +kernel
theorem dL_isFolded_1 : decode cL_isFolded 1 = .ok (.iconst 0, 1) := by decide +kernel
theorem dL_isFolded_2 : decode cL_isFolded 2 = .ok (.aload_n 0, 1) := by decide +kernel
theorem dL_isFolded_3 : decode cL_isFolded 3 = .ok (.iload_n 1, 1) := by decide +kernel
theorem dL_isFolded_4 : decode cL_isFolded 4 = .ok (.invokevirtual 78, 3) := by decide +kernel
theorem dL_isFolded_7 : decode cL_isFolded 7 = .ok (.ifCond .eq 7, 3) := by decide +kernel
theorem dL_isFolded_10 : decode cL_isFolded 10 = .ok (.lconst 1, 1) := by decide +kernel
theorem dL_isFolded_11 : decode cL_isFolded 11 = .ok (.goto 4, 3) := by decide +kernel
theorem dL_isFolded_14 : decode cL_isFolded 14 = .ok (.lconst 0, 1) := by decide +kernel
theorem dL_isFolded_15 : decode cL_isFolded 15 = .ok (.lastore, 1) := by decide +kernel
theorem dL_isFolded_16 : decode cL_isFolded 16 = .ok (.goto 6, 3) := by decide +kernel
theorem dL_isFolded_19 : decode cL_isFolded 19 = .ok (.astore_n 3, 1) := by decide +kernel
theorem dL_isFolded_20 : decode cL_isFolded 20 = .ok (.iconst 1, 1) := by decide +kernel
theorem dL_isFolded_21 : decode cL_isFolded 21 = .ok (.ireturn, 1) := by decide +kernel
theorem dL_isFolded_22 : decode cL_isFolded 22 = .ok (.iconst 0, 1) := by decide +kernel
theorem dL_isFolded_23 : decode cL_isFolded 23 = .ok (.ireturn, 1) := by decide +kernel
theorem dL_ageOf_0 : decode cL_ageOf 0 = .ok (.aload_n 2, 1) := by decide +kernel
theorem dL_ageOf_1 : decode cL_ageOf 1 = .ok (.iconst 0, 1) := by decide +kernel
theorem dL_ageOf_2 : decode cL_ageOf 2 = .ok (.aload_n 0, 1) := by decide +kernel
theorem dL_ageOf_3 : decode cL_ageOf 3 = .ok (.iload_n 1, 1) := by decide +kernel
theorem dL_ageOf_4 : decode cL_ageOf 4 = .ok (.invokevirtual 82, 3) := by decide +kernel
theorem dL_ageOf_7 : decode cL_ageOf 7 = .ok (.i2l, 1) := by decide +kernel
theorem dL_ageOf_8 : decode cL_ageOf 8 = .ok (.lastore, 1) := by decide +kernel
theorem dL_ageOf_9 : decode cL_ageOf 9 = .ok (.goto 6, 3) := by decide +kernel
theorem dL_ageOf_12 : decode cL_ageOf 12 = .ok (.astore_n 3, 1) := by decide +kernel
theorem dL_ageOf_13 : decode cL_ageOf 13 = .ok (.iconst 1, 1) := by decide +kernel
theorem dL_ageOf_14 : decode cL_ageOf 14 = .ok (.ireturn, 1) := by decide +kernel
theorem dL_ageOf_15 : decode cL_ageOf 15 = .ok (.iconst 0, 1) := by decide +kernel
theorem dL_ageOf_16 : decode cL_ageOf 16 = .ok (.ireturn, 1) := by decide +kernel
theorem dL_positionOf_0 : decode cL_positionOf 0 = .ok (.aload_n 2, 1) := by decide +kernel
theorem dL_positionOf_1 : decode cL_positionOf 1 = .ok (.iconst 0, 1) := by decide +kernel
theorem dL_positionOf_2 : decode cL_positionOf 2 = .ok (.aload_n 0, 1) := by decide +kernel
theorem dL_positionOf_3 : decode cL_positionOf 3 = .ok (.iload_n 1, 1) := by decide +kernel
theorem dL_positionOf_4 : decode cL_positionOf 4 = .ok (.invokevirtual 85, 3) := by decide +kernel
theorem dL_positionOf_7 : decode cL_positionOf 7 = .ok (.i2l, 1) := by decide +kernel
theorem dL_positionOf_8 : decode cL_positionOf 8 = .ok (.lastore, 1) := by decide +kernel
theorem dL_positionOf_9 : decode cL_positionOf 9 = .ok (.goto 6, 3) := by decide +kernel
theorem dL_positionOf_12 : decode cL_positionOf 12 = .ok (.astore_n 3, 1) := by decide +kernel
theorem dL_positionOf_13 : decode cL_positionOf 13 = .ok (.iconst 1, 1) := by decide +kernel
theorem dL_positionOf_14 : decode cL_positionOf 14 = .ok (.ireturn, 1) := by decide +kernel
theorem dL_positionOf_15 : decode cL_positionOf 15 = .ok (.iconst 0, 1) := by decide +kernel
theorem dL_positionOf_16 : decode cL_positionOf 16 = .ok (.ireturn, 1) := by decide +kernel
theorem dL_herdSize_0 : decode cL_herdSize 0 = .ok (.aload_n 2, 1) := by decide +kernel
theorem dL_herdSize_1 : decode cL_herdSize 1 = .ok (.iconst 0, 1) := by decide +kernel
theorem dL_herdSize_2 : decode cL_herdSize 2 = .ok (.aload_n 0, 1) := by decide +kernel
theorem dL_herdSize_3 : decode cL_herdSize 3 = .ok (.iload_n 1, 1) := by decide +kernel
theorem dL_herdSize_4 : decode cL_herdSize 4 = .ok (.invokevirtual 88, 3) := by decide +kernel
theorem dL_herdSize_7 : decode cL_herdSize 7 = .ok (.i2l, 1) := by decide +kernel
theorem dL_herdSize_8 : decode cL_herdSize 8 = .ok (.lastore, 1) := by decide +kernel
theorem dL_herdSize_9 : decode cL_herdSize 9 = .ok (.goto 6, 3) := by decide +kernel
theorem dL_herdSize_12 : decode cL_herdSize 12 = .ok (.astore_n 3, 1) := by decide +kernel
theorem dL_herdSize_13 : decode cL_herdSize 13 = .ok (.iconst 1, 1) := by decide +kernel
theorem dL_herdSize_14 : decode cL_herdSize 14 = .ok (.ireturn, 1) := by decide +kernel
theorem dL_herdSize_15 : decode cL_herdSize 15 = .ok (.iconst 0, 1) := by decide +kernel
theorem dL_herdSize_16 : decode cL_herdSize 16 = .ok (.ireturn, 1) := by decide +kernel
theorem dL_herdSizeByChairs_0 : decode cL_herdSizeByChairs 0 = .ok (.aload_n 2, 1) := by decide +kernel
theorem dL_herdSizeByChairs_1 : decode cL_herdSizeByChairs 1 = .ok (.iconst 0, 1) := by decide +kernel
theorem dL_herdSizeByChairs_2 : decode cL_herdSizeByChairs 2 = .ok (.aload_n 0, 1) := by decide +kernel
theorem dL_herdSizeByChairs_3 : decode cL_herdSizeByChairs 3 = .ok (.iload_n 1, 1) := by decide +kernel
theorem dL_herdSizeByChairs_4 : decode cL_herdSizeByChairs 4 = .ok (.invokevirtual 91, 3) := by decide +kernel
theorem dL_herdSizeByChairs_7 : decode cL_herdSizeByChairs 7 = .ok (.i2l, 1) := by decide +kernel
theorem dL_herdSizeByChairs_8 : decode cL_herdSizeByChairs 8 = .ok (.lastore, 1) := by decide +kernel
theorem dL_herdSizeByChairs_9 : decode cL_herdSizeByChairs 9 = .ok (.goto 6, 3) := by decide +kernel
theorem dL_herdSizeByChairs_12 : decode cL_herdSizeByChairs 12 = .ok (.astore_n 3, 1) := by decide +kernel
theorem dL_herdSizeByChairs_13 : decode cL_herdSizeByChairs 13 = .ok (.iconst 1, 1) := by decide +kernel
theorem dL_herdSizeByChairs_14 : decode cL_herdSizeByChairs 14 = .ok (.ireturn, 1) := by decide +kernel
theorem dL_herdSizeByChairs_15 : decode cL_herdSizeByChairs 15 = .ok (.iconst 0, 1) := by decide +kernel
theorem dL_herdSizeByChairs_16 : decode cL_herdSizeByChairs 16 = .ok (.ireturn, 1) := by decide +kernel
theorem dL_chairAt_0 : decode cL_chairAt 0 = .ok (.aload_n 3, 1) := by decide +kernel
theorem dL_chairAt_1 : decode cL_chairAt 1 = .ok (.iconst 0, 1) := by decide +kernel
theorem dL_chairAt_2 : decode cL_chairAt 2 = .ok (.aload_n 0, 1) := by decide +kernel
theorem dL_chairAt_3 : decode cL_chairAt 3 = .ok (.iload_n 1, 1) := by decide +kernel
theorem dL_chairAt_4 : decode cL_chairAt 4 = .ok (.iload_n 2, 1) := by decide +kernel
theorem dL_chairAt_5 : decode cL_chairAt 5 = .ok (.invokevirtual 94, 3) := by decide +kernel
theorem dL_chairAt_8 : decode cL_chairAt 8 = .ok (.i2l, 1) := by decide +kernel
theorem dL_chairAt_9 : decode cL_chairAt 9 = .ok (.lastore, 1) := by decide +kernel
theorem dL_chairAt_10 : decode cL_chairAt 10 = .ok (.goto 11, 3) := by decide +kernel
theorem dL_chairAt_13 : decode cL_chairAt 13 = .ok (.astore 4, 2) := by decide +kernel
theorem dL_chairAt_15 : decode cL_chairAt 15 = .ok (.iconst 1, 1) := by decide +kernel
theorem dL_chairAt_16 : decode cL_chairAt 16 = .ok (.ireturn, 1) := by decide +kernel
theorem dL_chairAt_17 : decode cL_chairAt 17 = .ok (.astore 4, 2) := by decide +kernel
theorem dL_chairAt_19 : decode cL_chairAt 19 = .ok (.iconst 2, 1) := by decide +kernel
theorem dL_chairAt_20 : decode cL_chairAt 20 = .ok (.ireturn, 1) := by decide +kernel
theorem dL_chairAt_21 : decode cL_chairAt 21 = .ok (.iconst 0, 1) := by decide +kernel
theorem dL_chairAt_22 : decode cL_chairAt 22 = .ok (.ireturn, 1) := by decide +kernel
theorem dL_elderOf_0 : decode cL_elderOf 0 = .ok (.aload_n 2, 1) := by decide +kernel
theorem dL_elderOf_1 : decode cL_elderOf 1 = .ok (.iconst 0, 1) := by decide +kernel
theorem dL_elderOf_2 : decode cL_elderOf 2 = .ok (.aload_n 0, 1) := by decide +kernel
theorem dL_elderOf_3 : decode cL_elderOf 3 = .ok (.iload_n 1, 1) := by decide +kernel
theorem dL_elderOf_4 : decode cL_elderOf 4 = .ok (.invokevirtual 97, 3) := by decide +kernel
theorem dL_elderOf_7 : decode cL_elderOf 7 = .ok (.i2l, 1) := by decide +kernel
theorem dL_elderOf_8 : decode cL_elderOf 8 = .ok (.lastore, 1) := by decide +kernel
theorem dL_elderOf_9 : decode cL_elderOf 9 = .ok (.goto 9, 3) := by decide +kernel
theorem dL_elderOf_12 : decode cL_elderOf 12 = .ok (.astore_n 3, 1) := by decide +kernel
theorem dL_elderOf_13 : decode cL_elderOf 13 = .ok (.iconst 1, 1) := by decide +kernel
theorem dL_elderOf_14 : decode cL_elderOf 14 = .ok (.ireturn, 1) := by decide +kernel
theorem dL_elderOf_15 : decode cL_elderOf 15 = .ok (.astore_n 3, 1) := by decide +kernel
theorem dL_elderOf_16 : decode cL_elderOf 16 = .ok (.iconst 2, 1) := by decide +kernel
theorem dL_elderOf_17 : decode cL_elderOf 17 = .ok (.ireturn, 1) := by decide +kernel
theorem dL_elderOf_18 : decode cL_elderOf 18 = .ok (.iconst 0, 1) := by decide +kernel
theorem dL_elderOf_19 : decode cL_elderOf 19 = .ok (.ireturn, 1) := by decide +kernel
theorem dL_hungryChairs_0 : decode cL_hungryChairs 0 = .ok (.aload_n 2, 1) := by decide +kernel
theorem dL_hungryChairs_1 : decode cL_hungryChairs 1 = .ok (.iconst 0, 1) := by decide +kernel
theorem dL_hungryChairs_2 : decode cL_hungryChairs 2 = .ok (.aload_n 0, 1) := by decide +kernel
theorem dL_hungryChairs_3 : decode cL_hungryChairs 3 = .ok (.iload_n 1, 1) := by decide +kernel
theorem dL_hungryChairs_4 : decode cL_hungryChairs 4 = .ok (.invokevirtual 100, 3) := by decide +kernel
theorem dL_hungryChairs_7 : decode cL_hungryChairs 7 = .ok (.i2l, 1) := by decide +kernel
theorem dL_hungryChairs_8 : decode cL_hungryChairs 8 = .ok (.lastore, 1) := by decide +kernel
theorem dL_hungryChairs_9 : decode cL_hungryChairs 9 = .ok (.goto 6, 3) := by decide +kernel
theorem dL_hungryChairs_12 : decode cL_hungryChairs 12 = .ok (.astore_n 3, 1) := by decide +kernel
theorem dL_hungryChairs_13 : decode cL_hungryChairs 13 = .ok (.iconst 1, 1) := by decide +kernel
theorem dL_hungryChairs_14 : decode cL_hungryChairs 14 = .ok (.ireturn, 1) := by decide +kernel
theorem dL_hungryChairs_15 : decode cL_hungryChairs 15 = .ok (.iconst 0, 1) := by decide +kernel
theorem dL_hungryChairs_16 : decode cL_hungryChairs 16 = .ok (.ireturn, 1) := by decide +kernel
theorem dL_bestNeighbour_0 : decode cL_bestNeighbour 0 = .ok (.aload_n 2, 1) := by decide +kernel
theorem dL_bestNeighbour_1 : decode cL_bestNeighbour 1 = .ok (.iconst 0, 1) := by decide +kernel
theorem dL_bestNeighbour_2 : decode cL_bestNeighbour 2 = .ok (.aload_n 0, 1) := by decide +kernel
theorem dL_bestNeighbour_3 : decode cL_bestNeighbour 3 = .ok (.iload_n 1, 1) := by decide +kernel
theorem dL_bestNeighbour_4 : decode cL_bestNeighbour 4 = .ok (.invokevirtual 103, 3) := by decide +kernel
theorem dL_bestNeighbour_7 : decode cL_bestNeighbour 7 = .ok (.i2l, 1) := by decide +kernel
theorem dL_bestNeighbour_8 : decode cL_bestNeighbour 8 = .ok (.lastore, 1) := by decide +kernel
theorem dL_bestNeighbour_9 : decode cL_bestNeighbour 9 = .ok (.goto 9, 3) := by decide +kernel
theorem dL_bestNeighbour_12 : decode cL_bestNeighbour 12 = .ok (.astore_n 3, 1) := by decide +kernel
theorem dL_bestNeighbour_13 : decode cL_bestNeighbour 13 = .ok (.iconst 1, 1) := by decide +kernel
theorem dL_bestNeighbour_14 : decode cL_bestNeighbour 14 = .ok (.ireturn, 1) := by decide +kernel
theorem dL_bestNeighbour_15 : decode cL_bestNeighbour 15 = .ok (.astore_n 3, 1) := by decide +kernel
theorem dL_bestNeighbour_16 : decode cL_bestNeighbour 16 = .ok (.iconst 2, 1) := by decide +kernel
theorem dL_bestNeighbour_17 : decode cL_bestNeighbour 17 = .ok (.ireturn, 1) := by decide +kernel
theorem dL_bestNeighbour_18 : decode cL_bestNeighbour 18 = .ok (.iconst 0, 1) := by decide +kernel
theorem dL_bestNeighbour_19 : decode cL_bestNeighbour 19 = .ok (.ireturn, 1) := by decide +kernel
theorem dL_passDays_0 : decode cL_passDays 0 = .ok (.aload_n 2, 1) := by decide +kernel
theorem dL_passDays_1 : decode cL_passDays 1 = .ok (.iconst 0, 1) := by decide +kernel
theorem dL_passDays_2 : decode cL_passDays 2 = .ok (.aload_n 0, 1) := by decide +kernel
theorem dL_passDays_3 : decode cL_passDays 3 = .ok (.iload_n 1, 1) := by decide +kernel
theorem dL_passDays_4 : decode cL_passDays 4 = .ok (.invokevirtual 106, 3) := by decide +kernel
theorem dL_passDays_7 : decode cL_passDays 7 = .ok (.i2l, 1) := by decide +kernel
theorem dL_passDays_8 : decode cL_passDays 8 = .ok (.lastore, 1) := by decide +kernel
theorem dL_passDays_9 : decode cL_passDays 9 = .ok (.goto 6, 3) := by decide +kernel
theorem dL_passDays_12 : decode cL_passDays 12 = .ok (.astore_n 3, 1) := by decide +kernel
theorem dL_passDays_13 : decode cL_passDays 13 = .ok (.iconst 1, 1) := by decide +kernel
theorem dL_passDays_14 : decode cL_passDays 14 = .ok (.ireturn, 1) := by decide +kernel
theorem dL_passDays_15 : decode cL_passDays 15 = .ok (.iconst 0, 1) := by decide +kernel
theorem dL_passDays_16 : decode cL_passDays 16 = .ok (.ireturn, 1) := by decide +kernel
theorem dL_daysUntil_0 : decode cL_daysUntil 0 = .ok (.aload_n 2, 1) := by decide +kernel
theorem dL_daysUntil_1 : decode cL_daysUntil 1 = .ok (.iconst 0, 1) := by decide +kernel
theorem dL_daysUntil_2 : decode cL_daysUntil 2 = .ok (.aload_n 0, 1) := by decide +kernel
theorem dL_daysUntil_3 : decode cL_daysUntil 3 = .ok (.iload_n 1, 1) := by decide +kernel
theorem dL_daysUntil_4 : decode cL_daysUntil 4 = .ok (.invokevirtual 109, 3) := by decide +kernel
theorem dL_daysUntil_7 : decode cL_daysUntil 7 = .ok (.i2l, 1) := by decide +kernel
theorem dL_daysUntil_8 : decode cL_daysUntil 8 = .ok (.lastore, 1) := by decide +kernel
theorem dL_daysUntil_9 : decode cL_daysUntil 9 = .ok (.goto 6, 3) := by decide +kernel
theorem dL_daysUntil_12 : decode cL_daysUntil 12 = .ok (.astore_n 3, 1) := by decide +kernel
theorem dL_daysUntil_13 : decode cL_daysUntil 13 = .ok (.iconst 1, 1) := by decide +kernel
theorem dL_daysUntil_14 : decode cL_daysUntil 14 = .ok (.ireturn, 1) := by decide +kernel
theorem dL_daysUntil_15 : decode cL_daysUntil 15 = .ok (.iconst 0, 1) := by decide +kernel
theorem dL_daysUntil_16 : decode cL_daysUntil 16 = .ok (.ireturn, 1) := by decide +kernel
theorem dL_wouldCollapse_0 : decode cL_wouldCollapse 0 = .ok (.aload_n 2, 1) := by decide +kernel
theorem dL_wouldCollapse_1 : decode cL_wouldCollapse 1 = .ok (.iconst 0, 1) := by decide +kernel
theorem dL_wouldCollapse_2 : decode cL_wouldCollapse 2 = .ok (.aload_n 0, 1) := by decide +kernel
theorem dL_wouldCollapse_3 : decode cL_wouldCollapse 3 = .ok (.iload_n 1, 1) := by decide +kernel
theorem dL_wouldCollapse_4 : decode cL_wouldCollapse 4 = .ok (.invokevirtual 112, 3) := by decide +kernel
theorem dL_wouldCollapse_7 : decode cL_wouldCollapse 7 = .ok (.i2l, 1) := by decide +kernel
theorem dL_wouldCollapse_8 : decode cL_wouldCollapse 8 = .ok (.lastore, 1) := by decide +kernel
theorem dL_wouldCollapse_9 : decode cL_wouldCollapse 9 = .ok (.goto 6, 3) := by decide +kernel
theorem dL_wouldCollapse_12 : decode cL_wouldCollapse 12 = .ok (.astore_n 3, 1) := by decide +kernel
theorem dL_wouldCollapse_13 : decode cL_wouldCollapse 13 = .ok (.iconst 1, 1) := by decide +kernel
theorem dL_wouldCollapse_14 : decode cL_wouldCollapse 14 = .ok (.ireturn, 1) := by decide +kernel
theorem dL_wouldCollapse_15 : decode cL_wouldCollapse 15 = .ok (.iconst 0, 1) := by decide +kernel
theorem dL_wouldCollapse_16 : decode cL_wouldCollapse 16 = .ok (.ireturn, 1) := by decide +kernel
theorem dL_collapseDay_0 : decode cL_collapseDay 0 = .ok (.aload_n 2, 1) := by decide +kernel
theorem dL_collapseDay_1 : decode cL_collapseDay 1 = .ok (.iconst 0, 1) := by decide +kernel
theorem dL_collapseDay_2 : decode cL_collapseDay 2 = .ok (.aload_n 0, 1) := by decide +kernel
theorem dL_collapseDay_3 : decode cL_collapseDay 3 = .ok (.iload_n 1, 1) := by decide +kernel
theorem dL_collapseDay_4 : decode cL_collapseDay 4 = .ok (.invokevirtual 115, 3) := by decide +kernel
theorem dL_collapseDay_7 : decode cL_collapseDay 7 = .ok (.i2l, 1) := by decide +kernel
theorem dL_collapseDay_8 : decode cL_collapseDay 8 = .ok (.lastore, 1) := by decide +kernel
theorem dL_collapseDay_9 : decode cL_collapseDay 9 = .ok (.goto 9, 3) := by decide +kernel
theorem dL_collapseDay_12 : decode cL_collapseDay 12 = .ok (.astore_n 3, 1) := by decide +kernel
theorem dL_collapseDay_13 : decode cL_collapseDay 13 = .ok (.iconst 1, 1) := by decide +kernel
theorem dL_collapseDay_14 : decode cL_collapseDay 14 = .ok (.ireturn, 1) := by decide +kernel
theorem dL_collapseDay_15 : decode cL_collapseDay 15 = .ok (.astore_n 3, 1) := by decide +kernel
theorem dL_collapseDay_16 : decode cL_collapseDay 16 = .ok (.iconst 2, 1) := by decide +kernel
theorem dL_collapseDay_17 : decode cL_collapseDay 17 = .ok (.ireturn, 1) := by decide +kernel
theorem dL_collapseDay_18 : decode cL_collapseDay 18 = .ok (.iconst 0, 1) := by decide +kernel
theorem dL_collapseDay_19 : decode cL_collapseDay 19 = .ok (.ireturn, 1) := by decide +kernel
theorem dL_chairByRust_0 : decode cL_chairByRust 0 = .ok (.aload_n 2, 1) := by decide +kernel
theorem dL_chairByRust_1 : decode cL_chairByRust 1 = .ok (.iconst 0, 1) := by decide +kernel
theorem dL_chairByRust_2 : decode cL_chairByRust 2 = .ok (.aload_n 0, 1) := by decide +kernel
theorem dL_chairByRust_3 : decode cL_chairByRust 3 = .ok (.iload_n 1, 1) := by decide +kernel
theorem dL_chairByRust_4 : decode cL_chairByRust 4 = .ok (.invokevirtual 118, 3) := by decide +kernel
theorem dL_chairByRust_7 : decode cL_chairByRust 7 = .ok (.i2l, 1) := by decide +kernel
theorem dL_chairByRust_8 : decode cL_chairByRust 8 = .ok (.lastore, 1) := by decide +kernel
theorem dL_chairByRust_9 : decode cL_chairByRust 9 = .ok (.goto 6, 3) := by decide +kernel
theorem dL_chairByRust_12 : decode cL_chairByRust 12 = .ok (.astore_n 3, 1) := by decide +kernel
theorem dL_chairByRust_13 : decode cL_chairByRust 13 = .ok (.iconst 1, 1) := by decide +kernel
theorem dL_chairByRust_14 : decode cL_chairByRust 14 = .ok (.ireturn, 1) := by decide +kernel
theorem dL_chairByRust_15 : decode cL_chairByRust 15 = .ok (.iconst 0, 1) := by decide +kernel
theorem dL_chairByRust_16 : decode cL_chairByRust 16 = .ok (.ireturn, 1) := by decide +kernel
theorem dL_lawnByShade_0 : decode cL_lawnByShade 0 = .ok (.aload_n 2, 1) := by decide +kernel
theorem dL_lawnByShade_1 : decode cL_lawnByShade 1 = .ok (.iconst 0, 1) := by decide +kernel
theorem dL_lawnByShade_2 : decode cL_lawnByShade 2 = .ok (.aload_n 0, 1) := by decide +kernel
theorem dL_lawnByShade_3 : decode cL_lawnByShade 3 = .ok (.iload_n 1, 1) := by decide +kernel
theorem dL_lawnByShade_4 : decode cL_lawnByShade 4 = .ok (.invokevirtual 121, 3) := by decide +kernel
theorem dL_lawnByShade_7 : decode cL_lawnByShade 7 = .ok (.i2l, 1) := by decide +kernel
theorem dL_lawnByShade_8 : decode cL_lawnByShade 8 = .ok (.lastore, 1) := by decide +kernel
theorem dL_lawnByShade_9 : decode cL_lawnByShade 9 = .ok (.goto 6, 3) := by decide +kernel
theorem dL_lawnByShade_12 : decode cL_lawnByShade 12 = .ok (.astore_n 3, 1) := by decide +kernel
theorem dL_lawnByShade_13 : decode cL_lawnByShade 13 = .ok (.iconst 1, 1) := by decide +kernel
theorem dL_lawnByShade_14 : decode cL_lawnByShade 14 = .ok (.ireturn, 1) := by decide +kernel
theorem dL_lawnByShade_15 : decode cL_lawnByShade 15 = .ok (.iconst 0, 1) := by decide +kernel
theorem dL_lawnByShade_16 : decode cL_lawnByShade 16 = .ok (.ireturn, 1) := by decide +kernel
theorem dL_meanRust_0 : decode cL_meanRust 0 = .ok (.aload_n 1, 1) := by decide +kernel
theorem dL_meanRust_1 : decode cL_meanRust 1 = .ok (.iconst 0, 1) := by decide +kernel
theorem dL_meanRust_2 : decode cL_meanRust 2 = .ok (.aload_n 0, 1) := by decide +kernel
theorem dL_meanRust_3 : decode cL_meanRust 3 = .ok (.invokevirtual 124, 3) := by decide +kernel
theorem dL_meanRust_6 : decode cL_meanRust 6 = .ok (.dastore, 1) := by decide +kernel
theorem dL_meanRust_7 : decode cL_meanRust 7 = .ok (.goto 6, 3) := by decide +kernel
theorem dL_meanRust_10 : decode cL_meanRust 10 = .ok (.astore_n 2, 1) := by decide +kernel
theorem dL_meanRust_11 : decode cL_meanRust 11 = .ok (.iconst 1, 1) := by decide +kernel
theorem dL_meanRust_12 : decode cL_meanRust 12 = .ok (.ireturn, 1) := by decide +kernel
theorem dL_meanRust_13 : decode cL_meanRust 13 = .ok (.iconst 0, 1) := by decide +kernel
theorem dL_meanRust_14 : decode cL_meanRust 14 = .ok (.ireturn, 1) := by decide +kernel
theorem dL_foldedShare_0 : decode cL_foldedShare 0 = .ok (.aload_n 1, 1) := by decide +kernel
theorem dL_foldedShare_1 : decode cL_foldedShare 1 = .ok (.iconst 0, 1) := by decide +kernel
theorem dL_foldedShare_2 : decode cL_foldedShare 2 = .ok (.aload_n 0, 1) := by decide +kernel
theorem dL_foldedShare_3 : decode cL_foldedShare 3 = .ok (.invokevirtual 130, 3) := by decide +kernel
theorem dL_foldedShare_6 : decode cL_foldedShare 6 = .ok (.f2d, 1) := by decide +kernel
theorem dL_foldedShare_7 : decode cL_foldedShare 7 = .ok (.dastore, 1) := by decide +kernel
theorem dL_foldedShare_8 : decode cL_foldedShare 8 = .ok (.goto 6, 3) := by decide +kernel
theorem dL_foldedShare_11 : decode cL_foldedShare 11 = .ok (.astore_n 2, 1) := by decide +kernel
theorem dL_foldedShare_12 : decode cL_foldedShare 12 = .ok (.iconst 1, 1) := by decide +kernel
theorem dL_foldedShare_13 : decode cL_foldedShare 13 = .ok (.ireturn, 1) := by decide +kernel
theorem dL_foldedShare_14 : decode cL_foldedShare 14 = .ok (.iconst 0, 1) := by decide +kernel
theorem dL_foldedShare_15 : decode cL_foldedShare 15 = .ok (.ireturn, 1) := by decide +kernel
theorem dL_writeLawn_0 : decode cL_writeLawn 0 = .ok (.aload_n 2, 1) := by decide +kernel
theorem dL_writeLawn_1 : decode cL_writeLawn 1 = .ok (.iconst 0, 1) := by decide +kernel
theorem dL_writeLawn_2 : decode cL_writeLawn 2 = .ok (.aload_n 0, 1) := by decide +kernel
theorem dL_writeLawn_3 : decode cL_writeLawn 3 = .ok (.iload_n 1, 1) := by decide +kernel
theorem dL_writeLawn_4 : decode cL_writeLawn 4 = .ok (.invokevirtual 134, 3) := by decide +kernel
theorem dL_writeLawn_7 : decode cL_writeLawn 7 = .ok (.i2l, 1) := by decide +kernel
theorem dL_writeLawn_8 : decode cL_writeLawn 8 = .ok (.lastore, 1) := by decide +kernel
theorem dL_writeLawn_9 : decode cL_writeLawn 9 = .ok (.goto 6, 3) := by decide +kernel
theorem dL_writeLawn_12 : decode cL_writeLawn 12 = .ok (.astore_n 3, 1) := by decide +kernel
theorem dL_writeLawn_13 : decode cL_writeLawn 13 = .ok (.iconst 1, 1) := by decide +kernel
theorem dL_writeLawn_14 : decode cL_writeLawn 14 = .ok (.ireturn, 1) := by decide +kernel
theorem dL_writeLawn_15 : decode cL_writeLawn 15 = .ok (.iconst 0, 1) := by decide +kernel
theorem dL_writeLawn_16 : decode cL_writeLawn 16 = .ok (.ireturn, 1) := by decide +kernel
theorem dL_outputAt_0 : decode cL_outputAt 0 = .ok (.aload_n 2, 1) := by decide +kernel
theorem dL_outputAt_1 : decode cL_outputAt 1 = .ok (.iconst 0, 1) := by decide +kernel
theorem dL_outputAt_2 : decode cL_outputAt 2 = .ok (.aload_n 0, 1) := by decide +kernel
theorem dL_outputAt_3 : decode cL_outputAt 3 = .ok (.iload_n 1, 1) := by decide +kernel
theorem dL_outputAt_4 : decode cL_outputAt 4 = .ok (.invokevirtual 137, 3) := by decide +kernel
theorem dL_outputAt_7 : decode cL_outputAt 7 = .ok (.i2l, 1) := by decide +kernel
theorem dL_outputAt_8 : decode cL_outputAt 8 = .ok (.lastore, 1) := by decide +kernel
theorem dL_outputAt_9 : decode cL_outputAt 9 = .ok (.goto 6, 3) := by decide +kernel
theorem dL_outputAt_12 : decode cL_outputAt 12 = .ok (.astore_n 3, 1) := by decide +kernel
theorem dL_outputAt_13 : decode cL_outputAt 13 = .ok (.iconst 1, 1) := by decide +kernel
theorem dL_outputAt_14 : decode cL_outputAt 14 = .ok (.ireturn, 1) := by decide +kernel
theorem dL_outputAt_15 : decode cL_outputAt 15 = .ok (.iconst 0, 1) := by decide +kernel
theorem dL_outputAt_16 : decode cL_outputAt 16 = .ok (.ireturn, 1) := by decide +kernel
theorem dL_appendInput_0 : decode cL_appendInput 0 = .ok (.aload_n 2, 1) := by decide +kernel
theorem dL_appendInput_1 : decode cL_appendInput 1 = .ok (.iconst 0, 1) := by decide +kernel
theorem dL_appendInput_2 : decode cL_appendInput 2 = .ok (.aload_n 0, 1) := by decide +kernel
theorem dL_appendInput_3 : decode cL_appendInput 3 = .ok (.iload_n 1, 1) := by decide +kernel
theorem dL_appendInput_4 : decode cL_appendInput 4 = .ok (.invokevirtual 141, 3) := by decide +kernel
theorem dL_appendInput_7 : decode cL_appendInput 7 = .ok (.i2l, 1) := by decide +kernel
theorem dL_appendInput_8 : decode cL_appendInput 8 = .ok (.lastore, 1) := by decide +kernel
theorem dL_appendInput_9 : decode cL_appendInput 9 = .ok (.goto 9, 3) := by decide +kernel
theorem dL_appendInput_12 : decode cL_appendInput 12 = .ok (.astore_n 3, 1) := by decide +kernel
theorem dL_appendInput_13 : decode cL_appendInput 13 = .ok (.iconst 1, 1) := by decide +kernel
theorem dL_appendInput_14 : decode cL_appendInput 14 = .ok (.ireturn, 1) := by decide +kernel
theorem dL_appendInput_15 : decode cL_appendInput 15 = .ok (.astore_n 3, 1) := by decide +kernel
theorem dL_appendInput_16 : decode cL_appendInput 16 = .ok (.iconst 2, 1) := by decide +kernel
theorem dL_appendInput_17 : decode cL_appendInput 17 = .ok (.ireturn, 1) := by decide +kernel
theorem dL_appendInput_18 : decode cL_appendInput 18 = .ok (.iconst 0, 1) := by decide +kernel
theorem dL_appendInput_19 : decode cL_appendInput 19 = .ok (.ireturn, 1) := by decide +kernel
theorem dL_execute_0 : decode cL_execute 0 = .ok (.aload_n 1, 1) := by decide +kernel
theorem dL_execute_1 : decode cL_execute 1 = .ok (.iconst 0, 1) := by decide +kernel
theorem dL_execute_2 : decode cL_execute 2 = .ok (.aload_n 0, 1) := by decide +kernel
theorem dL_execute_3 : decode cL_execute 3 = .ok (.invokevirtual 147, 3) := by decide +kernel
theorem dL_execute_6 : decode cL_execute 6 = .ok (.i2l, 1) := by decide +kernel
theorem dL_execute_7 : decode cL_execute 7 = .ok (.lastore, 1) := by decide +kernel
theorem dL_execute_8 : decode cL_execute 8 = .ok (.goto 12, 3) := by decide +kernel
theorem dL_execute_11 : decode cL_execute 11 = .ok (.astore_n 2, 1) := by decide +kernel
theorem dL_execute_12 : decode cL_execute 12 = .ok (.iconst 1, 1) := by decide +kernel
theorem dL_execute_13 : decode cL_execute 13 = .ok (.ireturn, 1) := by decide +kernel
theorem dL_execute_14 : decode cL_execute 14 = .ok (.astore_n 2, 1) := by decide +kernel
theorem dL_execute_15 : decode cL_execute 15 = .ok (.iconst 2, 1) := by decide +kernel
theorem dL_execute_16 : decode cL_execute 16 = .ok (.ireturn, 1) := by decide +kernel
theorem dL_execute_17 : decode cL_execute 17 = .ok (.astore_n 2, 1) := by decide +kernel
theorem dL_execute_18 : decode cL_execute 18 = .ok (.iconst 3, 1) := by decide +kernel
theorem dL_execute_19 : decode cL_execute 19 = .ok (.ireturn, 1) := by decide +kernel
theorem dL_execute_20 : decode cL_execute 20 = .ok (.iconst 0, 1) := by decide +kernel
theorem dL_execute_21 : decode cL_execute 21 = .ok (.ireturn, 1) := by decide +kernel
theorem dL_syntaxErrorOffset_0 : decode cL_syntaxErrorOffset 0 = .ok (.aload_n 1, 1) := by decide +kernel
theorem dL_syntaxErrorOffset_1 : decode cL_syntaxErrorOffset 1 = .ok (.iconst 0, 1) := by decide +kernel
theorem dL_syntaxErrorOffset_2 : decode cL_syntaxErrorOffset 2 = .ok (.aload_n 0, 1) := by decide +kernel
theorem dL_syntaxErrorOffset_3 : decode cL_syntaxErrorOffset 3 = .ok (.invokevirtual 151, 3) := by decide +kernel
theorem dL_syntaxErrorOffset_6 : decode cL_syntaxErrorOffset 6 = .ok (.i2l, 1) := by decide +kernel
theorem dL_syntaxErrorOffset_7 : decode cL_syntaxErrorOffset 7 = .ok (.lastore, 1) := by decide +kernel
theorem dL_syntaxErrorOffset_8 : decode cL_syntaxErrorOffset 8 = .ok (.goto 6, 3) := by decide +kernel
theorem dL_syntaxErrorOffset_11 : decode cL_syntaxErrorOffset 11 = .ok (.astore_n 2, 1) := by decide +kernel
theorem dL_syntaxErrorOffset_12 : decode cL_syntaxErrorOffset 12 = .ok (.iconst 1, 1) := by decide +kernel
theorem dL_syntaxErrorOffset_13 : decode cL_syntaxErrorOffset 13 = .ok (.ireturn, 1) := by decide +kernel
theorem dL_syntaxErrorOffset_14 : decode cL_syntaxErrorOffset 14 = .ok (.iconst 0, 1) := by decide +kernel
theorem dL_syntaxErrorOffset_15 : decode cL_syntaxErrorOffset 15 = .ok (.ireturn, 1) := by decide +kernel
theorem dL_rejectionReason_0 : decode cL_rejectionReason 0 = .ok (.aload_n 1, 1) := by decide +kernel
theorem dL_rejectionReason_1 : decode cL_rejectionReason 1 = .ok (.iconst 0, 1) := by decide +kernel
theorem dL_rejectionReason_2 : decode cL_rejectionReason 2 = .ok (.aload_n 0, 1) := by decide +kernel
theorem dL_rejectionReason_3 : decode cL_rejectionReason 3 = .ok (.invokevirtual 154, 3) := by decide +kernel
theorem dL_rejectionReason_6 : decode cL_rejectionReason 6 = .ok (.i2l, 1) := by decide +kernel
theorem dL_rejectionReason_7 : decode cL_rejectionReason 7 = .ok (.lastore, 1) := by decide +kernel
theorem dL_rejectionReason_8 : decode cL_rejectionReason 8 = .ok (.goto 6, 3) := by decide +kernel
theorem dL_rejectionReason_11 : decode cL_rejectionReason 11 = .ok (.astore_n 2, 1) := by decide +kernel
theorem dL_rejectionReason_12 : decode cL_rejectionReason 12 = .ok (.iconst 1, 1) := by decide +kernel
theorem dL_rejectionReason_13 : decode cL_rejectionReason 13 = .ok (.ireturn, 1) := by decide +kernel
theorem dL_rejectionReason_14 : decode cL_rejectionReason 14 = .ok (.iconst 0, 1) := by decide +kernel
theorem dL_rejectionReason_15 : decode cL_rejectionReason 15 = .ok (.ireturn, 1) := by decide +kernel
theorem dL_rejectionDetail_0 : decode cL_rejectionDetail 0 = .ok (.aload_n 1, 1) := by decide +kernel
theorem dL_rejectionDetail_1 : decode cL_rejectionDetail 1 = .ok (.iconst 0, 1) := by decide +kernel
theorem dL_rejectionDetail_2 : decode cL_rejectionDetail 2 = .ok (.aload_n 0, 1) := by decide +kernel
theorem dL_rejectionDetail_3 : decode cL_rejectionDetail 3 = .ok (.invokevirtual 157, 3) := by decide +kernel
theorem dL_rejectionDetail_6 : decode cL_rejectionDetail 6 = .ok (.i2l, 1) := by decide +kernel
theorem dL_rejectionDetail_7 : decode cL_rejectionDetail 7 = .ok (.lastore, 1) := by decide +kernel
theorem dL_rejectionDetail_8 : decode cL_rejectionDetail 8 = .ok (.goto 6, 3) := by decide +kernel
theorem dL_rejectionDetail_11 : decode cL_rejectionDetail 11 = .ok (.astore_n 2, 1) := by decide +kernel
theorem dL_rejectionDetail_12 : decode cL_rejectionDetail 12 = .ok (.iconst 1, 1) := by decide +kernel
theorem dL_rejectionDetail_13 : decode cL_rejectionDetail 13 = .ok (.ireturn, 1) := by decide +kernel
theorem dL_rejectionDetail_14 : decode cL_rejectionDetail 14 = .ok (.iconst 0, 1) := by decide +kernel
theorem dL_rejectionDetail_15 : decode cL_rejectionDetail 15 = .ok (.ireturn, 1) := by decide +kernel
theorem dL_causeReason_0 : decode cL_causeReason 0 = .ok (.aload_n 1, 1) := by decide +kernel
theorem dL_causeReason_1 : decode cL_causeReason 1 = .ok (.iconst 0, 1) := by decide +kernel
theorem dL_causeReason_2 : decode cL_causeReason 2 = .ok (.aload_n 0, 1) := by decide +kernel
theorem dL_causeReason_3 : decode cL_causeReason 3 = .ok (.invokevirtual 160, 3) := by decide +kernel
theorem dL_causeReason_6 : decode cL_causeReason 6 = .ok (.i2l, 1) := by decide +kernel
theorem dL_causeReason_7 : decode cL_causeReason 7 = .ok (.lastore, 1) := by decide +kernel
theorem dL_causeReason_8 : decode cL_causeReason 8 = .ok (.goto 6, 3) := by decide +kernel
theorem dL_causeReason_11 : decode cL_causeReason 11 = .ok (.astore_n 2, 1) := by decide +kernel
theorem dL_causeReason_12 : decode cL_causeReason 12 = .ok (.iconst 1, 1) := by decide +kernel
theorem dL_causeReason_13 : decode cL_causeReason 13 = .ok (.ireturn, 1) := by decide +kernel
theorem dL_causeReason_14 : decode cL_causeReason 14 = .ok (.iconst 0, 1) := by decide +kernel
theorem dL_causeReason_15 : decode cL_causeReason 15 = .ok (.ireturn, 1) := by decide +kernel
theorem dL_undo_0 : decode cL_undo 0 = .ok (.aload_n 1, 1) := by decide +kernel
theorem dL_undo_1 : decode cL_undo 1 = .ok (.iconst 0, 1) := by decide +kernel
theorem dL_undo_2 : decode cL_undo 2 = .ok (.aload_n 0, 1) := by decide +kernel
theorem dL_undo_3 : decode cL_undo 3 = .ok (.invokevirtual 163, 3) := by decide +kernel
theorem dL_undo_6 : decode cL_undo 6 = .ok (.i2l, 1) := by decide +kernel
theorem dL_undo_7 : decode cL_undo 7 = .ok (.lastore, 1) := by decide +kernel
theorem dL_undo_8 : decode cL_undo 8 = .ok (.goto 6, 3) := by decide +kernel
theorem dL_undo_11 : decode cL_undo 11 = .ok (.astore_n 2, 1) := by decide +kernel
theorem dL_undo_12 : decode cL_undo 12 = .ok (.iconst 1, 1) := by decide +kernel
theorem dL_undo_13 : decode cL_undo 13 = .ok (.ireturn, 1) := by decide +kernel
theorem dL_undo_14 : decode cL_undo 14 = .ok (.iconst 0, 1) := by decide +kernel
theorem dL_undo_15 : decode cL_undo 15 = .ok (.ireturn, 1) := by decide +kernel
theorem dL_restoreSnapshot_0 : decode cL_restoreSnapshot 0 = .ok (.aload_n 1, 1) := by decide +kernel
theorem dL_restoreSnapshot_1 : decode cL_restoreSnapshot 1 = .ok (.iconst 0, 1) := by decide +kernel
theorem dL_restoreSnapshot_2 : decode cL_restoreSnapshot 2 = .ok (.aload_n 0, 1) := by decide +kernel
theorem dL_restoreSnapshot_3 : decode cL_restoreSnapshot 3 = .ok (.invokevirtual 166, 3) := by decide +kernel
theorem dL_restoreSnapshot_6 : decode cL_restoreSnapshot 6 = .ok (.i2l, 1) := by decide +kernel
theorem dL_restoreSnapshot_7 : decode cL_restoreSnapshot 7 = .ok (.lastore, 1) := by decide +kernel
theorem dL_restoreSnapshot_8 : decode cL_restoreSnapshot 8 = .ok (.goto 6, 3) := by decide +kernel
theorem dL_restoreSnapshot_11 : decode cL_restoreSnapshot 11 = .ok (.astore_n 2, 1) := by decide +kernel
theorem dL_restoreSnapshot_12 : decode cL_restoreSnapshot 12 = .ok (.iconst 1, 1) := by decide +kernel
theorem dL_restoreSnapshot_13 : decode cL_restoreSnapshot 13 = .ok (.ireturn, 1) := by decide +kernel
theorem dL_restoreSnapshot_14 : decode cL_restoreSnapshot 14 = .ok (.iconst 0, 1) := by decide +kernel
theorem dL_restoreSnapshot_15 : decode cL_restoreSnapshot 15 = .ok (.ireturn, 1) := by decide +kernel
