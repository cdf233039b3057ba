theorem dL_at_0 : decode cL_at 0 = .ok (.iload_n 1, 1) := by decide +kernel
theorem dL_at_1 : decode cL_at 1 = .ok (.aload_n 0, 1) := by decide +kernel
theorem dL_at_2 : decode cL_at 2 = .ok (.arraylength, 1) := by decide +kernel
theorem dL_at_3 : decode cL_at 3 = .ok (.if_icmp .ge 9, 3) := by decide +kernel
theorem dL_at_6 : decode cL_at 6 = .ok (.aload_n 0, 1) := by decide +kernel
theorem dL_at_7 : decode cL_at 7 = .ok (.iload_n 1, 1) := by decide +kernel
theorem dL_at_8 : decode cL_at 8 = .ok (.iaload, 1) := by decide +kernel
theorem dL_at_9 : decode cL_at 9 = .ok (.goto 4, 3) := by decide +kernel
theorem dL_at_12 : decode cL_at 12 = .ok (.iconst 0, 1) := by decide +kernel
theorem dL_at_13 : decode cL_at 13 = .ok (.ireturn, 1) := by decide +kernel
theorem dL_some_0 : decode cL_some 0 = .ok (.iload_n 0, 1) := by decide +kernel
theorem dL_some_1 : decode cL_some 1 = .ok (.iload_n 1, 1) := by decide +kernel
theorem dL_some_2 : decode cL_some 2 = .ok (.irem, 1) := by decide +kernel
theorem dL_some_3 : decode cL_some 3 = .ok (.istore_n 2, 1) := by decide +kernel
theorem dL_some_4 : decode cL_some 4 = .ok (.iload_n 2, 1) := by decide +kernel
theorem dL_some_5 : decode cL_some 5 = .ok (.ifCond .ge 9, 3) := by decide +kernel
theorem dL_some_8 : decode cL_some 8 = .ok (.iload_n 2, 1) := by decide +kernel
theorem dL_some_9 : decode cL_some 9 = .ok (.iload_n 1, 1) := by decide +kernel
theorem dL_some_10 : decode cL_some 10 = .ok (.iadd, 1) := by decide +kernel
theorem dL_some_11 : decode cL_some 11 = .ok (.goto 4, 3) := by decide +kernel
theorem dL_some_14 : decode cL_some 14 = .ok (.iload_n 2, 1) := by decide +kernel
theorem dL_some_15 : decode cL_some 15 = .ok (.ireturn, 1) := by decide +kernel
theorem dL_addPath_0 : decode cL_addPath 0 = .ok (.aload_n 0, 1) := by decide +kernel
theorem dL_addPath_1 : decode cL_addPath 1 = .ok (.iload_n 1, 1) := by decide +kernel
theorem dL_addPath_2 : decode cL_addPath 2 = .ok (.iload_n 2, 1) := by decide +kernel
theorem dL_addPath_3 : decode cL_addPath 3 = .ok (.invokevirtual 7, 3) := by decide +kernel
theorem dL_addPath_6 : decode cL_addPath 6 = .ok (.ireturn, 1) := by decide +kernel
theorem dL_addPath_7 : decode cL_addPath 7 = .ok (.astore_n 3, 1) := by decide +kernel
theorem dL_addPath_8 : decode cL_addPath 8 = .ok (.sipush (-1001), 3) := by decide +kernel
theorem dL_addPath_11 : decode cL_addPath 11 = .ok (.ireturn, 1) := by decide +kernel
theorem dL_addPath_12 : decode cL_addPath 12 = .ok (.astore_n 3, 1) := by decide +kernel
theorem dL_addPath_13 : decode cL_addPath 13 = .ok (.sipush (-1002), 3) := by decide +kernel
theorem dL_addPath_16 : decode cL_addPath 16 = .ok (.ireturn, 1) := by decide +kernel
theorem dL_addPath_17 : decode cL_addPath 17 = .ok (.astore_n 3, 1) := by decide +kernel
theorem dL_addPath_18 : decode cL_addPath 18 = .ok (.sipush (-1003), 3) := by decide +kernel
theorem dL_addPath_21 : decode cL_addPath 21 = .ok (.ireturn, 1) := by decide +kernel
theorem dL_removePath_0 : decode cL_removePath 0 = .ok (.aload_n 0, 1) := by decide +kernel
theorem dL_removePath_1 : decode cL_removePath 1 = .ok (.iload_n 1, 1) := by decide +kernel
theorem dL_removePath_2 : decode cL_removePath 2 = .ok (.iload_n 2, 1) := by decide +kernel
theorem dL_removePath_3 : decode cL_removePath 3 = .ok (.invokevirtual 19, 3) := by decide +kernel
theorem dL_removePath_6 : decode cL_removePath 6 = .ok (.ireturn, 1) := by decide +kernel
theorem dL_removePath_7 : decode cL_removePath 7 = .ok (.astore_n 3, 1) := by decide +kernel
theorem dL_removePath_8 : decode cL_removePath 8 = .ok (.sipush (-1001), 3) := by decide +kernel
theorem dL_removePath_11 : decode cL_removePath 11 = .ok (.ireturn, 1) := by decide +kernel
theorem dL_removePath_12 : decode cL_removePath 12 = .ok (.astore_n 3, 1) := by decide +kernel
theorem dL_removePath_13 : decode cL_removePath 13 = .ok (.sipush (-1002), 3) := by decide +kernel
theorem dL_removePath_16 : decode cL_removePath 16 = .ok (.ireturn, 1) := by decide +kernel
theorem dL_removePath_17 : decode cL_removePath 17 = .ok (.astore_n 3, 1) := by decide +kernel
theorem dL_removePath_18 : decode cL_removePath 18 = .ok (.sipush (-1003), 3) := by decide +kernel
theorem dL_removePath_21 : decode cL_removePath 21 = .ok (.ireturn, 1) := by decide +kernel
theorem dL_isPath_0 : decode cL_isPath 0 = .ok (.aload_n 0, 1) := by decide +kernel
theorem dL_isPath_1 : decode cL_isPath 1 = .ok (.iload_n 1, 1) := by decide +kernel
theorem dL_isPath_2 : decode cL_isPath 2 = .ok (.iload_n 2, 1) := by decide +kernel
theorem dL_isPath_3 : decode cL_isPath 3 = .ok (.invokevirtual 22, 3) := by decide +kernel
theorem dL_isPath_6 : decode cL_isPath 6 = .ok (.ifCond .eq 7, 3) := by decide +kernel
theorem dL_isPath_9 : decode cL_isPath 9 = .ok (.iconst 1, 1) := by decide +kernel
theorem dL_isPath_10 : decode cL_isPath 10 = .ok (.goto 4, 3) := by decide +kernel
theorem dL_isPath_13 : decode cL_isPath 13 = .ok (.iconst 0, 1) := by decide +kernel
theorem dL_isPath_14 : decode cL_isPath 14 = .ok (.ireturn, 1) := by decide +kernel
theorem dL_isPath_15 : decode cL_isPath 15 = .ok (.astore_n 3, 1) := by decide +kernel
theorem dL_isPath_16 : decode cL_isPath 16 = .ok (.sipush (-1001), 3) := by decide +kernel
theorem dL_isPath_19 : decode cL_isPath 19 = .ok (.ireturn, 1) := by decide +kernel
theorem dL_distance_0 : decode cL_distance 0 = .ok (.aload_n 0, 1) := by decide +kernel
theorem dL_distance_1 : decode cL_distance 1 = .ok (.iload_n 1, 1) := by decide +kernel
theorem dL_distance_2 : decode cL_distance 2 = .ok (.iload_n 2, 1) := by decide +kernel
theorem dL_distance_3 : decode cL_distance 3 = .ok (.invokevirtual 26, 3) := by decide +kernel
theorem dL_distance_6 : decode cL_distance 6 = .ok (.ireturn, 1) := by decide +kernel
theorem dL_distance_7 : decode cL_distance 7 = .ok (.astore_n 3, 1) := by decide +kernel
theorem dL_distance_8 : decode cL_distance 8 = .ok (.sipush (-1001), 3) := by decide +kernel
theorem dL_distance_11 : decode cL_distance 11 = .ok (.ireturn, 1) := by decide +kernel
theorem dL_distance_12 : decode cL_distance 12 = .ok (.astore_n 3, 1) := by decide +kernel
theorem dL_distance_13 : decode cL_distance 13 = .ok (.sipush (-1002), 3) := by decide +kernel
theorem dL_distance_16 : decode cL_distance 16 = .ok (.ireturn, 1) := by decide +kernel
theorem dL_distanceAgain_0 : decode cL_distanceAgain 0 = .ok (.aload_n 0, 1) := by decide +kernel
theorem dL_distanceAgain_1 : decode cL_distanceAgain 1 = .ok (.iload_n 1, 1) := by decide +kernel
theorem dL_distanceAgain_2 : decode cL_distanceAgain 2 = .ok (.iload_n 2, 1) := by decide +kernel
theorem dL_distanceAgain_3 : decode cL_distanceAgain 3 = .ok (.invokevirtual 31, 3) := by decide +kernel
theorem dL_distanceAgain_6 : decode cL_distanceAgain 6 = .ok (.ireturn, 1) := by decide +kernel
theorem dL_distanceAgain_7 : decode cL_distanceAgain 7 = .ok (.astore_n 3, 1) := by decide +kernel
theorem dL_distanceAgain_8 : decode cL_distanceAgain 8 = .ok (.sipush (-1001), 3) := by decide +kernel
theorem dL_distanceAgain_11 : decode cL_distanceAgain 11 = .ok (.ireturn, 1) := by decide +kernel
theorem dL_distanceAgain_12 : decode cL_distanceAgain 12 = .ok (.astore_n 3, 1) := by decide +kernel
theorem dL_distanceAgain_13 : decode cL_distanceAgain 13 = .ok (.sipush (-1002), 3) := by decide +kernel
theorem dL_distanceAgain_16 : decode cL_distanceAgain 16 = .ok (.ireturn, 1) := by decide +kernel
theorem dL_routeAt_0 : decode cL_routeAt 0 = .ok (.aload_n 0, 1) := by decide +kernel
theorem dL_routeAt_1 : decode cL_routeAt 1 = .ok (.iload_n 1, 1) := by decide +kernel
theorem dL_routeAt_2 : decode cL_routeAt 2 = .ok (.iload_n 2, 1) := by decide +kernel
theorem dL_routeAt_3 : decode cL_routeAt 3 = .ok (.iload_n 3, 1) := by decide +kernel
theorem dL_routeAt_4 : decode cL_routeAt 4 = .ok (.invokevirtual 34, 3) := by decide +kernel
theorem dL_routeAt_7 : decode cL_routeAt 7 = .ok (.ireturn, 1) := by decide +kernel
theorem dL_routeAt_8 : decode cL_routeAt 8 = .ok (.astore 4, 2) := by decide +kernel
theorem dL_routeAt_10 : decode cL_routeAt 10 = .ok (.sipush (-1001), 3) := by decide +kernel
theorem dL_routeAt_13 : decode cL_routeAt 13 = .ok (.ireturn, 1) := by decide +kernel
theorem dL_routeAt_14 : decode cL_routeAt 14 = .ok (.astore 4, 2) := by decide +kernel
theorem dL_routeAt_16 : decode cL_routeAt 16 = .ok (.sipush (-1002), 3) := by decide +kernel
theorem dL_routeAt_19 : decode cL_routeAt 19 = .ok (.ireturn, 1) := by decide +kernel
theorem dL_reachable_0 : decode cL_reachable 0 = .ok (.aload_n 0, 1) := by decide +kernel
theorem dL_reachable_1 : decode cL_reachable 1 = .ok (.iload_n 1, 1) := by decide +kernel
theorem dL_reachable_2 : decode cL_reachable 2 = .ok (.invokevirtual 38, 3) := by decide +kernel
theorem dL_reachable_5 : decode cL_reachable 5 = .ok (.ireturn, 1) := by decide +kernel
theorem dL_reachable_6 : decode cL_reachable 6 = .ok (.astore_n 2, 1) := by decide +kernel
theorem dL_reachable_7 : decode cL_reachable 7 = .ok (.sipush (-1001), 3) := by decide +kernel
theorem dL_reachable_10 : decode cL_reachable 10 = .ok (.ireturn, 1) := by decide +kernel
theorem dL_setShade_0 : decode cL_setShade 0 = .ok (.aload_n 0, 1) := by decide +kernel
theorem dL_setShade_1 : decode cL_setShade 1 = .ok (.iload_n 1, 1) := by decide +kernel
theorem dL_setShade_2 : decode cL_setShade 2 = .ok (.iload_n 2, 1) := by decide +kernel
theorem dL_setShade_3 : decode cL_setShade 3 = .ok (.invokevirtual 42, 3) := by decide +kernel
theorem dL_setShade_6 : decode cL_setShade 6 = .ok (.ireturn, 1) := by decide +kernel
theorem dL_setShade_7 : decode cL_setShade 7 = .ok (.astore_n 3, 1) := by decide +kernel
theorem dL_setShade_8 : decode cL_setShade 8 = .ok (.sipush (-1001), 3) := by decide +kernel
theorem dL_setShade_11 : decode cL_setShade 11 = .ok (.ireturn, 1) := by decide +kernel
theorem dL_setShade_12 : decode cL_setShade 12 = .ok (.astore_n 3, 1) := by decide +kernel
theorem dL_setShade_13 : decode cL_setShade 13 = .ok (.sipush (-1002), 3) := by decide +kernel
theorem dL_setShade_16 : decode cL_setShade 16 = .ok (.ireturn, 1) := by decide +kernel
theorem dL_shade_0 : decode cL_shade 0 = .ok (.aload_n 0, 1) := by decide +kernel
theorem dL_shade_1 : decode cL_shade 1 = .ok (.iload_n 1, 1) := by decide +kernel
theorem dL_shade_2 : decode cL_shade 2 = .ok (.invokevirtual 45, 3) := by decide +kernel
theorem dL_shade_5 : decode cL_shade 5 = .ok (.ireturn, 1) := by decide +kernel
theorem dL_shade_6 : decode cL_shade 6 = .ok (.astore_n 2, 1) := by decide +kernel
theorem dL_shade_7 : decode cL_shade 7 = .ok (.sipush (-1001), 3) := by decide +kernel
theorem dL_shade_10 : decode cL_shade 10 = .ok (.ireturn, 1) := by decide +kernel
theorem dL_addChair_0 : decode cL_addChair 0 = .ok (.aload_n 0, 1) := by decide +kernel
theorem dL_addChair_1 : decode cL_addChair 1 = .ok (.iload_n 1, 1) := by decide +kernel
theorem dL_addChair_2 : decode cL_addChair 2 = .ok (.iload_n 2, 1) := by decide +kernel
theorem dL_addChair_3 : decode cL_addChair 3 = .ok (.invokevirtual 48, 3) := by decide +kernel
theorem dL_addChair_6 : decode cL_addChair 6 = .ok (.ireturn, 1) := by decide +kernel
theorem dL_addChair_7 : decode cL_addChair 7 = .ok (.astore_n 3, 1) := by decide +kernel
theorem dL_addChair_8 : decode cL_addChair 8 = .ok (.sipush (-1001), 3) := by decide +kernel
theorem dL_addChair_11 : decode cL_addChair 11 = .ok (.ireturn, 1) := by decide +kernel
theorem dL_addChair_12 : decode cL_addChair 12 = .ok (.astore_n 3, 1) := by decide +kernel
theorem dL_addChair_13 : decode cL_addChair 13 = .ok (.sipush (-1002), 3) := by decide +kernel
theorem dL_addChair_16 : decode cL_addChair 16 = .ok (.ireturn, 1) := by decide +kernel
theorem dL_addChair_17 : decode cL_addChair 17 = .ok (.astore_n 3, 1) := by decide +kernel
theorem dL_addChair_18 : decode cL_addChair 18 = .ok (.sipush (-1003), 3) := by decide +kernel
theorem dL_addChair_21 : decode cL_addChair 21 = .ok (.ireturn, 1) := by decide +kernel
theorem dL_scrap_0 : decode cL_scrap 0 = .ok (.aload_n 0, 1) := by decide +kernel
theorem dL_scrap_1 : decode cL_scrap 1 = .ok (.iload_n 1, 1) := by decide +kernel
theorem dL_scrap_2 : decode cL_scrap 2 = .ok (.invokevirtual 51, 3) := by decide +kernel
theorem dL_scrap_5 : decode cL_scrap 5 = .ok (.ireturn, 1) := by decide +kernel
theorem dL_scrap_6 : decode cL_scrap 6 = .ok (.astore_n 2, 1) := by decide +kernel
theorem dL_scrap_7 : decode cL_scrap 7 = .ok (.sipush (-1001), 3) := by decide +kernel
theorem dL_scrap_10 : decode cL_scrap 10 = .ok (.ireturn, 1) := by decide +kernel
theorem dL_fold_0 : decode cL_fold 0 = .ok (.aload_n 0, 1) := by decide +kernel
theorem dL_fold_1 : decode cL_fold 1 = .ok (.iload_n 1, 1) := by decide +kernel
theorem dL_fold_2 : decode cL_fold 2 = .ok (.invokevirtual 54, 3) := by decide +kernel
theorem dL_fold_5 : decode cL_fold 5 = .ok (.ireturn, 1) := by decide +kernel
theorem dL_fold_6 : decode cL_fold 6 = .ok (.astore_n 2, 1) := by decide +kernel
theorem dL_fold_7 : decode cL_fold 7 = .ok (.sipush (-1001), 3) := by decide +kernel
theorem dL_fold_10 : decode cL_fold 10 = .ok (.ireturn, 1) := by decide +kernel
theorem dL_fold_11 : decode cL_fold 11 = .ok (.astore_n 2, 1) := by decide +kernel
theorem dL_fold_12 : decode cL_fold 12 = .ok (.sipush (-1002), 3) := by decide +kernel
theorem dL_fold_15 : decode cL_fold 15 = .ok (.ireturn, 1) := by decide +kernel
theorem dL_unfold_0 : decode cL_unfold 0 = .ok (.aload_n 0, 1) := by decide +kernel
theorem dL_unfold_1 : decode cL_unfold 1 = .ok (.iload_n 1, 1) := by decide +kernel
theorem dL_unfold_2 : decode cL_unfold 2 = .ok (.invokevirtual 57, 3) := by decide +kernel
theorem dL_unfold_5 : decode cL_unfold 5 = .ok (.ireturn, 1) := by decide +kernel
theorem dL_unfold_6 : decode cL_unfold 6 = .ok (.astore_n 2, 1) := by decide +kernel
theorem dL_unfold_7 : decode cL_unfold 7 = .ok (.sipush (-1001), 3) := by decide +kernel
theorem dL_unfold_10 : decode cL_unfold 10 = .ok (.ireturn, 1) := by decide +kernel
theorem dL_unfold_11 : decode cL_unfold 11 = .ok (.astore_n 2, 1) := by decide +kernel
theorem dL_unfold_12 : decode cL_unfold 12 = .ok (.sipush (-1002), 3) := by decide +kernel
theorem dL_unfold_15 : decode cL_unfold 15 = .ok (.ireturn, 1) := by decide +kernel
theorem dL_move_0 : decode cL_move 0 = .ok (.aload_n 0, 1) := by decide +kernel
theorem dL_move_1 : decode cL_move 1 = .ok (.iload_n 1, 1) := by decide +kernel
theorem dL_move_2 : decode cL_move 2 = .ok (.iload_n 2, 1) := by decide +kernel
theorem dL_move_3 : decode cL_move 3 = .ok (.invokevirtual 60, 3) := by decide +kernel
theorem dL_move_6 : decode cL_move 6 = .ok (.ireturn, 1) := by decide +kernel
theorem dL_move_7 : decode cL_move 7 = .ok (.astore_n 3, 1) := by decide +kernel
theorem dL_move_8 : decode cL_move 8 = .ok (.sipush (-1001), 3) := by decide +kernel
theorem dL_move_11 : decode cL_move 11 = .ok (.ireturn, 1) := by decide +kernel
theorem dL_move_12 : decode cL_move 12 = .ok (.astore_n 3, 1) := by decide +kernel
theorem dL_move_13 : decode cL_move 13 = .ok (.sipush (-1002), 3) := by decide +kernel
theorem dL_move_16 : decode cL_move 16 = .ok (.ireturn, 1) := by decide +kernel
theorem dL_migrate_0 : decode cL_migrate 0 = .ok (.aload_n 0, 1) := by decide +kernel
theorem dL_migrate_1 : decode cL_migrate 1 = .ok (.iload_n 1, 1) := by decide +kernel
theorem dL_migrate_2 : decode cL_migrate 2 = .ok (.iload_n 2, 1) := by decide +kernel
theorem dL_migrate_3 : decode cL_migrate 3 = .ok (.invokevirtual 63, 3) := by decide +kernel
theorem dL_migrate_6 : decode cL_migrate 6 = .ok (.ireturn, 1) := by decide +kernel
theorem dL_migrate_7 : decode cL_migrate 7 = .ok (.astore_n 3, 1) := by decide +kernel
theorem dL_migrate_8 : decode cL_migrate 8 = .ok (.sipush (-1001), 3) := by decide +kernel
theorem dL_migrate_11 : decode cL_migrate 11 = .ok (.ireturn, 1) := by decide +kernel
theorem dL_migrate_12 : decode cL_migrate 12 = .ok (.astore_n 3, 1) := by decide +kernel
theorem dL_migrate_13 : decode cL_migrate 13 = .ok (.sipush (-1002), 3) := by decide +kernel
theorem dL_migrate_16 : decode cL_migrate 16 = .ok (.ireturn, 1) := by decide +kernel
theorem dL_oilChair_0 : decode cL_oilChair 0 = .ok (.aload_n 0, 1) := by decide +kernel
theorem dL_oilChair_1 : decode cL_oilChair 1 = .ok (.iload_n 1, 1) := by decide +kernel
theorem dL_oilChair_2 : decode cL_oilChair 2 = .ok (.invokevirtual 66, 3) := by decide +kernel
theorem dL_oilChair_5 : decode cL_oilChair 5 = .ok (.ireturn, 1) := by decide +kernel
theorem dL_oilChair_6 : decode cL_oilChair 6 = .ok (.astore_n 2, 1) := by decide +kernel
theorem dL_oilChair_7 : decode cL_oilChair 7 = .ok (.sipush (-1001), 3) := by decide +kernel
theorem dL_oilChair_10 : decode cL_oilChair 10 = .ok (.ireturn, 1) := by decide +kernel
theorem dL_oilChair_11 : decode cL_oilChair 11 = .ok (.astore_n 2, 1) := by decide +kernel
theorem dL_oilChair_12 : decode cL_oilChair 12 = .ok (.sipush (-1002), 3) := by decide +kernel
theorem dL_oilChair_15 : decode cL_oilChair 15 = .ok (.ireturn, 1) := by decide +kernel
theorem dL_addOil_0 : decode cL_addOil 0 = .ok (.aload_n 0, 1) := by decide +kernel
theorem dL_addOil_1 : decode cL_addOil 1 = .ok (.iload_n 1, 1) := by decide +kernel
theorem dL_addOil_2 : decode cL_addOil 2 = .ok (.invokevirtual 69, 3) := by decide +kernel
theorem dL_addOil_5 : decode cL_addOil 5 = .ok (.ireturn, 1) := by decide +kernel
theorem dL_addOil_6 : decode cL_addOil 6 = .ok (.astore_n 2, 1) := by decide +kernel
theorem dL_addOil_7 : decode cL_addOil 7 = .ok (.sipush (-1001), 3) := by decide +kernel
theorem dL_addOil_10 : decode cL_addOil 10 = .ok (.ireturn, 1) := by decide +kernel
theorem dL_addOil_11 : decode cL_addOil 11 = .ok (.astore_n 2, 1) := by decide +kernel
theorem dL_addOil_12 : decode cL_addOil 12 = .ok (.sipush (-1002), 3) := by decide +kernel
theorem dL_addOil_15 : decode cL_addOil 15 = .ok (.ireturn, 1) := by decide +kernel
theorem dL_lawnOf_0 : decode cL_lawnOf 0 = .ok (.aload_n 0, 1) := by decide +kernel
theorem dL_lawnOf_1 : decode cL_lawnOf 1 = .ok (.iload_n 1, 1) := by decide +kernel
theorem dL_lawnOf_2 : decode cL_lawnOf 2 = .ok (.invokevirtual 72, 3) := by decide +kernel
theorem dL_lawnOf_5 : decode cL_lawnOf 5 = .ok (.ireturn, 1) := by decide +kernel
theorem dL_lawnOf_6 : decode cL_lawnOf 6 = .ok (.astore_n 2, 1) := by decide +kernel
theorem dL_lawnOf_7 : decode cL_lawnOf 7 = .ok (.sipush (-1001), 3) := by decide +kernel
theorem dL_lawnOf_10 : decode cL_lawnOf 10 = .ok (.ireturn, 1) := by decide +kernel
theorem dL_rust_0 : decode cL_rust 0 = .ok (.aload_n 0, 1) := by decide +kernel
theorem dL_rust_1 : decode cL_rust 1 = .ok (.iload_n 1, 1) := by decide +kernel
theorem dL_rust_2 : decode cL_rust 2 = .ok (.invokevirtual 75, 3) := by decide +kernel
theorem dL_rust_5 : decode cL_rust 5 = .ok (.ireturn, 1) := by decide +kernel
theorem dL_rust_6 : decode cL_rust 6 = .ok (.astore_n 2, 1) := by decide +kernel
theorem dL_rust_7 : decode cL_rust 7 = .ok (.sipush (-1001), 3) := by decide +kernel
theorem dL_rust_10 : decode cL_rust 10 = .ok (.ireturn, 1) := by decide +kernel
theorem dL_isFolded_0 : decode cL_isFolded 0 = .ok (.aload_n 0, 1) := by decide +kernel
theorem dL_isFolded_1 : decode cL_isFolded 1 = .ok (.iload_n 1, 1) := by decide +kernel
theorem dL_isFolded_2 : decode cL_isFolded 2 = .ok (.invokevirtual 78, 3) := by decide +kernel
theorem dL_isFolded_5 : decode cL_isFolded 5 = .ok (.ifCond .eq 7, 3) := by decide +kernel
theorem dL_isFolded_8 : decode cL_isFolded 8 = .ok (.iconst 1, 1) := by decide +kernel
theorem dL_isFolded_9 : decode cL_isFolded 9 = .ok (.goto 4, 3) := by decide +kernel
theorem dL_isFolded_12 : decode cL_isFolded 12 = .ok (.iconst 0, 1) := by decide +kernel
theorem dL_isFolded_13 : decode cL_isFolded 13 = .ok (.ireturn, 1) := by decide +kernel
theorem dL_isFolded_14 : decode cL_isFolded 14 = .ok (.astore_n 2, 1) := by decide +kernel
theorem dL_isFolded_15 : decode cL_isFolded 15 = .ok (.sipush (-1001), 3) := by decide +kernel
theorem dL_isFolded_18 : decode cL_isFolded 18 = .ok (.ireturn, 1) := by decide +kernel
theorem dL_age_0 : decode cL_age 0 = .ok (.aload_n 0, 1) := by decide +kernel
theorem dL_age_1 : decode cL_age 1 = .ok (.iload_n 1, 1) := by decide +kernel
theorem dL_age_2 : decode cL_age 2 = .ok (.invokevirtual 82, 3) := by decide +kernel
theorem dL_age_5 : decode cL_age 5 = .ok (.ireturn, 1) := by decide +kernel
theorem dL_age_6 : decode cL_age 6 = .ok (.astore_n 2, 1) := by decide +kernel
theorem dL_age_7 : decode cL_age 7 = .ok (.sipush (-1001), 3) := by decide +kernel
theorem dL_age_10 : decode cL_age 10 = .ok (.ireturn, 1) := by decide +kernel
theorem dL_position_0 : decode cL_position 0 = .ok (.aload_n 0, 1) := by decide +kernel
theorem dL_position_1 : decode cL_position 1 = .ok (.iload_n 1, 1) := by decide +kernel
theorem dL_position_2 : decode cL_position 2 = .ok (.invokevirtual 85, 3) := by decide +kernel
theorem dL_position_5 : decode cL_position 5 = .ok (.ireturn, 1) := by decide +kernel
theorem dL_position_6 : decode cL_position 6 = .ok (.astore_n 2, 1) := by decide +kernel
theorem dL_position_7 : decode cL_position 7 = .ok (.sipush (-1001), 3) := by decide +kernel
theorem dL_position_10 : decode cL_position 10 = .ok (.ireturn, 1) := by decide +kernel
theorem dL_herdSize_0 : decode cL_herdSize 0 = .ok (.aload_n 0, 1) := by decide +kernel
theorem dL_herdSize_1 : decode cL_herdSize 1 = .ok (.iload_n 1, 1) := by decide +kernel
theorem dL_herdSize_2 : decode cL_herdSize 2 = .ok (.invokevirtual 88, 3) := by decide +kernel
theorem dL_herdSize_5 : decode cL_herdSize 5 = .ok (.ireturn, 1) := by decide +kernel
theorem dL_herdSize_6 : decode cL_herdSize 6 = .ok (.astore_n 2, 1) := by decide +kernel
theorem dL_herdSize_7 : decode cL_herdSize 7 = .ok (.sipush (-1001), 3) := by decide +kernel
theorem dL_herdSize_10 : decode cL_herdSize 10 = .ok (.ireturn, 1) := by decide +kernel
theorem dL_herdSizeAgain_0 : decode cL_herdSizeAgain 0 = .ok (.aload_n 0, 1) := by decide +kernel
theorem dL_herdSizeAgain_1 : decode cL_herdSizeAgain 1 = .ok (.iload_n 1, 1) := by decide +kernel
theorem dL_herdSizeAgain_2 : decode cL_herdSizeAgain 2 = .ok (.invokevirtual 91, 3) := by decide +kernel
theorem dL_herdSizeAgain_5 : decode cL_herdSizeAgain 5 = .ok (.ireturn, 1) := by decide +kernel
theorem dL_herdSizeAgain_6 : decode cL_herdSizeAgain 6 = .ok (.astore_n 2, 1) := by decide +kernel
theorem dL_herdSizeAgain_7 : decode cL_herdSizeAgain 7 = .ok (.sipush (-1001), 3) := by decide +kernel
theorem dL_herdSizeAgain_10 : decode cL_herdSizeAgain 10 = .ok (.ireturn, 1) := by decide +kernel
theorem dL_chairAt_0 : decode cL_chairAt 0 = .ok (.aload_n 0, 1) := by decide +kernel
theorem dL_chairAt_1 : decode cL_chairAt 1 = .ok (.iload_n 1, 1) := by decide +kernel
theorem dL_chairAt_2 : decode cL_chairAt 2 = .ok (.iload_n 2, 1) := by decide +kernel
theorem dL_chairAt_3 : decode cL_chairAt 3 = .ok (.invokevirtual 94, 3) := by decide +kernel
theorem dL_chairAt_6 : decode cL_chairAt 6 = .ok (.ireturn, 1) := by decide +kernel
theorem dL_chairAt_7 : decode cL_chairAt 7 = .ok (.astore_n 3, 1) := by decide +kernel
theorem dL_chairAt_8 : decode cL_chairAt 8 = .ok (.sipush (-1001), 3) := by decide +kernel
theorem dL_chairAt_11 : decode cL_chairAt 11 = .ok (.ireturn, 1) := by decide +kernel
theorem dL_chairAt_12 : decode cL_chairAt 12 = .ok (.astore_n 3, 1) := by decide +kernel
theorem dL_chairAt_13 : decode cL_chairAt 13 = .ok (.sipush (-1002), 3) := by decide +kernel
theorem dL_chairAt_16 : decode cL_chairAt 16 = .ok (.ireturn, 1) := by decide +kernel
theorem dL_elder_0 : decode cL_elder 0 = .ok (.aload_n 0, 1) := by decide +kernel
theorem dL_elder_1 : decode cL_elder 1 = .ok (.iload_n 1, 1) := by decide +kernel
theorem dL_elder_2 : decode cL_elder 2 = .ok (.invokevirtual 97, 3) := by decide +kernel
theorem dL_elder_5 : decode cL_elder 5 = .ok (.ireturn, 1) := by decide +kernel
theorem dL_elder_6 : decode cL_elder 6 = .ok (.astore_n 2, 1) := by decide +kernel
theorem dL_elder_7 : decode cL_elder 7 = .ok (.sipush (-1001), 3) := by decide +kernel
theorem dL_elder_10 : decode cL_elder 10 = .ok (.ireturn, 1) := by decide +kernel
theorem dL_elder_11 : decode cL_elder 11 = .ok (.astore_n 2, 1) := by decide +kernel
theorem dL_elder_12 : decode cL_elder 12 = .ok (.sipush (-1002), 3) := by decide +kernel
theorem dL_elder_15 : decode cL_elder 15 = .ok (.ireturn, 1) := by decide +kernel
theorem dL_hungry_0 : decode cL_hungry 0 = .ok (.aload_n 0, 1) := by decide +kernel
theorem dL_hungry_1 : decode cL_hungry 1 = .ok (.iload_n 1, 1) := by decide +kernel
theorem dL_hungry_2 : decode cL_hungry 2 = .ok (.invokevirtual 100, 3) := by decide +kernel
theorem dL_hungry_5 : decode cL_hungry 5 = .ok (.ireturn, 1) := by decide +kernel
theorem dL_hungry_6 : decode cL_hungry 6 = .ok (.astore_n 2, 1) := by decide +kernel
theorem dL_hungry_7 : decode cL_hungry 7 = .ok (.sipush (-1001), 3) := by decide +kernel
theorem dL_hungry_10 : decode cL_hungry 10 = .ok (.ireturn, 1) := by decide +kernel
theorem dL_bestNeighbour_0 : decode cL_bestNeighbour 0 = .ok (.aload_n 0, 1) := by decide +kernel
theorem dL_bestNeighbour_1 : decode cL_bestNeighbour 1 = .ok (.iload_n 1, 1) := by decide +kernel
theorem dL_bestNeighbour_2 : decode cL_bestNeighbour 2 = .ok (.invokevirtual 103, 3) := by decide +kernel
theorem dL_bestNeighbour_5 : decode cL_bestNeighbour 5 = .ok (.ireturn, 1) := by decide +kernel
theorem dL_bestNeighbour_6 : decode cL_bestNeighbour 6 = .ok (.astore_n 2, 1) := by decide +kernel
theorem dL_bestNeighbour_7 : decode cL_bestNeighbour 7 = .ok (.sipush (-1001), 3) := by decide +kernel
theorem dL_bestNeighbour_10 : decode cL_bestNeighbour 10 = .ok (.ireturn, 1) := by decide +kernel
theorem dL_bestNeighbour_11 : decode cL_bestNeighbour 11 = .ok (.astore_n 2, 1) := by decide +kernel
theorem dL_bestNeighbour_12 : decode cL_bestNeighbour 12 = .ok (.sipush (-1002), 3) := by decide +kernel
theorem dL_bestNeighbour_15 : decode cL_bestNeighbour 15 = .ok (.ireturn, 1) := by decide +kernel
theorem dL_passDays_0 : decode cL_passDays 0 = .ok (.aload_n 0, 1) := by decide +kernel
theorem dL_passDays_1 : decode cL_passDays 1 = .ok (.iload_n 1, 1) := by decide +kernel
theorem dL_passDays_2 : decode cL_passDays 2 = .ok (.invokevirtual 106, 3) := by decide +kernel
theorem dL_passDays_5 : decode cL_passDays 5 = .ok (.ireturn, 1) := by decide +kernel
theorem dL_passDays_6 : decode cL_passDays 6 = .ok (.astore_n 2, 1) := by decide +kernel
theorem dL_passDays_7 : decode cL_passDays 7 = .ok (.sipush (-1001), 3) := by decide +kernel
theorem dL_passDays_10 : decode cL_passDays 10 = .ok (.ireturn, 1) := by decide +kernel
theorem dL_daysUntil_0 : decode cL_daysUntil 0 = .ok (.aload_n 0, 1) := by decide +kernel
theorem dL_daysUntil_1 : decode cL_daysUntil 1 = .ok (.iload_n 1, 1) := by decide +kernel
theorem dL_daysUntil_2 : decode cL_daysUntil 2 = .ok (.invokevirtual 109, 3) := by decide +kernel
theorem dL_daysUntil_5 : decode cL_daysUntil 5 = .ok (.ireturn, 1) := by decide +kernel
theorem dL_daysUntil_6 : decode cL_daysUntil 6 = .ok (.astore_n 2, 1) := by decide +kernel
theorem dL_daysUntil_7 : decode cL_daysUntil 7 = .ok (.sipush (-1001), 3) := by decide +kernel
theorem dL_daysUntil_10 : decode cL_daysUntil 10 = .ok (.ireturn, 1) := by decide +kernel
theorem dL_wouldCollapse_0 : decode cL_wouldCollapse 0 = .ok (.aload_n 0, 1) := by decide +kernel
theorem dL_wouldCollapse_1 : decode cL_wouldCollapse 1 = .ok (.iload_n 1, 1) := by decide +kernel
theorem dL_wouldCollapse_2 : decode cL_wouldCollapse 2 = .ok (.invokevirtual 112, 3) := by decide +kernel
theorem dL_wouldCollapse_5 : decode cL_wouldCollapse 5 = .ok (.ireturn, 1) := by decide +kernel
theorem dL_wouldCollapse_6 : decode cL_wouldCollapse 6 = .ok (.astore_n 2, 1) := by decide +kernel
theorem dL_wouldCollapse_7 : decode cL_wouldCollapse 7 = .ok (.sipush (-1001), 3) := by decide +kernel
theorem dL_wouldCollapse_10 : decode cL_wouldCollapse 10 = .ok (.ireturn, 1) := by decide +kernel
theorem dL_collapseDay_0 : decode cL_collapseDay 0 = .ok (.aload_n 0, 1) := by decide +kernel
theorem dL_collapseDay_1 : decode cL_collapseDay 1 = .ok (.iload_n 1, 1) := by decide +kernel
theorem dL_collapseDay_2 : decode cL_collapseDay 2 = .ok (.invokevirtual 115, 3) := by decide +kernel
theorem dL_collapseDay_5 : decode cL_collapseDay 5 = .ok (.ireturn, 1) := by decide +kernel
theorem dL_collapseDay_6 : decode cL_collapseDay 6 = .ok (.astore_n 2, 1) := by decide +kernel
theorem dL_collapseDay_7 : decode cL_collapseDay 7 = .ok (.sipush (-1001), 3) := by decide +kernel
theorem dL_collapseDay_10 : decode cL_collapseDay 10 = .ok (.ireturn, 1) := by decide +kernel
theorem dL_collapseDay_11 : decode cL_collapseDay 11 = .ok (.astore_n 2, 1) := by decide +kernel
theorem dL_collapseDay_12 : decode cL_collapseDay 12 = .ok (.sipush (-1002), 3) := by decide +kernel
theorem dL_collapseDay_15 : decode cL_collapseDay 15 = .ok (.ireturn, 1) := by decide +kernel
theorem dL_byRust_0 : decode cL_byRust 0 = .ok (.aload_n 0, 1) := by decide +kernel
theorem dL_byRust_1 : decode cL_byRust 1 = .ok (.iload_n 1, 1) := by decide +kernel
theorem dL_byRust_2 : decode cL_byRust 2 = .ok (.invokevirtual 118, 3) := by decide +kernel
theorem dL_byRust_5 : decode cL_byRust 5 = .ok (.ireturn, 1) := by decide +kernel
theorem dL_byRust_6 : decode cL_byRust 6 = .ok (.astore_n 2, 1) := by decide +kernel
theorem dL_byRust_7 : decode cL_byRust 7 = .ok (.sipush (-1001), 3) := by decide +kernel
theorem dL_byRust_10 : decode cL_byRust 10 = .ok (.ireturn, 1) := by decide +kernel
theorem dL_byShade_0 : decode cL_byShade 0 = .ok (.aload_n 0, 1) := by decide +kernel
theorem dL_byShade_1 : decode cL_byShade 1 = .ok (.iload_n 1, 1) := by decide +kernel
theorem dL_byShade_2 : decode cL_byShade 2 = .ok (.invokevirtual 121, 3) := by decide +kernel
theorem dL_byShade_5 : decode cL_byShade 5 = .ok (.ireturn, 1) := by decide +kernel
theorem dL_byShade_6 : decode cL_byShade 6 = .ok (.astore_n 2, 1) := by decide +kernel
theorem dL_byShade_7 : decode cL_byShade 7 = .ok (.sipush (-1001), 3) := by decide +kernel
theorem dL_byShade_10 : decode cL_byShade 10 = .ok (.ireturn, 1) := by decide +kernel
theorem dL_meanRust_0 : decode cL_meanRust 0 = .ok (.aload_n 0, 1) := by decide +kernel
theorem dL_meanRust_1 : decode cL_meanRust 1 = .ok (.invokevirtual 124, 3) := by decide +kernel
theorem dL_meanRust_4 : decode cL_meanRust 4 = .ok (.dreturn, 1) := by decide +kernel
theorem dL_meanRust_5 : decode cL_meanRust 5 = .ok (.astore_n 1, 1) := by decide +kernel
theorem dL_meanRust_6 : decode cL_meanRust 6 = .ok (.ldc2_w 130, 3) := by decide +kernel
theorem dL_meanRust_9 : decode cL_meanRust 9 = .ok (.dreturn, 1) := by decide +kernel
theorem dL_foldedShare_0 : decode cL_foldedShare 0 = .ok (.aload_n 0, 1) := by decide +kernel
theorem dL_foldedShare_1 : decode cL_foldedShare 1 = .ok (.invokevirtual 132, 3) := by decide +kernel
theorem dL_foldedShare_4 : decode cL_foldedShare 4 = .ok (.freturn, 1) := by decide +kernel
theorem dL_foldedShare_5 : decode cL_foldedShare 5 = .ok (.astore_n 1, 1) := by decide +kernel
theorem dL_foldedShare_6 : decode cL_foldedShare 6 = .ok (.ldc 136, 2) := by decide +kernel
theorem dL_foldedShare_8 : decode cL_foldedShare 8 = .ok (.freturn, 1) := by decide +kernel
theorem dL_writeLawn_0 : decode cL_writeLawn 0 = .ok (.aload_n 0, 1) := by decide +kernel
theorem dL_writeLawn_1 : decode cL_writeLawn 1 = .ok (.iload_n 1, 1) := by decide +kernel
theorem dL_writeLawn_2 : decode cL_writeLawn 2 = .ok (.invokevirtual 137, 3) := by decide +kernel
theorem dL_writeLawn_5 : decode cL_writeLawn 5 = .ok (.ireturn, 1) := by decide +kernel
theorem dL_writeLawn_6 : decode cL_writeLawn 6 = .ok (.astore_n 2, 1) := by decide +kernel
theorem dL_writeLawn_7 : decode cL_writeLawn 7 = .ok (.sipush (-1001), 3) := by decide +kernel
theorem dL_writeLawn_10 : decode cL_writeLawn 10 = .ok (.ireturn, 1) := by decide +kernel
theorem dL_outputAt_0 : decode cL_outputAt 0 = .ok (.aload_n 0, 1) := by decide +kernel
theorem dL_outputAt_1 : decode cL_outputAt 1 = .ok (.iload_n 1, 1) := by decide +kernel
theorem dL_outputAt_2 : decode cL_outputAt 2 = .ok (.invokevirtual 140, 3) := by decide +kernel
theorem dL_outputAt_5 : decode cL_outputAt 5 = .ok (.ireturn, 1) := by decide +kernel
theorem dL_outputAt_6 : decode cL_outputAt 6 = .ok (.astore_n 2, 1) := by decide +kernel
theorem dL_outputAt_7 : decode cL_outputAt 7 = .ok (.sipush (-1001), 3) := by decide +kernel
theorem dL_outputAt_10 : decode cL_outputAt 10 = .ok (.ireturn, 1) := by decide +kernel
theorem dL_append_0 : decode cL_append 0 = .ok (.aload_n 0, 1) := by decide +kernel
theorem dL_append_1 : decode cL_append 1 = .ok (.iload_n 1, 1) := by decide +kernel
theorem dL_append_2 : decode cL_append 2 = .ok (.invokevirtual 144, 3) := by decide +kernel
theorem dL_append_5 : decode cL_append 5 = .ok (.ireturn, 1) := by decide +kernel
theorem dL_append_6 : decode cL_append 6 = .ok (.astore_n 2, 1) := by decide +kernel
theorem dL_append_7 : decode cL_append 7 = .ok (.sipush (-1001), 3) := by decide +kernel
theorem dL_append_10 : decode cL_append 10 = .ok (.ireturn, 1) := by decide +kernel
theorem dL_append_11 : decode cL_append 11 = .ok (.astore_n 2, 1) := by decide +kernel
theorem dL_append_12 : decode cL_append 12 = .ok (.sipush (-1002), 3) := by decide +kernel
theorem dL_append_15 : decode cL_append 15 = .ok (.ireturn, 1) := by decide +kernel
theorem dL_execute_0 : decode cL_execute 0 = .ok (.aload_n 0, 1) := by decide +kernel
theorem dL_execute_1 : decode cL_execute 1 = .ok (.invokevirtual 150, 3) := by decide +kernel
theorem dL_execute_4 : decode cL_execute 4 = .ok (.ireturn, 1) := by decide +kernel
theorem dL_execute_5 : decode cL_execute 5 = .ok (.astore_n 1, 1) := by decide +kernel
theorem dL_execute_6 : decode cL_execute 6 = .ok (.sipush (-1001), 3) := by decide +kernel
theorem dL_execute_9 : decode cL_execute 9 = .ok (.ireturn, 1) := by decide +kernel
theorem dL_execute_10 : decode cL_execute 10 = .ok (.astore_n 1, 1) := by decide +kernel
theorem dL_execute_11 : decode cL_execute 11 = .ok (.sipush (-1002), 3) := by decide +kernel
theorem dL_execute_14 : decode cL_execute 14 = .ok (.ireturn, 1) := by decide +kernel
theorem dL_execute_15 : decode cL_execute 15 = .ok (.astore_n 1, 1) := by decide +kernel
theorem dL_execute_16 : decode cL_execute 16 = .ok (.sipush (-1003), 3) := by decide +kernel
theorem dL_execute_19 : decode cL_execute 19 = .ok (.ireturn, 1) := by decide +kernel
theorem dL_syntaxError_0 : decode cL_syntaxError 0 = .ok (.aload_n 0, 1) := by decide +kernel
theorem dL_syntaxError_1 : decode cL_syntaxError 1 = .ok (.invokevirtual 154, 3) := by decide +kernel
theorem dL_syntaxError_4 : decode cL_syntaxError 4 = .ok (.ireturn, 1) := by decide +kernel
theorem dL_syntaxError_5 : decode cL_syntaxError 5 = .ok (.astore_n 1, 1) := by decide +kernel
theorem dL_syntaxError_6 : decode cL_syntaxError 6 = .ok (.sipush (-1001), 3) := by decide +kernel
theorem dL_syntaxError_9 : decode cL_syntaxError 9 = .ok (.ireturn, 1) := by decide +kernel
theorem dL_reason_0 : decode cL_reason 0 = .ok (.aload_n 0, 1) := by decide +kernel
theorem dL_reason_1 : decode cL_reason 1 = .ok (.invokevirtual 157, 3) := by decide +kernel
theorem dL_reason_4 : decode cL_reason 4 = .ok (.ireturn, 1) := by decide +kernel
theorem dL_reason_5 : decode cL_reason 5 = .ok (.astore_n 1, 1) := by decide +kernel
theorem dL_reason_6 : decode cL_reason 6 = .ok (.sipush (-1001), 3) := by decide +kernel
theorem dL_reason_9 : decode cL_reason 9 = .ok (.ireturn, 1) := by decide +kernel
theorem dL_detail_0 : decode cL_detail 0 = .ok (.aload_n 0, 1) := by decide +kernel
theorem dL_detail_1 : decode cL_detail 1 = .ok (.invokevirtual 160, 3) := by decide +kernel
theorem dL_detail_4 : decode cL_detail 4 = .ok (.ireturn, 1) := by decide +kernel
theorem dL_detail_5 : decode cL_detail 5 = .ok (.astore_n 1, 1) := by decide +kernel
theorem dL_detail_6 : decode cL_detail 6 = .ok (.sipush (-1001), 3) := by decide +kernel
theorem dL_detail_9 : decode cL_detail 9 = .ok (.ireturn, 1) := by decide +kernel
theorem dL_cause_0 : decode cL_cause 0 = .ok (.aload_n 0, 1) := by decide +kernel
theorem dL_cause_1 : decode cL_cause 1 = .ok (.invokevirtual 163, 3) := by decide +kernel
theorem dL_cause_4 : decode cL_cause 4 = .ok (.ireturn, 1) := by decide +kernel
theorem dL_cause_5 : decode cL_cause 5 = .ok (.astore_n 1, 1) := by decide +kernel
theorem dL_cause_6 : decode cL_cause 6 = .ok (.sipush (-1001), 3) := by decide +kernel
theorem dL_cause_9 : decode cL_cause 9 = .ok (.ireturn, 1) := by decide +kernel
theorem dL_undo_0 : decode cL_undo 0 = .ok (.aload_n 0, 1) := by decide +kernel
theorem dL_undo_1 : decode cL_undo 1 = .ok (.invokevirtual 166, 3) := by decide +kernel
theorem dL_undo_4 : decode cL_undo 4 = .ok (.ireturn, 1) := by decide +kernel
theorem dL_undo_5 : decode cL_undo 5 = .ok (.astore_n 1, 1) := by decide +kernel
theorem dL_undo_6 : decode cL_undo 6 = .ok (.sipush (-1001), 3) := by decide +kernel
theorem dL_undo_9 : decode cL_undo 9 = .ok (.ireturn, 1) := by decide +kernel
theorem dL_restore_0 : decode cL_restore 0 = .ok (.aload_n 0, 1) := by decide +kernel
theorem dL_restore_1 : decode cL_restore 1 = .ok (.invokevirtual 169, 3) := by decide +kernel
theorem dL_restore_4 : decode cL_restore 4 = .ok (.ireturn, 1) := by decide +kernel
theorem dL_restore_5 : decode cL_restore 5 = .ok (.astore_n 1, 1) := by decide +kernel
theorem dL_restore_6 : decode cL_restore 6 = .ok (.sipush (-1001), 3) := by decide +kernel
theorem dL_restore_9 : decode cL_restore 9 = .ok (.ireturn, 1) := by decide +kernel
theorem dL_runs_0 : decode cL_runs 0 = .ok (.iconst 0, 1) := by decide +kernel
theorem dL_runs_1 : decode cL_runs 1 = .ok (.istore_n 2, 1) := by decide +kernel
theorem dL_runs_2 : decode cL_runs 2 = .ok (.iload_n 2, 1) := by decide +kernel
theorem dL_runs_3 : decode cL_runs 3 = .ok (.aload_n 1, 1) := by decide +kernel
theorem dL_runs_4 : decode cL_runs 4 = .ok (.invokevirtual 172, 3) := by decide +kernel
theorem dL_runs_7 : decode cL_runs 7 = .ok (.if_icmp .ge 28, 3) := by decide +kernel
theorem dL_runs_10 : decode cL_runs 10 = .ok (.aload_n 0, 1) := by decide +kernel
theorem dL_runs_11 : decode cL_runs 11 = .ok (.aload_n 1, 1) := by decide +kernel
theorem dL_runs_12 : decode cL_runs 12 = .ok (.iload_n 2, 1) := by decide +kernel
theorem dL_runs_13 : decode cL_runs 13 = .ok (.invokevirtual 177, 3) := by decide +kernel
theorem dL_runs_16 : decode cL_runs 16 = .ok (.invokestatic 180, 3) := by decide +kernel
theorem dL_runs_19 : decode cL_runs 19 = .ok (.iload_n 2, 1) := by decide +kernel
theorem dL_runs_20 : decode cL_runs 20 = .ok (.iconst 1, 1) := by decide +kernel
theorem dL_runs_21 : decode cL_runs 21 = .ok (.iadd, 1) := by decide +kernel
theorem dL_runs_22 : decode cL_runs 22 = .ok (.if_icmp .eq 7, 3) := by decide +kernel
theorem dL_runs_25 : decode cL_runs 25 = .ok (.sipush (-9999), 3) := by decide +kernel
theorem dL_runs_28 : decode cL_runs 28 = .ok (.ireturn, 1) := by decide +kernel
theorem dL_runs_29 : decode cL_runs 29 = .ok (.iinc 2 1, 3) := by decide +kernel
theorem dL_runs_32 : decode cL_runs 32 = .ok (.goto (-30), 3) := by decide +kernel
theorem dL_runs_35 : decode cL_runs 35 = .ok (.aload_n 0, 1) := by decide +kernel
theorem dL_runs_36 : decode cL_runs 36 = .ok (.invokestatic 186, 3) := by decide +kernel
theorem dL_runs_39 : decode cL_runs 39 = .ok (.ireturn, 1) := by decide +kernel
theorem dL_is_0 : decode cL_is 0 = .ok (.aload_n 0, 1) := by decide +kernel
theorem dL_is_1 : decode cL_is 1 = .ok (.invokestatic 189, 3) := by decide +kernel
theorem dL_is_4 : decode cL_is 4 = .ok (.iload_n 1, 1) := by decide +kernel
theorem dL_is_5 : decode cL_is 5 = .ok (.if_icmp .ne 25, 3) := by decide +kernel
theorem dL_is_8 : decode cL_is 8 = .ok (.aload_n 0, 1) := by decide +kernel
theorem dL_is_9 : decode cL_is 9 = .ok (.invokestatic 192, 3) := by decide +kernel
theorem dL_is_12 : decode cL_is 12 = .ok (.iload_n 2, 1) := by decide +kernel
theorem dL_is_13 : decode cL_is 13 = .ok (.if_icmp .ne 17, 3) := by decide +kernel
theorem dL_is_16 : decode cL_is 16 = .ok (.aload_n 0, 1) := by decide +kernel
theorem dL_is_17 : decode cL_is 17 = .ok (.invokestatic 195, 3) := by decide +kernel
theorem dL_is_20 : decode cL_is 20 = .ok (.sipush (-1001), 3) := by decide +kernel
theorem dL_is_23 : decode cL_is 23 = .ok (.if_icmp .ne 7, 3) := by decide +kernel
theorem dL_is_26 : decode cL_is 26 = .ok (.iconst 1, 1) := by decide +kernel
theorem dL_is_27 : decode cL_is 27 = .ok (.goto 4, 3) := by decide +kernel
theorem dL_is_30 : decode cL_is 30 = .ok (.iconst 0, 1) := by decide +kernel
theorem dL_is_31 : decode cL_is 31 = .ok (.ireturn, 1) := by decide +kernel
theorem dL_makes_0 : decode cL_makes 0 = .ok (.iconst 0, 1) := by decide +kernel
theorem dL_makes_1 : decode cL_makes 1 = .ok (.istore_n 2, 1) := by decide +kernel
theorem dL_makes_2 : decode cL_makes 2 = .ok (.iload_n 2, 1) := by decide +kernel
theorem dL_makes_3 : decode cL_makes 3 = .ok (.bipush 6, 2) := by decide +kernel
theorem dL_makes_5 : decode cL_makes 5 = .ok (.if_icmp .ge 64, 3) := by decide +kernel
theorem dL_makes_8 : decode cL_makes 8 = .ok (.aload_n 1, 1) := by decide +kernel
theorem dL_makes_9 : decode cL_makes 9 = .ok (.iload_n 2, 1) := by decide +kernel
theorem dL_makes_10 : decode cL_makes 10 = .ok (.invokestatic 201, 3) := by decide +kernel
theorem dL_makes_13 : decode cL_makes 13 = .ok (.istore_n 3, 1) := by decide +kernel
theorem dL_makes_14 : decode cL_makes 14 = .ok (.iload_n 3, 1) := by decide +kernel
theorem dL_makes_15 : decode cL_makes 15 = .ok (.bipush 6, 2) := by decide +kernel
theorem dL_makes_17 : decode cL_makes 17 = .ok (.invokestatic 205, 3) := by decide +kernel
theorem dL_makes_20 : decode cL_makes 20 = .ok (.istore 4, 2) := by decide +kernel
theorem dL_makes_22 : decode cL_makes 22 = .ok (.aload_n 0, 1) := by decide +kernel
theorem dL_makes_23 : decode cL_makes 23 = .ok (.iload 4, 2) := by decide +kernel
theorem dL_makes_25 : decode cL_makes 25 = .ok (.iload 4, 2) := by decide +kernel
theorem dL_makes_27 : decode cL_makes 27 = .ok (.iconst 1, 1) := by decide +kernel
theorem dL_makes_28 : decode cL_makes 28 = .ok (.iadd, 1) := by decide +kernel
theorem dL_makes_29 : decode cL_makes 29 = .ok (.iload_n 3, 1) := by decide +kernel
theorem dL_makes_30 : decode cL_makes 30 = .ok (.iconst 3, 1) := by decide +kernel
theorem dL_makes_31 : decode cL_makes 31 = .ok (.ishr, 1) := by decide +kernel
theorem dL_makes_32 : decode cL_makes 32 = .ok (.iconst 5, 1) := by decide +kernel
theorem dL_makes_33 : decode cL_makes 33 = .ok (.invokestatic 205, 3) := by decide +kernel
theorem dL_makes_36 : decode cL_makes 36 = .ok (.iadd, 1) := by decide +kernel
theorem dL_makes_37 : decode cL_makes 37 = .ok (.bipush 6, 2) := by decide +kernel
theorem dL_makes_39 : decode cL_makes 39 = .ok (.irem, 1) := by decide +kernel
theorem dL_makes_40 : decode cL_makes 40 = .ok (.invokestatic 208, 3) := by decide +kernel
theorem dL_makes_43 : decode cL_makes 43 = .ok (.istore 5, 2) := by decide +kernel
theorem dL_makes_45 : decode cL_makes 45 = .ok (.iload 5, 2) := by decide +kernel
theorem dL_makes_47 : decode cL_makes 47 = .ok (.sipush (-1001), 3) := by decide +kernel
theorem dL_makes_50 : decode cL_makes 50 = .ok (.if_icmp .eq 11, 3) := by decide +kernel
theorem dL_makes_53 : decode cL_makes 53 = .ok (.iload 5, 2) := by decide +kernel
theorem dL_makes_55 : decode cL_makes 55 = .ok (.sipush (-1002), 3) := by decide +kernel
theorem dL_makes_58 : decode cL_makes 58 = .ok (.if_icmp .ne 5, 3) := by decide +kernel
theorem dL_makes_61 : decode cL_makes 61 = .ok (.iconst 0, 1) := by decide +kernel
theorem dL_makes_62 : decode cL_makes 62 = .ok (.ireturn, 1) := by decide +kernel
theorem dL_makes_63 : decode cL_makes 63 = .ok (.iinc 2 1, 3) := by decide +kernel
theorem dL_makes_66 : decode cL_makes 66 = .ok (.goto (-64), 3) := by decide +kernel
theorem dL_makes_69 : decode cL_makes 69 = .ok (.iconst 0, 1) := by decide +kernel
theorem dL_makes_70 : decode cL_makes 70 = .ok (.istore_n 2, 1) := by decide +kernel
theorem dL_makes_71 : decode cL_makes 71 = .ok (.iload_n 2, 1) := by decide +kernel
theorem dL_makes_72 : decode cL_makes 72 = .ok (.bipush 6, 2) := by decide +kernel
theorem dL_makes_74 : decode cL_makes 74 = .ok (.if_icmp .ge 32, 3) := by decide +kernel
theorem dL_makes_77 : decode cL_makes 77 = .ok (.aload_n 0, 1) := by decide +kernel
theorem dL_makes_78 : decode cL_makes 78 = .ok (.iload_n 2, 1) := by decide +kernel
theorem dL_makes_79 : decode cL_makes 79 = .ok (.aload_n 1, 1) := by decide +kernel
theorem dL_makes_80 : decode cL_makes 80 = .ok (.bipush 6, 2) := by decide +kernel
theorem dL_makes_82 : decode cL_makes 82 = .ok (.iload_n 2, 1) := by decide +kernel
theorem dL_makes_83 : decode cL_makes 83 = .ok (.iadd, 1) := by decide +kernel
theorem dL_makes_84 : decode cL_makes 84 = .ok (.invokestatic 201, 3) := by decide +kernel
theorem dL_makes_87 : decode cL_makes 87 = .ok (.bipush 21, 2) := by decide +kernel
theorem dL_makes_89 : decode cL_makes 89 = .ok (.invokestatic 205, 3) := by decide +kernel
theorem dL_makes_92 : decode cL_makes 92 = .ok (.invokestatic 211, 3) := by decide +kernel
theorem dL_makes_95 : decode cL_makes 95 = .ok (.ifCond .ge 5, 3) := by decide +kernel
theorem dL_makes_98 : decode cL_makes 98 = .ok (.iconst 0, 1) := by decide +kernel
theorem dL_makes_99 : decode cL_makes 99 = .ok (.ireturn, 1) := by decide +kernel
theorem dL_makes_100 : decode cL_makes 100 = .ok (.iinc 2 1, 3) := by decide +kernel
theorem dL_makes_103 : decode cL_makes 103 = .ok (.goto (-32), 3) := by decide +kernel
theorem dL_makes_106 : decode cL_makes 106 = .ok (.iconst 0, 1) := by decide +kernel
theorem dL_makes_107 : decode cL_makes 107 = .ok (.istore_n 2, 1) := by decide +kernel
theorem dL_makes_108 : decode cL_makes 108 = .ok (.iload_n 2, 1) := by decide +kernel
theorem dL_makes_109 : decode cL_makes 109 = .ok (.bipush 11, 2) := by decide +kernel
theorem dL_makes_111 : decode cL_makes 111 = .ok (.if_icmp .ge 58, 3) := by decide +kernel
theorem dL_makes_114 : decode cL_makes 114 = .ok (.aload_n 0, 1) := by decide +kernel
theorem dL_makes_115 : decode cL_makes 115 = .ok (.aload_n 1, 1) := by decide +kernel
theorem dL_makes_116 : decode cL_makes 116 = .ok (.bipush 12, 2) := by decide +kernel
theorem dL_makes_118 : decode cL_makes 118 = .ok (.iload_n 2, 1) := by decide +kernel
theorem dL_makes_119 : decode cL_makes 119 = .ok (.iadd, 1) := by decide +kernel
theorem dL_makes_120 : decode cL_makes 120 = .ok (.invokestatic 201, 3) := by decide +kernel
theorem dL_makes_123 : decode cL_makes 123 = .ok (.bipush 6, 2) := by decide +kernel
theorem dL_makes_125 : decode cL_makes 125 = .ok (.invokestatic 205, 3) := by decide +kernel
theorem dL_makes_128 : decode cL_makes 128 = .ok (.aload_n 1, 1) := by decide +kernel
theorem dL_makes_129 : decode cL_makes 129 = .ok (.bipush 12, 2) := by decide +kernel
theorem dL_makes_131 : decode cL_makes 131 = .ok (.iload_n 2, 1) := by decide +kernel
theorem dL_makes_132 : decode cL_makes 132 = .ok (.iadd, 1) := by decide +kernel
theorem dL_makes_133 : decode cL_makes 133 = .ok (.invokestatic 201, 3) := by decide +kernel
theorem dL_makes_136 : decode cL_makes 136 = .ok (.iconst 4, 1) := by decide +kernel
theorem dL_makes_137 : decode cL_makes 137 = .ok (.ishr, 1) := by decide +kernel
theorem dL_makes_138 : decode cL_makes 138 = .ok (.bipush 10, 2) := by decide +kernel
theorem dL_makes_140 : decode cL_makes 140 = .ok (.invokestatic 205, 3) := by decide +kernel
theorem dL_makes_143 : decode cL_makes 143 = .ok (.invokestatic 213, 3) := by decide +kernel
theorem dL_makes_146 : decode cL_makes 146 = .ok (.istore_n 3, 1) := by decide +kernel
theorem dL_makes_147 : decode cL_makes 147 = .ok (.iload_n 3, 1) := by decide +kernel
theorem dL_makes_148 : decode cL_makes 148 = .ok (.sipush (-1001), 3) := by decide +kernel
theorem dL_makes_151 : decode cL_makes 151 = .ok (.if_icmp .eq 10, 3) := by decide +kernel
theorem dL_makes_154 : decode cL_makes 154 = .ok (.iload_n 3, 1) := by decide +kernel
theorem dL_makes_155 : decode cL_makes 155 = .ok (.sipush (-1002), 3) := by decide +kernel
theorem dL_makes_158 : decode cL_makes 158 = .ok (.if_icmp .ne 5, 3) := by decide +kernel
theorem dL_makes_161 : decode cL_makes 161 = .ok (.iconst 0, 1) := by decide +kernel
theorem dL_makes_162 : decode cL_makes 162 = .ok (.ireturn, 1) := by decide +kernel
theorem dL_makes_163 : decode cL_makes 163 = .ok (.iinc 2 1, 3) := by decide +kernel
theorem dL_makes_166 : decode cL_makes 166 = .ok (.goto (-58), 3) := by decide +kernel
theorem dL_makes_169 : decode cL_makes 169 = .ok (.iconst 0, 1) := by decide +kernel
theorem dL_makes_170 : decode cL_makes 170 = .ok (.istore_n 2, 1) := by decide +kernel
theorem dL_makes_171 : decode cL_makes 171 = .ok (.iload_n 2, 1) := by decide +kernel
theorem dL_makes_172 : decode cL_makes 172 = .ok (.iconst 3, 1) := by decide +kernel
theorem dL_makes_173 : decode cL_makes 173 = .ok (.if_icmp .ge 48, 3) := by decide +kernel
theorem dL_makes_176 : decode cL_makes 176 = .ok (.aload_n 1, 1) := by decide +kernel
theorem dL_makes_177 : decode cL_makes 177 = .ok (.bipush 23, 2) := by decide +kernel
theorem dL_makes_179 : decode cL_makes 179 = .ok (.iload_n 2, 1) := by decide +kernel
theorem dL_makes_180 : decode cL_makes 180 = .ok (.iadd, 1) := by decide +kernel
theorem dL_makes_181 : decode cL_makes 181 = .ok (.invokestatic 201, 3) := by decide +kernel
theorem dL_makes_184 : decode cL_makes 184 = .ok (.bipush 8, 2) := by decide +kernel
theorem dL_makes_186 : decode cL_makes 186 = .ok (.invokestatic 205, 3) := by decide +kernel
theorem dL_makes_189 : decode cL_makes 189 = .ok (.istore_n 3, 1) := by decide +kernel
theorem dL_makes_190 : decode cL_makes 190 = .ok (.aload_n 0, 1) := by decide +kernel
theorem dL_makes_191 : decode cL_makes 191 = .ok (.iload_n 3, 1) := by decide +kernel
theorem dL_makes_192 : decode cL_makes 192 = .ok (.invokestatic 215, 3) := by decide +kernel
theorem dL_makes_195 : decode cL_makes 195 = .ok (.istore 4, 2) := by decide +kernel
theorem dL_makes_197 : decode cL_makes 197 = .ok (.iload 4, 2) := by decide +kernel
theorem dL_makes_199 : decode cL_makes 199 = .ok (.sipush (-1001), 3) := by decide +kernel
theorem dL_makes_202 : decode cL_makes 202 = .ok (.if_icmp .ne 13, 3) := by decide +kernel
theorem dL_makes_205 : decode cL_makes 205 = .ok (.aload_n 0, 1) := by decide +kernel
theorem dL_makes_206 : decode cL_makes 206 = .ok (.iload_n 3, 1) := by decide +kernel
theorem dL_makes_207 : decode cL_makes 207 = .ok (.invokevirtual 217, 3) := by decide +kernel
theorem dL_makes_210 : decode cL_makes 210 = .ok (.ifCond .eq 5, 3) := by decide +kernel
theorem dL_makes_213 : decode cL_makes 213 = .ok (.iconst 0, 1) := by decide +kernel
theorem dL_makes_214 : decode cL_makes 214 = .ok (.ireturn, 1) := by decide +kernel
theorem dL_makes_215 : decode cL_makes 215 = .ok (.iinc 2 1, 3) := by decide +kernel
theorem dL_makes_218 : decode cL_makes 218 = .ok (.goto (-47), 3) := by decide +kernel
theorem dL_makes_221 : decode cL_makes 221 = .ok (.aload_n 1, 1) := by decide +kernel
theorem dL_makes_222 : decode cL_makes 222 = .ok (.bipush 26, 2) := by decide +kernel
theorem dL_makes_224 : decode cL_makes 224 = .ok (.invokestatic 201, 3) := by decide +kernel
theorem dL_makes_227 : decode cL_makes 227 = .ok (.iconst 1, 1) := by decide +kernel
theorem dL_makes_228 : decode cL_makes 228 = .ok (.iand, 1) := by decide +kernel
theorem dL_makes_229 : decode cL_makes 229 = .ok (.ifCond .eq 25, 3) := by decide +kernel
theorem dL_makes_232 : decode cL_makes 232 = .ok (.aload_n 0, 1) := by decide +kernel
theorem dL_makes_233 : decode cL_makes 233 = .ok (.iconst 1, 1) := by decide +kernel
theorem dL_makes_234 : decode cL_makes 234 = .ok (.aload_n 1, 1) := by decide +kernel
theorem dL_makes_235 : decode cL_makes 235 = .ok (.bipush 26, 2) := by decide +kernel
theorem dL_makes_237 : decode cL_makes 237 = .ok (.invokestatic 201, 3) := by decide +kernel
theorem dL_makes_240 : decode cL_makes 240 = .ok (.iconst 2, 1) := by decide +kernel
theorem dL_makes_241 : decode cL_makes 241 = .ok (.ishr, 1) := by decide +kernel
theorem dL_makes_242 : decode cL_makes 242 = .ok (.bipush 9, 2) := by decide +kernel
theorem dL_makes_244 : decode cL_makes 244 = .ok (.invokestatic 205, 3) := by decide +kernel
theorem dL_makes_247 : decode cL_makes 247 = .ok (.iadd, 1) := by decide +kernel
theorem dL_makes_248 : decode cL_makes 248 = .ok (.invokestatic 220, 3) := by decide +kernel
theorem dL_makes_251 : decode cL_makes 251 = .ok (.ifCond .lt 7, 3) := by decide +kernel
theorem dL_makes_254 : decode cL_makes 254 = .ok (.iconst 1, 1) := by decide +kernel
theorem dL_makes_255 : decode cL_makes 255 = .ok (.goto 4, 3) := by decide +kernel
theorem dL_makes_258 : decode cL_makes 258 = .ok (.iconst 0, 1) := by decide +kernel
theorem dL_makes_259 : decode cL_makes 259 = .ok (.ireturn, 1) := by decide +kernel
theorem dL_asks_0 : decode cL_asks 0 = .ok (.aload_n 0, 1) := by decide +kernel
theorem dL_asks_1 : decode cL_asks 1 = .ok (.invokevirtual 222, 3) := by decide +kernel
theorem dL_asks_4 : decode cL_asks 4 = .ok (.istore_n 1, 1) := by decide +kernel
theorem dL_asks_5 : decode cL_asks 5 = .ok (.ldc2_w 225, 3) := by decide +kernel
theorem dL_asks_8 : decode cL_asks 8 = .ok (.aload_n 0, 1) := by decide +kernel
theorem dL_asks_9 : decode cL_asks 9 = .ok (.invokestatic 227, 3) := by decide +kernel
theorem dL_asks_12 : decode cL_asks 12 = .ok (.invokestatic 230, 3) := by decide +kernel
theorem dL_asks_15 : decode cL_asks 15 = .ok (.lmul, 1) := by decide +kernel
theorem dL_asks_16 : decode cL_asks 16 = .ok (.aload_n 0, 1) := by decide +kernel
theorem dL_asks_17 : decode cL_asks 17 = .ok (.invokestatic 236, 3) := by decide +kernel
theorem dL_asks_20 : decode cL_asks 20 = .ok (.invokestatic 239, 3) := by decide +kernel
theorem dL_asks_23 : decode cL_asks 23 = .ok (.i2l, 1) := by decide +kernel
theorem dL_asks_24 : decode cL_asks 24 = .ok (.ladd, 1) := by decide +kernel
theorem dL_asks_25 : decode cL_asks 25 = .ok (.lstore_n 2, 1) := by decide +kernel
theorem dL_asks_26 : decode cL_asks 26 = .ok (.ldc2_w 225, 3) := by decide +kernel
theorem dL_asks_29 : decode cL_asks 29 = .ok (.ldc2_w 225, 3) := by decide +kernel
theorem dL_asks_32 : decode cL_asks 32 = .ok (.ldc2_w 225, 3) := by decide +kernel
theorem dL_asks_35 : decode cL_asks 35 = .ok (.ldc2_w 225, 3) := by decide +kernel
theorem dL_asks_38 : decode cL_asks 38 = .ok (.ldc2_w 225, 3) := by decide +kernel
theorem dL_asks_41 : decode cL_asks 41 = .ok (.lload_n 2, 1) := by decide +kernel
theorem dL_asks_42 : decode cL_asks 42 = .ok (.lmul, 1) := by decide +kernel
theorem dL_asks_43 : decode cL_asks 43 = .ok (.iload_n 1, 1) := by decide +kernel
theorem dL_asks_44 : decode cL_asks 44 = .ok (.i2l, 1) := by decide +kernel
theorem dL_asks_45 : decode cL_asks 45 = .ok (.ladd, 1) := by decide +kernel
theorem dL_asks_46 : decode cL_asks 46 = .ok (.lmul, 1) := by decide +kernel
theorem dL_asks_47 : decode cL_asks 47 = .ok (.aload_n 0, 1) := by decide +kernel
theorem dL_asks_48 : decode cL_asks 48 = .ok (.invokevirtual 245, 3) := by decide +kernel
theorem dL_asks_51 : decode cL_asks 51 = .ok (.i2l, 1) := by decide +kernel
theorem dL_asks_52 : decode cL_asks 52 = .ok (.ladd, 1) := by decide +kernel
theorem dL_asks_53 : decode cL_asks 53 = .ok (.lmul, 1) := by decide +kernel
theorem dL_asks_54 : decode cL_asks 54 = .ok (.aload_n 0, 1) := by decide +kernel
theorem dL_asks_55 : decode cL_asks 55 = .ok (.invokevirtual 248, 3) := by decide +kernel
theorem dL_asks_58 : decode cL_asks 58 = .ok (.i2l, 1) := by decide +kernel
theorem dL_asks_59 : decode cL_asks 59 = .ok (.ladd, 1) := by decide +kernel
theorem dL_asks_60 : decode cL_asks 60 = .ok (.lmul, 1) := by decide +kernel
theorem dL_asks_61 : decode cL_asks 61 = .ok (.aload_n 0, 1) := by decide +kernel
theorem dL_asks_62 : decode cL_asks 62 = .ok (.invokevirtual 251, 3) := by decide +kernel
theorem dL_asks_65 : decode cL_asks 65 = .ok (.i2l, 1) := by decide +kernel
theorem dL_asks_66 : decode cL_asks 66 = .ok (.ladd, 1) := by decide +kernel
theorem dL_asks_67 : decode cL_asks 67 = .ok (.lmul, 1) := by decide +kernel
theorem dL_asks_68 : decode cL_asks 68 = .ok (.aload_n 0, 1) := by decide +kernel
theorem dL_asks_69 : decode cL_asks 69 = .ok (.invokevirtual 254, 3) := by decide +kernel
theorem dL_asks_72 : decode cL_asks 72 = .ok (.i2l, 1) := by decide +kernel
theorem dL_asks_73 : decode cL_asks 73 = .ok (.ladd, 1) := by decide +kernel
theorem dL_asks_74 : decode cL_asks 74 = .ok (.lstore_n 2, 1) := by decide +kernel
theorem dL_asks_75 : decode cL_asks 75 = .ok (.ldc2_w 225, 3) := by decide +kernel
theorem dL_asks_78 : decode cL_asks 78 = .ok (.ldc2_w 225, 3) := by decide +kernel
theorem dL_asks_81 : decode cL_asks 81 = .ok (.ldc2_w 225, 3) := by decide +kernel
theorem dL_asks_84 : decode cL_asks 84 = .ok (.lload_n 2, 1) := by decide +kernel
theorem dL_asks_85 : decode cL_asks 85 = .ok (.lmul, 1) := by decide +kernel
theorem dL_asks_86 : decode cL_asks 86 = .ok (.aload_n 0, 1) := by decide +kernel
theorem dL_asks_87 : decode cL_asks 87 = .ok (.invokevirtual 257, 3) := by decide +kernel
theorem dL_asks_90 : decode cL_asks 90 = .ok (.i2l, 1) := by decide +kernel
theorem dL_asks_91 : decode cL_asks 91 = .ok (.ladd, 1) := by decide +kernel
theorem dL_asks_92 : decode cL_asks 92 = .ok (.lmul, 1) := by decide +kernel
theorem dL_asks_93 : decode cL_asks 93 = .ok (.aload_n 0, 1) := by decide +kernel
theorem dL_asks_94 : decode cL_asks 94 = .ok (.invokevirtual 260, 3) := by decide +kernel
theorem dL_asks_97 : decode cL_asks 97 = .ok (.i2l, 1) := by decide +kernel
theorem dL_asks_98 : decode cL_asks 98 = .ok (.ladd, 1) := by decide +kernel
theorem dL_asks_99 : decode cL_asks 99 = .ok (.lmul, 1) := by decide +kernel
theorem dL_asks_100 : decode cL_asks 100 = .ok (.aload_n 0, 1) := by decide +kernel
theorem dL_asks_101 : decode cL_asks 101 = .ok (.invokevirtual 263, 3) := by decide +kernel
theorem dL_asks_104 : decode cL_asks 104 = .ok (.i2l, 1) := by decide +kernel
theorem dL_asks_105 : decode cL_asks 105 = .ok (.ladd, 1) := by decide +kernel
theorem dL_asks_106 : decode cL_asks 106 = .ok (.lstore_n 2, 1) := by decide +kernel
theorem dL_asks_107 : decode cL_asks 107 = .ok (.ldc2_w 225, 3) := by decide +kernel
theorem dL_asks_110 : decode cL_asks 110 = .ok (.lload_n 2, 1) := by decide +kernel
theorem dL_asks_111 : decode cL_asks 111 = .ok (.lmul, 1) := by decide +kernel
theorem dL_asks_112 : decode cL_asks 112 = .ok (.aload_n 0, 1) := by decide +kernel
theorem dL_asks_113 : decode cL_asks 113 = .ok (.bipush 20, 2) := by decide +kernel
theorem dL_asks_115 : decode cL_asks 115 = .ok (.invokestatic 266, 3) := by decide +kernel
theorem dL_asks_118 : decode cL_asks 118 = .ok (.i2l, 1) := by decide +kernel
theorem dL_asks_119 : decode cL_asks 119 = .ok (.ladd, 1) := by decide +kernel
theorem dL_asks_120 : decode cL_asks 120 = .ok (.lstore_n 2, 1) := by decide +kernel
theorem dL_asks_121 : decode cL_asks 121 = .ok (.iconst 0, 1) := by decide +kernel
theorem dL_asks_122 : decode cL_asks 122 = .ok (.istore 4, 2) := by decide +kernel
theorem dL_asks_124 : decode cL_asks 124 = .ok (.iload 4, 2) := by decide +kernel
theorem dL_asks_126 : decode cL_asks 126 = .ok (.bipush 6, 2) := by decide +kernel
theorem dL_asks_128 : decode cL_asks 128 = .ok (.if_icmp .ge 117, 3) := by decide +kernel
theorem dL_asks_131 : decode cL_asks 131 = .ok (.ldc2_w 225, 3) := by decide +kernel
theorem dL_asks_134 : decode cL_asks 134 = .ok (.ldc2_w 225, 3) := by decide +kernel
theorem dL_asks_137 : decode cL_asks 137 = .ok (.ldc2_w 225, 3) := by decide +kernel
theorem dL_asks_140 : decode cL_asks 140 = .ok (.lload_n 2, 1) := by decide +kernel
theorem dL_asks_141 : decode cL_asks 141 = .ok (.lmul, 1) := by decide +kernel
theorem dL_asks_142 : decode cL_asks 142 = .ok (.aload_n 0, 1) := by decide +kernel
theorem dL_asks_143 : decode cL_asks 143 = .ok (.iload 4, 2) := by decide +kernel
theorem dL_asks_145 : decode cL_asks 145 = .ok (.invokestatic 268, 3) := by decide +kernel
theorem dL_asks_148 : decode cL_asks 148 = .ok (.i2l, 1) := by decide +kernel
theorem dL_asks_149 : decode cL_asks 149 = .ok (.ladd, 1) := by decide +kernel
theorem dL_asks_150 : decode cL_asks 150 = .ok (.lmul, 1) := by decide +kernel
theorem dL_asks_151 : decode cL_asks 151 = .ok (.aload_n 0, 1) := by decide +kernel
theorem dL_asks_152 : decode cL_asks 152 = .ok (.iload 4, 2) := by decide +kernel
theorem dL_asks_154 : decode cL_asks 154 = .ok (.invokestatic 271, 3) := by decide +kernel
theorem dL_asks_157 : decode cL_asks 157 = .ok (.i2l, 1) := by decide +kernel
theorem dL_asks_158 : decode cL_asks 158 = .ok (.ladd, 1) := by decide +kernel
theorem dL_asks_159 : decode cL_asks 159 = .ok (.lmul, 1) := by decide +kernel
theorem dL_asks_160 : decode cL_asks 160 = .ok (.aload_n 0, 1) := by decide +kernel
theorem dL_asks_161 : decode cL_asks 161 = .ok (.iload 4, 2) := by decide +kernel
theorem dL_asks_163 : decode cL_asks 163 = .ok (.invokestatic 273, 3) := by decide +kernel
theorem dL_asks_166 : decode cL_asks 166 = .ok (.i2l, 1) := by decide +kernel
theorem dL_asks_167 : decode cL_asks 167 = .ok (.ladd, 1) := by decide +kernel
theorem dL_asks_168 : decode cL_asks 168 = .ok (.lstore_n 2, 1) := by decide +kernel
theorem dL_asks_169 : decode cL_asks 169 = .ok (.iconst 0, 1) := by decide +kernel
theorem dL_asks_170 : decode cL_asks 170 = .ok (.istore 5, 2) := by decide +kernel
theorem dL_asks_172 : decode cL_asks 172 = .ok (.iload 5, 2) := by decide +kernel
theorem dL_asks_174 : decode cL_asks 174 = .ok (.iload 4, 2) := by decide +kernel
theorem dL_asks_176 : decode cL_asks 176 = .ok (.if_icmp .ge 25, 3) := by decide +kernel
theorem dL_asks_179 : decode cL_asks 179 = .ok (.ldc2_w 225, 3) := by decide +kernel
theorem dL_asks_182 : decode cL_asks 182 = .ok (.lload_n 2, 1) := by decide +kernel
theorem dL_asks_183 : decode cL_asks 183 = .ok (.lmul, 1) := by decide +kernel
theorem dL_asks_184 : decode cL_asks 184 = .ok (.aload_n 0, 1) := by decide +kernel
theorem dL_asks_185 : decode cL_asks 185 = .ok (.iload 4, 2) := by decide +kernel
theorem dL_asks_187 : decode cL_asks 187 = .ok (.iload 5, 2) := by decide +kernel
theorem dL_asks_189 : decode cL_asks 189 = .ok (.invokestatic 276, 3) := by decide +kernel
theorem dL_asks_192 : decode cL_asks 192 = .ok (.i2l, 1) := by decide +kernel
theorem dL_asks_193 : decode cL_asks 193 = .ok (.ladd, 1) := by decide +kernel
theorem dL_asks_194 : decode cL_asks 194 = .ok (.lstore_n 2, 1) := by decide +kernel
theorem dL_asks_195 : decode cL_asks 195 = .ok (.iinc 5 1, 3) := by decide +kernel
theorem dL_asks_198 : decode cL_asks 198 = .ok (.goto (-26), 3) := by decide +kernel
theorem dL_asks_201 : decode cL_asks 201 = .ok (.aload_n 0, 1) := by decide +kernel
theorem dL_asks_202 : decode cL_asks 202 = .ok (.iload 4, 2) := by decide +kernel
theorem dL_asks_204 : decode cL_asks 204 = .ok (.invokestatic 278, 3) := by decide +kernel
theorem dL_asks_207 : decode cL_asks 207 = .ok (.istore 5, 2) := by decide +kernel
theorem dL_asks_209 : decode cL_asks 209 = .ok (.iconst 0, 1) := by decide +kernel
theorem dL_asks_210 : decode cL_asks 210 = .ok (.istore 6, 2) := by decide +kernel
theorem dL_asks_212 : decode cL_asks 212 = .ok (.iload 6, 2) := by decide +kernel
theorem dL_asks_214 : decode cL_asks 214 = .ok (.iload 5, 2) := by decide +kernel
theorem dL_asks_216 : decode cL_asks 216 = .ok (.if_icmp .ge 23, 3) := by decide +kernel
theorem dL_asks_219 : decode cL_asks 219 = .ok (.ldc2_w 225, 3) := by decide +kernel
theorem dL_asks_222 : decode cL_asks 222 = .ok (.lload_n 2, 1) := by decide +kernel
theorem dL_asks_223 : decode cL_asks 223 = .ok (.lmul, 1) := by decide +kernel
theorem dL_asks_224 : decode cL_asks 224 = .ok (.aload_n 0, 1) := by decide +kernel
theorem dL_asks_225 : decode cL_asks 225 = .ok (.iload 6, 2) := by decide +kernel
theorem dL_asks_227 : decode cL_asks 227 = .ok (.invokestatic 198, 3) := by decide +kernel
theorem dL_asks_230 : decode cL_asks 230 = .ok (.i2l, 1) := by decide +kernel
theorem dL_asks_231 : decode cL_asks 231 = .ok (.ladd, 1) := by decide +kernel
theorem dL_asks_232 : decode cL_asks 232 = .ok (.lstore_n 2, 1) := by decide +kernel
theorem dL_asks_233 : decode cL_asks 233 = .ok (.iinc 6 1, 3) := by decide +kernel
theorem dL_asks_236 : decode cL_asks 236 = .ok (.goto (-24), 3) := by decide +kernel
theorem dL_asks_239 : decode cL_asks 239 = .ok (.iinc 4 1, 3) := by decide +kernel
theorem dL_asks_242 : decode cL_asks 242 = .ok (.goto (-118), 3) := by decide +kernel
theorem dL_asks_245 : decode cL_asks 245 = .ok (.iconst 0, 1) := by decide +kernel
theorem dL_asks_246 : decode cL_asks 246 = .ok (.istore 4, 2) := by decide +kernel
theorem dL_asks_248 : decode cL_asks 248 = .ok (.iload 4, 2) := by decide +kernel
theorem dL_asks_250 : decode cL_asks 250 = .ok (.iload_n 1, 1) := by decide +kernel
theorem dL_asks_251 : decode cL_asks 251 = .ok (.if_icmp .ge 39, 3) := by decide +kernel
theorem dL_asks_254 : decode cL_asks 254 = .ok (.ldc2_w 225, 3) := by decide +kernel
theorem dL_asks_257 : decode cL_asks 257 = .ok (.ldc2_w 225, 3) := by decide +kernel
theorem dL_asks_260 : decode cL_asks 260 = .ok (.lload_n 2, 1) := by decide +kernel
theorem dL_asks_261 : decode cL_asks 261 = .ok (.lmul, 1) := by decide +kernel
theorem dL_asks_262 : decode cL_asks 262 = .ok (.aload_n 0, 1) := by decide +kernel
theorem dL_asks_263 : decode cL_asks 263 = .ok (.iload 4, 2) := by decide +kernel
theorem dL_asks_265 : decode cL_asks 265 = .ok (.invokestatic 280, 3) := by decide +kernel
theorem dL_asks_268 : decode cL_asks 268 = .ok (.i2l, 1) := by decide +kernel
theorem dL_asks_269 : decode cL_asks 269 = .ok (.ladd, 1) := by decide +kernel
theorem dL_asks_270 : decode cL_asks 270 = .ok (.lmul, 1) := by decide +kernel
theorem dL_asks_271 : decode cL_asks 271 = .ok (.aload_n 0, 1) := by decide +kernel
theorem dL_asks_272 : decode cL_asks 272 = .ok (.aload_n 0, 1) := by decide +kernel
theorem dL_asks_273 : decode cL_asks 273 = .ok (.iload 4, 2) := by decide +kernel
theorem dL_asks_275 : decode cL_asks 275 = .ok (.invokestatic 280, 3) := by decide +kernel
theorem dL_asks_278 : decode cL_asks 278 = .ok (.invokestatic 283, 3) := by decide +kernel
theorem dL_asks_281 : decode cL_asks 281 = .ok (.i2l, 1) := by decide +kernel
theorem dL_asks_282 : decode cL_asks 282 = .ok (.ladd, 1) := by decide +kernel
theorem dL_asks_283 : decode cL_asks 283 = .ok (.lstore_n 2, 1) := by decide +kernel
theorem dL_asks_284 : decode cL_asks 284 = .ok (.iinc 4 1, 3) := by decide +kernel
theorem dL_asks_287 : decode cL_asks 287 = .ok (.goto (-39), 3) := by decide +kernel
theorem dL_asks_290 : decode cL_asks 290 = .ok (.lload_n 2, 1) := by decide +kernel
theorem dL_asks_291 : decode cL_asks 291 = .ok (.lreturn, 1) := by decide +kernel
theorem dL_changes_0 : decode cL_changes 0 = .ok (.iload_n 1, 1) := by decide +kernel
theorem dL_changes_1 : decode cL_changes 1 = .ok (.iconst 4, 1) := by decide +kernel
theorem dL_changes_2 : decode cL_changes 2 = .ok (.ishr, 1) := by decide +kernel
theorem dL_changes_3 : decode cL_changes 3 = .ok (.bipush 7, 2) := by decide +kernel
theorem dL_changes_5 : decode cL_changes 5 = .ok (.invokestatic 205, 3) := by decide +kernel
theorem dL_changes_8 : decode cL_changes 8 = .ok (.istore_n 2, 1) := by decide +kernel
theorem dL_changes_9 : decode cL_changes 9 = .ok (.iload_n 1, 1) := by decide +kernel
theorem dL_changes_10 : decode cL_changes 10 = .ok (.bipush 7, 2) := by decide +kernel
theorem dL_changes_12 : decode cL_changes 12 = .ok (.ishr, 1) := by decide +kernel
theorem dL_changes_13 : decode cL_changes 13 = .ok (.bipush 7, 2) := by decide +kernel
theorem dL_changes_15 : decode cL_changes 15 = .ok (.invokestatic 205, 3) := by decide +kernel
theorem dL_changes_18 : decode cL_changes 18 = .ok (.istore_n 3, 1) := by decide +kernel
theorem dL_changes_19 : decode cL_changes 19 = .ok (.iload_n 1, 1) := by decide +kernel
theorem dL_changes_20 : decode cL_changes 20 = .ok (.iconst 4, 1) := by decide +kernel
theorem dL_changes_21 : decode cL_changes 21 = .ok (.ishr, 1) := by decide +kernel
theorem dL_changes_22 : decode cL_changes 22 = .ok (.bipush 12, 2) := by decide +kernel
theorem dL_changes_24 : decode cL_changes 24 = .ok (.invokestatic 205, 3) := by decide +kernel
theorem dL_changes_27 : decode cL_changes 27 = .ok (.istore 4, 2) := by decide +kernel
theorem dL_changes_29 : decode cL_changes 29 = .ok (.iload_n 1, 1) := by decide +kernel
theorem dL_changes_30 : decode cL_changes 30 = .ok (.bipush 26, 2) := by decide +kernel
theorem dL_changes_32 : decode cL_changes 32 = .ok (.invokestatic 205, 3) := by decide +kernel
theorem dL_changes_35 : decode cL_changes 35 = .ok (.tableswitch 390 0 22 #[105, 105, 105, 120, 135, 135, 158, 158, 158, 181, 196, 196, 211, 226, 226, 226, 242, 242, 242, 257, 272, 293, 293], 105) := by decide +kernel
theorem dL_changes_140 : decode cL_changes 140 = .ok (.aload_n 0, 1) := by decide +kernel
theorem dL_changes_141 : decode cL_changes 141 = .ok (.iload_n 2, 1) := by decide +kernel
theorem dL_changes_142 : decode cL_changes 142 = .ok (.iload_n 3, 1) := by decide +kernel
theorem dL_changes_143 : decode cL_changes 143 = .ok (.invokestatic 208, 3) := by decide +kernel
theorem dL_changes_146 : decode cL_changes 146 = .ok (.ifCond .lt 7, 3) := by decide +kernel
theorem dL_changes_149 : decode cL_changes 149 = .ok (.iconst 1, 1) := by decide +kernel
theorem dL_changes_150 : decode cL_changes 150 = .ok (.goto 4, 3) := by decide +kernel
theorem dL_changes_153 : decode cL_changes 153 = .ok (.iconst 0, 1) := by decide +kernel
theorem dL_changes_154 : decode cL_changes 154 = .ok (.ireturn, 1) := by decide +kernel
theorem dL_changes_155 : decode cL_changes 155 = .ok (.aload_n 0, 1) := by decide +kernel
theorem dL_changes_156 : decode cL_changes 156 = .ok (.iload_n 2, 1) := by decide +kernel
theorem dL_changes_157 : decode cL_changes 157 = .ok (.iload_n 3, 1) := by decide +kernel
theorem dL_changes_158 : decode cL_changes 158 = .ok (.invokestatic 286, 3) := by decide +kernel
theorem dL_changes_161 : decode cL_changes 161 = .ok (.ifCond .lt 7, 3) := by decide +kernel
theorem dL_changes_164 : decode cL_changes 164 = .ok (.iconst 1, 1) := by decide +kernel
theorem dL_changes_165 : decode cL_changes 165 = .ok (.goto 4, 3) := by decide +kernel
theorem dL_changes_168 : decode cL_changes 168 = .ok (.iconst 0, 1) := by decide +kernel
theorem dL_changes_169 : decode cL_changes 169 = .ok (.ireturn, 1) := by decide +kernel
theorem dL_changes_170 : decode cL_changes 170 = .ok (.aload_n 0, 1) := by decide +kernel
theorem dL_changes_171 : decode cL_changes 171 = .ok (.iload_n 2, 1) := by decide +kernel
theorem dL_changes_172 : decode cL_changes 172 = .ok (.iload_n 1, 1) := by decide +kernel
theorem dL_changes_173 : decode cL_changes 173 = .ok (.bipush 7, 2) := by decide +kernel
theorem dL_changes_175 : decode cL_changes 175 = .ok (.ishr, 1) := by decide +kernel
theorem dL_changes_176 : decode cL_changes 176 = .ok (.bipush 22, 2) := by decide +kernel
theorem dL_changes_178 : decode cL_changes 178 = .ok (.invokestatic 205, 3) := by decide +kernel
theorem dL_changes_181 : decode cL_changes 181 = .ok (.invokestatic 211, 3) := by decide +kernel
theorem dL_changes_184 : decode cL_changes 184 = .ok (.ifCond .lt 7, 3) := by decide +kernel
theorem dL_changes_187 : decode cL_changes 187 = .ok (.iconst 1, 1) := by decide +kernel
theorem dL_changes_188 : decode cL_changes 188 = .ok (.goto 4, 3) := by decide +kernel
theorem dL_changes_191 : decode cL_changes 191 = .ok (.iconst 0, 1) := by decide +kernel
theorem dL_changes_192 : decode cL_changes 192 = .ok (.ireturn, 1) := by decide +kernel
theorem dL_changes_193 : decode cL_changes 193 = .ok (.aload_n 0, 1) := by decide +kernel
theorem dL_changes_194 : decode cL_changes 194 = .ok (.iload_n 2, 1) := by decide +kernel
theorem dL_changes_195 : decode cL_changes 195 = .ok (.iload_n 1, 1) := by decide +kernel
theorem dL_changes_196 : decode cL_changes 196 = .ok (.bipush 7, 2) := by decide +kernel
theorem dL_changes_198 : decode cL_changes 198 = .ok (.ishr, 1) := by decide +kernel
theorem dL_changes_199 : decode cL_changes 199 = .ok (.bipush 11, 2) := by decide +kernel
theorem dL_changes_201 : decode cL_changes 201 = .ok (.invokestatic 205, 3) := by decide +kernel
theorem dL_changes_204 : decode cL_changes 204 = .ok (.invokestatic 213, 3) := by decide +kernel
theorem dL_changes_207 : decode cL_changes 207 = .ok (.ifCond .lt 7, 3) := by decide +kernel
theorem dL_changes_210 : decode cL_changes 210 = .ok (.iconst 1, 1) := by decide +kernel
theorem dL_changes_211 : decode cL_changes 211 = .ok (.goto 4, 3) := by decide +kernel
theorem dL_changes_214 : decode cL_changes 214 = .ok (.iconst 0, 1) := by decide +kernel
theorem dL_changes_215 : decode cL_changes 215 = .ok (.ireturn, 1) := by decide +kernel
theorem dL_changes_216 : decode cL_changes 216 = .ok (.aload_n 0, 1) := by decide +kernel
theorem dL_changes_217 : decode cL_changes 217 = .ok (.iload 4, 2) := by decide +kernel
theorem dL_changes_219 : decode cL_changes 219 = .ok (.invokestatic 288, 3) := by decide +kernel
theorem dL_changes_222 : decode cL_changes 222 = .ok (.ifCond .lt 7, 3) := by decide +kernel
theorem dL_changes_225 : decode cL_changes 225 = .ok (.iconst 1, 1) := by decide +kernel
theorem dL_changes_226 : decode cL_changes 226 = .ok (.goto 4, 3) := by decide +kernel
theorem dL_changes_229 : decode cL_changes 229 = .ok (.iconst 0, 1) := by decide +kernel
theorem dL_changes_230 : decode cL_changes 230 = .ok (.ireturn, 1) := by decide +kernel
theorem dL_changes_231 : decode cL_changes 231 = .ok (.aload_n 0, 1) := by decide +kernel
theorem dL_changes_232 : decode cL_changes 232 = .ok (.iload 4, 2) := by decide +kernel
theorem dL_changes_234 : decode cL_changes 234 = .ok (.invokestatic 215, 3) := by decide +kernel
theorem dL_changes_237 : decode cL_changes 237 = .ok (.ifCond .lt 7, 3) := by decide +kernel
theorem dL_changes_240 : decode cL_changes 240 = .ok (.iconst 1, 1) := by decide +kernel
theorem dL_changes_241 : decode cL_changes 241 = .ok (.goto 4, 3) := by decide +kernel
theorem dL_changes_244 : decode cL_changes 244 = .ok (.iconst 0, 1) := by decide +kernel
theorem dL_changes_245 : decode cL_changes 245 = .ok (.ireturn, 1) := by decide +kernel
theorem dL_changes_246 : decode cL_changes 246 = .ok (.aload_n 0, 1) := by decide +kernel
theorem dL_changes_247 : decode cL_changes 247 = .ok (.iload 4, 2) := by decide +kernel
theorem dL_changes_249 : decode cL_changes 249 = .ok (.invokestatic 291, 3) := by decide +kernel
theorem dL_changes_252 : decode cL_changes 252 = .ok (.ifCond .lt 7, 3) := by decide +kernel
theorem dL_changes_255 : decode cL_changes 255 = .ok (.iconst 1, 1) := by decide +kernel
theorem dL_changes_256 : decode cL_changes 256 = .ok (.goto 4, 3) := by decide +kernel
theorem dL_changes_259 : decode cL_changes 259 = .ok (.iconst 0, 1) := by decide +kernel
theorem dL_changes_260 : decode cL_changes 260 = .ok (.ireturn, 1) := by decide +kernel
theorem dL_changes_261 : decode cL_changes 261 = .ok (.aload_n 0, 1) := by decide +kernel
theorem dL_changes_262 : decode cL_changes 262 = .ok (.iload 4, 2) := by decide +kernel
theorem dL_changes_264 : decode cL_changes 264 = .ok (.iload_n 3, 1) := by decide +kernel
theorem dL_changes_265 : decode cL_changes 265 = .ok (.invokestatic 293, 3) := by decide +kernel
theorem dL_changes_268 : decode cL_changes 268 = .ok (.ifCond .lt 7, 3) := by decide +kernel
theorem dL_changes_271 : decode cL_changes 271 = .ok (.iconst 1, 1) := by decide +kernel
theorem dL_changes_272 : decode cL_changes 272 = .ok (.goto 4, 3) := by decide +kernel
theorem dL_changes_275 : decode cL_changes 275 = .ok (.iconst 0, 1) := by decide +kernel
theorem dL_changes_276 : decode cL_changes 276 = .ok (.ireturn, 1) := by decide +kernel
theorem dL_changes_277 : decode cL_changes 277 = .ok (.aload_n 0, 1) := by decide +kernel
theorem dL_changes_278 : decode cL_changes 278 = .ok (.iload_n 2, 1) := by decide +kernel
theorem dL_changes_279 : decode cL_changes 279 = .ok (.iload_n 3, 1) := by decide +kernel
theorem dL_changes_280 : decode cL_changes 280 = .ok (.invokestatic 296, 3) := by decide +kernel
theorem dL_changes_283 : decode cL_changes 283 = .ok (.ifCond .lt 7, 3) := by decide +kernel
theorem dL_changes_286 : decode cL_changes 286 = .ok (.iconst 1, 1) := by decide +kernel
theorem dL_changes_287 : decode cL_changes 287 = .ok (.goto 4, 3) := by decide +kernel
theorem dL_changes_290 : decode cL_changes 290 = .ok (.iconst 0, 1) := by decide +kernel
theorem dL_changes_291 : decode cL_changes 291 = .ok (.ireturn, 1) := by decide +kernel
theorem dL_changes_292 : decode cL_changes 292 = .ok (.aload_n 0, 1) := by decide +kernel
theorem dL_changes_293 : decode cL_changes 293 = .ok (.iload 4, 2) := by decide +kernel
theorem dL_changes_295 : decode cL_changes 295 = .ok (.invokestatic 298, 3) := by decide +kernel
theorem dL_changes_298 : decode cL_changes 298 = .ok (.ifCond .lt 7, 3) := by decide +kernel
theorem dL_changes_301 : decode cL_changes 301 = .ok (.iconst 1, 1) := by decide +kernel
theorem dL_changes_302 : decode cL_changes 302 = .ok (.goto 4, 3) := by decide +kernel
theorem dL_changes_305 : decode cL_changes 305 = .ok (.iconst 0, 1) := by decide +kernel
theorem dL_changes_306 : decode cL_changes 306 = .ok (.ireturn, 1) := by decide +kernel
theorem dL_changes_307 : decode cL_changes 307 = .ok (.aload_n 0, 1) := by decide +kernel
theorem dL_changes_308 : decode cL_changes 308 = .ok (.iload_n 1, 1) := by decide +kernel
theorem dL_changes_309 : decode cL_changes 309 = .ok (.iconst 4, 1) := by decide +kernel
theorem dL_changes_310 : decode cL_changes 310 = .ok (.ishr, 1) := by decide +kernel
theorem dL_changes_311 : decode cL_changes 311 = .ok (.bipush 12, 2) := by decide +kernel
theorem dL_changes_313 : decode cL_changes 313 = .ok (.invokestatic 205, 3) := by decide +kernel
theorem dL_changes_316 : decode cL_changes 316 = .ok (.invokestatic 300, 3) := by decide +kernel
theorem dL_changes_319 : decode cL_changes 319 = .ok (.ifCond .lt 7, 3) := by decide +kernel
theorem dL_changes_322 : decode cL_changes 322 = .ok (.iconst 1, 1) := by decide +kernel
theorem dL_changes_323 : decode cL_changes 323 = .ok (.goto 4, 3) := by decide +kernel
theorem dL_changes_326 : decode cL_changes 326 = .ok (.iconst 0, 1) := by decide +kernel
theorem dL_changes_327 : decode cL_changes 327 = .ok (.ireturn, 1) := by decide +kernel
theorem dL_changes_328 : decode cL_changes 328 = .ok (.aload_n 0, 1) := by decide +kernel
theorem dL_changes_329 : decode cL_changes 329 = .ok (.iload_n 1, 1) := by decide +kernel
theorem dL_changes_330 : decode cL_changes 330 = .ok (.bipush 6, 2) := by decide +kernel
theorem dL_changes_332 : decode cL_changes 332 = .ok (.ishr, 1) := by decide +kernel
theorem dL_changes_333 : decode cL_changes 333 = .ok (.iconst 1, 1) := by decide +kernel
theorem dL_changes_334 : decode cL_changes 334 = .ok (.iand, 1) := by decide +kernel
theorem dL_changes_335 : decode cL_changes 335 = .ok (.ifCond .ne 33, 3) := by decide +kernel
theorem dL_changes_338 : decode cL_changes 338 = .ok (.new 302, 3) := by decide +kernel
theorem dL_changes_341 : decode cL_changes 341 = .ok (.dup, 1) := by decide +kernel
theorem dL_changes_342 : decode cL_changes 342 = .ok (.invokespecial 304, 3) := by decide +kernel
theorem dL_changes_345 : decode cL_changes 345 = .ok (.ldc_w 305, 3) := by decide +kernel
theorem dL_changes_348 : decode cL_changes 348 = .ok (.invokevirtual 307, 3) := by decide +kernel
theorem dL_changes_351 : decode cL_changes 351 = .ok (.iload_n 1, 1) := by decide +kernel
theorem dL_changes_352 : decode cL_changes 352 = .ok (.iconst 4, 1) := by decide +kernel
theorem dL_changes_353 : decode cL_changes 353 = .ok (.ishr, 1) := by decide +kernel
theorem dL_changes_354 : decode cL_changes 354 = .ok (.bipush 12, 2) := by decide +kernel
theorem dL_changes_356 : decode cL_changes 356 = .ok (.invokestatic 205, 3) := by decide +kernel
theorem dL_changes_359 : decode cL_changes 359 = .ok (.invokevirtual 310, 3) := by decide +kernel
theorem dL_changes_362 : decode cL_changes 362 = .ok (.invokevirtual 313, 3) := by decide +kernel
theorem dL_changes_365 : decode cL_changes 365 = .ok (.goto 48, 3) := by decide +kernel
theorem dL_changes_368 : decode cL_changes 368 = .ok (.new 302, 3) := by decide +kernel
theorem dL_changes_371 : decode cL_changes 371 = .ok (.dup, 1) := by decide +kernel
theorem dL_changes_372 : decode cL_changes 372 = .ok (.invokespecial 304, 3) := by decide +kernel
theorem dL_changes_375 : decode cL_changes 375 = .ok (.ldc_w 317, 3) := by decide +kernel
theorem dL_changes_378 : decode cL_changes 378 = .ok (.invokevirtual 307, 3) := by decide +kernel
theorem dL_changes_381 : decode cL_changes 381 = .ok (.iload_n 1, 1) := by decide +kernel
theorem dL_changes_382 : decode cL_changes 382 = .ok (.iconst 4, 1) := by decide +kernel
theorem dL_changes_383 : decode cL_changes 383 = .ok (.ishr, 1) := by decide +kernel
theorem dL_changes_384 : decode cL_changes 384 = .ok (.bipush 12, 2) := by decide +kernel
theorem dL_changes_386 : decode cL_changes 386 = .ok (.invokestatic 205, 3) := by decide +kernel
theorem dL_changes_389 : decode cL_changes 389 = .ok (.invokevirtual 310, 3) := by decide +kernel
theorem dL_changes_392 : decode cL_changes 392 = .ok (.ldc_w 319, 3) := by decide +kernel
theorem dL_changes_395 : decode cL_changes 395 = .ok (.invokevirtual 307, 3) := by decide +kernel
theorem dL_changes_398 : decode cL_changes 398 = .ok (.iload_n 1, 1) := by decide +kernel
theorem dL_changes_399 : decode cL_changes 399 = .ok (.bipush 8, 2) := by decide +kernel
theorem dL_changes_401 : decode cL_changes 401 = .ok (.ishr, 1) := by decide +kernel
theorem dL_changes_402 : decode cL_changes 402 = .ok (.bipush 6, 2) := by decide +kernel
theorem dL_changes_404 : decode cL_changes 404 = .ok (.invokestatic 205, 3) := by decide +kernel
theorem dL_changes_407 : decode cL_changes 407 = .ok (.invokevirtual 310, 3) := by decide +kernel
theorem dL_changes_410 : decode cL_changes 410 = .ok (.invokevirtual 313, 3) := by decide +kernel
theorem dL_changes_413 : decode cL_changes 413 = .ok (.invokestatic 321, 3) := by decide +kernel
theorem dL_changes_416 : decode cL_changes 416 = .ok (.ifCond .lt 7, 3) := by decide +kernel
theorem dL_changes_419 : decode cL_changes 419 = .ok (.iconst 1, 1) := by decide +kernel
theorem dL_changes_420 : decode cL_changes 420 = .ok (.goto 4, 3) := by decide +kernel
theorem dL_changes_423 : decode cL_changes 423 = .ok (.iconst 0, 1) := by decide +kernel
theorem dL_changes_424 : decode cL_changes 424 = .ok (.ireturn, 1) := by decide +kernel
theorem dL_changes_425 : decode cL_changes 425 = .ok (.aload_n 0, 1) := by decide +kernel
theorem dL_changes_426 : decode cL_changes 426 = .ok (.iload_n 1, 1) := by decide +kernel
theorem dL_changes_427 : decode cL_changes 427 = .ok (.iconst 4, 1) := by decide +kernel
theorem dL_changes_428 : decode cL_changes 428 = .ok (.ishr, 1) := by decide +kernel
theorem dL_changes_429 : decode cL_changes 429 = .ok (.bipush 22, 2) := by decide +kernel
theorem dL_changes_431 : decode cL_changes 431 = .ok (.invokestatic 205, 3) := by decide +kernel
theorem dL_changes_434 : decode cL_changes 434 = .ok (.invokestatic 220, 3) := by decide +kernel
theorem dL_changes_437 : decode cL_changes 437 = .ok (.ifCond .lt 7, 3) := by decide +kernel
theorem dL_changes_440 : decode cL_changes 440 = .ok (.iconst 1, 1) := by decide +kernel
theorem dL_changes_441 : decode cL_changes 441 = .ok (.goto 4, 3) := by decide +kernel
theorem dL_changes_444 : decode cL_changes 444 = .ok (.iconst 0, 1) := by decide +kernel
theorem dL_changes_445 : decode cL_changes 445 = .ok (.ireturn, 1) := by decide +kernel
theorem dL_rejects_0 : decode cL_rejects 0 = .ok (.aload_n 0, 1) := by decide +kernel
theorem dL_rejects_1 : decode cL_rejects 1 = .ok (.invokestatic 189, 3) := by decide +kernel
theorem dL_rejects_4 : decode cL_rejects 4 = .ok (.bipush 11, 2) := by decide +kernel
theorem dL_rejects_6 : decode cL_rejects 6 = .ok (.if_icmp .ne 19, 3) := by decide +kernel
theorem dL_rejects_9 : decode cL_rejects 9 = .ok (.aload_n 0, 1) := by decide +kernel
theorem dL_rejects_10 : decode cL_rejects 10 = .ok (.invokestatic 192, 3) := by decide +kernel
theorem dL_rejects_13 : decode cL_rejects 13 = .ok (.iconst 2, 1) := by decide +kernel
theorem dL_rejects_14 : decode cL_rejects 14 = .ok (.if_icmp .ne 15, 3) := by decide +kernel
theorem dL_rejects_17 : decode cL_rejects 17 = .ok (.aload_n 0, 1) := by decide +kernel
theorem dL_rejects_18 : decode cL_rejects 18 = .ok (.invokestatic 195, 3) := by decide +kernel
theorem dL_rejects_21 : decode cL_rejects 21 = .ok (.iconst 2, 1) := by decide +kernel
theorem dL_rejects_22 : decode cL_rejects 22 = .ok (.if_icmp .ne 7, 3) := by decide +kernel
theorem dL_rejects_25 : decode cL_rejects 25 = .ok (.iconst 1, 1) := by decide +kernel
theorem dL_rejects_26 : decode cL_rejects 26 = .ok (.goto 4, 3) := by decide +kernel
theorem dL_rejects_29 : decode cL_rejects 29 = .ok (.iconst 0, 1) := by decide +kernel
theorem dL_rejects_30 : decode cL_rejects 30 = .ok (.ireturn, 1) := by decide +kernel
