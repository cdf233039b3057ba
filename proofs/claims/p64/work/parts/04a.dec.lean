theorem dX0_init_0 : decode cX0_init 0 = .ok (.aload_n 0, 1) := by decide +kernel
theorem dX0_init_1 : decode cX0_init 1 = .ok (.invokespecial 1, 3) := by decide +kernel
theorem dX0_init_4 : decode cX0_init 4 = .ok (.return_, 1) := by decide +kernel
theorem dX0_become_0 : decode cX0_become 0 = .ok (.aload_n 0, 1) := by decide +kernel
theorem dX0_become_1 : decode cX0_become 1 = .ok (.aload_n 1, 1) := by decide +kernel
theorem dX0_become_2 : decode cX0_become 2 = .ok (.getfield 7, 3) := by decide +kernel
theorem dX0_become_5 : decode cX0_become 5 = .ok (.putfield 7, 3) := by decide +kernel
theorem dX0_become_8 : decode cX0_become 8 = .ok (.aload_n 0, 1) := by decide +kernel
theorem dX0_become_9 : decode cX0_become 9 = .ok (.aload_n 1, 1) := by decide +kernel
theorem dX0_become_10 : decode cX0_become 10 = .ok (.getfield 13, 3) := by decide +kernel
theorem dX0_become_13 : decode cX0_become 13 = .ok (.putfield 13, 3) := by decide +kernel
theorem dX0_become_16 : decode cX0_become 16 = .ok (.aload_n 0, 1) := by decide +kernel
theorem dX0_become_17 : decode cX0_become 17 = .ok (.aload_n 1, 1) := by decide +kernel
theorem dX0_become_18 : decode cX0_become 18 = .ok (.getfield 16, 3) := by decide +kernel
theorem dX0_become_21 : decode cX0_become 21 = .ok (.putfield 16, 3) := by decide +kernel
theorem dX0_become_24 : decode cX0_become 24 = .ok (.aload_n 0, 1) := by decide +kernel
theorem dX0_become_25 : decode cX0_become 25 = .ok (.aload_n 1, 1) := by decide +kernel
theorem dX0_become_26 : decode cX0_become 26 = .ok (.getfield 19, 3) := by decide +kernel
theorem dX0_become_29 : decode cX0_become 29 = .ok (.putfield 19, 3) := by decide +kernel
theorem dX0_become_32 : decode cX0_become 32 = .ok (.aload_n 0, 1) := by decide +kernel
theorem dX0_become_33 : decode cX0_become 33 = .ok (.aload_n 1, 1) := by decide +kernel
theorem dX0_become_34 : decode cX0_become 34 = .ok (.getfield 22, 3) := by decide +kernel
theorem dX0_become_37 : decode cX0_become 37 = .ok (.putfield 22, 3) := by decide +kernel
theorem dX0_become_40 : decode cX0_become 40 = .ok (.return_, 1) := by decide +kernel
theorem dX0_grazesOn_0 : decode cX0_grazesOn 0 = .ok (.aload_n 0, 1) := by decide +kernel
theorem dX0_grazesOn_1 : decode cX0_grazesOn 1 = .ok (.getfield 13, 3) := by decide +kernel
theorem dX0_grazesOn_4 : decode cX0_grazesOn 4 = .ok (.iload_n 1, 1) := by decide +kernel
theorem dX0_grazesOn_5 : decode cX0_grazesOn 5 = .ok (.if_icmp .ne 14, 3) := by decide +kernel
theorem dX0_grazesOn_8 : decode cX0_grazesOn 8 = .ok (.aload_n 0, 1) := by decide +kernel
theorem dX0_grazesOn_9 : decode cX0_grazesOn 9 = .ok (.getfield 22, 3) := by decide +kernel
theorem dX0_grazesOn_12 : decode cX0_grazesOn 12 = .ok (.ifCond .ne 7, 3) := by decide +kernel
theorem dX0_grazesOn_15 : decode cX0_grazesOn 15 = .ok (.iconst 1, 1) := by decide +kernel
theorem dX0_grazesOn_16 : decode cX0_grazesOn 16 = .ok (.goto 4, 3) := by decide +kernel
theorem dX0_grazesOn_19 : decode cX0_grazesOn 19 = .ok (.iconst 0, 1) := by decide +kernel
theorem dX0_grazesOn_20 : decode cX0_grazesOn 20 = .ok (.ireturn, 1) := by decide +kernel
theorem dX0_isElderThan_0 : decode cX0_isElderThan 0 = .ok (.aload_n 0, 1) := by decide +kernel
theorem dX0_isElderThan_1 : decode cX0_isElderThan 1 = .ok (.getfield 16, 3) := by decide +kernel
theorem dX0_isElderThan_4 : decode cX0_isElderThan 4 = .ok (.aload_n 1, 1) := by decide +kernel
theorem dX0_isElderThan_5 : decode cX0_isElderThan 5 = .ok (.getfield 16, 3) := by decide +kernel
theorem dX0_isElderThan_8 : decode cX0_isElderThan 8 = .ok (.if_icmp .eq 22, 3) := by decide +kernel
theorem dX0_isElderThan_11 : decode cX0_isElderThan 11 = .ok (.aload_n 0, 1) := by decide +kernel
theorem dX0_isElderThan_12 : decode cX0_isElderThan 12 = .ok (.getfield 16, 3) := by decide +kernel
theorem dX0_isElderThan_15 : decode cX0_isElderThan 15 = .ok (.aload_n 1, 1) := by decide +kernel
theorem dX0_isElderThan_16 : decode cX0_isElderThan 16 = .ok (.getfield 16, 3) := by decide +kernel
theorem dX0_isElderThan_19 : decode cX0_isElderThan 19 = .ok (.if_icmp .le 7, 3) := by decide +kernel
theorem dX0_isElderThan_22 : decode cX0_isElderThan 22 = .ok (.iconst 1, 1) := by decide +kernel
theorem dX0_isElderThan_23 : decode cX0_isElderThan 23 = .ok (.goto 23, 3) := by decide +kernel
theorem dX0_isElderThan_26 : decode cX0_isElderThan 26 = .ok (.iconst 0, 1) := by decide +kernel
theorem dX0_isElderThan_27 : decode cX0_isElderThan 27 = .ok (.goto 19, 3) := by decide +kernel
theorem dX0_isElderThan_30 : decode cX0_isElderThan 30 = .ok (.aload_n 0, 1) := by decide +kernel
theorem dX0_isElderThan_31 : decode cX0_isElderThan 31 = .ok (.getfield 7, 3) := by decide +kernel
theorem dX0_isElderThan_34 : decode cX0_isElderThan 34 = .ok (.aload_n 1, 1) := by decide +kernel
theorem dX0_isElderThan_35 : decode cX0_isElderThan 35 = .ok (.getfield 7, 3) := by decide +kernel
theorem dX0_isElderThan_38 : decode cX0_isElderThan 38 = .ok (.if_icmp .ge 7, 3) := by decide +kernel
theorem dX0_isElderThan_41 : decode cX0_isElderThan 41 = .ok (.iconst 1, 1) := by decide +kernel
theorem dX0_isElderThan_42 : decode cX0_isElderThan 42 = .ok (.goto 4, 3) := by decide +kernel
theorem dX0_isElderThan_45 : decode cX0_isElderThan 45 = .ok (.iconst 0, 1) := by decide +kernel
theorem dX0_isElderThan_46 : decode cX0_isElderThan 46 = .ok (.ireturn, 1) := by decide +kernel
theorem dX0_rustsAheadOf_0 : decode cX0_rustsAheadOf 0 = .ok (.aload_n 0, 1) := by decide +kernel
theorem dX0_rustsAheadOf_1 : decode cX0_rustsAheadOf 1 = .ok (.getfield 16, 3) := by decide +kernel
theorem dX0_rustsAheadOf_4 : decode cX0_rustsAheadOf 4 = .ok (.aload_n 1, 1) := by decide +kernel
theorem dX0_rustsAheadOf_5 : decode cX0_rustsAheadOf 5 = .ok (.getfield 16, 3) := by decide +kernel
theorem dX0_rustsAheadOf_8 : decode cX0_rustsAheadOf 8 = .ok (.if_icmp .ne 31, 3) := by decide +kernel
theorem dX0_rustsAheadOf_11 : decode cX0_rustsAheadOf 11 = .ok (.aload_n 0, 1) := by decide +kernel
theorem dX0_rustsAheadOf_12 : decode cX0_rustsAheadOf 12 = .ok (.getfield 19, 3) := by decide +kernel
theorem dX0_rustsAheadOf_15 : decode cX0_rustsAheadOf 15 = .ok (.aload_n 1, 1) := by decide +kernel
theorem dX0_rustsAheadOf_16 : decode cX0_rustsAheadOf 16 = .ok (.getfield 19, 3) := by decide +kernel
theorem dX0_rustsAheadOf_19 : decode cX0_rustsAheadOf 19 = .ok (.if_icmp .eq 20, 3) := by decide +kernel
theorem dX0_rustsAheadOf_22 : decode cX0_rustsAheadOf 22 = .ok (.aload_n 0, 1) := by decide +kernel
theorem dX0_rustsAheadOf_23 : decode cX0_rustsAheadOf 23 = .ok (.getfield 19, 3) := by decide +kernel
theorem dX0_rustsAheadOf_26 : decode cX0_rustsAheadOf 26 = .ok (.aload_n 1, 1) := by decide +kernel
theorem dX0_rustsAheadOf_27 : decode cX0_rustsAheadOf 27 = .ok (.getfield 19, 3) := by decide +kernel
theorem dX0_rustsAheadOf_30 : decode cX0_rustsAheadOf 30 = .ok (.if_icmp .ge 7, 3) := by decide +kernel
theorem dX0_rustsAheadOf_33 : decode cX0_rustsAheadOf 33 = .ok (.iconst 1, 1) := by decide +kernel
theorem dX0_rustsAheadOf_34 : decode cX0_rustsAheadOf 34 = .ok (.goto 4, 3) := by decide +kernel
theorem dX0_rustsAheadOf_37 : decode cX0_rustsAheadOf 37 = .ok (.iconst 0, 1) := by decide +kernel
theorem dX0_rustsAheadOf_38 : decode cX0_rustsAheadOf 38 = .ok (.ireturn, 1) := by decide +kernel
theorem dX0_rustsAheadOf_39 : decode cX0_rustsAheadOf 39 = .ok (.aload_n 0, 1) := by decide +kernel
theorem dX0_rustsAheadOf_40 : decode cX0_rustsAheadOf 40 = .ok (.aload_n 1, 1) := by decide +kernel
theorem dX0_rustsAheadOf_41 : decode cX0_rustsAheadOf 41 = .ok (.invokevirtual 26, 3) := by decide +kernel
theorem dX0_rustsAheadOf_44 : decode cX0_rustsAheadOf 44 = .ok (.ireturn, 1) := by decide +kernel
theorem dX1_init_0 : decode cX1_init 0 = .ok (.aload_n 0, 1) := by decide +kernel
theorem dX1_init_1 : decode cX1_init 1 = .ok (.invokespecial 3, 3) := by decide +kernel
theorem dX1_init_4 : decode cX1_init 4 = .ok (.aload_n 0, 1) := by decide +kernel
theorem dX1_init_5 : decode cX1_init 5 = .ok (.bipush 60, 2) := by decide +kernel
theorem dX1_init_7 : decode cX1_init 7 = .ok (.newarray .char, 2) := by decide +kernel
theorem dX1_init_9 : decode cX1_init 9 = .ok (.putfield 9, 3) := by decide +kernel
theorem dX1_init_12 : decode cX1_init 12 = .ok (.aload_n 0, 1) := by decide +kernel
theorem dX1_init_13 : decode cX1_init 13 = .ok (.bipush 60, 2) := by decide +kernel
theorem dX1_init_15 : decode cX1_init 15 = .ok (.newarray .char, 2) := by decide +kernel
theorem dX1_init_17 : decode cX1_init 17 = .ok (.putfield 15, 3) := by decide +kernel
theorem dX1_init_20 : decode cX1_init 20 = .ok (.aload_n 0, 1) := by decide +kernel
theorem dX1_init_21 : decode cX1_init 21 = .ok (.bipush 60, 2) := by decide +kernel
theorem dX1_init_23 : decode cX1_init 23 = .ok (.newarray .int, 2) := by decide +kernel
theorem dX1_init_25 : decode cX1_init 25 = .ok (.putfield 18, 3) := by decide +kernel
theorem dX1_init_28 : decode cX1_init 28 = .ok (.aload_n 0, 1) := by decide +kernel
theorem dX1_init_29 : decode cX1_init 29 = .ok (.bipush 60, 2) := by decide +kernel
theorem dX1_init_31 : decode cX1_init 31 = .ok (.newarray .int, 2) := by decide +kernel
theorem dX1_init_33 : decode cX1_init 33 = .ok (.putfield 22, 3) := by decide +kernel
theorem dX1_init_36 : decode cX1_init 36 = .ok (.return_, 1) := by decide +kernel
theorem dX1_isFull_0 : decode cX1_isFull 0 = .ok (.aload_n 0, 1) := by decide +kernel
theorem dX1_isFull_1 : decode cX1_isFull 1 = .ok (.getfield 25, 3) := by decide +kernel
theorem dX1_isFull_4 : decode cX1_isFull 4 = .ok (.bipush 60, 2) := by decide +kernel
theorem dX1_isFull_6 : decode cX1_isFull 6 = .ok (.if_icmp .lt 7, 3) := by decide +kernel
theorem dX1_isFull_9 : decode cX1_isFull 9 = .ok (.iconst 1, 1) := by decide +kernel
theorem dX1_isFull_10 : decode cX1_isFull 10 = .ok (.goto 4, 3) := by decide +kernel
theorem dX1_isFull_13 : decode cX1_isFull 13 = .ok (.iconst 0, 1) := by decide +kernel
theorem dX1_isFull_14 : decode cX1_isFull 14 = .ok (.ireturn, 1) := by decide +kernel
theorem dX1_take_0 : decode cX1_take 0 = .ok (.aload_n 0, 1) := by decide +kernel
theorem dX1_take_1 : decode cX1_take 1 = .ok (.invokevirtual 29, 3) := by decide +kernel
theorem dX1_take_4 : decode cX1_take 4 = .ok (.ifCond .ne 23, 3) := by decide +kernel
theorem dX1_take_7 : decode cX1_take 7 = .ok (.aload_n 0, 1) := by decide +kernel
theorem dX1_take_8 : decode cX1_take 8 = .ok (.getfield 9, 3) := by decide +kernel
theorem dX1_take_11 : decode cX1_take 11 = .ok (.aload_n 0, 1) := by decide +kernel
theorem dX1_take_12 : decode cX1_take 12 = .ok (.getfield 25, 3) := by decide +kernel
theorem dX1_take_15 : decode cX1_take 15 = .ok (.iload_n 1, 1) := by decide +kernel
theorem dX1_take_16 : decode cX1_take 16 = .ok (.castore, 1) := by decide +kernel
theorem dX1_take_17 : decode cX1_take 17 = .ok (.aload_n 0, 1) := by decide +kernel
theorem dX1_take_18 : decode cX1_take 18 = .ok (.dup, 1) := by decide +kernel
theorem dX1_take_19 : decode cX1_take 19 = .ok (.getfield 25, 3) := by decide +kernel
theorem dX1_take_22 : decode cX1_take 22 = .ok (.iconst 1, 1) := by decide +kernel
theorem dX1_take_23 : decode cX1_take 23 = .ok (.iadd, 1) := by decide +kernel
theorem dX1_take_24 : decode cX1_take 24 = .ok (.putfield 25, 3) := by decide +kernel
theorem dX1_take_27 : decode cX1_take 27 = .ok (.aload_n 0, 1) := by decide +kernel
theorem dX1_take_28 : decode cX1_take 28 = .ok (.getfield 25, 3) := by decide +kernel
theorem dX1_take_31 : decode cX1_take 31 = .ok (.ireturn, 1) := by decide +kernel
theorem dX1_empty_0 : decode cX1_empty 0 = .ok (.aload_n 0, 1) := by decide +kernel
theorem dX1_empty_1 : decode cX1_empty 1 = .ok (.iconst 0, 1) := by decide +kernel
theorem dX1_empty_2 : decode cX1_empty 2 = .ok (.putfield 25, 3) := by decide +kernel
theorem dX1_empty_5 : decode cX1_empty 5 = .ok (.return_, 1) := by decide +kernel
theorem dX1_deedOf_0 : decode cX1_deedOf 0 = .ok (.aload_n 0, 1) := by decide +kernel
theorem dX1_deedOf_1 : decode cX1_deedOf 1 = .ok (.iload_n 1, 1) := by decide +kernel
theorem dX1_deedOf_2 : decode cX1_deedOf 2 = .ok (.invokevirtual 33, 3) := by decide +kernel
theorem dX1_deedOf_5 : decode cX1_deedOf 5 = .ok (.ifCond .eq 12, 3) := by decide +kernel
theorem dX1_deedOf_8 : decode cX1_deedOf 8 = .ok (.aload_n 0, 1) := by decide +kernel
theorem dX1_deedOf_9 : decode cX1_deedOf 9 = .ok (.getfield 15, 3) := by decide +kernel
theorem dX1_deedOf_12 : decode cX1_deedOf 12 = .ok (.iload_n 1, 1) := by decide +kernel
theorem dX1_deedOf_13 : decode cX1_deedOf 13 = .ok (.caload, 1) := by decide +kernel
theorem dX1_deedOf_14 : decode cX1_deedOf 14 = .ok (.goto 4, 3) := by decide +kernel
theorem dX1_deedOf_17 : decode cX1_deedOf 17 = .ok (.iconst 0, 1) := by decide +kernel
theorem dX1_deedOf_18 : decode cX1_deedOf 18 = .ok (.ireturn, 1) := by decide +kernel
theorem dX1_firstOf_0 : decode cX1_firstOf 0 = .ok (.aload_n 0, 1) := by decide +kernel
theorem dX1_firstOf_1 : decode cX1_firstOf 1 = .ok (.iload_n 1, 1) := by decide +kernel
theorem dX1_firstOf_2 : decode cX1_firstOf 2 = .ok (.invokevirtual 33, 3) := by decide +kernel
theorem dX1_firstOf_5 : decode cX1_firstOf 5 = .ok (.ifCond .eq 12, 3) := by decide +kernel
theorem dX1_firstOf_8 : decode cX1_firstOf 8 = .ok (.aload_n 0, 1) := by decide +kernel
theorem dX1_firstOf_9 : decode cX1_firstOf 9 = .ok (.getfield 18, 3) := by decide +kernel
theorem dX1_firstOf_12 : decode cX1_firstOf 12 = .ok (.iload_n 1, 1) := by decide +kernel
theorem dX1_firstOf_13 : decode cX1_firstOf 13 = .ok (.iaload, 1) := by decide +kernel
theorem dX1_firstOf_14 : decode cX1_firstOf 14 = .ok (.goto 4, 3) := by decide +kernel
theorem dX1_firstOf_17 : decode cX1_firstOf 17 = .ok (.iconst (-1), 1) := by decide +kernel
theorem dX1_firstOf_18 : decode cX1_firstOf 18 = .ok (.ireturn, 1) := by decide +kernel
theorem dX1_secondOf_0 : decode cX1_secondOf 0 = .ok (.aload_n 0, 1) := by decide +kernel
theorem dX1_secondOf_1 : decode cX1_secondOf 1 = .ok (.iload_n 1, 1) := by decide +kernel
theorem dX1_secondOf_2 : decode cX1_secondOf 2 = .ok (.invokevirtual 33, 3) := by decide +kernel
theorem dX1_secondOf_5 : decode cX1_secondOf 5 = .ok (.ifCond .eq 12, 3) := by decide +kernel
theorem dX1_secondOf_8 : decode cX1_secondOf 8 = .ok (.aload_n 0, 1) := by decide +kernel
theorem dX1_secondOf_9 : decode cX1_secondOf 9 = .ok (.getfield 22, 3) := by decide +kernel
theorem dX1_secondOf_12 : decode cX1_secondOf 12 = .ok (.iload_n 1, 1) := by decide +kernel
theorem dX1_secondOf_13 : decode cX1_secondOf 13 = .ok (.iaload, 1) := by decide +kernel
theorem dX1_secondOf_14 : decode cX1_secondOf 14 = .ok (.goto 4, 3) := by decide +kernel
theorem dX1_secondOf_17 : decode cX1_secondOf 17 = .ok (.iconst (-1), 1) := by decide +kernel
theorem dX1_secondOf_18 : decode cX1_secondOf 18 = .ok (.ireturn, 1) := by decide +kernel
theorem dX1_readCommands_0 : decode cX1_readCommands 0 = .ok (.aload_n 0, 1) := by decide +kernel
theorem dX1_readCommands_1 : decode cX1_readCommands 1 = .ok (.iconst 0, 1) := by decide +kernel
theorem dX1_readCommands_2 : decode cX1_readCommands 2 = .ok (.putfield 37, 3) := by decide +kernel
theorem dX1_readCommands_5 : decode cX1_readCommands 5 = .ok (.aload_n 0, 1) := by decide +kernel
theorem dX1_readCommands_6 : decode cX1_readCommands 6 = .ok (.iconst 0, 1) := by decide +kernel
theorem dX1_readCommands_7 : decode cX1_readCommands 7 = .ok (.putfield 40, 3) := by decide +kernel
theorem dX1_readCommands_10 : decode cX1_readCommands 10 = .ok (.iconst 0, 1) := by decide +kernel
theorem dX1_readCommands_11 : decode cX1_readCommands 11 = .ok (.istore_n 1, 1) := by decide +kernel
theorem dX1_readCommands_12 : decode cX1_readCommands 12 = .ok (.iload_n 1, 1) := by decide +kernel
theorem dX1_readCommands_13 : decode cX1_readCommands 13 = .ok (.bipush 60, 2) := by decide +kernel
theorem dX1_readCommands_15 : decode cX1_readCommands 15 = .ok (.if_icmp .gt 44, 3) := by decide +kernel
theorem dX1_readCommands_18 : decode cX1_readCommands 18 = .ok (.aload_n 0, 1) := by decide +kernel
theorem dX1_readCommands_19 : decode cX1_readCommands 19 = .ok (.invokevirtual 43, 3) := by decide +kernel
theorem dX1_readCommands_22 : decode cX1_readCommands 22 = .ok (.ifCond .ne 8, 3) := by decide +kernel
theorem dX1_readCommands_25 : decode cX1_readCommands 25 = .ok (.aload_n 0, 1) := by decide +kernel
theorem dX1_readCommands_26 : decode cX1_readCommands 26 = .ok (.getfield 37, 3) := by decide +kernel
theorem dX1_readCommands_29 : decode cX1_readCommands 29 = .ok (.ireturn, 1) := by decide +kernel
theorem dX1_readCommands_30 : decode cX1_readCommands 30 = .ok (.aload_n 0, 1) := by decide +kernel
theorem dX1_readCommands_31 : decode cX1_readCommands 31 = .ok (.invokevirtual 46, 3) := by decide +kernel
theorem dX1_readCommands_34 : decode cX1_readCommands 34 = .ok (.ifCond .ne 5, 3) := by decide +kernel
theorem dX1_readCommands_37 : decode cX1_readCommands 37 = .ok (.iconst (-1), 1) := by decide +kernel
theorem dX1_readCommands_38 : decode cX1_readCommands 38 = .ok (.ireturn, 1) := by decide +kernel
theorem dX1_readCommands_39 : decode cX1_readCommands 39 = .ok (.aload_n 0, 1) := by decide +kernel
theorem dX1_readCommands_40 : decode cX1_readCommands 40 = .ok (.bipush 59, 2) := by decide +kernel
theorem dX1_readCommands_42 : decode cX1_readCommands 42 = .ok (.invokevirtual 50, 3) := by decide +kernel
theorem dX1_readCommands_45 : decode cX1_readCommands 45 = .ok (.ifCond .ne 8, 3) := by decide +kernel
theorem dX1_readCommands_48 : decode cX1_readCommands 48 = .ok (.aload_n 0, 1) := by decide +kernel
theorem dX1_readCommands_49 : decode cX1_readCommands 49 = .ok (.getfield 37, 3) := by decide +kernel
theorem dX1_readCommands_52 : decode cX1_readCommands 52 = .ok (.ireturn, 1) := by decide +kernel
theorem dX1_readCommands_53 : decode cX1_readCommands 53 = .ok (.iinc 1 1, 3) := by decide +kernel
theorem dX1_readCommands_56 : decode cX1_readCommands 56 = .ok (.goto (-44), 3) := by decide +kernel
theorem dX1_readCommands_59 : decode cX1_readCommands 59 = .ok (.aload_n 0, 1) := by decide +kernel
theorem dX1_readCommands_60 : decode cX1_readCommands 60 = .ok (.getfield 37, 3) := by decide +kernel
theorem dX1_readCommands_63 : decode cX1_readCommands 63 = .ok (.ireturn, 1) := by decide +kernel
theorem dX1_isCommand_0 : decode cX1_isCommand 0 = .ok (.iload_n 1, 1) := by decide +kernel
theorem dX1_isCommand_1 : decode cX1_isCommand 1 = .ok (.ifCond .lt 15, 3) := by decide +kernel
theorem dX1_isCommand_4 : decode cX1_isCommand 4 = .ok (.iload_n 1, 1) := by decide +kernel
theorem dX1_isCommand_5 : decode cX1_isCommand 5 = .ok (.aload_n 0, 1) := by decide +kernel
theorem dX1_isCommand_6 : decode cX1_isCommand 6 = .ok (.getfield 40, 3) := by decide +kernel
theorem dX1_isCommand_9 : decode cX1_isCommand 9 = .ok (.if_icmp .ge 7, 3) := by decide +kernel
theorem dX1_isCommand_12 : decode cX1_isCommand 12 = .ok (.iconst 1, 1) := by decide +kernel
theorem dX1_isCommand_13 : decode cX1_isCommand 13 = .ok (.goto 4, 3) := by decide +kernel
theorem dX1_isCommand_16 : decode cX1_isCommand 16 = .ok (.iconst 0, 1) := by decide +kernel
theorem dX1_isCommand_17 : decode cX1_isCommand 17 = .ok (.ireturn, 1) := by decide +kernel
theorem dX1_shapeOf_0 : decode cX1_shapeOf 0 = .ok (.iload_n 0, 1) := by decide +kernel
theorem dX1_shapeOf_1 : decode cX1_shapeOf 1 = .ok (.tableswitch 114 97 117 #[111, 114, 99, 111, 114, 111, 108, 102, 114, 114, 114, 114, 105, 114, 111, 99, 99, 114, 111, 114, 111], 99) := by decide +kernel
theorem dX1_shapeOf_100 : decode cX1_shapeOf 100 = .ok (.ldc 54, 2) := by decide +kernel
theorem dX1_shapeOf_102 : decode cX1_shapeOf 102 = .ok (.areturn, 1) := by decide +kernel
theorem dX1_shapeOf_103 : decode cX1_shapeOf 103 = .ok (.ldc 56, 2) := by decide +kernel
theorem dX1_shapeOf_105 : decode cX1_shapeOf 105 = .ok (.areturn, 1) := by decide +kernel
theorem dX1_shapeOf_106 : decode cX1_shapeOf 106 = .ok (.ldc 58, 2) := by decide +kernel
theorem dX1_shapeOf_108 : decode cX1_shapeOf 108 = .ok (.areturn, 1) := by decide +kernel
theorem dX1_shapeOf_109 : decode cX1_shapeOf 109 = .ok (.ldc 60, 2) := by decide +kernel
theorem dX1_shapeOf_111 : decode cX1_shapeOf 111 = .ok (.areturn, 1) := by decide +kernel
theorem dX1_shapeOf_112 : decode cX1_shapeOf 112 = .ok (.ldc 62, 2) := by decide +kernel
theorem dX1_shapeOf_114 : decode cX1_shapeOf 114 = .ok (.areturn, 1) := by decide +kernel
theorem dX1_shapeOf_115 : decode cX1_shapeOf 115 = .ok (.ldc 64, 2) := by decide +kernel
theorem dX1_shapeOf_117 : decode cX1_shapeOf 117 = .ok (.areturn, 1) := by decide +kernel
theorem dX1_readCommand_0 : decode cX1_readCommand 0 = .ok (.aload_n 0, 1) := by decide +kernel
theorem dX1_readCommand_1 : decode cX1_readCommand 1 = .ok (.invokevirtual 46, 3) := by decide +kernel
theorem dX1_readCommand_4 : decode cX1_readCommand 4 = .ok (.istore_n 1, 1) := by decide +kernel
theorem dX1_readCommand_5 : decode cX1_readCommand 5 = .ok (.iload_n 1, 1) := by decide +kernel
theorem dX1_readCommand_6 : decode cX1_readCommand 6 = .ok (.invokestatic 66, 3) := by decide +kernel
theorem dX1_readCommand_9 : decode cX1_readCommand 9 = .ok (.astore_n 2, 1) := by decide +kernel
theorem dX1_readCommand_10 : decode cX1_readCommand 10 = .ok (.aload_n 2, 1) := by decide +kernel
theorem dX1_readCommand_11 : decode cX1_readCommand 11 = .ok (.invokevirtual 70, 3) := by decide +kernel
theorem dX1_readCommand_14 : decode cX1_readCommand 14 = .ok (.ifCond .ne 12, 3) := by decide +kernel
theorem dX1_readCommand_17 : decode cX1_readCommand 17 = .ok (.aload_n 0, 1) := by decide +kernel
theorem dX1_readCommand_18 : decode cX1_readCommand 18 = .ok (.getfield 40, 3) := by decide +kernel
theorem dX1_readCommand_21 : decode cX1_readCommand 21 = .ok (.bipush 60, 2) := by decide +kernel
theorem dX1_readCommand_23 : decode cX1_readCommand 23 = .ok (.if_icmp .lt 5, 3) := by decide +kernel
theorem dX1_readCommand_26 : decode cX1_readCommand 26 = .ok (.iconst 0, 1) := by decide +kernel
theorem dX1_readCommand_27 : decode cX1_readCommand 27 = .ok (.ireturn, 1) := by decide +kernel
theorem dX1_readCommand_28 : decode cX1_readCommand 28 = .ok (.aload_n 0, 1) := by decide +kernel
theorem dX1_readCommand_29 : decode cX1_readCommand 29 = .ok (.dup, 1) := by decide +kernel
theorem dX1_readCommand_30 : decode cX1_readCommand 30 = .ok (.getfield 37, 3) := by decide +kernel
theorem dX1_readCommand_33 : decode cX1_readCommand 33 = .ok (.iconst 1, 1) := by decide +kernel
theorem dX1_readCommand_34 : decode cX1_readCommand 34 = .ok (.iadd, 1) := by decide +kernel
theorem dX1_readCommand_35 : decode cX1_readCommand 35 = .ok (.putfield 37, 3) := by decide +kernel
theorem dX1_readCommand_38 : decode cX1_readCommand 38 = .ok (.aload_n 0, 1) := by decide +kernel
theorem dX1_readCommand_39 : decode cX1_readCommand 39 = .ok (.getfield 15, 3) := by decide +kernel
theorem dX1_readCommand_42 : decode cX1_readCommand 42 = .ok (.aload_n 0, 1) := by decide +kernel
theorem dX1_readCommand_43 : decode cX1_readCommand 43 = .ok (.getfield 40, 3) := by decide +kernel
theorem dX1_readCommand_46 : decode cX1_readCommand 46 = .ok (.iload_n 1, 1) := by decide +kernel
theorem dX1_readCommand_47 : decode cX1_readCommand 47 = .ok (.castore, 1) := by decide +kernel
theorem dX1_readCommand_48 : decode cX1_readCommand 48 = .ok (.aload_n 0, 1) := by decide +kernel
theorem dX1_readCommand_49 : decode cX1_readCommand 49 = .ok (.getfield 18, 3) := by decide +kernel
theorem dX1_readCommand_52 : decode cX1_readCommand 52 = .ok (.aload_n 0, 1) := by decide +kernel
theorem dX1_readCommand_53 : decode cX1_readCommand 53 = .ok (.getfield 40, 3) := by decide +kernel
theorem dX1_readCommand_56 : decode cX1_readCommand 56 = .ok (.iconst 0, 1) := by decide +kernel
theorem dX1_readCommand_57 : decode cX1_readCommand 57 = .ok (.iastore, 1) := by decide +kernel
theorem dX1_readCommand_58 : decode cX1_readCommand 58 = .ok (.aload_n 0, 1) := by decide +kernel
theorem dX1_readCommand_59 : decode cX1_readCommand 59 = .ok (.getfield 22, 3) := by decide +kernel
theorem dX1_readCommand_62 : decode cX1_readCommand 62 = .ok (.aload_n 0, 1) := by decide +kernel
theorem dX1_readCommand_63 : decode cX1_readCommand 63 = .ok (.getfield 40, 3) := by decide +kernel
theorem dX1_readCommand_66 : decode cX1_readCommand 66 = .ok (.iconst 0, 1) := by decide +kernel
theorem dX1_readCommand_67 : decode cX1_readCommand 67 = .ok (.iastore, 1) := by decide +kernel
theorem dX1_readCommand_68 : decode cX1_readCommand 68 = .ok (.iconst 0, 1) := by decide +kernel
theorem dX1_readCommand_69 : decode cX1_readCommand 69 = .ok (.istore_n 3, 1) := by decide +kernel
theorem dX1_readCommand_70 : decode cX1_readCommand 70 = .ok (.iload_n 3, 1) := by decide +kernel
theorem dX1_readCommand_71 : decode cX1_readCommand 71 = .ok (.aload_n 2, 1) := by decide +kernel
theorem dX1_readCommand_72 : decode cX1_readCommand 72 = .ok (.invokevirtual 75, 3) := by decide +kernel
theorem dX1_readCommand_75 : decode cX1_readCommand 75 = .ok (.if_icmp .ge 32, 3) := by decide +kernel
theorem dX1_readCommand_78 : decode cX1_readCommand 78 = .ok (.aload_n 0, 1) := by decide +kernel
theorem dX1_readCommand_79 : decode cX1_readCommand 79 = .ok (.aload_n 2, 1) := by decide +kernel
theorem dX1_readCommand_80 : decode cX1_readCommand 80 = .ok (.iload_n 3, 1) := by decide +kernel
theorem dX1_readCommand_81 : decode cX1_readCommand 81 = .ok (.invokevirtual 78, 3) := by decide +kernel
theorem dX1_readCommand_84 : decode cX1_readCommand 84 = .ok (.iload_n 3, 1) := by decide +kernel
theorem dX1_readCommand_85 : decode cX1_readCommand 85 = .ok (.ifCond .ne 7, 3) := by decide +kernel
theorem dX1_readCommand_88 : decode cX1_readCommand 88 = .ok (.iconst 1, 1) := by decide +kernel
theorem dX1_readCommand_89 : decode cX1_readCommand 89 = .ok (.goto 4, 3) := by decide +kernel
theorem dX1_readCommand_92 : decode cX1_readCommand 92 = .ok (.iconst 0, 1) := by decide +kernel
theorem dX1_readCommand_93 : decode cX1_readCommand 93 = .ok (.invokevirtual 82, 3) := by decide +kernel
theorem dX1_readCommand_96 : decode cX1_readCommand 96 = .ok (.ifCond .ne 5, 3) := by decide +kernel
theorem dX1_readCommand_99 : decode cX1_readCommand 99 = .ok (.iconst 0, 1) := by decide +kernel
theorem dX1_readCommand_100 : decode cX1_readCommand 100 = .ok (.ireturn, 1) := by decide +kernel
theorem dX1_readCommand_101 : decode cX1_readCommand 101 = .ok (.iinc 3 1, 3) := by decide +kernel
theorem dX1_readCommand_104 : decode cX1_readCommand 104 = .ok (.goto (-34), 3) := by decide +kernel
theorem dX1_readCommand_107 : decode cX1_readCommand 107 = .ok (.aload_n 0, 1) := by decide +kernel
theorem dX1_readCommand_108 : decode cX1_readCommand 108 = .ok (.dup, 1) := by decide +kernel
theorem dX1_readCommand_109 : decode cX1_readCommand 109 = .ok (.getfield 40, 3) := by decide +kernel
theorem dX1_readCommand_112 : decode cX1_readCommand 112 = .ok (.iconst 1, 1) := by decide +kernel
theorem dX1_readCommand_113 : decode cX1_readCommand 113 = .ok (.iadd, 1) := by decide +kernel
theorem dX1_readCommand_114 : decode cX1_readCommand 114 = .ok (.putfield 40, 3) := by decide +kernel
theorem dX1_readCommand_117 : decode cX1_readCommand 117 = .ok (.iconst 1, 1) := by decide +kernel
theorem dX1_readCommand_118 : decode cX1_readCommand 118 = .ok (.ireturn, 1) := by decide +kernel
theorem dX1_readPart_0 : decode cX1_readPart 0 = .ok (.iload_n 1, 1) := by decide +kernel
theorem dX1_readPart_1 : decode cX1_readPart 1 = .ok (.bipush 100, 2) := by decide +kernel
theorem dX1_readPart_3 : decode cX1_readPart 3 = .ok (.if_icmp .eq 15, 3) := by decide +kernel
theorem dX1_readPart_6 : decode cX1_readPart 6 = .ok (.iload_n 1, 1) := by decide +kernel
theorem dX1_readPart_7 : decode cX1_readPart 7 = .ok (.bipush 110, 2) := by decide +kernel
theorem dX1_readPart_9 : decode cX1_readPart 9 = .ok (.if_icmp .eq 9, 3) := by decide +kernel
theorem dX1_readPart_12 : decode cX1_readPart 12 = .ok (.aload_n 0, 1) := by decide +kernel
theorem dX1_readPart_13 : decode cX1_readPart 13 = .ok (.iload_n 1, 1) := by decide +kernel
theorem dX1_readPart_14 : decode cX1_readPart 14 = .ok (.invokevirtual 50, 3) := by decide +kernel
theorem dX1_readPart_17 : decode cX1_readPart 17 = .ok (.ireturn, 1) := by decide +kernel
theorem dX1_readPart_18 : decode cX1_readPart 18 = .ok (.aload_n 0, 1) := by decide +kernel
theorem dX1_readPart_19 : decode cX1_readPart 19 = .ok (.iload_n 1, 1) := by decide +kernel
theorem dX1_readPart_20 : decode cX1_readPart 20 = .ok (.bipush 100, 2) := by decide +kernel
theorem dX1_readPart_22 : decode cX1_readPart 22 = .ok (.if_icmp .ne 7, 3) := by decide +kernel
theorem dX1_readPart_25 : decode cX1_readPart 25 = .ok (.iconst 1, 1) := by decide +kernel
theorem dX1_readPart_26 : decode cX1_readPart 26 = .ok (.goto 4, 3) := by decide +kernel
theorem dX1_readPart_29 : decode cX1_readPart 29 = .ok (.iconst 2, 1) := by decide +kernel
theorem dX1_readPart_30 : decode cX1_readPart 30 = .ok (.invokevirtual 86, 3) := by decide +kernel
theorem dX1_readPart_33 : decode cX1_readPart 33 = .ok (.istore_n 3, 1) := by decide +kernel
theorem dX1_readPart_34 : decode cX1_readPart 34 = .ok (.iload_n 3, 1) := by decide +kernel
theorem dX1_readPart_35 : decode cX1_readPart 35 = .ok (.iconst (-1), 1) := by decide +kernel
theorem dX1_readPart_36 : decode cX1_readPart 36 = .ok (.if_icmp .eq 12, 3) := by decide +kernel
theorem dX1_readPart_39 : decode cX1_readPart 39 = .ok (.aload_n 0, 1) := by decide +kernel
theorem dX1_readPart_40 : decode cX1_readPart 40 = .ok (.getfield 40, 3) := by decide +kernel
theorem dX1_readPart_43 : decode cX1_readPart 43 = .ok (.bipush 60, 2) := by decide +kernel
theorem dX1_readPart_45 : decode cX1_readPart 45 = .ok (.if_icmp .lt 5, 3) := by decide +kernel
theorem dX1_readPart_48 : decode cX1_readPart 48 = .ok (.iconst 0, 1) := by decide +kernel
theorem dX1_readPart_49 : decode cX1_readPart 49 = .ok (.ireturn, 1) := by decide +kernel
theorem dX1_readPart_50 : decode cX1_readPart 50 = .ok (.iload_n 2, 1) := by decide +kernel
theorem dX1_readPart_51 : decode cX1_readPart 51 = .ok (.ifCond .eq 16, 3) := by decide +kernel
theorem dX1_readPart_54 : decode cX1_readPart 54 = .ok (.aload_n 0, 1) := by decide +kernel
theorem dX1_readPart_55 : decode cX1_readPart 55 = .ok (.getfield 18, 3) := by decide +kernel
theorem dX1_readPart_58 : decode cX1_readPart 58 = .ok (.aload_n 0, 1) := by decide +kernel
theorem dX1_readPart_59 : decode cX1_readPart 59 = .ok (.getfield 40, 3) := by decide +kernel
theorem dX1_readPart_62 : decode cX1_readPart 62 = .ok (.iload_n 3, 1) := by decide +kernel
theorem dX1_readPart_63 : decode cX1_readPart 63 = .ok (.iastore, 1) := by decide +kernel
theorem dX1_readPart_64 : decode cX1_readPart 64 = .ok (.goto 13, 3) := by decide +kernel
theorem dX1_readPart_67 : decode cX1_readPart 67 = .ok (.aload_n 0, 1) := by decide +kernel
theorem dX1_readPart_68 : decode cX1_readPart 68 = .ok (.getfield 22, 3) := by decide +kernel
theorem dX1_readPart_71 : decode cX1_readPart 71 = .ok (.aload_n 0, 1) := by decide +kernel
theorem dX1_readPart_72 : decode cX1_readPart 72 = .ok (.getfield 40, 3) := by decide +kernel
theorem dX1_readPart_75 : decode cX1_readPart 75 = .ok (.iload_n 3, 1) := by decide +kernel
theorem dX1_readPart_76 : decode cX1_readPart 76 = .ok (.iastore, 1) := by decide +kernel
theorem dX1_readPart_77 : decode cX1_readPart 77 = .ok (.iconst 1, 1) := by decide +kernel
theorem dX1_readPart_78 : decode cX1_readPart 78 = .ok (.ireturn, 1) := by decide +kernel
theorem dX1_readSign_0 : decode cX1_readSign 0 = .ok (.aload_n 0, 1) := by decide +kernel
theorem dX1_readSign_1 : decode cX1_readSign 1 = .ok (.invokevirtual 46, 3) := by decide +kernel
theorem dX1_readSign_4 : decode cX1_readSign 4 = .ok (.iload_n 1, 1) := by decide +kernel
theorem dX1_readSign_5 : decode cX1_readSign 5 = .ok (.if_icmp .eq 5, 3) := by decide +kernel
theorem dX1_readSign_8 : decode cX1_readSign 8 = .ok (.iconst 0, 1) := by decide +kernel
theorem dX1_readSign_9 : decode cX1_readSign 9 = .ok (.ireturn, 1) := by decide +kernel
theorem dX1_readSign_10 : decode cX1_readSign 10 = .ok (.aload_n 0, 1) := by decide +kernel
theorem dX1_readSign_11 : decode cX1_readSign 11 = .ok (.dup, 1) := by decide +kernel
theorem dX1_readSign_12 : decode cX1_readSign 12 = .ok (.getfield 37, 3) := by decide +kernel
theorem dX1_readSign_15 : decode cX1_readSign 15 = .ok (.iconst 1, 1) := by decide +kernel
theorem dX1_readSign_16 : decode cX1_readSign 16 = .ok (.iadd, 1) := by decide +kernel
theorem dX1_readSign_17 : decode cX1_readSign 17 = .ok (.putfield 37, 3) := by decide +kernel
theorem dX1_readSign_20 : decode cX1_readSign 20 = .ok (.iconst 1, 1) := by decide +kernel
theorem dX1_readSign_21 : decode cX1_readSign 21 = .ok (.ireturn, 1) := by decide +kernel
theorem dX1_readNumber_0 : decode cX1_readNumber 0 = .ok (.iconst (-1), 1) := by decide +kernel
theorem dX1_readNumber_1 : decode cX1_readNumber 1 = .ok (.istore_n 2, 1) := by decide +kernel
theorem dX1_readNumber_2 : decode cX1_readNumber 2 = .ok (.iconst 0, 1) := by decide +kernel
theorem dX1_readNumber_3 : decode cX1_readNumber 3 = .ok (.istore_n 3, 1) := by decide +kernel
theorem dX1_readNumber_4 : decode cX1_readNumber 4 = .ok (.iload_n 3, 1) := by decide +kernel
theorem dX1_readNumber_5 : decode cX1_readNumber 5 = .ok (.iload_n 1, 1) := by decide +kernel
theorem dX1_readNumber_6 : decode cX1_readNumber 6 = .ok (.if_icmp .ge 46, 3) := by decide +kernel
theorem dX1_readNumber_9 : decode cX1_readNumber 9 = .ok (.aload_n 0, 1) := by decide +kernel
theorem dX1_readNumber_10 : decode cX1_readNumber 10 = .ok (.invokevirtual 46, 3) := by decide +kernel
theorem dX1_readNumber_13 : decode cX1_readNumber 13 = .ok (.invokestatic 90, 3) := by decide +kernel
theorem dX1_readNumber_16 : decode cX1_readNumber 16 = .ok (.ifCond .eq 36, 3) := by decide +kernel
theorem dX1_readNumber_19 : decode cX1_readNumber 19 = .ok (.iconst 0, 1) := by decide +kernel
theorem dX1_readNumber_20 : decode cX1_readNumber 20 = .ok (.iload_n 2, 1) := by decide +kernel
theorem dX1_readNumber_21 : decode cX1_readNumber 21 = .ok (.invokestatic 93, 3) := by decide +kernel
theorem dX1_readNumber_24 : decode cX1_readNumber 24 = .ok (.bipush 10, 2) := by decide +kernel
theorem dX1_readNumber_26 : decode cX1_readNumber 26 = .ok (.imul, 1) := by decide +kernel
theorem dX1_readNumber_27 : decode cX1_readNumber 27 = .ok (.aload_n 0, 1) := by decide +kernel
theorem dX1_readNumber_28 : decode cX1_readNumber 28 = .ok (.invokevirtual 46, 3) := by decide +kernel
theorem dX1_readNumber_31 : decode cX1_readNumber 31 = .ok (.iadd, 1) := by decide +kernel
theorem dX1_readNumber_32 : decode cX1_readNumber 32 = .ok (.bipush 48, 2) := by decide +kernel
theorem dX1_readNumber_34 : decode cX1_readNumber 34 = .ok (.isub, 1) := by decide +kernel
theorem dX1_readNumber_35 : decode cX1_readNumber 35 = .ok (.istore_n 2, 1) := by decide +kernel
theorem dX1_readNumber_36 : decode cX1_readNumber 36 = .ok (.aload_n 0, 1) := by decide +kernel
theorem dX1_readNumber_37 : decode cX1_readNumber 37 = .ok (.dup, 1) := by decide +kernel
theorem dX1_readNumber_38 : decode cX1_readNumber 38 = .ok (.getfield 37, 3) := by decide +kernel
theorem dX1_readNumber_41 : decode cX1_readNumber 41 = .ok (.iconst 1, 1) := by decide +kernel
theorem dX1_readNumber_42 : decode cX1_readNumber 42 = .ok (.iadd, 1) := by decide +kernel
theorem dX1_readNumber_43 : decode cX1_readNumber 43 = .ok (.putfield 37, 3) := by decide +kernel
theorem dX1_readNumber_46 : decode cX1_readNumber 46 = .ok (.iinc 3 1, 3) := by decide +kernel
theorem dX1_readNumber_49 : decode cX1_readNumber 49 = .ok (.goto (-45), 3) := by decide +kernel
theorem dX1_readNumber_52 : decode cX1_readNumber 52 = .ok (.iload_n 2, 1) := by decide +kernel
theorem dX1_readNumber_53 : decode cX1_readNumber 53 = .ok (.ireturn, 1) := by decide +kernel
theorem dX1_next_0 : decode cX1_next 0 = .ok (.aload_n 0, 1) := by decide +kernel
theorem dX1_next_1 : decode cX1_next 1 = .ok (.getfield 37, 3) := by decide +kernel
theorem dX1_next_4 : decode cX1_next 4 = .ok (.ifCond .lt 26, 3) := by decide +kernel
theorem dX1_next_7 : decode cX1_next 7 = .ok (.aload_n 0, 1) := by decide +kernel
theorem dX1_next_8 : decode cX1_next 8 = .ok (.getfield 37, 3) := by decide +kernel
theorem dX1_next_11 : decode cX1_next 11 = .ok (.aload_n 0, 1) := by decide +kernel
theorem dX1_next_12 : decode cX1_next 12 = .ok (.getfield 25, 3) := by decide +kernel
theorem dX1_next_15 : decode cX1_next 15 = .ok (.if_icmp .ge 15, 3) := by decide +kernel
theorem dX1_next_18 : decode cX1_next 18 = .ok (.aload_n 0, 1) := by decide +kernel
theorem dX1_next_19 : decode cX1_next 19 = .ok (.getfield 9, 3) := by decide +kernel
theorem dX1_next_22 : decode cX1_next 22 = .ok (.aload_n 0, 1) := by decide +kernel
theorem dX1_next_23 : decode cX1_next 23 = .ok (.getfield 37, 3) := by decide +kernel
theorem dX1_next_26 : decode cX1_next 26 = .ok (.caload, 1) := by decide +kernel
theorem dX1_next_27 : decode cX1_next 27 = .ok (.goto 4, 3) := by decide +kernel
theorem dX1_next_30 : decode cX1_next 30 = .ok (.iconst 0, 1) := by decide +kernel
theorem dX1_next_31 : decode cX1_next 31 = .ok (.ireturn, 1) := by decide +kernel
theorem dX1_isDigit_0 : decode cX1_isDigit 0 = .ok (.iload_n 0, 1) := by decide +kernel
theorem dX1_isDigit_1 : decode cX1_isDigit 1 = .ok (.bipush 48, 2) := by decide +kernel
theorem dX1_isDigit_3 : decode cX1_isDigit 3 = .ok (.if_icmp .lt 13, 3) := by decide +kernel
theorem dX1_isDigit_6 : decode cX1_isDigit 6 = .ok (.iload_n 0, 1) := by decide +kernel
theorem dX1_isDigit_7 : decode cX1_isDigit 7 = .ok (.bipush 57, 2) := by decide +kernel
theorem dX1_isDigit_9 : decode cX1_isDigit 9 = .ok (.if_icmp .gt 7, 3) := by decide +kernel
theorem dX1_isDigit_12 : decode cX1_isDigit 12 = .ok (.iconst 1, 1) := by decide +kernel
theorem dX1_isDigit_13 : decode cX1_isDigit 13 = .ok (.goto 4, 3) := by decide +kernel
theorem dX1_isDigit_16 : decode cX1_isDigit 16 = .ok (.iconst 0, 1) := by decide +kernel
theorem dX1_isDigit_17 : decode cX1_isDigit 17 = .ok (.ireturn, 1) := by decide +kernel
theorem dX3_init_0 : decode cX3_init 0 = .ok (.aload_n 0, 1) := by decide +kernel
theorem dX3_init_1 : decode cX3_init 1 = .ok (.invokespecial 3, 3) := by decide +kernel
theorem dX3_init_4 : decode cX3_init 4 = .ok (.aload_n 0, 1) := by decide +kernel
theorem dX3_init_5 : decode cX3_init 5 = .ok (.new 9, 3) := by decide +kernel
theorem dX3_init_8 : decode cX3_init 8 = .ok (.dup, 1) := by decide +kernel
theorem dX3_init_9 : decode cX3_init 9 = .ok (.invokespecial 11, 3) := by decide +kernel
theorem dX3_init_12 : decode cX3_init 12 = .ok (.putfield 12, 3) := by decide +kernel
theorem dX3_init_15 : decode cX3_init 15 = .ok (.aload_n 0, 1) := by decide +kernel
theorem dX3_init_16 : decode cX3_init 16 = .ok (.new 18, 3) := by decide +kernel
theorem dX3_init_19 : decode cX3_init 19 = .ok (.dup, 1) := by decide +kernel
theorem dX3_init_20 : decode cX3_init 20 = .ok (.invokespecial 20, 3) := by decide +kernel
theorem dX3_init_23 : decode cX3_init 23 = .ok (.putfield 21, 3) := by decide +kernel
theorem dX3_init_26 : decode cX3_init 26 = .ok (.aload_n 0, 1) := by decide +kernel
theorem dX3_init_27 : decode cX3_init 27 = .ok (.new 18, 3) := by decide +kernel
theorem dX3_init_30 : decode cX3_init 30 = .ok (.dup, 1) := by decide +kernel
theorem dX3_init_31 : decode cX3_init 31 = .ok (.invokespecial 20, 3) := by decide +kernel
theorem dX3_init_34 : decode cX3_init 34 = .ok (.putfield 25, 3) := by decide +kernel
theorem dX3_init_37 : decode cX3_init 37 = .ok (.aload_n 0, 1) := by decide +kernel
theorem dX3_init_38 : decode cX3_init 38 = .ok (.bipush 12, 2) := by decide +kernel
theorem dX3_init_40 : decode cX3_init 40 = .ok (.anewarray 28, 3) := by decide +kernel
theorem dX3_init_43 : decode cX3_init 43 = .ok (.putfield 30, 3) := by decide +kernel
theorem dX3_init_46 : decode cX3_init 46 = .ok (.aload_n 0, 1) := by decide +kernel
theorem dX3_init_47 : decode cX3_init 47 = .ok (.iconst 3, 1) := by decide +kernel
theorem dX3_init_48 : decode cX3_init 48 = .ok (.putfield 34, 3) := by decide +kernel
theorem dX3_init_51 : decode cX3_init 51 = .ok (.iconst 0, 1) := by decide +kernel
theorem dX3_init_52 : decode cX3_init 52 = .ok (.istore_n 1, 1) := by decide +kernel
theorem dX3_init_53 : decode cX3_init 53 = .ok (.iload_n 1, 1) := by decide +kernel
theorem dX3_init_54 : decode cX3_init 54 = .ok (.bipush 6, 2) := by decide +kernel
theorem dX3_init_56 : decode cX3_init 56 = .ok (.if_icmp .ge 18, 3) := by decide +kernel
theorem dX3_init_59 : decode cX3_init 59 = .ok (.aload_n 0, 1) := by decide +kernel
theorem dX3_init_60 : decode cX3_init 60 = .ok (.getfield 21, 3) := by decide +kernel
theorem dX3_init_63 : decode cX3_init 63 = .ok (.iload_n 1, 1) := by decide +kernel
theorem dX3_init_64 : decode cX3_init 64 = .ok (.iconst 5, 1) := by decide +kernel
theorem dX3_init_65 : decode cX3_init 65 = .ok (.invokevirtual 38, 3) := by decide +kernel
theorem dX3_init_68 : decode cX3_init 68 = .ok (.iinc 1 1, 3) := by decide +kernel
theorem dX3_init_71 : decode cX3_init 71 = .ok (.goto (-18), 3) := by decide +kernel
theorem dX3_init_74 : decode cX3_init 74 = .ok (.iconst 0, 1) := by decide +kernel
theorem dX3_init_75 : decode cX3_init 75 = .ok (.istore_n 1, 1) := by decide +kernel
theorem dX3_init_76 : decode cX3_init 76 = .ok (.iload_n 1, 1) := by decide +kernel
theorem dX3_init_77 : decode cX3_init 77 = .ok (.bipush 12, 2) := by decide +kernel
theorem dX3_init_79 : decode cX3_init 79 = .ok (.if_icmp .ge 22, 3) := by decide +kernel
theorem dX3_init_82 : decode cX3_init 82 = .ok (.aload_n 0, 1) := by decide +kernel
theorem dX3_init_83 : decode cX3_init 83 = .ok (.getfield 30, 3) := by decide +kernel
theorem dX3_init_86 : decode cX3_init 86 = .ok (.iload_n 1, 1) := by decide +kernel
theorem dX3_init_87 : decode cX3_init 87 = .ok (.new 28, 3) := by decide +kernel
theorem dX3_init_90 : decode cX3_init 90 = .ok (.dup, 1) := by decide +kernel
theorem dX3_init_91 : decode cX3_init 91 = .ok (.invokespecial 42, 3) := by decide +kernel
theorem dX3_init_94 : decode cX3_init 94 = .ok (.aastore, 1) := by decide +kernel
theorem dX3_init_95 : decode cX3_init 95 = .ok (.iinc 1 1, 3) := by decide +kernel
theorem dX3_init_98 : decode cX3_init 98 = .ok (.goto (-22), 3) := by decide +kernel
theorem dX3_init_101 : decode cX3_init 101 = .ok (.return_, 1) := by decide +kernel
theorem dX3_become_0 : decode cX3_become 0 = .ok (.aload_n 0, 1) := by decide +kernel
theorem dX3_become_1 : decode cX3_become 1 = .ok (.getfield 12, 3) := by decide +kernel
theorem dX3_become_4 : decode cX3_become 4 = .ok (.aload_n 1, 1) := by decide +kernel
theorem dX3_become_5 : decode cX3_become 5 = .ok (.getfield 12, 3) := by decide +kernel
theorem dX3_become_8 : decode cX3_become 8 = .ok (.invokevirtual 43, 3) := by decide +kernel
theorem dX3_become_11 : decode cX3_become 11 = .ok (.aload_n 0, 1) := by decide +kernel
theorem dX3_become_12 : decode cX3_become 12 = .ok (.getfield 21, 3) := by decide +kernel
theorem dX3_become_15 : decode cX3_become 15 = .ok (.aload_n 1, 1) := by decide +kernel
theorem dX3_become_16 : decode cX3_become 16 = .ok (.getfield 21, 3) := by decide +kernel
theorem dX3_become_19 : decode cX3_become 19 = .ok (.invokevirtual 47, 3) := by decide +kernel
theorem dX3_become_22 : decode cX3_become 22 = .ok (.aload_n 0, 1) := by decide +kernel
theorem dX3_become_23 : decode cX3_become 23 = .ok (.getfield 25, 3) := by decide +kernel
theorem dX3_become_26 : decode cX3_become 26 = .ok (.aload_n 1, 1) := by decide +kernel
theorem dX3_become_27 : decode cX3_become 27 = .ok (.getfield 25, 3) := by decide +kernel
theorem dX3_become_30 : decode cX3_become 30 = .ok (.invokevirtual 47, 3) := by decide +kernel
theorem dX3_become_33 : decode cX3_become 33 = .ok (.aload_n 0, 1) := by decide +kernel
theorem dX3_become_34 : decode cX3_become 34 = .ok (.aload_n 1, 1) := by decide +kernel
theorem dX3_become_35 : decode cX3_become 35 = .ok (.getfield 50, 3) := by decide +kernel
theorem dX3_become_38 : decode cX3_become 38 = .ok (.putfield 50, 3) := by decide +kernel
theorem dX3_become_41 : decode cX3_become 41 = .ok (.iconst 0, 1) := by decide +kernel
theorem dX3_become_42 : decode cX3_become 42 = .ok (.istore_n 2, 1) := by decide +kernel
theorem dX3_become_43 : decode cX3_become 43 = .ok (.iload_n 2, 1) := by decide +kernel
theorem dX3_become_44 : decode cX3_become 44 = .ok (.bipush 12, 2) := by decide +kernel
theorem dX3_become_46 : decode cX3_become 46 = .ok (.if_icmp .ge 24, 3) := by decide +kernel
theorem dX3_become_49 : decode cX3_become 49 = .ok (.aload_n 0, 1) := by decide +kernel
theorem dX3_become_50 : decode cX3_become 50 = .ok (.getfield 30, 3) := by decide +kernel
theorem dX3_become_53 : decode cX3_become 53 = .ok (.iload_n 2, 1) := by decide +kernel
theorem dX3_become_54 : decode cX3_become 54 = .ok (.aaload, 1) := by decide +kernel
theorem dX3_become_55 : decode cX3_become 55 = .ok (.aload_n 1, 1) := by decide +kernel
theorem dX3_become_56 : decode cX3_become 56 = .ok (.getfield 30, 3) := by decide +kernel
theorem dX3_become_59 : decode cX3_become 59 = .ok (.iload_n 2, 1) := by decide +kernel
theorem dX3_become_60 : decode cX3_become 60 = .ok (.aaload, 1) := by decide +kernel
theorem dX3_become_61 : decode cX3_become 61 = .ok (.invokevirtual 53, 3) := by decide +kernel
theorem dX3_become_64 : decode cX3_become 64 = .ok (.iinc 2 1, 3) := by decide +kernel
theorem dX3_become_67 : decode cX3_become 67 = .ok (.goto (-24), 3) := by decide +kernel
theorem dX3_become_70 : decode cX3_become 70 = .ok (.aload_n 0, 1) := by decide +kernel
theorem dX3_become_71 : decode cX3_become 71 = .ok (.aload_n 1, 1) := by decide +kernel
theorem dX3_become_72 : decode cX3_become 72 = .ok (.getfield 56, 3) := by decide +kernel
theorem dX3_become_75 : decode cX3_become 75 = .ok (.putfield 56, 3) := by decide +kernel
theorem dX3_become_78 : decode cX3_become 78 = .ok (.aload_n 0, 1) := by decide +kernel
theorem dX3_become_79 : decode cX3_become 79 = .ok (.aload_n 1, 1) := by decide +kernel
theorem dX3_become_80 : decode cX3_become 80 = .ok (.getfield 59, 3) := by decide +kernel
theorem dX3_become_83 : decode cX3_become 83 = .ok (.putfield 59, 3) := by decide +kernel
theorem dX3_become_86 : decode cX3_become 86 = .ok (.aload_n 0, 1) := by decide +kernel
theorem dX3_become_87 : decode cX3_become 87 = .ok (.aload_n 1, 1) := by decide +kernel
theorem dX3_become_88 : decode cX3_become 88 = .ok (.getfield 34, 3) := by decide +kernel
theorem dX3_become_91 : decode cX3_become 91 = .ok (.putfield 34, 3) := by decide +kernel
theorem dX3_become_94 : decode cX3_become 94 = .ok (.aload_n 0, 1) := by decide +kernel
theorem dX3_become_95 : decode cX3_become 95 = .ok (.aload_n 1, 1) := by decide +kernel
theorem dX3_become_96 : decode cX3_become 96 = .ok (.getfield 62, 3) := by decide +kernel
theorem dX3_become_99 : decode cX3_become 99 = .ok (.putfield 62, 3) := by decide +kernel
theorem dX3_become_102 : decode cX3_become 102 = .ok (.aload_n 0, 1) := by decide +kernel
theorem dX3_become_103 : decode cX3_become 103 = .ok (.aload_n 1, 1) := by decide +kernel
theorem dX3_become_104 : decode cX3_become 104 = .ok (.getfield 65, 3) := by decide +kernel
theorem dX3_become_107 : decode cX3_become 107 = .ok (.putfield 65, 3) := by decide +kernel
theorem dX3_become_110 : decode cX3_become 110 = .ok (.aload_n 0, 1) := by decide +kernel
theorem dX3_become_111 : decode cX3_become 111 = .ok (.aload_n 1, 1) := by decide +kernel
theorem dX3_become_112 : decode cX3_become 112 = .ok (.getfield 68, 3) := by decide +kernel
theorem dX3_become_115 : decode cX3_become 115 = .ok (.putfield 68, 3) := by decide +kernel
theorem dX3_become_118 : decode cX3_become 118 = .ok (.aload_n 0, 1) := by decide +kernel
theorem dX3_become_119 : decode cX3_become 119 = .ok (.aload_n 1, 1) := by decide +kernel
theorem dX3_become_120 : decode cX3_become 120 = .ok (.getfield 71, 3) := by decide +kernel
theorem dX3_become_123 : decode cX3_become 123 = .ok (.putfield 71, 3) := by decide +kernel
theorem dX3_become_126 : decode cX3_become 126 = .ok (.return_, 1) := by decide +kernel
theorem dX3_perform_0 : decode cX3_perform 0 = .ok (.iload_n 1, 1) := by decide +kernel
theorem dX3_perform_1 : decode cX3_perform 1 = .ok (.tableswitch 194 97 117 #[173, 194, 126, 188, 194, 139, 166, 119, 194, 194, 194, 194, 159, 194, 153, 99, 109, 194, 133, 194, 146], 99) := by decide +kernel
theorem dX3_perform_100 : decode cX3_perform 100 = .ok (.aload_n 0, 1) := by decide +kernel
theorem dX3_perform_101 : decode cX3_perform 101 = .ok (.getfield 12, 3) := by decide +kernel
theorem dX3_perform_104 : decode cX3_perform 104 = .ok (.iload_n 2, 1) := by decide +kernel
theorem dX3_perform_105 : decode cX3_perform 105 = .ok (.iload_n 3, 1) := by decide +kernel
theorem dX3_perform_106 : decode cX3_perform 106 = .ok (.invokevirtual 74, 3) := by decide +kernel
theorem dX3_perform_109 : decode cX3_perform 109 = .ok (.ireturn, 1) := by decide +kernel
theorem dX3_perform_110 : decode cX3_perform 110 = .ok (.aload_n 0, 1) := by decide +kernel
theorem dX3_perform_111 : decode cX3_perform 111 = .ok (.getfield 12, 3) := by decide +kernel
theorem dX3_perform_114 : decode cX3_perform 114 = .ok (.iload_n 2, 1) := by decide +kernel
theorem dX3_perform_115 : decode cX3_perform 115 = .ok (.iload_n 3, 1) := by decide +kernel
theorem dX3_perform_116 : decode cX3_perform 116 = .ok (.invokevirtual 78, 3) := by decide +kernel
theorem dX3_perform_119 : decode cX3_perform 119 = .ok (.ireturn, 1) := by decide +kernel
theorem dX3_perform_120 : decode cX3_perform 120 = .ok (.aload_n 0, 1) := by decide +kernel
theorem dX3_perform_121 : decode cX3_perform 121 = .ok (.iload_n 2, 1) := by decide +kernel
theorem dX3_perform_122 : decode cX3_perform 122 = .ok (.iload_n 3, 1) := by decide +kernel
theorem dX3_perform_123 : decode cX3_perform 123 = .ok (.invokevirtual 81, 3) := by decide +kernel
theorem dX3_perform_126 : decode cX3_perform 126 = .ok (.ireturn, 1) := by decide +kernel
theorem dX3_perform_127 : decode cX3_perform 127 = .ok (.aload_n 0, 1) := by decide +kernel
theorem dX3_perform_128 : decode cX3_perform 128 = .ok (.iload_n 2, 1) := by decide +kernel
theorem dX3_perform_129 : decode cX3_perform 129 = .ok (.iload_n 3, 1) := by decide +kernel
theorem dX3_perform_130 : decode cX3_perform 130 = .ok (.invokevirtual 84, 3) := by decide +kernel
theorem dX3_perform_133 : decode cX3_perform 133 = .ok (.ireturn, 1) := by decide +kernel
theorem dX3_perform_134 : decode cX3_perform 134 = .ok (.aload_n 0, 1) := by decide +kernel
theorem dX3_perform_135 : decode cX3_perform 135 = .ok (.iload_n 2, 1) := by decide +kernel
theorem dX3_perform_136 : decode cX3_perform 136 = .ok (.invokevirtual 87, 3) := by decide +kernel
theorem dX3_perform_139 : decode cX3_perform 139 = .ok (.ireturn, 1) := by decide +kernel
theorem dX3_perform_140 : decode cX3_perform 140 = .ok (.aload_n 0, 1) := by decide +kernel
theorem dX3_perform_141 : decode cX3_perform 141 = .ok (.iload_n 2, 1) := by decide +kernel
theorem dX3_perform_142 : decode cX3_perform 142 = .ok (.iconst 1, 1) := by decide +kernel
theorem dX3_perform_143 : decode cX3_perform 143 = .ok (.invokevirtual 91, 3) := by decide +kernel
theorem dX3_perform_146 : decode cX3_perform 146 = .ok (.ireturn, 1) := by decide +kernel
theorem dX3_perform_147 : decode cX3_perform 147 = .ok (.aload_n 0, 1) := by decide +kernel
theorem dX3_perform_148 : decode cX3_perform 148 = .ok (.iload_n 2, 1) := by decide +kernel
theorem dX3_perform_149 : decode cX3_perform 149 = .ok (.iconst 0, 1) := by decide +kernel
theorem dX3_perform_150 : decode cX3_perform 150 = .ok (.invokevirtual 91, 3) := by decide +kernel
theorem dX3_perform_153 : decode cX3_perform 153 = .ok (.ireturn, 1) := by decide +kernel
theorem dX3_perform_154 : decode cX3_perform 154 = .ok (.aload_n 0, 1) := by decide +kernel
theorem dX3_perform_155 : decode cX3_perform 155 = .ok (.iload_n 2, 1) := by decide +kernel
theorem dX3_perform_156 : decode cX3_perform 156 = .ok (.invokevirtual 95, 3) := by decide +kernel
theorem dX3_perform_159 : decode cX3_perform 159 = .ok (.ireturn, 1) := by decide +kernel
theorem dX3_perform_160 : decode cX3_perform 160 = .ok (.aload_n 0, 1) := by decide +kernel
theorem dX3_perform_161 : decode cX3_perform 161 = .ok (.iload_n 2, 1) := by decide +kernel
theorem dX3_perform_162 : decode cX3_perform 162 = .ok (.iload_n 3, 1) := by decide +kernel
theorem dX3_perform_163 : decode cX3_perform 163 = .ok (.invokevirtual 98, 3) := by decide +kernel
theorem dX3_perform_166 : decode cX3_perform 166 = .ok (.ireturn, 1) := by decide +kernel
theorem dX3_perform_167 : decode cX3_perform 167 = .ok (.aload_n 0, 1) := by decide +kernel
theorem dX3_perform_168 : decode cX3_perform 168 = .ok (.iload_n 2, 1) := by decide +kernel
theorem dX3_perform_169 : decode cX3_perform 169 = .ok (.iload_n 3, 1) := by decide +kernel
theorem dX3_perform_170 : decode cX3_perform 170 = .ok (.invokevirtual 101, 3) := by decide +kernel
theorem dX3_perform_173 : decode cX3_perform 173 = .ok (.ireturn, 1) := by decide +kernel
theorem dX3_perform_174 : decode cX3_perform 174 = .ok (.aload_n 0, 1) := by decide +kernel
theorem dX3_perform_175 : decode cX3_perform 175 = .ok (.dup, 1) := by decide +kernel
theorem dX3_perform_176 : decode cX3_perform 176 = .ok (.getfield 34, 3) := by decide +kernel
theorem dX3_perform_179 : decode cX3_perform 179 = .ok (.iload_n 2, 1) := by decide +kernel
theorem dX3_perform_180 : decode cX3_perform 180 = .ok (.iadd, 1) := by decide +kernel
theorem dX3_perform_181 : decode cX3_perform 181 = .ok (.putfield 34, 3) := by decide +kernel
theorem dX3_perform_184 : decode cX3_perform 184 = .ok (.aload_n 0, 1) := by decide +kernel
theorem dX3_perform_185 : decode cX3_perform 185 = .ok (.getfield 34, 3) := by decide +kernel
theorem dX3_perform_188 : decode cX3_perform 188 = .ok (.ireturn, 1) := by decide +kernel
theorem dX3_perform_189 : decode cX3_perform 189 = .ok (.aload_n 0, 1) := by decide +kernel
theorem dX3_perform_190 : decode cX3_perform 190 = .ok (.iload_n 2, 1) := by decide +kernel
theorem dX3_perform_191 : decode cX3_perform 191 = .ok (.invokevirtual 104, 3) := by decide +kernel
theorem dX3_perform_194 : decode cX3_perform 194 = .ok (.ireturn, 1) := by decide +kernel
theorem dX3_perform_195 : decode cX3_perform 195 = .ok (.iconst (-1), 1) := by decide +kernel
theorem dX3_perform_196 : decode cX3_perform 196 = .ok (.ireturn, 1) := by decide +kernel
theorem dX3_changeShade_0 : decode cX3_changeShade 0 = .ok (.aload_n 0, 1) := by decide +kernel
theorem dX3_changeShade_1 : decode cX3_changeShade 1 = .ok (.getfield 21, 3) := by decide +kernel
theorem dX3_changeShade_4 : decode cX3_changeShade 4 = .ok (.iload_n 1, 1) := by decide +kernel
theorem dX3_changeShade_5 : decode cX3_changeShade 5 = .ok (.invokevirtual 107, 3) := by decide +kernel
theorem dX3_changeShade_8 : decode cX3_changeShade 8 = .ok (.istore_n 3, 1) := by decide +kernel
theorem dX3_changeShade_9 : decode cX3_changeShade 9 = .ok (.aload_n 0, 1) := by decide +kernel
theorem dX3_changeShade_10 : decode cX3_changeShade 10 = .ok (.getfield 21, 3) := by decide +kernel
theorem dX3_changeShade_13 : decode cX3_changeShade 13 = .ok (.iload_n 1, 1) := by decide +kernel
theorem dX3_changeShade_14 : decode cX3_changeShade 14 = .ok (.iload_n 2, 1) := by decide +kernel
theorem dX3_changeShade_15 : decode cX3_changeShade 15 = .ok (.invokevirtual 38, 3) := by decide +kernel
theorem dX3_changeShade_18 : decode cX3_changeShade 18 = .ok (.iload_n 3, 1) := by decide +kernel
theorem dX3_changeShade_19 : decode cX3_changeShade 19 = .ok (.ireturn, 1) := by decide +kernel
theorem dX3_settle_0 : decode cX3_settle 0 = .ok (.aload_n 0, 1) := by decide +kernel
theorem dX3_settle_1 : decode cX3_settle 1 = .ok (.getfield 50, 3) := by decide +kernel
theorem dX3_settle_4 : decode cX3_settle 4 = .ok (.bipush 12, 2) := by decide +kernel
theorem dX3_settle_6 : decode cX3_settle 6 = .ok (.if_icmp .lt 5, 3) := by decide +kernel
theorem dX3_settle_9 : decode cX3_settle 9 = .ok (.iconst (-1), 1) := by decide +kernel
theorem dX3_settle_10 : decode cX3_settle 10 = .ok (.ireturn, 1) := by decide +kernel
theorem dX3_settle_11 : decode cX3_settle 11 = .ok (.aload_n 0, 1) := by decide +kernel
theorem dX3_settle_12 : decode cX3_settle 12 = .ok (.getfield 30, 3) := by decide +kernel
theorem dX3_settle_15 : decode cX3_settle 15 = .ok (.aload_n 0, 1) := by decide +kernel
theorem dX3_settle_16 : decode cX3_settle 16 = .ok (.getfield 50, 3) := by decide +kernel
theorem dX3_settle_19 : decode cX3_settle 19 = .ok (.aaload, 1) := by decide +kernel
theorem dX3_settle_20 : decode cX3_settle 20 = .ok (.astore_n 3, 1) := by decide +kernel
theorem dX3_settle_21 : decode cX3_settle 21 = .ok (.aload_n 3, 1) := by decide +kernel
theorem dX3_settle_22 : decode cX3_settle 22 = .ok (.aload_n 0, 1) := by decide +kernel
theorem dX3_settle_23 : decode cX3_settle 23 = .ok (.getfield 56, 3) := by decide +kernel
theorem dX3_settle_26 : decode cX3_settle 26 = .ok (.putfield 110, 3) := by decide +kernel
theorem dX3_settle_29 : decode cX3_settle 29 = .ok (.aload_n 3, 1) := by decide +kernel
theorem dX3_settle_30 : decode cX3_settle 30 = .ok (.iload_n 1, 1) := by decide +kernel
theorem dX3_settle_31 : decode cX3_settle 31 = .ok (.putfield 113, 3) := by decide +kernel
theorem dX3_settle_34 : decode cX3_settle 34 = .ok (.aload_n 3, 1) := by decide +kernel
theorem dX3_settle_35 : decode cX3_settle 35 = .ok (.iload_n 2, 1) := by decide +kernel
theorem dX3_settle_36 : decode cX3_settle 36 = .ok (.putfield 116, 3) := by decide +kernel
theorem dX3_settle_39 : decode cX3_settle 39 = .ok (.aload_n 3, 1) := by decide +kernel
theorem dX3_settle_40 : decode cX3_settle 40 = .ok (.aload_n 0, 1) := by decide +kernel
theorem dX3_settle_41 : decode cX3_settle 41 = .ok (.getfield 59, 3) := by decide +kernel
theorem dX3_settle_44 : decode cX3_settle 44 = .ok (.putfield 119, 3) := by decide +kernel
theorem dX3_settle_47 : decode cX3_settle 47 = .ok (.aload_n 3, 1) := by decide +kernel
theorem dX3_settle_48 : decode cX3_settle 48 = .ok (.iconst 0, 1) := by decide +kernel
theorem dX3_settle_49 : decode cX3_settle 49 = .ok (.putfield 122, 3) := by decide +kernel
theorem dX3_settle_52 : decode cX3_settle 52 = .ok (.aload_n 0, 1) := by decide +kernel
theorem dX3_settle_53 : decode cX3_settle 53 = .ok (.dup, 1) := by decide +kernel
theorem dX3_settle_54 : decode cX3_settle 54 = .ok (.getfield 50, 3) := by decide +kernel
theorem dX3_settle_57 : decode cX3_settle 57 = .ok (.iconst 1, 1) := by decide +kernel
theorem dX3_settle_58 : decode cX3_settle 58 = .ok (.iadd, 1) := by decide +kernel
theorem dX3_settle_59 : decode cX3_settle 59 = .ok (.putfield 50, 3) := by decide +kernel
theorem dX3_settle_62 : decode cX3_settle 62 = .ok (.aload_n 0, 1) := by decide +kernel
theorem dX3_settle_63 : decode cX3_settle 63 = .ok (.dup, 1) := by decide +kernel
theorem dX3_settle_64 : decode cX3_settle 64 = .ok (.getfield 56, 3) := by decide +kernel
theorem dX3_settle_67 : decode cX3_settle 67 = .ok (.iconst 1, 1) := by decide +kernel
theorem dX3_settle_68 : decode cX3_settle 68 = .ok (.iadd, 1) := by decide +kernel
theorem dX3_settle_69 : decode cX3_settle 69 = .ok (.putfield 56, 3) := by decide +kernel
theorem dX3_settle_72 : decode cX3_settle 72 = .ok (.aload_n 0, 1) := by decide +kernel
theorem dX3_settle_73 : decode cX3_settle 73 = .ok (.getfield 25, 3) := by decide +kernel
theorem dX3_settle_76 : decode cX3_settle 76 = .ok (.iload_n 1, 1) := by decide +kernel
theorem dX3_settle_77 : decode cX3_settle 77 = .ok (.iconst 1, 1) := by decide +kernel
theorem dX3_settle_78 : decode cX3_settle 78 = .ok (.invokevirtual 126, 3) := by decide +kernel
theorem dX3_settle_81 : decode cX3_settle 81 = .ok (.aload_n 3, 1) := by decide +kernel
theorem dX3_settle_82 : decode cX3_settle 82 = .ok (.getfield 110, 3) := by decide +kernel
theorem dX3_settle_85 : decode cX3_settle 85 = .ok (.ireturn, 1) := by decide +kernel
theorem dX3_scrap_0 : decode cX3_scrap 0 = .ok (.aload_n 0, 1) := by decide +kernel
theorem dX3_scrap_1 : decode cX3_scrap 1 = .ok (.iload_n 1, 1) := by decide +kernel
theorem dX3_scrap_2 : decode cX3_scrap 2 = .ok (.invokevirtual 129, 3) := by decide +kernel
theorem dX3_scrap_5 : decode cX3_scrap 5 = .ok (.istore_n 2, 1) := by decide +kernel
theorem dX3_scrap_6 : decode cX3_scrap 6 = .ok (.iload_n 2, 1) := by decide +kernel
theorem dX3_scrap_7 : decode cX3_scrap 7 = .ok (.iconst (-1), 1) := by decide +kernel
theorem dX3_scrap_8 : decode cX3_scrap 8 = .ok (.if_icmp .ne 5, 3) := by decide +kernel
theorem dX3_scrap_11 : decode cX3_scrap 11 = .ok (.iconst (-1), 1) := by decide +kernel
theorem dX3_scrap_12 : decode cX3_scrap 12 = .ok (.ireturn, 1) := by decide +kernel
theorem dX3_scrap_13 : decode cX3_scrap 13 = .ok (.aload_n 0, 1) := by decide +kernel
theorem dX3_scrap_14 : decode cX3_scrap 14 = .ok (.getfield 30, 3) := by decide +kernel
theorem dX3_scrap_17 : decode cX3_scrap 17 = .ok (.iload_n 2, 1) := by decide +kernel
theorem dX3_scrap_18 : decode cX3_scrap 18 = .ok (.aaload, 1) := by decide +kernel
theorem dX3_scrap_19 : decode cX3_scrap 19 = .ok (.astore_n 3, 1) := by decide +kernel
theorem dX3_scrap_20 : decode cX3_scrap 20 = .ok (.aload_n 0, 1) := by decide +kernel
theorem dX3_scrap_21 : decode cX3_scrap 21 = .ok (.getfield 25, 3) := by decide +kernel
theorem dX3_scrap_24 : decode cX3_scrap 24 = .ok (.aload_n 3, 1) := by decide +kernel
theorem dX3_scrap_25 : decode cX3_scrap 25 = .ok (.getfield 113, 3) := by decide +kernel
theorem dX3_scrap_28 : decode cX3_scrap 28 = .ok (.iconst (-1), 1) := by decide +kernel
theorem dX3_scrap_29 : decode cX3_scrap 29 = .ok (.invokevirtual 126, 3) := by decide +kernel
theorem dX3_scrap_32 : decode cX3_scrap 32 = .ok (.aload_n 0, 1) := by decide +kernel
theorem dX3_scrap_33 : decode cX3_scrap 33 = .ok (.iload_n 2, 1) := by decide +kernel
theorem dX3_scrap_34 : decode cX3_scrap 34 = .ok (.invokevirtual 132, 3) := by decide +kernel
theorem dX3_scrap_37 : decode cX3_scrap 37 = .ok (.aload_n 0, 1) := by decide +kernel
theorem dX3_scrap_38 : decode cX3_scrap 38 = .ok (.dup, 1) := by decide +kernel
theorem dX3_scrap_39 : decode cX3_scrap 39 = .ok (.getfield 50, 3) := by decide +kernel
theorem dX3_scrap_42 : decode cX3_scrap 42 = .ok (.iconst 1, 1) := by decide +kernel
theorem dX3_scrap_43 : decode cX3_scrap 43 = .ok (.isub, 1) := by decide +kernel
theorem dX3_scrap_44 : decode cX3_scrap 44 = .ok (.putfield 50, 3) := by decide +kernel
theorem dX3_scrap_47 : decode cX3_scrap 47 = .ok (.aload_n 0, 1) := by decide +kernel
theorem dX3_scrap_48 : decode cX3_scrap 48 = .ok (.dup, 1) := by decide +kernel
theorem dX3_scrap_49 : decode cX3_scrap 49 = .ok (.getfield 65, 3) := by decide +kernel
theorem dX3_scrap_52 : decode cX3_scrap 52 = .ok (.iconst 1, 1) := by decide +kernel
theorem dX3_scrap_53 : decode cX3_scrap 53 = .ok (.iadd, 1) := by decide +kernel
theorem dX3_scrap_54 : decode cX3_scrap 54 = .ok (.putfield 65, 3) := by decide +kernel
theorem dX3_scrap_57 : decode cX3_scrap 57 = .ok (.aload_n 3, 1) := by decide +kernel
theorem dX3_scrap_58 : decode cX3_scrap 58 = .ok (.getfield 116, 3) := by decide +kernel
theorem dX3_scrap_61 : decode cX3_scrap 61 = .ok (.ireturn, 1) := by decide +kernel
theorem dX3_setFolded_0 : decode cX3_setFolded 0 = .ok (.aload_n 0, 1) := by decide +kernel
theorem dX3_setFolded_1 : decode cX3_setFolded 1 = .ok (.iload_n 1, 1) := by decide +kernel
theorem dX3_setFolded_2 : decode cX3_setFolded 2 = .ok (.invokevirtual 136, 3) := by decide +kernel
theorem dX3_setFolded_5 : decode cX3_setFolded 5 = .ok (.astore_n 3, 1) := by decide +kernel
theorem dX3_setFolded_6 : decode cX3_setFolded 6 = .ok (.aload_n 3, 1) := by decide +kernel
theorem dX3_setFolded_7 : decode cX3_setFolded 7 = .ok (.ifnull 8, 3) := by decide +kernel
theorem dX3_setFolded_10 : decode cX3_setFolded 10 = .ok (.aload_n 3, 1) := by decide +kernel
theorem dX3_setFolded_11 : decode cX3_setFolded 11 = .ok (.iload_n 2, 1) := by decide +kernel
theorem dX3_setFolded_12 : decode cX3_setFolded 12 = .ok (.putfield 122, 3) := by decide +kernel
theorem dX3_setFolded_15 : decode cX3_setFolded 15 = .ok (.aload_n 0, 1) := by decide +kernel
theorem dX3_setFolded_16 : decode cX3_setFolded 16 = .ok (.invokevirtual 140, 3) := by decide +kernel
theorem dX3_setFolded_19 : decode cX3_setFolded 19 = .ok (.ireturn, 1) := by decide +kernel
theorem dX3_useOil_0 : decode cX3_useOil 0 = .ok (.aload_n 0, 1) := by decide +kernel
theorem dX3_useOil_1 : decode cX3_useOil 1 = .ok (.iload_n 1, 1) := by decide +kernel
theorem dX3_useOil_2 : decode cX3_useOil 2 = .ok (.invokevirtual 136, 3) := by decide +kernel
theorem dX3_useOil_5 : decode cX3_useOil 5 = .ok (.astore_n 2, 1) := by decide +kernel
theorem dX3_useOil_6 : decode cX3_useOil 6 = .ok (.aload_n 2, 1) := by decide +kernel
theorem dX3_useOil_7 : decode cX3_useOil 7 = .ok (.ifnonnull 5, 3) := by decide +kernel
theorem dX3_useOil_10 : decode cX3_useOil 10 = .ok (.iconst (-1), 1) := by decide +kernel
theorem dX3_useOil_11 : decode cX3_useOil 11 = .ok (.ireturn, 1) := by decide +kernel
theorem dX3_useOil_12 : decode cX3_useOil 12 = .ok (.aload_n 2, 1) := by decide +kernel
theorem dX3_useOil_13 : decode cX3_useOil 13 = .ok (.iconst 0, 1) := by decide +kernel
theorem dX3_useOil_14 : decode cX3_useOil 14 = .ok (.aload_n 2, 1) := by decide +kernel
theorem dX3_useOil_15 : decode cX3_useOil 15 = .ok (.getfield 116, 3) := by decide +kernel
theorem dX3_useOil_18 : decode cX3_useOil 18 = .ok (.iconst 3, 1) := by decide +kernel
theorem dX3_useOil_19 : decode cX3_useOil 19 = .ok (.isub, 1) := by decide +kernel
theorem dX3_useOil_20 : decode cX3_useOil 20 = .ok (.invokestatic 144, 3) := by decide +kernel
theorem dX3_useOil_23 : decode cX3_useOil 23 = .ok (.putfield 116, 3) := by decide +kernel
theorem dX3_useOil_26 : decode cX3_useOil 26 = .ok (.aload_n 0, 1) := by decide +kernel
theorem dX3_useOil_27 : decode cX3_useOil 27 = .ok (.dup, 1) := by decide +kernel
theorem dX3_useOil_28 : decode cX3_useOil 28 = .ok (.getfield 34, 3) := by decide +kernel
theorem dX3_useOil_31 : decode cX3_useOil 31 = .ok (.iconst 1, 1) := by decide +kernel
theorem dX3_useOil_32 : decode cX3_useOil 32 = .ok (.isub, 1) := by decide +kernel
theorem dX3_useOil_33 : decode cX3_useOil 33 = .ok (.putfield 34, 3) := by decide +kernel
theorem dX3_useOil_36 : decode cX3_useOil 36 = .ok (.aload_n 2, 1) := by decide +kernel
theorem dX3_useOil_37 : decode cX3_useOil 37 = .ok (.getfield 116, 3) := by decide +kernel
theorem dX3_useOil_40 : decode cX3_useOil 40 = .ok (.ireturn, 1) := by decide +kernel
theorem dX3_move_0 : decode cX3_move 0 = .ok (.aload_n 0, 1) := by decide +kernel
theorem dX3_move_1 : decode cX3_move 1 = .ok (.iload_n 1, 1) := by decide +kernel
theorem dX3_move_2 : decode cX3_move 2 = .ok (.invokevirtual 129, 3) := by decide +kernel
theorem dX3_move_5 : decode cX3_move 5 = .ok (.istore_n 3, 1) := by decide +kernel
theorem dX3_move_6 : decode cX3_move 6 = .ok (.iload_n 3, 1) := by decide +kernel
theorem dX3_move_7 : decode cX3_move 7 = .ok (.iconst (-1), 1) := by decide +kernel
theorem dX3_move_8 : decode cX3_move 8 = .ok (.if_icmp .ne 5, 3) := by decide +kernel
theorem dX3_move_11 : decode cX3_move 11 = .ok (.iconst (-1), 1) := by decide +kernel
theorem dX3_move_12 : decode cX3_move 12 = .ok (.ireturn, 1) := by decide +kernel
theorem dX3_move_13 : decode cX3_move 13 = .ok (.aload_n 0, 1) := by decide +kernel
theorem dX3_move_14 : decode cX3_move 14 = .ok (.getfield 30, 3) := by decide +kernel
theorem dX3_move_17 : decode cX3_move 17 = .ok (.iload_n 3, 1) := by decide +kernel
theorem dX3_move_18 : decode cX3_move 18 = .ok (.aaload, 1) := by decide +kernel
theorem dX3_move_19 : decode cX3_move 19 = .ok (.getfield 113, 3) := by decide +kernel
theorem dX3_move_22 : decode cX3_move 22 = .ok (.istore 4, 2) := by decide +kernel
theorem dX3_move_24 : decode cX3_move 24 = .ok (.aload_n 0, 1) := by decide +kernel
theorem dX3_move_25 : decode cX3_move 25 = .ok (.iload_n 3, 1) := by decide +kernel
theorem dX3_move_26 : decode cX3_move 26 = .ok (.iload_n 2, 1) := by decide +kernel
theorem dX3_move_27 : decode cX3_move 27 = .ok (.invokevirtual 149, 3) := by decide +kernel
theorem dX3_move_30 : decode cX3_move 30 = .ok (.iload 4, 2) := by decide +kernel
theorem dX3_move_32 : decode cX3_move 32 = .ok (.ireturn, 1) := by decide +kernel
theorem dX3_moveHerd_0 : decode cX3_moveHerd 0 = .ok (.aload_n 0, 1) := by decide +kernel
theorem dX3_moveHerd_1 : decode cX3_moveHerd 1 = .ok (.iload_n 1, 1) := by decide +kernel
theorem dX3_moveHerd_2 : decode cX3_moveHerd 2 = .ok (.invokevirtual 152, 3) := by decide +kernel
theorem dX3_moveHerd_5 : decode cX3_moveHerd 5 = .ok (.iconst 5, 1) := by decide +kernel
theorem dX3_moveHerd_6 : decode cX3_moveHerd 6 = .ok (.aload_n 0, 1) := by decide +kernel
theorem dX3_moveHerd_7 : decode cX3_moveHerd 7 = .ok (.getfield 25, 3) := by decide +kernel
theorem dX3_moveHerd_10 : decode cX3_moveHerd 10 = .ok (.iload_n 2, 1) := by decide +kernel
theorem dX3_moveHerd_11 : decode cX3_moveHerd 11 = .ok (.invokevirtual 107, 3) := by decide +kernel
theorem dX3_moveHerd_14 : decode cX3_moveHerd 14 = .ok (.isub, 1) := by decide +kernel
theorem dX3_moveHerd_15 : decode cX3_moveHerd 15 = .ok (.invokestatic 155, 3) := by decide +kernel
theorem dX3_moveHerd_18 : decode cX3_moveHerd 18 = .ok (.istore_n 3, 1) := by decide +kernel
theorem dX3_moveHerd_19 : decode cX3_moveHerd 19 = .ok (.iconst 0, 1) := by decide +kernel
theorem dX3_moveHerd_20 : decode cX3_moveHerd 20 = .ok (.istore 4, 2) := by decide +kernel
theorem dX3_moveHerd_22 : decode cX3_moveHerd 22 = .ok (.iload 4, 2) := by decide +kernel
theorem dX3_moveHerd_24 : decode cX3_moveHerd 24 = .ok (.iload_n 3, 1) := by decide +kernel
theorem dX3_moveHerd_25 : decode cX3_moveHerd 25 = .ok (.if_icmp .ge 19, 3) := by decide +kernel
theorem dX3_moveHerd_28 : decode cX3_moveHerd 28 = .ok (.aload_n 0, 1) := by decide +kernel
theorem dX3_moveHerd_29 : decode cX3_moveHerd 29 = .ok (.aload_n 0, 1) := by decide +kernel
theorem dX3_moveHerd_30 : decode cX3_moveHerd 30 = .ok (.iload_n 1, 1) := by decide +kernel
theorem dX3_moveHerd_31 : decode cX3_moveHerd 31 = .ok (.invokevirtual 158, 3) := by decide +kernel
theorem dX3_moveHerd_34 : decode cX3_moveHerd 34 = .ok (.iload_n 2, 1) := by decide +kernel
theorem dX3_moveHerd_35 : decode cX3_moveHerd 35 = .ok (.invokevirtual 149, 3) := by decide +kernel
theorem dX3_moveHerd_38 : decode cX3_moveHerd 38 = .ok (.iinc 4 1, 3) := by decide +kernel
theorem dX3_moveHerd_41 : decode cX3_moveHerd 41 = .ok (.goto (-19), 3) := by decide +kernel
theorem dX3_moveHerd_44 : decode cX3_moveHerd 44 = .ok (.iload_n 3, 1) := by decide +kernel
theorem dX3_moveHerd_45 : decode cX3_moveHerd 45 = .ok (.ireturn, 1) := by decide +kernel
theorem dX3_firstGrazingOn_0 : decode cX3_firstGrazingOn 0 = .ok (.iconst 0, 1) := by decide +kernel
theorem dX3_firstGrazingOn_1 : decode cX3_firstGrazingOn 1 = .ok (.istore_n 2, 1) := by decide +kernel
theorem dX3_firstGrazingOn_2 : decode cX3_firstGrazingOn 2 = .ok (.iload_n 2, 1) := by decide +kernel
theorem dX3_firstGrazingOn_3 : decode cX3_firstGrazingOn 3 = .ok (.aload_n 0, 1) := by decide +kernel
theorem dX3_firstGrazingOn_4 : decode cX3_firstGrazingOn 4 = .ok (.getfield 50, 3) := by decide +kernel
theorem dX3_firstGrazingOn_7 : decode cX3_firstGrazingOn 7 = .ok (.if_icmp .ge 24, 3) := by decide +kernel
theorem dX3_firstGrazingOn_10 : decode cX3_firstGrazingOn 10 = .ok (.aload_n 0, 1) := by decide +kernel
theorem dX3_firstGrazingOn_11 : decode cX3_firstGrazingOn 11 = .ok (.getfield 30, 3) := by decide +kernel
theorem dX3_firstGrazingOn_14 : decode cX3_firstGrazingOn 14 = .ok (.iload_n 2, 1) := by decide +kernel
theorem dX3_firstGrazingOn_15 : decode cX3_firstGrazingOn 15 = .ok (.aaload, 1) := by decide +kernel
theorem dX3_firstGrazingOn_16 : decode cX3_firstGrazingOn 16 = .ok (.iload_n 1, 1) := by decide +kernel
theorem dX3_firstGrazingOn_17 : decode cX3_firstGrazingOn 17 = .ok (.invokevirtual 161, 3) := by decide +kernel
theorem dX3_firstGrazingOn_20 : decode cX3_firstGrazingOn 20 = .ok (.ifCond .eq 5, 3) := by decide +kernel
theorem dX3_firstGrazingOn_23 : decode cX3_firstGrazingOn 23 = .ok (.iload_n 2, 1) := by decide +kernel
theorem dX3_firstGrazingOn_24 : decode cX3_firstGrazingOn 24 = .ok (.ireturn, 1) := by decide +kernel
theorem dX3_firstGrazingOn_25 : decode cX3_firstGrazingOn 25 = .ok (.iinc 2 1, 3) := by decide +kernel
theorem dX3_firstGrazingOn_28 : decode cX3_firstGrazingOn 28 = .ok (.goto (-26), 3) := by decide +kernel
theorem dX3_firstGrazingOn_31 : decode cX3_firstGrazingOn 31 = .ok (.iconst (-1), 1) := by decide +kernel
theorem dX3_firstGrazingOn_32 : decode cX3_firstGrazingOn 32 = .ok (.ireturn, 1) := by decide +kernel
theorem dX3_moveAt_0 : decode cX3_moveAt 0 = .ok (.iload_n 1, 1) := by decide +kernel
theorem dX3_moveAt_1 : decode cX3_moveAt 1 = .ok (.ifCond .lt 11, 3) := by decide +kernel
theorem dX3_moveAt_4 : decode cX3_moveAt 4 = .ok (.iload_n 1, 1) := by decide +kernel
theorem dX3_moveAt_5 : decode cX3_moveAt 5 = .ok (.aload_n 0, 1) := by decide +kernel
theorem dX3_moveAt_6 : decode cX3_moveAt 6 = .ok (.getfield 50, 3) := by decide +kernel
theorem dX3_moveAt_9 : decode cX3_moveAt 9 = .ok (.if_icmp .lt 4, 3) := by decide +kernel
theorem dX3_moveAt_12 : decode cX3_moveAt 12 = .ok (.return_, 1) := by decide +kernel
theorem dX3_moveAt_13 : decode cX3_moveAt 13 = .ok (.aload_n 0, 1) := by decide +kernel
theorem dX3_moveAt_14 : decode cX3_moveAt 14 = .ok (.getfield 30, 3) := by decide +kernel
theorem dX3_moveAt_17 : decode cX3_moveAt 17 = .ok (.iload_n 1, 1) := by decide +kernel
theorem dX3_moveAt_18 : decode cX3_moveAt 18 = .ok (.aaload, 1) := by decide +kernel
theorem dX3_moveAt_19 : decode cX3_moveAt 19 = .ok (.astore_n 3, 1) := by decide +kernel
theorem dX3_moveAt_20 : decode cX3_moveAt 20 = .ok (.aload_n 0, 1) := by decide +kernel
theorem dX3_moveAt_21 : decode cX3_moveAt 21 = .ok (.getfield 25, 3) := by decide +kernel
theorem dX3_moveAt_24 : decode cX3_moveAt 24 = .ok (.aload_n 3, 1) := by decide +kernel
theorem dX3_moveAt_25 : decode cX3_moveAt 25 = .ok (.getfield 113, 3) := by decide +kernel
theorem dX3_moveAt_28 : decode cX3_moveAt 28 = .ok (.iconst (-1), 1) := by decide +kernel
theorem dX3_moveAt_29 : decode cX3_moveAt 29 = .ok (.invokevirtual 126, 3) := by decide +kernel
theorem dX3_moveAt_32 : decode cX3_moveAt 32 = .ok (.aload_n 3, 1) := by decide +kernel
theorem dX3_moveAt_33 : decode cX3_moveAt 33 = .ok (.iload_n 2, 1) := by decide +kernel
theorem dX3_moveAt_34 : decode cX3_moveAt 34 = .ok (.putfield 113, 3) := by decide +kernel
theorem dX3_moveAt_37 : decode cX3_moveAt 37 = .ok (.aload_n 0, 1) := by decide +kernel
theorem dX3_moveAt_38 : decode cX3_moveAt 38 = .ok (.getfield 25, 3) := by decide +kernel
theorem dX3_moveAt_41 : decode cX3_moveAt 41 = .ok (.iload_n 2, 1) := by decide +kernel
theorem dX3_moveAt_42 : decode cX3_moveAt 42 = .ok (.iconst 1, 1) := by decide +kernel
theorem dX3_moveAt_43 : decode cX3_moveAt 43 = .ok (.invokevirtual 126, 3) := by decide +kernel
theorem dX3_moveAt_46 : decode cX3_moveAt 46 = .ok (.aload_n 0, 1) := by decide +kernel
theorem dX3_moveAt_47 : decode cX3_moveAt 47 = .ok (.iload_n 1, 1) := by decide +kernel
theorem dX3_moveAt_48 : decode cX3_moveAt 48 = .ok (.invokevirtual 132, 3) := by decide +kernel
theorem dX3_moveAt_51 : decode cX3_moveAt 51 = .ok (.aload_n 0, 1) := by decide +kernel
theorem dX3_moveAt_52 : decode cX3_moveAt 52 = .ok (.dup, 1) := by decide +kernel
theorem dX3_moveAt_53 : decode cX3_moveAt 53 = .ok (.getfield 68, 3) := by decide +kernel
theorem dX3_moveAt_56 : decode cX3_moveAt 56 = .ok (.iconst 1, 1) := by decide +kernel
theorem dX3_moveAt_57 : decode cX3_moveAt 57 = .ok (.iadd, 1) := by decide +kernel
theorem dX3_moveAt_58 : decode cX3_moveAt 58 = .ok (.putfield 68, 3) := by decide +kernel
theorem dX3_moveAt_61 : decode cX3_moveAt 61 = .ok (.return_, 1) := by decide +kernel
theorem dX3_shiftToEnd_0 : decode cX3_shiftToEnd 0 = .ok (.iload_n 1, 1) := by decide +kernel
theorem dX3_shiftToEnd_1 : decode cX3_shiftToEnd 1 = .ok (.ifCond .lt 11, 3) := by decide +kernel
theorem dX3_shiftToEnd_4 : decode cX3_shiftToEnd 4 = .ok (.iload_n 1, 1) := by decide +kernel
theorem dX3_shiftToEnd_5 : decode cX3_shiftToEnd 5 = .ok (.aload_n 0, 1) := by decide +kernel
theorem dX3_shiftToEnd_6 : decode cX3_shiftToEnd 6 = .ok (.getfield 50, 3) := by decide +kernel
theorem dX3_shiftToEnd_9 : decode cX3_shiftToEnd 9 = .ok (.if_icmp .lt 4, 3) := by decide +kernel
theorem dX3_shiftToEnd_12 : decode cX3_shiftToEnd 12 = .ok (.return_, 1) := by decide +kernel
theorem dX3_shiftToEnd_13 : decode cX3_shiftToEnd 13 = .ok (.aload_n 0, 1) := by decide +kernel
theorem dX3_shiftToEnd_14 : decode cX3_shiftToEnd 14 = .ok (.getfield 30, 3) := by decide +kernel
theorem dX3_shiftToEnd_17 : decode cX3_shiftToEnd 17 = .ok (.iload_n 1, 1) := by decide +kernel
theorem dX3_shiftToEnd_18 : decode cX3_shiftToEnd 18 = .ok (.aaload, 1) := by decide +kernel
theorem dX3_shiftToEnd_19 : decode cX3_shiftToEnd 19 = .ok (.astore_n 2, 1) := by decide +kernel
theorem dX3_shiftToEnd_20 : decode cX3_shiftToEnd 20 = .ok (.iload_n 1, 1) := by decide +kernel
theorem dX3_shiftToEnd_21 : decode cX3_shiftToEnd 21 = .ok (.iconst 1, 1) := by decide +kernel
theorem dX3_shiftToEnd_22 : decode cX3_shiftToEnd 22 = .ok (.iadd, 1) := by decide +kernel
theorem dX3_shiftToEnd_23 : decode cX3_shiftToEnd 23 = .ok (.istore_n 3, 1) := by decide +kernel
theorem dX3_shiftToEnd_24 : decode cX3_shiftToEnd 24 = .ok (.iload_n 3, 1) := by decide +kernel
theorem dX3_shiftToEnd_25 : decode cX3_shiftToEnd 25 = .ok (.aload_n 0, 1) := by decide +kernel
theorem dX3_shiftToEnd_26 : decode cX3_shiftToEnd 26 = .ok (.getfield 50, 3) := by decide +kernel
theorem dX3_shiftToEnd_29 : decode cX3_shiftToEnd 29 = .ok (.if_icmp .ge 23, 3) := by decide +kernel
theorem dX3_shiftToEnd_32 : decode cX3_shiftToEnd 32 = .ok (.aload_n 0, 1) := by decide +kernel
theorem dX3_shiftToEnd_33 : decode cX3_shiftToEnd 33 = .ok (.getfield 30, 3) := by decide +kernel
theorem dX3_shiftToEnd_36 : decode cX3_shiftToEnd 36 = .ok (.iload_n 3, 1) := by decide +kernel
theorem dX3_shiftToEnd_37 : decode cX3_shiftToEnd 37 = .ok (.iconst 1, 1) := by decide +kernel
theorem dX3_shiftToEnd_38 : decode cX3_shiftToEnd 38 = .ok (.isub, 1) := by decide +kernel
theorem dX3_shiftToEnd_39 : decode cX3_shiftToEnd 39 = .ok (.aload_n 0, 1) := by decide +kernel
theorem dX3_shiftToEnd_40 : decode cX3_shiftToEnd 40 = .ok (.getfield 30, 3) := by decide +kernel
theorem dX3_shiftToEnd_43 : decode cX3_shiftToEnd 43 = .ok (.iload_n 3, 1) := by decide +kernel
theorem dX3_shiftToEnd_44 : decode cX3_shiftToEnd 44 = .ok (.aaload, 1) := by decide +kernel
theorem dX3_shiftToEnd_45 : decode cX3_shiftToEnd 45 = .ok (.aastore, 1) := by decide +kernel
theorem dX3_shiftToEnd_46 : decode cX3_shiftToEnd 46 = .ok (.iinc 3 1, 3) := by decide +kernel
theorem dX3_shiftToEnd_49 : decode cX3_shiftToEnd 49 = .ok (.goto (-25), 3) := by decide +kernel
theorem dX3_shiftToEnd_52 : decode cX3_shiftToEnd 52 = .ok (.aload_n 0, 1) := by decide +kernel
theorem dX3_shiftToEnd_53 : decode cX3_shiftToEnd 53 = .ok (.getfield 30, 3) := by decide +kernel
theorem dX3_shiftToEnd_56 : decode cX3_shiftToEnd 56 = .ok (.aload_n 0, 1) := by decide +kernel
theorem dX3_shiftToEnd_57 : decode cX3_shiftToEnd 57 = .ok (.getfield 50, 3) := by decide +kernel
theorem dX3_shiftToEnd_60 : decode cX3_shiftToEnd 60 = .ok (.iconst 1, 1) := by decide +kernel
theorem dX3_shiftToEnd_61 : decode cX3_shiftToEnd 61 = .ok (.isub, 1) := by decide +kernel
theorem dX3_shiftToEnd_62 : decode cX3_shiftToEnd 62 = .ok (.aload_n 2, 1) := by decide +kernel
theorem dX3_shiftToEnd_63 : decode cX3_shiftToEnd 63 = .ok (.aastore, 1) := by decide +kernel
theorem dX3_shiftToEnd_64 : decode cX3_shiftToEnd 64 = .ok (.return_, 1) := by decide +kernel
theorem dX3_pass_0 : decode cX3_pass 0 = .ok (.aload_n 0, 1) := by decide +kernel
theorem dX3_pass_1 : decode cX3_pass 1 = .ok (.getfield 62, 3) := by decide +kernel
theorem dX3_pass_4 : decode cX3_pass 4 = .ok (.istore_n 2, 1) := by decide +kernel
theorem dX3_pass_5 : decode cX3_pass 5 = .ok (.iconst 0, 1) := by decide +kernel
theorem dX3_pass_6 : decode cX3_pass 6 = .ok (.istore_n 3, 1) := by decide +kernel
theorem dX3_pass_7 : decode cX3_pass 7 = .ok (.iload_n 3, 1) := by decide +kernel
theorem dX3_pass_8 : decode cX3_pass 8 = .ok (.iload_n 1, 1) := by decide +kernel
theorem dX3_pass_9 : decode cX3_pass 9 = .ok (.if_icmp .ge 13, 3) := by decide +kernel
theorem dX3_pass_12 : decode cX3_pass 12 = .ok (.aload_n 0, 1) := by decide +kernel
theorem dX3_pass_13 : decode cX3_pass 13 = .ok (.invokevirtual 165, 3) := by decide +kernel
theorem dX3_pass_16 : decode cX3_pass 16 = .ok (.iinc 3 1, 3) := by decide +kernel
theorem dX3_pass_19 : decode cX3_pass 19 = .ok (.goto (-12), 3) := by decide +kernel
theorem dX3_pass_22 : decode cX3_pass 22 = .ok (.aload_n 0, 1) := by decide +kernel
theorem dX3_pass_23 : decode cX3_pass 23 = .ok (.getfield 62, 3) := by decide +kernel
theorem dX3_pass_26 : decode cX3_pass 26 = .ok (.iload_n 2, 1) := by decide +kernel
theorem dX3_pass_27 : decode cX3_pass 27 = .ok (.isub, 1) := by decide +kernel
theorem dX3_pass_28 : decode cX3_pass 28 = .ok (.ireturn, 1) := by decide +kernel
theorem dX3_passOneDay_0 : decode cX3_passOneDay 0 = .ok (.aload_n 0, 1) := by decide +kernel
theorem dX3_passOneDay_1 : decode cX3_passOneDay 1 = .ok (.invokevirtual 168, 3) := by decide +kernel
theorem dX3_passOneDay_4 : decode cX3_passOneDay 4 = .ok (.istore_n 1, 1) := by decide +kernel
theorem dX3_passOneDay_5 : decode cX3_passOneDay 5 = .ok (.iconst 0, 1) := by decide +kernel
theorem dX3_passOneDay_6 : decode cX3_passOneDay 6 = .ok (.istore_n 2, 1) := by decide +kernel
theorem dX3_passOneDay_7 : decode cX3_passOneDay 7 = .ok (.iload_n 2, 1) := by decide +kernel
theorem dX3_passOneDay_8 : decode cX3_passOneDay 8 = .ok (.bipush 6, 2) := by decide +kernel
theorem dX3_passOneDay_10 : decode cX3_passOneDay 10 = .ok (.if_icmp .ge 15, 3) := by decide +kernel
theorem dX3_passOneDay_13 : decode cX3_passOneDay 13 = .ok (.aload_n 0, 1) := by decide +kernel
theorem dX3_passOneDay_14 : decode cX3_passOneDay 14 = .ok (.iload_n 2, 1) := by decide +kernel
theorem dX3_passOneDay_15 : decode cX3_passOneDay 15 = .ok (.iload_n 1, 1) := by decide +kernel
theorem dX3_passOneDay_16 : decode cX3_passOneDay 16 = .ok (.invokevirtual 171, 3) := by decide +kernel
theorem dX3_passOneDay_19 : decode cX3_passOneDay 19 = .ok (.iinc 2 1, 3) := by decide +kernel
theorem dX3_passOneDay_22 : decode cX3_passOneDay 22 = .ok (.goto (-15), 3) := by decide +kernel
theorem dX3_passOneDay_25 : decode cX3_passOneDay 25 = .ok (.aload_n 0, 1) := by decide +kernel
theorem dX3_passOneDay_26 : decode cX3_passOneDay 26 = .ok (.invokevirtual 174, 3) := by decide +kernel
theorem dX3_passOneDay_29 : decode cX3_passOneDay 29 = .ok (.aload_n 0, 1) := by decide +kernel
theorem dX3_passOneDay_30 : decode cX3_passOneDay 30 = .ok (.dup, 1) := by decide +kernel
theorem dX3_passOneDay_31 : decode cX3_passOneDay 31 = .ok (.getfield 59, 3) := by decide +kernel
theorem dX3_passOneDay_34 : decode cX3_passOneDay 34 = .ok (.iconst 1, 1) := by decide +kernel
theorem dX3_passOneDay_35 : decode cX3_passOneDay 35 = .ok (.iadd, 1) := by decide +kernel
theorem dX3_passOneDay_36 : decode cX3_passOneDay 36 = .ok (.putfield 59, 3) := by decide +kernel
theorem dX3_passOneDay_39 : decode cX3_passOneDay 39 = .ok (.return_, 1) := by decide +kernel
theorem dX3_graze_0 : decode cX3_graze 0 = .ok (.aload_n 0, 1) := by decide +kernel
theorem dX3_graze_1 : decode cX3_graze 1 = .ok (.getfield 21, 3) := by decide +kernel
theorem dX3_graze_4 : decode cX3_graze 4 = .ok (.iload_n 1, 1) := by decide +kernel
theorem dX3_graze_5 : decode cX3_graze 5 = .ok (.invokevirtual 107, 3) := by decide +kernel
theorem dX3_graze_8 : decode cX3_graze 8 = .ok (.istore_n 3, 1) := by decide +kernel
theorem dX3_graze_9 : decode cX3_graze 9 = .ok (.iconst 0, 1) := by decide +kernel
theorem dX3_graze_10 : decode cX3_graze 10 = .ok (.istore 4, 2) := by decide +kernel
theorem dX3_graze_12 : decode cX3_graze 12 = .ok (.iload 4, 2) := by decide +kernel
theorem dX3_graze_14 : decode cX3_graze 14 = .ok (.aload_n 0, 1) := by decide +kernel
theorem dX3_graze_15 : decode cX3_graze 15 = .ok (.getfield 50, 3) := by decide +kernel
theorem dX3_graze_18 : decode cX3_graze 18 = .ok (.if_icmp .ge 74, 3) := by decide +kernel
theorem dX3_graze_21 : decode cX3_graze 21 = .ok (.aload_n 0, 1) := by decide +kernel
theorem dX3_graze_22 : decode cX3_graze 22 = .ok (.getfield 30, 3) := by decide +kernel
theorem dX3_graze_25 : decode cX3_graze 25 = .ok (.iload 4, 2) := by decide +kernel
theorem dX3_graze_27 : decode cX3_graze 27 = .ok (.aaload, 1) := by decide +kernel
theorem dX3_graze_28 : decode cX3_graze 28 = .ok (.astore 5, 2) := by decide +kernel
theorem dX3_graze_30 : decode cX3_graze 30 = .ok (.aload 5, 2) := by decide +kernel
theorem dX3_graze_32 : decode cX3_graze 32 = .ok (.iload_n 1, 1) := by decide +kernel
theorem dX3_graze_33 : decode cX3_graze 33 = .ok (.invokevirtual 161, 3) := by decide +kernel
theorem dX3_graze_36 : decode cX3_graze 36 = .ok (.ifCond .eq 50, 3) := by decide +kernel
theorem dX3_graze_39 : decode cX3_graze 39 = .ok (.iload_n 3, 1) := by decide +kernel
theorem dX3_graze_40 : decode cX3_graze 40 = .ok (.ifCond .le 19, 3) := by decide +kernel
theorem dX3_graze_43 : decode cX3_graze 43 = .ok (.iinc 3 (-1), 3) := by decide +kernel
theorem dX3_graze_46 : decode cX3_graze 46 = .ok (.aload_n 0, 1) := by decide +kernel
theorem dX3_graze_47 : decode cX3_graze 47 = .ok (.dup, 1) := by decide +kernel
theorem dX3_graze_48 : decode cX3_graze 48 = .ok (.getfield 71, 3) := by decide +kernel
theorem dX3_graze_51 : decode cX3_graze 51 = .ok (.iconst 1, 1) := by decide +kernel
theorem dX3_graze_52 : decode cX3_graze 52 = .ok (.iadd, 1) := by decide +kernel
theorem dX3_graze_53 : decode cX3_graze 53 = .ok (.putfield 71, 3) := by decide +kernel
theorem dX3_graze_56 : decode cX3_graze 56 = .ok (.goto 14, 3) := by decide +kernel
theorem dX3_graze_59 : decode cX3_graze 59 = .ok (.aload 5, 2) := by decide +kernel
theorem dX3_graze_61 : decode cX3_graze 61 = .ok (.dup, 1) := by decide +kernel
theorem dX3_graze_62 : decode cX3_graze 62 = .ok (.getfield 116, 3) := by decide +kernel
theorem dX3_graze_65 : decode cX3_graze 65 = .ok (.iconst 1, 1) := by decide +kernel
theorem dX3_graze_66 : decode cX3_graze 66 = .ok (.iadd, 1) := by decide +kernel
theorem dX3_graze_67 : decode cX3_graze 67 = .ok (.putfield 116, 3) := by decide +kernel
theorem dX3_graze_70 : decode cX3_graze 70 = .ok (.iload_n 2, 1) := by decide +kernel
theorem dX3_graze_71 : decode cX3_graze 71 = .ok (.iconst 3, 1) := by decide +kernel
theorem dX3_graze_72 : decode cX3_graze 72 = .ok (.if_icmp .ne 14, 3) := by decide +kernel
theorem dX3_graze_75 : decode cX3_graze 75 = .ok (.aload 5, 2) := by decide +kernel
theorem dX3_graze_77 : decode cX3_graze 77 = .ok (.dup, 1) := by decide +kernel
theorem dX3_graze_78 : decode cX3_graze 78 = .ok (.getfield 116, 3) := by decide +kernel
theorem dX3_graze_81 : decode cX3_graze 81 = .ok (.iconst 1, 1) := by decide +kernel
theorem dX3_graze_82 : decode cX3_graze 82 = .ok (.iadd, 1) := by decide +kernel
theorem dX3_graze_83 : decode cX3_graze 83 = .ok (.putfield 116, 3) := by decide +kernel
theorem dX3_graze_86 : decode cX3_graze 86 = .ok (.iinc 4 1, 3) := by decide +kernel
theorem dX3_graze_89 : decode cX3_graze 89 = .ok (.goto (-77), 3) := by decide +kernel
theorem dX3_graze_92 : decode cX3_graze 92 = .ok (.aload_n 0, 1) := by decide +kernel
theorem dX3_graze_93 : decode cX3_graze 93 = .ok (.getfield 21, 3) := by decide +kernel
theorem dX3_graze_96 : decode cX3_graze 96 = .ok (.iload_n 1, 1) := by decide +kernel
theorem dX3_graze_97 : decode cX3_graze 97 = .ok (.bipush 20, 2) := by decide +kernel
theorem dX3_graze_99 : decode cX3_graze 99 = .ok (.iload_n 3, 1) := by decide +kernel
theorem dX3_graze_100 : decode cX3_graze 100 = .ok (.iconst 3, 1) := by decide +kernel
theorem dX3_graze_101 : decode cX3_graze 101 = .ok (.iadd, 1) := by decide +kernel
theorem dX3_graze_102 : decode cX3_graze 102 = .ok (.iload_n 2, 1) := by decide +kernel
theorem dX3_graze_103 : decode cX3_graze 103 = .ok (.isub, 1) := by decide +kernel
theorem dX3_graze_104 : decode cX3_graze 104 = .ok (.invokestatic 155, 3) := by decide +kernel
theorem dX3_graze_107 : decode cX3_graze 107 = .ok (.invokevirtual 38, 3) := by decide +kernel
theorem dX3_graze_110 : decode cX3_graze 110 = .ok (.return_, 1) := by decide +kernel
theorem dX3_collapse_0 : decode cX3_collapse 0 = .ok (.iconst 0, 1) := by decide +kernel
theorem dX3_collapse_1 : decode cX3_collapse 1 = .ok (.istore_n 1, 1) := by decide +kernel
theorem dX3_collapse_2 : decode cX3_collapse 2 = .ok (.iconst 0, 1) := by decide +kernel
theorem dX3_collapse_3 : decode cX3_collapse 3 = .ok (.istore_n 2, 1) := by decide +kernel
theorem dX3_collapse_4 : decode cX3_collapse 4 = .ok (.iload_n 2, 1) := by decide +kernel
theorem dX3_collapse_5 : decode cX3_collapse 5 = .ok (.aload_n 0, 1) := by decide +kernel
theorem dX3_collapse_6 : decode cX3_collapse 6 = .ok (.getfield 50, 3) := by decide +kernel
theorem dX3_collapse_9 : decode cX3_collapse 9 = .ok (.if_icmp .ge 72, 3) := by decide +kernel
theorem dX3_collapse_12 : decode cX3_collapse 12 = .ok (.aload_n 0, 1) := by decide +kernel
theorem dX3_collapse_13 : decode cX3_collapse 13 = .ok (.getfield 30, 3) := by decide +kernel
theorem dX3_collapse_16 : decode cX3_collapse 16 = .ok (.iload_n 2, 1) := by decide +kernel
theorem dX3_collapse_17 : decode cX3_collapse 17 = .ok (.aaload, 1) := by decide +kernel
theorem dX3_collapse_18 : decode cX3_collapse 18 = .ok (.astore_n 3, 1) := by decide +kernel
theorem dX3_collapse_19 : decode cX3_collapse 19 = .ok (.aload_n 3, 1) := by decide +kernel
theorem dX3_collapse_20 : decode cX3_collapse 20 = .ok (.getfield 116, 3) := by decide +kernel
theorem dX3_collapse_23 : decode cX3_collapse 23 = .ok (.bipush 9, 2) := by decide +kernel
theorem dX3_collapse_25 : decode cX3_collapse 25 = .ok (.if_icmp .le 28, 3) := by decide +kernel
theorem dX3_collapse_28 : decode cX3_collapse 28 = .ok (.aload_n 0, 1) := by decide +kernel
theorem dX3_collapse_29 : decode cX3_collapse 29 = .ok (.getfield 25, 3) := by decide +kernel
theorem dX3_collapse_32 : decode cX3_collapse 32 = .ok (.aload_n 3, 1) := by decide +kernel
theorem dX3_collapse_33 : decode cX3_collapse 33 = .ok (.getfield 113, 3) := by decide +kernel
theorem dX3_collapse_36 : decode cX3_collapse 36 = .ok (.iconst (-1), 1) := by decide +kernel
theorem dX3_collapse_37 : decode cX3_collapse 37 = .ok (.invokevirtual 126, 3) := by decide +kernel
theorem dX3_collapse_40 : decode cX3_collapse 40 = .ok (.aload_n 0, 1) := by decide +kernel
theorem dX3_collapse_41 : decode cX3_collapse 41 = .ok (.dup, 1) := by decide +kernel
theorem dX3_collapse_42 : decode cX3_collapse 42 = .ok (.getfield 62, 3) := by decide +kernel
theorem dX3_collapse_45 : decode cX3_collapse 45 = .ok (.iconst 1, 1) := by decide +kernel
theorem dX3_collapse_46 : decode cX3_collapse 46 = .ok (.iadd, 1) := by decide +kernel
theorem dX3_collapse_47 : decode cX3_collapse 47 = .ok (.putfield 62, 3) := by decide +kernel
theorem dX3_collapse_50 : decode cX3_collapse 50 = .ok (.goto 25, 3) := by decide +kernel
theorem dX3_collapse_53 : decode cX3_collapse 53 = .ok (.aload_n 0, 1) := by decide +kernel
theorem dX3_collapse_54 : decode cX3_collapse 54 = .ok (.getfield 30, 3) := by decide +kernel
theorem dX3_collapse_57 : decode cX3_collapse 57 = .ok (.iload_n 2, 1) := by decide +kernel
theorem dX3_collapse_58 : decode cX3_collapse 58 = .ok (.aload_n 0, 1) := by decide +kernel
theorem dX3_collapse_59 : decode cX3_collapse 59 = .ok (.getfield 30, 3) := by decide +kernel
theorem dX3_collapse_62 : decode cX3_collapse 62 = .ok (.iload_n 1, 1) := by decide +kernel
theorem dX3_collapse_63 : decode cX3_collapse 63 = .ok (.aaload, 1) := by decide +kernel
theorem dX3_collapse_64 : decode cX3_collapse 64 = .ok (.aastore, 1) := by decide +kernel
theorem dX3_collapse_65 : decode cX3_collapse 65 = .ok (.aload_n 0, 1) := by decide +kernel
theorem dX3_collapse_66 : decode cX3_collapse 66 = .ok (.getfield 30, 3) := by decide +kernel
theorem dX3_collapse_69 : decode cX3_collapse 69 = .ok (.iload_n 1, 1) := by decide +kernel
theorem dX3_collapse_70 : decode cX3_collapse 70 = .ok (.aload_n 3, 1) := by decide +kernel
theorem dX3_collapse_71 : decode cX3_collapse 71 = .ok (.aastore, 1) := by decide +kernel
theorem dX3_collapse_72 : decode cX3_collapse 72 = .ok (.iinc 1 1, 3) := by decide +kernel
theorem dX3_collapse_75 : decode cX3_collapse 75 = .ok (.iinc 2 1, 3) := by decide +kernel
theorem dX3_collapse_78 : decode cX3_collapse 78 = .ok (.goto (-74), 3) := by decide +kernel
theorem dX3_collapse_81 : decode cX3_collapse 81 = .ok (.aload_n 0, 1) := by decide +kernel
theorem dX3_collapse_82 : decode cX3_collapse 82 = .ok (.iload_n 1, 1) := by decide +kernel
theorem dX3_collapse_83 : decode cX3_collapse 83 = .ok (.putfield 50, 3) := by decide +kernel
theorem dX3_collapse_86 : decode cX3_collapse 86 = .ok (.return_, 1) := by decide +kernel
theorem dX3_comingSeason_0 : decode cX3_comingSeason 0 = .ok (.aload_n 0, 1) := by decide +kernel
theorem dX3_comingSeason_1 : decode cX3_comingSeason 1 = .ok (.getfield 59, 3) := by decide +kernel
theorem dX3_comingSeason_4 : decode cX3_comingSeason 4 = .ok (.iconst 5, 1) := by decide +kernel
theorem dX3_comingSeason_5 : decode cX3_comingSeason 5 = .ok (.idiv, 1) := by decide +kernel
theorem dX3_comingSeason_6 : decode cX3_comingSeason 6 = .ok (.iconst 4, 1) := by decide +kernel
theorem dX3_comingSeason_7 : decode cX3_comingSeason 7 = .ok (.irem, 1) := by decide +kernel
theorem dX3_comingSeason_8 : decode cX3_comingSeason 8 = .ok (.ireturn, 1) := by decide +kernel
theorem dX3_indexOf_0 : decode cX3_indexOf 0 = .ok (.iconst 0, 1) := by decide +kernel
theorem dX3_indexOf_1 : decode cX3_indexOf 1 = .ok (.istore_n 2, 1) := by decide +kernel
theorem dX3_indexOf_2 : decode cX3_indexOf 2 = .ok (.iload_n 2, 1) := by decide +kernel
theorem dX3_indexOf_3 : decode cX3_indexOf 3 = .ok (.aload_n 0, 1) := by decide +kernel
theorem dX3_indexOf_4 : decode cX3_indexOf 4 = .ok (.getfield 50, 3) := by decide +kernel
theorem dX3_indexOf_7 : decode cX3_indexOf 7 = .ok (.if_icmp .ge 24, 3) := by decide +kernel
theorem dX3_indexOf_10 : decode cX3_indexOf 10 = .ok (.aload_n 0, 1) := by decide +kernel
theorem dX3_indexOf_11 : decode cX3_indexOf 11 = .ok (.getfield 30, 3) := by decide +kernel
theorem dX3_indexOf_14 : decode cX3_indexOf 14 = .ok (.iload_n 2, 1) := by decide +kernel
theorem dX3_indexOf_15 : decode cX3_indexOf 15 = .ok (.aaload, 1) := by decide +kernel
theorem dX3_indexOf_16 : decode cX3_indexOf 16 = .ok (.getfield 110, 3) := by decide +kernel
theorem dX3_indexOf_19 : decode cX3_indexOf 19 = .ok (.iload_n 1, 1) := by decide +kernel
theorem dX3_indexOf_20 : decode cX3_indexOf 20 = .ok (.if_icmp .ne 5, 3) := by decide +kernel
theorem dX3_indexOf_23 : decode cX3_indexOf 23 = .ok (.iload_n 2, 1) := by decide +kernel
theorem dX3_indexOf_24 : decode cX3_indexOf 24 = .ok (.ireturn, 1) := by decide +kernel
theorem dX3_indexOf_25 : decode cX3_indexOf 25 = .ok (.iinc 2 1, 3) := by decide +kernel
theorem dX3_indexOf_28 : decode cX3_indexOf 28 = .ok (.goto (-26), 3) := by decide +kernel
theorem dX3_indexOf_31 : decode cX3_indexOf 31 = .ok (.iconst (-1), 1) := by decide +kernel
theorem dX3_indexOf_32 : decode cX3_indexOf 32 = .ok (.ireturn, 1) := by decide +kernel
theorem dX3_find_0 : decode cX3_find 0 = .ok (.aload_n 0, 1) := by decide +kernel
theorem dX3_find_1 : decode cX3_find 1 = .ok (.iload_n 1, 1) := by decide +kernel
theorem dX3_find_2 : decode cX3_find 2 = .ok (.invokevirtual 129, 3) := by decide +kernel
theorem dX3_find_5 : decode cX3_find 5 = .ok (.istore_n 2, 1) := by decide +kernel
theorem dX3_find_6 : decode cX3_find 6 = .ok (.iload_n 2, 1) := by decide +kernel
theorem dX3_find_7 : decode cX3_find 7 = .ok (.iconst (-1), 1) := by decide +kernel
theorem dX3_find_8 : decode cX3_find 8 = .ok (.if_icmp .ne 7, 3) := by decide +kernel
theorem dX3_find_11 : decode cX3_find 11 = .ok (.aconst_null, 1) := by decide +kernel
theorem dX3_find_12 : decode cX3_find 12 = .ok (.goto 9, 3) := by decide +kernel
theorem dX3_find_15 : decode cX3_find 15 = .ok (.aload_n 0, 1) := by decide +kernel
theorem dX3_find_16 : decode cX3_find 16 = .ok (.getfield 30, 3) := by decide +kernel
theorem dX3_find_19 : decode cX3_find 19 = .ok (.iload_n 2, 1) := by decide +kernel
theorem dX3_find_20 : decode cX3_find 20 = .ok (.aaload, 1) := by decide +kernel
theorem dX3_find_21 : decode cX3_find 21 = .ok (.areturn, 1) := by decide +kernel
theorem dX3_placeInHerd_0 : decode cX3_placeInHerd 0 = .ok (.iconst 0, 1) := by decide +kernel
theorem dX3_placeInHerd_1 : decode cX3_placeInHerd 1 = .ok (.istore_n 2, 1) := by decide +kernel
theorem dX3_placeInHerd_2 : decode cX3_placeInHerd 2 = .ok (.iconst 0, 1) := by decide +kernel
theorem dX3_placeInHerd_3 : decode cX3_placeInHerd 3 = .ok (.istore_n 3, 1) := by decide +kernel
theorem dX3_placeInHerd_4 : decode cX3_placeInHerd 4 = .ok (.iload_n 3, 1) := by decide +kernel
theorem dX3_placeInHerd_5 : decode cX3_placeInHerd 5 = .ok (.aload_n 0, 1) := by decide +kernel
theorem dX3_placeInHerd_6 : decode cX3_placeInHerd 6 = .ok (.getfield 50, 3) := by decide +kernel
theorem dX3_placeInHerd_9 : decode cX3_placeInHerd 9 = .ok (.if_icmp .ge 38, 3) := by decide +kernel
theorem dX3_placeInHerd_12 : decode cX3_placeInHerd 12 = .ok (.aload_n 0, 1) := by decide +kernel
theorem dX3_placeInHerd_13 : decode cX3_placeInHerd 13 = .ok (.getfield 30, 3) := by decide +kernel
theorem dX3_placeInHerd_16 : decode cX3_placeInHerd 16 = .ok (.iload_n 3, 1) := by decide +kernel
theorem dX3_placeInHerd_17 : decode cX3_placeInHerd 17 = .ok (.aaload, 1) := by decide +kernel
theorem dX3_placeInHerd_18 : decode cX3_placeInHerd 18 = .ok (.aload_n 1, 1) := by decide +kernel
theorem dX3_placeInHerd_19 : decode cX3_placeInHerd 19 = .ok (.if_acmp .eq 28, 3) := by decide +kernel
theorem dX3_placeInHerd_22 : decode cX3_placeInHerd 22 = .ok (.aload_n 0, 1) := by decide +kernel
theorem dX3_placeInHerd_23 : decode cX3_placeInHerd 23 = .ok (.getfield 30, 3) := by decide +kernel
theorem dX3_placeInHerd_26 : decode cX3_placeInHerd 26 = .ok (.iload_n 3, 1) := by decide +kernel
theorem dX3_placeInHerd_27 : decode cX3_placeInHerd 27 = .ok (.aaload, 1) := by decide +kernel
theorem dX3_placeInHerd_28 : decode cX3_placeInHerd 28 = .ok (.getfield 113, 3) := by decide +kernel
theorem dX3_placeInHerd_31 : decode cX3_placeInHerd 31 = .ok (.aload_n 1, 1) := by decide +kernel
theorem dX3_placeInHerd_32 : decode cX3_placeInHerd 32 = .ok (.getfield 113, 3) := by decide +kernel
theorem dX3_placeInHerd_35 : decode cX3_placeInHerd 35 = .ok (.if_icmp .ne 6, 3) := by decide +kernel
theorem dX3_placeInHerd_38 : decode cX3_placeInHerd 38 = .ok (.iinc 2 1, 3) := by decide +kernel
theorem dX3_placeInHerd_41 : decode cX3_placeInHerd 41 = .ok (.iinc 3 1, 3) := by decide +kernel
theorem dX3_placeInHerd_44 : decode cX3_placeInHerd 44 = .ok (.goto (-40), 3) := by decide +kernel
theorem dX3_placeInHerd_47 : decode cX3_placeInHerd 47 = .ok (.iload_n 2, 1) := by decide +kernel
theorem dX3_placeInHerd_48 : decode cX3_placeInHerd 48 = .ok (.ireturn, 1) := by decide +kernel
theorem dX3_findInHerd_0 : decode cX3_findInHerd 0 = .ok (.iconst 0, 1) := by decide +kernel
theorem dX3_findInHerd_1 : decode cX3_findInHerd 1 = .ok (.istore_n 3, 1) := by decide +kernel
theorem dX3_findInHerd_2 : decode cX3_findInHerd 2 = .ok (.iconst 0, 1) := by decide +kernel
theorem dX3_findInHerd_3 : decode cX3_findInHerd 3 = .ok (.istore 4, 2) := by decide +kernel
theorem dX3_findInHerd_5 : decode cX3_findInHerd 5 = .ok (.iload 4, 2) := by decide +kernel
theorem dX3_findInHerd_7 : decode cX3_findInHerd 7 = .ok (.aload_n 0, 1) := by decide +kernel
theorem dX3_findInHerd_8 : decode cX3_findInHerd 8 = .ok (.getfield 50, 3) := by decide +kernel
theorem dX3_findInHerd_11 : decode cX3_findInHerd 11 = .ok (.if_icmp .ge 39, 3) := by decide +kernel
theorem dX3_findInHerd_14 : decode cX3_findInHerd 14 = .ok (.aload_n 0, 1) := by decide +kernel
theorem dX3_findInHerd_15 : decode cX3_findInHerd 15 = .ok (.getfield 30, 3) := by decide +kernel
theorem dX3_findInHerd_18 : decode cX3_findInHerd 18 = .ok (.iload 4, 2) := by decide +kernel
theorem dX3_findInHerd_20 : decode cX3_findInHerd 20 = .ok (.aaload, 1) := by decide +kernel
theorem dX3_findInHerd_21 : decode cX3_findInHerd 21 = .ok (.getfield 113, 3) := by decide +kernel
theorem dX3_findInHerd_24 : decode cX3_findInHerd 24 = .ok (.iload_n 1, 1) := by decide +kernel
theorem dX3_findInHerd_25 : decode cX3_findInHerd 25 = .ok (.if_icmp .ne 19, 3) := by decide +kernel
theorem dX3_findInHerd_28 : decode cX3_findInHerd 28 = .ok (.iload_n 3, 1) := by decide +kernel
theorem dX3_findInHerd_29 : decode cX3_findInHerd 29 = .ok (.iload_n 2, 1) := by decide +kernel
theorem dX3_findInHerd_30 : decode cX3_findInHerd 30 = .ok (.if_icmp .ne 11, 3) := by decide +kernel
theorem dX3_findInHerd_33 : decode cX3_findInHerd 33 = .ok (.aload_n 0, 1) := by decide +kernel
theorem dX3_findInHerd_34 : decode cX3_findInHerd 34 = .ok (.getfield 30, 3) := by decide +kernel
theorem dX3_findInHerd_37 : decode cX3_findInHerd 37 = .ok (.iload 4, 2) := by decide +kernel
theorem dX3_findInHerd_39 : decode cX3_findInHerd 39 = .ok (.aaload, 1) := by decide +kernel
theorem dX3_findInHerd_40 : decode cX3_findInHerd 40 = .ok (.areturn, 1) := by decide +kernel
theorem dX3_findInHerd_41 : decode cX3_findInHerd 41 = .ok (.iinc 3 1, 3) := by decide +kernel
theorem dX3_findInHerd_44 : decode cX3_findInHerd 44 = .ok (.iinc 4 1, 3) := by decide +kernel
theorem dX3_findInHerd_47 : decode cX3_findInHerd 47 = .ok (.goto (-42), 3) := by decide +kernel
theorem dX3_findInHerd_50 : decode cX3_findInHerd 50 = .ok (.aconst_null, 1) := by decide +kernel
theorem dX3_findInHerd_51 : decode cX3_findInHerd 51 = .ok (.areturn, 1) := by decide +kernel
theorem dX3_idInHerd_0 : decode cX3_idInHerd 0 = .ok (.aload_n 0, 1) := by decide +kernel
theorem dX3_idInHerd_1 : decode cX3_idInHerd 1 = .ok (.iload_n 1, 1) := by decide +kernel
theorem dX3_idInHerd_2 : decode cX3_idInHerd 2 = .ok (.iload_n 2, 1) := by decide +kernel
theorem dX3_idInHerd_3 : decode cX3_idInHerd 3 = .ok (.invokevirtual 177, 3) := by decide +kernel
theorem dX3_idInHerd_6 : decode cX3_idInHerd 6 = .ok (.astore_n 3, 1) := by decide +kernel
theorem dX3_idInHerd_7 : decode cX3_idInHerd 7 = .ok (.aload_n 3, 1) := by decide +kernel
theorem dX3_idInHerd_8 : decode cX3_idInHerd 8 = .ok (.ifnonnull 7, 3) := by decide +kernel
theorem dX3_idInHerd_11 : decode cX3_idInHerd 11 = .ok (.iconst (-1), 1) := by decide +kernel
theorem dX3_idInHerd_12 : decode cX3_idInHerd 12 = .ok (.goto 7, 3) := by decide +kernel
theorem dX3_idInHerd_15 : decode cX3_idInHerd 15 = .ok (.aload_n 3, 1) := by decide +kernel
theorem dX3_idInHerd_16 : decode cX3_idInHerd 16 = .ok (.getfield 110, 3) := by decide +kernel
theorem dX3_idInHerd_19 : decode cX3_idInHerd 19 = .ok (.ireturn, 1) := by decide +kernel
theorem dX3_idOfElder_0 : decode cX3_idOfElder 0 = .ok (.aconst_null, 1) := by decide +kernel
theorem dX3_idOfElder_1 : decode cX3_idOfElder 1 = .ok (.astore_n 2, 1) := by decide +kernel
theorem dX3_idOfElder_2 : decode cX3_idOfElder 2 = .ok (.iconst 0, 1) := by decide +kernel
theorem dX3_idOfElder_3 : decode cX3_idOfElder 3 = .ok (.istore_n 3, 1) := by decide +kernel
theorem dX3_idOfElder_4 : decode cX3_idOfElder 4 = .ok (.iload_n 3, 1) := by decide +kernel
theorem dX3_idOfElder_5 : decode cX3_idOfElder 5 = .ok (.aload_n 0, 1) := by decide +kernel
theorem dX3_idOfElder_6 : decode cX3_idOfElder 6 = .ok (.getfield 50, 3) := by decide +kernel
theorem dX3_idOfElder_9 : decode cX3_idOfElder 9 = .ok (.if_icmp .ge 42, 3) := by decide +kernel
theorem dX3_idOfElder_12 : decode cX3_idOfElder 12 = .ok (.aload_n 0, 1) := by decide +kernel
theorem dX3_idOfElder_13 : decode cX3_idOfElder 13 = .ok (.getfield 30, 3) := by decide +kernel
theorem dX3_idOfElder_16 : decode cX3_idOfElder 16 = .ok (.iload_n 3, 1) := by decide +kernel
theorem dX3_idOfElder_17 : decode cX3_idOfElder 17 = .ok (.aaload, 1) := by decide +kernel
theorem dX3_idOfElder_18 : decode cX3_idOfElder 18 = .ok (.astore 4, 2) := by decide +kernel
theorem dX3_idOfElder_20 : decode cX3_idOfElder 20 = .ok (.aload 4, 2) := by decide +kernel
theorem dX3_idOfElder_22 : decode cX3_idOfElder 22 = .ok (.getfield 113, 3) := by decide +kernel
theorem dX3_idOfElder_25 : decode cX3_idOfElder 25 = .ok (.iload_n 1, 1) := by decide +kernel
theorem dX3_idOfElder_26 : decode cX3_idOfElder 26 = .ok (.if_icmp .ne 19, 3) := by decide +kernel
theorem dX3_idOfElder_29 : decode cX3_idOfElder 29 = .ok (.aload_n 2, 1) := by decide +kernel
theorem dX3_idOfElder_30 : decode cX3_idOfElder 30 = .ok (.ifnull 12, 3) := by decide +kernel
theorem dX3_idOfElder_33 : decode cX3_idOfElder 33 = .ok (.aload 4, 2) := by decide +kernel
theorem dX3_idOfElder_35 : decode cX3_idOfElder 35 = .ok (.aload_n 2, 1) := by decide +kernel
theorem dX3_idOfElder_36 : decode cX3_idOfElder 36 = .ok (.invokevirtual 181, 3) := by decide +kernel
theorem dX3_idOfElder_39 : decode cX3_idOfElder 39 = .ok (.ifCond .eq 6, 3) := by decide +kernel
theorem dX3_idOfElder_42 : decode cX3_idOfElder 42 = .ok (.aload 4, 2) := by decide +kernel
theorem dX3_idOfElder_44 : decode cX3_idOfElder 44 = .ok (.astore_n 2, 1) := by decide +kernel
theorem dX3_idOfElder_45 : decode cX3_idOfElder 45 = .ok (.iinc 3 1, 3) := by decide +kernel
theorem dX3_idOfElder_48 : decode cX3_idOfElder 48 = .ok (.goto (-44), 3) := by decide +kernel
theorem dX3_idOfElder_51 : decode cX3_idOfElder 51 = .ok (.aload_n 2, 1) := by decide +kernel
theorem dX3_idOfElder_52 : decode cX3_idOfElder 52 = .ok (.ifnonnull 7, 3) := by decide +kernel
theorem dX3_idOfElder_55 : decode cX3_idOfElder 55 = .ok (.iconst (-1), 1) := by decide +kernel
theorem dX3_idOfElder_56 : decode cX3_idOfElder 56 = .ok (.goto 7, 3) := by decide +kernel
theorem dX3_idOfElder_59 : decode cX3_idOfElder 59 = .ok (.aload_n 2, 1) := by decide +kernel
theorem dX3_idOfElder_60 : decode cX3_idOfElder 60 = .ok (.getfield 110, 3) := by decide +kernel
theorem dX3_idOfElder_63 : decode cX3_idOfElder 63 = .ok (.ireturn, 1) := by decide +kernel
theorem dX3_countChairsOn_0 : decode cX3_countChairsOn 0 = .ok (.iconst 0, 1) := by decide +kernel
theorem dX3_countChairsOn_1 : decode cX3_countChairsOn 1 = .ok (.istore_n 2, 1) := by decide +kernel
theorem dX3_countChairsOn_2 : decode cX3_countChairsOn 2 = .ok (.iconst 0, 1) := by decide +kernel
theorem dX3_countChairsOn_3 : decode cX3_countChairsOn 3 = .ok (.istore_n 3, 1) := by decide +kernel
theorem dX3_countChairsOn_4 : decode cX3_countChairsOn 4 = .ok (.iload_n 3, 1) := by decide +kernel
theorem dX3_countChairsOn_5 : decode cX3_countChairsOn 5 = .ok (.aload_n 0, 1) := by decide +kernel
theorem dX3_countChairsOn_6 : decode cX3_countChairsOn 6 = .ok (.getfield 50, 3) := by decide +kernel
theorem dX3_countChairsOn_9 : decode cX3_countChairsOn 9 = .ok (.if_icmp .ge 25, 3) := by decide +kernel
theorem dX3_countChairsOn_12 : decode cX3_countChairsOn 12 = .ok (.aload_n 0, 1) := by decide +kernel
theorem dX3_countChairsOn_13 : decode cX3_countChairsOn 13 = .ok (.getfield 30, 3) := by decide +kernel
theorem dX3_countChairsOn_16 : decode cX3_countChairsOn 16 = .ok (.iload_n 3, 1) := by decide +kernel
theorem dX3_countChairsOn_17 : decode cX3_countChairsOn 17 = .ok (.aaload, 1) := by decide +kernel
theorem dX3_countChairsOn_18 : decode cX3_countChairsOn 18 = .ok (.getfield 113, 3) := by decide +kernel
theorem dX3_countChairsOn_21 : decode cX3_countChairsOn 21 = .ok (.iload_n 1, 1) := by decide +kernel
theorem dX3_countChairsOn_22 : decode cX3_countChairsOn 22 = .ok (.if_icmp .ne 6, 3) := by decide +kernel
theorem dX3_countChairsOn_25 : decode cX3_countChairsOn 25 = .ok (.iinc 2 1, 3) := by decide +kernel
theorem dX3_countChairsOn_28 : decode cX3_countChairsOn 28 = .ok (.iinc 3 1, 3) := by decide +kernel
theorem dX3_countChairsOn_31 : decode cX3_countChairsOn 31 = .ok (.goto (-27), 3) := by decide +kernel
theorem dX3_countChairsOn_34 : decode cX3_countChairsOn 34 = .ok (.iload_n 2, 1) := by decide +kernel
theorem dX3_countChairsOn_35 : decode cX3_countChairsOn 35 = .ok (.ireturn, 1) := by decide +kernel
theorem dX3_countGrazingOn_0 : decode cX3_countGrazingOn 0 = .ok (.iconst 0, 1) := by decide +kernel
theorem dX3_countGrazingOn_1 : decode cX3_countGrazingOn 1 = .ok (.istore_n 2, 1) := by decide +kernel
theorem dX3_countGrazingOn_2 : decode cX3_countGrazingOn 2 = .ok (.iconst 0, 1) := by decide +kernel
theorem dX3_countGrazingOn_3 : decode cX3_countGrazingOn 3 = .ok (.istore_n 3, 1) := by decide +kernel
theorem dX3_countGrazingOn_4 : decode cX3_countGrazingOn 4 = .ok (.iload_n 3, 1) := by decide +kernel
theorem dX3_countGrazingOn_5 : decode cX3_countGrazingOn 5 = .ok (.aload_n 0, 1) := by decide +kernel
theorem dX3_countGrazingOn_6 : decode cX3_countGrazingOn 6 = .ok (.getfield 50, 3) := by decide +kernel
theorem dX3_countGrazingOn_9 : decode cX3_countGrazingOn 9 = .ok (.if_icmp .ge 25, 3) := by decide +kernel
theorem dX3_countGrazingOn_12 : decode cX3_countGrazingOn 12 = .ok (.aload_n 0, 1) := by decide +kernel
theorem dX3_countGrazingOn_13 : decode cX3_countGrazingOn 13 = .ok (.getfield 30, 3) := by decide +kernel
theorem dX3_countGrazingOn_16 : decode cX3_countGrazingOn 16 = .ok (.iload_n 3, 1) := by decide +kernel
theorem dX3_countGrazingOn_17 : decode cX3_countGrazingOn 17 = .ok (.aaload, 1) := by decide +kernel
theorem dX3_countGrazingOn_18 : decode cX3_countGrazingOn 18 = .ok (.iload_n 1, 1) := by decide +kernel
theorem dX3_countGrazingOn_19 : decode cX3_countGrazingOn 19 = .ok (.invokevirtual 161, 3) := by decide +kernel
theorem dX3_countGrazingOn_22 : decode cX3_countGrazingOn 22 = .ok (.ifCond .eq 6, 3) := by decide +kernel
theorem dX3_countGrazingOn_25 : decode cX3_countGrazingOn 25 = .ok (.iinc 2 1, 3) := by decide +kernel
theorem dX3_countGrazingOn_28 : decode cX3_countGrazingOn 28 = .ok (.iinc 3 1, 3) := by decide +kernel
theorem dX3_countGrazingOn_31 : decode cX3_countGrazingOn 31 = .ok (.goto (-27), 3) := by decide +kernel
theorem dX3_countGrazingOn_34 : decode cX3_countGrazingOn 34 = .ok (.iload_n 2, 1) := by decide +kernel
theorem dX3_countGrazingOn_35 : decode cX3_countGrazingOn 35 = .ok (.ireturn, 1) := by decide +kernel
theorem dX3_countFolded_0 : decode cX3_countFolded 0 = .ok (.iconst 0, 1) := by decide +kernel
theorem dX3_countFolded_1 : decode cX3_countFolded 1 = .ok (.istore_n 1, 1) := by decide +kernel
theorem dX3_countFolded_2 : decode cX3_countFolded 2 = .ok (.iconst 0, 1) := by decide +kernel
theorem dX3_countFolded_3 : decode cX3_countFolded 3 = .ok (.istore_n 2, 1) := by decide +kernel
theorem dX3_countFolded_4 : decode cX3_countFolded 4 = .ok (.iload_n 2, 1) := by decide +kernel
theorem dX3_countFolded_5 : decode cX3_countFolded 5 = .ok (.aload_n 0, 1) := by decide +kernel
theorem dX3_countFolded_6 : decode cX3_countFolded 6 = .ok (.getfield 50, 3) := by decide +kernel
theorem dX3_countFolded_9 : decode cX3_countFolded 9 = .ok (.if_icmp .ge 24, 3) := by decide +kernel
theorem dX3_countFolded_12 : decode cX3_countFolded 12 = .ok (.aload_n 0, 1) := by decide +kernel
theorem dX3_countFolded_13 : decode cX3_countFolded 13 = .ok (.getfield 30, 3) := by decide +kernel
theorem dX3_countFolded_16 : decode cX3_countFolded 16 = .ok (.iload_n 2, 1) := by decide +kernel
theorem dX3_countFolded_17 : decode cX3_countFolded 17 = .ok (.aaload, 1) := by decide +kernel
theorem dX3_countFolded_18 : decode cX3_countFolded 18 = .ok (.getfield 122, 3) := by decide +kernel
theorem dX3_countFolded_21 : decode cX3_countFolded 21 = .ok (.ifCond .eq 6, 3) := by decide +kernel
theorem dX3_countFolded_24 : decode cX3_countFolded 24 = .ok (.iinc 1 1, 3) := by decide +kernel
theorem dX3_countFolded_27 : decode cX3_countFolded 27 = .ok (.iinc 2 1, 3) := by decide +kernel
theorem dX3_countFolded_30 : decode cX3_countFolded 30 = .ok (.goto (-26), 3) := by decide +kernel
theorem dX3_countFolded_33 : decode cX3_countFolded 33 = .ok (.iload_n 1, 1) := by decide +kernel
theorem dX3_countFolded_34 : decode cX3_countFolded 34 = .ok (.ireturn, 1) := by decide +kernel
theorem dX3_sumOfRust_0 : decode cX3_sumOfRust 0 = .ok (.iconst 0, 1) := by decide +kernel
theorem dX3_sumOfRust_1 : decode cX3_sumOfRust 1 = .ok (.istore_n 1, 1) := by decide +kernel
theorem dX3_sumOfRust_2 : decode cX3_sumOfRust 2 = .ok (.iconst 0, 1) := by decide +kernel
theorem dX3_sumOfRust_3 : decode cX3_sumOfRust 3 = .ok (.istore_n 2, 1) := by decide +kernel
theorem dX3_sumOfRust_4 : decode cX3_sumOfRust 4 = .ok (.iload_n 2, 1) := by decide +kernel
theorem dX3_sumOfRust_5 : decode cX3_sumOfRust 5 = .ok (.aload_n 0, 1) := by decide +kernel
theorem dX3_sumOfRust_6 : decode cX3_sumOfRust 6 = .ok (.getfield 50, 3) := by decide +kernel
theorem dX3_sumOfRust_9 : decode cX3_sumOfRust 9 = .ok (.if_icmp .ge 21, 3) := by decide +kernel
theorem dX3_sumOfRust_12 : decode cX3_sumOfRust 12 = .ok (.iload_n 1, 1) := by decide +kernel
theorem dX3_sumOfRust_13 : decode cX3_sumOfRust 13 = .ok (.aload_n 0, 1) := by decide +kernel
theorem dX3_sumOfRust_14 : decode cX3_sumOfRust 14 = .ok (.getfield 30, 3) := by decide +kernel
theorem dX3_sumOfRust_17 : decode cX3_sumOfRust 17 = .ok (.iload_n 2, 1) := by decide +kernel
theorem dX3_sumOfRust_18 : decode cX3_sumOfRust 18 = .ok (.aaload, 1) := by decide +kernel
theorem dX3_sumOfRust_19 : decode cX3_sumOfRust 19 = .ok (.getfield 116, 3) := by decide +kernel
theorem dX3_sumOfRust_22 : decode cX3_sumOfRust 22 = .ok (.iadd, 1) := by decide +kernel
theorem dX3_sumOfRust_23 : decode cX3_sumOfRust 23 = .ok (.istore_n 1, 1) := by decide +kernel
theorem dX3_sumOfRust_24 : decode cX3_sumOfRust 24 = .ok (.iinc 2 1, 3) := by decide +kernel
theorem dX3_sumOfRust_27 : decode cX3_sumOfRust 27 = .ok (.goto (-23), 3) := by decide +kernel
theorem dX3_sumOfRust_30 : decode cX3_sumOfRust 30 = .ok (.iload_n 1, 1) := by decide +kernel
theorem dX3_sumOfRust_31 : decode cX3_sumOfRust 31 = .ok (.ireturn, 1) := by decide +kernel
theorem dX3_idAtRank_0 : decode cX3_idAtRank 0 = .ok (.iconst 0, 1) := by decide +kernel
theorem dX3_idAtRank_1 : decode cX3_idAtRank 1 = .ok (.istore_n 2, 1) := by decide +kernel
theorem dX3_idAtRank_2 : decode cX3_idAtRank 2 = .ok (.iload_n 2, 1) := by decide +kernel
theorem dX3_idAtRank_3 : decode cX3_idAtRank 3 = .ok (.aload_n 0, 1) := by decide +kernel
theorem dX3_idAtRank_4 : decode cX3_idAtRank 4 = .ok (.getfield 50, 3) := by decide +kernel
theorem dX3_idAtRank_7 : decode cX3_idAtRank 7 = .ok (.if_icmp .ge 33, 3) := by decide +kernel
theorem dX3_idAtRank_10 : decode cX3_idAtRank 10 = .ok (.aload_n 0, 1) := by decide +kernel
theorem dX3_idAtRank_11 : decode cX3_idAtRank 11 = .ok (.aload_n 0, 1) := by decide +kernel
theorem dX3_idAtRank_12 : decode cX3_idAtRank 12 = .ok (.getfield 30, 3) := by decide +kernel
theorem dX3_idAtRank_15 : decode cX3_idAtRank 15 = .ok (.iload_n 2, 1) := by decide +kernel
theorem dX3_idAtRank_16 : decode cX3_idAtRank 16 = .ok (.aaload, 1) := by decide +kernel
theorem dX3_idAtRank_17 : decode cX3_idAtRank 17 = .ok (.invokevirtual 185, 3) := by decide +kernel
theorem dX3_idAtRank_20 : decode cX3_idAtRank 20 = .ok (.iload_n 1, 1) := by decide +kernel
theorem dX3_idAtRank_21 : decode cX3_idAtRank 21 = .ok (.if_icmp .ne 13, 3) := by decide +kernel
theorem dX3_idAtRank_24 : decode cX3_idAtRank 24 = .ok (.aload_n 0, 1) := by decide +kernel
theorem dX3_idAtRank_25 : decode cX3_idAtRank 25 = .ok (.getfield 30, 3) := by decide +kernel
theorem dX3_idAtRank_28 : decode cX3_idAtRank 28 = .ok (.iload_n 2, 1) := by decide +kernel
theorem dX3_idAtRank_29 : decode cX3_idAtRank 29 = .ok (.aaload, 1) := by decide +kernel
theorem dX3_idAtRank_30 : decode cX3_idAtRank 30 = .ok (.getfield 110, 3) := by decide +kernel
theorem dX3_idAtRank_33 : decode cX3_idAtRank 33 = .ok (.ireturn, 1) := by decide +kernel
theorem dX3_idAtRank_34 : decode cX3_idAtRank 34 = .ok (.iinc 2 1, 3) := by decide +kernel
theorem dX3_idAtRank_37 : decode cX3_idAtRank 37 = .ok (.goto (-35), 3) := by decide +kernel
theorem dX3_idAtRank_40 : decode cX3_idAtRank 40 = .ok (.iconst (-1), 1) := by decide +kernel
theorem dX3_idAtRank_41 : decode cX3_idAtRank 41 = .ok (.ireturn, 1) := by decide +kernel
theorem dX3_rankOf_0 : decode cX3_rankOf 0 = .ok (.iconst 0, 1) := by decide +kernel
theorem dX3_rankOf_1 : decode cX3_rankOf 1 = .ok (.istore_n 2, 1) := by decide +kernel
theorem dX3_rankOf_2 : decode cX3_rankOf 2 = .ok (.iconst 0, 1) := by decide +kernel
theorem dX3_rankOf_3 : decode cX3_rankOf 3 = .ok (.istore_n 3, 1) := by decide +kernel
theorem dX3_rankOf_4 : decode cX3_rankOf 4 = .ok (.iload_n 3, 1) := by decide +kernel
theorem dX3_rankOf_5 : decode cX3_rankOf 5 = .ok (.aload_n 0, 1) := by decide +kernel
theorem dX3_rankOf_6 : decode cX3_rankOf 6 = .ok (.getfield 50, 3) := by decide +kernel
theorem dX3_rankOf_9 : decode cX3_rankOf 9 = .ok (.if_icmp .ge 25, 3) := by decide +kernel
theorem dX3_rankOf_12 : decode cX3_rankOf 12 = .ok (.aload_n 0, 1) := by decide +kernel
theorem dX3_rankOf_13 : decode cX3_rankOf 13 = .ok (.getfield 30, 3) := by decide +kernel
theorem dX3_rankOf_16 : decode cX3_rankOf 16 = .ok (.iload_n 3, 1) := by decide +kernel
theorem dX3_rankOf_17 : decode cX3_rankOf 17 = .ok (.aaload, 1) := by decide +kernel
theorem dX3_rankOf_18 : decode cX3_rankOf 18 = .ok (.aload_n 1, 1) := by decide +kernel
theorem dX3_rankOf_19 : decode cX3_rankOf 19 = .ok (.invokevirtual 189, 3) := by decide +kernel
theorem dX3_rankOf_22 : decode cX3_rankOf 22 = .ok (.ifCond .eq 6, 3) := by decide +kernel
theorem dX3_rankOf_25 : decode cX3_rankOf 25 = .ok (.iinc 2 1, 3) := by decide +kernel
theorem dX3_rankOf_28 : decode cX3_rankOf 28 = .ok (.iinc 3 1, 3) := by decide +kernel
theorem dX3_rankOf_31 : decode cX3_rankOf 31 = .ok (.goto (-27), 3) := by decide +kernel
theorem dX3_rankOf_34 : decode cX3_rankOf 34 = .ok (.iload_n 2, 1) := by decide +kernel
theorem dX3_rankOf_35 : decode cX3_rankOf 35 = .ok (.ireturn, 1) := by decide +kernel
theorem dX3_lawnAtRank_0 : decode cX3_lawnAtRank 0 = .ok (.iconst 0, 1) := by decide +kernel
theorem dX3_lawnAtRank_1 : decode cX3_lawnAtRank 1 = .ok (.istore_n 2, 1) := by decide +kernel
theorem dX3_lawnAtRank_2 : decode cX3_lawnAtRank 2 = .ok (.iload_n 2, 1) := by decide +kernel
theorem dX3_lawnAtRank_3 : decode cX3_lawnAtRank 3 = .ok (.bipush 6, 2) := by decide +kernel
theorem dX3_lawnAtRank_5 : decode cX3_lawnAtRank 5 = .ok (.if_icmp .ge 20, 3) := by decide +kernel
theorem dX3_lawnAtRank_8 : decode cX3_lawnAtRank 8 = .ok (.aload_n 0, 1) := by decide +kernel
theorem dX3_lawnAtRank_9 : decode cX3_lawnAtRank 9 = .ok (.iload_n 2, 1) := by decide +kernel
theorem dX3_lawnAtRank_10 : decode cX3_lawnAtRank 10 = .ok (.invokevirtual 192, 3) := by decide +kernel
theorem dX3_lawnAtRank_13 : decode cX3_lawnAtRank 13 = .ok (.iload_n 1, 1) := by decide +kernel
theorem dX3_lawnAtRank_14 : decode cX3_lawnAtRank 14 = .ok (.if_icmp .ne 5, 3) := by decide +kernel
theorem dX3_lawnAtRank_17 : decode cX3_lawnAtRank 17 = .ok (.iload_n 2, 1) := by decide +kernel
theorem dX3_lawnAtRank_18 : decode cX3_lawnAtRank 18 = .ok (.ireturn, 1) := by decide +kernel
theorem dX3_lawnAtRank_19 : decode cX3_lawnAtRank 19 = .ok (.iinc 2 1, 3) := by decide +kernel
theorem dX3_lawnAtRank_22 : decode cX3_lawnAtRank 22 = .ok (.goto (-20), 3) := by decide +kernel
theorem dX3_lawnAtRank_25 : decode cX3_lawnAtRank 25 = .ok (.iconst (-1), 1) := by decide +kernel
theorem dX3_lawnAtRank_26 : decode cX3_lawnAtRank 26 = .ok (.ireturn, 1) := by decide +kernel
theorem dX3_rankOfLawn_0 : decode cX3_rankOfLawn 0 = .ok (.iconst 0, 1) := by decide +kernel
theorem dX3_rankOfLawn_1 : decode cX3_rankOfLawn 1 = .ok (.istore_n 2, 1) := by decide +kernel
theorem dX3_rankOfLawn_2 : decode cX3_rankOfLawn 2 = .ok (.iconst 0, 1) := by decide +kernel
theorem dX3_rankOfLawn_3 : decode cX3_rankOfLawn 3 = .ok (.istore_n 3, 1) := by decide +kernel
theorem dX3_rankOfLawn_4 : decode cX3_rankOfLawn 4 = .ok (.iload_n 3, 1) := by decide +kernel
theorem dX3_rankOfLawn_5 : decode cX3_rankOfLawn 5 = .ok (.bipush 6, 2) := by decide +kernel
theorem dX3_rankOfLawn_7 : decode cX3_rankOfLawn 7 = .ok (.if_icmp .ge 21, 3) := by decide +kernel
theorem dX3_rankOfLawn_10 : decode cX3_rankOfLawn 10 = .ok (.aload_n 0, 1) := by decide +kernel
theorem dX3_rankOfLawn_11 : decode cX3_rankOfLawn 11 = .ok (.iload_n 3, 1) := by decide +kernel
theorem dX3_rankOfLawn_12 : decode cX3_rankOfLawn 12 = .ok (.iload_n 1, 1) := by decide +kernel
theorem dX3_rankOfLawn_13 : decode cX3_rankOfLawn 13 = .ok (.invokevirtual 195, 3) := by decide +kernel
theorem dX3_rankOfLawn_16 : decode cX3_rankOfLawn 16 = .ok (.ifCond .eq 6, 3) := by decide +kernel
theorem dX3_rankOfLawn_19 : decode cX3_rankOfLawn 19 = .ok (.iinc 2 1, 3) := by decide +kernel
theorem dX3_rankOfLawn_22 : decode cX3_rankOfLawn 22 = .ok (.iinc 3 1, 3) := by decide +kernel
theorem dX3_rankOfLawn_25 : decode cX3_rankOfLawn 25 = .ok (.goto (-21), 3) := by decide +kernel
theorem dX3_rankOfLawn_28 : decode cX3_rankOfLawn 28 = .ok (.iload_n 2, 1) := by decide +kernel
theorem dX3_rankOfLawn_29 : decode cX3_rankOfLawn 29 = .ok (.ireturn, 1) := by decide +kernel
theorem dX3_shadiestNeighbour_0 : decode cX3_shadiestNeighbour 0 = .ok (.iconst (-1), 1) := by decide +kernel
theorem dX3_shadiestNeighbour_1 : decode cX3_shadiestNeighbour 1 = .ok (.istore_n 2, 1) := by decide +kernel
theorem dX3_shadiestNeighbour_2 : decode cX3_shadiestNeighbour 2 = .ok (.iconst 0, 1) := by decide +kernel
theorem dX3_shadiestNeighbour_3 : decode cX3_shadiestNeighbour 3 = .ok (.istore_n 3, 1) := by decide +kernel
theorem dX3_shadiestNeighbour_4 : decode cX3_shadiestNeighbour 4 = .ok (.iload_n 3, 1) := by decide +kernel
theorem dX3_shadiestNeighbour_5 : decode cX3_shadiestNeighbour 5 = .ok (.bipush 6, 2) := by decide +kernel
theorem dX3_shadiestNeighbour_7 : decode cX3_shadiestNeighbour 7 = .ok (.if_icmp .ge 37, 3) := by decide +kernel
theorem dX3_shadiestNeighbour_10 : decode cX3_shadiestNeighbour 10 = .ok (.aload_n 0, 1) := by decide +kernel
theorem dX3_shadiestNeighbour_11 : decode cX3_shadiestNeighbour 11 = .ok (.getfield 12, 3) := by decide +kernel
theorem dX3_shadiestNeighbour_14 : decode cX3_shadiestNeighbour 14 = .ok (.iload_n 1, 1) := by decide +kernel
theorem dX3_shadiestNeighbour_15 : decode cX3_shadiestNeighbour 15 = .ok (.iload_n 3, 1) := by decide +kernel
theorem dX3_shadiestNeighbour_16 : decode cX3_shadiestNeighbour 16 = .ok (.invokevirtual 199, 3) := by decide +kernel
theorem dX3_shadiestNeighbour_19 : decode cX3_shadiestNeighbour 19 = .ok (.ifCond .eq 19, 3) := by decide +kernel
theorem dX3_shadiestNeighbour_22 : decode cX3_shadiestNeighbour 22 = .ok (.iload_n 2, 1) := by decide +kernel
theorem dX3_shadiestNeighbour_23 : decode cX3_shadiestNeighbour 23 = .ok (.iconst (-1), 1) := by decide +kernel
theorem dX3_shadiestNeighbour_24 : decode cX3_shadiestNeighbour 24 = .ok (.if_icmp .eq 12, 3) := by decide +kernel
theorem dX3_shadiestNeighbour_27 : decode cX3_shadiestNeighbour 27 = .ok (.aload_n 0, 1) := by decide +kernel
theorem dX3_shadiestNeighbour_28 : decode cX3_shadiestNeighbour 28 = .ok (.iload_n 3, 1) := by decide +kernel
theorem dX3_shadiestNeighbour_29 : decode cX3_shadiestNeighbour 29 = .ok (.iload_n 2, 1) := by decide +kernel
theorem dX3_shadiestNeighbour_30 : decode cX3_shadiestNeighbour 30 = .ok (.invokevirtual 195, 3) := by decide +kernel
theorem dX3_shadiestNeighbour_33 : decode cX3_shadiestNeighbour 33 = .ok (.ifCond .eq 5, 3) := by decide +kernel
theorem dX3_shadiestNeighbour_36 : decode cX3_shadiestNeighbour 36 = .ok (.iload_n 3, 1) := by decide +kernel
theorem dX3_shadiestNeighbour_37 : decode cX3_shadiestNeighbour 37 = .ok (.istore_n 2, 1) := by decide +kernel
theorem dX3_shadiestNeighbour_38 : decode cX3_shadiestNeighbour 38 = .ok (.iinc 3 1, 3) := by decide +kernel
theorem dX3_shadiestNeighbour_41 : decode cX3_shadiestNeighbour 41 = .ok (.goto (-37), 3) := by decide +kernel
theorem dX3_shadiestNeighbour_44 : decode cX3_shadiestNeighbour 44 = .ok (.iload_n 2, 1) := by decide +kernel
theorem dX3_shadiestNeighbour_45 : decode cX3_shadiestNeighbour 45 = .ok (.ireturn, 1) := by decide +kernel
theorem dX3_isBetter_0 : decode cX3_isBetter 0 = .ok (.aload_n 0, 1) := by decide +kernel
theorem dX3_isBetter_1 : decode cX3_isBetter 1 = .ok (.getfield 21, 3) := by decide +kernel
theorem dX3_isBetter_4 : decode cX3_isBetter 4 = .ok (.iload_n 1, 1) := by decide +kernel
theorem dX3_isBetter_5 : decode cX3_isBetter 5 = .ok (.invokevirtual 107, 3) := by decide +kernel
theorem dX3_isBetter_8 : decode cX3_isBetter 8 = .ok (.aload_n 0, 1) := by decide +kernel
theorem dX3_isBetter_9 : decode cX3_isBetter 9 = .ok (.getfield 21, 3) := by decide +kernel
theorem dX3_isBetter_12 : decode cX3_isBetter 12 = .ok (.iload_n 2, 1) := by decide +kernel
theorem dX3_isBetter_13 : decode cX3_isBetter 13 = .ok (.invokevirtual 107, 3) := by decide +kernel
theorem dX3_isBetter_16 : decode cX3_isBetter 16 = .ok (.if_icmp .eq 28, 3) := by decide +kernel
theorem dX3_isBetter_19 : decode cX3_isBetter 19 = .ok (.aload_n 0, 1) := by decide +kernel
theorem dX3_isBetter_20 : decode cX3_isBetter 20 = .ok (.getfield 21, 3) := by decide +kernel
theorem dX3_isBetter_23 : decode cX3_isBetter 23 = .ok (.iload_n 1, 1) := by decide +kernel
theorem dX3_isBetter_24 : decode cX3_isBetter 24 = .ok (.invokevirtual 107, 3) := by decide +kernel
theorem dX3_isBetter_27 : decode cX3_isBetter 27 = .ok (.aload_n 0, 1) := by decide +kernel
theorem dX3_isBetter_28 : decode cX3_isBetter 28 = .ok (.getfield 21, 3) := by decide +kernel
theorem dX3_isBetter_31 : decode cX3_isBetter 31 = .ok (.iload_n 2, 1) := by decide +kernel
theorem dX3_isBetter_32 : decode cX3_isBetter 32 = .ok (.invokevirtual 107, 3) := by decide +kernel
theorem dX3_isBetter_35 : decode cX3_isBetter 35 = .ok (.if_icmp .le 7, 3) := by decide +kernel
theorem dX3_isBetter_38 : decode cX3_isBetter 38 = .ok (.iconst 1, 1) := by decide +kernel
theorem dX3_isBetter_39 : decode cX3_isBetter 39 = .ok (.goto 4, 3) := by decide +kernel
theorem dX3_isBetter_42 : decode cX3_isBetter 42 = .ok (.iconst 0, 1) := by decide +kernel
theorem dX3_isBetter_43 : decode cX3_isBetter 43 = .ok (.ireturn, 1) := by decide +kernel
theorem dX3_isBetter_44 : decode cX3_isBetter 44 = .ok (.aload_n 0, 1) := by decide +kernel
theorem dX3_isBetter_45 : decode cX3_isBetter 45 = .ok (.getfield 25, 3) := by decide +kernel
theorem dX3_isBetter_48 : decode cX3_isBetter 48 = .ok (.iload_n 1, 1) := by decide +kernel
theorem dX3_isBetter_49 : decode cX3_isBetter 49 = .ok (.invokevirtual 107, 3) := by decide +kernel
theorem dX3_isBetter_52 : decode cX3_isBetter 52 = .ok (.aload_n 0, 1) := by decide +kernel
theorem dX3_isBetter_53 : decode cX3_isBetter 53 = .ok (.getfield 25, 3) := by decide +kernel
theorem dX3_isBetter_56 : decode cX3_isBetter 56 = .ok (.iload_n 2, 1) := by decide +kernel
theorem dX3_isBetter_57 : decode cX3_isBetter 57 = .ok (.invokevirtual 107, 3) := by decide +kernel
theorem dX3_isBetter_60 : decode cX3_isBetter 60 = .ok (.if_icmp .eq 28, 3) := by decide +kernel
theorem dX3_isBetter_63 : decode cX3_isBetter 63 = .ok (.aload_n 0, 1) := by decide +kernel
theorem dX3_isBetter_64 : decode cX3_isBetter 64 = .ok (.getfield 25, 3) := by decide +kernel
theorem dX3_isBetter_67 : decode cX3_isBetter 67 = .ok (.iload_n 1, 1) := by decide +kernel
theorem dX3_isBetter_68 : decode cX3_isBetter 68 = .ok (.invokevirtual 107, 3) := by decide +kernel
theorem dX3_isBetter_71 : decode cX3_isBetter 71 = .ok (.aload_n 0, 1) := by decide +kernel
theorem dX3_isBetter_72 : decode cX3_isBetter 72 = .ok (.getfield 25, 3) := by decide +kernel
theorem dX3_isBetter_75 : decode cX3_isBetter 75 = .ok (.iload_n 2, 1) := by decide +kernel
theorem dX3_isBetter_76 : decode cX3_isBetter 76 = .ok (.invokevirtual 107, 3) := by decide +kernel
theorem dX3_isBetter_79 : decode cX3_isBetter 79 = .ok (.if_icmp .ge 7, 3) := by decide +kernel
theorem dX3_isBetter_82 : decode cX3_isBetter 82 = .ok (.iconst 1, 1) := by decide +kernel
theorem dX3_isBetter_83 : decode cX3_isBetter 83 = .ok (.goto 4, 3) := by decide +kernel
theorem dX3_isBetter_86 : decode cX3_isBetter 86 = .ok (.iconst 0, 1) := by decide +kernel
theorem dX3_isBetter_87 : decode cX3_isBetter 87 = .ok (.ireturn, 1) := by decide +kernel
theorem dX3_isBetter_88 : decode cX3_isBetter 88 = .ok (.iload_n 1, 1) := by decide +kernel
theorem dX3_isBetter_89 : decode cX3_isBetter 89 = .ok (.iload_n 2, 1) := by decide +kernel
theorem dX3_isBetter_90 : decode cX3_isBetter 90 = .ok (.if_icmp .ge 7, 3) := by decide +kernel
theorem dX3_isBetter_93 : decode cX3_isBetter 93 = .ok (.iconst 1, 1) := by decide +kernel
theorem dX3_isBetter_94 : decode cX3_isBetter 94 = .ok (.goto 4, 3) := by decide +kernel
theorem dX3_isBetter_97 : decode cX3_isBetter 97 = .ok (.iconst 0, 1) := by decide +kernel
theorem dX3_isBetter_98 : decode cX3_isBetter 98 = .ok (.ireturn, 1) := by decide +kernel
theorem dX3_describe_0 : decode cX3_describe 0 = .ok (.aload_n 2, 1) := by decide +kernel
theorem dX3_describe_1 : decode cX3_describe 1 = .ok (.iload_n 1, 1) := by decide +kernel
theorem dX3_describe_2 : decode cX3_describe 2 = .ok (.invokevirtual 208, 3) := by decide +kernel
theorem dX3_describe_5 : decode cX3_describe 5 = .ok (.bipush 58, 2) := by decide +kernel
theorem dX3_describe_7 : decode cX3_describe 7 = .ok (.invokevirtual 214, 3) := by decide +kernel
theorem dX3_describe_10 : decode cX3_describe 10 = .ok (.aload_n 0, 1) := by decide +kernel
theorem dX3_describe_11 : decode cX3_describe 11 = .ok (.getfield 21, 3) := by decide +kernel
theorem dX3_describe_14 : decode cX3_describe 14 = .ok (.iload_n 1, 1) := by decide +kernel
theorem dX3_describe_15 : decode cX3_describe 15 = .ok (.invokevirtual 107, 3) := by decide +kernel
theorem dX3_describe_18 : decode cX3_describe 18 = .ok (.invokevirtual 208, 3) := by decide +kernel
theorem dX3_describe_21 : decode cX3_describe 21 = .ok (.pop, 1) := by decide +kernel
theorem dX3_describe_22 : decode cX3_describe 22 = .ok (.iconst 0, 1) := by decide +kernel
theorem dX3_describe_23 : decode cX3_describe 23 = .ok (.istore_n 3, 1) := by decide +kernel
theorem dX3_describe_24 : decode cX3_describe 24 = .ok (.iload_n 3, 1) := by decide +kernel
theorem dX3_describe_25 : decode cX3_describe 25 = .ok (.aload_n 0, 1) := by decide +kernel
theorem dX3_describe_26 : decode cX3_describe 26 = .ok (.getfield 50, 3) := by decide +kernel
theorem dX3_describe_29 : decode cX3_describe 29 = .ok (.if_icmp .ge 69, 3) := by decide +kernel
theorem dX3_describe_32 : decode cX3_describe 32 = .ok (.aload_n 0, 1) := by decide +kernel
theorem dX3_describe_33 : decode cX3_describe 33 = .ok (.getfield 30, 3) := by decide +kernel
theorem dX3_describe_36 : decode cX3_describe 36 = .ok (.iload_n 3, 1) := by decide +kernel
theorem dX3_describe_37 : decode cX3_describe 37 = .ok (.aaload, 1) := by decide +kernel
theorem dX3_describe_38 : decode cX3_describe 38 = .ok (.astore 4, 2) := by decide +kernel
theorem dX3_describe_40 : decode cX3_describe 40 = .ok (.aload 4, 2) := by decide +kernel
theorem dX3_describe_42 : decode cX3_describe 42 = .ok (.getfield 113, 3) := by decide +kernel
theorem dX3_describe_45 : decode cX3_describe 45 = .ok (.iload_n 1, 1) := by decide +kernel
theorem dX3_describe_46 : decode cX3_describe 46 = .ok (.if_icmp .ne 46, 3) := by decide +kernel
theorem dX3_describe_49 : decode cX3_describe 49 = .ok (.aload_n 2, 1) := by decide +kernel
theorem dX3_describe_50 : decode cX3_describe 50 = .ok (.bipush 32, 2) := by decide +kernel
theorem dX3_describe_52 : decode cX3_describe 52 = .ok (.invokevirtual 214, 3) := by decide +kernel
theorem dX3_describe_55 : decode cX3_describe 55 = .ok (.aload 4, 2) := by decide +kernel
theorem dX3_describe_57 : decode cX3_describe 57 = .ok (.getfield 110, 3) := by decide +kernel
theorem dX3_describe_60 : decode cX3_describe 60 = .ok (.invokevirtual 208, 3) := by decide +kernel
theorem dX3_describe_63 : decode cX3_describe 63 = .ok (.bipush 114, 2) := by decide +kernel
theorem dX3_describe_65 : decode cX3_describe 65 = .ok (.invokevirtual 214, 3) := by decide +kernel
theorem dX3_describe_68 : decode cX3_describe 68 = .ok (.aload 4, 2) := by decide +kernel
theorem dX3_describe_70 : decode cX3_describe 70 = .ok (.getfield 116, 3) := by decide +kernel
theorem dX3_describe_73 : decode cX3_describe 73 = .ok (.invokevirtual 208, 3) := by decide +kernel
theorem dX3_describe_76 : decode cX3_describe 76 = .ok (.pop, 1) := by decide +kernel
theorem dX3_describe_77 : decode cX3_describe 77 = .ok (.aload 4, 2) := by decide +kernel
theorem dX3_describe_79 : decode cX3_describe 79 = .ok (.getfield 122, 3) := by decide +kernel
theorem dX3_describe_82 : decode cX3_describe 82 = .ok (.ifCond .eq 10, 3) := by decide +kernel
theorem dX3_describe_85 : decode cX3_describe 85 = .ok (.aload_n 2, 1) := by decide +kernel
theorem dX3_describe_86 : decode cX3_describe 86 = .ok (.bipush 102, 2) := by decide +kernel
theorem dX3_describe_88 : decode cX3_describe 88 = .ok (.invokevirtual 214, 3) := by decide +kernel
theorem dX3_describe_91 : decode cX3_describe 91 = .ok (.pop, 1) := by decide +kernel
theorem dX3_describe_92 : decode cX3_describe 92 = .ok (.iinc 3 1, 3) := by decide +kernel
theorem dX3_describe_95 : decode cX3_describe 95 = .ok (.goto (-71), 3) := by decide +kernel
theorem dX3_describe_98 : decode cX3_describe 98 = .ok (.return_, 1) := by decide +kernel
theorem dX4_init_0 : decode cX4_init 0 = .ok (.aload_n 0, 1) := by decide +kernel
theorem dX4_init_1 : decode cX4_init 1 = .ok (.invokespecial 3, 3) := by decide +kernel
theorem dX4_init_4 : decode cX4_init 4 = .ok (.aload_n 0, 1) := by decide +kernel
theorem dX4_init_5 : decode cX4_init 5 = .ok (.bipush 8, 2) := by decide +kernel
theorem dX4_init_7 : decode cX4_init 7 = .ok (.anewarray 9, 3) := by decide +kernel
theorem dX4_init_10 : decode cX4_init 10 = .ok (.putfield 11, 3) := by decide +kernel
theorem dX4_init_13 : decode cX4_init 13 = .ok (.iconst 0, 1) := by decide +kernel
theorem dX4_init_14 : decode cX4_init 14 = .ok (.istore_n 1, 1) := by decide +kernel
theorem dX4_init_15 : decode cX4_init 15 = .ok (.iload_n 1, 1) := by decide +kernel
theorem dX4_init_16 : decode cX4_init 16 = .ok (.bipush 8, 2) := by decide +kernel
theorem dX4_init_18 : decode cX4_init 18 = .ok (.if_icmp .ge 22, 3) := by decide +kernel
theorem dX4_init_21 : decode cX4_init 21 = .ok (.aload_n 0, 1) := by decide +kernel
theorem dX4_init_22 : decode cX4_init 22 = .ok (.getfield 11, 3) := by decide +kernel
theorem dX4_init_25 : decode cX4_init 25 = .ok (.iload_n 1, 1) := by decide +kernel
theorem dX4_init_26 : decode cX4_init 26 = .ok (.new 9, 3) := by decide +kernel
theorem dX4_init_29 : decode cX4_init 29 = .ok (.dup, 1) := by decide +kernel
theorem dX4_init_30 : decode cX4_init 30 = .ok (.invokespecial 17, 3) := by decide +kernel
theorem dX4_init_33 : decode cX4_init 33 = .ok (.aastore, 1) := by decide +kernel
theorem dX4_init_34 : decode cX4_init 34 = .ok (.iinc 1 1, 3) := by decide +kernel
theorem dX4_init_37 : decode cX4_init 37 = .ok (.goto (-22), 3) := by decide +kernel
theorem dX4_init_40 : decode cX4_init 40 = .ok (.return_, 1) := by decide +kernel
theorem dX4_keep_0 : decode cX4_keep 0 = .ok (.aload_n 0, 1) := by decide +kernel
theorem dX4_keep_1 : decode cX4_keep 1 = .ok (.getfield 18, 3) := by decide +kernel
theorem dX4_keep_4 : decode cX4_keep 4 = .ok (.bipush 8, 2) := by decide +kernel
theorem dX4_keep_6 : decode cX4_keep 6 = .ok (.if_icmp .lt 7, 3) := by decide +kernel
theorem dX4_keep_9 : decode cX4_keep 9 = .ok (.aload_n 0, 1) := by decide +kernel
theorem dX4_keep_10 : decode cX4_keep 10 = .ok (.invokevirtual 22, 3) := by decide +kernel
theorem dX4_keep_13 : decode cX4_keep 13 = .ok (.aload_n 0, 1) := by decide +kernel
theorem dX4_keep_14 : decode cX4_keep 14 = .ok (.getfield 11, 3) := by decide +kernel
theorem dX4_keep_17 : decode cX4_keep 17 = .ok (.aload_n 0, 1) := by decide +kernel
theorem dX4_keep_18 : decode cX4_keep 18 = .ok (.getfield 18, 3) := by decide +kernel
theorem dX4_keep_21 : decode cX4_keep 21 = .ok (.aaload, 1) := by decide +kernel
theorem dX4_keep_22 : decode cX4_keep 22 = .ok (.aload_n 1, 1) := by decide +kernel
theorem dX4_keep_23 : decode cX4_keep 23 = .ok (.invokevirtual 25, 3) := by decide +kernel
theorem dX4_keep_26 : decode cX4_keep 26 = .ok (.aload_n 0, 1) := by decide +kernel
theorem dX4_keep_27 : decode cX4_keep 27 = .ok (.dup, 1) := by decide +kernel
theorem dX4_keep_28 : decode cX4_keep 28 = .ok (.getfield 18, 3) := by decide +kernel
theorem dX4_keep_31 : decode cX4_keep 31 = .ok (.iconst 1, 1) := by decide +kernel
theorem dX4_keep_32 : decode cX4_keep 32 = .ok (.iadd, 1) := by decide +kernel
theorem dX4_keep_33 : decode cX4_keep 33 = .ok (.putfield 18, 3) := by decide +kernel
theorem dX4_keep_36 : decode cX4_keep 36 = .ok (.return_, 1) := by decide +kernel
theorem dX4_takeBack_0 : decode cX4_takeBack 0 = .ok (.aload_n 0, 1) := by decide +kernel
theorem dX4_takeBack_1 : decode cX4_takeBack 1 = .ok (.getfield 18, 3) := by decide +kernel
theorem dX4_takeBack_4 : decode cX4_takeBack 4 = .ok (.ifCond .le 26, 3) := by decide +kernel
theorem dX4_takeBack_7 : decode cX4_takeBack 7 = .ok (.aload_n 0, 1) := by decide +kernel
theorem dX4_takeBack_8 : decode cX4_takeBack 8 = .ok (.dup, 1) := by decide +kernel
theorem dX4_takeBack_9 : decode cX4_takeBack 9 = .ok (.getfield 18, 3) := by decide +kernel
theorem dX4_takeBack_12 : decode cX4_takeBack 12 = .ok (.iconst 1, 1) := by decide +kernel
theorem dX4_takeBack_13 : decode cX4_takeBack 13 = .ok (.isub, 1) := by decide +kernel
theorem dX4_takeBack_14 : decode cX4_takeBack 14 = .ok (.putfield 18, 3) := by decide +kernel
theorem dX4_takeBack_17 : decode cX4_takeBack 17 = .ok (.aload_n 1, 1) := by decide +kernel
theorem dX4_takeBack_18 : decode cX4_takeBack 18 = .ok (.aload_n 0, 1) := by decide +kernel
theorem dX4_takeBack_19 : decode cX4_takeBack 19 = .ok (.getfield 11, 3) := by decide +kernel
theorem dX4_takeBack_22 : decode cX4_takeBack 22 = .ok (.aload_n 0, 1) := by decide +kernel
theorem dX4_takeBack_23 : decode cX4_takeBack 23 = .ok (.getfield 18, 3) := by decide +kernel
theorem dX4_takeBack_26 : decode cX4_takeBack 26 = .ok (.aaload, 1) := by decide +kernel
theorem dX4_takeBack_27 : decode cX4_takeBack 27 = .ok (.invokevirtual 25, 3) := by decide +kernel
theorem dX4_takeBack_30 : decode cX4_takeBack 30 = .ok (.return_, 1) := by decide +kernel
theorem dX4_forget_0 : decode cX4_forget 0 = .ok (.aload_n 0, 1) := by decide +kernel
theorem dX4_forget_1 : decode cX4_forget 1 = .ok (.iconst 0, 1) := by decide +kernel
theorem dX4_forget_2 : decode cX4_forget 2 = .ok (.putfield 18, 3) := by decide +kernel
theorem dX4_forget_5 : decode cX4_forget 5 = .ok (.return_, 1) := by decide +kernel
theorem dX4_dropOldest_0 : decode cX4_dropOldest 0 = .ok (.aload_n 0, 1) := by decide +kernel
theorem dX4_dropOldest_1 : decode cX4_dropOldest 1 = .ok (.getfield 11, 3) := by decide +kernel
theorem dX4_dropOldest_4 : decode cX4_dropOldest 4 = .ok (.iconst 0, 1) := by decide +kernel
theorem dX4_dropOldest_5 : decode cX4_dropOldest 5 = .ok (.aaload, 1) := by decide +kernel
theorem dX4_dropOldest_6 : decode cX4_dropOldest 6 = .ok (.astore_n 1, 1) := by decide +kernel
theorem dX4_dropOldest_7 : decode cX4_dropOldest 7 = .ok (.iconst 1, 1) := by decide +kernel
theorem dX4_dropOldest_8 : decode cX4_dropOldest 8 = .ok (.istore_n 2, 1) := by decide +kernel
theorem dX4_dropOldest_9 : decode cX4_dropOldest 9 = .ok (.iload_n 2, 1) := by decide +kernel
theorem dX4_dropOldest_10 : decode cX4_dropOldest 10 = .ok (.bipush 8, 2) := by decide +kernel
theorem dX4_dropOldest_12 : decode cX4_dropOldest 12 = .ok (.if_icmp .ge 23, 3) := by decide +kernel
theorem dX4_dropOldest_15 : decode cX4_dropOldest 15 = .ok (.aload_n 0, 1) := by decide +kernel
theorem dX4_dropOldest_16 : decode cX4_dropOldest 16 = .ok (.getfield 11, 3) := by decide +kernel
theorem dX4_dropOldest_19 : decode cX4_dropOldest 19 = .ok (.iload_n 2, 1) := by decide +kernel
theorem dX4_dropOldest_20 : decode cX4_dropOldest 20 = .ok (.iconst 1, 1) := by decide +kernel
theorem dX4_dropOldest_21 : decode cX4_dropOldest 21 = .ok (.isub, 1) := by decide +kernel
theorem dX4_dropOldest_22 : decode cX4_dropOldest 22 = .ok (.aload_n 0, 1) := by decide +kernel
theorem dX4_dropOldest_23 : decode cX4_dropOldest 23 = .ok (.getfield 11, 3) := by decide +kernel
theorem dX4_dropOldest_26 : decode cX4_dropOldest 26 = .ok (.iload_n 2, 1) := by decide +kernel
theorem dX4_dropOldest_27 : decode cX4_dropOldest 27 = .ok (.aaload, 1) := by decide +kernel
theorem dX4_dropOldest_28 : decode cX4_dropOldest 28 = .ok (.aastore, 1) := by decide +kernel
theorem dX4_dropOldest_29 : decode cX4_dropOldest 29 = .ok (.iinc 2 1, 3) := by decide +kernel
theorem dX4_dropOldest_32 : decode cX4_dropOldest 32 = .ok (.goto (-23), 3) := by decide +kernel
theorem dX4_dropOldest_35 : decode cX4_dropOldest 35 = .ok (.aload_n 0, 1) := by decide +kernel
theorem dX4_dropOldest_36 : decode cX4_dropOldest 36 = .ok (.getfield 11, 3) := by decide +kernel
theorem dX4_dropOldest_39 : decode cX4_dropOldest 39 = .ok (.bipush 7, 2) := by decide +kernel
theorem dX4_dropOldest_41 : decode cX4_dropOldest 41 = .ok (.aload_n 1, 1) := by decide +kernel
theorem dX4_dropOldest_42 : decode cX4_dropOldest 42 = .ok (.aastore, 1) := by decide +kernel
theorem dX4_dropOldest_43 : decode cX4_dropOldest 43 = .ok (.aload_n 0, 1) := by decide +kernel
theorem dX4_dropOldest_44 : decode cX4_dropOldest 44 = .ok (.bipush 7, 2) := by decide +kernel
theorem dX4_dropOldest_46 : decode cX4_dropOldest 46 = .ok (.putfield 18, 3) := by decide +kernel
theorem dX4_dropOldest_49 : decode cX4_dropOldest 49 = .ok (.return_, 1) := by decide +kernel
theorem dX5_init_0 : decode cX5_init 0 = .ok (.aload_n 0, 1) := by decide +kernel
theorem dX5_init_1 : decode cX5_init 1 = .ok (.invokespecial 5, 3) := by decide +kernel
theorem dX5_init_4 : decode cX5_init 4 = .ok (.aload_n 0, 1) := by decide +kernel
theorem dX5_init_5 : decode cX5_init 5 = .ok (.bipush 6, 2) := by decide +kernel
theorem dX5_init_7 : decode cX5_init 7 = .ok (.bipush 6, 2) := by decide +kernel
theorem dX5_init_9 : decode cX5_init 9 = .ok (.multianewarray 11 2, 4) := by decide +kernel
theorem dX5_init_13 : decode cX5_init 13 = .ok (.putfield 13, 3) := by decide +kernel
theorem dX5_init_16 : decode cX5_init 16 = .ok (.return_, 1) := by decide +kernel
theorem dX5_measure_0 : decode cX5_measure 0 = .ok (.iconst 0, 1) := by decide +kernel
theorem dX5_measure_1 : decode cX5_measure 1 = .ok (.istore_n 2, 1) := by decide +kernel
theorem dX5_measure_2 : decode cX5_measure 2 = .ok (.iload_n 2, 1) := by decide +kernel
theorem dX5_measure_3 : decode cX5_measure 3 = .ok (.bipush 6, 2) := by decide +kernel
theorem dX5_measure_5 : decode cX5_measure 5 = .ok (.if_icmp .ge 37, 3) := by decide +kernel
theorem dX5_measure_8 : decode cX5_measure 8 = .ok (.iconst 0, 1) := by decide +kernel
theorem dX5_measure_9 : decode cX5_measure 9 = .ok (.istore_n 3, 1) := by decide +kernel
theorem dX5_measure_10 : decode cX5_measure 10 = .ok (.iload_n 3, 1) := by decide +kernel
theorem dX5_measure_11 : decode cX5_measure 11 = .ok (.bipush 6, 2) := by decide +kernel
theorem dX5_measure_13 : decode cX5_measure 13 = .ok (.if_icmp .ge 23, 3) := by decide +kernel
theorem dX5_measure_16 : decode cX5_measure 16 = .ok (.aload_n 0, 1) := by decide +kernel
theorem dX5_measure_17 : decode cX5_measure 17 = .ok (.getfield 13, 3) := by decide +kernel
theorem dX5_measure_20 : decode cX5_measure 20 = .ok (.iload_n 2, 1) := by decide +kernel
theorem dX5_measure_21 : decode cX5_measure 21 = .ok (.aaload, 1) := by decide +kernel
theorem dX5_measure_22 : decode cX5_measure 22 = .ok (.iload_n 3, 1) := by decide +kernel
theorem dX5_measure_23 : decode cX5_measure 23 = .ok (.aload_n 1, 1) := by decide +kernel
theorem dX5_measure_24 : decode cX5_measure 24 = .ok (.iload_n 2, 1) := by decide +kernel
theorem dX5_measure_25 : decode cX5_measure 25 = .ok (.iload_n 3, 1) := by decide +kernel
theorem dX5_measure_26 : decode cX5_measure 26 = .ok (.invokestatic 16, 3) := by decide +kernel
theorem dX5_measure_29 : decode cX5_measure 29 = .ok (.iastore, 1) := by decide +kernel
theorem dX5_measure_30 : decode cX5_measure 30 = .ok (.iinc 3 1, 3) := by decide +kernel
theorem dX5_measure_33 : decode cX5_measure 33 = .ok (.goto (-23), 3) := by decide +kernel
theorem dX5_measure_36 : decode cX5_measure 36 = .ok (.iinc 2 1, 3) := by decide +kernel
theorem dX5_measure_39 : decode cX5_measure 39 = .ok (.goto (-37), 3) := by decide +kernel
theorem dX5_measure_42 : decode cX5_measure 42 = .ok (.iconst 1, 1) := by decide +kernel
theorem dX5_measure_43 : decode cX5_measure 43 = .ok (.istore_n 2, 1) := by decide +kernel
theorem dX5_measure_44 : decode cX5_measure 44 = .ok (.iconst 0, 1) := by decide +kernel
theorem dX5_measure_45 : decode cX5_measure 45 = .ok (.istore_n 3, 1) := by decide +kernel
theorem dX5_measure_46 : decode cX5_measure 46 = .ok (.iload_n 2, 1) := by decide +kernel
theorem dX5_measure_47 : decode cX5_measure 47 = .ok (.ifCond .eq 21, 3) := by decide +kernel
theorem dX5_measure_50 : decode cX5_measure 50 = .ok (.iload_n 3, 1) := by decide +kernel
theorem dX5_measure_51 : decode cX5_measure 51 = .ok (.sipush 216, 3) := by decide +kernel
theorem dX5_measure_54 : decode cX5_measure 54 = .ok (.if_icmp .ge 14, 3) := by decide +kernel
theorem dX5_measure_57 : decode cX5_measure 57 = .ok (.aload_n 0, 1) := by decide +kernel
theorem dX5_measure_58 : decode cX5_measure 58 = .ok (.invokevirtual 20, 3) := by decide +kernel
theorem dX5_measure_61 : decode cX5_measure 61 = .ok (.istore_n 2, 1) := by decide +kernel
theorem dX5_measure_62 : decode cX5_measure 62 = .ok (.iinc 3 1, 3) := by decide +kernel
theorem dX5_measure_65 : decode cX5_measure 65 = .ok (.goto (-19), 3) := by decide +kernel
theorem dX5_measure_68 : decode cX5_measure 68 = .ok (.return_, 1) := by decide +kernel
theorem dX5_between_0 : decode cX5_between 0 = .ok (.iload_n 1, 1) := by decide +kernel
theorem dX5_between_1 : decode cX5_between 1 = .ok (.invokestatic 24, 3) := by decide +kernel
theorem dX5_between_4 : decode cX5_between 4 = .ok (.ifCond .eq 10, 3) := by decide +kernel
theorem dX5_between_7 : decode cX5_between 7 = .ok (.iload_n 2, 1) := by decide +kernel
theorem dX5_between_8 : decode cX5_between 8 = .ok (.invokestatic 24, 3) := by decide +kernel
theorem dX5_between_11 : decode cX5_between 11 = .ok (.ifCond .ne 5, 3) := by decide +kernel
theorem dX5_between_14 : decode cX5_between 14 = .ok (.iconst (-1), 1) := by decide +kernel
theorem dX5_between_15 : decode cX5_between 15 = .ok (.ireturn, 1) := by decide +kernel
theorem dX5_between_16 : decode cX5_between 16 = .ok (.aload_n 0, 1) := by decide +kernel
theorem dX5_between_17 : decode cX5_between 17 = .ok (.getfield 13, 3) := by decide +kernel
theorem dX5_between_20 : decode cX5_between 20 = .ok (.iload_n 1, 1) := by decide +kernel
theorem dX5_between_21 : decode cX5_between 21 = .ok (.aaload, 1) := by decide +kernel
theorem dX5_between_22 : decode cX5_between 22 = .ok (.iload_n 2, 1) := by decide +kernel
theorem dX5_between_23 : decode cX5_between 23 = .ok (.iaload, 1) := by decide +kernel
theorem dX5_between_24 : decode cX5_between 24 = .ok (.istore_n 3, 1) := by decide +kernel
theorem dX5_between_25 : decode cX5_between 25 = .ok (.iload_n 3, 1) := by decide +kernel
theorem dX5_between_26 : decode cX5_between 26 = .ok (.bipush 6, 2) := by decide +kernel
theorem dX5_between_28 : decode cX5_between 28 = .ok (.if_icmp .ge 7, 3) := by decide +kernel
theorem dX5_between_31 : decode cX5_between 31 = .ok (.iload_n 3, 1) := by decide +kernel
theorem dX5_between_32 : decode cX5_between 32 = .ok (.goto 4, 3) := by decide +kernel
theorem dX5_between_35 : decode cX5_between 35 = .ok (.iconst (-1), 1) := by decide +kernel
theorem dX5_between_36 : decode cX5_between 36 = .ok (.ireturn, 1) := by decide +kernel
theorem dX5_firstBound_0 : decode cX5_firstBound 0 = .ok (.iload_n 1, 1) := by decide +kernel
theorem dX5_firstBound_1 : decode cX5_firstBound 1 = .ok (.iload_n 2, 1) := by decide +kernel
theorem dX5_firstBound_2 : decode cX5_firstBound 2 = .ok (.if_icmp .ne 5, 3) := by decide +kernel
theorem dX5_firstBound_5 : decode cX5_firstBound 5 = .ok (.iconst 0, 1) := by decide +kernel
theorem dX5_firstBound_6 : decode cX5_firstBound 6 = .ok (.ireturn, 1) := by decide +kernel
theorem dX5_firstBound_7 : decode cX5_firstBound 7 = .ok (.aload_n 0, 1) := by decide +kernel
theorem dX5_firstBound_8 : decode cX5_firstBound 8 = .ok (.iload_n 1, 1) := by decide +kernel
theorem dX5_firstBound_9 : decode cX5_firstBound 9 = .ok (.iload_n 2, 1) := by decide +kernel
theorem dX5_firstBound_10 : decode cX5_firstBound 10 = .ok (.invokevirtual 37, 3) := by decide +kernel
theorem dX5_firstBound_13 : decode cX5_firstBound 13 = .ok (.ifCond .eq 7, 3) := by decide +kernel
theorem dX5_firstBound_16 : decode cX5_firstBound 16 = .ok (.iconst 1, 1) := by decide +kernel
theorem dX5_firstBound_17 : decode cX5_firstBound 17 = .ok (.goto 5, 3) := by decide +kernel
theorem dX5_firstBound_20 : decode cX5_firstBound 20 = .ok (.bipush 6, 2) := by decide +kernel
theorem dX5_firstBound_22 : decode cX5_firstBound 22 = .ok (.ireturn, 1) := by decide +kernel
theorem dX5_improve_0 : decode cX5_improve 0 = .ok (.iconst 0, 1) := by decide +kernel
theorem dX5_improve_1 : decode cX5_improve 1 = .ok (.istore_n 1, 1) := by decide +kernel
theorem dX5_improve_2 : decode cX5_improve 2 = .ok (.iconst 0, 1) := by decide +kernel
theorem dX5_improve_3 : decode cX5_improve 3 = .ok (.istore_n 2, 1) := by decide +kernel
theorem dX5_improve_4 : decode cX5_improve 4 = .ok (.iload_n 2, 1) := by decide +kernel
theorem dX5_improve_5 : decode cX5_improve 5 = .ok (.bipush 6, 2) := by decide +kernel
theorem dX5_improve_7 : decode cX5_improve 7 = .ok (.if_icmp .ge 85, 3) := by decide +kernel
theorem dX5_improve_10 : decode cX5_improve 10 = .ok (.iconst 0, 1) := by decide +kernel
theorem dX5_improve_11 : decode cX5_improve 11 = .ok (.istore_n 3, 1) := by decide +kernel
theorem dX5_improve_12 : decode cX5_improve 12 = .ok (.iload_n 3, 1) := by decide +kernel
theorem dX5_improve_13 : decode cX5_improve 13 = .ok (.bipush 6, 2) := by decide +kernel
theorem dX5_improve_15 : decode cX5_improve 15 = .ok (.if_icmp .ge 71, 3) := by decide +kernel
theorem dX5_improve_18 : decode cX5_improve 18 = .ok (.iconst 0, 1) := by decide +kernel
theorem dX5_improve_19 : decode cX5_improve 19 = .ok (.istore 4, 2) := by decide +kernel
theorem dX5_improve_21 : decode cX5_improve 21 = .ok (.iload 4, 2) := by decide +kernel
theorem dX5_improve_23 : decode cX5_improve 23 = .ok (.bipush 6, 2) := by decide +kernel
theorem dX5_improve_25 : decode cX5_improve 25 = .ok (.if_icmp .ge 55, 3) := by decide +kernel
theorem dX5_improve_28 : decode cX5_improve 28 = .ok (.aload_n 0, 1) := by decide +kernel
theorem dX5_improve_29 : decode cX5_improve 29 = .ok (.getfield 13, 3) := by decide +kernel
theorem dX5_improve_32 : decode cX5_improve 32 = .ok (.iload_n 2, 1) := by decide +kernel
theorem dX5_improve_33 : decode cX5_improve 33 = .ok (.aaload, 1) := by decide +kernel
theorem dX5_improve_34 : decode cX5_improve 34 = .ok (.iload 4, 2) := by decide +kernel
theorem dX5_improve_36 : decode cX5_improve 36 = .ok (.iaload, 1) := by decide +kernel
theorem dX5_improve_37 : decode cX5_improve 37 = .ok (.aload_n 0, 1) := by decide +kernel
theorem dX5_improve_38 : decode cX5_improve 38 = .ok (.getfield 13, 3) := by decide +kernel
theorem dX5_improve_41 : decode cX5_improve 41 = .ok (.iload 4, 2) := by decide +kernel
theorem dX5_improve_43 : decode cX5_improve 43 = .ok (.aaload, 1) := by decide +kernel
theorem dX5_improve_44 : decode cX5_improve 44 = .ok (.iload_n 3, 1) := by decide +kernel
theorem dX5_improve_45 : decode cX5_improve 45 = .ok (.iaload, 1) := by decide +kernel
theorem dX5_improve_46 : decode cX5_improve 46 = .ok (.iadd, 1) := by decide +kernel
theorem dX5_improve_47 : decode cX5_improve 47 = .ok (.istore 5, 2) := by decide +kernel
theorem dX5_improve_49 : decode cX5_improve 49 = .ok (.iload 5, 2) := by decide +kernel
theorem dX5_improve_51 : decode cX5_improve 51 = .ok (.aload_n 0, 1) := by decide +kernel
theorem dX5_improve_52 : decode cX5_improve 52 = .ok (.getfield 13, 3) := by decide +kernel
theorem dX5_improve_55 : decode cX5_improve 55 = .ok (.iload_n 2, 1) := by decide +kernel
theorem dX5_improve_56 : decode cX5_improve 56 = .ok (.aaload, 1) := by decide +kernel
theorem dX5_improve_57 : decode cX5_improve 57 = .ok (.iload_n 3, 1) := by decide +kernel
theorem dX5_improve_58 : decode cX5_improve 58 = .ok (.iaload, 1) := by decide +kernel
theorem dX5_improve_59 : decode cX5_improve 59 = .ok (.if_icmp .ge 15, 3) := by decide +kernel
theorem dX5_improve_62 : decode cX5_improve 62 = .ok (.aload_n 0, 1) := by decide +kernel
theorem dX5_improve_63 : decode cX5_improve 63 = .ok (.getfield 13, 3) := by decide +kernel
theorem dX5_improve_66 : decode cX5_improve 66 = .ok (.iload_n 2, 1) := by decide +kernel
theorem dX5_improve_67 : decode cX5_improve 67 = .ok (.aaload, 1) := by decide +kernel
theorem dX5_improve_68 : decode cX5_improve 68 = .ok (.iload_n 3, 1) := by decide +kernel
theorem dX5_improve_69 : decode cX5_improve 69 = .ok (.iload 5, 2) := by decide +kernel
theorem dX5_improve_71 : decode cX5_improve 71 = .ok (.iastore, 1) := by decide +kernel
theorem dX5_improve_72 : decode cX5_improve 72 = .ok (.iconst 1, 1) := by decide +kernel
theorem dX5_improve_73 : decode cX5_improve 73 = .ok (.istore_n 1, 1) := by decide +kernel
theorem dX5_improve_74 : decode cX5_improve 74 = .ok (.iinc 4 1, 3) := by decide +kernel
theorem dX5_improve_77 : decode cX5_improve 77 = .ok (.goto (-56), 3) := by decide +kernel
theorem dX5_improve_80 : decode cX5_improve 80 = .ok (.iinc 3 1, 3) := by decide +kernel
theorem dX5_improve_83 : decode cX5_improve 83 = .ok (.goto (-71), 3) := by decide +kernel
theorem dX5_improve_86 : decode cX5_improve 86 = .ok (.iinc 2 1, 3) := by decide +kernel
theorem dX5_improve_89 : decode cX5_improve 89 = .ok (.goto (-85), 3) := by decide +kernel
theorem dX5_improve_92 : decode cX5_improve 92 = .ok (.iload_n 1, 1) := by decide +kernel
theorem dX5_improve_93 : decode cX5_improve 93 = .ok (.ireturn, 1) := by decide +kernel
theorem dX6_init_0 : decode cX6_init 0 = .ok (.aload_n 0, 1) := by decide +kernel
theorem dX6_init_1 : decode cX6_init 1 = .ok (.invokespecial 3, 3) := by decide +kernel
theorem dX6_init_4 : decode cX6_init 4 = .ok (.return_, 1) := by decide +kernel
theorem dX6_examine_0 : decode cX6_examine 0 = .ok (.aload_n 0, 1) := by decide +kernel
theorem dX6_examine_1 : decode cX6_examine 1 = .ok (.iconst 0, 1) := by decide +kernel
theorem dX6_examine_2 : decode cX6_examine 2 = .ok (.putfield 11, 3) := by decide +kernel
theorem dX6_examine_5 : decode cX6_examine 5 = .ok (.iload_n 2, 1) := by decide +kernel
theorem dX6_examine_6 : decode cX6_examine 6 = .ok (.tableswitch 216 97 117 #[199, 216, 130, 208, 216, 150, 188, 120, 216, 216, 216, 216, 177, 216, 168, 98, 109, 216, 141, 216, 159], 98) := by decide +kernel
theorem dX6_examine_104 : decode cX6_examine 104 = .ok (.aload_n 0, 1) := by decide +kernel
theorem dX6_examine_105 : decode cX6_examine 105 = .ok (.aload_n 1, 1) := by decide +kernel
theorem dX6_examine_106 : decode cX6_examine 106 = .ok (.iload_n 3, 1) := by decide +kernel
theorem dX6_examine_107 : decode cX6_examine 107 = .ok (.iload 4, 2) := by decide +kernel
theorem dX6_examine_109 : decode cX6_examine 109 = .ok (.invokevirtual 15, 3) := by decide +kernel
theorem dX6_examine_112 : decode cX6_examine 112 = .ok (.goto 115, 3) := by decide +kernel
theorem dX6_examine_115 : decode cX6_examine 115 = .ok (.aload_n 0, 1) := by decide +kernel
theorem dX6_examine_116 : decode cX6_examine 116 = .ok (.aload_n 1, 1) := by decide +kernel
theorem dX6_examine_117 : decode cX6_examine 117 = .ok (.iload_n 3, 1) := by decide +kernel
theorem dX6_examine_118 : decode cX6_examine 118 = .ok (.iload 4, 2) := by decide +kernel
theorem dX6_examine_120 : decode cX6_examine 120 = .ok (.invokevirtual 19, 3) := by decide +kernel
theorem dX6_examine_123 : decode cX6_examine 123 = .ok (.goto 104, 3) := by decide +kernel
theorem dX6_examine_126 : decode cX6_examine 126 = .ok (.aload_n 0, 1) := by decide +kernel
theorem dX6_examine_127 : decode cX6_examine 127 = .ok (.iload_n 3, 1) := by decide +kernel
theorem dX6_examine_128 : decode cX6_examine 128 = .ok (.iload 4, 2) := by decide +kernel
theorem dX6_examine_130 : decode cX6_examine 130 = .ok (.invokevirtual 22, 3) := by decide +kernel
theorem dX6_examine_133 : decode cX6_examine 133 = .ok (.goto 94, 3) := by decide +kernel
theorem dX6_examine_136 : decode cX6_examine 136 = .ok (.aload_n 0, 1) := by decide +kernel
theorem dX6_examine_137 : decode cX6_examine 137 = .ok (.aload_n 1, 1) := by decide +kernel
theorem dX6_examine_138 : decode cX6_examine 138 = .ok (.iload_n 3, 1) := by decide +kernel
theorem dX6_examine_139 : decode cX6_examine 139 = .ok (.iload 4, 2) := by decide +kernel
theorem dX6_examine_141 : decode cX6_examine 141 = .ok (.invokevirtual 26, 3) := by decide +kernel
theorem dX6_examine_144 : decode cX6_examine 144 = .ok (.goto 83, 3) := by decide +kernel
theorem dX6_examine_147 : decode cX6_examine 147 = .ok (.aload_n 0, 1) := by decide +kernel
theorem dX6_examine_148 : decode cX6_examine 148 = .ok (.aload_n 1, 1) := by decide +kernel
theorem dX6_examine_149 : decode cX6_examine 149 = .ok (.iload_n 3, 1) := by decide +kernel
theorem dX6_examine_150 : decode cX6_examine 150 = .ok (.invokevirtual 29, 3) := by decide +kernel
theorem dX6_examine_153 : decode cX6_examine 153 = .ok (.goto 74, 3) := by decide +kernel
theorem dX6_examine_156 : decode cX6_examine 156 = .ok (.aload_n 0, 1) := by decide +kernel
theorem dX6_examine_157 : decode cX6_examine 157 = .ok (.aload_n 1, 1) := by decide +kernel
theorem dX6_examine_158 : decode cX6_examine 158 = .ok (.iload_n 3, 1) := by decide +kernel
theorem dX6_examine_159 : decode cX6_examine 159 = .ok (.invokevirtual 33, 3) := by decide +kernel
theorem dX6_examine_162 : decode cX6_examine 162 = .ok (.goto 65, 3) := by decide +kernel
theorem dX6_examine_165 : decode cX6_examine 165 = .ok (.aload_n 0, 1) := by decide +kernel
theorem dX6_examine_166 : decode cX6_examine 166 = .ok (.aload_n 1, 1) := by decide +kernel
theorem dX6_examine_167 : decode cX6_examine 167 = .ok (.iload_n 3, 1) := by decide +kernel
theorem dX6_examine_168 : decode cX6_examine 168 = .ok (.invokevirtual 36, 3) := by decide +kernel
theorem dX6_examine_171 : decode cX6_examine 171 = .ok (.goto 56, 3) := by decide +kernel
theorem dX6_examine_174 : decode cX6_examine 174 = .ok (.aload_n 0, 1) := by decide +kernel
theorem dX6_examine_175 : decode cX6_examine 175 = .ok (.aload_n 1, 1) := by decide +kernel
theorem dX6_examine_176 : decode cX6_examine 176 = .ok (.iload_n 3, 1) := by decide +kernel
theorem dX6_examine_177 : decode cX6_examine 177 = .ok (.invokevirtual 39, 3) := by decide +kernel
theorem dX6_examine_180 : decode cX6_examine 180 = .ok (.goto 47, 3) := by decide +kernel
theorem dX6_examine_183 : decode cX6_examine 183 = .ok (.aload_n 0, 1) := by decide +kernel
theorem dX6_examine_184 : decode cX6_examine 184 = .ok (.aload_n 1, 1) := by decide +kernel
theorem dX6_examine_185 : decode cX6_examine 185 = .ok (.iload_n 3, 1) := by decide +kernel
theorem dX6_examine_186 : decode cX6_examine 186 = .ok (.iload 4, 2) := by decide +kernel
theorem dX6_examine_188 : decode cX6_examine 188 = .ok (.invokevirtual 42, 3) := by decide +kernel
theorem dX6_examine_191 : decode cX6_examine 191 = .ok (.goto 36, 3) := by decide +kernel
theorem dX6_examine_194 : decode cX6_examine 194 = .ok (.aload_n 0, 1) := by decide +kernel
theorem dX6_examine_195 : decode cX6_examine 195 = .ok (.aload_n 1, 1) := by decide +kernel
theorem dX6_examine_196 : decode cX6_examine 196 = .ok (.iload_n 3, 1) := by decide +kernel
theorem dX6_examine_197 : decode cX6_examine 197 = .ok (.iload 4, 2) := by decide +kernel
theorem dX6_examine_199 : decode cX6_examine 199 = .ok (.invokevirtual 45, 3) := by decide +kernel
theorem dX6_examine_202 : decode cX6_examine 202 = .ok (.goto 25, 3) := by decide +kernel
theorem dX6_examine_205 : decode cX6_examine 205 = .ok (.aload_n 0, 1) := by decide +kernel
theorem dX6_examine_206 : decode cX6_examine 206 = .ok (.aload_n 1, 1) := by decide +kernel
theorem dX6_examine_207 : decode cX6_examine 207 = .ok (.iload_n 3, 1) := by decide +kernel
theorem dX6_examine_208 : decode cX6_examine 208 = .ok (.invokevirtual 48, 3) := by decide +kernel
theorem dX6_examine_211 : decode cX6_examine 211 = .ok (.goto 16, 3) := by decide +kernel
theorem dX6_examine_214 : decode cX6_examine 214 = .ok (.aload_n 0, 1) := by decide +kernel
theorem dX6_examine_215 : decode cX6_examine 215 = .ok (.iload_n 3, 1) := by decide +kernel
theorem dX6_examine_216 : decode cX6_examine 216 = .ok (.invokevirtual 51, 3) := by decide +kernel
theorem dX6_examine_219 : decode cX6_examine 219 = .ok (.goto 8, 3) := by decide +kernel
theorem dX6_examine_222 : decode cX6_examine 222 = .ok (.aload_n 0, 1) := by decide +kernel
theorem dX6_examine_223 : decode cX6_examine 223 = .ok (.iconst 2, 1) := by decide +kernel
theorem dX6_examine_224 : decode cX6_examine 224 = .ok (.putfield 11, 3) := by decide +kernel
theorem dX6_examine_227 : decode cX6_examine 227 = .ok (.aload_n 0, 1) := by decide +kernel
theorem dX6_examine_228 : decode cX6_examine 228 = .ok (.getfield 11, 3) := by decide +kernel
theorem dX6_examine_231 : decode cX6_examine 231 = .ok (.ireturn, 1) := by decide +kernel
theorem dX6_reject_0 : decode cX6_reject 0 = .ok (.aload_n 0, 1) := by decide +kernel
theorem dX6_reject_1 : decode cX6_reject 1 = .ok (.iconst 3, 1) := by decide +kernel
theorem dX6_reject_2 : decode cX6_reject 2 = .ok (.putfield 11, 3) := by decide +kernel
theorem dX6_reject_5 : decode cX6_reject 5 = .ok (.aload_n 0, 1) := by decide +kernel
theorem dX6_reject_6 : decode cX6_reject 6 = .ok (.iload_n 1, 1) := by decide +kernel
theorem dX6_reject_7 : decode cX6_reject 7 = .ok (.putfield 55, 3) := by decide +kernel
theorem dX6_reject_10 : decode cX6_reject 10 = .ok (.aload_n 0, 1) := by decide +kernel
theorem dX6_reject_11 : decode cX6_reject 11 = .ok (.iload_n 2, 1) := by decide +kernel
theorem dX6_reject_12 : decode cX6_reject 12 = .ok (.putfield 58, 3) := by decide +kernel
theorem dX6_reject_15 : decode cX6_reject 15 = .ok (.return_, 1) := by decide +kernel
theorem dX6_isFull_0 : decode cX6_isFull 0 = .ok (.aload_n 0, 1) := by decide +kernel
theorem dX6_isFull_1 : decode cX6_isFull 1 = .ok (.getfield 61, 3) := by decide +kernel
theorem dX6_isFull_4 : decode cX6_isFull 4 = .ok (.iload_n 1, 1) := by decide +kernel
theorem dX6_isFull_5 : decode cX6_isFull 5 = .ok (.invokevirtual 67, 3) := by decide +kernel
theorem dX6_isFull_8 : decode cX6_isFull 8 = .ok (.iconst 5, 1) := by decide +kernel
theorem dX6_isFull_9 : decode cX6_isFull 9 = .ok (.if_icmp .lt 7, 3) := by decide +kernel
theorem dX6_isFull_12 : decode cX6_isFull 12 = .ok (.iconst 1, 1) := by decide +kernel
theorem dX6_isFull_13 : decode cX6_isFull 13 = .ok (.goto 4, 3) := by decide +kernel
theorem dX6_isFull_16 : decode cX6_isFull 16 = .ok (.iconst 0, 1) := by decide +kernel
theorem dX6_isFull_17 : decode cX6_isFull 17 = .ok (.ireturn, 1) := by decide +kernel
theorem dX6_examineNewPath_0 : decode cX6_examineNewPath 0 = .ok (.iload_n 2, 1) := by decide +kernel
theorem dX6_examineNewPath_1 : decode cX6_examineNewPath 1 = .ok (.invokestatic 73, 3) := by decide +kernel
theorem dX6_examineNewPath_4 : decode cX6_examineNewPath 4 = .ok (.ifCond .eq 10, 3) := by decide +kernel
theorem dX6_examineNewPath_7 : decode cX6_examineNewPath 7 = .ok (.iload_n 3, 1) := by decide +kernel
theorem dX6_examineNewPath_8 : decode cX6_examineNewPath 8 = .ok (.invokestatic 73, 3) := by decide +kernel
theorem dX6_examineNewPath_11 : decode cX6_examineNewPath 11 = .ok (.ifCond .ne 11, 3) := by decide +kernel
theorem dX6_examineNewPath_14 : decode cX6_examineNewPath 14 = .ok (.aload_n 0, 1) := by decide +kernel
theorem dX6_examineNewPath_15 : decode cX6_examineNewPath 15 = .ok (.iconst 1, 1) := by decide +kernel
theorem dX6_examineNewPath_16 : decode cX6_examineNewPath 16 = .ok (.putfield 11, 3) := by decide +kernel
theorem dX6_examineNewPath_19 : decode cX6_examineNewPath 19 = .ok (.goto 40, 3) := by decide +kernel
theorem dX6_examineNewPath_22 : decode cX6_examineNewPath 22 = .ok (.iload_n 2, 1) := by decide +kernel
theorem dX6_examineNewPath_23 : decode cX6_examineNewPath 23 = .ok (.iload_n 3, 1) := by decide +kernel
theorem dX6_examineNewPath_24 : decode cX6_examineNewPath 24 = .ok (.if_icmp .ne 11, 3) := by decide +kernel
theorem dX6_examineNewPath_27 : decode cX6_examineNewPath 27 = .ok (.aload_n 0, 1) := by decide +kernel
theorem dX6_examineNewPath_28 : decode cX6_examineNewPath 28 = .ok (.iconst 2, 1) := by decide +kernel
theorem dX6_examineNewPath_29 : decode cX6_examineNewPath 29 = .ok (.putfield 11, 3) := by decide +kernel
theorem dX6_examineNewPath_32 : decode cX6_examineNewPath 32 = .ok (.goto 27, 3) := by decide +kernel
theorem dX6_examineNewPath_35 : decode cX6_examineNewPath 35 = .ok (.aload_n 1, 1) := by decide +kernel
theorem dX6_examineNewPath_36 : decode cX6_examineNewPath 36 = .ok (.getfield 77, 3) := by decide +kernel
theorem dX6_examineNewPath_39 : decode cX6_examineNewPath 39 = .ok (.iload_n 2, 1) := by decide +kernel
theorem dX6_examineNewPath_40 : decode cX6_examineNewPath 40 = .ok (.iload_n 3, 1) := by decide +kernel
theorem dX6_examineNewPath_41 : decode cX6_examineNewPath 41 = .ok (.invokevirtual 81, 3) := by decide +kernel
theorem dX6_examineNewPath_44 : decode cX6_examineNewPath 44 = .ok (.ifCond .eq 15, 3) := by decide +kernel
theorem dX6_examineNewPath_47 : decode cX6_examineNewPath 47 = .ok (.aload_n 0, 1) := by decide +kernel
theorem dX6_examineNewPath_48 : decode cX6_examineNewPath 48 = .ok (.iconst 1, 1) := by decide +kernel
theorem dX6_examineNewPath_49 : decode cX6_examineNewPath 49 = .ok (.aload_n 1, 1) := by decide +kernel
theorem dX6_examineNewPath_50 : decode cX6_examineNewPath 50 = .ok (.getfield 77, 3) := by decide +kernel
theorem dX6_examineNewPath_53 : decode cX6_examineNewPath 53 = .ok (.getfield 87, 3) := by decide +kernel
theorem dX6_examineNewPath_56 : decode cX6_examineNewPath 56 = .ok (.invokevirtual 90, 3) := by decide +kernel
theorem dX6_examineNewPath_59 : decode cX6_examineNewPath 59 = .ok (.return_, 1) := by decide +kernel
theorem dX6_examineOldPath_0 : decode cX6_examineOldPath 0 = .ok (.iload_n 2, 1) := by decide +kernel
theorem dX6_examineOldPath_1 : decode cX6_examineOldPath 1 = .ok (.invokestatic 73, 3) := by decide +kernel
theorem dX6_examineOldPath_4 : decode cX6_examineOldPath 4 = .ok (.ifCond .eq 10, 3) := by decide +kernel
theorem dX6_examineOldPath_7 : decode cX6_examineOldPath 7 = .ok (.iload_n 3, 1) := by decide +kernel
theorem dX6_examineOldPath_8 : decode cX6_examineOldPath 8 = .ok (.invokestatic 73, 3) := by decide +kernel
theorem dX6_examineOldPath_11 : decode cX6_examineOldPath 11 = .ok (.ifCond .ne 11, 3) := by decide +kernel
theorem dX6_examineOldPath_14 : decode cX6_examineOldPath 14 = .ok (.aload_n 0, 1) := by decide +kernel
theorem dX6_examineOldPath_15 : decode cX6_examineOldPath 15 = .ok (.iconst 1, 1) := by decide +kernel
theorem dX6_examineOldPath_16 : decode cX6_examineOldPath 16 = .ok (.putfield 11, 3) := by decide +kernel
theorem dX6_examineOldPath_19 : decode cX6_examineOldPath 19 = .ok (.goto 42, 3) := by decide +kernel
theorem dX6_examineOldPath_22 : decode cX6_examineOldPath 22 = .ok (.iload_n 2, 1) := by decide +kernel
theorem dX6_examineOldPath_23 : decode cX6_examineOldPath 23 = .ok (.iload_n 3, 1) := by decide +kernel
theorem dX6_examineOldPath_24 : decode cX6_examineOldPath 24 = .ok (.if_icmp .ne 11, 3) := by decide +kernel
theorem dX6_examineOldPath_27 : decode cX6_examineOldPath 27 = .ok (.aload_n 0, 1) := by decide +kernel
theorem dX6_examineOldPath_28 : decode cX6_examineOldPath 28 = .ok (.iconst 2, 1) := by decide +kernel
theorem dX6_examineOldPath_29 : decode cX6_examineOldPath 29 = .ok (.putfield 11, 3) := by decide +kernel
theorem dX6_examineOldPath_32 : decode cX6_examineOldPath 32 = .ok (.goto 29, 3) := by decide +kernel
theorem dX6_examineOldPath_35 : decode cX6_examineOldPath 35 = .ok (.aload_n 1, 1) := by decide +kernel
theorem dX6_examineOldPath_36 : decode cX6_examineOldPath 36 = .ok (.getfield 77, 3) := by decide +kernel
theorem dX6_examineOldPath_39 : decode cX6_examineOldPath 39 = .ok (.iload_n 2, 1) := by decide +kernel
theorem dX6_examineOldPath_40 : decode cX6_examineOldPath 40 = .ok (.iload_n 3, 1) := by decide +kernel
theorem dX6_examineOldPath_41 : decode cX6_examineOldPath 41 = .ok (.invokevirtual 81, 3) := by decide +kernel
theorem dX6_examineOldPath_44 : decode cX6_examineOldPath 44 = .ok (.ifCond .ne 17, 3) := by decide +kernel
theorem dX6_examineOldPath_47 : decode cX6_examineOldPath 47 = .ok (.aload_n 0, 1) := by decide +kernel
theorem dX6_examineOldPath_48 : decode cX6_examineOldPath 48 = .ok (.iconst 2, 1) := by decide +kernel
theorem dX6_examineOldPath_49 : decode cX6_examineOldPath 49 = .ok (.aload_n 1, 1) := by decide +kernel
theorem dX6_examineOldPath_50 : decode cX6_examineOldPath 50 = .ok (.getfield 77, 3) := by decide +kernel
theorem dX6_examineOldPath_53 : decode cX6_examineOldPath 53 = .ok (.iload_n 2, 1) := by decide +kernel
theorem dX6_examineOldPath_54 : decode cX6_examineOldPath 54 = .ok (.iload_n 3, 1) := by decide +kernel
theorem dX6_examineOldPath_55 : decode cX6_examineOldPath 55 = .ok (.invokevirtual 93, 3) := by decide +kernel
theorem dX6_examineOldPath_58 : decode cX6_examineOldPath 58 = .ok (.invokevirtual 90, 3) := by decide +kernel
theorem dX6_examineOldPath_61 : decode cX6_examineOldPath 61 = .ok (.return_, 1) := by decide +kernel
theorem dX6_examineShade_0 : decode cX6_examineShade 0 = .ok (.iload_n 1, 1) := by decide +kernel
theorem dX6_examineShade_1 : decode cX6_examineShade 1 = .ok (.invokestatic 73, 3) := by decide +kernel
theorem dX6_examineShade_4 : decode cX6_examineShade 4 = .ok (.ifCond .ne 11, 3) := by decide +kernel
theorem dX6_examineShade_7 : decode cX6_examineShade 7 = .ok (.aload_n 0, 1) := by decide +kernel
theorem dX6_examineShade_8 : decode cX6_examineShade 8 = .ok (.iconst 1, 1) := by decide +kernel
theorem dX6_examineShade_9 : decode cX6_examineShade 9 = .ok (.putfield 11, 3) := by decide +kernel
theorem dX6_examineShade_12 : decode cX6_examineShade 12 = .ok (.goto 18, 3) := by decide +kernel
theorem dX6_examineShade_15 : decode cX6_examineShade 15 = .ok (.iload_n 2, 1) := by decide +kernel
theorem dX6_examineShade_16 : decode cX6_examineShade 16 = .ok (.ifCond .lt 9, 3) := by decide +kernel
theorem dX6_examineShade_19 : decode cX6_examineShade 19 = .ok (.iload_n 2, 1) := by decide +kernel
theorem dX6_examineShade_20 : decode cX6_examineShade 20 = .ok (.bipush 20, 2) := by decide +kernel
theorem dX6_examineShade_22 : decode cX6_examineShade 22 = .ok (.if_icmp .le 8, 3) := by decide +kernel
theorem dX6_examineShade_25 : decode cX6_examineShade 25 = .ok (.aload_n 0, 1) := by decide +kernel
theorem dX6_examineShade_26 : decode cX6_examineShade 26 = .ok (.iconst 2, 1) := by decide +kernel
theorem dX6_examineShade_27 : decode cX6_examineShade 27 = .ok (.putfield 11, 3) := by decide +kernel
theorem dX6_examineShade_30 : decode cX6_examineShade 30 = .ok (.return_, 1) := by decide +kernel
theorem dX6_examineNewChair_0 : decode cX6_examineNewChair 0 = .ok (.iload_n 2, 1) := by decide +kernel
theorem dX6_examineNewChair_1 : decode cX6_examineNewChair 1 = .ok (.invokestatic 73, 3) := by decide +kernel
theorem dX6_examineNewChair_4 : decode cX6_examineNewChair 4 = .ok (.ifCond .ne 11, 3) := by decide +kernel
theorem dX6_examineNewChair_7 : decode cX6_examineNewChair 7 = .ok (.aload_n 0, 1) := by decide +kernel
theorem dX6_examineNewChair_8 : decode cX6_examineNewChair 8 = .ok (.iconst 1, 1) := by decide +kernel
theorem dX6_examineNewChair_9 : decode cX6_examineNewChair 9 = .ok (.putfield 11, 3) := by decide +kernel
theorem dX6_examineNewChair_12 : decode cX6_examineNewChair 12 = .ok (.goto 54, 3) := by decide +kernel
theorem dX6_examineNewChair_15 : decode cX6_examineNewChair 15 = .ok (.iload_n 3, 1) := by decide +kernel
theorem dX6_examineNewChair_16 : decode cX6_examineNewChair 16 = .ok (.ifCond .lt 9, 3) := by decide +kernel
theorem dX6_examineNewChair_19 : decode cX6_examineNewChair 19 = .ok (.iload_n 3, 1) := by decide +kernel
theorem dX6_examineNewChair_20 : decode cX6_examineNewChair 20 = .ok (.bipush 9, 2) := by decide +kernel
theorem dX6_examineNewChair_22 : decode cX6_examineNewChair 22 = .ok (.if_icmp .le 11, 3) := by decide +kernel
theorem dX6_examineNewChair_25 : decode cX6_examineNewChair 25 = .ok (.aload_n 0, 1) := by decide +kernel
theorem dX6_examineNewChair_26 : decode cX6_examineNewChair 26 = .ok (.iconst 2, 1) := by decide +kernel
theorem dX6_examineNewChair_27 : decode cX6_examineNewChair 27 = .ok (.putfield 11, 3) := by decide +kernel
theorem dX6_examineNewChair_30 : decode cX6_examineNewChair 30 = .ok (.goto 36, 3) := by decide +kernel
theorem dX6_examineNewChair_33 : decode cX6_examineNewChair 33 = .ok (.aload_n 1, 1) := by decide +kernel
theorem dX6_examineNewChair_34 : decode cX6_examineNewChair 34 = .ok (.getfield 97, 3) := by decide +kernel
theorem dX6_examineNewChair_37 : decode cX6_examineNewChair 37 = .ok (.bipush 12, 2) := by decide +kernel
theorem dX6_examineNewChair_39 : decode cX6_examineNewChair 39 = .ok (.if_icmp .lt 13, 3) := by decide +kernel
theorem dX6_examineNewChair_42 : decode cX6_examineNewChair 42 = .ok (.aload_n 0, 1) := by decide +kernel
theorem dX6_examineNewChair_43 : decode cX6_examineNewChair 43 = .ok (.iconst 3, 1) := by decide +kernel
theorem dX6_examineNewChair_44 : decode cX6_examineNewChair 44 = .ok (.bipush 12, 2) := by decide +kernel
theorem dX6_examineNewChair_46 : decode cX6_examineNewChair 46 = .ok (.invokevirtual 90, 3) := by decide +kernel
theorem dX6_examineNewChair_49 : decode cX6_examineNewChair 49 = .ok (.goto 17, 3) := by decide +kernel
theorem dX6_examineNewChair_52 : decode cX6_examineNewChair 52 = .ok (.aload_n 1, 1) := by decide +kernel
theorem dX6_examineNewChair_53 : decode cX6_examineNewChair 53 = .ok (.iload_n 2, 1) := by decide +kernel
theorem dX6_examineNewChair_54 : decode cX6_examineNewChair 54 = .ok (.invokestatic 100, 3) := by decide +kernel
theorem dX6_examineNewChair_57 : decode cX6_examineNewChair 57 = .ok (.ifCond .eq 9, 3) := by decide +kernel
theorem dX6_examineNewChair_60 : decode cX6_examineNewChair 60 = .ok (.aload_n 0, 1) := by decide +kernel
theorem dX6_examineNewChair_61 : decode cX6_examineNewChair 61 = .ok (.iconst 4, 1) := by decide +kernel
theorem dX6_examineNewChair_62 : decode cX6_examineNewChair 62 = .ok (.iload_n 2, 1) := by decide +kernel
theorem dX6_examineNewChair_63 : decode cX6_examineNewChair 63 = .ok (.invokevirtual 90, 3) := by decide +kernel
theorem dX6_examineNewChair_66 : decode cX6_examineNewChair 66 = .ok (.return_, 1) := by decide +kernel
theorem dX6_examineScrapping_0 : decode cX6_examineScrapping 0 = .ok (.aload_n 1, 1) := by decide +kernel
theorem dX6_examineScrapping_1 : decode cX6_examineScrapping 1 = .ok (.iload_n 2, 1) := by decide +kernel
theorem dX6_examineScrapping_2 : decode cX6_examineScrapping 2 = .ok (.invokevirtual 104, 3) := by decide +kernel
theorem dX6_examineScrapping_5 : decode cX6_examineScrapping 5 = .ok (.ifnonnull 8, 3) := by decide +kernel
theorem dX6_examineScrapping_8 : decode cX6_examineScrapping 8 = .ok (.aload_n 0, 1) := by decide +kernel
theorem dX6_examineScrapping_9 : decode cX6_examineScrapping 9 = .ok (.iconst 1, 1) := by decide +kernel
theorem dX6_examineScrapping_10 : decode cX6_examineScrapping 10 = .ok (.putfield 11, 3) := by decide +kernel
theorem dX6_examineScrapping_13 : decode cX6_examineScrapping 13 = .ok (.return_, 1) := by decide +kernel
theorem dX6_examineFolding_0 : decode cX6_examineFolding 0 = .ok (.aload_n 1, 1) := by decide +kernel
theorem dX6_examineFolding_1 : decode cX6_examineFolding 1 = .ok (.iload_n 2, 1) := by decide +kernel
theorem dX6_examineFolding_2 : decode cX6_examineFolding 2 = .ok (.invokevirtual 104, 3) := by decide +kernel
theorem dX6_examineFolding_5 : decode cX6_examineFolding 5 = .ok (.astore_n 3, 1) := by decide +kernel
theorem dX6_examineFolding_6 : decode cX6_examineFolding 6 = .ok (.aload_n 3, 1) := by decide +kernel
theorem dX6_examineFolding_7 : decode cX6_examineFolding 7 = .ok (.ifnonnull 11, 3) := by decide +kernel
theorem dX6_examineFolding_10 : decode cX6_examineFolding 10 = .ok (.aload_n 0, 1) := by decide +kernel
theorem dX6_examineFolding_11 : decode cX6_examineFolding 11 = .ok (.iconst 1, 1) := by decide +kernel
theorem dX6_examineFolding_12 : decode cX6_examineFolding 12 = .ok (.putfield 11, 3) := by decide +kernel
theorem dX6_examineFolding_15 : decode cX6_examineFolding 15 = .ok (.goto 16, 3) := by decide +kernel
theorem dX6_examineFolding_18 : decode cX6_examineFolding 18 = .ok (.aload_n 3, 1) := by decide +kernel
theorem dX6_examineFolding_19 : decode cX6_examineFolding 19 = .ok (.getfield 108, 3) := by decide +kernel
theorem dX6_examineFolding_22 : decode cX6_examineFolding 22 = .ok (.ifCond .eq 9, 3) := by decide +kernel
theorem dX6_examineFolding_25 : decode cX6_examineFolding 25 = .ok (.aload_n 0, 1) := by decide +kernel
theorem dX6_examineFolding_26 : decode cX6_examineFolding 26 = .ok (.iconst 5, 1) := by decide +kernel
theorem dX6_examineFolding_27 : decode cX6_examineFolding 27 = .ok (.iload_n 2, 1) := by decide +kernel
theorem dX6_examineFolding_28 : decode cX6_examineFolding 28 = .ok (.invokevirtual 90, 3) := by decide +kernel
theorem dX6_examineFolding_31 : decode cX6_examineFolding 31 = .ok (.return_, 1) := by decide +kernel
theorem dX6_examineUnfolding_0 : decode cX6_examineUnfolding 0 = .ok (.aload_n 1, 1) := by decide +kernel
theorem dX6_examineUnfolding_1 : decode cX6_examineUnfolding 1 = .ok (.iload_n 2, 1) := by decide +kernel
theorem dX6_examineUnfolding_2 : decode cX6_examineUnfolding 2 = .ok (.invokevirtual 104, 3) := by decide +kernel
theorem dX6_examineUnfolding_5 : decode cX6_examineUnfolding 5 = .ok (.astore_n 3, 1) := by decide +kernel
theorem dX6_examineUnfolding_6 : decode cX6_examineUnfolding 6 = .ok (.aload_n 3, 1) := by decide +kernel
theorem dX6_examineUnfolding_7 : decode cX6_examineUnfolding 7 = .ok (.ifnonnull 11, 3) := by decide +kernel
theorem dX6_examineUnfolding_10 : decode cX6_examineUnfolding 10 = .ok (.aload_n 0, 1) := by decide +kernel
theorem dX6_examineUnfolding_11 : decode cX6_examineUnfolding 11 = .ok (.iconst 1, 1) := by decide +kernel
theorem dX6_examineUnfolding_12 : decode cX6_examineUnfolding 12 = .ok (.putfield 11, 3) := by decide +kernel
theorem dX6_examineUnfolding_15 : decode cX6_examineUnfolding 15 = .ok (.goto 17, 3) := by decide +kernel
theorem dX6_examineUnfolding_18 : decode cX6_examineUnfolding 18 = .ok (.aload_n 3, 1) := by decide +kernel
theorem dX6_examineUnfolding_19 : decode cX6_examineUnfolding 19 = .ok (.getfield 108, 3) := by decide +kernel
theorem dX6_examineUnfolding_22 : decode cX6_examineUnfolding 22 = .ok (.ifCond .ne 10, 3) := by decide +kernel
theorem dX6_examineUnfolding_25 : decode cX6_examineUnfolding 25 = .ok (.aload_n 0, 1) := by decide +kernel
theorem dX6_examineUnfolding_26 : decode cX6_examineUnfolding 26 = .ok (.bipush 6, 2) := by decide +kernel
theorem dX6_examineUnfolding_28 : decode cX6_examineUnfolding 28 = .ok (.iload_n 2, 1) := by decide +kernel
theorem dX6_examineUnfolding_29 : decode cX6_examineUnfolding 29 = .ok (.invokevirtual 90, 3) := by decide +kernel
theorem dX6_examineUnfolding_32 : decode cX6_examineUnfolding 32 = .ok (.return_, 1) := by decide +kernel
theorem dX6_examineOiling_0 : decode cX6_examineOiling 0 = .ok (.aload_n 1, 1) := by decide +kernel
theorem dX6_examineOiling_1 : decode cX6_examineOiling 1 = .ok (.iload_n 2, 1) := by decide +kernel
theorem dX6_examineOiling_2 : decode cX6_examineOiling 2 = .ok (.invokevirtual 104, 3) := by decide +kernel
theorem dX6_examineOiling_5 : decode cX6_examineOiling 5 = .ok (.astore_n 3, 1) := by decide +kernel
theorem dX6_examineOiling_6 : decode cX6_examineOiling 6 = .ok (.aload_n 3, 1) := by decide +kernel
theorem dX6_examineOiling_7 : decode cX6_examineOiling 7 = .ok (.ifnonnull 11, 3) := by decide +kernel
theorem dX6_examineOiling_10 : decode cX6_examineOiling 10 = .ok (.aload_n 0, 1) := by decide +kernel
theorem dX6_examineOiling_11 : decode cX6_examineOiling 11 = .ok (.iconst 1, 1) := by decide +kernel
theorem dX6_examineOiling_12 : decode cX6_examineOiling 12 = .ok (.putfield 11, 3) := by decide +kernel
theorem dX6_examineOiling_15 : decode cX6_examineOiling 15 = .ok (.goto 40, 3) := by decide +kernel
theorem dX6_examineOiling_18 : decode cX6_examineOiling 18 = .ok (.aload_n 3, 1) := by decide +kernel
theorem dX6_examineOiling_19 : decode cX6_examineOiling 19 = .ok (.getfield 114, 3) := by decide +kernel
theorem dX6_examineOiling_22 : decode cX6_examineOiling 22 = .ok (.ifCond .ne 16, 3) := by decide +kernel
theorem dX6_examineOiling_25 : decode cX6_examineOiling 25 = .ok (.aload_n 0, 1) := by decide +kernel
theorem dX6_examineOiling_26 : decode cX6_examineOiling 26 = .ok (.bipush 8, 2) := by decide +kernel
theorem dX6_examineOiling_28 : decode cX6_examineOiling 28 = .ok (.aload_n 1, 1) := by decide +kernel
theorem dX6_examineOiling_29 : decode cX6_examineOiling 29 = .ok (.getfield 117, 3) := by decide +kernel
theorem dX6_examineOiling_32 : decode cX6_examineOiling 32 = .ok (.invokevirtual 90, 3) := by decide +kernel
theorem dX6_examineOiling_35 : decode cX6_examineOiling 35 = .ok (.goto 20, 3) := by decide +kernel
theorem dX6_examineOiling_38 : decode cX6_examineOiling 38 = .ok (.aload_n 1, 1) := by decide +kernel
theorem dX6_examineOiling_39 : decode cX6_examineOiling 39 = .ok (.getfield 117, 3) := by decide +kernel
theorem dX6_examineOiling_42 : decode cX6_examineOiling 42 = .ok (.ifCond .ne 13, 3) := by decide +kernel
theorem dX6_examineOiling_45 : decode cX6_examineOiling 45 = .ok (.aload_n 0, 1) := by decide +kernel
theorem dX6_examineOiling_46 : decode cX6_examineOiling 46 = .ok (.bipush 9, 2) := by decide +kernel
theorem dX6_examineOiling_48 : decode cX6_examineOiling 48 = .ok (.aload_n 3, 1) := by decide +kernel
theorem dX6_examineOiling_49 : decode cX6_examineOiling 49 = .ok (.getfield 114, 3) := by decide +kernel
theorem dX6_examineOiling_52 : decode cX6_examineOiling 52 = .ok (.invokevirtual 90, 3) := by decide +kernel
theorem dX6_examineOiling_55 : decode cX6_examineOiling 55 = .ok (.return_, 1) := by decide +kernel
theorem dX6_examineMove_0 : decode cX6_examineMove 0 = .ok (.aload_n 1, 1) := by decide +kernel
theorem dX6_examineMove_1 : decode cX6_examineMove 1 = .ok (.iload_n 2, 1) := by decide +kernel
theorem dX6_examineMove_2 : decode cX6_examineMove 2 = .ok (.invokevirtual 104, 3) := by decide +kernel
theorem dX6_examineMove_5 : decode cX6_examineMove 5 = .ok (.astore 4, 2) := by decide +kernel
theorem dX6_examineMove_7 : decode cX6_examineMove 7 = .ok (.aload 4, 2) := by decide +kernel
theorem dX6_examineMove_9 : decode cX6_examineMove 9 = .ok (.ifnull 10, 3) := by decide +kernel
theorem dX6_examineMove_12 : decode cX6_examineMove 12 = .ok (.iload_n 3, 1) := by decide +kernel
theorem dX6_examineMove_13 : decode cX6_examineMove 13 = .ok (.invokestatic 73, 3) := by decide +kernel
theorem dX6_examineMove_16 : decode cX6_examineMove 16 = .ok (.ifCond .ne 11, 3) := by decide +kernel
theorem dX6_examineMove_19 : decode cX6_examineMove 19 = .ok (.aload_n 0, 1) := by decide +kernel
theorem dX6_examineMove_20 : decode cX6_examineMove 20 = .ok (.iconst 1, 1) := by decide +kernel
theorem dX6_examineMove_21 : decode cX6_examineMove 21 = .ok (.putfield 11, 3) := by decide +kernel
theorem dX6_examineMove_24 : decode cX6_examineMove 24 = .ok (.goto 71, 3) := by decide +kernel
theorem dX6_examineMove_27 : decode cX6_examineMove 27 = .ok (.aload 4, 2) := by decide +kernel
theorem dX6_examineMove_29 : decode cX6_examineMove 29 = .ok (.getfield 108, 3) := by decide +kernel
theorem dX6_examineMove_32 : decode cX6_examineMove 32 = .ok (.ifCond .eq 12, 3) := by decide +kernel
theorem dX6_examineMove_35 : decode cX6_examineMove 35 = .ok (.aload_n 0, 1) := by decide +kernel
theorem dX6_examineMove_36 : decode cX6_examineMove 36 = .ok (.iconst 5, 1) := by decide +kernel
theorem dX6_examineMove_37 : decode cX6_examineMove 37 = .ok (.iload_n 2, 1) := by decide +kernel
theorem dX6_examineMove_38 : decode cX6_examineMove 38 = .ok (.invokevirtual 90, 3) := by decide +kernel
theorem dX6_examineMove_41 : decode cX6_examineMove 41 = .ok (.goto 54, 3) := by decide +kernel
theorem dX6_examineMove_44 : decode cX6_examineMove 44 = .ok (.aload_n 1, 1) := by decide +kernel
theorem dX6_examineMove_45 : decode cX6_examineMove 45 = .ok (.getfield 77, 3) := by decide +kernel
theorem dX6_examineMove_48 : decode cX6_examineMove 48 = .ok (.aload 4, 2) := by decide +kernel
theorem dX6_examineMove_50 : decode cX6_examineMove 50 = .ok (.getfield 120, 3) := by decide +kernel
theorem dX6_examineMove_53 : decode cX6_examineMove 53 = .ok (.iload_n 3, 1) := by decide +kernel
theorem dX6_examineMove_54 : decode cX6_examineMove 54 = .ok (.invokevirtual 81, 3) := by decide +kernel
theorem dX6_examineMove_57 : decode cX6_examineMove 57 = .ok (.ifCond .ne 24, 3) := by decide +kernel
theorem dX6_examineMove_60 : decode cX6_examineMove 60 = .ok (.aload_n 0, 1) := by decide +kernel
theorem dX6_examineMove_61 : decode cX6_examineMove 61 = .ok (.iconst 2, 1) := by decide +kernel
theorem dX6_examineMove_62 : decode cX6_examineMove 62 = .ok (.aload_n 1, 1) := by decide +kernel
theorem dX6_examineMove_63 : decode cX6_examineMove 63 = .ok (.getfield 77, 3) := by decide +kernel
theorem dX6_examineMove_66 : decode cX6_examineMove 66 = .ok (.aload 4, 2) := by decide +kernel
theorem dX6_examineMove_68 : decode cX6_examineMove 68 = .ok (.getfield 120, 3) := by decide +kernel
theorem dX6_examineMove_71 : decode cX6_examineMove 71 = .ok (.iload_n 3, 1) := by decide +kernel
theorem dX6_examineMove_72 : decode cX6_examineMove 72 = .ok (.invokevirtual 93, 3) := by decide +kernel
theorem dX6_examineMove_75 : decode cX6_examineMove 75 = .ok (.invokevirtual 90, 3) := by decide +kernel
theorem dX6_examineMove_78 : decode cX6_examineMove 78 = .ok (.goto 17, 3) := by decide +kernel
theorem dX6_examineMove_81 : decode cX6_examineMove 81 = .ok (.aload_n 1, 1) := by decide +kernel
theorem dX6_examineMove_82 : decode cX6_examineMove 82 = .ok (.iload_n 3, 1) := by decide +kernel
theorem dX6_examineMove_83 : decode cX6_examineMove 83 = .ok (.invokestatic 100, 3) := by decide +kernel
theorem dX6_examineMove_86 : decode cX6_examineMove 86 = .ok (.ifCond .eq 9, 3) := by decide +kernel
theorem dX6_examineMove_89 : decode cX6_examineMove 89 = .ok (.aload_n 0, 1) := by decide +kernel
theorem dX6_examineMove_90 : decode cX6_examineMove 90 = .ok (.iconst 4, 1) := by decide +kernel
theorem dX6_examineMove_91 : decode cX6_examineMove 91 = .ok (.iload_n 3, 1) := by decide +kernel
theorem dX6_examineMove_92 : decode cX6_examineMove 92 = .ok (.invokevirtual 90, 3) := by decide +kernel
theorem dX6_examineMove_95 : decode cX6_examineMove 95 = .ok (.return_, 1) := by decide +kernel
theorem dX6_examineMigration_0 : decode cX6_examineMigration 0 = .ok (.iload_n 2, 1) := by decide +kernel
theorem dX6_examineMigration_1 : decode cX6_examineMigration 1 = .ok (.invokestatic 73, 3) := by decide +kernel
theorem dX6_examineMigration_4 : decode cX6_examineMigration 4 = .ok (.ifCond .eq 10, 3) := by decide +kernel
theorem dX6_examineMigration_7 : decode cX6_examineMigration 7 = .ok (.iload_n 3, 1) := by decide +kernel
theorem dX6_examineMigration_8 : decode cX6_examineMigration 8 = .ok (.invokestatic 73, 3) := by decide +kernel
theorem dX6_examineMigration_11 : decode cX6_examineMigration 11 = .ok (.ifCond .ne 11, 3) := by decide +kernel
theorem dX6_examineMigration_14 : decode cX6_examineMigration 14 = .ok (.aload_n 0, 1) := by decide +kernel
theorem dX6_examineMigration_15 : decode cX6_examineMigration 15 = .ok (.iconst 1, 1) := by decide +kernel
theorem dX6_examineMigration_16 : decode cX6_examineMigration 16 = .ok (.putfield 11, 3) := by decide +kernel
theorem dX6_examineMigration_19 : decode cX6_examineMigration 19 = .ok (.goto 71, 3) := by decide +kernel
theorem dX6_examineMigration_22 : decode cX6_examineMigration 22 = .ok (.aload_n 1, 1) := by decide +kernel
theorem dX6_examineMigration_23 : decode cX6_examineMigration 23 = .ok (.getfield 77, 3) := by decide +kernel
theorem dX6_examineMigration_26 : decode cX6_examineMigration 26 = .ok (.iload_n 2, 1) := by decide +kernel
theorem dX6_examineMigration_27 : decode cX6_examineMigration 27 = .ok (.iload_n 3, 1) := by decide +kernel
theorem dX6_examineMigration_28 : decode cX6_examineMigration 28 = .ok (.invokevirtual 81, 3) := by decide +kernel
theorem dX6_examineMigration_31 : decode cX6_examineMigration 31 = .ok (.ifCond .ne 20, 3) := by decide +kernel
theorem dX6_examineMigration_34 : decode cX6_examineMigration 34 = .ok (.aload_n 0, 1) := by decide +kernel
theorem dX6_examineMigration_35 : decode cX6_examineMigration 35 = .ok (.iconst 2, 1) := by decide +kernel
theorem dX6_examineMigration_36 : decode cX6_examineMigration 36 = .ok (.aload_n 1, 1) := by decide +kernel
theorem dX6_examineMigration_37 : decode cX6_examineMigration 37 = .ok (.getfield 77, 3) := by decide +kernel
theorem dX6_examineMigration_40 : decode cX6_examineMigration 40 = .ok (.iload_n 2, 1) := by decide +kernel
theorem dX6_examineMigration_41 : decode cX6_examineMigration 41 = .ok (.iload_n 3, 1) := by decide +kernel
theorem dX6_examineMigration_42 : decode cX6_examineMigration 42 = .ok (.invokevirtual 93, 3) := by decide +kernel
theorem dX6_examineMigration_45 : decode cX6_examineMigration 45 = .ok (.invokevirtual 90, 3) := by decide +kernel
theorem dX6_examineMigration_48 : decode cX6_examineMigration 48 = .ok (.goto 42, 3) := by decide +kernel
theorem dX6_examineMigration_51 : decode cX6_examineMigration 51 = .ok (.aload_n 1, 1) := by decide +kernel
theorem dX6_examineMigration_52 : decode cX6_examineMigration 52 = .ok (.iload_n 2, 1) := by decide +kernel
theorem dX6_examineMigration_53 : decode cX6_examineMigration 53 = .ok (.invokevirtual 123, 3) := by decide +kernel
theorem dX6_examineMigration_56 : decode cX6_examineMigration 56 = .ok (.ifCond .ne 20, 3) := by decide +kernel
theorem dX6_examineMigration_59 : decode cX6_examineMigration 59 = .ok (.aload_n 0, 1) := by decide +kernel
theorem dX6_examineMigration_60 : decode cX6_examineMigration 60 = .ok (.bipush 7, 2) := by decide +kernel
theorem dX6_examineMigration_62 : decode cX6_examineMigration 62 = .ok (.aload_n 1, 1) := by decide +kernel
theorem dX6_examineMigration_63 : decode cX6_examineMigration 63 = .ok (.getfield 61, 3) := by decide +kernel
theorem dX6_examineMigration_66 : decode cX6_examineMigration 66 = .ok (.iload_n 2, 1) := by decide +kernel
theorem dX6_examineMigration_67 : decode cX6_examineMigration 67 = .ok (.invokevirtual 67, 3) := by decide +kernel
theorem dX6_examineMigration_70 : decode cX6_examineMigration 70 = .ok (.invokevirtual 90, 3) := by decide +kernel
theorem dX6_examineMigration_73 : decode cX6_examineMigration 73 = .ok (.goto 17, 3) := by decide +kernel
theorem dX6_examineMigration_76 : decode cX6_examineMigration 76 = .ok (.aload_n 1, 1) := by decide +kernel
theorem dX6_examineMigration_77 : decode cX6_examineMigration 77 = .ok (.iload_n 3, 1) := by decide +kernel
theorem dX6_examineMigration_78 : decode cX6_examineMigration 78 = .ok (.invokestatic 100, 3) := by decide +kernel
theorem dX6_examineMigration_81 : decode cX6_examineMigration 81 = .ok (.ifCond .eq 9, 3) := by decide +kernel
theorem dX6_examineMigration_84 : decode cX6_examineMigration 84 = .ok (.aload_n 0, 1) := by decide +kernel
theorem dX6_examineMigration_85 : decode cX6_examineMigration 85 = .ok (.iconst 4, 1) := by decide +kernel
theorem dX6_examineMigration_86 : decode cX6_examineMigration 86 = .ok (.iload_n 3, 1) := by decide +kernel
theorem dX6_examineMigration_87 : decode cX6_examineMigration 87 = .ok (.invokevirtual 90, 3) := by decide +kernel
theorem dX6_examineMigration_90 : decode cX6_examineMigration 90 = .ok (.return_, 1) := by decide +kernel
theorem dX6_examineNewOil_0 : decode cX6_examineNewOil 0 = .ok (.iload_n 2, 1) := by decide +kernel
theorem dX6_examineNewOil_1 : decode cX6_examineNewOil 1 = .ok (.iconst 1, 1) := by decide +kernel
theorem dX6_examineNewOil_2 : decode cX6_examineNewOil 2 = .ok (.if_icmp .lt 9, 3) := by decide +kernel
theorem dX6_examineNewOil_5 : decode cX6_examineNewOil 5 = .ok (.iload_n 2, 1) := by decide +kernel
theorem dX6_examineNewOil_6 : decode cX6_examineNewOil 6 = .ok (.bipush 10, 2) := by decide +kernel
theorem dX6_examineNewOil_8 : decode cX6_examineNewOil 8 = .ok (.if_icmp .le 11, 3) := by decide +kernel
theorem dX6_examineNewOil_11 : decode cX6_examineNewOil 11 = .ok (.aload_n 0, 1) := by decide +kernel
theorem dX6_examineNewOil_12 : decode cX6_examineNewOil 12 = .ok (.iconst 2, 1) := by decide +kernel
theorem dX6_examineNewOil_13 : decode cX6_examineNewOil 13 = .ok (.putfield 11, 3) := by decide +kernel
theorem dX6_examineNewOil_16 : decode cX6_examineNewOil 16 = .ok (.goto 24, 3) := by decide +kernel
theorem dX6_examineNewOil_19 : decode cX6_examineNewOil 19 = .ok (.aload_n 1, 1) := by decide +kernel
theorem dX6_examineNewOil_20 : decode cX6_examineNewOil 20 = .ok (.getfield 117, 3) := by decide +kernel
theorem dX6_examineNewOil_23 : decode cX6_examineNewOil 23 = .ok (.iload_n 2, 1) := by decide +kernel
theorem dX6_examineNewOil_24 : decode cX6_examineNewOil 24 = .ok (.iadd, 1) := by decide +kernel
theorem dX6_examineNewOil_25 : decode cX6_examineNewOil 25 = .ok (.bipush 20, 2) := by decide +kernel
theorem dX6_examineNewOil_27 : decode cX6_examineNewOil 27 = .ok (.if_icmp .le 13, 3) := by decide +kernel
theorem dX6_examineNewOil_30 : decode cX6_examineNewOil 30 = .ok (.aload_n 0, 1) := by decide +kernel
theorem dX6_examineNewOil_31 : decode cX6_examineNewOil 31 = .ok (.bipush 10, 2) := by decide +kernel
theorem dX6_examineNewOil_33 : decode cX6_examineNewOil 33 = .ok (.aload_n 1, 1) := by decide +kernel
theorem dX6_examineNewOil_34 : decode cX6_examineNewOil 34 = .ok (.getfield 117, 3) := by decide +kernel
theorem dX6_examineNewOil_37 : decode cX6_examineNewOil 37 = .ok (.invokevirtual 90, 3) := by decide +kernel
theorem dX6_examineNewOil_40 : decode cX6_examineNewOil 40 = .ok (.return_, 1) := by decide +kernel
theorem dX6_examineDays_0 : decode cX6_examineDays 0 = .ok (.iload_n 1, 1) := by decide +kernel
theorem dX6_examineDays_1 : decode cX6_examineDays 1 = .ok (.invokestatic 126, 3) := by decide +kernel
theorem dX6_examineDays_4 : decode cX6_examineDays 4 = .ok (.ifCond .ne 8, 3) := by decide +kernel
theorem dX6_examineDays_7 : decode cX6_examineDays 7 = .ok (.aload_n 0, 1) := by decide +kernel
theorem dX6_examineDays_8 : decode cX6_examineDays 8 = .ok (.iconst 2, 1) := by decide +kernel
theorem dX6_examineDays_9 : decode cX6_examineDays 9 = .ok (.putfield 11, 3) := by decide +kernel
theorem dX6_examineDays_12 : decode cX6_examineDays 12 = .ok (.return_, 1) := by decide +kernel
theorem dX7_init_0 : decode cX7_init 0 = .ok (.aload_n 0, 1) := by decide +kernel
theorem dX7_init_1 : decode cX7_init 1 = .ok (.invokespecial 3, 3) := by decide +kernel
theorem dX7_init_4 : decode cX7_init 4 = .ok (.aload_n 0, 1) := by decide +kernel
theorem dX7_init_5 : decode cX7_init 5 = .ok (.bipush 6, 2) := by decide +kernel
theorem dX7_init_7 : decode cX7_init 7 = .ok (.newarray .int, 2) := by decide +kernel
theorem dX7_init_9 : decode cX7_init 9 = .ok (.putfield 9, 3) := by decide +kernel
theorem dX7_init_12 : decode cX7_init 12 = .ok (.return_, 1) := by decide +kernel
theorem dX7_at_0 : decode cX7_at 0 = .ok (.iload_n 1, 1) := by decide +kernel
theorem dX7_at_1 : decode cX7_at 1 = .ok (.ifCond .lt 18, 3) := by decide +kernel
theorem dX7_at_4 : decode cX7_at 4 = .ok (.iload_n 1, 1) := by decide +kernel
theorem dX7_at_5 : decode cX7_at 5 = .ok (.bipush 6, 2) := by decide +kernel
theorem dX7_at_7 : decode cX7_at 7 = .ok (.if_icmp .ge 12, 3) := by decide +kernel
theorem dX7_at_10 : decode cX7_at 10 = .ok (.aload_n 0, 1) := by decide +kernel
theorem dX7_at_11 : decode cX7_at 11 = .ok (.getfield 9, 3) := by decide +kernel
theorem dX7_at_14 : decode cX7_at 14 = .ok (.iload_n 1, 1) := by decide +kernel
theorem dX7_at_15 : decode cX7_at 15 = .ok (.iaload, 1) := by decide +kernel
theorem dX7_at_16 : decode cX7_at 16 = .ok (.goto 4, 3) := by decide +kernel
theorem dX7_at_19 : decode cX7_at 19 = .ok (.iconst 0, 1) := by decide +kernel
theorem dX7_at_20 : decode cX7_at 20 = .ok (.ireturn, 1) := by decide +kernel
theorem dX7_set_0 : decode cX7_set 0 = .ok (.iload_n 1, 1) := by decide +kernel
theorem dX7_set_1 : decode cX7_set 1 = .ok (.ifCond .lt 16, 3) := by decide +kernel
theorem dX7_set_4 : decode cX7_set 4 = .ok (.iload_n 1, 1) := by decide +kernel
theorem dX7_set_5 : decode cX7_set 5 = .ok (.bipush 6, 2) := by decide +kernel
theorem dX7_set_7 : decode cX7_set 7 = .ok (.if_icmp .ge 10, 3) := by decide +kernel
theorem dX7_set_10 : decode cX7_set 10 = .ok (.aload_n 0, 1) := by decide +kernel
theorem dX7_set_11 : decode cX7_set 11 = .ok (.getfield 9, 3) := by decide +kernel
theorem dX7_set_14 : decode cX7_set 14 = .ok (.iload_n 1, 1) := by decide +kernel
theorem dX7_set_15 : decode cX7_set 15 = .ok (.iload_n 2, 1) := by decide +kernel
theorem dX7_set_16 : decode cX7_set 16 = .ok (.iastore, 1) := by decide +kernel
theorem dX7_set_17 : decode cX7_set 17 = .ok (.return_, 1) := by decide +kernel
theorem dX7_grow_0 : decode cX7_grow 0 = .ok (.iload_n 1, 1) := by decide +kernel
theorem dX7_grow_1 : decode cX7_grow 1 = .ok (.ifCond .lt 19, 3) := by decide +kernel
theorem dX7_grow_4 : decode cX7_grow 4 = .ok (.iload_n 1, 1) := by decide +kernel
theorem dX7_grow_5 : decode cX7_grow 5 = .ok (.bipush 6, 2) := by decide +kernel
theorem dX7_grow_7 : decode cX7_grow 7 = .ok (.if_icmp .ge 13, 3) := by decide +kernel
theorem dX7_grow_10 : decode cX7_grow 10 = .ok (.aload_n 0, 1) := by decide +kernel
theorem dX7_grow_11 : decode cX7_grow 11 = .ok (.getfield 9, 3) := by decide +kernel
theorem dX7_grow_14 : decode cX7_grow 14 = .ok (.iload_n 1, 1) := by decide +kernel
theorem dX7_grow_15 : decode cX7_grow 15 = .ok (.dup2, 1) := by decide +kernel
theorem dX7_grow_16 : decode cX7_grow 16 = .ok (.iaload, 1) := by decide +kernel
theorem dX7_grow_17 : decode cX7_grow 17 = .ok (.iload_n 2, 1) := by decide +kernel
theorem dX7_grow_18 : decode cX7_grow 18 = .ok (.iadd, 1) := by decide +kernel
theorem dX7_grow_19 : decode cX7_grow 19 = .ok (.iastore, 1) := by decide +kernel
theorem dX7_grow_20 : decode cX7_grow 20 = .ok (.return_, 1) := by decide +kernel
theorem dX7_become_0 : decode cX7_become 0 = .ok (.aload_n 1, 1) := by decide +kernel
theorem dX7_become_1 : decode cX7_become 1 = .ok (.getfield 9, 3) := by decide +kernel
theorem dX7_become_4 : decode cX7_become 4 = .ok (.iconst 0, 1) := by decide +kernel
theorem dX7_become_5 : decode cX7_become 5 = .ok (.aload_n 0, 1) := by decide +kernel
theorem dX7_become_6 : decode cX7_become 6 = .ok (.getfield 9, 3) := by decide +kernel
theorem dX7_become_9 : decode cX7_become 9 = .ok (.iconst 0, 1) := by decide +kernel
theorem dX7_become_10 : decode cX7_become 10 = .ok (.bipush 6, 2) := by decide +kernel
theorem dX7_become_12 : decode cX7_become 12 = .ok (.invokestatic 15, 3) := by decide +kernel
theorem dX7_become_15 : decode cX7_become 15 = .ok (.return_, 1) := by decide +kernel
theorem dX8_init_0 : decode cX8_init 0 = .ok (.aload_n 0, 1) := by decide +kernel
theorem dX8_init_1 : decode cX8_init 1 = .ok (.invokespecial 3, 3) := by decide +kernel
theorem dX8_init_4 : decode cX8_init 4 = .ok (.aload_n 0, 1) := by decide +kernel
theorem dX8_init_5 : decode cX8_init 5 = .ok (.new 9, 3) := by decide +kernel
theorem dX8_init_8 : decode cX8_init 8 = .ok (.dup, 1) := by decide +kernel
theorem dX8_init_9 : decode cX8_init 9 = .ok (.invokespecial 11, 3) := by decide +kernel
theorem dX8_init_12 : decode cX8_init 12 = .ok (.putfield 12, 3) := by decide +kernel
theorem dX8_init_15 : decode cX8_init 15 = .ok (.return_, 1) := by decide +kernel
theorem dX8_become_0 : decode cX8_become 0 = .ok (.aload_n 0, 1) := by decide +kernel
theorem dX8_become_1 : decode cX8_become 1 = .ok (.getfield 12, 3) := by decide +kernel
theorem dX8_become_4 : decode cX8_become 4 = .ok (.aload_n 1, 1) := by decide +kernel
theorem dX8_become_5 : decode cX8_become 5 = .ok (.getfield 12, 3) := by decide +kernel
theorem dX8_become_8 : decode cX8_become 8 = .ok (.invokevirtual 18, 3) := by decide +kernel
theorem dX8_become_11 : decode cX8_become 11 = .ok (.aload_n 0, 1) := by decide +kernel
theorem dX8_become_12 : decode cX8_become 12 = .ok (.aload_n 1, 1) := by decide +kernel
theorem dX8_become_13 : decode cX8_become 13 = .ok (.getfield 22, 3) := by decide +kernel
theorem dX8_become_16 : decode cX8_become 16 = .ok (.putfield 22, 3) := by decide +kernel
theorem dX8_become_19 : decode cX8_become 19 = .ok (.return_, 1) := by decide +kernel
theorem dX8_areNeighbours_0 : decode cX8_areNeighbours 0 = .ok (.aload_n 0, 1) := by decide +kernel
theorem dX8_areNeighbours_1 : decode cX8_areNeighbours 1 = .ok (.getfield 12, 3) := by decide +kernel
theorem dX8_areNeighbours_4 : decode cX8_areNeighbours 4 = .ok (.iload_n 1, 1) := by decide +kernel
theorem dX8_areNeighbours_5 : decode cX8_areNeighbours 5 = .ok (.invokevirtual 26, 3) := by decide +kernel
theorem dX8_areNeighbours_8 : decode cX8_areNeighbours 8 = .ok (.iload_n 2, 1) := by decide +kernel
theorem dX8_areNeighbours_9 : decode cX8_areNeighbours 9 = .ok (.invokestatic 30, 3) := by decide +kernel
theorem dX8_areNeighbours_12 : decode cX8_areNeighbours 12 = .ok (.ireturn, 1) := by decide +kernel
theorem dX8_add_0 : decode cX8_add 0 = .ok (.aload_n 0, 1) := by decide +kernel
theorem dX8_add_1 : decode cX8_add 1 = .ok (.getfield 12, 3) := by decide +kernel
theorem dX8_add_4 : decode cX8_add 4 = .ok (.iload_n 1, 1) := by decide +kernel
theorem dX8_add_5 : decode cX8_add 5 = .ok (.aload_n 0, 1) := by decide +kernel
theorem dX8_add_6 : decode cX8_add 6 = .ok (.getfield 12, 3) := by decide +kernel
theorem dX8_add_9 : decode cX8_add 9 = .ok (.iload_n 1, 1) := by decide +kernel
theorem dX8_add_10 : decode cX8_add 10 = .ok (.invokevirtual 26, 3) := by decide +kernel
theorem dX8_add_13 : decode cX8_add 13 = .ok (.iconst 1, 1) := by decide +kernel
theorem dX8_add_14 : decode cX8_add 14 = .ok (.iload_n 2, 1) := by decide +kernel
theorem dX8_add_15 : decode cX8_add 15 = .ok (.ishl, 1) := by decide +kernel
theorem dX8_add_16 : decode cX8_add 16 = .ok (.ior, 1) := by decide +kernel
theorem dX8_add_17 : decode cX8_add 17 = .ok (.invokevirtual 34, 3) := by decide +kernel
theorem dX8_add_20 : decode cX8_add 20 = .ok (.aload_n 0, 1) := by decide +kernel
theorem dX8_add_21 : decode cX8_add 21 = .ok (.getfield 12, 3) := by decide +kernel
theorem dX8_add_24 : decode cX8_add 24 = .ok (.iload_n 2, 1) := by decide +kernel
theorem dX8_add_25 : decode cX8_add 25 = .ok (.aload_n 0, 1) := by decide +kernel
theorem dX8_add_26 : decode cX8_add 26 = .ok (.getfield 12, 3) := by decide +kernel
theorem dX8_add_29 : decode cX8_add 29 = .ok (.iload_n 2, 1) := by decide +kernel
theorem dX8_add_30 : decode cX8_add 30 = .ok (.invokevirtual 26, 3) := by decide +kernel
theorem dX8_add_33 : decode cX8_add 33 = .ok (.iconst 1, 1) := by decide +kernel
theorem dX8_add_34 : decode cX8_add 34 = .ok (.iload_n 1, 1) := by decide +kernel
theorem dX8_add_35 : decode cX8_add 35 = .ok (.ishl, 1) := by decide +kernel
theorem dX8_add_36 : decode cX8_add 36 = .ok (.ior, 1) := by decide +kernel
theorem dX8_add_37 : decode cX8_add 37 = .ok (.invokevirtual 34, 3) := by decide +kernel
theorem dX8_add_40 : decode cX8_add 40 = .ok (.aload_n 0, 1) := by decide +kernel
theorem dX8_add_41 : decode cX8_add 41 = .ok (.dup, 1) := by decide +kernel
theorem dX8_add_42 : decode cX8_add 42 = .ok (.getfield 22, 3) := by decide +kernel
theorem dX8_add_45 : decode cX8_add 45 = .ok (.iconst 1, 1) := by decide +kernel
theorem dX8_add_46 : decode cX8_add 46 = .ok (.iadd, 1) := by decide +kernel
theorem dX8_add_47 : decode cX8_add 47 = .ok (.putfield 22, 3) := by decide +kernel
theorem dX8_add_50 : decode cX8_add 50 = .ok (.aload_n 0, 1) := by decide +kernel
theorem dX8_add_51 : decode cX8_add 51 = .ok (.getfield 22, 3) := by decide +kernel
theorem dX8_add_54 : decode cX8_add 54 = .ok (.ireturn, 1) := by decide +kernel
theorem dX8_remove_0 : decode cX8_remove 0 = .ok (.aload_n 0, 1) := by decide +kernel
theorem dX8_remove_1 : decode cX8_remove 1 = .ok (.getfield 12, 3) := by decide +kernel
theorem dX8_remove_4 : decode cX8_remove 4 = .ok (.iload_n 1, 1) := by decide +kernel
theorem dX8_remove_5 : decode cX8_remove 5 = .ok (.aload_n 0, 1) := by decide +kernel
theorem dX8_remove_6 : decode cX8_remove 6 = .ok (.getfield 12, 3) := by decide +kernel
theorem dX8_remove_9 : decode cX8_remove 9 = .ok (.iload_n 1, 1) := by decide +kernel
theorem dX8_remove_10 : decode cX8_remove 10 = .ok (.invokevirtual 26, 3) := by decide +kernel
theorem dX8_remove_13 : decode cX8_remove 13 = .ok (.iconst 1, 1) := by decide +kernel
theorem dX8_remove_14 : decode cX8_remove 14 = .ok (.iload_n 2, 1) := by decide +kernel
theorem dX8_remove_15 : decode cX8_remove 15 = .ok (.ishl, 1) := by decide +kernel
theorem dX8_remove_16 : decode cX8_remove 16 = .ok (.iconst (-1), 1) := by decide +kernel
theorem dX8_remove_17 : decode cX8_remove 17 = .ok (.ixor, 1) := by decide +kernel
theorem dX8_remove_18 : decode cX8_remove 18 = .ok (.iand, 1) := by decide +kernel
theorem dX8_remove_19 : decode cX8_remove 19 = .ok (.invokevirtual 34, 3) := by decide +kernel
theorem dX8_remove_22 : decode cX8_remove 22 = .ok (.aload_n 0, 1) := by decide +kernel
theorem dX8_remove_23 : decode cX8_remove 23 = .ok (.getfield 12, 3) := by decide +kernel
theorem dX8_remove_26 : decode cX8_remove 26 = .ok (.iload_n 2, 1) := by decide +kernel
theorem dX8_remove_27 : decode cX8_remove 27 = .ok (.aload_n 0, 1) := by decide +kernel
theorem dX8_remove_28 : decode cX8_remove 28 = .ok (.getfield 12, 3) := by decide +kernel
theorem dX8_remove_31 : decode cX8_remove 31 = .ok (.iload_n 2, 1) := by decide +kernel
theorem dX8_remove_32 : decode cX8_remove 32 = .ok (.invokevirtual 26, 3) := by decide +kernel
theorem dX8_remove_35 : decode cX8_remove 35 = .ok (.iconst 1, 1) := by decide +kernel
theorem dX8_remove_36 : decode cX8_remove 36 = .ok (.iload_n 1, 1) := by decide +kernel
theorem dX8_remove_37 : decode cX8_remove 37 = .ok (.ishl, 1) := by decide +kernel
theorem dX8_remove_38 : decode cX8_remove 38 = .ok (.iconst (-1), 1) := by decide +kernel
theorem dX8_remove_39 : decode cX8_remove 39 = .ok (.ixor, 1) := by decide +kernel
theorem dX8_remove_40 : decode cX8_remove 40 = .ok (.iand, 1) := by decide +kernel
theorem dX8_remove_41 : decode cX8_remove 41 = .ok (.invokevirtual 34, 3) := by decide +kernel
theorem dX8_remove_44 : decode cX8_remove 44 = .ok (.aload_n 0, 1) := by decide +kernel
theorem dX8_remove_45 : decode cX8_remove 45 = .ok (.dup, 1) := by decide +kernel
theorem dX8_remove_46 : decode cX8_remove 46 = .ok (.getfield 22, 3) := by decide +kernel
theorem dX8_remove_49 : decode cX8_remove 49 = .ok (.iconst 1, 1) := by decide +kernel
theorem dX8_remove_50 : decode cX8_remove 50 = .ok (.isub, 1) := by decide +kernel
theorem dX8_remove_51 : decode cX8_remove 51 = .ok (.putfield 22, 3) := by decide +kernel
theorem dX8_remove_54 : decode cX8_remove 54 = .ok (.aload_n 0, 1) := by decide +kernel
theorem dX8_remove_55 : decode cX8_remove 55 = .ok (.getfield 22, 3) := by decide +kernel
theorem dX8_remove_58 : decode cX8_remove 58 = .ok (.ireturn, 1) := by decide +kernel
theorem dX8_stepsBetween_0 : decode cX8_stepsBetween 0 = .ok (.iconst 1, 1) := by decide +kernel
theorem dX8_stepsBetween_1 : decode cX8_stepsBetween 1 = .ok (.iload_n 1, 1) := by decide +kernel
theorem dX8_stepsBetween_2 : decode cX8_stepsBetween 2 = .ok (.ishl, 1) := by decide +kernel
theorem dX8_stepsBetween_3 : decode cX8_stepsBetween 3 = .ok (.istore_n 3, 1) := by decide +kernel
theorem dX8_stepsBetween_4 : decode cX8_stepsBetween 4 = .ok (.iconst 0, 1) := by decide +kernel
theorem dX8_stepsBetween_5 : decode cX8_stepsBetween 5 = .ok (.istore 4, 2) := by decide +kernel
theorem dX8_stepsBetween_7 : decode cX8_stepsBetween 7 = .ok (.iload 4, 2) := by decide +kernel
theorem dX8_stepsBetween_9 : decode cX8_stepsBetween 9 = .ok (.bipush 6, 2) := by decide +kernel
theorem dX8_stepsBetween_11 : decode cX8_stepsBetween 11 = .ok (.if_icmp .ge 26, 3) := by decide +kernel
theorem dX8_stepsBetween_14 : decode cX8_stepsBetween 14 = .ok (.iload_n 3, 1) := by decide +kernel
theorem dX8_stepsBetween_15 : decode cX8_stepsBetween 15 = .ok (.iload_n 2, 1) := by decide +kernel
theorem dX8_stepsBetween_16 : decode cX8_stepsBetween 16 = .ok (.invokestatic 30, 3) := by decide +kernel
theorem dX8_stepsBetween_19 : decode cX8_stepsBetween 19 = .ok (.ifCond .eq 6, 3) := by decide +kernel
theorem dX8_stepsBetween_22 : decode cX8_stepsBetween 22 = .ok (.iload 4, 2) := by decide +kernel
theorem dX8_stepsBetween_24 : decode cX8_stepsBetween 24 = .ok (.ireturn, 1) := by decide +kernel
theorem dX8_stepsBetween_25 : decode cX8_stepsBetween 25 = .ok (.aload_n 0, 1) := by decide +kernel
theorem dX8_stepsBetween_26 : decode cX8_stepsBetween 26 = .ok (.iload_n 3, 1) := by decide +kernel
theorem dX8_stepsBetween_27 : decode cX8_stepsBetween 27 = .ok (.invokevirtual 38, 3) := by decide +kernel
theorem dX8_stepsBetween_30 : decode cX8_stepsBetween 30 = .ok (.istore_n 3, 1) := by decide +kernel
theorem dX8_stepsBetween_31 : decode cX8_stepsBetween 31 = .ok (.iinc 4 1, 3) := by decide +kernel
theorem dX8_stepsBetween_34 : decode cX8_stepsBetween 34 = .ok (.goto (-27), 3) := by decide +kernel
theorem dX8_stepsBetween_37 : decode cX8_stepsBetween 37 = .ok (.iconst (-1), 1) := by decide +kernel
theorem dX8_stepsBetween_38 : decode cX8_stepsBetween 38 = .ok (.ireturn, 1) := by decide +kernel
theorem dX8_countReached_0 : decode cX8_countReached 0 = .ok (.iconst 1, 1) := by decide +kernel
theorem dX8_countReached_1 : decode cX8_countReached 1 = .ok (.iload_n 1, 1) := by decide +kernel
theorem dX8_countReached_2 : decode cX8_countReached 2 = .ok (.ishl, 1) := by decide +kernel
theorem dX8_countReached_3 : decode cX8_countReached 3 = .ok (.istore_n 2, 1) := by decide +kernel
theorem dX8_countReached_4 : decode cX8_countReached 4 = .ok (.iconst 1, 1) := by decide +kernel
theorem dX8_countReached_5 : decode cX8_countReached 5 = .ok (.istore_n 3, 1) := by decide +kernel
theorem dX8_countReached_6 : decode cX8_countReached 6 = .ok (.iload_n 3, 1) := by decide +kernel
theorem dX8_countReached_7 : decode cX8_countReached 7 = .ok (.bipush 6, 2) := by decide +kernel
theorem dX8_countReached_9 : decode cX8_countReached 9 = .ok (.if_icmp .ge 15, 3) := by decide +kernel
theorem dX8_countReached_12 : decode cX8_countReached 12 = .ok (.aload_n 0, 1) := by decide +kernel
theorem dX8_countReached_13 : decode cX8_countReached 13 = .ok (.iload_n 2, 1) := by decide +kernel
theorem dX8_countReached_14 : decode cX8_countReached 14 = .ok (.invokevirtual 38, 3) := by decide +kernel
theorem dX8_countReached_17 : decode cX8_countReached 17 = .ok (.istore_n 2, 1) := by decide +kernel
theorem dX8_countReached_18 : decode cX8_countReached 18 = .ok (.iinc 3 1, 3) := by decide +kernel
theorem dX8_countReached_21 : decode cX8_countReached 21 = .ok (.goto (-15), 3) := by decide +kernel
theorem dX8_countReached_24 : decode cX8_countReached 24 = .ok (.iload_n 2, 1) := by decide +kernel
theorem dX8_countReached_25 : decode cX8_countReached 25 = .ok (.invokestatic 41, 3) := by decide +kernel
theorem dX8_countReached_28 : decode cX8_countReached 28 = .ok (.ireturn, 1) := by decide +kernel
theorem dX8_nextTowards_0 : decode cX8_nextTowards 0 = .ok (.aload_n 0, 1) := by decide +kernel
theorem dX8_nextTowards_1 : decode cX8_nextTowards 1 = .ok (.iload_n 1, 1) := by decide +kernel
theorem dX8_nextTowards_2 : decode cX8_nextTowards 2 = .ok (.iload_n 2, 1) := by decide +kernel
theorem dX8_nextTowards_3 : decode cX8_nextTowards 3 = .ok (.invokevirtual 46, 3) := by decide +kernel
theorem dX8_nextTowards_6 : decode cX8_nextTowards 6 = .ok (.iconst 1, 1) := by decide +kernel
theorem dX8_nextTowards_7 : decode cX8_nextTowards 7 = .ok (.isub, 1) := by decide +kernel
theorem dX8_nextTowards_8 : decode cX8_nextTowards 8 = .ok (.istore_n 3, 1) := by decide +kernel
theorem dX8_nextTowards_9 : decode cX8_nextTowards 9 = .ok (.iconst 0, 1) := by decide +kernel
theorem dX8_nextTowards_10 : decode cX8_nextTowards 10 = .ok (.istore 4, 2) := by decide +kernel
theorem dX8_nextTowards_12 : decode cX8_nextTowards 12 = .ok (.iload 4, 2) := by decide +kernel
theorem dX8_nextTowards_14 : decode cX8_nextTowards 14 = .ok (.bipush 6, 2) := by decide +kernel
theorem dX8_nextTowards_16 : decode cX8_nextTowards 16 = .ok (.if_icmp .ge 33, 3) := by decide +kernel
theorem dX8_nextTowards_19 : decode cX8_nextTowards 19 = .ok (.aload_n 0, 1) := by decide +kernel
theorem dX8_nextTowards_20 : decode cX8_nextTowards 20 = .ok (.iload_n 1, 1) := by decide +kernel
theorem dX8_nextTowards_21 : decode cX8_nextTowards 21 = .ok (.iload 4, 2) := by decide +kernel
theorem dX8_nextTowards_23 : decode cX8_nextTowards 23 = .ok (.invokevirtual 50, 3) := by decide +kernel
theorem dX8_nextTowards_26 : decode cX8_nextTowards 26 = .ok (.ifCond .eq 17, 3) := by decide +kernel
theorem dX8_nextTowards_29 : decode cX8_nextTowards 29 = .ok (.aload_n 0, 1) := by decide +kernel
theorem dX8_nextTowards_30 : decode cX8_nextTowards 30 = .ok (.iload 4, 2) := by decide +kernel
theorem dX8_nextTowards_32 : decode cX8_nextTowards 32 = .ok (.iload_n 2, 1) := by decide +kernel
theorem dX8_nextTowards_33 : decode cX8_nextTowards 33 = .ok (.invokevirtual 46, 3) := by decide +kernel
theorem dX8_nextTowards_36 : decode cX8_nextTowards 36 = .ok (.iload_n 3, 1) := by decide +kernel
theorem dX8_nextTowards_37 : decode cX8_nextTowards 37 = .ok (.if_icmp .ne 6, 3) := by decide +kernel
theorem dX8_nextTowards_40 : decode cX8_nextTowards 40 = .ok (.iload 4, 2) := by decide +kernel
theorem dX8_nextTowards_42 : decode cX8_nextTowards 42 = .ok (.ireturn, 1) := by decide +kernel
theorem dX8_nextTowards_43 : decode cX8_nextTowards 43 = .ok (.iinc 4 1, 3) := by decide +kernel
theorem dX8_nextTowards_46 : decode cX8_nextTowards 46 = .ok (.goto (-34), 3) := by decide +kernel
theorem dX8_nextTowards_49 : decode cX8_nextTowards 49 = .ok (.iload_n 1, 1) := by decide +kernel
theorem dX8_nextTowards_50 : decode cX8_nextTowards 50 = .ok (.ireturn, 1) := by decide +kernel
theorem dX8_withNeighbours_0 : decode cX8_withNeighbours 0 = .ok (.iload_n 1, 1) := by decide +kernel
theorem dX8_withNeighbours_1 : decode cX8_withNeighbours 1 = .ok (.istore_n 2, 1) := by decide +kernel
theorem dX8_withNeighbours_2 : decode cX8_withNeighbours 2 = .ok (.iconst 0, 1) := by decide +kernel
theorem dX8_withNeighbours_3 : decode cX8_withNeighbours 3 = .ok (.istore_n 3, 1) := by decide +kernel
theorem dX8_withNeighbours_4 : decode cX8_withNeighbours 4 = .ok (.iload_n 3, 1) := by decide +kernel
theorem dX8_withNeighbours_5 : decode cX8_withNeighbours 5 = .ok (.bipush 6, 2) := by decide +kernel
theorem dX8_withNeighbours_7 : decode cX8_withNeighbours 7 = .ok (.if_icmp .ge 28, 3) := by decide +kernel
theorem dX8_withNeighbours_10 : decode cX8_withNeighbours 10 = .ok (.iload_n 1, 1) := by decide +kernel
theorem dX8_withNeighbours_11 : decode cX8_withNeighbours 11 = .ok (.iload_n 3, 1) := by decide +kernel
theorem dX8_withNeighbours_12 : decode cX8_withNeighbours 12 = .ok (.invokestatic 30, 3) := by decide +kernel
theorem dX8_withNeighbours_15 : decode cX8_withNeighbours 15 = .ok (.ifCond .eq 14, 3) := by decide +kernel
theorem dX8_withNeighbours_18 : decode cX8_withNeighbours 18 = .ok (.iload_n 2, 1) := by decide +kernel
theorem dX8_withNeighbours_19 : decode cX8_withNeighbours 19 = .ok (.aload_n 0, 1) := by decide +kernel
theorem dX8_withNeighbours_20 : decode cX8_withNeighbours 20 = .ok (.getfield 12, 3) := by decide +kernel
theorem dX8_withNeighbours_23 : decode cX8_withNeighbours 23 = .ok (.iload_n 3, 1) := by decide +kernel
theorem dX8_withNeighbours_24 : decode cX8_withNeighbours 24 = .ok (.invokevirtual 26, 3) := by decide +kernel
theorem dX8_withNeighbours_27 : decode cX8_withNeighbours 27 = .ok (.ior, 1) := by decide +kernel
theorem dX8_withNeighbours_28 : decode cX8_withNeighbours 28 = .ok (.istore_n 2, 1) := by decide +kernel
theorem dX8_withNeighbours_29 : decode cX8_withNeighbours 29 = .ok (.iinc 3 1, 3) := by decide +kernel
theorem dX8_withNeighbours_32 : decode cX8_withNeighbours 32 = .ok (.goto (-28), 3) := by decide +kernel
theorem dX8_withNeighbours_35 : decode cX8_withNeighbours 35 = .ok (.iload_n 2, 1) := by decide +kernel
theorem dX8_withNeighbours_36 : decode cX8_withNeighbours 36 = .ok (.ireturn, 1) := by decide +kernel
theorem dX8_holds_0 : decode cX8_holds 0 = .ok (.iload_n 0, 1) := by decide +kernel
theorem dX8_holds_1 : decode cX8_holds 1 = .ok (.iload_n 1, 1) := by decide +kernel
theorem dX8_holds_2 : decode cX8_holds 2 = .ok (.ishr, 1) := by decide +kernel
theorem dX8_holds_3 : decode cX8_holds 3 = .ok (.iconst 1, 1) := by decide +kernel
theorem dX8_holds_4 : decode cX8_holds 4 = .ok (.iand, 1) := by decide +kernel
theorem dX8_holds_5 : decode cX8_holds 5 = .ok (.ifCond .eq 7, 3) := by decide +kernel
theorem dX8_holds_8 : decode cX8_holds 8 = .ok (.iconst 1, 1) := by decide +kernel
theorem dX8_holds_9 : decode cX8_holds 9 = .ok (.goto 4, 3) := by decide +kernel
theorem dX8_holds_12 : decode cX8_holds 12 = .ok (.iconst 0, 1) := by decide +kernel
theorem dX8_holds_13 : decode cX8_holds 13 = .ok (.ireturn, 1) := by decide +kernel
theorem dX9_init_0 : decode cX9_init 0 = .ok (.aload_n 0, 1) := by decide +kernel
theorem dX9_init_1 : decode cX9_init 1 = .ok (.invokespecial 1, 3) := by decide +kernel
theorem dX9_init_4 : decode cX9_init 4 = .ok (.aload_n 0, 1) := by decide +kernel
theorem dX9_init_5 : decode cX9_init 5 = .ok (.new 7, 3) := by decide +kernel
theorem dX9_init_8 : decode cX9_init 8 = .ok (.dup, 1) := by decide +kernel
theorem dX9_init_9 : decode cX9_init 9 = .ok (.invokespecial 9, 3) := by decide +kernel
theorem dX9_init_12 : decode cX9_init 12 = .ok (.putfield 10, 3) := by decide +kernel
theorem dX9_init_15 : decode cX9_init 15 = .ok (.aload_n 0, 1) := by decide +kernel
theorem dX9_init_16 : decode cX9_init 16 = .ok (.new 7, 3) := by decide +kernel
theorem dX9_init_19 : decode cX9_init 19 = .ok (.dup, 1) := by decide +kernel
theorem dX9_init_20 : decode cX9_init 20 = .ok (.invokespecial 9, 3) := by decide +kernel
theorem dX9_init_23 : decode cX9_init 23 = .ok (.putfield 16, 3) := by decide +kernel
theorem dX9_init_26 : decode cX9_init 26 = .ok (.aload_n 0, 1) := by decide +kernel
theorem dX9_init_27 : decode cX9_init 27 = .ok (.new 7, 3) := by decide +kernel
theorem dX9_init_30 : decode cX9_init 30 = .ok (.dup, 1) := by decide +kernel
theorem dX9_init_31 : decode cX9_init 31 = .ok (.invokespecial 9, 3) := by decide +kernel
theorem dX9_init_34 : decode cX9_init 34 = .ok (.putfield 19, 3) := by decide +kernel
theorem dX9_init_37 : decode cX9_init 37 = .ok (.aload_n 0, 1) := by decide +kernel
theorem dX9_init_38 : decode cX9_init 38 = .ok (.new 7, 3) := by decide +kernel
theorem dX9_init_41 : decode cX9_init 41 = .ok (.dup, 1) := by decide +kernel
theorem dX9_init_42 : decode cX9_init 42 = .ok (.invokespecial 9, 3) := by decide +kernel
theorem dX9_init_45 : decode cX9_init 45 = .ok (.putfield 22, 3) := by decide +kernel
theorem dX9_init_48 : decode cX9_init 48 = .ok (.aload_n 0, 1) := by decide +kernel
theorem dX9_init_49 : decode cX9_init 49 = .ok (.new 25, 3) := by decide +kernel
theorem dX9_init_52 : decode cX9_init 52 = .ok (.dup, 1) := by decide +kernel
theorem dX9_init_53 : decode cX9_init 53 = .ok (.invokespecial 27, 3) := by decide +kernel
theorem dX9_init_56 : decode cX9_init 56 = .ok (.putfield 28, 3) := by decide +kernel
theorem dX9_init_59 : decode cX9_init 59 = .ok (.aload_n 0, 1) := by decide +kernel
theorem dX9_init_60 : decode cX9_init 60 = .ok (.new 32, 3) := by decide +kernel
theorem dX9_init_63 : decode cX9_init 63 = .ok (.dup, 1) := by decide +kernel
theorem dX9_init_64 : decode cX9_init 64 = .ok (.invokespecial 34, 3) := by decide +kernel
theorem dX9_init_67 : decode cX9_init 67 = .ok (.putfield 35, 3) := by decide +kernel
theorem dX9_init_70 : decode cX9_init 70 = .ok (.aload_n 0, 1) := by decide +kernel
theorem dX9_init_71 : decode cX9_init 71 = .ok (.new 39, 3) := by decide +kernel
theorem dX9_init_74 : decode cX9_init 74 = .ok (.dup, 1) := by decide +kernel
theorem dX9_init_75 : decode cX9_init 75 = .ok (.invokespecial 41, 3) := by decide +kernel
theorem dX9_init_78 : decode cX9_init 78 = .ok (.putfield 42, 3) := by decide +kernel
theorem dX9_init_81 : decode cX9_init 81 = .ok (.aload_n 0, 1) := by decide +kernel
theorem dX9_init_82 : decode cX9_init 82 = .ok (.new 46, 3) := by decide +kernel
theorem dX9_init_85 : decode cX9_init 85 = .ok (.dup, 1) := by decide +kernel
theorem dX9_init_86 : decode cX9_init 86 = .ok (.invokespecial 48, 3) := by decide +kernel
theorem dX9_init_89 : decode cX9_init 89 = .ok (.putfield 49, 3) := by decide +kernel
theorem dX9_init_92 : decode cX9_init 92 = .ok (.aload_n 0, 1) := by decide +kernel
theorem dX9_init_93 : decode cX9_init 93 = .ok (.new 53, 3) := by decide +kernel
theorem dX9_init_96 : decode cX9_init 96 = .ok (.dup, 1) := by decide +kernel
theorem dX9_init_97 : decode cX9_init 97 = .ok (.invokespecial 55, 3) := by decide +kernel
theorem dX9_init_100 : decode cX9_init 100 = .ok (.putfield 56, 3) := by decide +kernel
theorem dX9_init_103 : decode cX9_init 103 = .ok (.aload_n 0, 1) := by decide +kernel
theorem dX9_init_104 : decode cX9_init 104 = .ok (.iconst (-1), 1) := by decide +kernel
theorem dX9_init_105 : decode cX9_init 105 = .ok (.putfield 60, 3) := by decide +kernel
theorem dX9_init_108 : decode cX9_init 108 = .ok (.return_, 1) := by decide +kernel
theorem dX9_addPath_0 : decode cX9_addPath 0 = .ok (.aload_n 0, 1) := by decide +kernel
theorem dX9_addPath_1 : decode cX9_addPath 1 = .ok (.bipush 112, 2) := by decide +kernel
theorem dX9_addPath_3 : decode cX9_addPath 3 = .ok (.iload_n 1, 1) := by decide +kernel
theorem dX9_addPath_4 : decode cX9_addPath 4 = .ok (.iload_n 2, 1) := by decide +kernel
theorem dX9_addPath_5 : decode cX9_addPath 5 = .ok (.invokevirtual 66, 3) := by decide +kernel
theorem dX9_addPath_8 : decode cX9_addPath 8 = .ok (.ireturn, 1) := by decide +kernel
theorem dX9_removePath_0 : decode cX9_removePath 0 = .ok (.aload_n 0, 1) := by decide +kernel
theorem dX9_removePath_1 : decode cX9_removePath 1 = .ok (.bipush 113, 2) := by decide +kernel
theorem dX9_removePath_3 : decode cX9_removePath 3 = .ok (.iload_n 1, 1) := by decide +kernel
theorem dX9_removePath_4 : decode cX9_removePath 4 = .ok (.iload_n 2, 1) := by decide +kernel
theorem dX9_removePath_5 : decode cX9_removePath 5 = .ok (.invokevirtual 66, 3) := by decide +kernel
theorem dX9_removePath_8 : decode cX9_removePath 8 = .ok (.ireturn, 1) := by decide +kernel
theorem dX9_isPath_0 : decode cX9_isPath 0 = .ok (.iload_n 1, 1) := by decide +kernel
theorem dX9_isPath_1 : decode cX9_isPath 1 = .ok (.invokestatic 70, 3) := by decide +kernel
theorem dX9_isPath_4 : decode cX9_isPath 4 = .ok (.iload_n 2, 1) := by decide +kernel
theorem dX9_isPath_5 : decode cX9_isPath 5 = .ok (.invokestatic 70, 3) := by decide +kernel
theorem dX9_isPath_8 : decode cX9_isPath 8 = .ok (.aload_n 0, 1) := by decide +kernel
theorem dX9_isPath_9 : decode cX9_isPath 9 = .ok (.getfield 10, 3) := by decide +kernel
theorem dX9_isPath_12 : decode cX9_isPath 12 = .ok (.getfield 74, 3) := by decide +kernel
theorem dX9_isPath_15 : decode cX9_isPath 15 = .ok (.iload_n 1, 1) := by decide +kernel
theorem dX9_isPath_16 : decode cX9_isPath 16 = .ok (.iload_n 2, 1) := by decide +kernel
theorem dX9_isPath_17 : decode cX9_isPath 17 = .ok (.invokevirtual 78, 3) := by decide +kernel
theorem dX9_isPath_20 : decode cX9_isPath 20 = .ok (.ireturn, 1) := by decide +kernel
theorem dX9_distance_0 : decode cX9_distance 0 = .ok (.iload_n 1, 1) := by decide +kernel
theorem dX9_distance_1 : decode cX9_distance 1 = .ok (.invokestatic 70, 3) := by decide +kernel
theorem dX9_distance_4 : decode cX9_distance 4 = .ok (.iload_n 2, 1) := by decide +kernel
theorem dX9_distance_5 : decode cX9_distance 5 = .ok (.invokestatic 70, 3) := by decide +kernel
theorem dX9_distance_8 : decode cX9_distance 8 = .ok (.aload_n 0, 1) := by decide +kernel
theorem dX9_distance_9 : decode cX9_distance 9 = .ok (.getfield 10, 3) := by decide +kernel
theorem dX9_distance_12 : decode cX9_distance 12 = .ok (.getfield 74, 3) := by decide +kernel
theorem dX9_distance_15 : decode cX9_distance 15 = .ok (.iload_n 1, 1) := by decide +kernel
theorem dX9_distance_16 : decode cX9_distance 16 = .ok (.iload_n 2, 1) := by decide +kernel
theorem dX9_distance_17 : decode cX9_distance 17 = .ok (.invokevirtual 84, 3) := by decide +kernel
theorem dX9_distance_20 : decode cX9_distance 20 = .ok (.invokestatic 88, 3) := by decide +kernel
theorem dX9_distance_23 : decode cX9_distance 23 = .ok (.ireturn, 1) := by decide +kernel
theorem dX9_distanceByImprovement_0 : decode cX9_distanceByImprovement 0 = .ok (.iload_n 1, 1) := by decide +kernel
theorem dX9_distanceByImprovement_1 : decode cX9_distanceByImprovement 1 = .ok (.invokestatic 70, 3) := by decide +kernel
theorem dX9_distanceByImprovement_4 : decode cX9_distanceByImprovement 4 = .ok (.iload_n 2, 1) := by decide +kernel
theorem dX9_distanceByImprovement_5 : decode cX9_distanceByImprovement 5 = .ok (.invokestatic 70, 3) := by decide +kernel
theorem dX9_distanceByImprovement_8 : decode cX9_distanceByImprovement 8 = .ok (.aload_n 0, 1) := by decide +kernel
theorem dX9_distanceByImprovement_9 : decode cX9_distanceByImprovement 9 = .ok (.getfield 35, 3) := by decide +kernel
theorem dX9_distanceByImprovement_12 : decode cX9_distanceByImprovement 12 = .ok (.aload_n 0, 1) := by decide +kernel
theorem dX9_distanceByImprovement_13 : decode cX9_distanceByImprovement 13 = .ok (.getfield 10, 3) := by decide +kernel
theorem dX9_distanceByImprovement_16 : decode cX9_distanceByImprovement 16 = .ok (.getfield 74, 3) := by decide +kernel
theorem dX9_distanceByImprovement_19 : decode cX9_distanceByImprovement 19 = .ok (.invokevirtual 92, 3) := by decide +kernel
theorem dX9_distanceByImprovement_22 : decode cX9_distanceByImprovement 22 = .ok (.aload_n 0, 1) := by decide +kernel
theorem dX9_distanceByImprovement_23 : decode cX9_distanceByImprovement 23 = .ok (.getfield 35, 3) := by decide +kernel
theorem dX9_distanceByImprovement_26 : decode cX9_distanceByImprovement 26 = .ok (.iload_n 1, 1) := by decide +kernel
theorem dX9_distanceByImprovement_27 : decode cX9_distanceByImprovement 27 = .ok (.iload_n 2, 1) := by decide +kernel
theorem dX9_distanceByImprovement_28 : decode cX9_distanceByImprovement 28 = .ok (.invokevirtual 96, 3) := by decide +kernel
theorem dX9_distanceByImprovement_31 : decode cX9_distanceByImprovement 31 = .ok (.invokestatic 88, 3) := by decide +kernel
theorem dX9_distanceByImprovement_34 : decode cX9_distanceByImprovement 34 = .ok (.ireturn, 1) := by decide +kernel
theorem dX9_routeAt_0 : decode cX9_routeAt 0 = .ok (.iload_n 1, 1) := by decide +kernel
theorem dX9_routeAt_1 : decode cX9_routeAt 1 = .ok (.invokestatic 70, 3) := by decide +kernel
theorem dX9_routeAt_4 : decode cX9_routeAt 4 = .ok (.iload_n 2, 1) := by decide +kernel
theorem dX9_routeAt_5 : decode cX9_routeAt 5 = .ok (.invokestatic 70, 3) := by decide +kernel
theorem dX9_routeAt_8 : decode cX9_routeAt 8 = .ok (.aload_n 0, 1) := by decide +kernel
theorem dX9_routeAt_9 : decode cX9_routeAt 9 = .ok (.getfield 10, 3) := by decide +kernel
theorem dX9_routeAt_12 : decode cX9_routeAt 12 = .ok (.getfield 74, 3) := by decide +kernel
theorem dX9_routeAt_15 : decode cX9_routeAt 15 = .ok (.iload_n 1, 1) := by decide +kernel
theorem dX9_routeAt_16 : decode cX9_routeAt 16 = .ok (.iload_n 2, 1) := by decide +kernel
theorem dX9_routeAt_17 : decode cX9_routeAt 17 = .ok (.invokevirtual 84, 3) := by decide +kernel
theorem dX9_routeAt_20 : decode cX9_routeAt 20 = .ok (.istore 4, 2) := by decide +kernel
theorem dX9_routeAt_22 : decode cX9_routeAt 22 = .ok (.iload_n 3, 1) := by decide +kernel
theorem dX9_routeAt_23 : decode cX9_routeAt 23 = .ok (.ifCond .lt 9, 3) := by decide +kernel
theorem dX9_routeAt_26 : decode cX9_routeAt 26 = .ok (.iload_n 3, 1) := by decide +kernel
theorem dX9_routeAt_27 : decode cX9_routeAt 27 = .ok (.iload 4, 2) := by decide +kernel
theorem dX9_routeAt_29 : decode cX9_routeAt 29 = .ok (.if_icmp .le 13, 3) := by decide +kernel
theorem dX9_routeAt_32 : decode cX9_routeAt 32 = .ok (.new 99, 3) := by decide +kernel
theorem dX9_routeAt_35 : decode cX9_routeAt 35 = .ok (.dup, 1) := by decide +kernel
theorem dX9_routeAt_36 : decode cX9_routeAt 36 = .ok (.ldc 101, 2) := by decide +kernel
theorem dX9_routeAt_38 : decode cX9_routeAt 38 = .ok (.invokespecial 103, 3) := by decide +kernel
theorem dX9_routeAt_41 : decode cX9_routeAt 41 = .ok (.athrow, 1) := by decide +kernel
theorem dX9_routeAt_42 : decode cX9_routeAt 42 = .ok (.iload_n 1, 1) := by decide +kernel
theorem dX9_routeAt_43 : decode cX9_routeAt 43 = .ok (.istore 5, 2) := by decide +kernel
theorem dX9_routeAt_45 : decode cX9_routeAt 45 = .ok (.iconst 0, 1) := by decide +kernel
theorem dX9_routeAt_46 : decode cX9_routeAt 46 = .ok (.istore 6, 2) := by decide +kernel
theorem dX9_routeAt_48 : decode cX9_routeAt 48 = .ok (.iload 6, 2) := by decide +kernel
theorem dX9_routeAt_50 : decode cX9_routeAt 50 = .ok (.iload_n 3, 1) := by decide +kernel
theorem dX9_routeAt_51 : decode cX9_routeAt 51 = .ok (.if_icmp .ge 24, 3) := by decide +kernel
theorem dX9_routeAt_54 : decode cX9_routeAt 54 = .ok (.aload_n 0, 1) := by decide +kernel
theorem dX9_routeAt_55 : decode cX9_routeAt 55 = .ok (.getfield 10, 3) := by decide +kernel
theorem dX9_routeAt_58 : decode cX9_routeAt 58 = .ok (.getfield 74, 3) := by decide +kernel
theorem dX9_routeAt_61 : decode cX9_routeAt 61 = .ok (.iload 5, 2) := by decide +kernel
theorem dX9_routeAt_63 : decode cX9_routeAt 63 = .ok (.iload_n 2, 1) := by decide +kernel
theorem dX9_routeAt_64 : decode cX9_routeAt 64 = .ok (.invokevirtual 106, 3) := by decide +kernel
theorem dX9_routeAt_67 : decode cX9_routeAt 67 = .ok (.istore 5, 2) := by decide +kernel
theorem dX9_routeAt_69 : decode cX9_routeAt 69 = .ok (.iinc 6 1, 3) := by decide +kernel
theorem dX9_routeAt_72 : decode cX9_routeAt 72 = .ok (.goto (-24), 3) := by decide +kernel
theorem dX9_routeAt_75 : decode cX9_routeAt 75 = .ok (.iload 5, 2) := by decide +kernel
theorem dX9_routeAt_77 : decode cX9_routeAt 77 = .ok (.ireturn, 1) := by decide +kernel
theorem dX9_reachableLawns_0 : decode cX9_reachableLawns 0 = .ok (.iload_n 1, 1) := by decide +kernel
theorem dX9_reachableLawns_1 : decode cX9_reachableLawns 1 = .ok (.invokestatic 70, 3) := by decide +kernel
theorem dX9_reachableLawns_4 : decode cX9_reachableLawns 4 = .ok (.aload_n 0, 1) := by decide +kernel
theorem dX9_reachableLawns_5 : decode cX9_reachableLawns 5 = .ok (.getfield 10, 3) := by decide +kernel
theorem dX9_reachableLawns_8 : decode cX9_reachableLawns 8 = .ok (.getfield 74, 3) := by decide +kernel
theorem dX9_reachableLawns_11 : decode cX9_reachableLawns 11 = .ok (.iload_n 1, 1) := by decide +kernel
theorem dX9_reachableLawns_12 : decode cX9_reachableLawns 12 = .ok (.invokevirtual 109, 3) := by decide +kernel
theorem dX9_reachableLawns_15 : decode cX9_reachableLawns 15 = .ok (.ireturn, 1) := by decide +kernel
theorem dX9_pathCount_0 : decode cX9_pathCount 0 = .ok (.aload_n 0, 1) := by decide +kernel
theorem dX9_pathCount_1 : decode cX9_pathCount 1 = .ok (.getfield 10, 3) := by decide +kernel
theorem dX9_pathCount_4 : decode cX9_pathCount 4 = .ok (.getfield 74, 3) := by decide +kernel
theorem dX9_pathCount_7 : decode cX9_pathCount 7 = .ok (.getfield 112, 3) := by decide +kernel
theorem dX9_pathCount_10 : decode cX9_pathCount 10 = .ok (.ireturn, 1) := by decide +kernel
theorem dX9_setShade_0 : decode cX9_setShade 0 = .ok (.aload_n 0, 1) := by decide +kernel
theorem dX9_setShade_1 : decode cX9_setShade 1 = .ok (.bipush 104, 2) := by decide +kernel
theorem dX9_setShade_3 : decode cX9_setShade 3 = .ok (.iload_n 1, 1) := by decide +kernel
theorem dX9_setShade_4 : decode cX9_setShade 4 = .ok (.iload_n 2, 1) := by decide +kernel
theorem dX9_setShade_5 : decode cX9_setShade 5 = .ok (.invokevirtual 66, 3) := by decide +kernel
theorem dX9_setShade_8 : decode cX9_setShade 8 = .ok (.ireturn, 1) := by decide +kernel
theorem dX9_shadeOf_0 : decode cX9_shadeOf 0 = .ok (.iload_n 1, 1) := by decide +kernel
theorem dX9_shadeOf_1 : decode cX9_shadeOf 1 = .ok (.invokestatic 70, 3) := by decide +kernel
theorem dX9_shadeOf_4 : decode cX9_shadeOf 4 = .ok (.aload_n 0, 1) := by decide +kernel
theorem dX9_shadeOf_5 : decode cX9_shadeOf 5 = .ok (.getfield 10, 3) := by decide +kernel
theorem dX9_shadeOf_8 : decode cX9_shadeOf 8 = .ok (.getfield 115, 3) := by decide +kernel
theorem dX9_shadeOf_11 : decode cX9_shadeOf 11 = .ok (.iload_n 1, 1) := by decide +kernel
theorem dX9_shadeOf_12 : decode cX9_shadeOf 12 = .ok (.invokevirtual 119, 3) := by decide +kernel
theorem dX9_shadeOf_15 : decode cX9_shadeOf 15 = .ok (.ireturn, 1) := by decide +kernel
theorem dX9_addChair_0 : decode cX9_addChair 0 = .ok (.aload_n 0, 1) := by decide +kernel
theorem dX9_addChair_1 : decode cX9_addChair 1 = .ok (.bipush 99, 2) := by decide +kernel
theorem dX9_addChair_3 : decode cX9_addChair 3 = .ok (.iload_n 1, 1) := by decide +kernel
theorem dX9_addChair_4 : decode cX9_addChair 4 = .ok (.iload_n 2, 1) := by decide +kernel
theorem dX9_addChair_5 : decode cX9_addChair 5 = .ok (.invokevirtual 66, 3) := by decide +kernel
theorem dX9_addChair_8 : decode cX9_addChair 8 = .ok (.ireturn, 1) := by decide +kernel
theorem dX9_scrapChair_0 : decode cX9_scrapChair 0 = .ok (.aload_n 0, 1) := by decide +kernel
theorem dX9_scrapChair_1 : decode cX9_scrapChair 1 = .ok (.bipush 115, 2) := by decide +kernel
theorem dX9_scrapChair_3 : decode cX9_scrapChair 3 = .ok (.iload_n 1, 1) := by decide +kernel
theorem dX9_scrapChair_4 : decode cX9_scrapChair 4 = .ok (.iconst 0, 1) := by decide +kernel
theorem dX9_scrapChair_5 : decode cX9_scrapChair 5 = .ok (.invokevirtual 66, 3) := by decide +kernel
theorem dX9_scrapChair_8 : decode cX9_scrapChair 8 = .ok (.ireturn, 1) := by decide +kernel
theorem dX9_fold_0 : decode cX9_fold 0 = .ok (.aload_n 0, 1) := by decide +kernel
theorem dX9_fold_1 : decode cX9_fold 1 = .ok (.bipush 102, 2) := by decide +kernel
theorem dX9_fold_3 : decode cX9_fold 3 = .ok (.iload_n 1, 1) := by decide +kernel
theorem dX9_fold_4 : decode cX9_fold 4 = .ok (.iconst 0, 1) := by decide +kernel
theorem dX9_fold_5 : decode cX9_fold 5 = .ok (.invokevirtual 66, 3) := by decide +kernel
theorem dX9_fold_8 : decode cX9_fold 8 = .ok (.ireturn, 1) := by decide +kernel
theorem dX9_unfold_0 : decode cX9_unfold 0 = .ok (.aload_n 0, 1) := by decide +kernel
theorem dX9_unfold_1 : decode cX9_unfold 1 = .ok (.bipush 117, 2) := by decide +kernel
theorem dX9_unfold_3 : decode cX9_unfold 3 = .ok (.iload_n 1, 1) := by decide +kernel
theorem dX9_unfold_4 : decode cX9_unfold 4 = .ok (.iconst 0, 1) := by decide +kernel
theorem dX9_unfold_5 : decode cX9_unfold 5 = .ok (.invokevirtual 66, 3) := by decide +kernel
theorem dX9_unfold_8 : decode cX9_unfold 8 = .ok (.ireturn, 1) := by decide +kernel
theorem dX9_moveChair_0 : decode cX9_moveChair 0 = .ok (.aload_n 0, 1) := by decide +kernel
theorem dX9_moveChair_1 : decode cX9_moveChair 1 = .ok (.bipush 109, 2) := by decide +kernel
theorem dX9_moveChair_3 : decode cX9_moveChair 3 = .ok (.iload_n 1, 1) := by decide +kernel
theorem dX9_moveChair_4 : decode cX9_moveChair 4 = .ok (.iload_n 2, 1) := by decide +kernel
theorem dX9_moveChair_5 : decode cX9_moveChair 5 = .ok (.invokevirtual 66, 3) := by decide +kernel
theorem dX9_moveChair_8 : decode cX9_moveChair 8 = .ok (.ireturn, 1) := by decide +kernel
theorem dX9_migrate_0 : decode cX9_migrate 0 = .ok (.aload_n 0, 1) := by decide +kernel
theorem dX9_migrate_1 : decode cX9_migrate 1 = .ok (.bipush 103, 2) := by decide +kernel
theorem dX9_migrate_3 : decode cX9_migrate 3 = .ok (.iload_n 1, 1) := by decide +kernel
theorem dX9_migrate_4 : decode cX9_migrate 4 = .ok (.iload_n 2, 1) := by decide +kernel
theorem dX9_migrate_5 : decode cX9_migrate 5 = .ok (.invokevirtual 66, 3) := by decide +kernel
theorem dX9_migrate_8 : decode cX9_migrate 8 = .ok (.ireturn, 1) := by decide +kernel
theorem dX9_oilChair_0 : decode cX9_oilChair 0 = .ok (.aload_n 0, 1) := by decide +kernel
theorem dX9_oilChair_1 : decode cX9_oilChair 1 = .ok (.bipush 111, 2) := by decide +kernel
theorem dX9_oilChair_3 : decode cX9_oilChair 3 = .ok (.iload_n 1, 1) := by decide +kernel
theorem dX9_oilChair_4 : decode cX9_oilChair 4 = .ok (.iconst 0, 1) := by decide +kernel
theorem dX9_oilChair_5 : decode cX9_oilChair 5 = .ok (.invokevirtual 66, 3) := by decide +kernel
theorem dX9_oilChair_8 : decode cX9_oilChair 8 = .ok (.ireturn, 1) := by decide +kernel
theorem dX9_addOil_0 : decode cX9_addOil 0 = .ok (.aload_n 0, 1) := by decide +kernel
theorem dX9_addOil_1 : decode cX9_addOil 1 = .ok (.bipush 97, 2) := by decide +kernel
theorem dX9_addOil_3 : decode cX9_addOil 3 = .ok (.iload_n 1, 1) := by decide +kernel
theorem dX9_addOil_4 : decode cX9_addOil 4 = .ok (.iconst 0, 1) := by decide +kernel
theorem dX9_addOil_5 : decode cX9_addOil 5 = .ok (.invokevirtual 66, 3) := by decide +kernel
theorem dX9_addOil_8 : decode cX9_addOil 8 = .ok (.ireturn, 1) := by decide +kernel
theorem dX9_exists_0 : decode cX9_exists 0 = .ok (.aload_n 0, 1) := by decide +kernel
theorem dX9_exists_1 : decode cX9_exists 1 = .ok (.getfield 10, 3) := by decide +kernel
theorem dX9_exists_4 : decode cX9_exists 4 = .ok (.iload_n 1, 1) := by decide +kernel
theorem dX9_exists_5 : decode cX9_exists 5 = .ok (.invokevirtual 124, 3) := by decide +kernel
theorem dX9_exists_8 : decode cX9_exists 8 = .ok (.ifnull 7, 3) := by decide +kernel
theorem dX9_exists_11 : decode cX9_exists 11 = .ok (.iconst 1, 1) := by decide +kernel
theorem dX9_exists_12 : decode cX9_exists 12 = .ok (.goto 4, 3) := by decide +kernel
theorem dX9_exists_15 : decode cX9_exists 15 = .ok (.iconst 0, 1) := by decide +kernel
theorem dX9_exists_16 : decode cX9_exists 16 = .ok (.ireturn, 1) := by decide +kernel
theorem dX9_lawnOf_0 : decode cX9_lawnOf 0 = .ok (.aload_n 0, 1) := by decide +kernel
theorem dX9_lawnOf_1 : decode cX9_lawnOf 1 = .ok (.iload_n 1, 1) := by decide +kernel
theorem dX9_lawnOf_2 : decode cX9_lawnOf 2 = .ok (.invokevirtual 128, 3) := by decide +kernel
theorem dX9_lawnOf_5 : decode cX9_lawnOf 5 = .ok (.getfield 131, 3) := by decide +kernel
theorem dX9_lawnOf_8 : decode cX9_lawnOf 8 = .ok (.ireturn, 1) := by decide +kernel
theorem dX9_rustOf_0 : decode cX9_rustOf 0 = .ok (.aload_n 0, 1) := by decide +kernel
theorem dX9_rustOf_1 : decode cX9_rustOf 1 = .ok (.iload_n 1, 1) := by decide +kernel
theorem dX9_rustOf_2 : decode cX9_rustOf 2 = .ok (.invokevirtual 128, 3) := by decide +kernel
theorem dX9_rustOf_5 : decode cX9_rustOf 5 = .ok (.getfield 136, 3) := by decide +kernel
theorem dX9_rustOf_8 : decode cX9_rustOf 8 = .ok (.ireturn, 1) := by decide +kernel
theorem dX9_isFolded_0 : decode cX9_isFolded 0 = .ok (.aload_n 0, 1) := by decide +kernel
theorem dX9_isFolded_1 : decode cX9_isFolded 1 = .ok (.iload_n 1, 1) := by decide +kernel
theorem dX9_isFolded_2 : decode cX9_isFolded 2 = .ok (.invokevirtual 128, 3) := by decide +kernel
theorem dX9_isFolded_5 : decode cX9_isFolded 5 = .ok (.getfield 139, 3) := by decide +kernel
theorem dX9_isFolded_8 : decode cX9_isFolded 8 = .ok (.ireturn, 1) := by decide +kernel
theorem dX9_ageOf_0 : decode cX9_ageOf 0 = .ok (.aload_n 0, 1) := by decide +kernel
theorem dX9_ageOf_1 : decode cX9_ageOf 1 = .ok (.getfield 10, 3) := by decide +kernel
theorem dX9_ageOf_4 : decode cX9_ageOf 4 = .ok (.getfield 143, 3) := by decide +kernel
theorem dX9_ageOf_7 : decode cX9_ageOf 7 = .ok (.aload_n 0, 1) := by decide +kernel
theorem dX9_ageOf_8 : decode cX9_ageOf 8 = .ok (.iload_n 1, 1) := by decide +kernel
theorem dX9_ageOf_9 : decode cX9_ageOf 9 = .ok (.invokevirtual 128, 3) := by decide +kernel
theorem dX9_ageOf_12 : decode cX9_ageOf 12 = .ok (.getfield 146, 3) := by decide +kernel
theorem dX9_ageOf_15 : decode cX9_ageOf 15 = .ok (.isub, 1) := by decide +kernel
theorem dX9_ageOf_16 : decode cX9_ageOf 16 = .ok (.ireturn, 1) := by decide +kernel
theorem dX9_positionOf_0 : decode cX9_positionOf 0 = .ok (.aload_n 0, 1) := by decide +kernel
theorem dX9_positionOf_1 : decode cX9_positionOf 1 = .ok (.getfield 10, 3) := by decide +kernel
theorem dX9_positionOf_4 : decode cX9_positionOf 4 = .ok (.aload_n 0, 1) := by decide +kernel
theorem dX9_positionOf_5 : decode cX9_positionOf 5 = .ok (.iload_n 1, 1) := by decide +kernel
theorem dX9_positionOf_6 : decode cX9_positionOf 6 = .ok (.invokevirtual 128, 3) := by decide +kernel
theorem dX9_positionOf_9 : decode cX9_positionOf 9 = .ok (.invokevirtual 149, 3) := by decide +kernel
theorem dX9_positionOf_12 : decode cX9_positionOf 12 = .ok (.ireturn, 1) := by decide +kernel
theorem dX9_herdSize_0 : decode cX9_herdSize 0 = .ok (.iload_n 1, 1) := by decide +kernel
theorem dX9_herdSize_1 : decode cX9_herdSize 1 = .ok (.invokestatic 70, 3) := by decide +kernel
theorem dX9_herdSize_4 : decode cX9_herdSize 4 = .ok (.aload_n 0, 1) := by decide +kernel
theorem dX9_herdSize_5 : decode cX9_herdSize 5 = .ok (.getfield 10, 3) := by decide +kernel
theorem dX9_herdSize_8 : decode cX9_herdSize 8 = .ok (.getfield 153, 3) := by decide +kernel
theorem dX9_herdSize_11 : decode cX9_herdSize 11 = .ok (.iload_n 1, 1) := by decide +kernel
theorem dX9_herdSize_12 : decode cX9_herdSize 12 = .ok (.invokevirtual 119, 3) := by decide +kernel
theorem dX9_herdSize_15 : decode cX9_herdSize 15 = .ok (.ireturn, 1) := by decide +kernel
theorem dX9_herdSizeByChairs_0 : decode cX9_herdSizeByChairs 0 = .ok (.iload_n 1, 1) := by decide +kernel
theorem dX9_herdSizeByChairs_1 : decode cX9_herdSizeByChairs 1 = .ok (.invokestatic 70, 3) := by decide +kernel
theorem dX9_herdSizeByChairs_4 : decode cX9_herdSizeByChairs 4 = .ok (.aload_n 0, 1) := by decide +kernel
theorem dX9_herdSizeByChairs_5 : decode cX9_herdSizeByChairs 5 = .ok (.getfield 10, 3) := by decide +kernel
theorem dX9_herdSizeByChairs_8 : decode cX9_herdSizeByChairs 8 = .ok (.iload_n 1, 1) := by decide +kernel
theorem dX9_herdSizeByChairs_9 : decode cX9_herdSizeByChairs 9 = .ok (.invokevirtual 156, 3) := by decide +kernel
theorem dX9_herdSizeByChairs_12 : decode cX9_herdSizeByChairs 12 = .ok (.ireturn, 1) := by decide +kernel
theorem dX9_chairAt_0 : decode cX9_chairAt 0 = .ok (.iload_n 1, 1) := by decide +kernel
theorem dX9_chairAt_1 : decode cX9_chairAt 1 = .ok (.invokestatic 70, 3) := by decide +kernel
theorem dX9_chairAt_4 : decode cX9_chairAt 4 = .ok (.aload_n 0, 1) := by decide +kernel
theorem dX9_chairAt_5 : decode cX9_chairAt 5 = .ok (.getfield 10, 3) := by decide +kernel
theorem dX9_chairAt_8 : decode cX9_chairAt 8 = .ok (.iload_n 1, 1) := by decide +kernel
theorem dX9_chairAt_9 : decode cX9_chairAt 9 = .ok (.iload_n 2, 1) := by decide +kernel
theorem dX9_chairAt_10 : decode cX9_chairAt 10 = .ok (.invokevirtual 159, 3) := by decide +kernel
theorem dX9_chairAt_13 : decode cX9_chairAt 13 = .ok (.invokestatic 88, 3) := by decide +kernel
theorem dX9_chairAt_16 : decode cX9_chairAt 16 = .ok (.ireturn, 1) := by decide +kernel
theorem dX9_elderOf_0 : decode cX9_elderOf 0 = .ok (.iload_n 1, 1) := by decide +kernel
theorem dX9_elderOf_1 : decode cX9_elderOf 1 = .ok (.invokestatic 70, 3) := by decide +kernel
theorem dX9_elderOf_4 : decode cX9_elderOf 4 = .ok (.aload_n 0, 1) := by decide +kernel
theorem dX9_elderOf_5 : decode cX9_elderOf 5 = .ok (.getfield 10, 3) := by decide +kernel
theorem dX9_elderOf_8 : decode cX9_elderOf 8 = .ok (.iload_n 1, 1) := by decide +kernel
theorem dX9_elderOf_9 : decode cX9_elderOf 9 = .ok (.invokevirtual 162, 3) := by decide +kernel
theorem dX9_elderOf_12 : decode cX9_elderOf 12 = .ok (.invokestatic 88, 3) := by decide +kernel
theorem dX9_elderOf_15 : decode cX9_elderOf 15 = .ok (.ireturn, 1) := by decide +kernel
theorem dX9_hungryChairs_0 : decode cX9_hungryChairs 0 = .ok (.iload_n 1, 1) := by decide +kernel
theorem dX9_hungryChairs_1 : decode cX9_hungryChairs 1 = .ok (.invokestatic 70, 3) := by decide +kernel
theorem dX9_hungryChairs_4 : decode cX9_hungryChairs 4 = .ok (.iconst 0, 1) := by decide +kernel
theorem dX9_hungryChairs_5 : decode cX9_hungryChairs 5 = .ok (.aload_n 0, 1) := by decide +kernel
theorem dX9_hungryChairs_6 : decode cX9_hungryChairs 6 = .ok (.getfield 10, 3) := by decide +kernel
theorem dX9_hungryChairs_9 : decode cX9_hungryChairs 9 = .ok (.iload_n 1, 1) := by decide +kernel
theorem dX9_hungryChairs_10 : decode cX9_hungryChairs 10 = .ok (.invokevirtual 165, 3) := by decide +kernel
theorem dX9_hungryChairs_13 : decode cX9_hungryChairs 13 = .ok (.aload_n 0, 1) := by decide +kernel
theorem dX9_hungryChairs_14 : decode cX9_hungryChairs 14 = .ok (.getfield 10, 3) := by decide +kernel
theorem dX9_hungryChairs_17 : decode cX9_hungryChairs 17 = .ok (.getfield 115, 3) := by decide +kernel
theorem dX9_hungryChairs_20 : decode cX9_hungryChairs 20 = .ok (.iload_n 1, 1) := by decide +kernel
theorem dX9_hungryChairs_21 : decode cX9_hungryChairs 21 = .ok (.invokevirtual 119, 3) := by decide +kernel
theorem dX9_hungryChairs_24 : decode cX9_hungryChairs 24 = .ok (.isub, 1) := by decide +kernel
theorem dX9_hungryChairs_25 : decode cX9_hungryChairs 25 = .ok (.invokestatic 168, 3) := by decide +kernel
theorem dX9_hungryChairs_28 : decode cX9_hungryChairs 28 = .ok (.ireturn, 1) := by decide +kernel
theorem dX9_bestNeighbour_0 : decode cX9_bestNeighbour 0 = .ok (.iload_n 1, 1) := by decide +kernel
theorem dX9_bestNeighbour_1 : decode cX9_bestNeighbour 1 = .ok (.invokestatic 70, 3) := by decide +kernel
theorem dX9_bestNeighbour_4 : decode cX9_bestNeighbour 4 = .ok (.aload_n 0, 1) := by decide +kernel
theorem dX9_bestNeighbour_5 : decode cX9_bestNeighbour 5 = .ok (.getfield 10, 3) := by decide +kernel
theorem dX9_bestNeighbour_8 : decode cX9_bestNeighbour 8 = .ok (.iload_n 1, 1) := by decide +kernel
theorem dX9_bestNeighbour_9 : decode cX9_bestNeighbour 9 = .ok (.invokevirtual 173, 3) := by decide +kernel
theorem dX9_bestNeighbour_12 : decode cX9_bestNeighbour 12 = .ok (.invokestatic 88, 3) := by decide +kernel
theorem dX9_bestNeighbour_15 : decode cX9_bestNeighbour 15 = .ok (.ireturn, 1) := by decide +kernel
theorem dX9_passDays_0 : decode cX9_passDays 0 = .ok (.aload_n 0, 1) := by decide +kernel
theorem dX9_passDays_1 : decode cX9_passDays 1 = .ok (.bipush 100, 2) := by decide +kernel
theorem dX9_passDays_3 : decode cX9_passDays 3 = .ok (.iload_n 1, 1) := by decide +kernel
theorem dX9_passDays_4 : decode cX9_passDays 4 = .ok (.iconst 0, 1) := by decide +kernel
theorem dX9_passDays_5 : decode cX9_passDays 5 = .ok (.invokevirtual 66, 3) := by decide +kernel
theorem dX9_passDays_8 : decode cX9_passDays 8 = .ok (.ireturn, 1) := by decide +kernel
theorem dX9_day_0 : decode cX9_day 0 = .ok (.aload_n 0, 1) := by decide +kernel
theorem dX9_day_1 : decode cX9_day 1 = .ok (.getfield 10, 3) := by decide +kernel
theorem dX9_day_4 : decode cX9_day 4 = .ok (.getfield 143, 3) := by decide +kernel
theorem dX9_day_7 : decode cX9_day 7 = .ok (.ireturn, 1) := by decide +kernel
theorem dX9_daysUntil_0 : decode cX9_daysUntil 0 = .ok (.iload_n 1, 1) := by decide +kernel
theorem dX9_daysUntil_1 : decode cX9_daysUntil 1 = .ok (.ifCond .lt 8, 3) := by decide +kernel
theorem dX9_daysUntil_4 : decode cX9_daysUntil 4 = .ok (.iload_n 1, 1) := by decide +kernel
theorem dX9_daysUntil_5 : decode cX9_daysUntil 5 = .ok (.iconst 4, 1) := by decide +kernel
theorem dX9_daysUntil_6 : decode cX9_daysUntil 6 = .ok (.if_icmp .lt 13, 3) := by decide +kernel
theorem dX9_daysUntil_9 : decode cX9_daysUntil 9 = .ok (.new 180, 3) := by decide +kernel
theorem dX9_daysUntil_12 : decode cX9_daysUntil 12 = .ok (.dup, 1) := by decide +kernel
theorem dX9_daysUntil_13 : decode cX9_daysUntil 13 = .ok (.ldc 182, 2) := by decide +kernel
theorem dX9_daysUntil_15 : decode cX9_daysUntil 15 = .ok (.invokespecial 184, 3) := by decide +kernel
theorem dX9_daysUntil_18 : decode cX9_daysUntil 18 = .ok (.athrow, 1) := by decide +kernel
theorem dX9_daysUntil_19 : decode cX9_daysUntil 19 = .ok (.iload_n 1, 1) := by decide +kernel
theorem dX9_daysUntil_20 : decode cX9_daysUntil 20 = .ok (.aload_n 0, 1) := by decide +kernel
theorem dX9_daysUntil_21 : decode cX9_daysUntil 21 = .ok (.getfield 10, 3) := by decide +kernel
theorem dX9_daysUntil_24 : decode cX9_daysUntil 24 = .ok (.invokevirtual 176, 3) := by decide +kernel
theorem dX9_daysUntil_27 : decode cX9_daysUntil 27 = .ok (.isub, 1) := by decide +kernel
theorem dX9_daysUntil_28 : decode cX9_daysUntil 28 = .ok (.iconst 4, 1) := by decide +kernel
theorem dX9_daysUntil_29 : decode cX9_daysUntil 29 = .ok (.iadd, 1) := by decide +kernel
theorem dX9_daysUntil_30 : decode cX9_daysUntil 30 = .ok (.iconst 4, 1) := by decide +kernel
theorem dX9_daysUntil_31 : decode cX9_daysUntil 31 = .ok (.irem, 1) := by decide +kernel
theorem dX9_daysUntil_32 : decode cX9_daysUntil 32 = .ok (.istore_n 2, 1) := by decide +kernel
theorem dX9_daysUntil_33 : decode cX9_daysUntil 33 = .ok (.iload_n 2, 1) := by decide +kernel
theorem dX9_daysUntil_34 : decode cX9_daysUntil 34 = .ok (.ifCond .ne 7, 3) := by decide +kernel
theorem dX9_daysUntil_37 : decode cX9_daysUntil 37 = .ok (.iconst 0, 1) := by decide +kernel
theorem dX9_daysUntil_38 : decode cX9_daysUntil 38 = .ok (.goto 16, 3) := by decide +kernel
theorem dX9_daysUntil_41 : decode cX9_daysUntil 41 = .ok (.iload_n 2, 1) := by decide +kernel
theorem dX9_daysUntil_42 : decode cX9_daysUntil 42 = .ok (.iconst 5, 1) := by decide +kernel
theorem dX9_daysUntil_43 : decode cX9_daysUntil 43 = .ok (.imul, 1) := by decide +kernel
theorem dX9_daysUntil_44 : decode cX9_daysUntil 44 = .ok (.aload_n 0, 1) := by decide +kernel
theorem dX9_daysUntil_45 : decode cX9_daysUntil 45 = .ok (.getfield 10, 3) := by decide +kernel
theorem dX9_daysUntil_48 : decode cX9_daysUntil 48 = .ok (.getfield 143, 3) := by decide +kernel
theorem dX9_daysUntil_51 : decode cX9_daysUntil 51 = .ok (.iconst 5, 1) := by decide +kernel
theorem dX9_daysUntil_52 : decode cX9_daysUntil 52 = .ok (.irem, 1) := by decide +kernel
theorem dX9_daysUntil_53 : decode cX9_daysUntil 53 = .ok (.isub, 1) := by decide +kernel
theorem dX9_daysUntil_54 : decode cX9_daysUntil 54 = .ok (.ireturn, 1) := by decide +kernel
theorem dX9_wouldCollapse_0 : decode cX9_wouldCollapse 0 = .ok (.iload_n 1, 1) := by decide +kernel
theorem dX9_wouldCollapse_1 : decode cX9_wouldCollapse 1 = .ok (.invokestatic 185, 3) := by decide +kernel
theorem dX9_wouldCollapse_4 : decode cX9_wouldCollapse 4 = .ok (.ifCond .ne 13, 3) := by decide +kernel
theorem dX9_wouldCollapse_7 : decode cX9_wouldCollapse 7 = .ok (.new 180, 3) := by decide +kernel
theorem dX9_wouldCollapse_10 : decode cX9_wouldCollapse 10 = .ok (.dup, 1) := by decide +kernel
theorem dX9_wouldCollapse_11 : decode cX9_wouldCollapse 11 = .ok (.ldc 189, 2) := by decide +kernel
theorem dX9_wouldCollapse_13 : decode cX9_wouldCollapse 13 = .ok (.invokespecial 184, 3) := by decide +kernel
theorem dX9_wouldCollapse_16 : decode cX9_wouldCollapse 16 = .ok (.athrow, 1) := by decide +kernel
theorem dX9_wouldCollapse_17 : decode cX9_wouldCollapse 17 = .ok (.aload_n 0, 1) := by decide +kernel
theorem dX9_wouldCollapse_18 : decode cX9_wouldCollapse 18 = .ok (.getfield 16, 3) := by decide +kernel
theorem dX9_wouldCollapse_21 : decode cX9_wouldCollapse 21 = .ok (.aload_n 0, 1) := by decide +kernel
theorem dX9_wouldCollapse_22 : decode cX9_wouldCollapse 22 = .ok (.getfield 10, 3) := by decide +kernel
theorem dX9_wouldCollapse_25 : decode cX9_wouldCollapse 25 = .ok (.invokevirtual 191, 3) := by decide +kernel
theorem dX9_wouldCollapse_28 : decode cX9_wouldCollapse 28 = .ok (.aload_n 0, 1) := by decide +kernel
theorem dX9_wouldCollapse_29 : decode cX9_wouldCollapse 29 = .ok (.getfield 16, 3) := by decide +kernel
theorem dX9_wouldCollapse_32 : decode cX9_wouldCollapse 32 = .ok (.iload_n 1, 1) := by decide +kernel
theorem dX9_wouldCollapse_33 : decode cX9_wouldCollapse 33 = .ok (.invokevirtual 195, 3) := by decide +kernel
theorem dX9_wouldCollapse_36 : decode cX9_wouldCollapse 36 = .ok (.ireturn, 1) := by decide +kernel
theorem dX9_collapseDay_0 : decode cX9_collapseDay 0 = .ok (.aload_n 0, 1) := by decide +kernel
theorem dX9_collapseDay_1 : decode cX9_collapseDay 1 = .ok (.iload_n 1, 1) := by decide +kernel
theorem dX9_collapseDay_2 : decode cX9_collapseDay 2 = .ok (.invokevirtual 128, 3) := by decide +kernel
theorem dX9_collapseDay_5 : decode cX9_collapseDay 5 = .ok (.pop, 1) := by decide +kernel
theorem dX9_collapseDay_6 : decode cX9_collapseDay 6 = .ok (.aload_n 0, 1) := by decide +kernel
theorem dX9_collapseDay_7 : decode cX9_collapseDay 7 = .ok (.getfield 16, 3) := by decide +kernel
theorem dX9_collapseDay_10 : decode cX9_collapseDay 10 = .ok (.aload_n 0, 1) := by decide +kernel
theorem dX9_collapseDay_11 : decode cX9_collapseDay 11 = .ok (.getfield 10, 3) := by decide +kernel
theorem dX9_collapseDay_14 : decode cX9_collapseDay 14 = .ok (.invokevirtual 191, 3) := by decide +kernel
theorem dX9_collapseDay_17 : decode cX9_collapseDay 17 = .ok (.iconst 1, 1) := by decide +kernel
theorem dX9_collapseDay_18 : decode cX9_collapseDay 18 = .ok (.istore_n 2, 1) := by decide +kernel
theorem dX9_collapseDay_19 : decode cX9_collapseDay 19 = .ok (.iload_n 2, 1) := by decide +kernel
theorem dX9_collapseDay_20 : decode cX9_collapseDay 20 = .ok (.bipush 100, 2) := by decide +kernel
theorem dX9_collapseDay_22 : decode cX9_collapseDay 22 = .ok (.if_icmp .gt 29, 3) := by decide +kernel
theorem dX9_collapseDay_25 : decode cX9_collapseDay 25 = .ok (.aload_n 0, 1) := by decide +kernel
theorem dX9_collapseDay_26 : decode cX9_collapseDay 26 = .ok (.getfield 16, 3) := by decide +kernel
theorem dX9_collapseDay_29 : decode cX9_collapseDay 29 = .ok (.invokevirtual 198, 3) := by decide +kernel
theorem dX9_collapseDay_32 : decode cX9_collapseDay 32 = .ok (.aload_n 0, 1) := by decide +kernel
theorem dX9_collapseDay_33 : decode cX9_collapseDay 33 = .ok (.getfield 16, 3) := by decide +kernel
theorem dX9_collapseDay_36 : decode cX9_collapseDay 36 = .ok (.iload_n 1, 1) := by decide +kernel
theorem dX9_collapseDay_37 : decode cX9_collapseDay 37 = .ok (.invokevirtual 124, 3) := by decide +kernel
theorem dX9_collapseDay_40 : decode cX9_collapseDay 40 = .ok (.ifnonnull 5, 3) := by decide +kernel
theorem dX9_collapseDay_43 : decode cX9_collapseDay 43 = .ok (.iload_n 2, 1) := by decide +kernel
theorem dX9_collapseDay_44 : decode cX9_collapseDay 44 = .ok (.ireturn, 1) := by decide +kernel
theorem dX9_collapseDay_45 : decode cX9_collapseDay 45 = .ok (.iinc 2 1, 3) := by decide +kernel
theorem dX9_collapseDay_48 : decode cX9_collapseDay 48 = .ok (.goto (-29), 3) := by decide +kernel
theorem dX9_collapseDay_51 : decode cX9_collapseDay 51 = .ok (.new 99, 3) := by decide +kernel
theorem dX9_collapseDay_54 : decode cX9_collapseDay 54 = .ok (.dup, 1) := by decide +kernel
theorem dX9_collapseDay_55 : decode cX9_collapseDay 55 = .ok (.ldc 201, 2) := by decide +kernel
theorem dX9_collapseDay_57 : decode cX9_collapseDay 57 = .ok (.invokespecial 103, 3) := by decide +kernel
theorem dX9_collapseDay_60 : decode cX9_collapseDay 60 = .ok (.athrow, 1) := by decide +kernel
theorem dX9_chairCount_0 : decode cX9_chairCount 0 = .ok (.aload_n 0, 1) := by decide +kernel
theorem dX9_chairCount_1 : decode cX9_chairCount 1 = .ok (.getfield 10, 3) := by decide +kernel
theorem dX9_chairCount_4 : decode cX9_chairCount 4 = .ok (.getfield 203, 3) := by decide +kernel
theorem dX9_chairCount_7 : decode cX9_chairCount 7 = .ok (.ireturn, 1) := by decide +kernel
theorem dX9_oil_0 : decode cX9_oil 0 = .ok (.aload_n 0, 1) := by decide +kernel
theorem dX9_oil_1 : decode cX9_oil 1 = .ok (.getfield 10, 3) := by decide +kernel
theorem dX9_oil_4 : decode cX9_oil 4 = .ok (.getfield 209, 3) := by decide +kernel
theorem dX9_oil_7 : decode cX9_oil 7 = .ok (.ireturn, 1) := by decide +kernel
theorem dX9_collapsedChairs_0 : decode cX9_collapsedChairs 0 = .ok (.aload_n 0, 1) := by decide +kernel
theorem dX9_collapsedChairs_1 : decode cX9_collapsedChairs 1 = .ok (.getfield 10, 3) := by decide +kernel
theorem dX9_collapsedChairs_4 : decode cX9_collapsedChairs 4 = .ok (.getfield 218, 3) := by decide +kernel
theorem dX9_collapsedChairs_7 : decode cX9_collapsedChairs 7 = .ok (.ireturn, 1) := by decide +kernel
theorem dX9_scrappedChairs_0 : decode cX9_scrappedChairs 0 = .ok (.aload_n 0, 1) := by decide +kernel
theorem dX9_scrappedChairs_1 : decode cX9_scrappedChairs 1 = .ok (.getfield 10, 3) := by decide +kernel
theorem dX9_scrappedChairs_4 : decode cX9_scrappedChairs 4 = .ok (.getfield 221, 3) := by decide +kernel
theorem dX9_scrappedChairs_7 : decode cX9_scrappedChairs 7 = .ok (.ireturn, 1) := by decide +kernel
theorem dX9_moveCount_0 : decode cX9_moveCount 0 = .ok (.aload_n 0, 1) := by decide +kernel
theorem dX9_moveCount_1 : decode cX9_moveCount 1 = .ok (.getfield 10, 3) := by decide +kernel
theorem dX9_moveCount_4 : decode cX9_moveCount 4 = .ok (.getfield 224, 3) := by decide +kernel
theorem dX9_moveCount_7 : decode cX9_moveCount 7 = .ok (.ireturn, 1) := by decide +kernel
theorem dX9_grazedShade_0 : decode cX9_grazedShade 0 = .ok (.aload_n 0, 1) := by decide +kernel
theorem dX9_grazedShade_1 : decode cX9_grazedShade 1 = .ok (.getfield 10, 3) := by decide +kernel
theorem dX9_grazedShade_4 : decode cX9_grazedShade 4 = .ok (.getfield 227, 3) := by decide +kernel
theorem dX9_grazedShade_7 : decode cX9_grazedShade 7 = .ok (.ireturn, 1) := by decide +kernel
theorem dX9_chairByRust_0 : decode cX9_chairByRust 0 = .ok (.aload_n 0, 1) := by decide +kernel
theorem dX9_chairByRust_1 : decode cX9_chairByRust 1 = .ok (.getfield 10, 3) := by decide +kernel
theorem dX9_chairByRust_4 : decode cX9_chairByRust 4 = .ok (.iload_n 1, 1) := by decide +kernel
theorem dX9_chairByRust_5 : decode cX9_chairByRust 5 = .ok (.invokevirtual 230, 3) := by decide +kernel
theorem dX9_chairByRust_8 : decode cX9_chairByRust 8 = .ok (.invokestatic 88, 3) := by decide +kernel
theorem dX9_chairByRust_11 : decode cX9_chairByRust 11 = .ok (.ireturn, 1) := by decide +kernel
theorem dX9_lawnByShade_0 : decode cX9_lawnByShade 0 = .ok (.aload_n 0, 1) := by decide +kernel
theorem dX9_lawnByShade_1 : decode cX9_lawnByShade 1 = .ok (.getfield 10, 3) := by decide +kernel
theorem dX9_lawnByShade_4 : decode cX9_lawnByShade 4 = .ok (.iload_n 1, 1) := by decide +kernel
theorem dX9_lawnByShade_5 : decode cX9_lawnByShade 5 = .ok (.invokevirtual 233, 3) := by decide +kernel
theorem dX9_lawnByShade_8 : decode cX9_lawnByShade 8 = .ok (.invokestatic 88, 3) := by decide +kernel
theorem dX9_lawnByShade_11 : decode cX9_lawnByShade 11 = .ok (.ireturn, 1) := by decide +kernel
theorem dX9_meanRust_0 : decode cX9_meanRust 0 = .ok (.aload_n 0, 1) := by decide +kernel
theorem dX9_meanRust_1 : decode cX9_meanRust 1 = .ok (.invokevirtual 236, 3) := by decide +kernel
theorem dX9_meanRust_4 : decode cX9_meanRust 4 = .ok (.aload_n 0, 1) := by decide +kernel
theorem dX9_meanRust_5 : decode cX9_meanRust 5 = .ok (.getfield 10, 3) := by decide +kernel
theorem dX9_meanRust_8 : decode cX9_meanRust 8 = .ok (.invokevirtual 212, 3) := by decide +kernel
theorem dX9_meanRust_11 : decode cX9_meanRust 11 = .ok (.i2d, 1) := by decide +kernel
theorem dX9_meanRust_12 : decode cX9_meanRust 12 = .ok (.aload_n 0, 1) := by decide +kernel
theorem dX9_meanRust_13 : decode cX9_meanRust 13 = .ok (.getfield 10, 3) := by decide +kernel
theorem dX9_meanRust_16 : decode cX9_meanRust 16 = .ok (.getfield 203, 3) := by decide +kernel
theorem dX9_meanRust_19 : decode cX9_meanRust 19 = .ok (.i2d, 1) := by decide +kernel
theorem dX9_meanRust_20 : decode cX9_meanRust 20 = .ok (.ddiv, 1) := by decide +kernel
theorem dX9_meanRust_21 : decode cX9_meanRust 21 = .ok (.dreturn, 1) := by decide +kernel
theorem dX9_foldedShare_0 : decode cX9_foldedShare 0 = .ok (.aload_n 0, 1) := by decide +kernel
theorem dX9_foldedShare_1 : decode cX9_foldedShare 1 = .ok (.invokevirtual 236, 3) := by decide +kernel
theorem dX9_foldedShare_4 : decode cX9_foldedShare 4 = .ok (.aload_n 0, 1) := by decide +kernel
theorem dX9_foldedShare_5 : decode cX9_foldedShare 5 = .ok (.getfield 10, 3) := by decide +kernel
theorem dX9_foldedShare_8 : decode cX9_foldedShare 8 = .ok (.invokevirtual 206, 3) := by decide +kernel
theorem dX9_foldedShare_11 : decode cX9_foldedShare 11 = .ok (.i2f, 1) := by decide +kernel
theorem dX9_foldedShare_12 : decode cX9_foldedShare 12 = .ok (.aload_n 0, 1) := by decide +kernel
theorem dX9_foldedShare_13 : decode cX9_foldedShare 13 = .ok (.getfield 10, 3) := by decide +kernel
theorem dX9_foldedShare_16 : decode cX9_foldedShare 16 = .ok (.getfield 203, 3) := by decide +kernel
theorem dX9_foldedShare_19 : decode cX9_foldedShare 19 = .ok (.i2f, 1) := by decide +kernel
theorem dX9_foldedShare_20 : decode cX9_foldedShare 20 = .ok (.fdiv, 1) := by decide +kernel
theorem dX9_foldedShare_21 : decode cX9_foldedShare 21 = .ok (.freturn, 1) := by decide +kernel
theorem dX9_writeLawn_0 : decode cX9_writeLawn 0 = .ok (.iload_n 1, 1) := by decide +kernel
theorem dX9_writeLawn_1 : decode cX9_writeLawn 1 = .ok (.invokestatic 70, 3) := by decide +kernel
theorem dX9_writeLawn_4 : decode cX9_writeLawn 4 = .ok (.aload_n 0, 1) := by decide +kernel
theorem dX9_writeLawn_5 : decode cX9_writeLawn 5 = .ok (.getfield 56, 3) := by decide +kernel
theorem dX9_writeLawn_8 : decode cX9_writeLawn 8 = .ok (.iconst 0, 1) := by decide +kernel
theorem dX9_writeLawn_9 : decode cX9_writeLawn 9 = .ok (.invokevirtual 250, 3) := by decide +kernel
theorem dX9_writeLawn_12 : decode cX9_writeLawn 12 = .ok (.aload_n 0, 1) := by decide +kernel
theorem dX9_writeLawn_13 : decode cX9_writeLawn 13 = .ok (.getfield 10, 3) := by decide +kernel
theorem dX9_writeLawn_16 : decode cX9_writeLawn 16 = .ok (.iload_n 1, 1) := by decide +kernel
theorem dX9_writeLawn_17 : decode cX9_writeLawn 17 = .ok (.aload_n 0, 1) := by decide +kernel
theorem dX9_writeLawn_18 : decode cX9_writeLawn 18 = .ok (.getfield 56, 3) := by decide +kernel
theorem dX9_writeLawn_21 : decode cX9_writeLawn 21 = .ok (.invokevirtual 253, 3) := by decide +kernel
theorem dX9_writeLawn_24 : decode cX9_writeLawn 24 = .ok (.aload_n 0, 1) := by decide +kernel
theorem dX9_writeLawn_25 : decode cX9_writeLawn 25 = .ok (.getfield 56, 3) := by decide +kernel
theorem dX9_writeLawn_28 : decode cX9_writeLawn 28 = .ok (.invokevirtual 257, 3) := by decide +kernel
theorem dX9_writeLawn_31 : decode cX9_writeLawn 31 = .ok (.ireturn, 1) := by decide +kernel
theorem dX9_outputAt_0 : decode cX9_outputAt 0 = .ok (.iload_n 1, 1) := by decide +kernel
theorem dX9_outputAt_1 : decode cX9_outputAt 1 = .ok (.ifCond .lt 14, 3) := by decide +kernel
theorem dX9_outputAt_4 : decode cX9_outputAt 4 = .ok (.iload_n 1, 1) := by decide +kernel
theorem dX9_outputAt_5 : decode cX9_outputAt 5 = .ok (.aload_n 0, 1) := by decide +kernel
theorem dX9_outputAt_6 : decode cX9_outputAt 6 = .ok (.getfield 56, 3) := by decide +kernel
theorem dX9_outputAt_9 : decode cX9_outputAt 9 = .ok (.invokevirtual 257, 3) := by decide +kernel
theorem dX9_outputAt_12 : decode cX9_outputAt 12 = .ok (.if_icmp .lt 14, 3) := by decide +kernel
theorem dX9_outputAt_15 : decode cX9_outputAt 15 = .ok (.new 260, 3) := by decide +kernel
theorem dX9_outputAt_18 : decode cX9_outputAt 18 = .ok (.dup, 1) := by decide +kernel
theorem dX9_outputAt_19 : decode cX9_outputAt 19 = .ok (.ldc_w 262, 3) := by decide +kernel
theorem dX9_outputAt_22 : decode cX9_outputAt 22 = .ok (.invokespecial 264, 3) := by decide +kernel
theorem dX9_outputAt_25 : decode cX9_outputAt 25 = .ok (.athrow, 1) := by decide +kernel
theorem dX9_outputAt_26 : decode cX9_outputAt 26 = .ok (.aload_n 0, 1) := by decide +kernel
theorem dX9_outputAt_27 : decode cX9_outputAt 27 = .ok (.getfield 56, 3) := by decide +kernel
theorem dX9_outputAt_30 : decode cX9_outputAt 30 = .ok (.iload_n 1, 1) := by decide +kernel
theorem dX9_outputAt_31 : decode cX9_outputAt 31 = .ok (.invokevirtual 265, 3) := by decide +kernel
theorem dX9_outputAt_34 : decode cX9_outputAt 34 = .ok (.ireturn, 1) := by decide +kernel
theorem dX9_appendInput_0 : decode cX9_appendInput 0 = .ok (.iload_n 1, 1) := by decide +kernel
theorem dX9_appendInput_1 : decode cX9_appendInput 1 = .ok (.bipush 32, 2) := by decide +kernel
theorem dX9_appendInput_3 : decode cX9_appendInput 3 = .ok (.if_icmp .lt 9, 3) := by decide +kernel
theorem dX9_appendInput_6 : decode cX9_appendInput 6 = .ok (.iload_n 1, 1) := by decide +kernel
theorem dX9_appendInput_7 : decode cX9_appendInput 7 = .ok (.bipush 126, 2) := by decide +kernel
theorem dX9_appendInput_9 : decode cX9_appendInput 9 = .ok (.if_icmp .le 14, 3) := by decide +kernel
theorem dX9_appendInput_12 : decode cX9_appendInput 12 = .ok (.new 180, 3) := by decide +kernel
theorem dX9_appendInput_15 : decode cX9_appendInput 15 = .ok (.dup, 1) := by decide +kernel
theorem dX9_appendInput_16 : decode cX9_appendInput 16 = .ok (.ldc_w 269, 3) := by decide +kernel
theorem dX9_appendInput_19 : decode cX9_appendInput 19 = .ok (.invokespecial 184, 3) := by decide +kernel
theorem dX9_appendInput_22 : decode cX9_appendInput 22 = .ok (.athrow, 1) := by decide +kernel
theorem dX9_appendInput_23 : decode cX9_appendInput 23 = .ok (.aload_n 0, 1) := by decide +kernel
theorem dX9_appendInput_24 : decode cX9_appendInput 24 = .ok (.getfield 49, 3) := by decide +kernel
theorem dX9_appendInput_27 : decode cX9_appendInput 27 = .ok (.invokevirtual 271, 3) := by decide +kernel
theorem dX9_appendInput_30 : decode cX9_appendInput 30 = .ok (.ifCond .eq 14, 3) := by decide +kernel
theorem dX9_appendInput_33 : decode cX9_appendInput 33 = .ok (.new 274, 3) := by decide +kernel
theorem dX9_appendInput_36 : decode cX9_appendInput 36 = .ok (.dup, 1) := by decide +kernel
theorem dX9_appendInput_37 : decode cX9_appendInput 37 = .ok (.ldc_w 276, 3) := by decide +kernel
theorem dX9_appendInput_40 : decode cX9_appendInput 40 = .ok (.invokespecial 278, 3) := by decide +kernel
theorem dX9_appendInput_43 : decode cX9_appendInput 43 = .ok (.athrow, 1) := by decide +kernel
theorem dX9_appendInput_44 : decode cX9_appendInput 44 = .ok (.aload_n 0, 1) := by decide +kernel
theorem dX9_appendInput_45 : decode cX9_appendInput 45 = .ok (.getfield 49, 3) := by decide +kernel
theorem dX9_appendInput_48 : decode cX9_appendInput 48 = .ok (.iload_n 1, 1) := by decide +kernel
theorem dX9_appendInput_49 : decode cX9_appendInput 49 = .ok (.invokevirtual 279, 3) := by decide +kernel
theorem dX9_appendInput_52 : decode cX9_appendInput 52 = .ok (.ireturn, 1) := by decide +kernel
theorem dX9_execute_0 : decode cX9_execute 0 = .ok (.aload_n 0, 1) := by decide +kernel
theorem dX9_execute_1 : decode cX9_execute 1 = .ok (.getfield 49, 3) := by decide +kernel
theorem dX9_execute_4 : decode cX9_execute 4 = .ok (.invokevirtual 283, 3) := by decide +kernel
theorem dX9_execute_7 : decode cX9_execute 7 = .ok (.istore_n 1, 1) := by decide +kernel
theorem dX9_execute_8 : decode cX9_execute 8 = .ok (.aload_n 0, 1) := by decide +kernel
theorem dX9_execute_9 : decode cX9_execute 9 = .ok (.getfield 49, 3) := by decide +kernel
theorem dX9_execute_12 : decode cX9_execute 12 = .ok (.invokevirtual 286, 3) := by decide +kernel
theorem dX9_execute_15 : decode cX9_execute 15 = .ok (.iload_n 1, 1) := by decide +kernel
theorem dX9_execute_16 : decode cX9_execute 16 = .ok (.iconst (-1), 1) := by decide +kernel
theorem dX9_execute_17 : decode cX9_execute 17 = .ok (.if_icmp .eq 19, 3) := by decide +kernel
theorem dX9_execute_20 : decode cX9_execute 20 = .ok (.aload_n 0, 1) := by decide +kernel
theorem dX9_execute_21 : decode cX9_execute 21 = .ok (.iload_n 1, 1) := by decide +kernel
theorem dX9_execute_22 : decode cX9_execute 22 = .ok (.putfield 60, 3) := by decide +kernel
theorem dX9_execute_25 : decode cX9_execute 25 = .ok (.new 180, 3) := by decide +kernel
theorem dX9_execute_28 : decode cX9_execute 28 = .ok (.dup, 1) := by decide +kernel
theorem dX9_execute_29 : decode cX9_execute 29 = .ok (.ldc_w 289, 3) := by decide +kernel
theorem dX9_execute_32 : decode cX9_execute 32 = .ok (.invokespecial 184, 3) := by decide +kernel
theorem dX9_execute_35 : decode cX9_execute 35 = .ok (.athrow, 1) := by decide +kernel
theorem dX9_execute_36 : decode cX9_execute 36 = .ok (.aload_n 0, 1) := by decide +kernel
theorem dX9_execute_37 : decode cX9_execute 37 = .ok (.getfield 19, 3) := by decide +kernel
theorem dX9_execute_40 : decode cX9_execute 40 = .ok (.aload_n 0, 1) := by decide +kernel
theorem dX9_execute_41 : decode cX9_execute 41 = .ok (.getfield 10, 3) := by decide +kernel
theorem dX9_execute_44 : decode cX9_execute 44 = .ok (.invokevirtual 191, 3) := by decide +kernel
theorem dX9_execute_47 : decode cX9_execute 47 = .ok (.aload_n 0, 1) := by decide +kernel
theorem dX9_execute_48 : decode cX9_execute 48 = .ok (.invokevirtual 291, 3) := by decide +kernel
theorem dX9_execute_51 : decode cX9_execute 51 = .ok (.istore_n 2, 1) := by decide +kernel
theorem dX9_execute_52 : decode cX9_execute 52 = .ok (.iload_n 2, 1) := by decide +kernel
theorem dX9_execute_53 : decode cX9_execute 53 = .ok (.aload_n 0, 1) := by decide +kernel
theorem dX9_execute_54 : decode cX9_execute 54 = .ok (.getfield 49, 3) := by decide +kernel
theorem dX9_execute_57 : decode cX9_execute 57 = .ok (.getfield 294, 3) := by decide +kernel
theorem dX9_execute_60 : decode cX9_execute 60 = .ok (.if_icmp .ge 19, 3) := by decide +kernel
theorem dX9_execute_63 : decode cX9_execute 63 = .ok (.aload_n 0, 1) := by decide +kernel
theorem dX9_execute_64 : decode cX9_execute 64 = .ok (.getfield 10, 3) := by decide +kernel
theorem dX9_execute_67 : decode cX9_execute 67 = .ok (.aload_n 0, 1) := by decide +kernel
theorem dX9_execute_68 : decode cX9_execute 68 = .ok (.getfield 19, 3) := by decide +kernel
theorem dX9_execute_71 : decode cX9_execute 71 = .ok (.invokevirtual 191, 3) := by decide +kernel
theorem dX9_execute_74 : decode cX9_execute 74 = .ok (.aload_n 0, 1) := by decide +kernel
theorem dX9_execute_75 : decode cX9_execute 75 = .ok (.iload_n 2, 1) := by decide +kernel
theorem dX9_execute_76 : decode cX9_execute 76 = .ok (.invokevirtual 295, 3) := by decide +kernel
theorem dX9_execute_79 : decode cX9_execute 79 = .ok (.aload_n 0, 1) := by decide +kernel
theorem dX9_execute_80 : decode cX9_execute 80 = .ok (.getfield 28, 3) := by decide +kernel
theorem dX9_execute_83 : decode cX9_execute 83 = .ok (.aload_n 0, 1) := by decide +kernel
theorem dX9_execute_84 : decode cX9_execute 84 = .ok (.getfield 19, 3) := by decide +kernel
theorem dX9_execute_87 : decode cX9_execute 87 = .ok (.invokevirtual 298, 3) := by decide +kernel
theorem dX9_execute_90 : decode cX9_execute 90 = .ok (.iload_n 2, 1) := by decide +kernel
theorem dX9_execute_91 : decode cX9_execute 91 = .ok (.ireturn, 1) := by decide +kernel
theorem dX9_syntaxErrorOffset_0 : decode cX9_syntaxErrorOffset 0 = .ok (.aload_n 0, 1) := by decide +kernel
theorem dX9_syntaxErrorOffset_1 : decode cX9_syntaxErrorOffset 1 = .ok (.getfield 60, 3) := by decide +kernel
theorem dX9_syntaxErrorOffset_4 : decode cX9_syntaxErrorOffset 4 = .ok (.invokestatic 88, 3) := by decide +kernel
theorem dX9_syntaxErrorOffset_7 : decode cX9_syntaxErrorOffset 7 = .ok (.ireturn, 1) := by decide +kernel
theorem dX9_rejectionReason_0 : decode cX9_rejectionReason 0 = .ok (.aload_n 0, 1) := by decide +kernel
theorem dX9_rejectionReason_1 : decode cX9_rejectionReason 1 = .ok (.invokevirtual 301, 3) := by decide +kernel
theorem dX9_rejectionReason_4 : decode cX9_rejectionReason 4 = .ok (.aload_n 0, 1) := by decide +kernel
theorem dX9_rejectionReason_5 : decode cX9_rejectionReason 5 = .ok (.getfield 304, 3) := by decide +kernel
theorem dX9_rejectionReason_8 : decode cX9_rejectionReason 8 = .ok (.ireturn, 1) := by decide +kernel
theorem dX9_rejectionDetail_0 : decode cX9_rejectionDetail 0 = .ok (.aload_n 0, 1) := by decide +kernel
theorem dX9_rejectionDetail_1 : decode cX9_rejectionDetail 1 = .ok (.invokevirtual 301, 3) := by decide +kernel
theorem dX9_rejectionDetail_4 : decode cX9_rejectionDetail 4 = .ok (.aload_n 0, 1) := by decide +kernel
theorem dX9_rejectionDetail_5 : decode cX9_rejectionDetail 5 = .ok (.getfield 307, 3) := by decide +kernel
theorem dX9_rejectionDetail_8 : decode cX9_rejectionDetail 8 = .ok (.ireturn, 1) := by decide +kernel
theorem dX9_causeReason_0 : decode cX9_causeReason 0 = .ok (.aload_n 0, 1) := by decide +kernel
theorem dX9_causeReason_1 : decode cX9_causeReason 1 = .ok (.getfield 304, 3) := by decide +kernel
theorem dX9_causeReason_4 : decode cX9_causeReason 4 = .ok (.bipush 11, 2) := by decide +kernel
theorem dX9_causeReason_6 : decode cX9_causeReason 6 = .ok (.if_icmp .eq 14, 3) := by decide +kernel
theorem dX9_causeReason_9 : decode cX9_causeReason 9 = .ok (.new 99, 3) := by decide +kernel
theorem dX9_causeReason_12 : decode cX9_causeReason 12 = .ok (.dup, 1) := by decide +kernel
theorem dX9_causeReason_13 : decode cX9_causeReason 13 = .ok (.ldc_w 310, 3) := by decide +kernel
theorem dX9_causeReason_16 : decode cX9_causeReason 16 = .ok (.invokespecial 103, 3) := by decide +kernel
theorem dX9_causeReason_19 : decode cX9_causeReason 19 = .ok (.athrow, 1) := by decide +kernel
theorem dX9_causeReason_20 : decode cX9_causeReason 20 = .ok (.aload_n 0, 1) := by decide +kernel
theorem dX9_causeReason_21 : decode cX9_causeReason 21 = .ok (.getfield 312, 3) := by decide +kernel
theorem dX9_causeReason_24 : decode cX9_causeReason 24 = .ok (.ireturn, 1) := by decide +kernel
theorem dX9_undo_0 : decode cX9_undo 0 = .ok (.aload_n 0, 1) := by decide +kernel
theorem dX9_undo_1 : decode cX9_undo 1 = .ok (.getfield 28, 3) := by decide +kernel
theorem dX9_undo_4 : decode cX9_undo 4 = .ok (.getfield 315, 3) := by decide +kernel
theorem dX9_undo_7 : decode cX9_undo 7 = .ok (.ifCond .ne 14, 3) := by decide +kernel
theorem dX9_undo_10 : decode cX9_undo 10 = .ok (.new 274, 3) := by decide +kernel
theorem dX9_undo_13 : decode cX9_undo 13 = .ok (.dup, 1) := by decide +kernel
theorem dX9_undo_14 : decode cX9_undo 14 = .ok (.ldc_w 316, 3) := by decide +kernel
theorem dX9_undo_17 : decode cX9_undo 17 = .ok (.invokespecial 278, 3) := by decide +kernel
theorem dX9_undo_20 : decode cX9_undo 20 = .ok (.athrow, 1) := by decide +kernel
theorem dX9_undo_21 : decode cX9_undo 21 = .ok (.aload_n 0, 1) := by decide +kernel
theorem dX9_undo_22 : decode cX9_undo 22 = .ok (.getfield 28, 3) := by decide +kernel
theorem dX9_undo_25 : decode cX9_undo 25 = .ok (.aload_n 0, 1) := by decide +kernel
theorem dX9_undo_26 : decode cX9_undo 26 = .ok (.getfield 10, 3) := by decide +kernel
theorem dX9_undo_29 : decode cX9_undo 29 = .ok (.invokevirtual 318, 3) := by decide +kernel
theorem dX9_undo_32 : decode cX9_undo 32 = .ok (.aload_n 0, 1) := by decide +kernel
theorem dX9_undo_33 : decode cX9_undo 33 = .ok (.getfield 28, 3) := by decide +kernel
theorem dX9_undo_36 : decode cX9_undo 36 = .ok (.getfield 315, 3) := by decide +kernel
theorem dX9_undo_39 : decode cX9_undo 39 = .ok (.ireturn, 1) := by decide +kernel
theorem dX9_saveSnapshot_0 : decode cX9_saveSnapshot 0 = .ok (.aload_n 0, 1) := by decide +kernel
theorem dX9_saveSnapshot_1 : decode cX9_saveSnapshot 1 = .ok (.getfield 22, 3) := by decide +kernel
theorem dX9_saveSnapshot_4 : decode cX9_saveSnapshot 4 = .ok (.aload_n 0, 1) := by decide +kernel
theorem dX9_saveSnapshot_5 : decode cX9_saveSnapshot 5 = .ok (.getfield 10, 3) := by decide +kernel
theorem dX9_saveSnapshot_8 : decode cX9_saveSnapshot 8 = .ok (.invokevirtual 191, 3) := by decide +kernel
theorem dX9_saveSnapshot_11 : decode cX9_saveSnapshot 11 = .ok (.aload_n 0, 1) := by decide +kernel
theorem dX9_saveSnapshot_12 : decode cX9_saveSnapshot 12 = .ok (.iconst 1, 1) := by decide +kernel
theorem dX9_saveSnapshot_13 : decode cX9_saveSnapshot 13 = .ok (.putfield 321, 3) := by decide +kernel
theorem dX9_saveSnapshot_16 : decode cX9_saveSnapshot 16 = .ok (.aload_n 0, 1) := by decide +kernel
theorem dX9_saveSnapshot_17 : decode cX9_saveSnapshot 17 = .ok (.getfield 10, 3) := by decide +kernel
theorem dX9_saveSnapshot_20 : decode cX9_saveSnapshot 20 = .ok (.getfield 203, 3) := by decide +kernel
theorem dX9_saveSnapshot_23 : decode cX9_saveSnapshot 23 = .ok (.ireturn, 1) := by decide +kernel
theorem dX9_restoreSnapshot_0 : decode cX9_restoreSnapshot 0 = .ok (.aload_n 0, 1) := by decide +kernel
theorem dX9_restoreSnapshot_1 : decode cX9_restoreSnapshot 1 = .ok (.getfield 321, 3) := by decide +kernel
theorem dX9_restoreSnapshot_4 : decode cX9_restoreSnapshot 4 = .ok (.ifCond .ne 14, 3) := by decide +kernel
theorem dX9_restoreSnapshot_7 : decode cX9_restoreSnapshot 7 = .ok (.new 274, 3) := by decide +kernel
theorem dX9_restoreSnapshot_10 : decode cX9_restoreSnapshot 10 = .ok (.dup, 1) := by decide +kernel
theorem dX9_restoreSnapshot_11 : decode cX9_restoreSnapshot 11 = .ok (.ldc_w 324, 3) := by decide +kernel
theorem dX9_restoreSnapshot_14 : decode cX9_restoreSnapshot 14 = .ok (.invokespecial 278, 3) := by decide +kernel
theorem dX9_restoreSnapshot_17 : decode cX9_restoreSnapshot 17 = .ok (.athrow, 1) := by decide +kernel
theorem dX9_restoreSnapshot_18 : decode cX9_restoreSnapshot 18 = .ok (.aload_n 0, 1) := by decide +kernel
theorem dX9_restoreSnapshot_19 : decode cX9_restoreSnapshot 19 = .ok (.getfield 10, 3) := by decide +kernel
theorem dX9_restoreSnapshot_22 : decode cX9_restoreSnapshot 22 = .ok (.aload_n 0, 1) := by decide +kernel
theorem dX9_restoreSnapshot_23 : decode cX9_restoreSnapshot 23 = .ok (.getfield 22, 3) := by decide +kernel
theorem dX9_restoreSnapshot_26 : decode cX9_restoreSnapshot 26 = .ok (.invokevirtual 191, 3) := by decide +kernel
theorem dX9_restoreSnapshot_29 : decode cX9_restoreSnapshot 29 = .ok (.aload_n 0, 1) := by decide +kernel
theorem dX9_restoreSnapshot_30 : decode cX9_restoreSnapshot 30 = .ok (.getfield 28, 3) := by decide +kernel
theorem dX9_restoreSnapshot_33 : decode cX9_restoreSnapshot 33 = .ok (.invokevirtual 326, 3) := by decide +kernel
theorem dX9_restoreSnapshot_36 : decode cX9_restoreSnapshot 36 = .ok (.aload_n 0, 1) := by decide +kernel
theorem dX9_restoreSnapshot_37 : decode cX9_restoreSnapshot 37 = .ok (.getfield 10, 3) := by decide +kernel
theorem dX9_restoreSnapshot_40 : decode cX9_restoreSnapshot 40 = .ok (.getfield 203, 3) := by decide +kernel
theorem dX9_restoreSnapshot_43 : decode cX9_restoreSnapshot 43 = .ok (.ireturn, 1) := by decide +kernel
theorem dX9_isLawn_0 : decode cX9_isLawn 0 = .ok (.iload_n 0, 1) := by decide +kernel
theorem dX9_isLawn_1 : decode cX9_isLawn 1 = .ok (.ifCond .lt 13, 3) := by decide +kernel
theorem dX9_isLawn_4 : decode cX9_isLawn 4 = .ok (.iload_n 0, 1) := by decide +kernel
theorem dX9_isLawn_5 : decode cX9_isLawn 5 = .ok (.bipush 6, 2) := by decide +kernel
theorem dX9_isLawn_7 : decode cX9_isLawn 7 = .ok (.if_icmp .ge 7, 3) := by decide +kernel
theorem dX9_isLawn_10 : decode cX9_isLawn 10 = .ok (.iconst 1, 1) := by decide +kernel
theorem dX9_isLawn_11 : decode cX9_isLawn 11 = .ok (.goto 4, 3) := by decide +kernel
theorem dX9_isLawn_14 : decode cX9_isLawn 14 = .ok (.iconst 0, 1) := by decide +kernel
theorem dX9_isLawn_15 : decode cX9_isLawn 15 = .ok (.ireturn, 1) := by decide +kernel
theorem dX9_areDays_0 : decode cX9_areDays 0 = .ok (.iload_n 0, 1) := by decide +kernel
theorem dX9_areDays_1 : decode cX9_areDays 1 = .ok (.iconst 1, 1) := by decide +kernel
theorem dX9_areDays_2 : decode cX9_areDays 2 = .ok (.if_icmp .lt 13, 3) := by decide +kernel
theorem dX9_areDays_5 : decode cX9_areDays 5 = .ok (.iload_n 0, 1) := by decide +kernel
theorem dX9_areDays_6 : decode cX9_areDays 6 = .ok (.bipush 20, 2) := by decide +kernel
theorem dX9_areDays_8 : decode cX9_areDays 8 = .ok (.if_icmp .gt 7, 3) := by decide +kernel
theorem dX9_areDays_11 : decode cX9_areDays 11 = .ok (.iconst 1, 1) := by decide +kernel
theorem dX9_areDays_12 : decode cX9_areDays 12 = .ok (.goto 4, 3) := by decide +kernel
theorem dX9_areDays_15 : decode cX9_areDays 15 = .ok (.iconst 0, 1) := by decide +kernel
theorem dX9_areDays_16 : decode cX9_areDays 16 = .ok (.ireturn, 1) := by decide +kernel
theorem dX9_demandLawn_0 : decode cX9_demandLawn 0 = .ok (.iload_n 0, 1) := by decide +kernel
theorem dX9_demandLawn_1 : decode cX9_demandLawn 1 = .ok (.invokestatic 329, 3) := by decide +kernel
theorem dX9_demandLawn_4 : decode cX9_demandLawn 4 = .ok (.ifCond .ne 14, 3) := by decide +kernel
theorem dX9_demandLawn_7 : decode cX9_demandLawn 7 = .ok (.new 260, 3) := by decide +kernel
theorem dX9_demandLawn_10 : decode cX9_demandLawn 10 = .ok (.dup, 1) := by decide +kernel
theorem dX9_demandLawn_11 : decode cX9_demandLawn 11 = .ok (.ldc_w 332, 3) := by decide +kernel
theorem dX9_demandLawn_14 : decode cX9_demandLawn 14 = .ok (.invokespecial 264, 3) := by decide +kernel
theorem dX9_demandLawn_17 : decode cX9_demandLawn 17 = .ok (.athrow, 1) := by decide +kernel
theorem dX9_demandLawn_18 : decode cX9_demandLawn 18 = .ok (.return_, 1) := by decide +kernel
theorem dX9_demandChair_0 : decode cX9_demandChair 0 = .ok (.aload_n 0, 1) := by decide +kernel
theorem dX9_demandChair_1 : decode cX9_demandChair 1 = .ok (.getfield 10, 3) := by decide +kernel
theorem dX9_demandChair_4 : decode cX9_demandChair 4 = .ok (.iload_n 1, 1) := by decide +kernel
theorem dX9_demandChair_5 : decode cX9_demandChair 5 = .ok (.invokevirtual 124, 3) := by decide +kernel
theorem dX9_demandChair_8 : decode cX9_demandChair 8 = .ok (.astore_n 2, 1) := by decide +kernel
theorem dX9_demandChair_9 : decode cX9_demandChair 9 = .ok (.aload_n 2, 1) := by decide +kernel
theorem dX9_demandChair_10 : decode cX9_demandChair 10 = .ok (.ifnonnull 14, 3) := by decide +kernel
theorem dX9_demandChair_13 : decode cX9_demandChair 13 = .ok (.new 260, 3) := by decide +kernel
theorem dX9_demandChair_16 : decode cX9_demandChair 16 = .ok (.dup, 1) := by decide +kernel
theorem dX9_demandChair_17 : decode cX9_demandChair 17 = .ok (.ldc_w 334, 3) := by decide +kernel
theorem dX9_demandChair_20 : decode cX9_demandChair 20 = .ok (.invokespecial 264, 3) := by decide +kernel
theorem dX9_demandChair_23 : decode cX9_demandChair 23 = .ok (.athrow, 1) := by decide +kernel
theorem dX9_demandChair_24 : decode cX9_demandChair 24 = .ok (.aload_n 2, 1) := by decide +kernel
theorem dX9_demandChair_25 : decode cX9_demandChair 25 = .ok (.areturn, 1) := by decide +kernel
theorem dX9_demandElement_0 : decode cX9_demandElement 0 = .ok (.iload_n 0, 1) := by decide +kernel
theorem dX9_demandElement_1 : decode cX9_demandElement 1 = .ok (.iconst (-1), 1) := by decide +kernel
theorem dX9_demandElement_2 : decode cX9_demandElement 2 = .ok (.if_icmp .ne 14, 3) := by decide +kernel
theorem dX9_demandElement_5 : decode cX9_demandElement 5 = .ok (.new 99, 3) := by decide +kernel
theorem dX9_demandElement_8 : decode cX9_demandElement 8 = .ok (.dup, 1) := by decide +kernel
theorem dX9_demandElement_9 : decode cX9_demandElement 9 = .ok (.ldc_w 336, 3) := by decide +kernel
theorem dX9_demandElement_12 : decode cX9_demandElement 12 = .ok (.invokespecial 103, 3) := by decide +kernel
theorem dX9_demandElement_15 : decode cX9_demandElement 15 = .ok (.athrow, 1) := by decide +kernel
theorem dX9_demandElement_16 : decode cX9_demandElement 16 = .ok (.iload_n 0, 1) := by decide +kernel
theorem dX9_demandElement_17 : decode cX9_demandElement 17 = .ok (.ireturn, 1) := by decide +kernel
theorem dX9_demandChairs_0 : decode cX9_demandChairs 0 = .ok (.aload_n 0, 1) := by decide +kernel
theorem dX9_demandChairs_1 : decode cX9_demandChairs 1 = .ok (.getfield 10, 3) := by decide +kernel
theorem dX9_demandChairs_4 : decode cX9_demandChairs 4 = .ok (.getfield 203, 3) := by decide +kernel
theorem dX9_demandChairs_7 : decode cX9_demandChairs 7 = .ok (.ifCond .ne 14, 3) := by decide +kernel
theorem dX9_demandChairs_10 : decode cX9_demandChairs 10 = .ok (.new 338, 3) := by decide +kernel
theorem dX9_demandChairs_13 : decode cX9_demandChairs 13 = .ok (.dup, 1) := by decide +kernel
theorem dX9_demandChairs_14 : decode cX9_demandChairs 14 = .ok (.ldc_w 340, 3) := by decide +kernel
theorem dX9_demandChairs_17 : decode cX9_demandChairs 17 = .ok (.invokespecial 342, 3) := by decide +kernel
theorem dX9_demandChairs_20 : decode cX9_demandChairs 20 = .ok (.athrow, 1) := by decide +kernel
theorem dX9_demandChairs_21 : decode cX9_demandChairs 21 = .ok (.return_, 1) := by decide +kernel
theorem dX9_demandRejection_0 : decode cX9_demandRejection 0 = .ok (.aload_n 0, 1) := by decide +kernel
theorem dX9_demandRejection_1 : decode cX9_demandRejection 1 = .ok (.getfield 304, 3) := by decide +kernel
theorem dX9_demandRejection_4 : decode cX9_demandRejection 4 = .ok (.ifCond .ne 14, 3) := by decide +kernel
theorem dX9_demandRejection_7 : decode cX9_demandRejection 7 = .ok (.new 99, 3) := by decide +kernel
theorem dX9_demandRejection_10 : decode cX9_demandRejection 10 = .ok (.dup, 1) := by decide +kernel
theorem dX9_demandRejection_11 : decode cX9_demandRejection 11 = .ok (.ldc_w 343, 3) := by decide +kernel
theorem dX9_demandRejection_14 : decode cX9_demandRejection 14 = .ok (.invokespecial 103, 3) := by decide +kernel
theorem dX9_demandRejection_17 : decode cX9_demandRejection 17 = .ok (.athrow, 1) := by decide +kernel
theorem dX9_demandRejection_18 : decode cX9_demandRejection 18 = .ok (.return_, 1) := by decide +kernel
theorem dX9_change_0 : decode cX9_change 0 = .ok (.aload_n 0, 1) := by decide +kernel
theorem dX9_change_1 : decode cX9_change 1 = .ok (.getfield 42, 3) := by decide +kernel
theorem dX9_change_4 : decode cX9_change 4 = .ok (.aload_n 0, 1) := by decide +kernel
theorem dX9_change_5 : decode cX9_change 5 = .ok (.getfield 10, 3) := by decide +kernel
theorem dX9_change_8 : decode cX9_change 8 = .ok (.iload_n 1, 1) := by decide +kernel
theorem dX9_change_9 : decode cX9_change 9 = .ok (.iload_n 2, 1) := by decide +kernel
theorem dX9_change_10 : decode cX9_change 10 = .ok (.iload_n 3, 1) := by decide +kernel
theorem dX9_change_11 : decode cX9_change 11 = .ok (.invokevirtual 345, 3) := by decide +kernel
theorem dX9_change_14 : decode cX9_change 14 = .ok (.istore 4, 2) := by decide +kernel
theorem dX9_change_16 : decode cX9_change 16 = .ok (.iload 4, 2) := by decide +kernel
theorem dX9_change_18 : decode cX9_change 18 = .ok (.iconst 1, 1) := by decide +kernel
theorem dX9_change_19 : decode cX9_change 19 = .ok (.if_icmp .ne 14, 3) := by decide +kernel
theorem dX9_change_22 : decode cX9_change 22 = .ok (.new 260, 3) := by decide +kernel
theorem dX9_change_25 : decode cX9_change 25 = .ok (.dup, 1) := by decide +kernel
theorem dX9_change_26 : decode cX9_change 26 = .ok (.ldc_w 349, 3) := by decide +kernel
theorem dX9_change_29 : decode cX9_change 29 = .ok (.invokespecial 264, 3) := by decide +kernel
theorem dX9_change_32 : decode cX9_change 32 = .ok (.athrow, 1) := by decide +kernel
theorem dX9_change_33 : decode cX9_change 33 = .ok (.iload 4, 2) := by decide +kernel
theorem dX9_change_35 : decode cX9_change 35 = .ok (.iconst 2, 1) := by decide +kernel
theorem dX9_change_36 : decode cX9_change 36 = .ok (.if_icmp .ne 14, 3) := by decide +kernel
theorem dX9_change_39 : decode cX9_change 39 = .ok (.new 180, 3) := by decide +kernel
theorem dX9_change_42 : decode cX9_change 42 = .ok (.dup, 1) := by decide +kernel
theorem dX9_change_43 : decode cX9_change 43 = .ok (.ldc_w 351, 3) := by decide +kernel
theorem dX9_change_46 : decode cX9_change 46 = .ok (.invokespecial 184, 3) := by decide +kernel
theorem dX9_change_49 : decode cX9_change 49 = .ok (.athrow, 1) := by decide +kernel
theorem dX9_change_50 : decode cX9_change 50 = .ok (.iload 4, 2) := by decide +kernel
theorem dX9_change_52 : decode cX9_change 52 = .ok (.iconst 3, 1) := by decide +kernel
theorem dX9_change_53 : decode cX9_change 53 = .ok (.if_icmp .ne 33, 3) := by decide +kernel
theorem dX9_change_56 : decode cX9_change 56 = .ok (.aload_n 0, 1) := by decide +kernel
theorem dX9_change_57 : decode cX9_change 57 = .ok (.aload_n 0, 1) := by decide +kernel
theorem dX9_change_58 : decode cX9_change 58 = .ok (.getfield 42, 3) := by decide +kernel
theorem dX9_change_61 : decode cX9_change 61 = .ok (.getfield 353, 3) := by decide +kernel
theorem dX9_change_64 : decode cX9_change 64 = .ok (.aload_n 0, 1) := by decide +kernel
theorem dX9_change_65 : decode cX9_change 65 = .ok (.getfield 42, 3) := by decide +kernel
theorem dX9_change_68 : decode cX9_change 68 = .ok (.getfield 356, 3) := by decide +kernel
theorem dX9_change_71 : decode cX9_change 71 = .ok (.iconst 0, 1) := by decide +kernel
theorem dX9_change_72 : decode cX9_change 72 = .ok (.invokevirtual 359, 3) := by decide +kernel
theorem dX9_change_75 : decode cX9_change 75 = .ok (.new 363, 3) := by decide +kernel
theorem dX9_change_78 : decode cX9_change 78 = .ok (.dup, 1) := by decide +kernel
theorem dX9_change_79 : decode cX9_change 79 = .ok (.ldc_w 365, 3) := by decide +kernel
theorem dX9_change_82 : decode cX9_change 82 = .ok (.invokespecial 367, 3) := by decide +kernel
theorem dX9_change_85 : decode cX9_change 85 = .ok (.athrow, 1) := by decide +kernel
theorem dX9_change_86 : decode cX9_change 86 = .ok (.aload_n 0, 1) := by decide +kernel
theorem dX9_change_87 : decode cX9_change 87 = .ok (.getfield 28, 3) := by decide +kernel
theorem dX9_change_90 : decode cX9_change 90 = .ok (.aload_n 0, 1) := by decide +kernel
theorem dX9_change_91 : decode cX9_change 91 = .ok (.getfield 10, 3) := by decide +kernel
theorem dX9_change_94 : decode cX9_change 94 = .ok (.invokevirtual 298, 3) := by decide +kernel
theorem dX9_change_97 : decode cX9_change 97 = .ok (.aload_n 0, 1) := by decide +kernel
theorem dX9_change_98 : decode cX9_change 98 = .ok (.getfield 10, 3) := by decide +kernel
theorem dX9_change_101 : decode cX9_change 101 = .ok (.iload_n 1, 1) := by decide +kernel
theorem dX9_change_102 : decode cX9_change 102 = .ok (.iload_n 2, 1) := by decide +kernel
theorem dX9_change_103 : decode cX9_change 103 = .ok (.iload_n 3, 1) := by decide +kernel
theorem dX9_change_104 : decode cX9_change 104 = .ok (.invokevirtual 368, 3) := by decide +kernel
theorem dX9_change_107 : decode cX9_change 107 = .ok (.ireturn, 1) := by decide +kernel
theorem dX9_performCommands_0 : decode cX9_performCommands 0 = .ok (.iconst 0, 1) := by decide +kernel
theorem dX9_performCommands_1 : decode cX9_performCommands 1 = .ok (.istore_n 1, 1) := by decide +kernel
theorem dX9_performCommands_2 : decode cX9_performCommands 2 = .ok (.iload_n 1, 1) := by decide +kernel
theorem dX9_performCommands_3 : decode cX9_performCommands 3 = .ok (.aload_n 0, 1) := by decide +kernel
theorem dX9_performCommands_4 : decode cX9_performCommands 4 = .ok (.getfield 49, 3) := by decide +kernel
theorem dX9_performCommands_7 : decode cX9_performCommands 7 = .ok (.getfield 294, 3) := by decide +kernel
theorem dX9_performCommands_10 : decode cX9_performCommands 10 = .ok (.if_icmp .ge 69, 3) := by decide +kernel
theorem dX9_performCommands_13 : decode cX9_performCommands 13 = .ok (.aload_n 0, 1) := by decide +kernel
theorem dX9_performCommands_14 : decode cX9_performCommands 14 = .ok (.getfield 49, 3) := by decide +kernel
theorem dX9_performCommands_17 : decode cX9_performCommands 17 = .ok (.iload_n 1, 1) := by decide +kernel
theorem dX9_performCommands_18 : decode cX9_performCommands 18 = .ok (.invokevirtual 371, 3) := by decide +kernel
theorem dX9_performCommands_21 : decode cX9_performCommands 21 = .ok (.istore_n 2, 1) := by decide +kernel
theorem dX9_performCommands_22 : decode cX9_performCommands 22 = .ok (.aload_n 0, 1) := by decide +kernel
theorem dX9_performCommands_23 : decode cX9_performCommands 23 = .ok (.getfield 49, 3) := by decide +kernel
theorem dX9_performCommands_26 : decode cX9_performCommands 26 = .ok (.iload_n 1, 1) := by decide +kernel
theorem dX9_performCommands_27 : decode cX9_performCommands 27 = .ok (.invokevirtual 374, 3) := by decide +kernel
theorem dX9_performCommands_30 : decode cX9_performCommands 30 = .ok (.istore_n 3, 1) := by decide +kernel
theorem dX9_performCommands_31 : decode cX9_performCommands 31 = .ok (.aload_n 0, 1) := by decide +kernel
theorem dX9_performCommands_32 : decode cX9_performCommands 32 = .ok (.getfield 49, 3) := by decide +kernel
theorem dX9_performCommands_35 : decode cX9_performCommands 35 = .ok (.iload_n 1, 1) := by decide +kernel
theorem dX9_performCommands_36 : decode cX9_performCommands 36 = .ok (.invokevirtual 377, 3) := by decide +kernel
theorem dX9_performCommands_39 : decode cX9_performCommands 39 = .ok (.istore 4, 2) := by decide +kernel
theorem dX9_performCommands_41 : decode cX9_performCommands 41 = .ok (.aload_n 0, 1) := by decide +kernel
theorem dX9_performCommands_42 : decode cX9_performCommands 42 = .ok (.getfield 42, 3) := by decide +kernel
theorem dX9_performCommands_45 : decode cX9_performCommands 45 = .ok (.aload_n 0, 1) := by decide +kernel
theorem dX9_performCommands_46 : decode cX9_performCommands 46 = .ok (.getfield 10, 3) := by decide +kernel
theorem dX9_performCommands_49 : decode cX9_performCommands 49 = .ok (.iload_n 2, 1) := by decide +kernel
theorem dX9_performCommands_50 : decode cX9_performCommands 50 = .ok (.iload_n 3, 1) := by decide +kernel
theorem dX9_performCommands_51 : decode cX9_performCommands 51 = .ok (.iload 4, 2) := by decide +kernel
theorem dX9_performCommands_53 : decode cX9_performCommands 53 = .ok (.invokevirtual 345, 3) := by decide +kernel
theorem dX9_performCommands_56 : decode cX9_performCommands 56 = .ok (.ifCond .eq 5, 3) := by decide +kernel
theorem dX9_performCommands_59 : decode cX9_performCommands 59 = .ok (.iload_n 1, 1) := by decide +kernel
theorem dX9_performCommands_60 : decode cX9_performCommands 60 = .ok (.ireturn, 1) := by decide +kernel
theorem dX9_performCommands_61 : decode cX9_performCommands 61 = .ok (.aload_n 0, 1) := by decide +kernel
theorem dX9_performCommands_62 : decode cX9_performCommands 62 = .ok (.getfield 10, 3) := by decide +kernel
theorem dX9_performCommands_65 : decode cX9_performCommands 65 = .ok (.iload_n 2, 1) := by decide +kernel
theorem dX9_performCommands_66 : decode cX9_performCommands 66 = .ok (.iload_n 3, 1) := by decide +kernel
theorem dX9_performCommands_67 : decode cX9_performCommands 67 = .ok (.iload 4, 2) := by decide +kernel
theorem dX9_performCommands_69 : decode cX9_performCommands 69 = .ok (.invokevirtual 368, 3) := by decide +kernel
theorem dX9_performCommands_72 : decode cX9_performCommands 72 = .ok (.pop, 1) := by decide +kernel
theorem dX9_performCommands_73 : decode cX9_performCommands 73 = .ok (.iinc 1 1, 3) := by decide +kernel
theorem dX9_performCommands_76 : decode cX9_performCommands 76 = .ok (.goto (-74), 3) := by decide +kernel
theorem dX9_performCommands_79 : decode cX9_performCommands 79 = .ok (.aload_n 0, 1) := by decide +kernel
theorem dX9_performCommands_80 : decode cX9_performCommands 80 = .ok (.getfield 49, 3) := by decide +kernel
theorem dX9_performCommands_83 : decode cX9_performCommands 83 = .ok (.getfield 294, 3) := by decide +kernel
theorem dX9_performCommands_86 : decode cX9_performCommands 86 = .ok (.ireturn, 1) := by decide +kernel
theorem dX9_throwForCommand_0 : decode cX9_throwForCommand 0 = .ok (.aload_n 0, 1) := by decide +kernel
theorem dX9_throwForCommand_1 : decode cX9_throwForCommand 1 = .ok (.getfield 42, 3) := by decide +kernel
theorem dX9_throwForCommand_4 : decode cX9_throwForCommand 4 = .ok (.getfield 380, 3) := by decide +kernel
theorem dX9_throwForCommand_7 : decode cX9_throwForCommand 7 = .ok (.iconst 3, 1) := by decide +kernel
theorem dX9_throwForCommand_8 : decode cX9_throwForCommand 8 = .ok (.if_icmp .eq 14, 3) := by decide +kernel
theorem dX9_throwForCommand_11 : decode cX9_throwForCommand 11 = .ok (.new 274, 3) := by decide +kernel
theorem dX9_throwForCommand_14 : decode cX9_throwForCommand 14 = .ok (.dup, 1) := by decide +kernel
theorem dX9_throwForCommand_15 : decode cX9_throwForCommand 15 = .ok (.ldc_w 383, 3) := by decide +kernel
theorem dX9_throwForCommand_18 : decode cX9_throwForCommand 18 = .ok (.invokespecial 278, 3) := by decide +kernel
theorem dX9_throwForCommand_21 : decode cX9_throwForCommand 21 = .ok (.athrow, 1) := by decide +kernel
theorem dX9_throwForCommand_22 : decode cX9_throwForCommand 22 = .ok (.aload_n 0, 1) := by decide +kernel
theorem dX9_throwForCommand_23 : decode cX9_throwForCommand 23 = .ok (.bipush 11, 2) := by decide +kernel
theorem dX9_throwForCommand_25 : decode cX9_throwForCommand 25 = .ok (.iload_n 1, 1) := by decide +kernel
theorem dX9_throwForCommand_26 : decode cX9_throwForCommand 26 = .ok (.aload_n 0, 1) := by decide +kernel
theorem dX9_throwForCommand_27 : decode cX9_throwForCommand 27 = .ok (.getfield 42, 3) := by decide +kernel
theorem dX9_throwForCommand_30 : decode cX9_throwForCommand 30 = .ok (.getfield 353, 3) := by decide +kernel
theorem dX9_throwForCommand_33 : decode cX9_throwForCommand 33 = .ok (.invokevirtual 359, 3) := by decide +kernel
theorem dX9_throwForCommand_36 : decode cX9_throwForCommand 36 = .ok (.new 363, 3) := by decide +kernel
theorem dX9_throwForCommand_39 : decode cX9_throwForCommand 39 = .ok (.dup, 1) := by decide +kernel
theorem dX9_throwForCommand_40 : decode cX9_throwForCommand 40 = .ok (.ldc_w 385, 3) := by decide +kernel
theorem dX9_throwForCommand_43 : decode cX9_throwForCommand 43 = .ok (.invokespecial 367, 3) := by decide +kernel
theorem dX9_throwForCommand_46 : decode cX9_throwForCommand 46 = .ok (.athrow, 1) := by decide +kernel
theorem dX9_rememberRejection_0 : decode cX9_rememberRejection 0 = .ok (.aload_n 0, 1) := by decide +kernel
theorem dX9_rememberRejection_1 : decode cX9_rememberRejection 1 = .ok (.iload_n 1, 1) := by decide +kernel
theorem dX9_rememberRejection_2 : decode cX9_rememberRejection 2 = .ok (.putfield 304, 3) := by decide +kernel
theorem dX9_rememberRejection_5 : decode cX9_rememberRejection 5 = .ok (.aload_n 0, 1) := by decide +kernel
theorem dX9_rememberRejection_6 : decode cX9_rememberRejection 6 = .ok (.iload_n 2, 1) := by decide +kernel
theorem dX9_rememberRejection_7 : decode cX9_rememberRejection 7 = .ok (.putfield 307, 3) := by decide +kernel
theorem dX9_rememberRejection_10 : decode cX9_rememberRejection 10 = .ok (.aload_n 0, 1) := by decide +kernel
theorem dX9_rememberRejection_11 : decode cX9_rememberRejection 11 = .ok (.iload_n 3, 1) := by decide +kernel
theorem dX9_rememberRejection_12 : decode cX9_rememberRejection 12 = .ok (.putfield 312, 3) := by decide +kernel
theorem dX9_rememberRejection_15 : decode cX9_rememberRejection 15 = .ok (.return_, 1) := by decide +kernel
