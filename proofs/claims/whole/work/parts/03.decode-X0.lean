theorem dX0_init_0 : decode cX0_init 0 = .ok (.aload_n 0, 1) := by decide +kernel
theorem dX0_init_1 : decode cX0_init 1 = .ok (.invokespecial 3, 3) := by decide +kernel
theorem dX0_init_4 : decode cX0_init 4 = .ok (.aload_n 0, 1) := by decide +kernel
theorem dX0_init_5 : decode cX0_init 5 = .ok (.bipush 10, 2) := by decide +kernel
theorem dX0_init_7 : decode cX0_init 7 = .ok (.newarray .int, 2) := by decide +kernel
theorem dX0_init_9 : decode cX0_init 9 = .ok (.putfield 9, 3) := by decide +kernel
theorem dX0_init_12 : decode cX0_init 12 = .ok (.aload_n 0, 1) := by decide +kernel
theorem dX0_init_13 : decode cX0_init 13 = .ok (.bipush 10, 2) := by decide +kernel
theorem dX0_init_15 : decode cX0_init 15 = .ok (.newarray .int, 2) := by decide +kernel
theorem dX0_init_17 : decode cX0_init 17 = .ok (.putfield 15, 3) := by decide +kernel
theorem dX0_init_20 : decode cX0_init 20 = .ok (.aload_n 0, 1) := by decide +kernel
theorem dX0_init_21 : decode cX0_init 21 = .ok (.bipush 9, 2) := by decide +kernel
theorem dX0_init_23 : decode cX0_init 23 = .ok (.newarray .int, 2) := by decide +kernel
theorem dX0_init_25 : decode cX0_init 25 = .ok (.putfield 18, 3) := by decide +kernel
theorem dX0_init_28 : decode cX0_init 28 = .ok (.aload_n 0, 1) := by decide +kernel
theorem dX0_init_29 : decode cX0_init 29 = .ok (.bipush 54, 2) := by decide +kernel
theorem dX0_init_31 : decode cX0_init 31 = .ok (.newarray .int, 2) := by decide +kernel
theorem dX0_init_33 : decode cX0_init 33 = .ok (.putfield 21, 3) := by decide +kernel
theorem dX0_init_36 : decode cX0_init 36 = .ok (.aload_n 0, 1) := by decide +kernel
theorem dX0_init_37 : decode cX0_init 37 = .ok (.bipush 81, 2) := by decide +kernel
theorem dX0_init_39 : decode cX0_init 39 = .ok (.newarray .int, 2) := by decide +kernel
theorem dX0_init_41 : decode cX0_init 41 = .ok (.putfield 24, 3) := by decide +kernel
theorem dX0_init_44 : decode cX0_init 44 = .ok (.aload_n 0, 1) := by decide +kernel
theorem dX0_init_45 : decode cX0_init 45 = .ok (.bipush 27, 2) := by decide +kernel
theorem dX0_init_47 : decode cX0_init 47 = .ok (.newarray .int, 2) := by decide +kernel
theorem dX0_init_49 : decode cX0_init 49 = .ok (.putfield 27, 3) := by decide +kernel
theorem dX0_init_52 : decode cX0_init 52 = .ok (.aload_n 0, 1) := by decide +kernel
theorem dX0_init_53 : decode cX0_init 53 = .ok (.bipush 18, 2) := by decide +kernel
theorem dX0_init_55 : decode cX0_init 55 = .ok (.newarray .int, 2) := by decide +kernel
theorem dX0_init_57 : decode cX0_init 57 = .ok (.putfield 30, 3) := by decide +kernel
theorem dX0_init_60 : decode cX0_init 60 = .ok (.aload_n 0, 1) := by decide +kernel
theorem dX0_init_61 : decode cX0_init 61 = .ok (.bipush 6, 2) := by decide +kernel
theorem dX0_init_63 : decode cX0_init 63 = .ok (.newarray .int, 2) := by decide +kernel
theorem dX0_init_65 : decode cX0_init 65 = .ok (.putfield 33, 3) := by decide +kernel
theorem dX0_init_68 : decode cX0_init 68 = .ok (.aload_n 0, 1) := by decide +kernel
theorem dX0_init_69 : decode cX0_init 69 = .ok (.aload_n 1, 1) := by decide +kernel
theorem dX0_init_70 : decode cX0_init 70 = .ok (.putfield 36, 3) := by decide +kernel
theorem dX0_init_73 : decode cX0_init 73 = .ok (.return_, 1) := by decide +kernel
theorem dX0_forget_0 : decode cX0_forget 0 = .ok (.aload_n 0, 1) := by decide +kernel
theorem dX0_forget_1 : decode cX0_forget 1 = .ok (.iconst 0, 1) := by decide +kernel
theorem dX0_forget_2 : decode cX0_forget 2 = .ok (.putfield 40, 3) := by decide +kernel
theorem dX0_forget_5 : decode cX0_forget 5 = .ok (.return_, 1) := by decide +kernel
theorem dX0_changesOfBest_0 : decode cX0_changesOfBest 0 = .ok (.aload_n 0, 1) := by decide +kernel
theorem dX0_changesOfBest_1 : decode cX0_changesOfBest 1 = .ok (.invokevirtual 44, 3) := by decide +kernel
theorem dX0_changesOfBest_4 : decode cX0_changesOfBest 4 = .ok (.iconst (-1), 1) := by decide +kernel
theorem dX0_changesOfBest_5 : decode cX0_changesOfBest 5 = .ok (.istore_n 2, 1) := by decide +kernel
theorem dX0_changesOfBest_6 : decode cX0_changesOfBest 6 = .ok (.iconst 0, 1) := by decide +kernel
theorem dX0_changesOfBest_7 : decode cX0_changesOfBest 7 = .ok (.istore_n 3, 1) := by decide +kernel
theorem dX0_changesOfBest_8 : decode cX0_changesOfBest 8 = .ok (.iload_n 3, 1) := by decide +kernel
theorem dX0_changesOfBest_9 : decode cX0_changesOfBest 9 = .ok (.iload_n 1, 1) := by decide +kernel
theorem dX0_changesOfBest_10 : decode cX0_changesOfBest 10 = .ok (.if_icmp .gt 47, 3) := by decide +kernel
theorem dX0_changesOfBest_13 : decode cX0_changesOfBest 13 = .ok (.iload_n 3, 1) := by decide +kernel
theorem dX0_changesOfBest_14 : decode cX0_changesOfBest 14 = .ok (.bipush 9, 2) := by decide +kernel
theorem dX0_changesOfBest_16 : decode cX0_changesOfBest 16 = .ok (.if_icmp .gt 41, 3) := by decide +kernel
theorem dX0_changesOfBest_19 : decode cX0_changesOfBest 19 = .ok (.aload_n 0, 1) := by decide +kernel
theorem dX0_changesOfBest_20 : decode cX0_changesOfBest 20 = .ok (.getfield 9, 3) := by decide +kernel
theorem dX0_changesOfBest_23 : decode cX0_changesOfBest 23 = .ok (.iload_n 3, 1) := by decide +kernel
theorem dX0_changesOfBest_24 : decode cX0_changesOfBest 24 = .ok (.iaload, 1) := by decide +kernel
theorem dX0_changesOfBest_25 : decode cX0_changesOfBest 25 = .ok (.iconst (-1), 1) := by decide +kernel
theorem dX0_changesOfBest_26 : decode cX0_changesOfBest 26 = .ok (.if_icmp .eq 25, 3) := by decide +kernel
theorem dX0_changesOfBest_29 : decode cX0_changesOfBest 29 = .ok (.iload_n 2, 1) := by decide +kernel
theorem dX0_changesOfBest_30 : decode cX0_changesOfBest 30 = .ok (.iconst (-1), 1) := by decide +kernel
theorem dX0_changesOfBest_31 : decode cX0_changesOfBest 31 = .ok (.if_icmp .eq 18, 3) := by decide +kernel
theorem dX0_changesOfBest_34 : decode cX0_changesOfBest 34 = .ok (.aload_n 0, 1) := by decide +kernel
theorem dX0_changesOfBest_35 : decode cX0_changesOfBest 35 = .ok (.getfield 9, 3) := by decide +kernel
theorem dX0_changesOfBest_38 : decode cX0_changesOfBest 38 = .ok (.iload_n 3, 1) := by decide +kernel
theorem dX0_changesOfBest_39 : decode cX0_changesOfBest 39 = .ok (.iaload, 1) := by decide +kernel
theorem dX0_changesOfBest_40 : decode cX0_changesOfBest 40 = .ok (.aload_n 0, 1) := by decide +kernel
theorem dX0_changesOfBest_41 : decode cX0_changesOfBest 41 = .ok (.getfield 9, 3) := by decide +kernel
theorem dX0_changesOfBest_44 : decode cX0_changesOfBest 44 = .ok (.iload_n 2, 1) := by decide +kernel
theorem dX0_changesOfBest_45 : decode cX0_changesOfBest 45 = .ok (.iaload, 1) := by decide +kernel
theorem dX0_changesOfBest_46 : decode cX0_changesOfBest 46 = .ok (.if_icmp .ge 5, 3) := by decide +kernel
theorem dX0_changesOfBest_49 : decode cX0_changesOfBest 49 = .ok (.iload_n 3, 1) := by decide +kernel
theorem dX0_changesOfBest_50 : decode cX0_changesOfBest 50 = .ok (.istore_n 2, 1) := by decide +kernel
theorem dX0_changesOfBest_51 : decode cX0_changesOfBest 51 = .ok (.iinc 3 1, 3) := by decide +kernel
theorem dX0_changesOfBest_54 : decode cX0_changesOfBest 54 = .ok (.goto (-46), 3) := by decide +kernel
theorem dX0_changesOfBest_57 : decode cX0_changesOfBest 57 = .ok (.iload_n 2, 1) := by decide +kernel
theorem dX0_changesOfBest_58 : decode cX0_changesOfBest 58 = .ok (.ireturn, 1) := by decide +kernel
theorem dX0_fewestChangesFor_0 : decode cX0_fewestChangesFor 0 = .ok (.aload_n 0, 1) := by decide +kernel
theorem dX0_fewestChangesFor_1 : decode cX0_fewestChangesFor 1 = .ok (.invokevirtual 44, 3) := by decide +kernel
theorem dX0_fewestChangesFor_4 : decode cX0_fewestChangesFor 4 = .ok (.iconst 0, 1) := by decide +kernel
theorem dX0_fewestChangesFor_5 : decode cX0_fewestChangesFor 5 = .ok (.istore_n 2, 1) := by decide +kernel
theorem dX0_fewestChangesFor_6 : decode cX0_fewestChangesFor 6 = .ok (.iload_n 2, 1) := by decide +kernel
theorem dX0_fewestChangesFor_7 : decode cX0_fewestChangesFor 7 = .ok (.bipush 9, 2) := by decide +kernel
theorem dX0_fewestChangesFor_9 : decode cX0_fewestChangesFor 9 = .ok (.if_icmp .gt 31, 3) := by decide +kernel
theorem dX0_fewestChangesFor_12 : decode cX0_fewestChangesFor 12 = .ok (.aload_n 0, 1) := by decide +kernel
theorem dX0_fewestChangesFor_13 : decode cX0_fewestChangesFor 13 = .ok (.getfield 9, 3) := by decide +kernel
theorem dX0_fewestChangesFor_16 : decode cX0_fewestChangesFor 16 = .ok (.iload_n 2, 1) := by decide +kernel
theorem dX0_fewestChangesFor_17 : decode cX0_fewestChangesFor 17 = .ok (.iaload, 1) := by decide +kernel
theorem dX0_fewestChangesFor_18 : decode cX0_fewestChangesFor 18 = .ok (.iconst (-1), 1) := by decide +kernel
theorem dX0_fewestChangesFor_19 : decode cX0_fewestChangesFor 19 = .ok (.if_icmp .eq 15, 3) := by decide +kernel
theorem dX0_fewestChangesFor_22 : decode cX0_fewestChangesFor 22 = .ok (.aload_n 0, 1) := by decide +kernel
theorem dX0_fewestChangesFor_23 : decode cX0_fewestChangesFor 23 = .ok (.getfield 9, 3) := by decide +kernel
theorem dX0_fewestChangesFor_26 : decode cX0_fewestChangesFor 26 = .ok (.iload_n 2, 1) := by decide +kernel
theorem dX0_fewestChangesFor_27 : decode cX0_fewestChangesFor 27 = .ok (.iaload, 1) := by decide +kernel
theorem dX0_fewestChangesFor_28 : decode cX0_fewestChangesFor 28 = .ok (.iload_n 1, 1) := by decide +kernel
theorem dX0_fewestChangesFor_29 : decode cX0_fewestChangesFor 29 = .ok (.if_icmp .gt 5, 3) := by decide +kernel
theorem dX0_fewestChangesFor_32 : decode cX0_fewestChangesFor 32 = .ok (.iload_n 2, 1) := by decide +kernel
theorem dX0_fewestChangesFor_33 : decode cX0_fewestChangesFor 33 = .ok (.ireturn, 1) := by decide +kernel
theorem dX0_fewestChangesFor_34 : decode cX0_fewestChangesFor 34 = .ok (.iinc 2 1, 3) := by decide +kernel
theorem dX0_fewestChangesFor_37 : decode cX0_fewestChangesFor 37 = .ok (.goto (-31), 3) := by decide +kernel
theorem dX0_fewestChangesFor_40 : decode cX0_fewestChangesFor 40 = .ok (.iconst (-1), 1) := by decide +kernel
theorem dX0_fewestChangesFor_41 : decode cX0_fewestChangesFor 41 = .ok (.ireturn, 1) := by decide +kernel
theorem dX0_countAll_0 : decode cX0_countAll 0 = .ok (.aload_n 0, 1) := by decide +kernel
theorem dX0_countAll_1 : decode cX0_countAll 1 = .ok (.invokevirtual 44, 3) := by decide +kernel
theorem dX0_countAll_4 : decode cX0_countAll 4 = .ok (.aload_n 0, 1) := by decide +kernel
theorem dX0_countAll_5 : decode cX0_countAll 5 = .ok (.getfield 47, 3) := by decide +kernel
theorem dX0_countAll_8 : decode cX0_countAll 8 = .ok (.ireturn, 1) := by decide +kernel
theorem dX0_findAll_0 : decode cX0_findAll 0 = .ok (.aload_n 0, 1) := by decide +kernel
theorem dX0_findAll_1 : decode cX0_findAll 1 = .ok (.getfield 40, 3) := by decide +kernel
theorem dX0_findAll_4 : decode cX0_findAll 4 = .ok (.ifCond .eq 4, 3) := by decide +kernel
theorem dX0_findAll_7 : decode cX0_findAll 7 = .ok (.return_, 1) := by decide +kernel
theorem dX0_findAll_8 : decode cX0_findAll 8 = .ok (.aload_n 0, 1) := by decide +kernel
theorem dX0_findAll_9 : decode cX0_findAll 9 = .ok (.iconst 1, 1) := by decide +kernel
theorem dX0_findAll_10 : decode cX0_findAll 10 = .ok (.putfield 40, 3) := by decide +kernel
theorem dX0_findAll_13 : decode cX0_findAll 13 = .ok (.aload_n 0, 1) := by decide +kernel
theorem dX0_findAll_14 : decode cX0_findAll 14 = .ok (.getfield 9, 3) := by decide +kernel
theorem dX0_findAll_17 : decode cX0_findAll 17 = .ok (.iconst (-1), 1) := by decide +kernel
theorem dX0_findAll_18 : decode cX0_findAll 18 = .ok (.invokestatic 51, 3) := by decide +kernel
theorem dX0_findAll_21 : decode cX0_findAll 21 = .ok (.aload_n 0, 1) := by decide +kernel
theorem dX0_findAll_22 : decode cX0_findAll 22 = .ok (.iconst 0, 1) := by decide +kernel
theorem dX0_findAll_23 : decode cX0_findAll 23 = .ok (.putfield 47, 3) := by decide +kernel
theorem dX0_findAll_26 : decode cX0_findAll 26 = .ok (.aload_n 0, 1) := by decide +kernel
theorem dX0_findAll_27 : decode cX0_findAll 27 = .ok (.iconst 0, 1) := by decide +kernel
theorem dX0_findAll_28 : decode cX0_findAll 28 = .ok (.putfield 57, 3) := by decide +kernel
theorem dX0_findAll_31 : decode cX0_findAll 31 = .ok (.aload_n 0, 1) := by decide +kernel
theorem dX0_findAll_32 : decode cX0_findAll 32 = .ok (.iconst (-1), 1) := by decide +kernel
theorem dX0_findAll_33 : decode cX0_findAll 33 = .ok (.putfield 60, 3) := by decide +kernel
theorem dX0_findAll_36 : decode cX0_findAll 36 = .ok (.aload_n 0, 1) := by decide +kernel
theorem dX0_findAll_37 : decode cX0_findAll 37 = .ok (.invokevirtual 63, 3) := by decide +kernel
theorem dX0_findAll_40 : decode cX0_findAll 40 = .ok (.aload_n 0, 1) := by decide +kernel
theorem dX0_findAll_41 : decode cX0_findAll 41 = .ok (.invokevirtual 66, 3) := by decide +kernel
theorem dX0_findAll_44 : decode cX0_findAll 44 = .ok (.aload_n 0, 1) := by decide +kernel
theorem dX0_findAll_45 : decode cX0_findAll 45 = .ok (.invokevirtual 69, 3) := by decide +kernel
theorem dX0_findAll_48 : decode cX0_findAll 48 = .ok (.aload_n 0, 1) := by decide +kernel
theorem dX0_findAll_49 : decode cX0_findAll 49 = .ok (.iconst 0, 1) := by decide +kernel
theorem dX0_findAll_50 : decode cX0_findAll 50 = .ok (.aload_n 0, 1) := by decide +kernel
theorem dX0_findAll_51 : decode cX0_findAll 51 = .ok (.invokevirtual 72, 3) := by decide +kernel
theorem dX0_findAll_54 : decode cX0_findAll 54 = .ok (.iconst 0, 1) := by decide +kernel
theorem dX0_findAll_55 : decode cX0_findAll 55 = .ok (.invokevirtual 76, 3) := by decide +kernel
theorem dX0_findAll_58 : decode cX0_findAll 58 = .ok (.return_, 1) := by decide +kernel
theorem dX0_readTakings_0 : decode cX0_readTakings 0 = .ok (.iconst 0, 1) := by decide +kernel
theorem dX0_readTakings_1 : decode cX0_readTakings 1 = .ok (.istore_n 1, 1) := by decide +kernel
theorem dX0_readTakings_2 : decode cX0_readTakings 2 = .ok (.iload_n 1, 1) := by decide +kernel
theorem dX0_readTakings_3 : decode cX0_readTakings 3 = .ok (.aload_n 0, 1) := by decide +kernel
theorem dX0_readTakings_4 : decode cX0_readTakings 4 = .ok (.getfield 36, 3) := by decide +kernel
theorem dX0_readTakings_7 : decode cX0_readTakings 7 = .ok (.getfield 80, 3) := by decide +kernel
theorem dX0_readTakings_10 : decode cX0_readTakings 10 = .ok (.if_icmp .ge 43, 3) := by decide +kernel
theorem dX0_readTakings_13 : decode cX0_readTakings 13 = .ok (.iconst 0, 1) := by decide +kernel
theorem dX0_readTakings_14 : decode cX0_readTakings 14 = .ok (.istore_n 2, 1) := by decide +kernel
theorem dX0_readTakings_15 : decode cX0_readTakings 15 = .ok (.iload_n 2, 1) := by decide +kernel
theorem dX0_readTakings_16 : decode cX0_readTakings 16 = .ok (.bipush 6, 2) := by decide +kernel
theorem dX0_readTakings_18 : decode cX0_readTakings 18 = .ok (.if_icmp .ge 29, 3) := by decide +kernel
theorem dX0_readTakings_21 : decode cX0_readTakings 21 = .ok (.aload_n 0, 1) := by decide +kernel
theorem dX0_readTakings_22 : decode cX0_readTakings 22 = .ok (.getfield 21, 3) := by decide +kernel
theorem dX0_readTakings_25 : decode cX0_readTakings 25 = .ok (.iload_n 1, 1) := by decide +kernel
theorem dX0_readTakings_26 : decode cX0_readTakings 26 = .ok (.bipush 6, 2) := by decide +kernel
theorem dX0_readTakings_28 : decode cX0_readTakings 28 = .ok (.imul, 1) := by decide +kernel
theorem dX0_readTakings_29 : decode cX0_readTakings 29 = .ok (.iload_n 2, 1) := by decide +kernel
theorem dX0_readTakings_30 : decode cX0_readTakings 30 = .ok (.iadd, 1) := by decide +kernel
theorem dX0_readTakings_31 : decode cX0_readTakings 31 = .ok (.aload_n 0, 1) := by decide +kernel
theorem dX0_readTakings_32 : decode cX0_readTakings 32 = .ok (.getfield 36, 3) := by decide +kernel
theorem dX0_readTakings_35 : decode cX0_readTakings 35 = .ok (.iload_n 1, 1) := by decide +kernel
theorem dX0_readTakings_36 : decode cX0_readTakings 36 = .ok (.iload_n 2, 1) := by decide +kernel
theorem dX0_readTakings_37 : decode cX0_readTakings 37 = .ok (.invokevirtual 85, 3) := by decide +kernel
theorem dX0_readTakings_40 : decode cX0_readTakings 40 = .ok (.iastore, 1) := by decide +kernel
theorem dX0_readTakings_41 : decode cX0_readTakings 41 = .ok (.iinc 2 1, 3) := by decide +kernel
theorem dX0_readTakings_44 : decode cX0_readTakings 44 = .ok (.goto (-29), 3) := by decide +kernel
theorem dX0_readTakings_47 : decode cX0_readTakings 47 = .ok (.iinc 1 1, 3) := by decide +kernel
theorem dX0_readTakings_50 : decode cX0_readTakings 50 = .ok (.goto (-48), 3) := by decide +kernel
theorem dX0_readTakings_53 : decode cX0_readTakings 53 = .ok (.return_, 1) := by decide +kernel
theorem dX0_findTightHours_0 : decode cX0_findTightHours 0 = .ok (.aload_n 0, 1) := by decide +kernel
theorem dX0_findTightHours_1 : decode cX0_findTightHours 1 = .ok (.iconst 0, 1) := by decide +kernel
theorem dX0_findTightHours_2 : decode cX0_findTightHours 2 = .ok (.putfield 89, 3) := by decide +kernel
theorem dX0_findTightHours_5 : decode cX0_findTightHours 5 = .ok (.iconst 0, 1) := by decide +kernel
theorem dX0_findTightHours_6 : decode cX0_findTightHours 6 = .ok (.istore_n 1, 1) := by decide +kernel
theorem dX0_findTightHours_7 : decode cX0_findTightHours 7 = .ok (.iload_n 1, 1) := by decide +kernel
theorem dX0_findTightHours_8 : decode cX0_findTightHours 8 = .ok (.bipush 6, 2) := by decide +kernel
theorem dX0_findTightHours_10 : decode cX0_findTightHours 10 = .ok (.if_icmp .ge 108, 3) := by decide +kernel
theorem dX0_findTightHours_13 : decode cX0_findTightHours 13 = .ok (.iconst 0, 1) := by decide +kernel
theorem dX0_findTightHours_14 : decode cX0_findTightHours 14 = .ok (.istore_n 2, 1) := by decide +kernel
theorem dX0_findTightHours_15 : decode cX0_findTightHours 15 = .ok (.iconst 0, 1) := by decide +kernel
theorem dX0_findTightHours_16 : decode cX0_findTightHours 16 = .ok (.istore_n 3, 1) := by decide +kernel
theorem dX0_findTightHours_17 : decode cX0_findTightHours 17 = .ok (.iconst 0, 1) := by decide +kernel
theorem dX0_findTightHours_18 : decode cX0_findTightHours 18 = .ok (.istore 4, 2) := by decide +kernel
theorem dX0_findTightHours_20 : decode cX0_findTightHours 20 = .ok (.iload 4, 2) := by decide +kernel
theorem dX0_findTightHours_22 : decode cX0_findTightHours 22 = .ok (.aload_n 0, 1) := by decide +kernel
theorem dX0_findTightHours_23 : decode cX0_findTightHours 23 = .ok (.getfield 36, 3) := by decide +kernel
theorem dX0_findTightHours_26 : decode cX0_findTightHours 26 = .ok (.getfield 80, 3) := by decide +kernel
theorem dX0_findTightHours_29 : decode cX0_findTightHours 29 = .ok (.if_icmp .ge 48, 3) := by decide +kernel
theorem dX0_findTightHours_32 : decode cX0_findTightHours 32 = .ok (.iload_n 2, 1) := by decide +kernel
theorem dX0_findTightHours_33 : decode cX0_findTightHours 33 = .ok (.aload_n 0, 1) := by decide +kernel
theorem dX0_findTightHours_34 : decode cX0_findTightHours 34 = .ok (.getfield 21, 3) := by decide +kernel
theorem dX0_findTightHours_37 : decode cX0_findTightHours 37 = .ok (.iload 4, 2) := by decide +kernel
theorem dX0_findTightHours_39 : decode cX0_findTightHours 39 = .ok (.bipush 6, 2) := by decide +kernel
theorem dX0_findTightHours_41 : decode cX0_findTightHours 41 = .ok (.imul, 1) := by decide +kernel
theorem dX0_findTightHours_42 : decode cX0_findTightHours 42 = .ok (.iload_n 1, 1) := by decide +kernel
theorem dX0_findTightHours_43 : decode cX0_findTightHours 43 = .ok (.iadd, 1) := by decide +kernel
theorem dX0_findTightHours_44 : decode cX0_findTightHours 44 = .ok (.iaload, 1) := by decide +kernel
theorem dX0_findTightHours_45 : decode cX0_findTightHours 45 = .ok (.iconst 0, 1) := by decide +kernel
theorem dX0_findTightHours_46 : decode cX0_findTightHours 46 = .ok (.invokestatic 92, 3) := by decide +kernel
theorem dX0_findTightHours_49 : decode cX0_findTightHours 49 = .ok (.iadd, 1) := by decide +kernel
theorem dX0_findTightHours_50 : decode cX0_findTightHours 50 = .ok (.istore_n 2, 1) := by decide +kernel
theorem dX0_findTightHours_51 : decode cX0_findTightHours 51 = .ok (.iload_n 3, 1) := by decide +kernel
theorem dX0_findTightHours_52 : decode cX0_findTightHours 52 = .ok (.aload_n 0, 1) := by decide +kernel
theorem dX0_findTightHours_53 : decode cX0_findTightHours 53 = .ok (.getfield 21, 3) := by decide +kernel
theorem dX0_findTightHours_56 : decode cX0_findTightHours 56 = .ok (.iload 4, 2) := by decide +kernel
theorem dX0_findTightHours_58 : decode cX0_findTightHours 58 = .ok (.bipush 6, 2) := by decide +kernel
theorem dX0_findTightHours_60 : decode cX0_findTightHours 60 = .ok (.imul, 1) := by decide +kernel
theorem dX0_findTightHours_61 : decode cX0_findTightHours 61 = .ok (.iload_n 1, 1) := by decide +kernel
theorem dX0_findTightHours_62 : decode cX0_findTightHours 62 = .ok (.iadd, 1) := by decide +kernel
theorem dX0_findTightHours_63 : decode cX0_findTightHours 63 = .ok (.iaload, 1) := by decide +kernel
theorem dX0_findTightHours_64 : decode cX0_findTightHours 64 = .ok (.ineg, 1) := by decide +kernel
theorem dX0_findTightHours_65 : decode cX0_findTightHours 65 = .ok (.iconst 0, 1) := by decide +kernel
theorem dX0_findTightHours_66 : decode cX0_findTightHours 66 = .ok (.invokestatic 92, 3) := by decide +kernel
theorem dX0_findTightHours_69 : decode cX0_findTightHours 69 = .ok (.iadd, 1) := by decide +kernel
theorem dX0_findTightHours_70 : decode cX0_findTightHours 70 = .ok (.istore_n 3, 1) := by decide +kernel
theorem dX0_findTightHours_71 : decode cX0_findTightHours 71 = .ok (.iinc 4 1, 3) := by decide +kernel
theorem dX0_findTightHours_74 : decode cX0_findTightHours 74 = .ok (.goto (-54), 3) := by decide +kernel
theorem dX0_findTightHours_77 : decode cX0_findTightHours 77 = .ok (.iload_n 2, 1) := by decide +kernel
theorem dX0_findTightHours_78 : decode cX0_findTightHours 78 = .ok (.iload_n 3, 1) := by decide +kernel
theorem dX0_findTightHours_79 : decode cX0_findTightHours 79 = .ok (.invokestatic 92, 3) := by decide +kernel
theorem dX0_findTightHours_82 : decode cX0_findTightHours 82 = .ok (.aload_n 0, 1) := by decide +kernel
theorem dX0_findTightHours_83 : decode cX0_findTightHours 83 = .ok (.getfield 36, 3) := by decide +kernel
theorem dX0_findTightHours_86 : decode cX0_findTightHours 86 = .ok (.getfield 97, 3) := by decide +kernel
theorem dX0_findTightHours_89 : decode cX0_findTightHours 89 = .ok (.if_icmp .le 23, 3) := by decide +kernel
theorem dX0_findTightHours_92 : decode cX0_findTightHours 92 = .ok (.aload_n 0, 1) := by decide +kernel
theorem dX0_findTightHours_93 : decode cX0_findTightHours 93 = .ok (.getfield 33, 3) := by decide +kernel
theorem dX0_findTightHours_96 : decode cX0_findTightHours 96 = .ok (.aload_n 0, 1) := by decide +kernel
theorem dX0_findTightHours_97 : decode cX0_findTightHours 97 = .ok (.getfield 89, 3) := by decide +kernel
theorem dX0_findTightHours_100 : decode cX0_findTightHours 100 = .ok (.iload_n 1, 1) := by decide +kernel
theorem dX0_findTightHours_101 : decode cX0_findTightHours 101 = .ok (.iastore, 1) := by decide +kernel
theorem dX0_findTightHours_102 : decode cX0_findTightHours 102 = .ok (.aload_n 0, 1) := by decide +kernel
theorem dX0_findTightHours_103 : decode cX0_findTightHours 103 = .ok (.dup, 1) := by decide +kernel
theorem dX0_findTightHours_104 : decode cX0_findTightHours 104 = .ok (.getfield 89, 3) := by decide +kernel
theorem dX0_findTightHours_107 : decode cX0_findTightHours 107 = .ok (.iconst 1, 1) := by decide +kernel
theorem dX0_findTightHours_108 : decode cX0_findTightHours 108 = .ok (.iadd, 1) := by decide +kernel
theorem dX0_findTightHours_109 : decode cX0_findTightHours 109 = .ok (.putfield 89, 3) := by decide +kernel
theorem dX0_findTightHours_112 : decode cX0_findTightHours 112 = .ok (.iinc 1 1, 3) := by decide +kernel
theorem dX0_findTightHours_115 : decode cX0_findTightHours 115 = .ok (.goto (-108), 3) := by decide +kernel
theorem dX0_findTightHours_118 : decode cX0_findTightHours 118 = .ok (.return_, 1) := by decide +kernel
theorem dX0_multiplyTakings_0 : decode cX0_multiplyTakings 0 = .ok (.iconst 0, 1) := by decide +kernel
theorem dX0_multiplyTakings_1 : decode cX0_multiplyTakings 1 = .ok (.istore_n 1, 1) := by decide +kernel
theorem dX0_multiplyTakings_2 : decode cX0_multiplyTakings 2 = .ok (.iload_n 1, 1) := by decide +kernel
theorem dX0_multiplyTakings_3 : decode cX0_multiplyTakings 3 = .ok (.aload_n 0, 1) := by decide +kernel
theorem dX0_multiplyTakings_4 : decode cX0_multiplyTakings 4 = .ok (.getfield 36, 3) := by decide +kernel
theorem dX0_multiplyTakings_7 : decode cX0_multiplyTakings 7 = .ok (.getfield 80, 3) := by decide +kernel
theorem dX0_multiplyTakings_10 : decode cX0_multiplyTakings 10 = .ok (.if_icmp .ge 39, 3) := by decide +kernel
theorem dX0_multiplyTakings_13 : decode cX0_multiplyTakings 13 = .ok (.iconst 0, 1) := by decide +kernel
theorem dX0_multiplyTakings_14 : decode cX0_multiplyTakings 14 = .ok (.istore_n 2, 1) := by decide +kernel
theorem dX0_multiplyTakings_15 : decode cX0_multiplyTakings 15 = .ok (.iload_n 2, 1) := by decide +kernel
theorem dX0_multiplyTakings_16 : decode cX0_multiplyTakings 16 = .ok (.iload_n 1, 1) := by decide +kernel
theorem dX0_multiplyTakings_17 : decode cX0_multiplyTakings 17 = .ok (.if_icmp .gt 26, 3) := by decide +kernel
theorem dX0_multiplyTakings_20 : decode cX0_multiplyTakings 20 = .ok (.aload_n 0, 1) := by decide +kernel
theorem dX0_multiplyTakings_21 : decode cX0_multiplyTakings 21 = .ok (.getfield 24, 3) := by decide +kernel
theorem dX0_multiplyTakings_24 : decode cX0_multiplyTakings 24 = .ok (.iload_n 1, 1) := by decide +kernel
theorem dX0_multiplyTakings_25 : decode cX0_multiplyTakings 25 = .ok (.bipush 9, 2) := by decide +kernel
theorem dX0_multiplyTakings_27 : decode cX0_multiplyTakings 27 = .ok (.imul, 1) := by decide +kernel
theorem dX0_multiplyTakings_28 : decode cX0_multiplyTakings 28 = .ok (.iload_n 2, 1) := by decide +kernel
theorem dX0_multiplyTakings_29 : decode cX0_multiplyTakings 29 = .ok (.iadd, 1) := by decide +kernel
theorem dX0_multiplyTakings_30 : decode cX0_multiplyTakings 30 = .ok (.aload_n 0, 1) := by decide +kernel
theorem dX0_multiplyTakings_31 : decode cX0_multiplyTakings 31 = .ok (.iload_n 1, 1) := by decide +kernel
theorem dX0_multiplyTakings_32 : decode cX0_multiplyTakings 32 = .ok (.iload_n 2, 1) := by decide +kernel
theorem dX0_multiplyTakings_33 : decode cX0_multiplyTakings 33 = .ok (.invokevirtual 100, 3) := by decide +kernel
theorem dX0_multiplyTakings_36 : decode cX0_multiplyTakings 36 = .ok (.iastore, 1) := by decide +kernel
theorem dX0_multiplyTakings_37 : decode cX0_multiplyTakings 37 = .ok (.iinc 2 1, 3) := by decide +kernel
theorem dX0_multiplyTakings_40 : decode cX0_multiplyTakings 40 = .ok (.goto (-25), 3) := by decide +kernel
theorem dX0_multiplyTakings_43 : decode cX0_multiplyTakings 43 = .ok (.iinc 1 1, 3) := by decide +kernel
theorem dX0_multiplyTakings_46 : decode cX0_multiplyTakings 46 = .ok (.goto (-44), 3) := by decide +kernel
theorem dX0_multiplyTakings_49 : decode cX0_multiplyTakings 49 = .ok (.return_, 1) := by decide +kernel
theorem dX0_product_0 : decode cX0_product 0 = .ok (.iconst 0, 1) := by decide +kernel
theorem dX0_product_1 : decode cX0_product 1 = .ok (.istore_n 3, 1) := by decide +kernel
theorem dX0_product_2 : decode cX0_product 2 = .ok (.iconst 0, 1) := by decide +kernel
theorem dX0_product_3 : decode cX0_product 3 = .ok (.istore 4, 2) := by decide +kernel
theorem dX0_product_5 : decode cX0_product 5 = .ok (.iload 4, 2) := by decide +kernel
theorem dX0_product_7 : decode cX0_product 7 = .ok (.bipush 6, 2) := by decide +kernel
theorem dX0_product_9 : decode cX0_product 9 = .ok (.if_icmp .ge 48, 3) := by decide +kernel
theorem dX0_product_12 : decode cX0_product 12 = .ok (.iload_n 3, 1) := by decide +kernel
theorem dX0_product_13 : decode cX0_product 13 = .ok (.aload_n 0, 1) := by decide +kernel
theorem dX0_product_14 : decode cX0_product 14 = .ok (.getfield 36, 3) := by decide +kernel
theorem dX0_product_17 : decode cX0_product 17 = .ok (.getfield 103, 3) := by decide +kernel
theorem dX0_product_20 : decode cX0_product 20 = .ok (.iload 4, 2) := by decide +kernel
theorem dX0_product_22 : decode cX0_product 22 = .ok (.iaload, 1) := by decide +kernel
theorem dX0_product_23 : decode cX0_product 23 = .ok (.aload_n 0, 1) := by decide +kernel
theorem dX0_product_24 : decode cX0_product 24 = .ok (.getfield 21, 3) := by decide +kernel
theorem dX0_product_27 : decode cX0_product 27 = .ok (.iload_n 1, 1) := by decide +kernel
theorem dX0_product_28 : decode cX0_product 28 = .ok (.bipush 6, 2) := by decide +kernel
theorem dX0_product_30 : decode cX0_product 30 = .ok (.imul, 1) := by decide +kernel
theorem dX0_product_31 : decode cX0_product 31 = .ok (.iload 4, 2) := by decide +kernel
theorem dX0_product_33 : decode cX0_product 33 = .ok (.iadd, 1) := by decide +kernel
theorem dX0_product_34 : decode cX0_product 34 = .ok (.iaload, 1) := by decide +kernel
theorem dX0_product_35 : decode cX0_product 35 = .ok (.imul, 1) := by decide +kernel
theorem dX0_product_36 : decode cX0_product 36 = .ok (.aload_n 0, 1) := by decide +kernel
theorem dX0_product_37 : decode cX0_product 37 = .ok (.getfield 21, 3) := by decide +kernel
theorem dX0_product_40 : decode cX0_product 40 = .ok (.iload_n 2, 1) := by decide +kernel
theorem dX0_product_41 : decode cX0_product 41 = .ok (.bipush 6, 2) := by decide +kernel
theorem dX0_product_43 : decode cX0_product 43 = .ok (.imul, 1) := by decide +kernel
theorem dX0_product_44 : decode cX0_product 44 = .ok (.iload 4, 2) := by decide +kernel
theorem dX0_product_46 : decode cX0_product 46 = .ok (.iadd, 1) := by decide +kernel
theorem dX0_product_47 : decode cX0_product 47 = .ok (.iaload, 1) := by decide +kernel
theorem dX0_product_48 : decode cX0_product 48 = .ok (.imul, 1) := by decide +kernel
theorem dX0_product_49 : decode cX0_product 49 = .ok (.iadd, 1) := by decide +kernel
theorem dX0_product_50 : decode cX0_product 50 = .ok (.istore_n 3, 1) := by decide +kernel
theorem dX0_product_51 : decode cX0_product 51 = .ok (.iinc 4 1, 3) := by decide +kernel
theorem dX0_product_54 : decode cX0_product 54 = .ok (.goto (-49), 3) := by decide +kernel
theorem dX0_product_57 : decode cX0_product 57 = .ok (.iload_n 3, 1) := by decide +kernel
theorem dX0_product_58 : decode cX0_product 58 = .ok (.ireturn, 1) := by decide +kernel
theorem dX0_griefApart_0 : decode cX0_griefApart 0 = .ok (.iconst 0, 1) := by decide +kernel
theorem dX0_griefApart_1 : decode cX0_griefApart 1 = .ok (.istore_n 1, 1) := by decide +kernel
theorem dX0_griefApart_2 : decode cX0_griefApart 2 = .ok (.iconst 0, 1) := by decide +kernel
theorem dX0_griefApart_3 : decode cX0_griefApart 3 = .ok (.istore_n 2, 1) := by decide +kernel
theorem dX0_griefApart_4 : decode cX0_griefApart 4 = .ok (.iload_n 2, 1) := by decide +kernel
theorem dX0_griefApart_5 : decode cX0_griefApart 5 = .ok (.aload_n 0, 1) := by decide +kernel
theorem dX0_griefApart_6 : decode cX0_griefApart 6 = .ok (.getfield 36, 3) := by decide +kernel
theorem dX0_griefApart_9 : decode cX0_griefApart 9 = .ok (.getfield 80, 3) := by decide +kernel
theorem dX0_griefApart_12 : decode cX0_griefApart 12 = .ok (.if_icmp .ge 50, 3) := by decide +kernel
theorem dX0_griefApart_15 : decode cX0_griefApart 15 = .ok (.iload_n 1, 1) := by decide +kernel
theorem dX0_griefApart_16 : decode cX0_griefApart 16 = .ok (.aload_n 0, 1) := by decide +kernel
theorem dX0_griefApart_17 : decode cX0_griefApart 17 = .ok (.getfield 24, 3) := by decide +kernel
theorem dX0_griefApart_20 : decode cX0_griefApart 20 = .ok (.iload_n 2, 1) := by decide +kernel
theorem dX0_griefApart_21 : decode cX0_griefApart 21 = .ok (.bipush 9, 2) := by decide +kernel
theorem dX0_griefApart_23 : decode cX0_griefApart 23 = .ok (.imul, 1) := by decide +kernel
theorem dX0_griefApart_24 : decode cX0_griefApart 24 = .ok (.iload_n 2, 1) := by decide +kernel
theorem dX0_griefApart_25 : decode cX0_griefApart 25 = .ok (.iadd, 1) := by decide +kernel
theorem dX0_griefApart_26 : decode cX0_griefApart 26 = .ok (.iaload, 1) := by decide +kernel
theorem dX0_griefApart_27 : decode cX0_griefApart 27 = .ok (.iadd, 1) := by decide +kernel
theorem dX0_griefApart_28 : decode cX0_griefApart 28 = .ok (.istore_n 1, 1) := by decide +kernel
theorem dX0_griefApart_29 : decode cX0_griefApart 29 = .ok (.iconst 0, 1) := by decide +kernel
theorem dX0_griefApart_30 : decode cX0_griefApart 30 = .ok (.istore_n 3, 1) := by decide +kernel
theorem dX0_griefApart_31 : decode cX0_griefApart 31 = .ok (.iload_n 3, 1) := by decide +kernel
theorem dX0_griefApart_32 : decode cX0_griefApart 32 = .ok (.iload_n 2, 1) := by decide +kernel
theorem dX0_griefApart_33 : decode cX0_griefApart 33 = .ok (.if_icmp .ge 23, 3) := by decide +kernel
theorem dX0_griefApart_36 : decode cX0_griefApart 36 = .ok (.iload_n 1, 1) := by decide +kernel
theorem dX0_griefApart_37 : decode cX0_griefApart 37 = .ok (.aload_n 0, 1) := by decide +kernel
theorem dX0_griefApart_38 : decode cX0_griefApart 38 = .ok (.getfield 24, 3) := by decide +kernel
theorem dX0_griefApart_41 : decode cX0_griefApart 41 = .ok (.iload_n 2, 1) := by decide +kernel
theorem dX0_griefApart_42 : decode cX0_griefApart 42 = .ok (.bipush 9, 2) := by decide +kernel
theorem dX0_griefApart_44 : decode cX0_griefApart 44 = .ok (.imul, 1) := by decide +kernel
theorem dX0_griefApart_45 : decode cX0_griefApart 45 = .ok (.iload_n 3, 1) := by decide +kernel
theorem dX0_griefApart_46 : decode cX0_griefApart 46 = .ok (.iadd, 1) := by decide +kernel
theorem dX0_griefApart_47 : decode cX0_griefApart 47 = .ok (.iaload, 1) := by decide +kernel
theorem dX0_griefApart_48 : decode cX0_griefApart 48 = .ok (.isub, 1) := by decide +kernel
theorem dX0_griefApart_49 : decode cX0_griefApart 49 = .ok (.istore_n 1, 1) := by decide +kernel
theorem dX0_griefApart_50 : decode cX0_griefApart 50 = .ok (.iinc 3 1, 3) := by decide +kernel
theorem dX0_griefApart_53 : decode cX0_griefApart 53 = .ok (.goto (-22), 3) := by decide +kernel
theorem dX0_griefApart_56 : decode cX0_griefApart 56 = .ok (.iinc 2 1, 3) := by decide +kernel
theorem dX0_griefApart_59 : decode cX0_griefApart 59 = .ok (.goto (-55), 3) := by decide +kernel
theorem dX0_griefApart_62 : decode cX0_griefApart 62 = .ok (.iload_n 1, 1) := by decide +kernel
theorem dX0_griefApart_63 : decode cX0_griefApart 63 = .ok (.ireturn, 1) := by decide +kernel
theorem dX0_place_0 : decode cX0_place 0 = .ok (.iload_n 1, 1) := by decide +kernel
theorem dX0_place_1 : decode cX0_place 1 = .ok (.aload_n 0, 1) := by decide +kernel
theorem dX0_place_2 : decode cX0_place 2 = .ok (.getfield 36, 3) := by decide +kernel
theorem dX0_place_5 : decode cX0_place 5 = .ok (.getfield 80, 3) := by decide +kernel
theorem dX0_place_8 : decode cX0_place 8 = .ok (.if_icmp .lt 10, 3) := by decide +kernel
theorem dX0_place_11 : decode cX0_place 11 = .ok (.aload_n 0, 1) := by decide +kernel
theorem dX0_place_12 : decode cX0_place 12 = .ok (.iload_n 2, 1) := by decide +kernel
theorem dX0_place_13 : decode cX0_place 13 = .ok (.iload_n 3, 1) := by decide +kernel
theorem dX0_place_14 : decode cX0_place 14 = .ok (.invokevirtual 106, 3) := by decide +kernel
theorem dX0_place_17 : decode cX0_place 17 = .ok (.return_, 1) := by decide +kernel
theorem dX0_place_18 : decode cX0_place 18 = .ok (.aload_n 0, 1) := by decide +kernel
theorem dX0_place_19 : decode cX0_place 19 = .ok (.iload_n 1, 1) := by decide +kernel
theorem dX0_place_20 : decode cX0_place 20 = .ok (.invokevirtual 110, 3) := by decide +kernel
theorem dX0_place_23 : decode cX0_place 23 = .ok (.iconst 0, 1) := by decide +kernel
theorem dX0_place_24 : decode cX0_place 24 = .ok (.istore 4, 2) := by decide +kernel
theorem dX0_place_26 : decode cX0_place 26 = .ok (.iload 4, 2) := by decide +kernel
theorem dX0_place_28 : decode cX0_place 28 = .ok (.iconst 3, 1) := by decide +kernel
theorem dX0_place_29 : decode cX0_place 29 = .ok (.if_icmp .ge 86, 3) := by decide +kernel
theorem dX0_place_32 : decode cX0_place 32 = .ok (.aload_n 0, 1) := by decide +kernel
theorem dX0_place_33 : decode cX0_place 33 = .ok (.iload_n 1, 1) := by decide +kernel
theorem dX0_place_34 : decode cX0_place 34 = .ok (.iload 4, 2) := by decide +kernel
theorem dX0_place_36 : decode cX0_place 36 = .ok (.invokevirtual 114, 3) := by decide +kernel
theorem dX0_place_39 : decode cX0_place 39 = .ok (.ifCond .eq 70, 3) := by decide +kernel
theorem dX0_place_42 : decode cX0_place 42 = .ok (.aload_n 0, 1) := by decide +kernel
theorem dX0_place_43 : decode cX0_place 43 = .ok (.getfield 18, 3) := by decide +kernel
theorem dX0_place_46 : decode cX0_place 46 = .ok (.iload_n 1, 1) := by decide +kernel
theorem dX0_place_47 : decode cX0_place 47 = .ok (.iload 4, 2) := by decide +kernel
theorem dX0_place_49 : decode cX0_place 49 = .ok (.iastore, 1) := by decide +kernel
theorem dX0_place_50 : decode cX0_place 50 = .ok (.aload_n 0, 1) := by decide +kernel
theorem dX0_place_51 : decode cX0_place 51 = .ok (.iload_n 1, 1) := by decide +kernel
theorem dX0_place_52 : decode cX0_place 52 = .ok (.iload 4, 2) := by decide +kernel
theorem dX0_place_54 : decode cX0_place 54 = .ok (.iconst 1, 1) := by decide +kernel
theorem dX0_place_55 : decode cX0_place 55 = .ok (.invokevirtual 118, 3) := by decide +kernel
theorem dX0_place_58 : decode cX0_place 58 = .ok (.aload_n 0, 1) := by decide +kernel
theorem dX0_place_59 : decode cX0_place 59 = .ok (.iload_n 1, 1) := by decide +kernel
theorem dX0_place_60 : decode cX0_place 60 = .ok (.iconst 1, 1) := by decide +kernel
theorem dX0_place_61 : decode cX0_place 61 = .ok (.iadd, 1) := by decide +kernel
theorem dX0_place_62 : decode cX0_place 62 = .ok (.iload_n 2, 1) := by decide +kernel
theorem dX0_place_63 : decode cX0_place 63 = .ok (.iconst 3, 1) := by decide +kernel
theorem dX0_place_64 : decode cX0_place 64 = .ok (.aload_n 0, 1) := by decide +kernel
theorem dX0_place_65 : decode cX0_place 65 = .ok (.getfield 27, 3) := by decide +kernel
theorem dX0_place_68 : decode cX0_place 68 = .ok (.iload_n 1, 1) := by decide +kernel
theorem dX0_place_69 : decode cX0_place 69 = .ok (.iconst 3, 1) := by decide +kernel
theorem dX0_place_70 : decode cX0_place 70 = .ok (.imul, 1) := by decide +kernel
theorem dX0_place_71 : decode cX0_place 71 = .ok (.iload 4, 2) := by decide +kernel
theorem dX0_place_73 : decode cX0_place 73 = .ok (.iadd, 1) := by decide +kernel
theorem dX0_place_74 : decode cX0_place 74 = .ok (.iaload, 1) := by decide +kernel
theorem dX0_place_75 : decode cX0_place 75 = .ok (.imul, 1) := by decide +kernel
theorem dX0_place_76 : decode cX0_place 76 = .ok (.iadd, 1) := by decide +kernel
theorem dX0_place_77 : decode cX0_place 77 = .ok (.iload_n 3, 1) := by decide +kernel
theorem dX0_place_78 : decode cX0_place 78 = .ok (.iload 4, 2) := by decide +kernel
theorem dX0_place_80 : decode cX0_place 80 = .ok (.aload_n 0, 1) := by decide +kernel
theorem dX0_place_81 : decode cX0_place 81 = .ok (.getfield 36, 3) := by decide +kernel
theorem dX0_place_84 : decode cX0_place 84 = .ok (.getfield 121, 3) := by decide +kernel
theorem dX0_place_87 : decode cX0_place 87 = .ok (.iload_n 1, 1) := by decide +kernel
theorem dX0_place_88 : decode cX0_place 88 = .ok (.iaload, 1) := by decide +kernel
theorem dX0_place_89 : decode cX0_place 89 = .ok (.if_icmp .ne 7, 3) := by decide +kernel
theorem dX0_place_92 : decode cX0_place 92 = .ok (.iconst 0, 1) := by decide +kernel
theorem dX0_place_93 : decode cX0_place 93 = .ok (.goto 4, 3) := by decide +kernel
theorem dX0_place_96 : decode cX0_place 96 = .ok (.iconst 1, 1) := by decide +kernel
theorem dX0_place_97 : decode cX0_place 97 = .ok (.iadd, 1) := by decide +kernel
theorem dX0_place_98 : decode cX0_place 98 = .ok (.invokevirtual 76, 3) := by decide +kernel
theorem dX0_place_101 : decode cX0_place 101 = .ok (.aload_n 0, 1) := by decide +kernel
theorem dX0_place_102 : decode cX0_place 102 = .ok (.iload_n 1, 1) := by decide +kernel
theorem dX0_place_103 : decode cX0_place 103 = .ok (.iload 4, 2) := by decide +kernel
theorem dX0_place_105 : decode cX0_place 105 = .ok (.iconst (-1), 1) := by decide +kernel
theorem dX0_place_106 : decode cX0_place 106 = .ok (.invokevirtual 118, 3) := by decide +kernel
theorem dX0_place_109 : decode cX0_place 109 = .ok (.iinc 4 1, 3) := by decide +kernel
theorem dX0_place_112 : decode cX0_place 112 = .ok (.goto (-86), 3) := by decide +kernel
theorem dX0_place_115 : decode cX0_place 115 = .ok (.return_, 1) := by decide +kernel
theorem dX0_meetEarlier_0 : decode cX0_meetEarlier 0 = .ok (.iload_n 1, 1) := by decide +kernel
theorem dX0_meetEarlier_1 : decode cX0_meetEarlier 1 = .ok (.iconst 3, 1) := by decide +kernel
theorem dX0_meetEarlier_2 : decode cX0_meetEarlier 2 = .ok (.imul, 1) := by decide +kernel
theorem dX0_meetEarlier_3 : decode cX0_meetEarlier 3 = .ok (.istore_n 2, 1) := by decide +kernel
theorem dX0_meetEarlier_4 : decode cX0_meetEarlier 4 = .ok (.iconst 0, 1) := by decide +kernel
theorem dX0_meetEarlier_5 : decode cX0_meetEarlier 5 = .ok (.istore_n 3, 1) := by decide +kernel
theorem dX0_meetEarlier_6 : decode cX0_meetEarlier 6 = .ok (.iload_n 3, 1) := by decide +kernel
theorem dX0_meetEarlier_7 : decode cX0_meetEarlier 7 = .ok (.iconst 3, 1) := by decide +kernel
theorem dX0_meetEarlier_8 : decode cX0_meetEarlier 8 = .ok (.if_icmp .ge 18, 3) := by decide +kernel
theorem dX0_meetEarlier_11 : decode cX0_meetEarlier 11 = .ok (.aload_n 0, 1) := by decide +kernel
theorem dX0_meetEarlier_12 : decode cX0_meetEarlier 12 = .ok (.getfield 27, 3) := by decide +kernel
theorem dX0_meetEarlier_15 : decode cX0_meetEarlier 15 = .ok (.iload_n 2, 1) := by decide +kernel
theorem dX0_meetEarlier_16 : decode cX0_meetEarlier 16 = .ok (.iload_n 3, 1) := by decide +kernel
theorem dX0_meetEarlier_17 : decode cX0_meetEarlier 17 = .ok (.iadd, 1) := by decide +kernel
theorem dX0_meetEarlier_18 : decode cX0_meetEarlier 18 = .ok (.iconst 0, 1) := by decide +kernel
theorem dX0_meetEarlier_19 : decode cX0_meetEarlier 19 = .ok (.iastore, 1) := by decide +kernel
theorem dX0_meetEarlier_20 : decode cX0_meetEarlier 20 = .ok (.iinc 3 1, 3) := by decide +kernel
theorem dX0_meetEarlier_23 : decode cX0_meetEarlier 23 = .ok (.goto (-17), 3) := by decide +kernel
theorem dX0_meetEarlier_26 : decode cX0_meetEarlier 26 = .ok (.iconst 0, 1) := by decide +kernel
theorem dX0_meetEarlier_27 : decode cX0_meetEarlier 27 = .ok (.istore_n 3, 1) := by decide +kernel
theorem dX0_meetEarlier_28 : decode cX0_meetEarlier 28 = .ok (.iload_n 3, 1) := by decide +kernel
theorem dX0_meetEarlier_29 : decode cX0_meetEarlier 29 = .ok (.iload_n 1, 1) := by decide +kernel
theorem dX0_meetEarlier_30 : decode cX0_meetEarlier 30 = .ok (.if_icmp .ge 36, 3) := by decide +kernel
theorem dX0_meetEarlier_33 : decode cX0_meetEarlier 33 = .ok (.aload_n 0, 1) := by decide +kernel
theorem dX0_meetEarlier_34 : decode cX0_meetEarlier 34 = .ok (.getfield 27, 3) := by decide +kernel
theorem dX0_meetEarlier_37 : decode cX0_meetEarlier 37 = .ok (.iload_n 2, 1) := by decide +kernel
theorem dX0_meetEarlier_38 : decode cX0_meetEarlier 38 = .ok (.aload_n 0, 1) := by decide +kernel
theorem dX0_meetEarlier_39 : decode cX0_meetEarlier 39 = .ok (.getfield 18, 3) := by decide +kernel
theorem dX0_meetEarlier_42 : decode cX0_meetEarlier 42 = .ok (.iload_n 3, 1) := by decide +kernel
theorem dX0_meetEarlier_43 : decode cX0_meetEarlier 43 = .ok (.iaload, 1) := by decide +kernel
theorem dX0_meetEarlier_44 : decode cX0_meetEarlier 44 = .ok (.iadd, 1) := by decide +kernel
theorem dX0_meetEarlier_45 : decode cX0_meetEarlier 45 = .ok (.dup2, 1) := by decide +kernel
theorem dX0_meetEarlier_46 : decode cX0_meetEarlier 46 = .ok (.iaload, 1) := by decide +kernel
theorem dX0_meetEarlier_47 : decode cX0_meetEarlier 47 = .ok (.aload_n 0, 1) := by decide +kernel
theorem dX0_meetEarlier_48 : decode cX0_meetEarlier 48 = .ok (.getfield 24, 3) := by decide +kernel
theorem dX0_meetEarlier_51 : decode cX0_meetEarlier 51 = .ok (.iload_n 1, 1) := by decide +kernel
theorem dX0_meetEarlier_52 : decode cX0_meetEarlier 52 = .ok (.bipush 9, 2) := by decide +kernel
theorem dX0_meetEarlier_54 : decode cX0_meetEarlier 54 = .ok (.imul, 1) := by decide +kernel
theorem dX0_meetEarlier_55 : decode cX0_meetEarlier 55 = .ok (.iload_n 3, 1) := by decide +kernel
theorem dX0_meetEarlier_56 : decode cX0_meetEarlier 56 = .ok (.iadd, 1) := by decide +kernel
theorem dX0_meetEarlier_57 : decode cX0_meetEarlier 57 = .ok (.iaload, 1) := by decide +kernel
theorem dX0_meetEarlier_58 : decode cX0_meetEarlier 58 = .ok (.iadd, 1) := by decide +kernel
theorem dX0_meetEarlier_59 : decode cX0_meetEarlier 59 = .ok (.iastore, 1) := by decide +kernel
theorem dX0_meetEarlier_60 : decode cX0_meetEarlier 60 = .ok (.iinc 3 1, 3) := by decide +kernel
theorem dX0_meetEarlier_63 : decode cX0_meetEarlier 63 = .ok (.goto (-35), 3) := by decide +kernel
theorem dX0_meetEarlier_66 : decode cX0_meetEarlier 66 = .ok (.return_, 1) := by decide +kernel
theorem dX0_mayLie_0 : decode cX0_mayLie 0 = .ok (.aload_n 0, 1) := by decide +kernel
theorem dX0_mayLie_1 : decode cX0_mayLie 1 = .ok (.getfield 36, 3) := by decide +kernel
theorem dX0_mayLie_4 : decode cX0_mayLie 4 = .ok (.getfield 124, 3) := by decide +kernel
theorem dX0_mayLie_7 : decode cX0_mayLie 7 = .ok (.iload_n 1, 1) := by decide +kernel
theorem dX0_mayLie_8 : decode cX0_mayLie 8 = .ok (.iaload, 1) := by decide +kernel
theorem dX0_mayLie_9 : decode cX0_mayLie 9 = .ok (.iconst 1, 1) := by decide +kernel
theorem dX0_mayLie_10 : decode cX0_mayLie 10 = .ok (.if_icmp .ne 18, 3) := by decide +kernel
theorem dX0_mayLie_13 : decode cX0_mayLie 13 = .ok (.iload_n 2, 1) := by decide +kernel
theorem dX0_mayLie_14 : decode cX0_mayLie 14 = .ok (.aload_n 0, 1) := by decide +kernel
theorem dX0_mayLie_15 : decode cX0_mayLie 15 = .ok (.getfield 36, 3) := by decide +kernel
theorem dX0_mayLie_18 : decode cX0_mayLie 18 = .ok (.getfield 121, 3) := by decide +kernel
theorem dX0_mayLie_21 : decode cX0_mayLie 21 = .ok (.iload_n 1, 1) := by decide +kernel
theorem dX0_mayLie_22 : decode cX0_mayLie 22 = .ok (.iaload, 1) := by decide +kernel
theorem dX0_mayLie_23 : decode cX0_mayLie 23 = .ok (.if_icmp .eq 5, 3) := by decide +kernel
theorem dX0_mayLie_26 : decode cX0_mayLie 26 = .ok (.iconst 0, 1) := by decide +kernel
theorem dX0_mayLie_27 : decode cX0_mayLie 27 = .ok (.ireturn, 1) := by decide +kernel
theorem dX0_mayLie_28 : decode cX0_mayLie 28 = .ok (.aload_n 0, 1) := by decide +kernel
theorem dX0_mayLie_29 : decode cX0_mayLie 29 = .ok (.getfield 36, 3) := by decide +kernel
theorem dX0_mayLie_32 : decode cX0_mayLie 32 = .ok (.getfield 127, 3) := by decide +kernel
theorem dX0_mayLie_35 : decode cX0_mayLie 35 = .ok (.iload_n 1, 1) := by decide +kernel
theorem dX0_mayLie_36 : decode cX0_mayLie 36 = .ok (.iaload, 1) := by decide +kernel
theorem dX0_mayLie_37 : decode cX0_mayLie 37 = .ok (.istore_n 3, 1) := by decide +kernel
theorem dX0_mayLie_38 : decode cX0_mayLie 38 = .ok (.iload_n 3, 1) := by decide +kernel
theorem dX0_mayLie_39 : decode cX0_mayLie 39 = .ok (.iload_n 1, 1) := by decide +kernel
theorem dX0_mayLie_40 : decode cX0_mayLie 40 = .ok (.if_icmp .eq 13, 3) := by decide +kernel
theorem dX0_mayLie_43 : decode cX0_mayLie 43 = .ok (.iload_n 2, 1) := by decide +kernel
theorem dX0_mayLie_44 : decode cX0_mayLie 44 = .ok (.aload_n 0, 1) := by decide +kernel
theorem dX0_mayLie_45 : decode cX0_mayLie 45 = .ok (.getfield 18, 3) := by decide +kernel
theorem dX0_mayLie_48 : decode cX0_mayLie 48 = .ok (.iload_n 3, 1) := by decide +kernel
theorem dX0_mayLie_49 : decode cX0_mayLie 49 = .ok (.iaload, 1) := by decide +kernel
theorem dX0_mayLie_50 : decode cX0_mayLie 50 = .ok (.if_icmp .ne 7, 3) := by decide +kernel
theorem dX0_mayLie_53 : decode cX0_mayLie 53 = .ok (.iconst 1, 1) := by decide +kernel
theorem dX0_mayLie_54 : decode cX0_mayLie 54 = .ok (.goto 4, 3) := by decide +kernel
theorem dX0_mayLie_57 : decode cX0_mayLie 57 = .ok (.iconst 0, 1) := by decide +kernel
theorem dX0_mayLie_58 : decode cX0_mayLie 58 = .ok (.ireturn, 1) := by decide +kernel
theorem dX0_addLoads_0 : decode cX0_addLoads 0 = .ok (.iconst 0, 1) := by decide +kernel
theorem dX0_addLoads_1 : decode cX0_addLoads 1 = .ok (.istore 4, 2) := by decide +kernel
theorem dX0_addLoads_3 : decode cX0_addLoads 3 = .ok (.iload 4, 2) := by decide +kernel
theorem dX0_addLoads_5 : decode cX0_addLoads 5 = .ok (.aload_n 0, 1) := by decide +kernel
theorem dX0_addLoads_6 : decode cX0_addLoads 6 = .ok (.getfield 89, 3) := by decide +kernel
theorem dX0_addLoads_9 : decode cX0_addLoads 9 = .ok (.if_icmp .ge 47, 3) := by decide +kernel
theorem dX0_addLoads_12 : decode cX0_addLoads 12 = .ok (.aload_n 0, 1) := by decide +kernel
theorem dX0_addLoads_13 : decode cX0_addLoads 13 = .ok (.getfield 33, 3) := by decide +kernel
theorem dX0_addLoads_16 : decode cX0_addLoads 16 = .ok (.iload 4, 2) := by decide +kernel
theorem dX0_addLoads_18 : decode cX0_addLoads 18 = .ok (.iaload, 1) := by decide +kernel
theorem dX0_addLoads_19 : decode cX0_addLoads 19 = .ok (.istore 5, 2) := by decide +kernel
theorem dX0_addLoads_21 : decode cX0_addLoads 21 = .ok (.aload_n 0, 1) := by decide +kernel
theorem dX0_addLoads_22 : decode cX0_addLoads 22 = .ok (.getfield 30, 3) := by decide +kernel
theorem dX0_addLoads_25 : decode cX0_addLoads 25 = .ok (.iload_n 2, 1) := by decide +kernel
theorem dX0_addLoads_26 : decode cX0_addLoads 26 = .ok (.bipush 6, 2) := by decide +kernel
theorem dX0_addLoads_28 : decode cX0_addLoads 28 = .ok (.imul, 1) := by decide +kernel
theorem dX0_addLoads_29 : decode cX0_addLoads 29 = .ok (.iload 5, 2) := by decide +kernel
theorem dX0_addLoads_31 : decode cX0_addLoads 31 = .ok (.iadd, 1) := by decide +kernel
theorem dX0_addLoads_32 : decode cX0_addLoads 32 = .ok (.dup2, 1) := by decide +kernel
theorem dX0_addLoads_33 : decode cX0_addLoads 33 = .ok (.iaload, 1) := by decide +kernel
theorem dX0_addLoads_34 : decode cX0_addLoads 34 = .ok (.iload_n 3, 1) := by decide +kernel
theorem dX0_addLoads_35 : decode cX0_addLoads 35 = .ok (.aload_n 0, 1) := by decide +kernel
theorem dX0_addLoads_36 : decode cX0_addLoads 36 = .ok (.getfield 21, 3) := by decide +kernel
theorem dX0_addLoads_39 : decode cX0_addLoads 39 = .ok (.iload_n 1, 1) := by decide +kernel
theorem dX0_addLoads_40 : decode cX0_addLoads 40 = .ok (.bipush 6, 2) := by decide +kernel
theorem dX0_addLoads_42 : decode cX0_addLoads 42 = .ok (.imul, 1) := by decide +kernel
theorem dX0_addLoads_43 : decode cX0_addLoads 43 = .ok (.iload 5, 2) := by decide +kernel
theorem dX0_addLoads_45 : decode cX0_addLoads 45 = .ok (.iadd, 1) := by decide +kernel
theorem dX0_addLoads_46 : decode cX0_addLoads 46 = .ok (.iaload, 1) := by decide +kernel
theorem dX0_addLoads_47 : decode cX0_addLoads 47 = .ok (.imul, 1) := by decide +kernel
theorem dX0_addLoads_48 : decode cX0_addLoads 48 = .ok (.iadd, 1) := by decide +kernel
theorem dX0_addLoads_49 : decode cX0_addLoads 49 = .ok (.iastore, 1) := by decide +kernel
theorem dX0_addLoads_50 : decode cX0_addLoads 50 = .ok (.iinc 4 1, 3) := by decide +kernel
theorem dX0_addLoads_53 : decode cX0_addLoads 53 = .ok (.goto (-50), 3) := by decide +kernel
theorem dX0_addLoads_56 : decode cX0_addLoads 56 = .ok (.return_, 1) := by decide +kernel
theorem dX0_isLaidSafe_0 : decode cX0_isLaidSafe 0 = .ok (.iconst 0, 1) := by decide +kernel
theorem dX0_isLaidSafe_1 : decode cX0_isLaidSafe 1 = .ok (.istore_n 1, 1) := by decide +kernel
theorem dX0_isLaidSafe_2 : decode cX0_isLaidSafe 2 = .ok (.iload_n 1, 1) := by decide +kernel
theorem dX0_isLaidSafe_3 : decode cX0_isLaidSafe 3 = .ok (.aload_n 0, 1) := by decide +kernel
theorem dX0_isLaidSafe_4 : decode cX0_isLaidSafe 4 = .ok (.getfield 89, 3) := by decide +kernel
theorem dX0_isLaidSafe_7 : decode cX0_isLaidSafe 7 = .ok (.if_icmp .ge 53, 3) := by decide +kernel
theorem dX0_isLaidSafe_10 : decode cX0_isLaidSafe 10 = .ok (.iconst 0, 1) := by decide +kernel
theorem dX0_isLaidSafe_11 : decode cX0_isLaidSafe 11 = .ok (.istore_n 2, 1) := by decide +kernel
theorem dX0_isLaidSafe_12 : decode cX0_isLaidSafe 12 = .ok (.iload_n 2, 1) := by decide +kernel
theorem dX0_isLaidSafe_13 : decode cX0_isLaidSafe 13 = .ok (.iconst 3, 1) := by decide +kernel
theorem dX0_isLaidSafe_14 : decode cX0_isLaidSafe 14 = .ok (.if_icmp .ge 40, 3) := by decide +kernel
theorem dX0_isLaidSafe_17 : decode cX0_isLaidSafe 17 = .ok (.aload_n 0, 1) := by decide +kernel
theorem dX0_isLaidSafe_18 : decode cX0_isLaidSafe 18 = .ok (.getfield 30, 3) := by decide +kernel
theorem dX0_isLaidSafe_21 : decode cX0_isLaidSafe 21 = .ok (.iload_n 2, 1) := by decide +kernel
theorem dX0_isLaidSafe_22 : decode cX0_isLaidSafe 22 = .ok (.bipush 6, 2) := by decide +kernel
theorem dX0_isLaidSafe_24 : decode cX0_isLaidSafe 24 = .ok (.imul, 1) := by decide +kernel
theorem dX0_isLaidSafe_25 : decode cX0_isLaidSafe 25 = .ok (.aload_n 0, 1) := by decide +kernel
theorem dX0_isLaidSafe_26 : decode cX0_isLaidSafe 26 = .ok (.getfield 33, 3) := by decide +kernel
theorem dX0_isLaidSafe_29 : decode cX0_isLaidSafe 29 = .ok (.iload_n 1, 1) := by decide +kernel
theorem dX0_isLaidSafe_30 : decode cX0_isLaidSafe 30 = .ok (.iaload, 1) := by decide +kernel
theorem dX0_isLaidSafe_31 : decode cX0_isLaidSafe 31 = .ok (.iadd, 1) := by decide +kernel
theorem dX0_isLaidSafe_32 : decode cX0_isLaidSafe 32 = .ok (.iaload, 1) := by decide +kernel
theorem dX0_isLaidSafe_33 : decode cX0_isLaidSafe 33 = .ok (.invokestatic 130, 3) := by decide +kernel
theorem dX0_isLaidSafe_36 : decode cX0_isLaidSafe 36 = .ok (.aload_n 0, 1) := by decide +kernel
theorem dX0_isLaidSafe_37 : decode cX0_isLaidSafe 37 = .ok (.getfield 36, 3) := by decide +kernel
theorem dX0_isLaidSafe_40 : decode cX0_isLaidSafe 40 = .ok (.getfield 97, 3) := by decide +kernel
theorem dX0_isLaidSafe_43 : decode cX0_isLaidSafe 43 = .ok (.if_icmp .le 5, 3) := by decide +kernel
theorem dX0_isLaidSafe_46 : decode cX0_isLaidSafe 46 = .ok (.iconst 0, 1) := by decide +kernel
theorem dX0_isLaidSafe_47 : decode cX0_isLaidSafe 47 = .ok (.ireturn, 1) := by decide +kernel
theorem dX0_isLaidSafe_48 : decode cX0_isLaidSafe 48 = .ok (.iinc 2 1, 3) := by decide +kernel
theorem dX0_isLaidSafe_51 : decode cX0_isLaidSafe 51 = .ok (.goto (-39), 3) := by decide +kernel
theorem dX0_isLaidSafe_54 : decode cX0_isLaidSafe 54 = .ok (.iinc 1 1, 3) := by decide +kernel
theorem dX0_isLaidSafe_57 : decode cX0_isLaidSafe 57 = .ok (.goto (-55), 3) := by decide +kernel
theorem dX0_isLaidSafe_60 : decode cX0_isLaidSafe 60 = .ok (.iconst 1, 1) := by decide +kernel
theorem dX0_isLaidSafe_61 : decode cX0_isLaidSafe 61 = .ok (.ireturn, 1) := by decide +kernel
theorem dX0_count_0 : decode cX0_count 0 = .ok (.aload_n 0, 1) := by decide +kernel
theorem dX0_count_1 : decode cX0_count 1 = .ok (.invokevirtual 134, 3) := by decide +kernel
theorem dX0_count_4 : decode cX0_count 4 = .ok (.ifCond .ne 4, 3) := by decide +kernel
theorem dX0_count_7 : decode cX0_count 7 = .ok (.return_, 1) := by decide +kernel
theorem dX0_count_8 : decode cX0_count 8 = .ok (.aload_n 0, 1) := by decide +kernel
theorem dX0_count_9 : decode cX0_count 9 = .ok (.dup, 1) := by decide +kernel
theorem dX0_count_10 : decode cX0_count 10 = .ok (.getfield 47, 3) := by decide +kernel
theorem dX0_count_13 : decode cX0_count 13 = .ok (.iconst 1, 1) := by decide +kernel
theorem dX0_count_14 : decode cX0_count 14 = .ok (.iadd, 1) := by decide +kernel
theorem dX0_count_15 : decode cX0_count 15 = .ok (.putfield 47, 3) := by decide +kernel
theorem dX0_count_18 : decode cX0_count 18 = .ok (.aload_n 0, 1) := by decide +kernel
theorem dX0_count_19 : decode cX0_count 19 = .ok (.getfield 60, 3) := by decide +kernel
theorem dX0_count_22 : decode cX0_count 22 = .ok (.iconst (-1), 1) := by decide +kernel
theorem dX0_count_23 : decode cX0_count 23 = .ok (.if_icmp .eq 11, 3) := by decide +kernel
theorem dX0_count_26 : decode cX0_count 26 = .ok (.iload_n 1, 1) := by decide +kernel
theorem dX0_count_27 : decode cX0_count 27 = .ok (.aload_n 0, 1) := by decide +kernel
theorem dX0_count_28 : decode cX0_count 28 = .ok (.getfield 60, 3) := by decide +kernel
theorem dX0_count_31 : decode cX0_count 31 = .ok (.if_icmp .ge 13, 3) := by decide +kernel
theorem dX0_count_34 : decode cX0_count 34 = .ok (.aload_n 0, 1) := by decide +kernel
theorem dX0_count_35 : decode cX0_count 35 = .ok (.iload_n 1, 1) := by decide +kernel
theorem dX0_count_36 : decode cX0_count 36 = .ok (.putfield 60, 3) := by decide +kernel
theorem dX0_count_39 : decode cX0_count 39 = .ok (.aload_n 0, 1) := by decide +kernel
theorem dX0_count_40 : decode cX0_count 40 = .ok (.iconst 0, 1) := by decide +kernel
theorem dX0_count_41 : decode cX0_count 41 = .ok (.putfield 57, 3) := by decide +kernel
theorem dX0_count_44 : decode cX0_count 44 = .ok (.iload_n 1, 1) := by decide +kernel
theorem dX0_count_45 : decode cX0_count 45 = .ok (.aload_n 0, 1) := by decide +kernel
theorem dX0_count_46 : decode cX0_count 46 = .ok (.getfield 60, 3) := by decide +kernel
theorem dX0_count_49 : decode cX0_count 49 = .ok (.if_icmp .ne 13, 3) := by decide +kernel
theorem dX0_count_52 : decode cX0_count 52 = .ok (.aload_n 0, 1) := by decide +kernel
theorem dX0_count_53 : decode cX0_count 53 = .ok (.dup, 1) := by decide +kernel
theorem dX0_count_54 : decode cX0_count 54 = .ok (.getfield 57, 3) := by decide +kernel
theorem dX0_count_57 : decode cX0_count 57 = .ok (.iconst 1, 1) := by decide +kernel
theorem dX0_count_58 : decode cX0_count 58 = .ok (.iadd, 1) := by decide +kernel
theorem dX0_count_59 : decode cX0_count 59 = .ok (.putfield 57, 3) := by decide +kernel
theorem dX0_count_62 : decode cX0_count 62 = .ok (.aload_n 0, 1) := by decide +kernel
theorem dX0_count_63 : decode cX0_count 63 = .ok (.getfield 9, 3) := by decide +kernel
theorem dX0_count_66 : decode cX0_count 66 = .ok (.iload_n 2, 1) := by decide +kernel
theorem dX0_count_67 : decode cX0_count 67 = .ok (.iaload, 1) := by decide +kernel
theorem dX0_count_68 : decode cX0_count 68 = .ok (.iconst (-1), 1) := by decide +kernel
theorem dX0_count_69 : decode cX0_count 69 = .ok (.if_icmp .eq 13, 3) := by decide +kernel
theorem dX0_count_72 : decode cX0_count 72 = .ok (.iload_n 1, 1) := by decide +kernel
theorem dX0_count_73 : decode cX0_count 73 = .ok (.aload_n 0, 1) := by decide +kernel
theorem dX0_count_74 : decode cX0_count 74 = .ok (.getfield 9, 3) := by decide +kernel
theorem dX0_count_77 : decode cX0_count 77 = .ok (.iload_n 2, 1) := by decide +kernel
theorem dX0_count_78 : decode cX0_count 78 = .ok (.iaload, 1) := by decide +kernel
theorem dX0_count_79 : decode cX0_count 79 = .ok (.if_icmp .ge 30, 3) := by decide +kernel
theorem dX0_count_82 : decode cX0_count 82 = .ok (.aload_n 0, 1) := by decide +kernel
theorem dX0_count_83 : decode cX0_count 83 = .ok (.getfield 9, 3) := by decide +kernel
theorem dX0_count_86 : decode cX0_count 86 = .ok (.iload_n 2, 1) := by decide +kernel
theorem dX0_count_87 : decode cX0_count 87 = .ok (.iload_n 1, 1) := by decide +kernel
theorem dX0_count_88 : decode cX0_count 88 = .ok (.iastore, 1) := by decide +kernel
theorem dX0_count_89 : decode cX0_count 89 = .ok (.aload_n 0, 1) := by decide +kernel
theorem dX0_count_90 : decode cX0_count 90 = .ok (.getfield 15, 3) := by decide +kernel
theorem dX0_count_93 : decode cX0_count 93 = .ok (.iload_n 2, 1) := by decide +kernel
theorem dX0_count_94 : decode cX0_count 94 = .ok (.aload_n 0, 1) := by decide +kernel
theorem dX0_count_95 : decode cX0_count 95 = .ok (.getfield 18, 3) := by decide +kernel
theorem dX0_count_98 : decode cX0_count 98 = .ok (.aload_n 0, 1) := by decide +kernel
theorem dX0_count_99 : decode cX0_count 99 = .ok (.getfield 36, 3) := by decide +kernel
theorem dX0_count_102 : decode cX0_count 102 = .ok (.getfield 80, 3) := by decide +kernel
theorem dX0_count_105 : decode cX0_count 105 = .ok (.invokestatic 138, 3) := by decide +kernel
theorem dX0_count_108 : decode cX0_count 108 = .ok (.iastore, 1) := by decide +kernel
theorem dX0_count_109 : decode cX0_count 109 = .ok (.return_, 1) := by decide +kernel
