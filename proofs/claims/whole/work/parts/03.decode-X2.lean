theorem dX2_init_0 : decode cX2_init 0 = .ok (.aload_n 0, 1) := by decide +kernel
theorem dX2_init_1 : decode cX2_init 1 = .ok (.invokespecial 3, 3) := by decide +kernel
theorem dX2_init_4 : decode cX2_init 4 = .ok (.aload_n 0, 1) := by decide +kernel
theorem dX2_init_5 : decode cX2_init 5 = .ok (.bipush 9, 2) := by decide +kernel
theorem dX2_init_7 : decode cX2_init 7 = .ok (.newarray .int, 2) := by decide +kernel
theorem dX2_init_9 : decode cX2_init 9 = .ok (.putfield 9, 3) := by decide +kernel
theorem dX2_init_12 : decode cX2_init 12 = .ok (.aload_n 0, 1) := by decide +kernel
theorem dX2_init_13 : decode cX2_init 13 = .ok (.bipush 9, 2) := by decide +kernel
theorem dX2_init_15 : decode cX2_init 15 = .ok (.newarray .int, 2) := by decide +kernel
theorem dX2_init_17 : decode cX2_init 17 = .ok (.putfield 15, 3) := by decide +kernel
theorem dX2_init_20 : decode cX2_init 20 = .ok (.aload_n 0, 1) := by decide +kernel
theorem dX2_init_21 : decode cX2_init 21 = .ok (.bipush 9, 2) := by decide +kernel
theorem dX2_init_23 : decode cX2_init 23 = .ok (.newarray .int, 2) := by decide +kernel
theorem dX2_init_25 : decode cX2_init 25 = .ok (.putfield 18, 3) := by decide +kernel
theorem dX2_init_28 : decode cX2_init 28 = .ok (.aload_n 0, 1) := by decide +kernel
theorem dX2_init_29 : decode cX2_init 29 = .ok (.bipush 9, 2) := by decide +kernel
theorem dX2_init_31 : decode cX2_init 31 = .ok (.newarray .int, 2) := by decide +kernel
theorem dX2_init_33 : decode cX2_init 33 = .ok (.putfield 21, 3) := by decide +kernel
theorem dX2_init_36 : decode cX2_init 36 = .ok (.aload_n 0, 1) := by decide +kernel
theorem dX2_init_37 : decode cX2_init 37 = .ok (.bipush 9, 2) := by decide +kernel
theorem dX2_init_39 : decode cX2_init 39 = .ok (.newarray .int, 2) := by decide +kernel
theorem dX2_init_41 : decode cX2_init 41 = .ok (.putfield 24, 3) := by decide +kernel
theorem dX2_init_44 : decode cX2_init 44 = .ok (.aload_n 0, 1) := by decide +kernel
theorem dX2_init_45 : decode cX2_init 45 = .ok (.bipush 6, 2) := by decide +kernel
theorem dX2_init_47 : decode cX2_init 47 = .ok (.newarray .int, 2) := by decide +kernel
theorem dX2_init_49 : decode cX2_init 49 = .ok (.putfield 27, 3) := by decide +kernel
theorem dX2_init_52 : decode cX2_init 52 = .ok (.aload_n 0, 1) := by decide +kernel
theorem dX2_init_53 : decode cX2_init 53 = .ok (.bipush 6, 2) := by decide +kernel
theorem dX2_init_55 : decode cX2_init 55 = .ok (.newarray .int, 2) := by decide +kernel
theorem dX2_init_57 : decode cX2_init 57 = .ok (.putfield 30, 3) := by decide +kernel
theorem dX2_init_60 : decode cX2_init 60 = .ok (.aload_n 0, 1) := by decide +kernel
theorem dX2_init_61 : decode cX2_init 61 = .ok (.bipush 6, 2) := by decide +kernel
theorem dX2_init_63 : decode cX2_init 63 = .ok (.newarray .int, 2) := by decide +kernel
theorem dX2_init_65 : decode cX2_init 65 = .ok (.putfield 33, 3) := by decide +kernel
theorem dX2_init_68 : decode cX2_init 68 = .ok (.aload_n 0, 1) := by decide +kernel
theorem dX2_init_69 : decode cX2_init 69 = .ok (.bipush 18, 2) := by decide +kernel
theorem dX2_init_71 : decode cX2_init 71 = .ok (.newarray .int, 2) := by decide +kernel
theorem dX2_init_73 : decode cX2_init 73 = .ok (.putfield 36, 3) := by decide +kernel
theorem dX2_init_76 : decode cX2_init 76 = .ok (.aload_n 0, 1) := by decide +kernel
theorem dX2_init_77 : decode cX2_init 77 = .ok (.invokevirtual 39, 3) := by decide +kernel
theorem dX2_init_80 : decode cX2_init 80 = .ok (.return_, 1) := by decide +kernel
theorem dX2_resetLimits_0 : decode cX2_resetLimits 0 = .ok (.aload_n 0, 1) := by decide +kernel
theorem dX2_resetLimits_1 : decode cX2_resetLimits 1 = .ok (.getfield 33, 3) := by decide +kernel
theorem dX2_resetLimits_4 : decode cX2_resetLimits 4 = .ok (.iconst 1, 1) := by decide +kernel
theorem dX2_resetLimits_5 : decode cX2_resetLimits 5 = .ok (.invokestatic 42, 3) := by decide +kernel
theorem dX2_resetLimits_8 : decode cX2_resetLimits 8 = .ok (.aload_n 0, 1) := by decide +kernel
theorem dX2_resetLimits_9 : decode cX2_resetLimits 9 = .ok (.sipush 400, 3) := by decide +kernel
theorem dX2_resetLimits_12 : decode cX2_resetLimits 12 = .ok (.putfield 48, 3) := by decide +kernel
theorem dX2_resetLimits_15 : decode cX2_resetLimits 15 = .ok (.return_, 1) := by decide +kernel
theorem dX2_addHouse_0 : decode cX2_addHouse 0 = .ok (.aload_n 0, 1) := by decide +kernel
theorem dX2_addHouse_1 : decode cX2_addHouse 1 = .ok (.getfield 52, 3) := by decide +kernel
theorem dX2_addHouse_4 : decode cX2_addHouse 4 = .ok (.istore 4, 2) := by decide +kernel
theorem dX2_addHouse_6 : decode cX2_addHouse 6 = .ok (.aload_n 0, 1) := by decide +kernel
theorem dX2_addHouse_7 : decode cX2_addHouse 7 = .ok (.dup, 1) := by decide +kernel
theorem dX2_addHouse_8 : decode cX2_addHouse 8 = .ok (.getfield 52, 3) := by decide +kernel
theorem dX2_addHouse_11 : decode cX2_addHouse 11 = .ok (.iconst 1, 1) := by decide +kernel
theorem dX2_addHouse_12 : decode cX2_addHouse 12 = .ok (.iadd, 1) := by decide +kernel
theorem dX2_addHouse_13 : decode cX2_addHouse 13 = .ok (.putfield 52, 3) := by decide +kernel
theorem dX2_addHouse_16 : decode cX2_addHouse 16 = .ok (.aload_n 0, 1) := by decide +kernel
theorem dX2_addHouse_17 : decode cX2_addHouse 17 = .ok (.getfield 9, 3) := by decide +kernel
theorem dX2_addHouse_20 : decode cX2_addHouse 20 = .ok (.iload 4, 2) := by decide +kernel
theorem dX2_addHouse_22 : decode cX2_addHouse 22 = .ok (.iload_n 1, 1) := by decide +kernel
theorem dX2_addHouse_23 : decode cX2_addHouse 23 = .ok (.iastore, 1) := by decide +kernel
theorem dX2_addHouse_24 : decode cX2_addHouse 24 = .ok (.aload_n 0, 1) := by decide +kernel
theorem dX2_addHouse_25 : decode cX2_addHouse 25 = .ok (.getfield 15, 3) := by decide +kernel
theorem dX2_addHouse_28 : decode cX2_addHouse 28 = .ok (.iload 4, 2) := by decide +kernel
theorem dX2_addHouse_30 : decode cX2_addHouse 30 = .ok (.iload_n 2, 1) := by decide +kernel
theorem dX2_addHouse_31 : decode cX2_addHouse 31 = .ok (.iastore, 1) := by decide +kernel
theorem dX2_addHouse_32 : decode cX2_addHouse 32 = .ok (.aload_n 0, 1) := by decide +kernel
theorem dX2_addHouse_33 : decode cX2_addHouse 33 = .ok (.getfield 18, 3) := by decide +kernel
theorem dX2_addHouse_36 : decode cX2_addHouse 36 = .ok (.iload 4, 2) := by decide +kernel
theorem dX2_addHouse_38 : decode cX2_addHouse 38 = .ok (.iload_n 3, 1) := by decide +kernel
theorem dX2_addHouse_39 : decode cX2_addHouse 39 = .ok (.iastore, 1) := by decide +kernel
theorem dX2_addHouse_40 : decode cX2_addHouse 40 = .ok (.aload_n 0, 1) := by decide +kernel
theorem dX2_addHouse_41 : decode cX2_addHouse 41 = .ok (.getfield 21, 3) := by decide +kernel
theorem dX2_addHouse_44 : decode cX2_addHouse 44 = .ok (.iload 4, 2) := by decide +kernel
theorem dX2_addHouse_46 : decode cX2_addHouse 46 = .ok (.iconst 0, 1) := by decide +kernel
theorem dX2_addHouse_47 : decode cX2_addHouse 47 = .ok (.iastore, 1) := by decide +kernel
theorem dX2_addHouse_48 : decode cX2_addHouse 48 = .ok (.aload_n 0, 1) := by decide +kernel
theorem dX2_addHouse_49 : decode cX2_addHouse 49 = .ok (.getfield 24, 3) := by decide +kernel
theorem dX2_addHouse_52 : decode cX2_addHouse 52 = .ok (.iload 4, 2) := by decide +kernel
theorem dX2_addHouse_54 : decode cX2_addHouse 54 = .ok (.iload 4, 2) := by decide +kernel
theorem dX2_addHouse_56 : decode cX2_addHouse 56 = .ok (.iastore, 1) := by decide +kernel
theorem dX2_addHouse_57 : decode cX2_addHouse 57 = .ok (.aload_n 0, 1) := by decide +kernel
theorem dX2_addHouse_58 : decode cX2_addHouse 58 = .ok (.iload 4, 2) := by decide +kernel
theorem dX2_addHouse_60 : decode cX2_addHouse 60 = .ok (.iconst 1, 1) := by decide +kernel
theorem dX2_addHouse_61 : decode cX2_addHouse 61 = .ok (.invokevirtual 55, 3) := by decide +kernel
theorem dX2_addHouse_64 : decode cX2_addHouse 64 = .ok (.iload 4, 2) := by decide +kernel
theorem dX2_addHouse_66 : decode cX2_addHouse 66 = .ok (.ireturn, 1) := by decide +kernel
theorem dX2_dropHouses_0 : decode cX2_dropHouses 0 = .ok (.aload_n 0, 1) := by decide +kernel
theorem dX2_dropHouses_1 : decode cX2_dropHouses 1 = .ok (.invokevirtual 59, 3) := by decide +kernel
theorem dX2_dropHouses_4 : decode cX2_dropHouses 4 = .ok (.aload_n 0, 1) := by decide +kernel
theorem dX2_dropHouses_5 : decode cX2_dropHouses 5 = .ok (.iconst 0, 1) := by decide +kernel
theorem dX2_dropHouses_6 : decode cX2_dropHouses 6 = .ok (.putfield 52, 3) := by decide +kernel
theorem dX2_dropHouses_9 : decode cX2_dropHouses 9 = .ok (.aload_n 0, 1) := by decide +kernel
theorem dX2_dropHouses_10 : decode cX2_dropHouses 10 = .ok (.getfield 36, 3) := by decide +kernel
theorem dX2_dropHouses_13 : decode cX2_dropHouses 13 = .ok (.iconst 0, 1) := by decide +kernel
theorem dX2_dropHouses_14 : decode cX2_dropHouses 14 = .ok (.invokestatic 42, 3) := by decide +kernel
theorem dX2_dropHouses_17 : decode cX2_dropHouses 17 = .ok (.return_, 1) := by decide +kernel
theorem dX2_setHouse_0 : decode cX2_setHouse 0 = .ok (.iload_n 2, 1) := by decide +kernel
theorem dX2_setHouse_1 : decode cX2_setHouse 1 = .ok (.ifCond .ne 10, 3) := by decide +kernel
theorem dX2_setHouse_4 : decode cX2_setHouse 4 = .ok (.aload_n 0, 1) := by decide +kernel
theorem dX2_setHouse_5 : decode cX2_setHouse 5 = .ok (.getfield 9, 3) := by decide +kernel
theorem dX2_setHouse_8 : decode cX2_setHouse 8 = .ok (.goto 19, 3) := by decide +kernel
theorem dX2_setHouse_11 : decode cX2_setHouse 11 = .ok (.iload_n 2, 1) := by decide +kernel
theorem dX2_setHouse_12 : decode cX2_setHouse 12 = .ok (.iconst 1, 1) := by decide +kernel
theorem dX2_setHouse_13 : decode cX2_setHouse 13 = .ok (.if_icmp .ne 10, 3) := by decide +kernel
theorem dX2_setHouse_16 : decode cX2_setHouse 16 = .ok (.aload_n 0, 1) := by decide +kernel
theorem dX2_setHouse_17 : decode cX2_setHouse 17 = .ok (.getfield 15, 3) := by decide +kernel
theorem dX2_setHouse_20 : decode cX2_setHouse 20 = .ok (.goto 7, 3) := by decide +kernel
theorem dX2_setHouse_23 : decode cX2_setHouse 23 = .ok (.aload_n 0, 1) := by decide +kernel
theorem dX2_setHouse_24 : decode cX2_setHouse 24 = .ok (.getfield 21, 3) := by decide +kernel
theorem dX2_setHouse_27 : decode cX2_setHouse 27 = .ok (.astore 4, 2) := by decide +kernel
theorem dX2_setHouse_29 : decode cX2_setHouse 29 = .ok (.aload 4, 2) := by decide +kernel
theorem dX2_setHouse_31 : decode cX2_setHouse 31 = .ok (.iload_n 1, 1) := by decide +kernel
theorem dX2_setHouse_32 : decode cX2_setHouse 32 = .ok (.iaload, 1) := by decide +kernel
theorem dX2_setHouse_33 : decode cX2_setHouse 33 = .ok (.istore 5, 2) := by decide +kernel
theorem dX2_setHouse_35 : decode cX2_setHouse 35 = .ok (.aload_n 0, 1) := by decide +kernel
theorem dX2_setHouse_36 : decode cX2_setHouse 36 = .ok (.iload_n 1, 1) := by decide +kernel
theorem dX2_setHouse_37 : decode cX2_setHouse 37 = .ok (.iconst (-1), 1) := by decide +kernel
theorem dX2_setHouse_38 : decode cX2_setHouse 38 = .ok (.invokevirtual 55, 3) := by decide +kernel
theorem dX2_setHouse_41 : decode cX2_setHouse 41 = .ok (.aload 4, 2) := by decide +kernel
theorem dX2_setHouse_43 : decode cX2_setHouse 43 = .ok (.iload_n 1, 1) := by decide +kernel
theorem dX2_setHouse_44 : decode cX2_setHouse 44 = .ok (.iload_n 3, 1) := by decide +kernel
theorem dX2_setHouse_45 : decode cX2_setHouse 45 = .ok (.iastore, 1) := by decide +kernel
theorem dX2_setHouse_46 : decode cX2_setHouse 46 = .ok (.aload_n 0, 1) := by decide +kernel
theorem dX2_setHouse_47 : decode cX2_setHouse 47 = .ok (.iload_n 1, 1) := by decide +kernel
theorem dX2_setHouse_48 : decode cX2_setHouse 48 = .ok (.iconst 1, 1) := by decide +kernel
theorem dX2_setHouse_49 : decode cX2_setHouse 49 = .ok (.invokevirtual 55, 3) := by decide +kernel
theorem dX2_setHouse_52 : decode cX2_setHouse 52 = .ok (.iload 5, 2) := by decide +kernel
theorem dX2_setHouse_54 : decode cX2_setHouse 54 = .ok (.ireturn, 1) := by decide +kernel
theorem dX2_setPhase_0 : decode cX2_setPhase 0 = .ok (.aload_n 0, 1) := by decide +kernel
theorem dX2_setPhase_1 : decode cX2_setPhase 1 = .ok (.iload_n 1, 1) := by decide +kernel
theorem dX2_setPhase_2 : decode cX2_setPhase 2 = .ok (.iconst (-1), 1) := by decide +kernel
theorem dX2_setPhase_3 : decode cX2_setPhase 3 = .ok (.invokevirtual 55, 3) := by decide +kernel
theorem dX2_setPhase_6 : decode cX2_setPhase 6 = .ok (.aload_n 0, 1) := by decide +kernel
theorem dX2_setPhase_7 : decode cX2_setPhase 7 = .ok (.getfield 18, 3) := by decide +kernel
theorem dX2_setPhase_10 : decode cX2_setPhase 10 = .ok (.iload_n 1, 1) := by decide +kernel
theorem dX2_setPhase_11 : decode cX2_setPhase 11 = .ok (.iload_n 2, 1) := by decide +kernel
theorem dX2_setPhase_12 : decode cX2_setPhase 12 = .ok (.iastore, 1) := by decide +kernel
theorem dX2_setPhase_13 : decode cX2_setPhase 13 = .ok (.aload_n 0, 1) := by decide +kernel
theorem dX2_setPhase_14 : decode cX2_setPhase 14 = .ok (.iload_n 1, 1) := by decide +kernel
theorem dX2_setPhase_15 : decode cX2_setPhase 15 = .ok (.iconst 1, 1) := by decide +kernel
theorem dX2_setPhase_16 : decode cX2_setPhase 16 = .ok (.invokevirtual 55, 3) := by decide +kernel
theorem dX2_setPhase_19 : decode cX2_setPhase 19 = .ok (.return_, 1) := by decide +kernel
theorem dX2_swapPhases_0 : decode cX2_swapPhases 0 = .ok (.aload_n 0, 1) := by decide +kernel
theorem dX2_swapPhases_1 : decode cX2_swapPhases 1 = .ok (.getfield 18, 3) := by decide +kernel
theorem dX2_swapPhases_4 : decode cX2_swapPhases 4 = .ok (.iload_n 1, 1) := by decide +kernel
theorem dX2_swapPhases_5 : decode cX2_swapPhases 5 = .ok (.iaload, 1) := by decide +kernel
theorem dX2_swapPhases_6 : decode cX2_swapPhases 6 = .ok (.istore_n 3, 1) := by decide +kernel
theorem dX2_swapPhases_7 : decode cX2_swapPhases 7 = .ok (.aload_n 0, 1) := by decide +kernel
theorem dX2_swapPhases_8 : decode cX2_swapPhases 8 = .ok (.iload_n 1, 1) := by decide +kernel
theorem dX2_swapPhases_9 : decode cX2_swapPhases 9 = .ok (.aload_n 0, 1) := by decide +kernel
theorem dX2_swapPhases_10 : decode cX2_swapPhases 10 = .ok (.getfield 18, 3) := by decide +kernel
theorem dX2_swapPhases_13 : decode cX2_swapPhases 13 = .ok (.iload_n 2, 1) := by decide +kernel
theorem dX2_swapPhases_14 : decode cX2_swapPhases 14 = .ok (.iaload, 1) := by decide +kernel
theorem dX2_swapPhases_15 : decode cX2_swapPhases 15 = .ok (.invokevirtual 62, 3) := by decide +kernel
theorem dX2_swapPhases_18 : decode cX2_swapPhases 18 = .ok (.aload_n 0, 1) := by decide +kernel
theorem dX2_swapPhases_19 : decode cX2_swapPhases 19 = .ok (.iload_n 2, 1) := by decide +kernel
theorem dX2_swapPhases_20 : decode cX2_swapPhases 20 = .ok (.iload_n 3, 1) := by decide +kernel
theorem dX2_swapPhases_21 : decode cX2_swapPhases 21 = .ok (.invokevirtual 62, 3) := by decide +kernel
theorem dX2_swapPhases_24 : decode cX2_swapPhases 24 = .ok (.return_, 1) := by decide +kernel
theorem dX2_addLoads_0 : decode cX2_addLoads 0 = .ok (.iconst 0, 1) := by decide +kernel
theorem dX2_addLoads_1 : decode cX2_addLoads 1 = .ok (.istore_n 3, 1) := by decide +kernel
theorem dX2_addLoads_2 : decode cX2_addLoads 2 = .ok (.iload_n 3, 1) := by decide +kernel
theorem dX2_addLoads_3 : decode cX2_addLoads 3 = .ok (.bipush 6, 2) := by decide +kernel
theorem dX2_addLoads_5 : decode cX2_addLoads 5 = .ok (.if_icmp .ge 36, 3) := by decide +kernel
theorem dX2_addLoads_8 : decode cX2_addLoads 8 = .ok (.aload_n 0, 1) := by decide +kernel
theorem dX2_addLoads_9 : decode cX2_addLoads 9 = .ok (.getfield 36, 3) := by decide +kernel
theorem dX2_addLoads_12 : decode cX2_addLoads 12 = .ok (.aload_n 0, 1) := by decide +kernel
theorem dX2_addLoads_13 : decode cX2_addLoads 13 = .ok (.getfield 18, 3) := by decide +kernel
theorem dX2_addLoads_16 : decode cX2_addLoads 16 = .ok (.iload_n 1, 1) := by decide +kernel
theorem dX2_addLoads_17 : decode cX2_addLoads 17 = .ok (.iaload, 1) := by decide +kernel
theorem dX2_addLoads_18 : decode cX2_addLoads 18 = .ok (.bipush 6, 2) := by decide +kernel
theorem dX2_addLoads_20 : decode cX2_addLoads 20 = .ok (.imul, 1) := by decide +kernel
theorem dX2_addLoads_21 : decode cX2_addLoads 21 = .ok (.iload_n 3, 1) := by decide +kernel
theorem dX2_addLoads_22 : decode cX2_addLoads 22 = .ok (.iadd, 1) := by decide +kernel
theorem dX2_addLoads_23 : decode cX2_addLoads 23 = .ok (.dup2, 1) := by decide +kernel
theorem dX2_addLoads_24 : decode cX2_addLoads 24 = .ok (.iaload, 1) := by decide +kernel
theorem dX2_addLoads_25 : decode cX2_addLoads 25 = .ok (.iload_n 2, 1) := by decide +kernel
theorem dX2_addLoads_26 : decode cX2_addLoads 26 = .ok (.aload_n 0, 1) := by decide +kernel
theorem dX2_addLoads_27 : decode cX2_addLoads 27 = .ok (.iload_n 1, 1) := by decide +kernel
theorem dX2_addLoads_28 : decode cX2_addLoads 28 = .ok (.iload_n 3, 1) := by decide +kernel
theorem dX2_addLoads_29 : decode cX2_addLoads 29 = .ok (.invokevirtual 65, 3) := by decide +kernel
theorem dX2_addLoads_32 : decode cX2_addLoads 32 = .ok (.imul, 1) := by decide +kernel
theorem dX2_addLoads_33 : decode cX2_addLoads 33 = .ok (.iadd, 1) := by decide +kernel
theorem dX2_addLoads_34 : decode cX2_addLoads 34 = .ok (.iastore, 1) := by decide +kernel
theorem dX2_addLoads_35 : decode cX2_addLoads 35 = .ok (.iinc 3 1, 3) := by decide +kernel
theorem dX2_addLoads_38 : decode cX2_addLoads 38 = .ok (.goto (-36), 3) := by decide +kernel
theorem dX2_addLoads_41 : decode cX2_addLoads 41 = .ok (.return_, 1) := by decide +kernel
theorem dX2_addPair_0 : decode cX2_addPair 0 = .ok (.aload_n 0, 1) := by decide +kernel
theorem dX2_addPair_1 : decode cX2_addPair 1 = .ok (.getfield 27, 3) := by decide +kernel
theorem dX2_addPair_4 : decode cX2_addPair 4 = .ok (.aload_n 0, 1) := by decide +kernel
theorem dX2_addPair_5 : decode cX2_addPair 5 = .ok (.getfield 69, 3) := by decide +kernel
theorem dX2_addPair_8 : decode cX2_addPair 8 = .ok (.iload_n 1, 1) := by decide +kernel
theorem dX2_addPair_9 : decode cX2_addPair 9 = .ok (.iastore, 1) := by decide +kernel
theorem dX2_addPair_10 : decode cX2_addPair 10 = .ok (.aload_n 0, 1) := by decide +kernel
theorem dX2_addPair_11 : decode cX2_addPair 11 = .ok (.getfield 30, 3) := by decide +kernel
theorem dX2_addPair_14 : decode cX2_addPair 14 = .ok (.aload_n 0, 1) := by decide +kernel
theorem dX2_addPair_15 : decode cX2_addPair 15 = .ok (.getfield 69, 3) := by decide +kernel
theorem dX2_addPair_18 : decode cX2_addPair 18 = .ok (.iload_n 2, 1) := by decide +kernel
theorem dX2_addPair_19 : decode cX2_addPair 19 = .ok (.iastore, 1) := by decide +kernel
theorem dX2_addPair_20 : decode cX2_addPair 20 = .ok (.aload_n 0, 1) := by decide +kernel
theorem dX2_addPair_21 : decode cX2_addPair 21 = .ok (.dup, 1) := by decide +kernel
theorem dX2_addPair_22 : decode cX2_addPair 22 = .ok (.getfield 69, 3) := by decide +kernel
theorem dX2_addPair_25 : decode cX2_addPair 25 = .ok (.iconst 1, 1) := by decide +kernel
theorem dX2_addPair_26 : decode cX2_addPair 26 = .ok (.iadd, 1) := by decide +kernel
theorem dX2_addPair_27 : decode cX2_addPair 27 = .ok (.putfield 69, 3) := by decide +kernel
theorem dX2_addPair_30 : decode cX2_addPair 30 = .ok (.aload_n 0, 1) := by decide +kernel
theorem dX2_addPair_31 : decode cX2_addPair 31 = .ok (.getfield 24, 3) := by decide +kernel
theorem dX2_addPair_34 : decode cX2_addPair 34 = .ok (.iload_n 1, 1) := by decide +kernel
theorem dX2_addPair_35 : decode cX2_addPair 35 = .ok (.iaload, 1) := by decide +kernel
theorem dX2_addPair_36 : decode cX2_addPair 36 = .ok (.aload_n 0, 1) := by decide +kernel
theorem dX2_addPair_37 : decode cX2_addPair 37 = .ok (.getfield 24, 3) := by decide +kernel
theorem dX2_addPair_40 : decode cX2_addPair 40 = .ok (.iload_n 2, 1) := by decide +kernel
theorem dX2_addPair_41 : decode cX2_addPair 41 = .ok (.iaload, 1) := by decide +kernel
theorem dX2_addPair_42 : decode cX2_addPair 42 = .ok (.invokestatic 72, 3) := by decide +kernel
theorem dX2_addPair_45 : decode cX2_addPair 45 = .ok (.istore_n 3, 1) := by decide +kernel
theorem dX2_addPair_46 : decode cX2_addPair 46 = .ok (.aload_n 0, 1) := by decide +kernel
theorem dX2_addPair_47 : decode cX2_addPair 47 = .ok (.getfield 24, 3) := by decide +kernel
theorem dX2_addPair_50 : decode cX2_addPair 50 = .ok (.iload_n 1, 1) := by decide +kernel
theorem dX2_addPair_51 : decode cX2_addPair 51 = .ok (.iaload, 1) := by decide +kernel
theorem dX2_addPair_52 : decode cX2_addPair 52 = .ok (.aload_n 0, 1) := by decide +kernel
theorem dX2_addPair_53 : decode cX2_addPair 53 = .ok (.getfield 24, 3) := by decide +kernel
theorem dX2_addPair_56 : decode cX2_addPair 56 = .ok (.iload_n 2, 1) := by decide +kernel
theorem dX2_addPair_57 : decode cX2_addPair 57 = .ok (.iaload, 1) := by decide +kernel
theorem dX2_addPair_58 : decode cX2_addPair 58 = .ok (.invokestatic 77, 3) := by decide +kernel
theorem dX2_addPair_61 : decode cX2_addPair 61 = .ok (.istore 4, 2) := by decide +kernel
theorem dX2_addPair_63 : decode cX2_addPair 63 = .ok (.iconst 0, 1) := by decide +kernel
theorem dX2_addPair_64 : decode cX2_addPair 64 = .ok (.istore 5, 2) := by decide +kernel
theorem dX2_addPair_66 : decode cX2_addPair 66 = .ok (.iload 5, 2) := by decide +kernel
theorem dX2_addPair_68 : decode cX2_addPair 68 = .ok (.aload_n 0, 1) := by decide +kernel
theorem dX2_addPair_69 : decode cX2_addPair 69 = .ok (.getfield 52, 3) := by decide +kernel
theorem dX2_addPair_72 : decode cX2_addPair 72 = .ok (.if_icmp .ge 29, 3) := by decide +kernel
theorem dX2_addPair_75 : decode cX2_addPair 75 = .ok (.aload_n 0, 1) := by decide +kernel
theorem dX2_addPair_76 : decode cX2_addPair 76 = .ok (.getfield 24, 3) := by decide +kernel
theorem dX2_addPair_79 : decode cX2_addPair 79 = .ok (.iload 5, 2) := by decide +kernel
theorem dX2_addPair_81 : decode cX2_addPair 81 = .ok (.iaload, 1) := by decide +kernel
theorem dX2_addPair_82 : decode cX2_addPair 82 = .ok (.iload 4, 2) := by decide +kernel
theorem dX2_addPair_84 : decode cX2_addPair 84 = .ok (.if_icmp .ne 11, 3) := by decide +kernel
theorem dX2_addPair_87 : decode cX2_addPair 87 = .ok (.aload_n 0, 1) := by decide +kernel
theorem dX2_addPair_88 : decode cX2_addPair 88 = .ok (.getfield 24, 3) := by decide +kernel
theorem dX2_addPair_91 : decode cX2_addPair 91 = .ok (.iload 5, 2) := by decide +kernel
theorem dX2_addPair_93 : decode cX2_addPair 93 = .ok (.iload_n 3, 1) := by decide +kernel
theorem dX2_addPair_94 : decode cX2_addPair 94 = .ok (.iastore, 1) := by decide +kernel
theorem dX2_addPair_95 : decode cX2_addPair 95 = .ok (.iinc 5 1, 3) := by decide +kernel
theorem dX2_addPair_98 : decode cX2_addPair 98 = .ok (.goto (-32), 3) := by decide +kernel
theorem dX2_addPair_101 : decode cX2_addPair 101 = .ok (.return_, 1) := by decide +kernel
theorem dX2_dropPairs_0 : decode cX2_dropPairs 0 = .ok (.aload_n 0, 1) := by decide +kernel
theorem dX2_dropPairs_1 : decode cX2_dropPairs 1 = .ok (.iconst 0, 1) := by decide +kernel
theorem dX2_dropPairs_2 : decode cX2_dropPairs 2 = .ok (.putfield 69, 3) := by decide +kernel
theorem dX2_dropPairs_5 : decode cX2_dropPairs 5 = .ok (.iconst 0, 1) := by decide +kernel
theorem dX2_dropPairs_6 : decode cX2_dropPairs 6 = .ok (.istore_n 1, 1) := by decide +kernel
theorem dX2_dropPairs_7 : decode cX2_dropPairs 7 = .ok (.iload_n 1, 1) := by decide +kernel
theorem dX2_dropPairs_8 : decode cX2_dropPairs 8 = .ok (.aload_n 0, 1) := by decide +kernel
theorem dX2_dropPairs_9 : decode cX2_dropPairs 9 = .ok (.getfield 52, 3) := by decide +kernel
theorem dX2_dropPairs_12 : decode cX2_dropPairs 12 = .ok (.if_icmp .ge 16, 3) := by decide +kernel
theorem dX2_dropPairs_15 : decode cX2_dropPairs 15 = .ok (.aload_n 0, 1) := by decide +kernel
theorem dX2_dropPairs_16 : decode cX2_dropPairs 16 = .ok (.getfield 24, 3) := by decide +kernel
theorem dX2_dropPairs_19 : decode cX2_dropPairs 19 = .ok (.iload_n 1, 1) := by decide +kernel
theorem dX2_dropPairs_20 : decode cX2_dropPairs 20 = .ok (.iload_n 1, 1) := by decide +kernel
theorem dX2_dropPairs_21 : decode cX2_dropPairs 21 = .ok (.iastore, 1) := by decide +kernel
theorem dX2_dropPairs_22 : decode cX2_dropPairs 22 = .ok (.iinc 1 1, 3) := by decide +kernel
theorem dX2_dropPairs_25 : decode cX2_dropPairs 25 = .ok (.goto (-18), 3) := by decide +kernel
theorem dX2_dropPairs_28 : decode cX2_dropPairs 28 = .ok (.return_, 1) := by decide +kernel
theorem dX2_isTied_0 : decode cX2_isTied 0 = .ok (.iconst 0, 1) := by decide +kernel
theorem dX2_isTied_1 : decode cX2_isTied 1 = .ok (.istore_n 2, 1) := by decide +kernel
theorem dX2_isTied_2 : decode cX2_isTied 2 = .ok (.iload_n 2, 1) := by decide +kernel
theorem dX2_isTied_3 : decode cX2_isTied 3 = .ok (.aload_n 0, 1) := by decide +kernel
theorem dX2_isTied_4 : decode cX2_isTied 4 = .ok (.getfield 52, 3) := by decide +kernel
theorem dX2_isTied_7 : decode cX2_isTied 7 = .ok (.if_icmp .ge 31, 3) := by decide +kernel
theorem dX2_isTied_10 : decode cX2_isTied 10 = .ok (.iload_n 2, 1) := by decide +kernel
theorem dX2_isTied_11 : decode cX2_isTied 11 = .ok (.iload_n 1, 1) := by decide +kernel
theorem dX2_isTied_12 : decode cX2_isTied 12 = .ok (.if_icmp .eq 20, 3) := by decide +kernel
theorem dX2_isTied_15 : decode cX2_isTied 15 = .ok (.aload_n 0, 1) := by decide +kernel
theorem dX2_isTied_16 : decode cX2_isTied 16 = .ok (.getfield 24, 3) := by decide +kernel
theorem dX2_isTied_19 : decode cX2_isTied 19 = .ok (.iload_n 2, 1) := by decide +kernel
theorem dX2_isTied_20 : decode cX2_isTied 20 = .ok (.iaload, 1) := by decide +kernel
theorem dX2_isTied_21 : decode cX2_isTied 21 = .ok (.aload_n 0, 1) := by decide +kernel
theorem dX2_isTied_22 : decode cX2_isTied 22 = .ok (.getfield 24, 3) := by decide +kernel
theorem dX2_isTied_25 : decode cX2_isTied 25 = .ok (.iload_n 1, 1) := by decide +kernel
theorem dX2_isTied_26 : decode cX2_isTied 26 = .ok (.iaload, 1) := by decide +kernel
theorem dX2_isTied_27 : decode cX2_isTied 27 = .ok (.if_icmp .ne 5, 3) := by decide +kernel
theorem dX2_isTied_30 : decode cX2_isTied 30 = .ok (.iconst 1, 1) := by decide +kernel
theorem dX2_isTied_31 : decode cX2_isTied 31 = .ok (.ireturn, 1) := by decide +kernel
theorem dX2_isTied_32 : decode cX2_isTied 32 = .ok (.iinc 2 1, 3) := by decide +kernel
theorem dX2_isTied_35 : decode cX2_isTied 35 = .ok (.goto (-33), 3) := by decide +kernel
theorem dX2_isTied_38 : decode cX2_isTied 38 = .ok (.iconst 0, 1) := by decide +kernel
theorem dX2_isTied_39 : decode cX2_isTied 39 = .ok (.ireturn, 1) := by decide +kernel
theorem dX2_fixedBits_0 : decode cX2_fixedBits 0 = .ok (.iconst 0, 1) := by decide +kernel
theorem dX2_fixedBits_1 : decode cX2_fixedBits 1 = .ok (.istore_n 1, 1) := by decide +kernel
theorem dX2_fixedBits_2 : decode cX2_fixedBits 2 = .ok (.iconst 0, 1) := by decide +kernel
theorem dX2_fixedBits_3 : decode cX2_fixedBits 3 = .ok (.istore_n 2, 1) := by decide +kernel
theorem dX2_fixedBits_4 : decode cX2_fixedBits 4 = .ok (.iload_n 2, 1) := by decide +kernel
theorem dX2_fixedBits_5 : decode cX2_fixedBits 5 = .ok (.aload_n 0, 1) := by decide +kernel
theorem dX2_fixedBits_6 : decode cX2_fixedBits 6 = .ok (.getfield 52, 3) := by decide +kernel
theorem dX2_fixedBits_9 : decode cX2_fixedBits 9 = .ok (.if_icmp .ge 20, 3) := by decide +kernel
theorem dX2_fixedBits_12 : decode cX2_fixedBits 12 = .ok (.iload_n 1, 1) := by decide +kernel
theorem dX2_fixedBits_13 : decode cX2_fixedBits 13 = .ok (.aload_n 0, 1) := by decide +kernel
theorem dX2_fixedBits_14 : decode cX2_fixedBits 14 = .ok (.getfield 21, 3) := by decide +kernel
theorem dX2_fixedBits_17 : decode cX2_fixedBits 17 = .ok (.iload_n 2, 1) := by decide +kernel
theorem dX2_fixedBits_18 : decode cX2_fixedBits 18 = .ok (.iaload, 1) := by decide +kernel
theorem dX2_fixedBits_19 : decode cX2_fixedBits 19 = .ok (.iload_n 2, 1) := by decide +kernel
theorem dX2_fixedBits_20 : decode cX2_fixedBits 20 = .ok (.ishl, 1) := by decide +kernel
theorem dX2_fixedBits_21 : decode cX2_fixedBits 21 = .ok (.ior, 1) := by decide +kernel
theorem dX2_fixedBits_22 : decode cX2_fixedBits 22 = .ok (.istore_n 1, 1) := by decide +kernel
theorem dX2_fixedBits_23 : decode cX2_fixedBits 23 = .ok (.iinc 2 1, 3) := by decide +kernel
theorem dX2_fixedBits_26 : decode cX2_fixedBits 26 = .ok (.goto (-22), 3) := by decide +kernel
theorem dX2_fixedBits_29 : decode cX2_fixedBits 29 = .ok (.iload_n 1, 1) := by decide +kernel
theorem dX2_fixedBits_30 : decode cX2_fixedBits 30 = .ok (.ireturn, 1) := by decide +kernel
theorem dX2_packedPhases_0 : decode cX2_packedPhases 0 = .ok (.aload_n 0, 1) := by decide +kernel
theorem dX2_packedPhases_1 : decode cX2_packedPhases 1 = .ok (.getfield 18, 3) := by decide +kernel
theorem dX2_packedPhases_4 : decode cX2_packedPhases 4 = .ok (.aload_n 0, 1) := by decide +kernel
theorem dX2_packedPhases_5 : decode cX2_packedPhases 5 = .ok (.getfield 52, 3) := by decide +kernel
theorem dX2_packedPhases_8 : decode cX2_packedPhases 8 = .ok (.invokestatic 80, 3) := by decide +kernel
theorem dX2_packedPhases_11 : decode cX2_packedPhases 11 = .ok (.ireturn, 1) := by decide +kernel
theorem dX2_layPacked_0 : decode cX2_layPacked 0 = .ok (.iconst 0, 1) := by decide +kernel
theorem dX2_layPacked_1 : decode cX2_layPacked 1 = .ok (.istore_n 2, 1) := by decide +kernel
theorem dX2_layPacked_2 : decode cX2_layPacked 2 = .ok (.iload_n 2, 1) := by decide +kernel
theorem dX2_layPacked_3 : decode cX2_layPacked 3 = .ok (.aload_n 0, 1) := by decide +kernel
theorem dX2_layPacked_4 : decode cX2_layPacked 4 = .ok (.getfield 52, 3) := by decide +kernel
theorem dX2_layPacked_7 : decode cX2_layPacked 7 = .ok (.if_icmp .ge 19, 3) := by decide +kernel
theorem dX2_layPacked_10 : decode cX2_layPacked 10 = .ok (.aload_n 0, 1) := by decide +kernel
theorem dX2_layPacked_11 : decode cX2_layPacked 11 = .ok (.iload_n 2, 1) := by decide +kernel
theorem dX2_layPacked_12 : decode cX2_layPacked 12 = .ok (.iload_n 1, 1) := by decide +kernel
theorem dX2_layPacked_13 : decode cX2_layPacked 13 = .ok (.iload_n 2, 1) := by decide +kernel
theorem dX2_layPacked_14 : decode cX2_layPacked 14 = .ok (.invokestatic 84, 3) := by decide +kernel
theorem dX2_layPacked_17 : decode cX2_layPacked 17 = .ok (.invokevirtual 62, 3) := by decide +kernel
theorem dX2_layPacked_20 : decode cX2_layPacked 20 = .ok (.iinc 2 1, 3) := by decide +kernel
theorem dX2_layPacked_23 : decode cX2_layPacked 23 = .ok (.goto (-21), 3) := by decide +kernel
theorem dX2_layPacked_26 : decode cX2_layPacked 26 = .ok (.return_, 1) := by decide +kernel
theorem dX2_takenBy_0 : decode cX2_takenBy 0 = .ok (.aload_n 0, 1) := by decide +kernel
theorem dX2_takenBy_1 : decode cX2_takenBy 1 = .ok (.getfield 15, 3) := by decide +kernel
theorem dX2_takenBy_4 : decode cX2_takenBy 4 = .ok (.iload_n 1, 1) := by decide +kernel
theorem dX2_takenBy_5 : decode cX2_takenBy 5 = .ok (.iaload, 1) := by decide +kernel
theorem dX2_takenBy_6 : decode cX2_takenBy 6 = .ok (.getstatic 87, 3) := by decide +kernel
theorem dX2_takenBy_9 : decode cX2_takenBy 9 = .ok (.aload_n 0, 1) := by decide +kernel
theorem dX2_takenBy_10 : decode cX2_takenBy 10 = .ok (.getfield 9, 3) := by decide +kernel
theorem dX2_takenBy_13 : decode cX2_takenBy 13 = .ok (.iload_n 1, 1) := by decide +kernel
theorem dX2_takenBy_14 : decode cX2_takenBy 14 = .ok (.iaload, 1) := by decide +kernel
theorem dX2_takenBy_15 : decode cX2_takenBy 15 = .ok (.bipush 6, 2) := by decide +kernel
theorem dX2_takenBy_17 : decode cX2_takenBy 17 = .ok (.imul, 1) := by decide +kernel
theorem dX2_takenBy_18 : decode cX2_takenBy 18 = .ok (.iload_n 2, 1) := by decide +kernel
theorem dX2_takenBy_19 : decode cX2_takenBy 19 = .ok (.iadd, 1) := by decide +kernel
theorem dX2_takenBy_20 : decode cX2_takenBy 20 = .ok (.iaload, 1) := by decide +kernel
theorem dX2_takenBy_21 : decode cX2_takenBy 21 = .ok (.imul, 1) := by decide +kernel
theorem dX2_takenBy_22 : decode cX2_takenBy 22 = .ok (.ireturn, 1) := by decide +kernel
theorem dX2_loadOf_0 : decode cX2_loadOf 0 = .ok (.aload_n 0, 1) := by decide +kernel
theorem dX2_loadOf_1 : decode cX2_loadOf 1 = .ok (.getfield 36, 3) := by decide +kernel
theorem dX2_loadOf_4 : decode cX2_loadOf 4 = .ok (.iload_n 1, 1) := by decide +kernel
theorem dX2_loadOf_5 : decode cX2_loadOf 5 = .ok (.bipush 6, 2) := by decide +kernel
theorem dX2_loadOf_7 : decode cX2_loadOf 7 = .ok (.imul, 1) := by decide +kernel
theorem dX2_loadOf_8 : decode cX2_loadOf 8 = .ok (.iload_n 2, 1) := by decide +kernel
theorem dX2_loadOf_9 : decode cX2_loadOf 9 = .ok (.iadd, 1) := by decide +kernel
theorem dX2_loadOf_10 : decode cX2_loadOf 10 = .ok (.iaload, 1) := by decide +kernel
theorem dX2_loadOf_11 : decode cX2_loadOf 11 = .ok (.ireturn, 1) := by decide +kernel
theorem dX2_neutralOf_0 : decode cX2_neutralOf 0 = .ok (.aload_n 0, 1) := by decide +kernel
theorem dX2_neutralOf_1 : decode cX2_neutralOf 1 = .ok (.iconst 0, 1) := by decide +kernel
theorem dX2_neutralOf_2 : decode cX2_neutralOf 2 = .ok (.iload_n 1, 1) := by decide +kernel
theorem dX2_neutralOf_3 : decode cX2_neutralOf 3 = .ok (.invokevirtual 90, 3) := by decide +kernel
theorem dX2_neutralOf_6 : decode cX2_neutralOf 6 = .ok (.istore_n 2, 1) := by decide +kernel
theorem dX2_neutralOf_7 : decode cX2_neutralOf 7 = .ok (.aload_n 0, 1) := by decide +kernel
theorem dX2_neutralOf_8 : decode cX2_neutralOf 8 = .ok (.iconst 1, 1) := by decide +kernel
theorem dX2_neutralOf_9 : decode cX2_neutralOf 9 = .ok (.iload_n 1, 1) := by decide +kernel
theorem dX2_neutralOf_10 : decode cX2_neutralOf 10 = .ok (.invokevirtual 90, 3) := by decide +kernel
theorem dX2_neutralOf_13 : decode cX2_neutralOf 13 = .ok (.istore_n 3, 1) := by decide +kernel
theorem dX2_neutralOf_14 : decode cX2_neutralOf 14 = .ok (.aload_n 0, 1) := by decide +kernel
theorem dX2_neutralOf_15 : decode cX2_neutralOf 15 = .ok (.iconst 2, 1) := by decide +kernel
theorem dX2_neutralOf_16 : decode cX2_neutralOf 16 = .ok (.iload_n 1, 1) := by decide +kernel
theorem dX2_neutralOf_17 : decode cX2_neutralOf 17 = .ok (.invokevirtual 90, 3) := by decide +kernel
theorem dX2_neutralOf_20 : decode cX2_neutralOf 20 = .ok (.istore 4, 2) := by decide +kernel
theorem dX2_neutralOf_22 : decode cX2_neutralOf 22 = .ok (.iload_n 2, 1) := by decide +kernel
theorem dX2_neutralOf_23 : decode cX2_neutralOf 23 = .ok (.iload_n 2, 1) := by decide +kernel
theorem dX2_neutralOf_24 : decode cX2_neutralOf 24 = .ok (.imul, 1) := by decide +kernel
theorem dX2_neutralOf_25 : decode cX2_neutralOf 25 = .ok (.iload_n 3, 1) := by decide +kernel
theorem dX2_neutralOf_26 : decode cX2_neutralOf 26 = .ok (.iload_n 3, 1) := by decide +kernel
theorem dX2_neutralOf_27 : decode cX2_neutralOf 27 = .ok (.imul, 1) := by decide +kernel
theorem dX2_neutralOf_28 : decode cX2_neutralOf 28 = .ok (.iadd, 1) := by decide +kernel
theorem dX2_neutralOf_29 : decode cX2_neutralOf 29 = .ok (.iload 4, 2) := by decide +kernel
theorem dX2_neutralOf_31 : decode cX2_neutralOf 31 = .ok (.iload 4, 2) := by decide +kernel
theorem dX2_neutralOf_33 : decode cX2_neutralOf 33 = .ok (.imul, 1) := by decide +kernel
theorem dX2_neutralOf_34 : decode cX2_neutralOf 34 = .ok (.iadd, 1) := by decide +kernel
theorem dX2_neutralOf_35 : decode cX2_neutralOf 35 = .ok (.iload_n 2, 1) := by decide +kernel
theorem dX2_neutralOf_36 : decode cX2_neutralOf 36 = .ok (.iload_n 3, 1) := by decide +kernel
theorem dX2_neutralOf_37 : decode cX2_neutralOf 37 = .ok (.imul, 1) := by decide +kernel
theorem dX2_neutralOf_38 : decode cX2_neutralOf 38 = .ok (.isub, 1) := by decide +kernel
theorem dX2_neutralOf_39 : decode cX2_neutralOf 39 = .ok (.iload_n 3, 1) := by decide +kernel
theorem dX2_neutralOf_40 : decode cX2_neutralOf 40 = .ok (.iload 4, 2) := by decide +kernel
theorem dX2_neutralOf_42 : decode cX2_neutralOf 42 = .ok (.imul, 1) := by decide +kernel
theorem dX2_neutralOf_43 : decode cX2_neutralOf 43 = .ok (.isub, 1) := by decide +kernel
theorem dX2_neutralOf_44 : decode cX2_neutralOf 44 = .ok (.iload 4, 2) := by decide +kernel
theorem dX2_neutralOf_46 : decode cX2_neutralOf 46 = .ok (.iload_n 2, 1) := by decide +kernel
theorem dX2_neutralOf_47 : decode cX2_neutralOf 47 = .ok (.imul, 1) := by decide +kernel
theorem dX2_neutralOf_48 : decode cX2_neutralOf 48 = .ok (.isub, 1) := by decide +kernel
theorem dX2_neutralOf_49 : decode cX2_neutralOf 49 = .ok (.ireturn, 1) := by decide +kernel
theorem dX2_griefNow_0 : decode cX2_griefNow 0 = .ok (.iconst 0, 1) := by decide +kernel
theorem dX2_griefNow_1 : decode cX2_griefNow 1 = .ok (.istore_n 1, 1) := by decide +kernel
theorem dX2_griefNow_2 : decode cX2_griefNow 2 = .ok (.iconst 0, 1) := by decide +kernel
theorem dX2_griefNow_3 : decode cX2_griefNow 3 = .ok (.istore_n 2, 1) := by decide +kernel
theorem dX2_griefNow_4 : decode cX2_griefNow 4 = .ok (.iload_n 2, 1) := by decide +kernel
theorem dX2_griefNow_5 : decode cX2_griefNow 5 = .ok (.bipush 6, 2) := by decide +kernel
theorem dX2_griefNow_7 : decode cX2_griefNow 7 = .ok (.if_icmp .ge 24, 3) := by decide +kernel
theorem dX2_griefNow_10 : decode cX2_griefNow 10 = .ok (.iload_n 1, 1) := by decide +kernel
theorem dX2_griefNow_11 : decode cX2_griefNow 11 = .ok (.aload_n 0, 1) := by decide +kernel
theorem dX2_griefNow_12 : decode cX2_griefNow 12 = .ok (.getfield 33, 3) := by decide +kernel
theorem dX2_griefNow_15 : decode cX2_griefNow 15 = .ok (.iload_n 2, 1) := by decide +kernel
theorem dX2_griefNow_16 : decode cX2_griefNow 16 = .ok (.iaload, 1) := by decide +kernel
theorem dX2_griefNow_17 : decode cX2_griefNow 17 = .ok (.aload_n 0, 1) := by decide +kernel
theorem dX2_griefNow_18 : decode cX2_griefNow 18 = .ok (.iload_n 2, 1) := by decide +kernel
theorem dX2_griefNow_19 : decode cX2_griefNow 19 = .ok (.invokevirtual 93, 3) := by decide +kernel
theorem dX2_griefNow_22 : decode cX2_griefNow 22 = .ok (.imul, 1) := by decide +kernel
theorem dX2_griefNow_23 : decode cX2_griefNow 23 = .ok (.iadd, 1) := by decide +kernel
theorem dX2_griefNow_24 : decode cX2_griefNow 24 = .ok (.istore_n 1, 1) := by decide +kernel
theorem dX2_griefNow_25 : decode cX2_griefNow 25 = .ok (.iinc 2 1, 3) := by decide +kernel
theorem dX2_griefNow_28 : decode cX2_griefNow 28 = .ok (.goto (-24), 3) := by decide +kernel
theorem dX2_griefNow_31 : decode cX2_griefNow 31 = .ok (.iload_n 1, 1) := by decide +kernel
theorem dX2_griefNow_32 : decode cX2_griefNow 32 = .ok (.ireturn, 1) := by decide +kernel
theorem dX2_isSafe_0 : decode cX2_isSafe 0 = .ok (.iconst 0, 1) := by decide +kernel
theorem dX2_isSafe_1 : decode cX2_isSafe 1 = .ok (.istore_n 1, 1) := by decide +kernel
theorem dX2_isSafe_2 : decode cX2_isSafe 2 = .ok (.iload_n 1, 1) := by decide +kernel
theorem dX2_isSafe_3 : decode cX2_isSafe 3 = .ok (.aload_n 0, 1) := by decide +kernel
theorem dX2_isSafe_4 : decode cX2_isSafe 4 = .ok (.getfield 36, 3) := by decide +kernel
theorem dX2_isSafe_7 : decode cX2_isSafe 7 = .ok (.arraylength, 1) := by decide +kernel
theorem dX2_isSafe_8 : decode cX2_isSafe 8 = .ok (.if_icmp .ge 27, 3) := by decide +kernel
theorem dX2_isSafe_11 : decode cX2_isSafe 11 = .ok (.aload_n 0, 1) := by decide +kernel
theorem dX2_isSafe_12 : decode cX2_isSafe 12 = .ok (.getfield 36, 3) := by decide +kernel
theorem dX2_isSafe_15 : decode cX2_isSafe 15 = .ok (.iload_n 1, 1) := by decide +kernel
theorem dX2_isSafe_16 : decode cX2_isSafe 16 = .ok (.iaload, 1) := by decide +kernel
theorem dX2_isSafe_17 : decode cX2_isSafe 17 = .ok (.invokestatic 97, 3) := by decide +kernel
theorem dX2_isSafe_20 : decode cX2_isSafe 20 = .ok (.aload_n 0, 1) := by decide +kernel
theorem dX2_isSafe_21 : decode cX2_isSafe 21 = .ok (.getfield 48, 3) := by decide +kernel
theorem dX2_isSafe_24 : decode cX2_isSafe 24 = .ok (.if_icmp .le 5, 3) := by decide +kernel
theorem dX2_isSafe_27 : decode cX2_isSafe 27 = .ok (.iconst 0, 1) := by decide +kernel
theorem dX2_isSafe_28 : decode cX2_isSafe 28 = .ok (.ireturn, 1) := by decide +kernel
theorem dX2_isSafe_29 : decode cX2_isSafe 29 = .ok (.iinc 1 1, 3) := by decide +kernel
theorem dX2_isSafe_32 : decode cX2_isSafe 32 = .ok (.goto (-30), 3) := by decide +kernel
theorem dX2_isSafe_35 : decode cX2_isSafe 35 = .ok (.iconst 1, 1) := by decide +kernel
theorem dX2_isSafe_36 : decode cX2_isSafe 36 = .ok (.ireturn, 1) := by decide +kernel
theorem dX2_keepsTies_0 : decode cX2_keepsTies 0 = .ok (.iconst 0, 1) := by decide +kernel
theorem dX2_keepsTies_1 : decode cX2_keepsTies 1 = .ok (.istore_n 1, 1) := by decide +kernel
theorem dX2_keepsTies_2 : decode cX2_keepsTies 2 = .ok (.iload_n 1, 1) := by decide +kernel
theorem dX2_keepsTies_3 : decode cX2_keepsTies 3 = .ok (.aload_n 0, 1) := by decide +kernel
theorem dX2_keepsTies_4 : decode cX2_keepsTies 4 = .ok (.getfield 52, 3) := by decide +kernel
theorem dX2_keepsTies_7 : decode cX2_keepsTies 7 = .ok (.if_icmp .ge 31, 3) := by decide +kernel
theorem dX2_keepsTies_10 : decode cX2_keepsTies 10 = .ok (.aload_n 0, 1) := by decide +kernel
theorem dX2_keepsTies_11 : decode cX2_keepsTies 11 = .ok (.getfield 18, 3) := by decide +kernel
theorem dX2_keepsTies_14 : decode cX2_keepsTies 14 = .ok (.iload_n 1, 1) := by decide +kernel
theorem dX2_keepsTies_15 : decode cX2_keepsTies 15 = .ok (.iaload, 1) := by decide +kernel
theorem dX2_keepsTies_16 : decode cX2_keepsTies 16 = .ok (.aload_n 0, 1) := by decide +kernel
theorem dX2_keepsTies_17 : decode cX2_keepsTies 17 = .ok (.getfield 18, 3) := by decide +kernel
theorem dX2_keepsTies_20 : decode cX2_keepsTies 20 = .ok (.aload_n 0, 1) := by decide +kernel
theorem dX2_keepsTies_21 : decode cX2_keepsTies 21 = .ok (.getfield 24, 3) := by decide +kernel
theorem dX2_keepsTies_24 : decode cX2_keepsTies 24 = .ok (.iload_n 1, 1) := by decide +kernel
theorem dX2_keepsTies_25 : decode cX2_keepsTies 25 = .ok (.iaload, 1) := by decide +kernel
theorem dX2_keepsTies_26 : decode cX2_keepsTies 26 = .ok (.iaload, 1) := by decide +kernel
theorem dX2_keepsTies_27 : decode cX2_keepsTies 27 = .ok (.if_icmp .eq 5, 3) := by decide +kernel
theorem dX2_keepsTies_30 : decode cX2_keepsTies 30 = .ok (.iconst 0, 1) := by decide +kernel
theorem dX2_keepsTies_31 : decode cX2_keepsTies 31 = .ok (.ireturn, 1) := by decide +kernel
theorem dX2_keepsTies_32 : decode cX2_keepsTies 32 = .ok (.iinc 1 1, 3) := by decide +kernel
theorem dX2_keepsTies_35 : decode cX2_keepsTies 35 = .ok (.goto (-33), 3) := by decide +kernel
theorem dX2_keepsTies_38 : decode cX2_keepsTies 38 = .ok (.iconst 1, 1) := by decide +kernel
theorem dX2_keepsTies_39 : decode cX2_keepsTies 39 = .ok (.ireturn, 1) := by decide +kernel
theorem dX2_hourOfGreatestNeutral_0 : decode cX2_hourOfGreatestNeutral 0 = .ok (.iconst 0, 1) := by decide +kernel
theorem dX2_hourOfGreatestNeutral_1 : decode cX2_hourOfGreatestNeutral 1 = .ok (.istore_n 1, 1) := by decide +kernel
theorem dX2_hourOfGreatestNeutral_2 : decode cX2_hourOfGreatestNeutral 2 = .ok (.iconst 1, 1) := by decide +kernel
theorem dX2_hourOfGreatestNeutral_3 : decode cX2_hourOfGreatestNeutral 3 = .ok (.istore_n 2, 1) := by decide +kernel
theorem dX2_hourOfGreatestNeutral_4 : decode cX2_hourOfGreatestNeutral 4 = .ok (.iload_n 2, 1) := by decide +kernel
theorem dX2_hourOfGreatestNeutral_5 : decode cX2_hourOfGreatestNeutral 5 = .ok (.bipush 6, 2) := by decide +kernel
theorem dX2_hourOfGreatestNeutral_7 : decode cX2_hourOfGreatestNeutral 7 = .ok (.if_icmp .ge 24, 3) := by decide +kernel
theorem dX2_hourOfGreatestNeutral_10 : decode cX2_hourOfGreatestNeutral 10 = .ok (.aload_n 0, 1) := by decide +kernel
theorem dX2_hourOfGreatestNeutral_11 : decode cX2_hourOfGreatestNeutral 11 = .ok (.iload_n 2, 1) := by decide +kernel
theorem dX2_hourOfGreatestNeutral_12 : decode cX2_hourOfGreatestNeutral 12 = .ok (.invokevirtual 93, 3) := by decide +kernel
theorem dX2_hourOfGreatestNeutral_15 : decode cX2_hourOfGreatestNeutral 15 = .ok (.aload_n 0, 1) := by decide +kernel
theorem dX2_hourOfGreatestNeutral_16 : decode cX2_hourOfGreatestNeutral 16 = .ok (.iload_n 1, 1) := by decide +kernel
theorem dX2_hourOfGreatestNeutral_17 : decode cX2_hourOfGreatestNeutral 17 = .ok (.invokevirtual 93, 3) := by decide +kernel
theorem dX2_hourOfGreatestNeutral_20 : decode cX2_hourOfGreatestNeutral 20 = .ok (.if_icmp .le 5, 3) := by decide +kernel
theorem dX2_hourOfGreatestNeutral_23 : decode cX2_hourOfGreatestNeutral 23 = .ok (.iload_n 2, 1) := by decide +kernel
theorem dX2_hourOfGreatestNeutral_24 : decode cX2_hourOfGreatestNeutral 24 = .ok (.istore_n 1, 1) := by decide +kernel
theorem dX2_hourOfGreatestNeutral_25 : decode cX2_hourOfGreatestNeutral 25 = .ok (.iinc 2 1, 3) := by decide +kernel
theorem dX2_hourOfGreatestNeutral_28 : decode cX2_hourOfGreatestNeutral 28 = .ok (.goto (-24), 3) := by decide +kernel
theorem dX2_hourOfGreatestNeutral_31 : decode cX2_hourOfGreatestNeutral 31 = .ok (.iload_n 1, 1) := by decide +kernel
theorem dX2_hourOfGreatestNeutral_32 : decode cX2_hourOfGreatestNeutral 32 = .ok (.ireturn, 1) := by decide +kernel
theorem dX2_greatestLoad_0 : decode cX2_greatestLoad 0 = .ok (.iconst 0, 1) := by decide +kernel
theorem dX2_greatestLoad_1 : decode cX2_greatestLoad 1 = .ok (.istore_n 1, 1) := by decide +kernel
theorem dX2_greatestLoad_2 : decode cX2_greatestLoad 2 = .ok (.iconst 0, 1) := by decide +kernel
theorem dX2_greatestLoad_3 : decode cX2_greatestLoad 3 = .ok (.istore_n 2, 1) := by decide +kernel
theorem dX2_greatestLoad_4 : decode cX2_greatestLoad 4 = .ok (.iload_n 2, 1) := by decide +kernel
theorem dX2_greatestLoad_5 : decode cX2_greatestLoad 5 = .ok (.bipush 6, 2) := by decide +kernel
theorem dX2_greatestLoad_7 : decode cX2_greatestLoad 7 = .ok (.if_icmp .ge 45, 3) := by decide +kernel
theorem dX2_greatestLoad_10 : decode cX2_greatestLoad 10 = .ok (.iconst 0, 1) := by decide +kernel
theorem dX2_greatestLoad_11 : decode cX2_greatestLoad 11 = .ok (.istore_n 3, 1) := by decide +kernel
theorem dX2_greatestLoad_12 : decode cX2_greatestLoad 12 = .ok (.iload_n 3, 1) := by decide +kernel
theorem dX2_greatestLoad_13 : decode cX2_greatestLoad 13 = .ok (.iconst 3, 1) := by decide +kernel
theorem dX2_greatestLoad_14 : decode cX2_greatestLoad 14 = .ok (.if_icmp .ge 32, 3) := by decide +kernel
theorem dX2_greatestLoad_17 : decode cX2_greatestLoad 17 = .ok (.aload_n 0, 1) := by decide +kernel
theorem dX2_greatestLoad_18 : decode cX2_greatestLoad 18 = .ok (.iload_n 3, 1) := by decide +kernel
theorem dX2_greatestLoad_19 : decode cX2_greatestLoad 19 = .ok (.iload_n 2, 1) := by decide +kernel
theorem dX2_greatestLoad_20 : decode cX2_greatestLoad 20 = .ok (.invokevirtual 90, 3) := by decide +kernel
theorem dX2_greatestLoad_23 : decode cX2_greatestLoad 23 = .ok (.invokestatic 97, 3) := by decide +kernel
theorem dX2_greatestLoad_26 : decode cX2_greatestLoad 26 = .ok (.iload_n 1, 1) := by decide +kernel
theorem dX2_greatestLoad_27 : decode cX2_greatestLoad 27 = .ok (.invokestatic 97, 3) := by decide +kernel
theorem dX2_greatestLoad_30 : decode cX2_greatestLoad 30 = .ok (.if_icmp .le 10, 3) := by decide +kernel
theorem dX2_greatestLoad_33 : decode cX2_greatestLoad 33 = .ok (.aload_n 0, 1) := by decide +kernel
theorem dX2_greatestLoad_34 : decode cX2_greatestLoad 34 = .ok (.iload_n 3, 1) := by decide +kernel
theorem dX2_greatestLoad_35 : decode cX2_greatestLoad 35 = .ok (.iload_n 2, 1) := by decide +kernel
theorem dX2_greatestLoad_36 : decode cX2_greatestLoad 36 = .ok (.invokevirtual 90, 3) := by decide +kernel
theorem dX2_greatestLoad_39 : decode cX2_greatestLoad 39 = .ok (.istore_n 1, 1) := by decide +kernel
theorem dX2_greatestLoad_40 : decode cX2_greatestLoad 40 = .ok (.iinc 3 1, 3) := by decide +kernel
theorem dX2_greatestLoad_43 : decode cX2_greatestLoad 43 = .ok (.goto (-31), 3) := by decide +kernel
theorem dX2_greatestLoad_46 : decode cX2_greatestLoad 46 = .ok (.iinc 2 1, 3) := by decide +kernel
theorem dX2_greatestLoad_49 : decode cX2_greatestLoad 49 = .ok (.goto (-45), 3) := by decide +kernel
theorem dX2_greatestLoad_52 : decode cX2_greatestLoad 52 = .ok (.iload_n 1, 1) := by decide +kernel
theorem dX2_greatestLoad_53 : decode cX2_greatestLoad 53 = .ok (.ireturn, 1) := by decide +kernel
