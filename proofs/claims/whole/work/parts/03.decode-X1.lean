theorem dX1_init_0 : decode cX1_init 0 = .ok (.aload_n 0, 1) := by decide +kernel
theorem dX1_init_1 : decode cX1_init 1 = .ok (.invokespecial 3, 3) := by decide +kernel
theorem dX1_init_4 : decode cX1_init 4 = .ok (.aload_n 0, 1) := by decide +kernel
theorem dX1_init_5 : decode cX1_init 5 = .ok (.aload_n 1, 1) := by decide +kernel
theorem dX1_init_6 : decode cX1_init 6 = .ok (.putfield 9, 3) := by decide +kernel
theorem dX1_init_9 : decode cX1_init 9 = .ok (.return_, 1) := by decide +kernel
theorem dX1_find_0 : decode cX1_find 0 = .ok (.aload_n 0, 1) := by decide +kernel
theorem dX1_find_1 : decode cX1_find 1 = .ok (.iconst 0, 1) := by decide +kernel
theorem dX1_find_2 : decode cX1_find 2 = .ok (.putfield 15, 3) := by decide +kernel
theorem dX1_find_5 : decode cX1_find 5 = .ok (.iconst 0, 1) := by decide +kernel
theorem dX1_find_6 : decode cX1_find 6 = .ok (.istore_n 1, 1) := by decide +kernel
theorem dX1_find_7 : decode cX1_find 7 = .ok (.iload_n 1, 1) := by decide +kernel
theorem dX1_find_8 : decode cX1_find 8 = .ok (.aload_n 0, 1) := by decide +kernel
theorem dX1_find_9 : decode cX1_find 9 = .ok (.getfield 9, 3) := by decide +kernel
theorem dX1_find_12 : decode cX1_find 12 = .ok (.getfield 19, 3) := by decide +kernel
theorem dX1_find_15 : decode cX1_find 15 = .ok (.if_icmp .ge 22, 3) := by decide +kernel
theorem dX1_find_18 : decode cX1_find 18 = .ok (.aload_n 0, 1) := by decide +kernel
theorem dX1_find_19 : decode cX1_find 19 = .ok (.iload_n 1, 1) := by decide +kernel
theorem dX1_find_20 : decode cX1_find 20 = .ok (.invokevirtual 25, 3) := by decide +kernel
theorem dX1_find_23 : decode cX1_find 23 = .ok (.ifCond .eq 8, 3) := by decide +kernel
theorem dX1_find_26 : decode cX1_find 26 = .ok (.aload_n 0, 1) := by decide +kernel
theorem dX1_find_27 : decode cX1_find 27 = .ok (.iload_n 1, 1) := by decide +kernel
theorem dX1_find_28 : decode cX1_find 28 = .ok (.invokevirtual 29, 3) := by decide +kernel
theorem dX1_find_31 : decode cX1_find 31 = .ok (.iinc 1 1, 3) := by decide +kernel
theorem dX1_find_34 : decode cX1_find 34 = .ok (.goto (-27), 3) := by decide +kernel
theorem dX1_find_37 : decode cX1_find 37 = .ok (.iconst 0, 1) := by decide +kernel
theorem dX1_find_38 : decode cX1_find 38 = .ok (.istore_n 1, 1) := by decide +kernel
theorem dX1_find_39 : decode cX1_find 39 = .ok (.iload_n 1, 1) := by decide +kernel
theorem dX1_find_40 : decode cX1_find 40 = .ok (.aload_n 0, 1) := by decide +kernel
theorem dX1_find_41 : decode cX1_find 41 = .ok (.getfield 9, 3) := by decide +kernel
theorem dX1_find_44 : decode cX1_find 44 = .ok (.getfield 19, 3) := by decide +kernel
theorem dX1_find_47 : decode cX1_find 47 = .ok (.if_icmp .ge 22, 3) := by decide +kernel
theorem dX1_find_50 : decode cX1_find 50 = .ok (.aload_n 0, 1) := by decide +kernel
theorem dX1_find_51 : decode cX1_find 51 = .ok (.iload_n 1, 1) := by decide +kernel
theorem dX1_find_52 : decode cX1_find 52 = .ok (.invokevirtual 25, 3) := by decide +kernel
theorem dX1_find_55 : decode cX1_find 55 = .ok (.ifCond .eq 8, 3) := by decide +kernel
theorem dX1_find_58 : decode cX1_find 58 = .ok (.aload_n 0, 1) := by decide +kernel
theorem dX1_find_59 : decode cX1_find 59 = .ok (.iload_n 1, 1) := by decide +kernel
theorem dX1_find_60 : decode cX1_find 60 = .ok (.invokevirtual 33, 3) := by decide +kernel
theorem dX1_find_63 : decode cX1_find 63 = .ok (.iinc 1 1, 3) := by decide +kernel
theorem dX1_find_66 : decode cX1_find 66 = .ok (.goto (-27), 3) := by decide +kernel
theorem dX1_find_69 : decode cX1_find 69 = .ok (.return_, 1) := by decide +kernel
theorem dX1_lessens_0 : decode cX1_lessens 0 = .ok (.aload_n 0, 1) := by decide +kernel
theorem dX1_lessens_1 : decode cX1_lessens 1 = .ok (.getfield 15, 3) := by decide +kernel
theorem dX1_lessens_4 : decode cX1_lessens 4 = .ok (.ifCond .eq 21, 3) := by decide +kernel
theorem dX1_lessens_7 : decode cX1_lessens 7 = .ok (.aload_n 0, 1) := by decide +kernel
theorem dX1_lessens_8 : decode cX1_lessens 8 = .ok (.getfield 36, 3) := by decide +kernel
theorem dX1_lessens_11 : decode cX1_lessens 11 = .ok (.aload_n 0, 1) := by decide +kernel
theorem dX1_lessens_12 : decode cX1_lessens 12 = .ok (.getfield 9, 3) := by decide +kernel
theorem dX1_lessens_15 : decode cX1_lessens 15 = .ok (.invokevirtual 39, 3) := by decide +kernel
theorem dX1_lessens_18 : decode cX1_lessens 18 = .ok (.if_icmp .ge 7, 3) := by decide +kernel
theorem dX1_lessens_21 : decode cX1_lessens 21 = .ok (.iconst 1, 1) := by decide +kernel
theorem dX1_lessens_22 : decode cX1_lessens 22 = .ok (.goto 4, 3) := by decide +kernel
theorem dX1_lessens_25 : decode cX1_lessens 25 = .ok (.iconst 0, 1) := by decide +kernel
theorem dX1_lessens_26 : decode cX1_lessens 26 = .ok (.ireturn, 1) := by decide +kernel
theorem dX1_take_0 : decode cX1_take 0 = .ok (.aload_n 0, 1) := by decide +kernel
theorem dX1_take_1 : decode cX1_take 1 = .ok (.getfield 43, 3) := by decide +kernel
theorem dX1_take_4 : decode cX1_take 4 = .ok (.ifCond .ne 21, 3) := by decide +kernel
theorem dX1_take_7 : decode cX1_take 7 = .ok (.aload_n 0, 1) := by decide +kernel
theorem dX1_take_8 : decode cX1_take 8 = .ok (.getfield 9, 3) := by decide +kernel
theorem dX1_take_11 : decode cX1_take 11 = .ok (.aload_n 0, 1) := by decide +kernel
theorem dX1_take_12 : decode cX1_take 12 = .ok (.getfield 46, 3) := by decide +kernel
theorem dX1_take_15 : decode cX1_take 15 = .ok (.aload_n 0, 1) := by decide +kernel
theorem dX1_take_16 : decode cX1_take 16 = .ok (.getfield 49, 3) := by decide +kernel
theorem dX1_take_19 : decode cX1_take 19 = .ok (.invokevirtual 52, 3) := by decide +kernel
theorem dX1_take_22 : decode cX1_take 22 = .ok (.goto 18, 3) := by decide +kernel
theorem dX1_take_25 : decode cX1_take 25 = .ok (.aload_n 0, 1) := by decide +kernel
theorem dX1_take_26 : decode cX1_take 26 = .ok (.getfield 9, 3) := by decide +kernel
theorem dX1_take_29 : decode cX1_take 29 = .ok (.aload_n 0, 1) := by decide +kernel
theorem dX1_take_30 : decode cX1_take 30 = .ok (.getfield 46, 3) := by decide +kernel
theorem dX1_take_33 : decode cX1_take 33 = .ok (.aload_n 0, 1) := by decide +kernel
theorem dX1_take_34 : decode cX1_take 34 = .ok (.getfield 49, 3) := by decide +kernel
theorem dX1_take_37 : decode cX1_take 37 = .ok (.invokevirtual 56, 3) := by decide +kernel
theorem dX1_take_40 : decode cX1_take 40 = .ok (.return_, 1) := by decide +kernel
theorem dX1_isFree_0 : decode cX1_isFree 0 = .ok (.aload_n 0, 1) := by decide +kernel
theorem dX1_isFree_1 : decode cX1_isFree 1 = .ok (.getfield 9, 3) := by decide +kernel
theorem dX1_isFree_4 : decode cX1_isFree 4 = .ok (.getfield 59, 3) := by decide +kernel
theorem dX1_isFree_7 : decode cX1_isFree 7 = .ok (.iload_n 1, 1) := by decide +kernel
theorem dX1_isFree_8 : decode cX1_isFree 8 = .ok (.iaload, 1) := by decide +kernel
theorem dX1_isFree_9 : decode cX1_isFree 9 = .ok (.ifCond .ne 18, 3) := by decide +kernel
theorem dX1_isFree_12 : decode cX1_isFree 12 = .ok (.aload_n 0, 1) := by decide +kernel
theorem dX1_isFree_13 : decode cX1_isFree 13 = .ok (.getfield 9, 3) := by decide +kernel
theorem dX1_isFree_16 : decode cX1_isFree 16 = .ok (.iload_n 1, 1) := by decide +kernel
theorem dX1_isFree_17 : decode cX1_isFree 17 = .ok (.invokevirtual 63, 3) := by decide +kernel
theorem dX1_isFree_20 : decode cX1_isFree 20 = .ok (.ifCond .ne 7, 3) := by decide +kernel
theorem dX1_isFree_23 : decode cX1_isFree 23 = .ok (.iconst 1, 1) := by decide +kernel
theorem dX1_isFree_24 : decode cX1_isFree 24 = .ok (.goto 4, 3) := by decide +kernel
theorem dX1_isFree_27 : decode cX1_isFree 27 = .ok (.iconst 0, 1) := by decide +kernel
theorem dX1_isFree_28 : decode cX1_isFree 28 = .ok (.ireturn, 1) := by decide +kernel
theorem dX1_tryChanges_0 : decode cX1_tryChanges 0 = .ok (.aload_n 0, 1) := by decide +kernel
theorem dX1_tryChanges_1 : decode cX1_tryChanges 1 = .ok (.getfield 9, 3) := by decide +kernel
theorem dX1_tryChanges_4 : decode cX1_tryChanges 4 = .ok (.getfield 66, 3) := by decide +kernel
theorem dX1_tryChanges_7 : decode cX1_tryChanges 7 = .ok (.iload_n 1, 1) := by decide +kernel
theorem dX1_tryChanges_8 : decode cX1_tryChanges 8 = .ok (.iaload, 1) := by decide +kernel
theorem dX1_tryChanges_9 : decode cX1_tryChanges 9 = .ok (.istore_n 2, 1) := by decide +kernel
theorem dX1_tryChanges_10 : decode cX1_tryChanges 10 = .ok (.iconst 0, 1) := by decide +kernel
theorem dX1_tryChanges_11 : decode cX1_tryChanges 11 = .ok (.istore_n 3, 1) := by decide +kernel
theorem dX1_tryChanges_12 : decode cX1_tryChanges 12 = .ok (.iload_n 3, 1) := by decide +kernel
theorem dX1_tryChanges_13 : decode cX1_tryChanges 13 = .ok (.iconst 3, 1) := by decide +kernel
theorem dX1_tryChanges_14 : decode cX1_tryChanges 14 = .ok (.if_icmp .ge 30, 3) := by decide +kernel
theorem dX1_tryChanges_17 : decode cX1_tryChanges 17 = .ok (.iload_n 3, 1) := by decide +kernel
theorem dX1_tryChanges_18 : decode cX1_tryChanges 18 = .ok (.iload_n 2, 1) := by decide +kernel
theorem dX1_tryChanges_19 : decode cX1_tryChanges 19 = .ok (.if_icmp .eq 19, 3) := by decide +kernel
theorem dX1_tryChanges_22 : decode cX1_tryChanges 22 = .ok (.aload_n 0, 1) := by decide +kernel
theorem dX1_tryChanges_23 : decode cX1_tryChanges 23 = .ok (.getfield 9, 3) := by decide +kernel
theorem dX1_tryChanges_26 : decode cX1_tryChanges 26 = .ok (.iload_n 1, 1) := by decide +kernel
theorem dX1_tryChanges_27 : decode cX1_tryChanges 27 = .ok (.iload_n 3, 1) := by decide +kernel
theorem dX1_tryChanges_28 : decode cX1_tryChanges 28 = .ok (.invokevirtual 52, 3) := by decide +kernel
theorem dX1_tryChanges_31 : decode cX1_tryChanges 31 = .ok (.aload_n 0, 1) := by decide +kernel
theorem dX1_tryChanges_32 : decode cX1_tryChanges 32 = .ok (.iconst 0, 1) := by decide +kernel
theorem dX1_tryChanges_33 : decode cX1_tryChanges 33 = .ok (.iload_n 1, 1) := by decide +kernel
theorem dX1_tryChanges_34 : decode cX1_tryChanges 34 = .ok (.iload_n 3, 1) := by decide +kernel
theorem dX1_tryChanges_35 : decode cX1_tryChanges 35 = .ok (.invokevirtual 69, 3) := by decide +kernel
theorem dX1_tryChanges_38 : decode cX1_tryChanges 38 = .ok (.iinc 3 1, 3) := by decide +kernel
theorem dX1_tryChanges_41 : decode cX1_tryChanges 41 = .ok (.goto (-29), 3) := by decide +kernel
theorem dX1_tryChanges_44 : decode cX1_tryChanges 44 = .ok (.aload_n 0, 1) := by decide +kernel
theorem dX1_tryChanges_45 : decode cX1_tryChanges 45 = .ok (.getfield 9, 3) := by decide +kernel
theorem dX1_tryChanges_48 : decode cX1_tryChanges 48 = .ok (.iload_n 1, 1) := by decide +kernel
theorem dX1_tryChanges_49 : decode cX1_tryChanges 49 = .ok (.iload_n 2, 1) := by decide +kernel
theorem dX1_tryChanges_50 : decode cX1_tryChanges 50 = .ok (.invokevirtual 52, 3) := by decide +kernel
theorem dX1_tryChanges_53 : decode cX1_tryChanges 53 = .ok (.return_, 1) := by decide +kernel
theorem dX1_trySwaps_0 : decode cX1_trySwaps 0 = .ok (.iload_n 1, 1) := by decide +kernel
theorem dX1_trySwaps_1 : decode cX1_trySwaps 1 = .ok (.iconst 1, 1) := by decide +kernel
theorem dX1_trySwaps_2 : decode cX1_trySwaps 2 = .ok (.iadd, 1) := by decide +kernel
theorem dX1_trySwaps_3 : decode cX1_trySwaps 3 = .ok (.istore_n 2, 1) := by decide +kernel
theorem dX1_trySwaps_4 : decode cX1_trySwaps 4 = .ok (.iload_n 2, 1) := by decide +kernel
theorem dX1_trySwaps_5 : decode cX1_trySwaps 5 = .ok (.aload_n 0, 1) := by decide +kernel
theorem dX1_trySwaps_6 : decode cX1_trySwaps 6 = .ok (.getfield 9, 3) := by decide +kernel
theorem dX1_trySwaps_9 : decode cX1_trySwaps 9 = .ok (.getfield 19, 3) := by decide +kernel
theorem dX1_trySwaps_12 : decode cX1_trySwaps 12 = .ok (.if_icmp .ge 63, 3) := by decide +kernel
theorem dX1_trySwaps_15 : decode cX1_trySwaps 15 = .ok (.aload_n 0, 1) := by decide +kernel
theorem dX1_trySwaps_16 : decode cX1_trySwaps 16 = .ok (.iload_n 2, 1) := by decide +kernel
theorem dX1_trySwaps_17 : decode cX1_trySwaps 17 = .ok (.invokevirtual 25, 3) := by decide +kernel
theorem dX1_trySwaps_20 : decode cX1_trySwaps 20 = .ok (.ifCond .eq 49, 3) := by decide +kernel
theorem dX1_trySwaps_23 : decode cX1_trySwaps 23 = .ok (.aload_n 0, 1) := by decide +kernel
theorem dX1_trySwaps_24 : decode cX1_trySwaps 24 = .ok (.getfield 9, 3) := by decide +kernel
theorem dX1_trySwaps_27 : decode cX1_trySwaps 27 = .ok (.getfield 66, 3) := by decide +kernel
theorem dX1_trySwaps_30 : decode cX1_trySwaps 30 = .ok (.iload_n 2, 1) := by decide +kernel
theorem dX1_trySwaps_31 : decode cX1_trySwaps 31 = .ok (.iaload, 1) := by decide +kernel
theorem dX1_trySwaps_32 : decode cX1_trySwaps 32 = .ok (.aload_n 0, 1) := by decide +kernel
theorem dX1_trySwaps_33 : decode cX1_trySwaps 33 = .ok (.getfield 9, 3) := by decide +kernel
theorem dX1_trySwaps_36 : decode cX1_trySwaps 36 = .ok (.getfield 66, 3) := by decide +kernel
theorem dX1_trySwaps_39 : decode cX1_trySwaps 39 = .ok (.iload_n 1, 1) := by decide +kernel
theorem dX1_trySwaps_40 : decode cX1_trySwaps 40 = .ok (.iaload, 1) := by decide +kernel
theorem dX1_trySwaps_41 : decode cX1_trySwaps 41 = .ok (.if_icmp .eq 28, 3) := by decide +kernel
theorem dX1_trySwaps_44 : decode cX1_trySwaps 44 = .ok (.aload_n 0, 1) := by decide +kernel
theorem dX1_trySwaps_45 : decode cX1_trySwaps 45 = .ok (.getfield 9, 3) := by decide +kernel
theorem dX1_trySwaps_48 : decode cX1_trySwaps 48 = .ok (.iload_n 1, 1) := by decide +kernel
theorem dX1_trySwaps_49 : decode cX1_trySwaps 49 = .ok (.iload_n 2, 1) := by decide +kernel
theorem dX1_trySwaps_50 : decode cX1_trySwaps 50 = .ok (.invokevirtual 56, 3) := by decide +kernel
theorem dX1_trySwaps_53 : decode cX1_trySwaps 53 = .ok (.aload_n 0, 1) := by decide +kernel
theorem dX1_trySwaps_54 : decode cX1_trySwaps 54 = .ok (.iconst 1, 1) := by decide +kernel
theorem dX1_trySwaps_55 : decode cX1_trySwaps 55 = .ok (.iload_n 1, 1) := by decide +kernel
theorem dX1_trySwaps_56 : decode cX1_trySwaps 56 = .ok (.iload_n 2, 1) := by decide +kernel
theorem dX1_trySwaps_57 : decode cX1_trySwaps 57 = .ok (.invokevirtual 69, 3) := by decide +kernel
theorem dX1_trySwaps_60 : decode cX1_trySwaps 60 = .ok (.aload_n 0, 1) := by decide +kernel
theorem dX1_trySwaps_61 : decode cX1_trySwaps 61 = .ok (.getfield 9, 3) := by decide +kernel
theorem dX1_trySwaps_64 : decode cX1_trySwaps 64 = .ok (.iload_n 1, 1) := by decide +kernel
theorem dX1_trySwaps_65 : decode cX1_trySwaps 65 = .ok (.iload_n 2, 1) := by decide +kernel
theorem dX1_trySwaps_66 : decode cX1_trySwaps 66 = .ok (.invokevirtual 56, 3) := by decide +kernel
theorem dX1_trySwaps_69 : decode cX1_trySwaps 69 = .ok (.iinc 2 1, 3) := by decide +kernel
theorem dX1_trySwaps_72 : decode cX1_trySwaps 72 = .ok (.goto (-68), 3) := by decide +kernel
theorem dX1_trySwaps_75 : decode cX1_trySwaps 75 = .ok (.return_, 1) := by decide +kernel
theorem dX1_compare_0 : decode cX1_compare 0 = .ok (.aload_n 0, 1) := by decide +kernel
theorem dX1_compare_1 : decode cX1_compare 1 = .ok (.getfield 9, 3) := by decide +kernel
theorem dX1_compare_4 : decode cX1_compare 4 = .ok (.invokevirtual 73, 3) := by decide +kernel
theorem dX1_compare_7 : decode cX1_compare 7 = .ok (.ifCond .ne 4, 3) := by decide +kernel
theorem dX1_compare_10 : decode cX1_compare 10 = .ok (.return_, 1) := by decide +kernel
theorem dX1_compare_11 : decode cX1_compare 11 = .ok (.aload_n 0, 1) := by decide +kernel
theorem dX1_compare_12 : decode cX1_compare 12 = .ok (.getfield 9, 3) := by decide +kernel
theorem dX1_compare_15 : decode cX1_compare 15 = .ok (.invokevirtual 39, 3) := by decide +kernel
theorem dX1_compare_18 : decode cX1_compare 18 = .ok (.istore 4, 2) := by decide +kernel
theorem dX1_compare_20 : decode cX1_compare 20 = .ok (.aload_n 0, 1) := by decide +kernel
theorem dX1_compare_21 : decode cX1_compare 21 = .ok (.getfield 15, 3) := by decide +kernel
theorem dX1_compare_24 : decode cX1_compare 24 = .ok (.ifCond .eq 12, 3) := by decide +kernel
theorem dX1_compare_27 : decode cX1_compare 27 = .ok (.iload 4, 2) := by decide +kernel
theorem dX1_compare_29 : decode cX1_compare 29 = .ok (.aload_n 0, 1) := by decide +kernel
theorem dX1_compare_30 : decode cX1_compare 30 = .ok (.getfield 36, 3) := by decide +kernel
theorem dX1_compare_33 : decode cX1_compare 33 = .ok (.if_icmp .ge 29, 3) := by decide +kernel
theorem dX1_compare_36 : decode cX1_compare 36 = .ok (.aload_n 0, 1) := by decide +kernel
theorem dX1_compare_37 : decode cX1_compare 37 = .ok (.iconst 1, 1) := by decide +kernel
theorem dX1_compare_38 : decode cX1_compare 38 = .ok (.putfield 15, 3) := by decide +kernel
theorem dX1_compare_41 : decode cX1_compare 41 = .ok (.aload_n 0, 1) := by decide +kernel
theorem dX1_compare_42 : decode cX1_compare 42 = .ok (.iload 4, 2) := by decide +kernel
theorem dX1_compare_44 : decode cX1_compare 44 = .ok (.putfield 36, 3) := by decide +kernel
theorem dX1_compare_47 : decode cX1_compare 47 = .ok (.aload_n 0, 1) := by decide +kernel
theorem dX1_compare_48 : decode cX1_compare 48 = .ok (.iload_n 1, 1) := by decide +kernel
theorem dX1_compare_49 : decode cX1_compare 49 = .ok (.putfield 43, 3) := by decide +kernel
theorem dX1_compare_52 : decode cX1_compare 52 = .ok (.aload_n 0, 1) := by decide +kernel
theorem dX1_compare_53 : decode cX1_compare 53 = .ok (.iload_n 2, 1) := by decide +kernel
theorem dX1_compare_54 : decode cX1_compare 54 = .ok (.putfield 46, 3) := by decide +kernel
theorem dX1_compare_57 : decode cX1_compare 57 = .ok (.aload_n 0, 1) := by decide +kernel
theorem dX1_compare_58 : decode cX1_compare 58 = .ok (.iload_n 3, 1) := by decide +kernel
theorem dX1_compare_59 : decode cX1_compare 59 = .ok (.putfield 49, 3) := by decide +kernel
theorem dX1_compare_62 : decode cX1_compare 62 = .ok (.return_, 1) := by decide +kernel
