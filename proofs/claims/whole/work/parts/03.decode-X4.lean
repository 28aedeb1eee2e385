theorem dX4_init_0 : decode cX4_init 0 = .ok (.aload_n 0, 1) := by decide +kernel
theorem dX4_init_1 : decode cX4_init 1 = .ok (.invokespecial 1, 3) := by decide +kernel
theorem dX4_init_4 : decode cX4_init 4 = .ok (.aload_n 0, 1) := by decide +kernel
theorem dX4_init_5 : decode cX4_init 5 = .ok (.new 7, 3) := by decide +kernel
theorem dX4_init_8 : decode cX4_init 8 = .ok (.dup, 1) := by decide +kernel
theorem dX4_init_9 : decode cX4_init 9 = .ok (.invokespecial 9, 3) := by decide +kernel
theorem dX4_init_12 : decode cX4_init 12 = .ok (.putfield 10, 3) := by decide +kernel
theorem dX4_init_15 : decode cX4_init 15 = .ok (.aload_n 0, 1) := by decide +kernel
theorem dX4_init_16 : decode cX4_init 16 = .ok (.new 16, 3) := by decide +kernel
theorem dX4_init_19 : decode cX4_init 19 = .ok (.dup, 1) := by decide +kernel
theorem dX4_init_20 : decode cX4_init 20 = .ok (.aload_n 0, 1) := by decide +kernel
theorem dX4_init_21 : decode cX4_init 21 = .ok (.getfield 10, 3) := by decide +kernel
theorem dX4_init_24 : decode cX4_init 24 = .ok (.invokespecial 18, 3) := by decide +kernel
theorem dX4_init_27 : decode cX4_init 27 = .ok (.putfield 21, 3) := by decide +kernel
theorem dX4_init_30 : decode cX4_init 30 = .ok (.aload_n 0, 1) := by decide +kernel
theorem dX4_init_31 : decode cX4_init 31 = .ok (.new 25, 3) := by decide +kernel
theorem dX4_init_34 : decode cX4_init 34 = .ok (.dup, 1) := by decide +kernel
theorem dX4_init_35 : decode cX4_init 35 = .ok (.aload_n 0, 1) := by decide +kernel
theorem dX4_init_36 : decode cX4_init 36 = .ok (.getfield 10, 3) := by decide +kernel
theorem dX4_init_39 : decode cX4_init 39 = .ok (.invokespecial 27, 3) := by decide +kernel
theorem dX4_init_42 : decode cX4_init 42 = .ok (.putfield 28, 3) := by decide +kernel
theorem dX4_init_45 : decode cX4_init 45 = .ok (.aload_n 0, 1) := by decide +kernel
theorem dX4_init_46 : decode cX4_init 46 = .ok (.new 32, 3) := by decide +kernel
theorem dX4_init_49 : decode cX4_init 49 = .ok (.dup, 1) := by decide +kernel
theorem dX4_init_50 : decode cX4_init 50 = .ok (.invokespecial 34, 3) := by decide +kernel
theorem dX4_init_53 : decode cX4_init 53 = .ok (.putfield 35, 3) := by decide +kernel
theorem dX4_init_56 : decode cX4_init 56 = .ok (.return_, 1) := by decide +kernel
theorem dX4_house_0 : decode cX4_house 0 = .ok (.iload_n 1, 1) := by decide +kernel
theorem dX4_house_1 : decode cX4_house 1 = .ok (.invokestatic 39, 3) := by decide +kernel
theorem dX4_house_4 : decode cX4_house 4 = .ok (.ifCond .eq 17, 3) := by decide +kernel
theorem dX4_house_7 : decode cX4_house 7 = .ok (.iload_n 2, 1) := by decide +kernel
theorem dX4_house_8 : decode cX4_house 8 = .ok (.invokestatic 43, 3) := by decide +kernel
theorem dX4_house_11 : decode cX4_house 11 = .ok (.ifCond .eq 10, 3) := by decide +kernel
theorem dX4_house_14 : decode cX4_house 14 = .ok (.iload_n 3, 1) := by decide +kernel
theorem dX4_house_15 : decode cX4_house 15 = .ok (.invokestatic 46, 3) := by decide +kernel
theorem dX4_house_18 : decode cX4_house 18 = .ok (.ifCond .ne 10, 3) := by decide +kernel
theorem dX4_house_21 : decode cX4_house 21 = .ok (.aload_n 0, 1) := by decide +kernel
theorem dX4_house_22 : decode cX4_house 22 = .ok (.bipush (-2), 2) := by decide +kernel
theorem dX4_house_24 : decode cX4_house 24 = .ok (.invokevirtual 49, 3) := by decide +kernel
theorem dX4_house_27 : decode cX4_house 27 = .ok (.ireturn, 1) := by decide +kernel
theorem dX4_house_28 : decode cX4_house 28 = .ok (.aload_n 0, 1) := by decide +kernel
theorem dX4_house_29 : decode cX4_house 29 = .ok (.getfield 10, 3) := by decide +kernel
theorem dX4_house_32 : decode cX4_house 32 = .ok (.getfield 53, 3) := by decide +kernel
theorem dX4_house_35 : decode cX4_house 35 = .ok (.bipush 9, 2) := by decide +kernel
theorem dX4_house_37 : decode cX4_house 37 = .ok (.if_icmp .lt 10, 3) := by decide +kernel
theorem dX4_house_40 : decode cX4_house 40 = .ok (.aload_n 0, 1) := by decide +kernel
theorem dX4_house_41 : decode cX4_house 41 = .ok (.bipush (-4), 2) := by decide +kernel
theorem dX4_house_43 : decode cX4_house 43 = .ok (.invokevirtual 49, 3) := by decide +kernel
theorem dX4_house_46 : decode cX4_house 46 = .ok (.ireturn, 1) := by decide +kernel
theorem dX4_house_47 : decode cX4_house 47 = .ok (.aload_n 0, 1) := by decide +kernel
theorem dX4_house_48 : decode cX4_house 48 = .ok (.invokevirtual 57, 3) := by decide +kernel
theorem dX4_house_51 : decode cX4_house 51 = .ok (.aload_n 0, 1) := by decide +kernel
theorem dX4_house_52 : decode cX4_house 52 = .ok (.getfield 10, 3) := by decide +kernel
theorem dX4_house_55 : decode cX4_house 55 = .ok (.iload_n 1, 1) := by decide +kernel
theorem dX4_house_56 : decode cX4_house 56 = .ok (.iload_n 2, 1) := by decide +kernel
theorem dX4_house_57 : decode cX4_house 57 = .ok (.iload_n 3, 1) := by decide +kernel
theorem dX4_house_58 : decode cX4_house 58 = .ok (.invokevirtual 60, 3) := by decide +kernel
theorem dX4_house_61 : decode cX4_house 61 = .ok (.ireturn, 1) := by decide +kernel
theorem dX4_sets_0 : decode cX4_sets 0 = .ok (.aload_n 0, 1) := by decide +kernel
theorem dX4_sets_1 : decode cX4_sets 1 = .ok (.iload_n 1, 1) := by decide +kernel
theorem dX4_sets_2 : decode cX4_sets 2 = .ok (.invokevirtual 64, 3) := by decide +kernel
theorem dX4_sets_5 : decode cX4_sets 5 = .ok (.ifCond .eq 11, 3) := by decide +kernel
theorem dX4_sets_8 : decode cX4_sets 8 = .ok (.iload_n 2, 1) := by decide +kernel
theorem dX4_sets_9 : decode cX4_sets 9 = .ok (.iload_n 3, 1) := by decide +kernel
theorem dX4_sets_10 : decode cX4_sets 10 = .ok (.invokestatic 67, 3) := by decide +kernel
theorem dX4_sets_13 : decode cX4_sets 13 = .ok (.ifCond .ne 10, 3) := by decide +kernel
theorem dX4_sets_16 : decode cX4_sets 16 = .ok (.aload_n 0, 1) := by decide +kernel
theorem dX4_sets_17 : decode cX4_sets 17 = .ok (.bipush (-2), 2) := by decide +kernel
theorem dX4_sets_19 : decode cX4_sets 19 = .ok (.invokevirtual 49, 3) := by decide +kernel
theorem dX4_sets_22 : decode cX4_sets 22 = .ok (.ireturn, 1) := by decide +kernel
theorem dX4_sets_23 : decode cX4_sets 23 = .ok (.aload_n 0, 1) := by decide +kernel
theorem dX4_sets_24 : decode cX4_sets 24 = .ok (.invokevirtual 57, 3) := by decide +kernel
theorem dX4_sets_27 : decode cX4_sets 27 = .ok (.aload_n 0, 1) := by decide +kernel
theorem dX4_sets_28 : decode cX4_sets 28 = .ok (.getfield 10, 3) := by decide +kernel
theorem dX4_sets_31 : decode cX4_sets 31 = .ok (.iload_n 1, 1) := by decide +kernel
theorem dX4_sets_32 : decode cX4_sets 32 = .ok (.iload_n 2, 1) := by decide +kernel
theorem dX4_sets_33 : decode cX4_sets 33 = .ok (.iload_n 3, 1) := by decide +kernel
theorem dX4_sets_34 : decode cX4_sets 34 = .ok (.invokevirtual 71, 3) := by decide +kernel
theorem dX4_sets_37 : decode cX4_sets 37 = .ok (.ireturn, 1) := by decide +kernel
theorem dX4_weight_0 : decode cX4_weight 0 = .ok (.iload_n 1, 1) := by decide +kernel
theorem dX4_weight_1 : decode cX4_weight 1 = .ok (.invokestatic 74, 3) := by decide +kernel
theorem dX4_weight_4 : decode cX4_weight 4 = .ok (.ifCond .eq 13, 3) := by decide +kernel
theorem dX4_weight_7 : decode cX4_weight 7 = .ok (.iload_n 2, 1) := by decide +kernel
theorem dX4_weight_8 : decode cX4_weight 8 = .ok (.iconst 0, 1) := by decide +kernel
theorem dX4_weight_9 : decode cX4_weight 9 = .ok (.bipush 9, 2) := by decide +kernel
theorem dX4_weight_11 : decode cX4_weight 11 = .ok (.invokestatic 77, 3) := by decide +kernel
theorem dX4_weight_14 : decode cX4_weight 14 = .ok (.ifCond .ne 10, 3) := by decide +kernel
theorem dX4_weight_17 : decode cX4_weight 17 = .ok (.aload_n 0, 1) := by decide +kernel
theorem dX4_weight_18 : decode cX4_weight 18 = .ok (.bipush (-2), 2) := by decide +kernel
theorem dX4_weight_20 : decode cX4_weight 20 = .ok (.invokevirtual 49, 3) := by decide +kernel
theorem dX4_weight_23 : decode cX4_weight 23 = .ok (.ireturn, 1) := by decide +kernel
theorem dX4_weight_24 : decode cX4_weight 24 = .ok (.aload_n 0, 1) := by decide +kernel
theorem dX4_weight_25 : decode cX4_weight 25 = .ok (.invokevirtual 57, 3) := by decide +kernel
theorem dX4_weight_28 : decode cX4_weight 28 = .ok (.aload_n 0, 1) := by decide +kernel
theorem dX4_weight_29 : decode cX4_weight 29 = .ok (.getfield 10, 3) := by decide +kernel
theorem dX4_weight_32 : decode cX4_weight 32 = .ok (.getfield 81, 3) := by decide +kernel
theorem dX4_weight_35 : decode cX4_weight 35 = .ok (.iload_n 1, 1) := by decide +kernel
theorem dX4_weight_36 : decode cX4_weight 36 = .ok (.iaload, 1) := by decide +kernel
theorem dX4_weight_37 : decode cX4_weight 37 = .ok (.istore_n 3, 1) := by decide +kernel
theorem dX4_weight_38 : decode cX4_weight 38 = .ok (.aload_n 0, 1) := by decide +kernel
theorem dX4_weight_39 : decode cX4_weight 39 = .ok (.getfield 10, 3) := by decide +kernel
theorem dX4_weight_42 : decode cX4_weight 42 = .ok (.getfield 81, 3) := by decide +kernel
theorem dX4_weight_45 : decode cX4_weight 45 = .ok (.iload_n 1, 1) := by decide +kernel
theorem dX4_weight_46 : decode cX4_weight 46 = .ok (.iload_n 2, 1) := by decide +kernel
theorem dX4_weight_47 : decode cX4_weight 47 = .ok (.iastore, 1) := by decide +kernel
theorem dX4_weight_48 : decode cX4_weight 48 = .ok (.iload_n 3, 1) := by decide +kernel
theorem dX4_weight_49 : decode cX4_weight 49 = .ok (.ireturn, 1) := by decide +kernel
theorem dX4_fuse_0 : decode cX4_fuse 0 = .ok (.iload_n 1, 1) := by decide +kernel
theorem dX4_fuse_1 : decode cX4_fuse 1 = .ok (.iconst 1, 1) := by decide +kernel
theorem dX4_fuse_2 : decode cX4_fuse 2 = .ok (.sipush 400, 3) := by decide +kernel
theorem dX4_fuse_5 : decode cX4_fuse 5 = .ok (.invokestatic 77, 3) := by decide +kernel
theorem dX4_fuse_8 : decode cX4_fuse 8 = .ok (.ifCond .ne 10, 3) := by decide +kernel
theorem dX4_fuse_11 : decode cX4_fuse 11 = .ok (.aload_n 0, 1) := by decide +kernel
theorem dX4_fuse_12 : decode cX4_fuse 12 = .ok (.bipush (-2), 2) := by decide +kernel
theorem dX4_fuse_14 : decode cX4_fuse 14 = .ok (.invokevirtual 49, 3) := by decide +kernel
theorem dX4_fuse_17 : decode cX4_fuse 17 = .ok (.ireturn, 1) := by decide +kernel
theorem dX4_fuse_18 : decode cX4_fuse 18 = .ok (.aload_n 0, 1) := by decide +kernel
theorem dX4_fuse_19 : decode cX4_fuse 19 = .ok (.invokevirtual 57, 3) := by decide +kernel
theorem dX4_fuse_22 : decode cX4_fuse 22 = .ok (.aload_n 0, 1) := by decide +kernel
theorem dX4_fuse_23 : decode cX4_fuse 23 = .ok (.getfield 10, 3) := by decide +kernel
theorem dX4_fuse_26 : decode cX4_fuse 26 = .ok (.getfield 85, 3) := by decide +kernel
theorem dX4_fuse_29 : decode cX4_fuse 29 = .ok (.istore_n 2, 1) := by decide +kernel
theorem dX4_fuse_30 : decode cX4_fuse 30 = .ok (.aload_n 0, 1) := by decide +kernel
theorem dX4_fuse_31 : decode cX4_fuse 31 = .ok (.getfield 10, 3) := by decide +kernel
theorem dX4_fuse_34 : decode cX4_fuse 34 = .ok (.iload_n 1, 1) := by decide +kernel
theorem dX4_fuse_35 : decode cX4_fuse 35 = .ok (.putfield 85, 3) := by decide +kernel
theorem dX4_fuse_38 : decode cX4_fuse 38 = .ok (.iload_n 2, 1) := by decide +kernel
theorem dX4_fuse_39 : decode cX4_fuse 39 = .ok (.ireturn, 1) := by decide +kernel
theorem dX4_tie_0 : decode cX4_tie 0 = .ok (.aload_n 0, 1) := by decide +kernel
theorem dX4_tie_1 : decode cX4_tie 1 = .ok (.iload_n 1, 1) := by decide +kernel
theorem dX4_tie_2 : decode cX4_tie 2 = .ok (.iload_n 2, 1) := by decide +kernel
theorem dX4_tie_3 : decode cX4_tie 3 = .ok (.invokevirtual 88, 3) := by decide +kernel
theorem dX4_tie_6 : decode cX4_tie 6 = .ok (.ifCond .ne 10, 3) := by decide +kernel
theorem dX4_tie_9 : decode cX4_tie 9 = .ok (.aload_n 0, 1) := by decide +kernel
theorem dX4_tie_10 : decode cX4_tie 10 = .ok (.bipush (-2), 2) := by decide +kernel
theorem dX4_tie_12 : decode cX4_tie 12 = .ok (.invokevirtual 49, 3) := by decide +kernel
theorem dX4_tie_15 : decode cX4_tie 15 = .ok (.ireturn, 1) := by decide +kernel
theorem dX4_tie_16 : decode cX4_tie 16 = .ok (.aload_n 0, 1) := by decide +kernel
theorem dX4_tie_17 : decode cX4_tie 17 = .ok (.getfield 10, 3) := by decide +kernel
theorem dX4_tie_20 : decode cX4_tie 20 = .ok (.getfield 91, 3) := by decide +kernel
theorem dX4_tie_23 : decode cX4_tie 23 = .ok (.iload_n 1, 1) := by decide +kernel
theorem dX4_tie_24 : decode cX4_tie 24 = .ok (.iaload, 1) := by decide +kernel
theorem dX4_tie_25 : decode cX4_tie 25 = .ok (.aload_n 0, 1) := by decide +kernel
theorem dX4_tie_26 : decode cX4_tie 26 = .ok (.getfield 10, 3) := by decide +kernel
theorem dX4_tie_29 : decode cX4_tie 29 = .ok (.getfield 91, 3) := by decide +kernel
theorem dX4_tie_32 : decode cX4_tie 32 = .ok (.iload_n 2, 1) := by decide +kernel
theorem dX4_tie_33 : decode cX4_tie 33 = .ok (.iaload, 1) := by decide +kernel
theorem dX4_tie_34 : decode cX4_tie 34 = .ok (.if_icmp .ne 10, 3) := by decide +kernel
theorem dX4_tie_37 : decode cX4_tie 37 = .ok (.aload_n 0, 1) := by decide +kernel
theorem dX4_tie_38 : decode cX4_tie 38 = .ok (.bipush (-3), 2) := by decide +kernel
theorem dX4_tie_40 : decode cX4_tie 40 = .ok (.invokevirtual 49, 3) := by decide +kernel
theorem dX4_tie_43 : decode cX4_tie 43 = .ok (.ireturn, 1) := by decide +kernel
theorem dX4_tie_44 : decode cX4_tie 44 = .ok (.aload_n 0, 1) := by decide +kernel
theorem dX4_tie_45 : decode cX4_tie 45 = .ok (.getfield 10, 3) := by decide +kernel
theorem dX4_tie_48 : decode cX4_tie 48 = .ok (.getfield 94, 3) := by decide +kernel
theorem dX4_tie_51 : decode cX4_tie 51 = .ok (.bipush 6, 2) := by decide +kernel
theorem dX4_tie_53 : decode cX4_tie 53 = .ok (.if_icmp .lt 10, 3) := by decide +kernel
theorem dX4_tie_56 : decode cX4_tie 56 = .ok (.aload_n 0, 1) := by decide +kernel
theorem dX4_tie_57 : decode cX4_tie 57 = .ok (.bipush (-4), 2) := by decide +kernel
theorem dX4_tie_59 : decode cX4_tie 59 = .ok (.invokevirtual 49, 3) := by decide +kernel
theorem dX4_tie_62 : decode cX4_tie 62 = .ok (.ireturn, 1) := by decide +kernel
theorem dX4_tie_63 : decode cX4_tie 63 = .ok (.aload_n 0, 1) := by decide +kernel
theorem dX4_tie_64 : decode cX4_tie 64 = .ok (.invokevirtual 57, 3) := by decide +kernel
theorem dX4_tie_67 : decode cX4_tie 67 = .ok (.aload_n 0, 1) := by decide +kernel
theorem dX4_tie_68 : decode cX4_tie 68 = .ok (.getfield 10, 3) := by decide +kernel
theorem dX4_tie_71 : decode cX4_tie 71 = .ok (.iload_n 1, 1) := by decide +kernel
theorem dX4_tie_72 : decode cX4_tie 72 = .ok (.iload_n 2, 1) := by decide +kernel
theorem dX4_tie_73 : decode cX4_tie 73 = .ok (.invokevirtual 97, 3) := by decide +kernel
theorem dX4_tie_76 : decode cX4_tie 76 = .ok (.aload_n 0, 1) := by decide +kernel
theorem dX4_tie_77 : decode cX4_tie 77 = .ok (.getfield 10, 3) := by decide +kernel
theorem dX4_tie_80 : decode cX4_tie 80 = .ok (.getfield 94, 3) := by decide +kernel
theorem dX4_tie_83 : decode cX4_tie 83 = .ok (.ireturn, 1) := by decide +kernel
theorem dX4_loosens_0 : decode cX4_loosens 0 = .ok (.aload_n 0, 1) := by decide +kernel
theorem dX4_loosens_1 : decode cX4_loosens 1 = .ok (.invokevirtual 57, 3) := by decide +kernel
theorem dX4_loosens_4 : decode cX4_loosens 4 = .ok (.aload_n 0, 1) := by decide +kernel
theorem dX4_loosens_5 : decode cX4_loosens 5 = .ok (.getfield 10, 3) := by decide +kernel
theorem dX4_loosens_8 : decode cX4_loosens 8 = .ok (.getfield 94, 3) := by decide +kernel
theorem dX4_loosens_11 : decode cX4_loosens 11 = .ok (.istore_n 1, 1) := by decide +kernel
theorem dX4_loosens_12 : decode cX4_loosens 12 = .ok (.aload_n 0, 1) := by decide +kernel
theorem dX4_loosens_13 : decode cX4_loosens 13 = .ok (.getfield 10, 3) := by decide +kernel
theorem dX4_loosens_16 : decode cX4_loosens 16 = .ok (.invokevirtual 101, 3) := by decide +kernel
theorem dX4_loosens_19 : decode cX4_loosens 19 = .ok (.iload_n 1, 1) := by decide +kernel
theorem dX4_loosens_20 : decode cX4_loosens 20 = .ok (.ireturn, 1) := by decide +kernel
theorem dX4_anew_0 : decode cX4_anew 0 = .ok (.aload_n 0, 1) := by decide +kernel
theorem dX4_anew_1 : decode cX4_anew 1 = .ok (.invokevirtual 57, 3) := by decide +kernel
theorem dX4_anew_4 : decode cX4_anew 4 = .ok (.aload_n 0, 1) := by decide +kernel
theorem dX4_anew_5 : decode cX4_anew 5 = .ok (.getfield 10, 3) := by decide +kernel
theorem dX4_anew_8 : decode cX4_anew 8 = .ok (.getfield 53, 3) := by decide +kernel
theorem dX4_anew_11 : decode cX4_anew 11 = .ok (.istore_n 1, 1) := by decide +kernel
theorem dX4_anew_12 : decode cX4_anew 12 = .ok (.aload_n 0, 1) := by decide +kernel
theorem dX4_anew_13 : decode cX4_anew 13 = .ok (.getfield 10, 3) := by decide +kernel
theorem dX4_anew_16 : decode cX4_anew 16 = .ok (.invokevirtual 104, 3) := by decide +kernel
theorem dX4_anew_19 : decode cX4_anew 19 = .ok (.aload_n 0, 1) := by decide +kernel
theorem dX4_anew_20 : decode cX4_anew 20 = .ok (.getfield 10, 3) := by decide +kernel
theorem dX4_anew_23 : decode cX4_anew 23 = .ok (.invokevirtual 107, 3) := by decide +kernel
theorem dX4_anew_26 : decode cX4_anew 26 = .ok (.iload_n 1, 1) := by decide +kernel
theorem dX4_anew_27 : decode cX4_anew 27 = .ok (.ireturn, 1) := by decide +kernel
theorem dX4_draw_0 : decode cX4_draw 0 = .ok (.iload_n 1, 1) := by decide +kernel
theorem dX4_draw_1 : decode cX4_draw 1 = .ok (.iconst 0, 1) := by decide +kernel
theorem dX4_draw_2 : decode cX4_draw 2 = .ok (.ldc 110, 2) := by decide +kernel
theorem dX4_draw_4 : decode cX4_draw 4 = .ok (.invokestatic 77, 3) := by decide +kernel
theorem dX4_draw_7 : decode cX4_draw 7 = .ok (.ifCond .eq 13, 3) := by decide +kernel
theorem dX4_draw_10 : decode cX4_draw 10 = .ok (.iload_n 2, 1) := by decide +kernel
theorem dX4_draw_11 : decode cX4_draw 11 = .ok (.iconst 0, 1) := by decide +kernel
theorem dX4_draw_12 : decode cX4_draw 12 = .ok (.bipush 9, 2) := by decide +kernel
theorem dX4_draw_14 : decode cX4_draw 14 = .ok (.invokestatic 77, 3) := by decide +kernel
theorem dX4_draw_17 : decode cX4_draw 17 = .ok (.ifCond .ne 10, 3) := by decide +kernel
theorem dX4_draw_20 : decode cX4_draw 20 = .ok (.aload_n 0, 1) := by decide +kernel
theorem dX4_draw_21 : decode cX4_draw 21 = .ok (.bipush (-2), 2) := by decide +kernel
theorem dX4_draw_23 : decode cX4_draw 23 = .ok (.invokevirtual 49, 3) := by decide +kernel
theorem dX4_draw_26 : decode cX4_draw 26 = .ok (.ireturn, 1) := by decide +kernel
theorem dX4_draw_27 : decode cX4_draw 27 = .ok (.aload_n 0, 1) := by decide +kernel
theorem dX4_draw_28 : decode cX4_draw 28 = .ok (.invokevirtual 57, 3) := by decide +kernel
theorem dX4_draw_31 : decode cX4_draw 31 = .ok (.aload_n 0, 1) := by decide +kernel
theorem dX4_draw_32 : decode cX4_draw 32 = .ok (.getfield 10, 3) := by decide +kernel
theorem dX4_draw_35 : decode cX4_draw 35 = .ok (.invokevirtual 104, 3) := by decide +kernel
theorem dX4_draw_38 : decode cX4_draw 38 = .ok (.iload_n 1, 1) := by decide +kernel
theorem dX4_draw_39 : decode cX4_draw 39 = .ok (.i2l, 1) := by decide +kernel
theorem dX4_draw_40 : decode cX4_draw 40 = .ok (.lstore_n 3, 1) := by decide +kernel
theorem dX4_draw_41 : decode cX4_draw 41 = .ok (.iconst 0, 1) := by decide +kernel
theorem dX4_draw_42 : decode cX4_draw 42 = .ok (.istore 5, 2) := by decide +kernel
theorem dX4_draw_44 : decode cX4_draw 44 = .ok (.iload 5, 2) := by decide +kernel
theorem dX4_draw_46 : decode cX4_draw 46 = .ok (.iload_n 2, 1) := by decide +kernel
theorem dX4_draw_47 : decode cX4_draw 47 = .ok (.if_icmp .ge 63, 3) := by decide +kernel
theorem dX4_draw_50 : decode cX4_draw 50 = .ok (.lload_n 3, 1) := by decide +kernel
theorem dX4_draw_51 : decode cX4_draw 51 = .ok (.ldc2_w 111, 3) := by decide +kernel
theorem dX4_draw_54 : decode cX4_draw 54 = .ok (.lmul, 1) := by decide +kernel
theorem dX4_draw_55 : decode cX4_draw 55 = .ok (.ldc2_w 113, 3) := by decide +kernel
theorem dX4_draw_58 : decode cX4_draw 58 = .ok (.ladd, 1) := by decide +kernel
theorem dX4_draw_59 : decode cX4_draw 59 = .ok (.ldc2_w 115, 3) := by decide +kernel
theorem dX4_draw_62 : decode cX4_draw 62 = .ok (.lrem, 1) := by decide +kernel
theorem dX4_draw_63 : decode cX4_draw 63 = .ok (.lstore_n 3, 1) := by decide +kernel
theorem dX4_draw_64 : decode cX4_draw 64 = .ok (.aload_n 0, 1) := by decide +kernel
theorem dX4_draw_65 : decode cX4_draw 65 = .ok (.getfield 10, 3) := by decide +kernel
theorem dX4_draw_68 : decode cX4_draw 68 = .ok (.lload_n 3, 1) := by decide +kernel
theorem dX4_draw_69 : decode cX4_draw 69 = .ok (.ldc2_w 117, 3) := by decide +kernel
theorem dX4_draw_72 : decode cX4_draw 72 = .ok (.ldiv, 1) := by decide +kernel
theorem dX4_draw_73 : decode cX4_draw 73 = .ok (.ldc2_w 119, 3) := by decide +kernel
theorem dX4_draw_76 : decode cX4_draw 76 = .ok (.lrem, 1) := by decide +kernel
theorem dX4_draw_77 : decode cX4_draw 77 = .ok (.l2i, 1) := by decide +kernel
theorem dX4_draw_78 : decode cX4_draw 78 = .ok (.lload_n 3, 1) := by decide +kernel
theorem dX4_draw_79 : decode cX4_draw 79 = .ok (.ldc2_w 121, 3) := by decide +kernel
theorem dX4_draw_82 : decode cX4_draw 82 = .ok (.ldiv, 1) := by decide +kernel
theorem dX4_draw_83 : decode cX4_draw 83 = .ok (.ldc2_w 123, 3) := by decide +kernel
theorem dX4_draw_86 : decode cX4_draw 86 = .ok (.lrem, 1) := by decide +kernel
theorem dX4_draw_87 : decode cX4_draw 87 = .ok (.l2i, 1) := by decide +kernel
theorem dX4_draw_88 : decode cX4_draw 88 = .ok (.iconst 1, 1) := by decide +kernel
theorem dX4_draw_89 : decode cX4_draw 89 = .ok (.iadd, 1) := by decide +kernel
theorem dX4_draw_90 : decode cX4_draw 90 = .ok (.lload_n 3, 1) := by decide +kernel
theorem dX4_draw_91 : decode cX4_draw 91 = .ok (.ldc2_w 125, 3) := by decide +kernel
theorem dX4_draw_94 : decode cX4_draw 94 = .ok (.ldiv, 1) := by decide +kernel
theorem dX4_draw_95 : decode cX4_draw 95 = .ok (.ldc2_w 127, 3) := by decide +kernel
theorem dX4_draw_98 : decode cX4_draw 98 = .ok (.lrem, 1) := by decide +kernel
theorem dX4_draw_99 : decode cX4_draw 99 = .ok (.l2i, 1) := by decide +kernel
theorem dX4_draw_100 : decode cX4_draw 100 = .ok (.invokevirtual 60, 3) := by decide +kernel
theorem dX4_draw_103 : decode cX4_draw 103 = .ok (.pop, 1) := by decide +kernel
theorem dX4_draw_104 : decode cX4_draw 104 = .ok (.iinc 5 1, 3) := by decide +kernel
theorem dX4_draw_107 : decode cX4_draw 107 = .ok (.goto (-63), 3) := by decide +kernel
theorem dX4_draw_110 : decode cX4_draw 110 = .ok (.iload_n 2, 1) := by decide +kernel
theorem dX4_draw_111 : decode cX4_draw 111 = .ok (.ireturn, 1) := by decide +kernel
theorem dX4_of_0 : decode cX4_of 0 = .ok (.aload_n 0, 1) := by decide +kernel
theorem dX4_of_1 : decode cX4_of 1 = .ok (.iload_n 1, 1) := by decide +kernel
theorem dX4_of_2 : decode cX4_of 2 = .ok (.invokevirtual 64, 3) := by decide +kernel
theorem dX4_of_5 : decode cX4_of 5 = .ok (.ifCond .ne 10, 3) := by decide +kernel
theorem dX4_of_8 : decode cX4_of 8 = .ok (.aload_n 0, 1) := by decide +kernel
theorem dX4_of_9 : decode cX4_of 9 = .ok (.bipush (-2), 2) := by decide +kernel
theorem dX4_of_11 : decode cX4_of 11 = .ok (.invokevirtual 49, 3) := by decide +kernel
theorem dX4_of_14 : decode cX4_of 14 = .ok (.ireturn, 1) := by decide +kernel
theorem dX4_of_15 : decode cX4_of 15 = .ok (.iload_n 2, 1) := by decide +kernel
theorem dX4_of_16 : decode cX4_of 16 = .ok (.tableswitch 86 0 4 #[36, 46, 56, 66, 76], 36) := by decide +kernel
theorem dX4_of_52 : decode cX4_of 52 = .ok (.aload_n 0, 1) := by decide +kernel
theorem dX4_of_53 : decode cX4_of 53 = .ok (.getfield 10, 3) := by decide +kernel
theorem dX4_of_56 : decode cX4_of 56 = .ok (.getfield 129, 3) := by decide +kernel
theorem dX4_of_59 : decode cX4_of 59 = .ok (.iload_n 1, 1) := by decide +kernel
theorem dX4_of_60 : decode cX4_of 60 = .ok (.iaload, 1) := by decide +kernel
theorem dX4_of_61 : decode cX4_of 61 = .ok (.ireturn, 1) := by decide +kernel
theorem dX4_of_62 : decode cX4_of 62 = .ok (.aload_n 0, 1) := by decide +kernel
theorem dX4_of_63 : decode cX4_of 63 = .ok (.getfield 10, 3) := by decide +kernel
theorem dX4_of_66 : decode cX4_of 66 = .ok (.getfield 132, 3) := by decide +kernel
theorem dX4_of_69 : decode cX4_of 69 = .ok (.iload_n 1, 1) := by decide +kernel
theorem dX4_of_70 : decode cX4_of 70 = .ok (.iaload, 1) := by decide +kernel
theorem dX4_of_71 : decode cX4_of 71 = .ok (.ireturn, 1) := by decide +kernel
theorem dX4_of_72 : decode cX4_of 72 = .ok (.aload_n 0, 1) := by decide +kernel
theorem dX4_of_73 : decode cX4_of 73 = .ok (.getfield 10, 3) := by decide +kernel
theorem dX4_of_76 : decode cX4_of 76 = .ok (.getfield 135, 3) := by decide +kernel
theorem dX4_of_79 : decode cX4_of 79 = .ok (.iload_n 1, 1) := by decide +kernel
theorem dX4_of_80 : decode cX4_of 80 = .ok (.iaload, 1) := by decide +kernel
theorem dX4_of_81 : decode cX4_of 81 = .ok (.ireturn, 1) := by decide +kernel
theorem dX4_of_82 : decode cX4_of 82 = .ok (.aload_n 0, 1) := by decide +kernel
theorem dX4_of_83 : decode cX4_of 83 = .ok (.getfield 10, 3) := by decide +kernel
theorem dX4_of_86 : decode cX4_of 86 = .ok (.getfield 138, 3) := by decide +kernel
theorem dX4_of_89 : decode cX4_of 89 = .ok (.iload_n 1, 1) := by decide +kernel
theorem dX4_of_90 : decode cX4_of 90 = .ok (.iaload, 1) := by decide +kernel
theorem dX4_of_91 : decode cX4_of 91 = .ok (.ireturn, 1) := by decide +kernel
theorem dX4_of_92 : decode cX4_of 92 = .ok (.aload_n 0, 1) := by decide +kernel
theorem dX4_of_93 : decode cX4_of 93 = .ok (.getfield 10, 3) := by decide +kernel
theorem dX4_of_96 : decode cX4_of 96 = .ok (.getfield 91, 3) := by decide +kernel
theorem dX4_of_99 : decode cX4_of 99 = .ok (.iload_n 1, 1) := by decide +kernel
theorem dX4_of_100 : decode cX4_of 100 = .ok (.iaload, 1) := by decide +kernel
theorem dX4_of_101 : decode cX4_of 101 = .ok (.ireturn, 1) := by decide +kernel
theorem dX4_of_102 : decode cX4_of 102 = .ok (.aload_n 0, 1) := by decide +kernel
theorem dX4_of_103 : decode cX4_of 103 = .ok (.bipush (-2), 2) := by decide +kernel
theorem dX4_of_105 : decode cX4_of 105 = .ok (.invokevirtual 49, 3) := by decide +kernel
theorem dX4_of_108 : decode cX4_of 108 = .ok (.ireturn, 1) := by decide +kernel
theorem dX4_takes_0 : decode cX4_takes 0 = .ok (.aload_n 0, 1) := by decide +kernel
theorem dX4_takes_1 : decode cX4_takes 1 = .ok (.iload_n 1, 1) := by decide +kernel
theorem dX4_takes_2 : decode cX4_takes 2 = .ok (.invokevirtual 64, 3) := by decide +kernel
theorem dX4_takes_5 : decode cX4_takes 5 = .ok (.ifCond .eq 10, 3) := by decide +kernel
theorem dX4_takes_8 : decode cX4_takes 8 = .ok (.iload_n 2, 1) := by decide +kernel
theorem dX4_takes_9 : decode cX4_takes 9 = .ok (.invokestatic 74, 3) := by decide +kernel
theorem dX4_takes_12 : decode cX4_takes 12 = .ok (.ifCond .ne 10, 3) := by decide +kernel
theorem dX4_takes_15 : decode cX4_takes 15 = .ok (.aload_n 0, 1) := by decide +kernel
theorem dX4_takes_16 : decode cX4_takes 16 = .ok (.bipush (-2), 2) := by decide +kernel
theorem dX4_takes_18 : decode cX4_takes 18 = .ok (.invokevirtual 49, 3) := by decide +kernel
theorem dX4_takes_21 : decode cX4_takes 21 = .ok (.ireturn, 1) := by decide +kernel
theorem dX4_takes_22 : decode cX4_takes 22 = .ok (.aload_n 0, 1) := by decide +kernel
theorem dX4_takes_23 : decode cX4_takes 23 = .ok (.getfield 10, 3) := by decide +kernel
theorem dX4_takes_26 : decode cX4_takes 26 = .ok (.iload_n 1, 1) := by decide +kernel
theorem dX4_takes_27 : decode cX4_takes 27 = .ok (.iload_n 2, 1) := by decide +kernel
theorem dX4_takes_28 : decode cX4_takes 28 = .ok (.invokevirtual 141, 3) := by decide +kernel
theorem dX4_takes_31 : decode cX4_takes 31 = .ok (.ireturn, 1) := by decide +kernel
theorem dX4_load_0 : decode cX4_load 0 = .ok (.iload_n 1, 1) := by decide +kernel
theorem dX4_load_1 : decode cX4_load 1 = .ok (.invokestatic 46, 3) := by decide +kernel
theorem dX4_load_4 : decode cX4_load 4 = .ok (.ifCond .eq 10, 3) := by decide +kernel
theorem dX4_load_7 : decode cX4_load 7 = .ok (.iload_n 2, 1) := by decide +kernel
theorem dX4_load_8 : decode cX4_load 8 = .ok (.invokestatic 74, 3) := by decide +kernel
theorem dX4_load_11 : decode cX4_load 11 = .ok (.ifCond .ne 10, 3) := by decide +kernel
theorem dX4_load_14 : decode cX4_load 14 = .ok (.aload_n 0, 1) := by decide +kernel
theorem dX4_load_15 : decode cX4_load 15 = .ok (.bipush (-2), 2) := by decide +kernel
theorem dX4_load_17 : decode cX4_load 17 = .ok (.invokevirtual 49, 3) := by decide +kernel
theorem dX4_load_20 : decode cX4_load 20 = .ok (.ireturn, 1) := by decide +kernel
theorem dX4_load_21 : decode cX4_load 21 = .ok (.aload_n 0, 1) := by decide +kernel
theorem dX4_load_22 : decode cX4_load 22 = .ok (.getfield 10, 3) := by decide +kernel
theorem dX4_load_25 : decode cX4_load 25 = .ok (.iload_n 1, 1) := by decide +kernel
theorem dX4_load_26 : decode cX4_load 26 = .ok (.iload_n 2, 1) := by decide +kernel
theorem dX4_load_27 : decode cX4_load 27 = .ok (.invokevirtual 145, 3) := by decide +kernel
theorem dX4_load_30 : decode cX4_load 30 = .ok (.ireturn, 1) := by decide +kernel
theorem dX4_neutral_0 : decode cX4_neutral 0 = .ok (.iload_n 1, 1) := by decide +kernel
theorem dX4_neutral_1 : decode cX4_neutral 1 = .ok (.invokestatic 74, 3) := by decide +kernel
theorem dX4_neutral_4 : decode cX4_neutral 4 = .ok (.ifCond .ne 10, 3) := by decide +kernel
theorem dX4_neutral_7 : decode cX4_neutral 7 = .ok (.aload_n 0, 1) := by decide +kernel
theorem dX4_neutral_8 : decode cX4_neutral 8 = .ok (.bipush (-2), 2) := by decide +kernel
theorem dX4_neutral_10 : decode cX4_neutral 10 = .ok (.invokevirtual 49, 3) := by decide +kernel
theorem dX4_neutral_13 : decode cX4_neutral 13 = .ok (.ireturn, 1) := by decide +kernel
theorem dX4_neutral_14 : decode cX4_neutral 14 = .ok (.aload_n 0, 1) := by decide +kernel
theorem dX4_neutral_15 : decode cX4_neutral 15 = .ok (.getfield 10, 3) := by decide +kernel
theorem dX4_neutral_18 : decode cX4_neutral 18 = .ok (.iload_n 1, 1) := by decide +kernel
theorem dX4_neutral_19 : decode cX4_neutral 19 = .ok (.invokevirtual 148, 3) := by decide +kernel
theorem dX4_neutral_22 : decode cX4_neutral 22 = .ok (.ireturn, 1) := by decide +kernel
theorem dX4_grief_0 : decode cX4_grief 0 = .ok (.aload_n 0, 1) := by decide +kernel
theorem dX4_grief_1 : decode cX4_grief 1 = .ok (.getfield 10, 3) := by decide +kernel
theorem dX4_grief_4 : decode cX4_grief 4 = .ok (.invokevirtual 151, 3) := by decide +kernel
theorem dX4_grief_7 : decode cX4_grief 7 = .ok (.ireturn, 1) := by decide +kernel
theorem dX4_good_0 : decode cX4_good 0 = .ok (.iload_n 1, 1) := by decide +kernel
theorem dX4_good_1 : decode cX4_good 1 = .ok (.lookupswitch 59 #[(0, 27), (1, 43)], 27) := by decide +kernel
theorem dX4_good_28 : decode cX4_good 28 = .ok (.aload_n 0, 1) := by decide +kernel
theorem dX4_good_29 : decode cX4_good 29 = .ok (.getfield 10, 3) := by decide +kernel
theorem dX4_good_32 : decode cX4_good 32 = .ok (.invokevirtual 155, 3) := by decide +kernel
theorem dX4_good_35 : decode cX4_good 35 = .ok (.ifCond .eq 7, 3) := by decide +kernel
theorem dX4_good_38 : decode cX4_good 38 = .ok (.iconst 1, 1) := by decide +kernel
theorem dX4_good_39 : decode cX4_good 39 = .ok (.goto 4, 3) := by decide +kernel
theorem dX4_good_42 : decode cX4_good 42 = .ok (.iconst 0, 1) := by decide +kernel
theorem dX4_good_43 : decode cX4_good 43 = .ok (.ireturn, 1) := by decide +kernel
theorem dX4_good_44 : decode cX4_good 44 = .ok (.aload_n 0, 1) := by decide +kernel
theorem dX4_good_45 : decode cX4_good 45 = .ok (.getfield 10, 3) := by decide +kernel
theorem dX4_good_48 : decode cX4_good 48 = .ok (.invokevirtual 159, 3) := by decide +kernel
theorem dX4_good_51 : decode cX4_good 51 = .ok (.ifCond .eq 7, 3) := by decide +kernel
theorem dX4_good_54 : decode cX4_good 54 = .ok (.iconst 1, 1) := by decide +kernel
theorem dX4_good_55 : decode cX4_good 55 = .ok (.goto 4, 3) := by decide +kernel
theorem dX4_good_58 : decode cX4_good 58 = .ok (.iconst 0, 1) := by decide +kernel
theorem dX4_good_59 : decode cX4_good 59 = .ok (.ireturn, 1) := by decide +kernel
theorem dX4_good_60 : decode cX4_good 60 = .ok (.aload_n 0, 1) := by decide +kernel
theorem dX4_good_61 : decode cX4_good 61 = .ok (.bipush (-2), 2) := by decide +kernel
theorem dX4_good_63 : decode cX4_good 63 = .ok (.invokevirtual 49, 3) := by decide +kernel
theorem dX4_good_66 : decode cX4_good 66 = .ok (.ireturn, 1) := by decide +kernel
theorem dX4_worst_0 : decode cX4_worst 0 = .ok (.iload_n 1, 1) := by decide +kernel
theorem dX4_worst_1 : decode cX4_worst 1 = .ok (.lookupswitch 43 #[(0, 27), (1, 35)], 27) := by decide +kernel
theorem dX4_worst_28 : decode cX4_worst 28 = .ok (.aload_n 0, 1) := by decide +kernel
theorem dX4_worst_29 : decode cX4_worst 29 = .ok (.getfield 10, 3) := by decide +kernel
theorem dX4_worst_32 : decode cX4_worst 32 = .ok (.invokevirtual 162, 3) := by decide +kernel
theorem dX4_worst_35 : decode cX4_worst 35 = .ok (.ireturn, 1) := by decide +kernel
theorem dX4_worst_36 : decode cX4_worst 36 = .ok (.aload_n 0, 1) := by decide +kernel
theorem dX4_worst_37 : decode cX4_worst 37 = .ok (.getfield 10, 3) := by decide +kernel
theorem dX4_worst_40 : decode cX4_worst 40 = .ok (.invokevirtual 165, 3) := by decide +kernel
theorem dX4_worst_43 : decode cX4_worst 43 = .ok (.ireturn, 1) := by decide +kernel
theorem dX4_worst_44 : decode cX4_worst 44 = .ok (.aload_n 0, 1) := by decide +kernel
theorem dX4_worst_45 : decode cX4_worst 45 = .ok (.bipush (-2), 2) := by decide +kernel
theorem dX4_worst_47 : decode cX4_worst 47 = .ok (.invokevirtual 49, 3) := by decide +kernel
theorem dX4_worst_50 : decode cX4_worst 50 = .ok (.ireturn, 1) := by decide +kernel
theorem dX4_change_0 : decode cX4_change 0 = .ok (.aload_n 0, 1) := by decide +kernel
theorem dX4_change_1 : decode cX4_change 1 = .ok (.iload_n 1, 1) := by decide +kernel
theorem dX4_change_2 : decode cX4_change 2 = .ok (.invokevirtual 64, 3) := by decide +kernel
theorem dX4_change_5 : decode cX4_change 5 = .ok (.ifCond .eq 10, 3) := by decide +kernel
theorem dX4_change_8 : decode cX4_change 8 = .ok (.iload_n 2, 1) := by decide +kernel
theorem dX4_change_9 : decode cX4_change 9 = .ok (.invokestatic 46, 3) := by decide +kernel
theorem dX4_change_12 : decode cX4_change 12 = .ok (.ifCond .ne 10, 3) := by decide +kernel
theorem dX4_change_15 : decode cX4_change 15 = .ok (.aload_n 0, 1) := by decide +kernel
theorem dX4_change_16 : decode cX4_change 16 = .ok (.bipush (-2), 2) := by decide +kernel
theorem dX4_change_18 : decode cX4_change 18 = .ok (.invokevirtual 49, 3) := by decide +kernel
theorem dX4_change_21 : decode cX4_change 21 = .ok (.ireturn, 1) := by decide +kernel
theorem dX4_change_22 : decode cX4_change 22 = .ok (.aload_n 0, 1) := by decide +kernel
theorem dX4_change_23 : decode cX4_change 23 = .ok (.getfield 10, 3) := by decide +kernel
theorem dX4_change_26 : decode cX4_change 26 = .ok (.getfield 138, 3) := by decide +kernel
theorem dX4_change_29 : decode cX4_change 29 = .ok (.iload_n 1, 1) := by decide +kernel
theorem dX4_change_30 : decode cX4_change 30 = .ok (.iaload, 1) := by decide +kernel
theorem dX4_change_31 : decode cX4_change 31 = .ok (.iconst 1, 1) := by decide +kernel
theorem dX4_change_32 : decode cX4_change 32 = .ok (.if_icmp .ne 10, 3) := by decide +kernel
theorem dX4_change_35 : decode cX4_change 35 = .ok (.aload_n 0, 1) := by decide +kernel
theorem dX4_change_36 : decode cX4_change 36 = .ok (.bipush (-3), 2) := by decide +kernel
theorem dX4_change_38 : decode cX4_change 38 = .ok (.invokevirtual 49, 3) := by decide +kernel
theorem dX4_change_41 : decode cX4_change 41 = .ok (.ireturn, 1) := by decide +kernel
theorem dX4_change_42 : decode cX4_change 42 = .ok (.aload_n 0, 1) := by decide +kernel
theorem dX4_change_43 : decode cX4_change 43 = .ok (.invokevirtual 168, 3) := by decide +kernel
theorem dX4_change_46 : decode cX4_change 46 = .ok (.aload_n 0, 1) := by decide +kernel
theorem dX4_change_47 : decode cX4_change 47 = .ok (.getfield 10, 3) := by decide +kernel
theorem dX4_change_50 : decode cX4_change 50 = .ok (.getfield 135, 3) := by decide +kernel
theorem dX4_change_53 : decode cX4_change 53 = .ok (.iload_n 1, 1) := by decide +kernel
theorem dX4_change_54 : decode cX4_change 54 = .ok (.iaload, 1) := by decide +kernel
theorem dX4_change_55 : decode cX4_change 55 = .ok (.istore_n 3, 1) := by decide +kernel
theorem dX4_change_56 : decode cX4_change 56 = .ok (.aload_n 0, 1) := by decide +kernel
theorem dX4_change_57 : decode cX4_change 57 = .ok (.getfield 10, 3) := by decide +kernel
theorem dX4_change_60 : decode cX4_change 60 = .ok (.iload_n 1, 1) := by decide +kernel
theorem dX4_change_61 : decode cX4_change 61 = .ok (.iload_n 2, 1) := by decide +kernel
theorem dX4_change_62 : decode cX4_change 62 = .ok (.invokevirtual 171, 3) := by decide +kernel
theorem dX4_change_65 : decode cX4_change 65 = .ok (.iload_n 3, 1) := by decide +kernel
theorem dX4_change_66 : decode cX4_change 66 = .ok (.ireturn, 1) := by decide +kernel
theorem dX4_swap_0 : decode cX4_swap 0 = .ok (.aload_n 0, 1) := by decide +kernel
theorem dX4_swap_1 : decode cX4_swap 1 = .ok (.iload_n 1, 1) := by decide +kernel
theorem dX4_swap_2 : decode cX4_swap 2 = .ok (.iload_n 2, 1) := by decide +kernel
theorem dX4_swap_3 : decode cX4_swap 3 = .ok (.invokevirtual 88, 3) := by decide +kernel
theorem dX4_swap_6 : decode cX4_swap 6 = .ok (.ifCond .ne 10, 3) := by decide +kernel
theorem dX4_swap_9 : decode cX4_swap 9 = .ok (.aload_n 0, 1) := by decide +kernel
theorem dX4_swap_10 : decode cX4_swap 10 = .ok (.bipush (-2), 2) := by decide +kernel
theorem dX4_swap_12 : decode cX4_swap 12 = .ok (.invokevirtual 49, 3) := by decide +kernel
theorem dX4_swap_15 : decode cX4_swap 15 = .ok (.ireturn, 1) := by decide +kernel
theorem dX4_swap_16 : decode cX4_swap 16 = .ok (.aload_n 0, 1) := by decide +kernel
theorem dX4_swap_17 : decode cX4_swap 17 = .ok (.getfield 10, 3) := by decide +kernel
theorem dX4_swap_20 : decode cX4_swap 20 = .ok (.getfield 138, 3) := by decide +kernel
theorem dX4_swap_23 : decode cX4_swap 23 = .ok (.iload_n 1, 1) := by decide +kernel
theorem dX4_swap_24 : decode cX4_swap 24 = .ok (.iaload, 1) := by decide +kernel
theorem dX4_swap_25 : decode cX4_swap 25 = .ok (.iconst 1, 1) := by decide +kernel
theorem dX4_swap_26 : decode cX4_swap 26 = .ok (.if_icmp .eq 16, 3) := by decide +kernel
theorem dX4_swap_29 : decode cX4_swap 29 = .ok (.aload_n 0, 1) := by decide +kernel
theorem dX4_swap_30 : decode cX4_swap 30 = .ok (.getfield 10, 3) := by decide +kernel
theorem dX4_swap_33 : decode cX4_swap 33 = .ok (.getfield 138, 3) := by decide +kernel
theorem dX4_swap_36 : decode cX4_swap 36 = .ok (.iload_n 2, 1) := by decide +kernel
theorem dX4_swap_37 : decode cX4_swap 37 = .ok (.iaload, 1) := by decide +kernel
theorem dX4_swap_38 : decode cX4_swap 38 = .ok (.iconst 1, 1) := by decide +kernel
theorem dX4_swap_39 : decode cX4_swap 39 = .ok (.if_icmp .ne 10, 3) := by decide +kernel
theorem dX4_swap_42 : decode cX4_swap 42 = .ok (.aload_n 0, 1) := by decide +kernel
theorem dX4_swap_43 : decode cX4_swap 43 = .ok (.bipush (-3), 2) := by decide +kernel
theorem dX4_swap_45 : decode cX4_swap 45 = .ok (.invokevirtual 49, 3) := by decide +kernel
theorem dX4_swap_48 : decode cX4_swap 48 = .ok (.ireturn, 1) := by decide +kernel
theorem dX4_swap_49 : decode cX4_swap 49 = .ok (.aload_n 0, 1) := by decide +kernel
theorem dX4_swap_50 : decode cX4_swap 50 = .ok (.invokevirtual 168, 3) := by decide +kernel
theorem dX4_swap_53 : decode cX4_swap 53 = .ok (.aload_n 0, 1) := by decide +kernel
theorem dX4_swap_54 : decode cX4_swap 54 = .ok (.getfield 10, 3) := by decide +kernel
theorem dX4_swap_57 : decode cX4_swap 57 = .ok (.iload_n 1, 1) := by decide +kernel
theorem dX4_swap_58 : decode cX4_swap 58 = .ok (.iload_n 2, 1) := by decide +kernel
theorem dX4_swap_59 : decode cX4_swap 59 = .ok (.invokevirtual 174, 3) := by decide +kernel
theorem dX4_swap_62 : decode cX4_swap 62 = .ok (.aload_n 0, 1) := by decide +kernel
theorem dX4_swap_63 : decode cX4_swap 63 = .ok (.getfield 10, 3) := by decide +kernel
theorem dX4_swap_66 : decode cX4_swap 66 = .ok (.invokevirtual 151, 3) := by decide +kernel
theorem dX4_swap_69 : decode cX4_swap 69 = .ok (.ireturn, 1) := by decide +kernel
theorem dX4_step_0 : decode cX4_step 0 = .ok (.aload_n 0, 1) := by decide +kernel
theorem dX4_step_1 : decode cX4_step 1 = .ok (.getfield 28, 3) := by decide +kernel
theorem dX4_step_4 : decode cX4_step 4 = .ok (.invokevirtual 177, 3) := by decide +kernel
theorem dX4_step_7 : decode cX4_step 7 = .ok (.aload_n 0, 1) := by decide +kernel
theorem dX4_step_8 : decode cX4_step 8 = .ok (.getfield 28, 3) := by decide +kernel
theorem dX4_step_11 : decode cX4_step 11 = .ok (.invokevirtual 180, 3) := by decide +kernel
theorem dX4_step_14 : decode cX4_step 14 = .ok (.ifCond .ne 10, 3) := by decide +kernel
theorem dX4_step_17 : decode cX4_step 17 = .ok (.aload_n 0, 1) := by decide +kernel
theorem dX4_step_18 : decode cX4_step 18 = .ok (.bipush (-3), 2) := by decide +kernel
theorem dX4_step_20 : decode cX4_step 20 = .ok (.invokevirtual 49, 3) := by decide +kernel
theorem dX4_step_23 : decode cX4_step 23 = .ok (.ireturn, 1) := by decide +kernel
theorem dX4_step_24 : decode cX4_step 24 = .ok (.aload_n 0, 1) := by decide +kernel
theorem dX4_step_25 : decode cX4_step 25 = .ok (.invokevirtual 168, 3) := by decide +kernel
theorem dX4_step_28 : decode cX4_step 28 = .ok (.aload_n 0, 1) := by decide +kernel
theorem dX4_step_29 : decode cX4_step 29 = .ok (.getfield 28, 3) := by decide +kernel
theorem dX4_step_32 : decode cX4_step 32 = .ok (.invokevirtual 183, 3) := by decide +kernel
theorem dX4_step_35 : decode cX4_step 35 = .ok (.aload_n 0, 1) := by decide +kernel
theorem dX4_step_36 : decode cX4_step 36 = .ok (.getfield 10, 3) := by decide +kernel
theorem dX4_step_39 : decode cX4_step 39 = .ok (.invokevirtual 151, 3) := by decide +kernel
theorem dX4_step_42 : decode cX4_step 42 = .ok (.ireturn, 1) := by decide +kernel
theorem dX4_down_0 : decode cX4_down 0 = .ok (.iconst 0, 1) := by decide +kernel
theorem dX4_down_1 : decode cX4_down 1 = .ok (.istore_n 1, 1) := by decide +kernel
theorem dX4_down_2 : decode cX4_down 2 = .ok (.aload_n 0, 1) := by decide +kernel
theorem dX4_down_3 : decode cX4_down 3 = .ok (.getfield 28, 3) := by decide +kernel
theorem dX4_down_6 : decode cX4_down 6 = .ok (.invokevirtual 177, 3) := by decide +kernel
theorem dX4_down_9 : decode cX4_down 9 = .ok (.iload_n 1, 1) := by decide +kernel
theorem dX4_down_10 : decode cX4_down 10 = .ok (.sipush 19683, 3) := by decide +kernel
theorem dX4_down_13 : decode cX4_down 13 = .ok (.if_icmp .ge 41, 3) := by decide +kernel
theorem dX4_down_16 : decode cX4_down 16 = .ok (.aload_n 0, 1) := by decide +kernel
theorem dX4_down_17 : decode cX4_down 17 = .ok (.getfield 28, 3) := by decide +kernel
theorem dX4_down_20 : decode cX4_down 20 = .ok (.invokevirtual 180, 3) := by decide +kernel
theorem dX4_down_23 : decode cX4_down 23 = .ok (.ifCond .eq 31, 3) := by decide +kernel
theorem dX4_down_26 : decode cX4_down 26 = .ok (.iload_n 1, 1) := by decide +kernel
theorem dX4_down_27 : decode cX4_down 27 = .ok (.ifCond .ne 7, 3) := by decide +kernel
theorem dX4_down_30 : decode cX4_down 30 = .ok (.aload_n 0, 1) := by decide +kernel
theorem dX4_down_31 : decode cX4_down 31 = .ok (.invokevirtual 168, 3) := by decide +kernel
theorem dX4_down_34 : decode cX4_down 34 = .ok (.aload_n 0, 1) := by decide +kernel
theorem dX4_down_35 : decode cX4_down 35 = .ok (.getfield 28, 3) := by decide +kernel
theorem dX4_down_38 : decode cX4_down 38 = .ok (.invokevirtual 183, 3) := by decide +kernel
theorem dX4_down_41 : decode cX4_down 41 = .ok (.iinc 1 1, 3) := by decide +kernel
theorem dX4_down_44 : decode cX4_down 44 = .ok (.aload_n 0, 1) := by decide +kernel
theorem dX4_down_45 : decode cX4_down 45 = .ok (.getfield 28, 3) := by decide +kernel
theorem dX4_down_48 : decode cX4_down 48 = .ok (.invokevirtual 177, 3) := by decide +kernel
theorem dX4_down_51 : decode cX4_down 51 = .ok (.goto (-42), 3) := by decide +kernel
theorem dX4_down_54 : decode cX4_down 54 = .ok (.iload_n 1, 1) := by decide +kernel
theorem dX4_down_55 : decode cX4_down 55 = .ok (.ireturn, 1) := by decide +kernel
theorem dX4_lay_0 : decode cX4_lay 0 = .ok (.aload_n 0, 1) := by decide +kernel
theorem dX4_lay_1 : decode cX4_lay 1 = .ok (.getfield 21, 3) := by decide +kernel
theorem dX4_lay_4 : decode cX4_lay 4 = .ok (.bipush 9, 2) := by decide +kernel
theorem dX4_lay_6 : decode cX4_lay 6 = .ok (.invokevirtual 186, 3) := by decide +kernel
theorem dX4_lay_9 : decode cX4_lay 9 = .ok (.istore_n 1, 1) := by decide +kernel
theorem dX4_lay_10 : decode cX4_lay 10 = .ok (.iload_n 1, 1) := by decide +kernel
theorem dX4_lay_11 : decode cX4_lay 11 = .ok (.iconst (-1), 1) := by decide +kernel
theorem dX4_lay_12 : decode cX4_lay 12 = .ok (.if_icmp .ne 10, 3) := by decide +kernel
theorem dX4_lay_15 : decode cX4_lay 15 = .ok (.aload_n 0, 1) := by decide +kernel
theorem dX4_lay_16 : decode cX4_lay 16 = .ok (.bipush (-3), 2) := by decide +kernel
theorem dX4_lay_18 : decode cX4_lay 18 = .ok (.invokevirtual 49, 3) := by decide +kernel
theorem dX4_lay_21 : decode cX4_lay 21 = .ok (.ireturn, 1) := by decide +kernel
theorem dX4_lay_22 : decode cX4_lay 22 = .ok (.aload_n 0, 1) := by decide +kernel
theorem dX4_lay_23 : decode cX4_lay 23 = .ok (.getfield 21, 3) := by decide +kernel
theorem dX4_lay_26 : decode cX4_lay 26 = .ok (.getfield 189, 3) := by decide +kernel
theorem dX4_lay_29 : decode cX4_lay 29 = .ok (.iload_n 1, 1) := by decide +kernel
theorem dX4_lay_30 : decode cX4_lay 30 = .ok (.iaload, 1) := by decide +kernel
theorem dX4_lay_31 : decode cX4_lay 31 = .ok (.istore_n 2, 1) := by decide +kernel
theorem dX4_lay_32 : decode cX4_lay 32 = .ok (.aload_n 0, 1) := by decide +kernel
theorem dX4_lay_33 : decode cX4_lay 33 = .ok (.invokevirtual 168, 3) := by decide +kernel
theorem dX4_lay_36 : decode cX4_lay 36 = .ok (.aload_n 0, 1) := by decide +kernel
theorem dX4_lay_37 : decode cX4_lay 37 = .ok (.getfield 10, 3) := by decide +kernel
theorem dX4_lay_40 : decode cX4_lay 40 = .ok (.iload_n 2, 1) := by decide +kernel
theorem dX4_lay_41 : decode cX4_lay 41 = .ok (.invokevirtual 192, 3) := by decide +kernel
theorem dX4_lay_44 : decode cX4_lay 44 = .ok (.iload_n 1, 1) := by decide +kernel
theorem dX4_lay_45 : decode cX4_lay 45 = .ok (.ireturn, 1) := by decide +kernel
theorem dX4_undo_0 : decode cX4_undo 0 = .ok (.aload_n 0, 1) := by decide +kernel
theorem dX4_undo_1 : decode cX4_undo 1 = .ok (.getfield 35, 3) := by decide +kernel
theorem dX4_undo_4 : decode cX4_undo 4 = .ok (.getfield 196, 3) := by decide +kernel
theorem dX4_undo_7 : decode cX4_undo 7 = .ok (.ifCond .ne 10, 3) := by decide +kernel
theorem dX4_undo_10 : decode cX4_undo 10 = .ok (.aload_n 0, 1) := by decide +kernel
theorem dX4_undo_11 : decode cX4_undo 11 = .ok (.bipush (-3), 2) := by decide +kernel
theorem dX4_undo_13 : decode cX4_undo 13 = .ok (.invokevirtual 49, 3) := by decide +kernel
theorem dX4_undo_16 : decode cX4_undo 16 = .ok (.ireturn, 1) := by decide +kernel
theorem dX4_undo_17 : decode cX4_undo 17 = .ok (.aload_n 0, 1) := by decide +kernel
theorem dX4_undo_18 : decode cX4_undo 18 = .ok (.getfield 10, 3) := by decide +kernel
theorem dX4_undo_21 : decode cX4_undo 21 = .ok (.aload_n 0, 1) := by decide +kernel
theorem dX4_undo_22 : decode cX4_undo 22 = .ok (.getfield 35, 3) := by decide +kernel
theorem dX4_undo_25 : decode cX4_undo 25 = .ok (.invokevirtual 199, 3) := by decide +kernel
theorem dX4_undo_28 : decode cX4_undo 28 = .ok (.invokevirtual 192, 3) := by decide +kernel
theorem dX4_undo_31 : decode cX4_undo 31 = .ok (.aload_n 0, 1) := by decide +kernel
theorem dX4_undo_32 : decode cX4_undo 32 = .ok (.getfield 21, 3) := by decide +kernel
theorem dX4_undo_35 : decode cX4_undo 35 = .ok (.invokevirtual 202, 3) := by decide +kernel
theorem dX4_undo_38 : decode cX4_undo 38 = .ok (.aload_n 0, 1) := by decide +kernel
theorem dX4_undo_39 : decode cX4_undo 39 = .ok (.getfield 35, 3) := by decide +kernel
theorem dX4_undo_42 : decode cX4_undo 42 = .ok (.getfield 196, 3) := by decide +kernel
theorem dX4_undo_45 : decode cX4_undo 45 = .ok (.ireturn, 1) := by decide +kernel
theorem dX4_best_0 : decode cX4_best 0 = .ok (.iload_n 1, 1) := by decide +kernel
theorem dX4_best_1 : decode cX4_best 1 = .ok (.iconst 0, 1) := by decide +kernel
theorem dX4_best_2 : decode cX4_best 2 = .ok (.iconst 2, 1) := by decide +kernel
theorem dX4_best_3 : decode cX4_best 3 = .ok (.invokestatic 77, 3) := by decide +kernel
theorem dX4_best_6 : decode cX4_best 6 = .ok (.ifCond .ne 10, 3) := by decide +kernel
theorem dX4_best_9 : decode cX4_best 9 = .ok (.aload_n 0, 1) := by decide +kernel
theorem dX4_best_10 : decode cX4_best 10 = .ok (.bipush (-2), 2) := by decide +kernel
theorem dX4_best_12 : decode cX4_best 12 = .ok (.invokevirtual 49, 3) := by decide +kernel
theorem dX4_best_15 : decode cX4_best 15 = .ok (.ireturn, 1) := by decide +kernel
theorem dX4_best_16 : decode cX4_best 16 = .ok (.aload_n 0, 1) := by decide +kernel
theorem dX4_best_17 : decode cX4_best 17 = .ok (.getfield 21, 3) := by decide +kernel
theorem dX4_best_20 : decode cX4_best 20 = .ok (.bipush 9, 2) := by decide +kernel
theorem dX4_best_22 : decode cX4_best 22 = .ok (.invokevirtual 186, 3) := by decide +kernel
theorem dX4_best_25 : decode cX4_best 25 = .ok (.istore_n 2, 1) := by decide +kernel
theorem dX4_best_26 : decode cX4_best 26 = .ok (.iload_n 2, 1) := by decide +kernel
theorem dX4_best_27 : decode cX4_best 27 = .ok (.iconst (-1), 1) := by decide +kernel
theorem dX4_best_28 : decode cX4_best 28 = .ok (.if_icmp .ne 10, 3) := by decide +kernel
theorem dX4_best_31 : decode cX4_best 31 = .ok (.aload_n 0, 1) := by decide +kernel
theorem dX4_best_32 : decode cX4_best 32 = .ok (.bipush (-3), 2) := by decide +kernel
theorem dX4_best_34 : decode cX4_best 34 = .ok (.invokevirtual 49, 3) := by decide +kernel
theorem dX4_best_37 : decode cX4_best 37 = .ok (.ireturn, 1) := by decide +kernel
theorem dX4_best_38 : decode cX4_best 38 = .ok (.iload_n 1, 1) := by decide +kernel
theorem dX4_best_39 : decode cX4_best 39 = .ok (.lookupswitch 37 #[(0, 25), (1, 35)], 25) := by decide +kernel
theorem dX4_best_64 : decode cX4_best 64 = .ok (.aload_n 0, 1) := by decide +kernel
theorem dX4_best_65 : decode cX4_best 65 = .ok (.getfield 21, 3) := by decide +kernel
theorem dX4_best_68 : decode cX4_best 68 = .ok (.getfield 205, 3) := by decide +kernel
theorem dX4_best_71 : decode cX4_best 71 = .ok (.iload_n 2, 1) := by decide +kernel
theorem dX4_best_72 : decode cX4_best 72 = .ok (.iaload, 1) := by decide +kernel
theorem dX4_best_73 : decode cX4_best 73 = .ok (.ireturn, 1) := by decide +kernel
theorem dX4_best_74 : decode cX4_best 74 = .ok (.iload_n 2, 1) := by decide +kernel
theorem dX4_best_75 : decode cX4_best 75 = .ok (.ireturn, 1) := by decide +kernel
theorem dX4_best_76 : decode cX4_best 76 = .ok (.aload_n 0, 1) := by decide +kernel
theorem dX4_best_77 : decode cX4_best 77 = .ok (.getfield 21, 3) := by decide +kernel
theorem dX4_best_80 : decode cX4_best 80 = .ok (.getfield 208, 3) := by decide +kernel
theorem dX4_best_83 : decode cX4_best 83 = .ok (.ireturn, 1) := by decide +kernel
theorem dX4_phase_0 : decode cX4_phase 0 = .ok (.aload_n 0, 1) := by decide +kernel
theorem dX4_phase_1 : decode cX4_phase 1 = .ok (.iload_n 1, 1) := by decide +kernel
theorem dX4_phase_2 : decode cX4_phase 2 = .ok (.invokevirtual 64, 3) := by decide +kernel
theorem dX4_phase_5 : decode cX4_phase 5 = .ok (.ifCond .ne 10, 3) := by decide +kernel
theorem dX4_phase_8 : decode cX4_phase 8 = .ok (.aload_n 0, 1) := by decide +kernel
theorem dX4_phase_9 : decode cX4_phase 9 = .ok (.bipush (-2), 2) := by decide +kernel
theorem dX4_phase_11 : decode cX4_phase 11 = .ok (.invokevirtual 49, 3) := by decide +kernel
theorem dX4_phase_14 : decode cX4_phase 14 = .ok (.ireturn, 1) := by decide +kernel
theorem dX4_phase_15 : decode cX4_phase 15 = .ok (.aload_n 0, 1) := by decide +kernel
theorem dX4_phase_16 : decode cX4_phase 16 = .ok (.getfield 21, 3) := by decide +kernel
theorem dX4_phase_19 : decode cX4_phase 19 = .ok (.bipush 9, 2) := by decide +kernel
theorem dX4_phase_21 : decode cX4_phase 21 = .ok (.invokevirtual 186, 3) := by decide +kernel
theorem dX4_phase_24 : decode cX4_phase 24 = .ok (.istore_n 2, 1) := by decide +kernel
theorem dX4_phase_25 : decode cX4_phase 25 = .ok (.iload_n 2, 1) := by decide +kernel
theorem dX4_phase_26 : decode cX4_phase 26 = .ok (.iconst (-1), 1) := by decide +kernel
theorem dX4_phase_27 : decode cX4_phase 27 = .ok (.if_icmp .ne 10, 3) := by decide +kernel
theorem dX4_phase_30 : decode cX4_phase 30 = .ok (.aload_n 0, 1) := by decide +kernel
theorem dX4_phase_31 : decode cX4_phase 31 = .ok (.bipush (-3), 2) := by decide +kernel
theorem dX4_phase_33 : decode cX4_phase 33 = .ok (.invokevirtual 49, 3) := by decide +kernel
theorem dX4_phase_36 : decode cX4_phase 36 = .ok (.ireturn, 1) := by decide +kernel
theorem dX4_phase_37 : decode cX4_phase 37 = .ok (.aload_n 0, 1) := by decide +kernel
theorem dX4_phase_38 : decode cX4_phase 38 = .ok (.getfield 21, 3) := by decide +kernel
theorem dX4_phase_41 : decode cX4_phase 41 = .ok (.getfield 189, 3) := by decide +kernel
theorem dX4_phase_44 : decode cX4_phase 44 = .ok (.iload_n 2, 1) := by decide +kernel
theorem dX4_phase_45 : decode cX4_phase 45 = .ok (.iaload, 1) := by decide +kernel
theorem dX4_phase_46 : decode cX4_phase 46 = .ok (.iload_n 1, 1) := by decide +kernel
theorem dX4_phase_47 : decode cX4_phase 47 = .ok (.invokestatic 211, 3) := by decide +kernel
theorem dX4_phase_50 : decode cX4_phase 50 = .ok (.ireturn, 1) := by decide +kernel
theorem dX4_by_0 : decode cX4_by 0 = .ok (.iload_n 1, 1) := by decide +kernel
theorem dX4_by_1 : decode cX4_by 1 = .ok (.iconst 0, 1) := by decide +kernel
theorem dX4_by_2 : decode cX4_by 2 = .ok (.bipush 9, 2) := by decide +kernel
theorem dX4_by_4 : decode cX4_by 4 = .ok (.invokestatic 77, 3) := by decide +kernel
theorem dX4_by_7 : decode cX4_by 7 = .ok (.ifCond .ne 10, 3) := by decide +kernel
theorem dX4_by_10 : decode cX4_by 10 = .ok (.aload_n 0, 1) := by decide +kernel
theorem dX4_by_11 : decode cX4_by 11 = .ok (.bipush (-2), 2) := by decide +kernel
theorem dX4_by_13 : decode cX4_by 13 = .ok (.invokevirtual 49, 3) := by decide +kernel
theorem dX4_by_16 : decode cX4_by 16 = .ok (.ireturn, 1) := by decide +kernel
theorem dX4_by_17 : decode cX4_by 17 = .ok (.aload_n 0, 1) := by decide +kernel
theorem dX4_by_18 : decode cX4_by 18 = .ok (.getfield 21, 3) := by decide +kernel
theorem dX4_by_21 : decode cX4_by 21 = .ok (.iload_n 1, 1) := by decide +kernel
theorem dX4_by_22 : decode cX4_by 22 = .ok (.invokevirtual 186, 3) := by decide +kernel
theorem dX4_by_25 : decode cX4_by 25 = .ok (.istore_n 2, 1) := by decide +kernel
theorem dX4_by_26 : decode cX4_by 26 = .ok (.iload_n 2, 1) := by decide +kernel
theorem dX4_by_27 : decode cX4_by 27 = .ok (.iconst (-1), 1) := by decide +kernel
theorem dX4_by_28 : decode cX4_by 28 = .ok (.if_icmp .ne 10, 3) := by decide +kernel
theorem dX4_by_31 : decode cX4_by 31 = .ok (.aload_n 0, 1) := by decide +kernel
theorem dX4_by_32 : decode cX4_by 32 = .ok (.bipush (-3), 2) := by decide +kernel
theorem dX4_by_34 : decode cX4_by 34 = .ok (.invokevirtual 49, 3) := by decide +kernel
theorem dX4_by_37 : decode cX4_by 37 = .ok (.ireturn, 1) := by decide +kernel
theorem dX4_by_38 : decode cX4_by 38 = .ok (.aload_n 0, 1) := by decide +kernel
theorem dX4_by_39 : decode cX4_by 39 = .ok (.getfield 21, 3) := by decide +kernel
theorem dX4_by_42 : decode cX4_by 42 = .ok (.getfield 205, 3) := by decide +kernel
theorem dX4_by_45 : decode cX4_by 45 = .ok (.iload_n 2, 1) := by decide +kernel
theorem dX4_by_46 : decode cX4_by 46 = .ok (.iaload, 1) := by decide +kernel
theorem dX4_by_47 : decode cX4_by 47 = .ok (.ireturn, 1) := by decide +kernel
theorem dX4_fewest_0 : decode cX4_fewest 0 = .ok (.iload_n 1, 1) := by decide +kernel
theorem dX4_fewest_1 : decode cX4_fewest 1 = .ok (.ifCond .ge 10, 3) := by decide +kernel
theorem dX4_fewest_4 : decode cX4_fewest 4 = .ok (.aload_n 0, 1) := by decide +kernel
theorem dX4_fewest_5 : decode cX4_fewest 5 = .ok (.bipush (-2), 2) := by decide +kernel
theorem dX4_fewest_7 : decode cX4_fewest 7 = .ok (.invokevirtual 49, 3) := by decide +kernel
theorem dX4_fewest_10 : decode cX4_fewest 10 = .ok (.ireturn, 1) := by decide +kernel
theorem dX4_fewest_11 : decode cX4_fewest 11 = .ok (.aload_n 0, 1) := by decide +kernel
theorem dX4_fewest_12 : decode cX4_fewest 12 = .ok (.getfield 21, 3) := by decide +kernel
theorem dX4_fewest_15 : decode cX4_fewest 15 = .ok (.iload_n 1, 1) := by decide +kernel
theorem dX4_fewest_16 : decode cX4_fewest 16 = .ok (.invokevirtual 214, 3) := by decide +kernel
theorem dX4_fewest_19 : decode cX4_fewest 19 = .ok (.ireturn, 1) := by decide +kernel
theorem dX4_many_0 : decode cX4_many 0 = .ok (.aload_n 0, 1) := by decide +kernel
theorem dX4_many_1 : decode cX4_many 1 = .ok (.getfield 21, 3) := by decide +kernel
theorem dX4_many_4 : decode cX4_many 4 = .ok (.invokevirtual 217, 3) := by decide +kernel
theorem dX4_many_7 : decode cX4_many 7 = .ok (.ireturn, 1) := by decide +kernel
theorem dX4_next_0 : decode cX4_next 0 = .ok (.iload_n 1, 1) := by decide +kernel
theorem dX4_next_1 : decode cX4_next 1 = .ok (.iconst 0, 1) := by decide +kernel
theorem dX4_next_2 : decode cX4_next 2 = .ok (.iconst 3, 1) := by decide +kernel
theorem dX4_next_3 : decode cX4_next 3 = .ok (.invokestatic 77, 3) := by decide +kernel
theorem dX4_next_6 : decode cX4_next 6 = .ok (.ifCond .ne 10, 3) := by decide +kernel
theorem dX4_next_9 : decode cX4_next 9 = .ok (.aload_n 0, 1) := by decide +kernel
theorem dX4_next_10 : decode cX4_next 10 = .ok (.bipush (-2), 2) := by decide +kernel
theorem dX4_next_12 : decode cX4_next 12 = .ok (.invokevirtual 49, 3) := by decide +kernel
theorem dX4_next_15 : decode cX4_next 15 = .ok (.ireturn, 1) := by decide +kernel
theorem dX4_next_16 : decode cX4_next 16 = .ok (.aload_n 0, 1) := by decide +kernel
theorem dX4_next_17 : decode cX4_next 17 = .ok (.getfield 28, 3) := by decide +kernel
theorem dX4_next_20 : decode cX4_next 20 = .ok (.invokevirtual 177, 3) := by decide +kernel
theorem dX4_next_23 : decode cX4_next 23 = .ok (.aload_n 0, 1) := by decide +kernel
theorem dX4_next_24 : decode cX4_next 24 = .ok (.getfield 28, 3) := by decide +kernel
theorem dX4_next_27 : decode cX4_next 27 = .ok (.getfield 220, 3) := by decide +kernel
theorem dX4_next_30 : decode cX4_next 30 = .ok (.ifCond .ne 10, 3) := by decide +kernel
theorem dX4_next_33 : decode cX4_next 33 = .ok (.aload_n 0, 1) := by decide +kernel
theorem dX4_next_34 : decode cX4_next 34 = .ok (.bipush (-3), 2) := by decide +kernel
theorem dX4_next_36 : decode cX4_next 36 = .ok (.invokevirtual 49, 3) := by decide +kernel
theorem dX4_next_39 : decode cX4_next 39 = .ok (.ireturn, 1) := by decide +kernel
theorem dX4_next_40 : decode cX4_next 40 = .ok (.iload_n 1, 1) := by decide +kernel
theorem dX4_next_41 : decode cX4_next 41 = .ok (.tableswitch 51 0 2 #[27, 35, 43], 27) := by decide +kernel
theorem dX4_next_68 : decode cX4_next 68 = .ok (.aload_n 0, 1) := by decide +kernel
theorem dX4_next_69 : decode cX4_next 69 = .ok (.getfield 28, 3) := by decide +kernel
theorem dX4_next_72 : decode cX4_next 72 = .ok (.getfield 224, 3) := by decide +kernel
theorem dX4_next_75 : decode cX4_next 75 = .ok (.ireturn, 1) := by decide +kernel
theorem dX4_next_76 : decode cX4_next 76 = .ok (.aload_n 0, 1) := by decide +kernel
theorem dX4_next_77 : decode cX4_next 77 = .ok (.getfield 28, 3) := by decide +kernel
theorem dX4_next_80 : decode cX4_next 80 = .ok (.getfield 227, 3) := by decide +kernel
theorem dX4_next_83 : decode cX4_next 83 = .ok (.ireturn, 1) := by decide +kernel
theorem dX4_next_84 : decode cX4_next 84 = .ok (.aload_n 0, 1) := by decide +kernel
theorem dX4_next_85 : decode cX4_next 85 = .ok (.getfield 28, 3) := by decide +kernel
theorem dX4_next_88 : decode cX4_next 88 = .ok (.getfield 230, 3) := by decide +kernel
theorem dX4_next_91 : decode cX4_next 91 = .ok (.ireturn, 1) := by decide +kernel
theorem dX4_next_92 : decode cX4_next 92 = .ok (.aload_n 0, 1) := by decide +kernel
theorem dX4_next_93 : decode cX4_next 93 = .ok (.getfield 28, 3) := by decide +kernel
theorem dX4_next_96 : decode cX4_next 96 = .ok (.getfield 233, 3) := by decide +kernel
theorem dX4_next_99 : decode cX4_next 99 = .ok (.ireturn, 1) := by decide +kernel
theorem dX4_told_0 : decode cX4_told 0 = .ok (.iload_n 1, 1) := by decide +kernel
theorem dX4_told_1 : decode cX4_told 1 = .ok (.iconst 0, 1) := by decide +kernel
theorem dX4_told_2 : decode cX4_told 2 = .ok (.bipush 7, 2) := by decide +kernel
theorem dX4_told_4 : decode cX4_told 4 = .ok (.invokestatic 77, 3) := by decide +kernel
theorem dX4_told_7 : decode cX4_told 7 = .ok (.ifCond .eq 11, 3) := by decide +kernel
theorem dX4_told_10 : decode cX4_told 10 = .ok (.aload_n 0, 1) := by decide +kernel
theorem dX4_told_11 : decode cX4_told 11 = .ok (.iload_n 1, 1) := by decide +kernel
theorem dX4_told_12 : decode cX4_told 12 = .ok (.invokevirtual 236, 3) := by decide +kernel
theorem dX4_told_15 : decode cX4_told 15 = .ok (.goto 9, 3) := by decide +kernel
theorem dX4_told_18 : decode cX4_told 18 = .ok (.aload_n 0, 1) := by decide +kernel
theorem dX4_told_19 : decode cX4_told 19 = .ok (.bipush (-2), 2) := by decide +kernel
theorem dX4_told_21 : decode cX4_told 21 = .ok (.invokevirtual 49, 3) := by decide +kernel
theorem dX4_told_24 : decode cX4_told 24 = .ok (.ireturn, 1) := by decide +kernel
theorem dX4_digest_0 : decode cX4_digest 0 = .ok (.ldc2_w 239, 3) := by decide +kernel
theorem dX4_digest_3 : decode cX4_digest 3 = .ok (.lstore_n 1, 1) := by decide +kernel
theorem dX4_digest_4 : decode cX4_digest 4 = .ok (.iconst 0, 1) := by decide +kernel
theorem dX4_digest_5 : decode cX4_digest 5 = .ok (.istore_n 3, 1) := by decide +kernel
theorem dX4_digest_6 : decode cX4_digest 6 = .ok (.iload_n 3, 1) := by decide +kernel
theorem dX4_digest_7 : decode cX4_digest 7 = .ok (.bipush 7, 2) := by decide +kernel
theorem dX4_digest_9 : decode cX4_digest 9 = .ok (.if_icmp .gt 22, 3) := by decide +kernel
theorem dX4_digest_12 : decode cX4_digest 12 = .ok (.ldc2_w 241, 3) := by decide +kernel
theorem dX4_digest_15 : decode cX4_digest 15 = .ok (.lload_n 1, 1) := by decide +kernel
theorem dX4_digest_16 : decode cX4_digest 16 = .ok (.lmul, 1) := by decide +kernel
theorem dX4_digest_17 : decode cX4_digest 17 = .ok (.aload_n 0, 1) := by decide +kernel
theorem dX4_digest_18 : decode cX4_digest 18 = .ok (.iload_n 3, 1) := by decide +kernel
theorem dX4_digest_19 : decode cX4_digest 19 = .ok (.invokevirtual 236, 3) := by decide +kernel
theorem dX4_digest_22 : decode cX4_digest 22 = .ok (.i2l, 1) := by decide +kernel
theorem dX4_digest_23 : decode cX4_digest 23 = .ok (.ladd, 1) := by decide +kernel
theorem dX4_digest_24 : decode cX4_digest 24 = .ok (.lstore_n 1, 1) := by decide +kernel
theorem dX4_digest_25 : decode cX4_digest 25 = .ok (.iinc 3 1, 3) := by decide +kernel
theorem dX4_digest_28 : decode cX4_digest 28 = .ok (.goto (-22), 3) := by decide +kernel
theorem dX4_digest_31 : decode cX4_digest 31 = .ok (.iconst 0, 1) := by decide +kernel
theorem dX4_digest_32 : decode cX4_digest 32 = .ok (.istore_n 3, 1) := by decide +kernel
theorem dX4_digest_33 : decode cX4_digest 33 = .ok (.iload_n 3, 1) := by decide +kernel
theorem dX4_digest_34 : decode cX4_digest 34 = .ok (.aload_n 0, 1) := by decide +kernel
theorem dX4_digest_35 : decode cX4_digest 35 = .ok (.getfield 10, 3) := by decide +kernel
theorem dX4_digest_38 : decode cX4_digest 38 = .ok (.getfield 53, 3) := by decide +kernel
theorem dX4_digest_41 : decode cX4_digest 41 = .ok (.if_icmp .ge 60, 3) := by decide +kernel
theorem dX4_digest_44 : decode cX4_digest 44 = .ok (.ldc2_w 241, 3) := by decide +kernel
theorem dX4_digest_47 : decode cX4_digest 47 = .ok (.lload_n 1, 1) := by decide +kernel
theorem dX4_digest_48 : decode cX4_digest 48 = .ok (.lmul, 1) := by decide +kernel
theorem dX4_digest_49 : decode cX4_digest 49 = .ok (.aload_n 0, 1) := by decide +kernel
theorem dX4_digest_50 : decode cX4_digest 50 = .ok (.getfield 10, 3) := by decide +kernel
theorem dX4_digest_53 : decode cX4_digest 53 = .ok (.getfield 129, 3) := by decide +kernel
theorem dX4_digest_56 : decode cX4_digest 56 = .ok (.iload_n 3, 1) := by decide +kernel
theorem dX4_digest_57 : decode cX4_digest 57 = .ok (.iaload, 1) := by decide +kernel
theorem dX4_digest_58 : decode cX4_digest 58 = .ok (.i2l, 1) := by decide +kernel
theorem dX4_digest_59 : decode cX4_digest 59 = .ok (.ladd, 1) := by decide +kernel
theorem dX4_digest_60 : decode cX4_digest 60 = .ok (.lstore_n 1, 1) := by decide +kernel
theorem dX4_digest_61 : decode cX4_digest 61 = .ok (.ldc2_w 241, 3) := by decide +kernel
theorem dX4_digest_64 : decode cX4_digest 64 = .ok (.lload_n 1, 1) := by decide +kernel
theorem dX4_digest_65 : decode cX4_digest 65 = .ok (.lmul, 1) := by decide +kernel
theorem dX4_digest_66 : decode cX4_digest 66 = .ok (.aload_n 0, 1) := by decide +kernel
theorem dX4_digest_67 : decode cX4_digest 67 = .ok (.getfield 10, 3) := by decide +kernel
theorem dX4_digest_70 : decode cX4_digest 70 = .ok (.getfield 132, 3) := by decide +kernel
theorem dX4_digest_73 : decode cX4_digest 73 = .ok (.iload_n 3, 1) := by decide +kernel
theorem dX4_digest_74 : decode cX4_digest 74 = .ok (.iaload, 1) := by decide +kernel
theorem dX4_digest_75 : decode cX4_digest 75 = .ok (.i2l, 1) := by decide +kernel
theorem dX4_digest_76 : decode cX4_digest 76 = .ok (.ladd, 1) := by decide +kernel
theorem dX4_digest_77 : decode cX4_digest 77 = .ok (.lstore_n 1, 1) := by decide +kernel
theorem dX4_digest_78 : decode cX4_digest 78 = .ok (.ldc2_w 241, 3) := by decide +kernel
theorem dX4_digest_81 : decode cX4_digest 81 = .ok (.lload_n 1, 1) := by decide +kernel
theorem dX4_digest_82 : decode cX4_digest 82 = .ok (.lmul, 1) := by decide +kernel
theorem dX4_digest_83 : decode cX4_digest 83 = .ok (.aload_n 0, 1) := by decide +kernel
theorem dX4_digest_84 : decode cX4_digest 84 = .ok (.getfield 10, 3) := by decide +kernel
theorem dX4_digest_87 : decode cX4_digest 87 = .ok (.getfield 135, 3) := by decide +kernel
theorem dX4_digest_90 : decode cX4_digest 90 = .ok (.iload_n 3, 1) := by decide +kernel
theorem dX4_digest_91 : decode cX4_digest 91 = .ok (.iaload, 1) := by decide +kernel
theorem dX4_digest_92 : decode cX4_digest 92 = .ok (.i2l, 1) := by decide +kernel
theorem dX4_digest_93 : decode cX4_digest 93 = .ok (.ladd, 1) := by decide +kernel
theorem dX4_digest_94 : decode cX4_digest 94 = .ok (.lstore_n 1, 1) := by decide +kernel
theorem dX4_digest_95 : decode cX4_digest 95 = .ok (.iinc 3 1, 3) := by decide +kernel
theorem dX4_digest_98 : decode cX4_digest 98 = .ok (.goto (-65), 3) := by decide +kernel
theorem dX4_digest_101 : decode cX4_digest 101 = .ok (.iconst 0, 1) := by decide +kernel
theorem dX4_digest_102 : decode cX4_digest 102 = .ok (.istore_n 3, 1) := by decide +kernel
theorem dX4_digest_103 : decode cX4_digest 103 = .ok (.iload_n 3, 1) := by decide +kernel
theorem dX4_digest_104 : decode cX4_digest 104 = .ok (.bipush 6, 2) := by decide +kernel
theorem dX4_digest_106 : decode cX4_digest 106 = .ok (.if_icmp .ge 26, 3) := by decide +kernel
theorem dX4_digest_109 : decode cX4_digest 109 = .ok (.ldc2_w 241, 3) := by decide +kernel
theorem dX4_digest_112 : decode cX4_digest 112 = .ok (.lload_n 1, 1) := by decide +kernel
theorem dX4_digest_113 : decode cX4_digest 113 = .ok (.lmul, 1) := by decide +kernel
theorem dX4_digest_114 : decode cX4_digest 114 = .ok (.aload_n 0, 1) := by decide +kernel
theorem dX4_digest_115 : decode cX4_digest 115 = .ok (.getfield 10, 3) := by decide +kernel
theorem dX4_digest_118 : decode cX4_digest 118 = .ok (.getfield 81, 3) := by decide +kernel
theorem dX4_digest_121 : decode cX4_digest 121 = .ok (.iload_n 3, 1) := by decide +kernel
theorem dX4_digest_122 : decode cX4_digest 122 = .ok (.iaload, 1) := by decide +kernel
theorem dX4_digest_123 : decode cX4_digest 123 = .ok (.i2l, 1) := by decide +kernel
theorem dX4_digest_124 : decode cX4_digest 124 = .ok (.ladd, 1) := by decide +kernel
theorem dX4_digest_125 : decode cX4_digest 125 = .ok (.lstore_n 1, 1) := by decide +kernel
theorem dX4_digest_126 : decode cX4_digest 126 = .ok (.iinc 3 1, 3) := by decide +kernel
theorem dX4_digest_129 : decode cX4_digest 129 = .ok (.goto (-26), 3) := by decide +kernel
theorem dX4_digest_132 : decode cX4_digest 132 = .ok (.iconst 0, 1) := by decide +kernel
theorem dX4_digest_133 : decode cX4_digest 133 = .ok (.istore_n 3, 1) := by decide +kernel
theorem dX4_digest_134 : decode cX4_digest 134 = .ok (.iload_n 3, 1) := by decide +kernel
theorem dX4_digest_135 : decode cX4_digest 135 = .ok (.aload_n 0, 1) := by decide +kernel
theorem dX4_digest_136 : decode cX4_digest 136 = .ok (.getfield 10, 3) := by decide +kernel
theorem dX4_digest_139 : decode cX4_digest 139 = .ok (.getfield 94, 3) := by decide +kernel
theorem dX4_digest_142 : decode cX4_digest 142 = .ok (.if_icmp .ge 43, 3) := by decide +kernel
theorem dX4_digest_145 : decode cX4_digest 145 = .ok (.ldc2_w 241, 3) := by decide +kernel
theorem dX4_digest_148 : decode cX4_digest 148 = .ok (.lload_n 1, 1) := by decide +kernel
theorem dX4_digest_149 : decode cX4_digest 149 = .ok (.lmul, 1) := by decide +kernel
theorem dX4_digest_150 : decode cX4_digest 150 = .ok (.aload_n 0, 1) := by decide +kernel
theorem dX4_digest_151 : decode cX4_digest 151 = .ok (.getfield 10, 3) := by decide +kernel
theorem dX4_digest_154 : decode cX4_digest 154 = .ok (.getfield 243, 3) := by decide +kernel
theorem dX4_digest_157 : decode cX4_digest 157 = .ok (.iload_n 3, 1) := by decide +kernel
theorem dX4_digest_158 : decode cX4_digest 158 = .ok (.iaload, 1) := by decide +kernel
theorem dX4_digest_159 : decode cX4_digest 159 = .ok (.i2l, 1) := by decide +kernel
theorem dX4_digest_160 : decode cX4_digest 160 = .ok (.ladd, 1) := by decide +kernel
theorem dX4_digest_161 : decode cX4_digest 161 = .ok (.lstore_n 1, 1) := by decide +kernel
theorem dX4_digest_162 : decode cX4_digest 162 = .ok (.ldc2_w 241, 3) := by decide +kernel
theorem dX4_digest_165 : decode cX4_digest 165 = .ok (.lload_n 1, 1) := by decide +kernel
theorem dX4_digest_166 : decode cX4_digest 166 = .ok (.lmul, 1) := by decide +kernel
theorem dX4_digest_167 : decode cX4_digest 167 = .ok (.aload_n 0, 1) := by decide +kernel
theorem dX4_digest_168 : decode cX4_digest 168 = .ok (.getfield 10, 3) := by decide +kernel
theorem dX4_digest_171 : decode cX4_digest 171 = .ok (.getfield 246, 3) := by decide +kernel
theorem dX4_digest_174 : decode cX4_digest 174 = .ok (.iload_n 3, 1) := by decide +kernel
theorem dX4_digest_175 : decode cX4_digest 175 = .ok (.iaload, 1) := by decide +kernel
theorem dX4_digest_176 : decode cX4_digest 176 = .ok (.i2l, 1) := by decide +kernel
theorem dX4_digest_177 : decode cX4_digest 177 = .ok (.ladd, 1) := by decide +kernel
theorem dX4_digest_178 : decode cX4_digest 178 = .ok (.lstore_n 1, 1) := by decide +kernel
theorem dX4_digest_179 : decode cX4_digest 179 = .ok (.iinc 3 1, 3) := by decide +kernel
theorem dX4_digest_182 : decode cX4_digest 182 = .ok (.goto (-48), 3) := by decide +kernel
theorem dX4_digest_185 : decode cX4_digest 185 = .ok (.ldc2_w 241, 3) := by decide +kernel
theorem dX4_digest_188 : decode cX4_digest 188 = .ok (.lload_n 1, 1) := by decide +kernel
theorem dX4_digest_189 : decode cX4_digest 189 = .ok (.lmul, 1) := by decide +kernel
theorem dX4_digest_190 : decode cX4_digest 190 = .ok (.aload_n 0, 1) := by decide +kernel
theorem dX4_digest_191 : decode cX4_digest 191 = .ok (.getfield 10, 3) := by decide +kernel
theorem dX4_digest_194 : decode cX4_digest 194 = .ok (.invokevirtual 151, 3) := by decide +kernel
theorem dX4_digest_197 : decode cX4_digest 197 = .ok (.i2l, 1) := by decide +kernel
theorem dX4_digest_198 : decode cX4_digest 198 = .ok (.ladd, 1) := by decide +kernel
theorem dX4_digest_199 : decode cX4_digest 199 = .ok (.lreturn, 1) := by decide +kernel
theorem dX4_toldOf_0 : decode cX4_toldOf 0 = .ok (.iload_n 1, 1) := by decide +kernel
theorem dX4_toldOf_1 : decode cX4_toldOf 1 = .ok (.tableswitch 90 0 6 #[43, 48, 53, 58, 66, 74, 82], 43) := by decide +kernel
theorem dX4_toldOf_44 : decode cX4_toldOf 44 = .ok (.aload_n 0, 1) := by decide +kernel
theorem dX4_toldOf_45 : decode cX4_toldOf 45 = .ok (.getfield 249, 3) := by decide +kernel
theorem dX4_toldOf_48 : decode cX4_toldOf 48 = .ok (.ireturn, 1) := by decide +kernel
theorem dX4_toldOf_49 : decode cX4_toldOf 49 = .ok (.aload_n 0, 1) := by decide +kernel
theorem dX4_toldOf_50 : decode cX4_toldOf 50 = .ok (.getfield 252, 3) := by decide +kernel
theorem dX4_toldOf_53 : decode cX4_toldOf 53 = .ok (.ireturn, 1) := by decide +kernel
theorem dX4_toldOf_54 : decode cX4_toldOf 54 = .ok (.aload_n 0, 1) := by decide +kernel
theorem dX4_toldOf_55 : decode cX4_toldOf 55 = .ok (.getfield 255, 3) := by decide +kernel
theorem dX4_toldOf_58 : decode cX4_toldOf 58 = .ok (.ireturn, 1) := by decide +kernel
theorem dX4_toldOf_59 : decode cX4_toldOf 59 = .ok (.aload_n 0, 1) := by decide +kernel
theorem dX4_toldOf_60 : decode cX4_toldOf 60 = .ok (.getfield 10, 3) := by decide +kernel
theorem dX4_toldOf_63 : decode cX4_toldOf 63 = .ok (.getfield 53, 3) := by decide +kernel
theorem dX4_toldOf_66 : decode cX4_toldOf 66 = .ok (.ireturn, 1) := by decide +kernel
theorem dX4_toldOf_67 : decode cX4_toldOf 67 = .ok (.aload_n 0, 1) := by decide +kernel
theorem dX4_toldOf_68 : decode cX4_toldOf 68 = .ok (.getfield 10, 3) := by decide +kernel
theorem dX4_toldOf_71 : decode cX4_toldOf 71 = .ok (.getfield 94, 3) := by decide +kernel
theorem dX4_toldOf_74 : decode cX4_toldOf 74 = .ok (.ireturn, 1) := by decide +kernel
theorem dX4_toldOf_75 : decode cX4_toldOf 75 = .ok (.aload_n 0, 1) := by decide +kernel
theorem dX4_toldOf_76 : decode cX4_toldOf 76 = .ok (.getfield 10, 3) := by decide +kernel
theorem dX4_toldOf_79 : decode cX4_toldOf 79 = .ok (.getfield 85, 3) := by decide +kernel
theorem dX4_toldOf_82 : decode cX4_toldOf 82 = .ok (.ireturn, 1) := by decide +kernel
theorem dX4_toldOf_83 : decode cX4_toldOf 83 = .ok (.aload_n 0, 1) := by decide +kernel
theorem dX4_toldOf_84 : decode cX4_toldOf 84 = .ok (.getfield 35, 3) := by decide +kernel
theorem dX4_toldOf_87 : decode cX4_toldOf 87 = .ok (.getfield 196, 3) := by decide +kernel
theorem dX4_toldOf_90 : decode cX4_toldOf 90 = .ok (.ireturn, 1) := by decide +kernel
theorem dX4_toldOf_91 : decode cX4_toldOf 91 = .ok (.aload_n 0, 1) := by decide +kernel
theorem dX4_toldOf_92 : decode cX4_toldOf 92 = .ok (.getfield 10, 3) := by decide +kernel
theorem dX4_toldOf_95 : decode cX4_toldOf 95 = .ok (.invokevirtual 258, 3) := by decide +kernel
theorem dX4_toldOf_98 : decode cX4_toldOf 98 = .ok (.ireturn, 1) := by decide +kernel
theorem dX4_refuse_0 : decode cX4_refuse 0 = .ok (.iload_n 1, 1) := by decide +kernel
theorem dX4_refuse_1 : decode cX4_refuse 1 = .ok (.bipush (-2), 2) := by decide +kernel
theorem dX4_refuse_3 : decode cX4_refuse 3 = .ok (.if_icmp .ne 16, 3) := by decide +kernel
theorem dX4_refuse_6 : decode cX4_refuse 6 = .ok (.aload_n 0, 1) := by decide +kernel
theorem dX4_refuse_7 : decode cX4_refuse 7 = .ok (.dup, 1) := by decide +kernel
theorem dX4_refuse_8 : decode cX4_refuse 8 = .ok (.getfield 249, 3) := by decide +kernel
theorem dX4_refuse_11 : decode cX4_refuse 11 = .ok (.iconst 1, 1) := by decide +kernel
theorem dX4_refuse_12 : decode cX4_refuse 12 = .ok (.iadd, 1) := by decide +kernel
theorem dX4_refuse_13 : decode cX4_refuse 13 = .ok (.putfield 249, 3) := by decide +kernel
theorem dX4_refuse_16 : decode cX4_refuse 16 = .ok (.goto 32, 3) := by decide +kernel
theorem dX4_refuse_19 : decode cX4_refuse 19 = .ok (.iload_n 1, 1) := by decide +kernel
theorem dX4_refuse_20 : decode cX4_refuse 20 = .ok (.bipush (-3), 2) := by decide +kernel
theorem dX4_refuse_22 : decode cX4_refuse 22 = .ok (.if_icmp .ne 16, 3) := by decide +kernel
theorem dX4_refuse_25 : decode cX4_refuse 25 = .ok (.aload_n 0, 1) := by decide +kernel
theorem dX4_refuse_26 : decode cX4_refuse 26 = .ok (.dup, 1) := by decide +kernel
theorem dX4_refuse_27 : decode cX4_refuse 27 = .ok (.getfield 252, 3) := by decide +kernel
theorem dX4_refuse_30 : decode cX4_refuse 30 = .ok (.iconst 1, 1) := by decide +kernel
theorem dX4_refuse_31 : decode cX4_refuse 31 = .ok (.iadd, 1) := by decide +kernel
theorem dX4_refuse_32 : decode cX4_refuse 32 = .ok (.putfield 252, 3) := by decide +kernel
theorem dX4_refuse_35 : decode cX4_refuse 35 = .ok (.goto 13, 3) := by decide +kernel
theorem dX4_refuse_38 : decode cX4_refuse 38 = .ok (.aload_n 0, 1) := by decide +kernel
theorem dX4_refuse_39 : decode cX4_refuse 39 = .ok (.dup, 1) := by decide +kernel
theorem dX4_refuse_40 : decode cX4_refuse 40 = .ok (.getfield 255, 3) := by decide +kernel
theorem dX4_refuse_43 : decode cX4_refuse 43 = .ok (.iconst 1, 1) := by decide +kernel
theorem dX4_refuse_44 : decode cX4_refuse 44 = .ok (.iadd, 1) := by decide +kernel
theorem dX4_refuse_45 : decode cX4_refuse 45 = .ok (.putfield 255, 3) := by decide +kernel
theorem dX4_refuse_48 : decode cX4_refuse 48 = .ok (.iload_n 1, 1) := by decide +kernel
theorem dX4_refuse_49 : decode cX4_refuse 49 = .ok (.ireturn, 1) := by decide +kernel
theorem dX4_streetChanges_0 : decode cX4_streetChanges 0 = .ok (.aload_n 0, 1) := by decide +kernel
theorem dX4_streetChanges_1 : decode cX4_streetChanges 1 = .ok (.getfield 35, 3) := by decide +kernel
theorem dX4_streetChanges_4 : decode cX4_streetChanges 4 = .ok (.iconst 0, 1) := by decide +kernel
theorem dX4_streetChanges_5 : decode cX4_streetChanges 5 = .ok (.putfield 196, 3) := by decide +kernel
theorem dX4_streetChanges_8 : decode cX4_streetChanges 8 = .ok (.aload_n 0, 1) := by decide +kernel
theorem dX4_streetChanges_9 : decode cX4_streetChanges 9 = .ok (.getfield 21, 3) := by decide +kernel
theorem dX4_streetChanges_12 : decode cX4_streetChanges 12 = .ok (.invokevirtual 202, 3) := by decide +kernel
theorem dX4_streetChanges_15 : decode cX4_streetChanges 15 = .ok (.return_, 1) := by decide +kernel
theorem dX4_phasesChange_0 : decode cX4_phasesChange 0 = .ok (.aload_n 0, 1) := by decide +kernel
theorem dX4_phasesChange_1 : decode cX4_phasesChange 1 = .ok (.getfield 35, 3) := by decide +kernel
theorem dX4_phasesChange_4 : decode cX4_phasesChange 4 = .ok (.aload_n 0, 1) := by decide +kernel
theorem dX4_phasesChange_5 : decode cX4_phasesChange 5 = .ok (.getfield 10, 3) := by decide +kernel
theorem dX4_phasesChange_8 : decode cX4_phasesChange 8 = .ok (.invokevirtual 261, 3) := by decide +kernel
theorem dX4_phasesChange_11 : decode cX4_phasesChange 11 = .ok (.invokevirtual 264, 3) := by decide +kernel
theorem dX4_phasesChange_14 : decode cX4_phasesChange 14 = .ok (.aload_n 0, 1) := by decide +kernel
theorem dX4_phasesChange_15 : decode cX4_phasesChange 15 = .ok (.getfield 21, 3) := by decide +kernel
theorem dX4_phasesChange_18 : decode cX4_phasesChange 18 = .ok (.invokevirtual 202, 3) := by decide +kernel
theorem dX4_phasesChange_21 : decode cX4_phasesChange 21 = .ok (.return_, 1) := by decide +kernel
theorem dX4_isHouse_0 : decode cX4_isHouse 0 = .ok (.iload_n 1, 1) := by decide +kernel
theorem dX4_isHouse_1 : decode cX4_isHouse 1 = .ok (.iconst 0, 1) := by decide +kernel
theorem dX4_isHouse_2 : decode cX4_isHouse 2 = .ok (.aload_n 0, 1) := by decide +kernel
theorem dX4_isHouse_3 : decode cX4_isHouse 3 = .ok (.getfield 10, 3) := by decide +kernel
theorem dX4_isHouse_6 : decode cX4_isHouse 6 = .ok (.getfield 53, 3) := by decide +kernel
theorem dX4_isHouse_9 : decode cX4_isHouse 9 = .ok (.iconst 1, 1) := by decide +kernel
theorem dX4_isHouse_10 : decode cX4_isHouse 10 = .ok (.isub, 1) := by decide +kernel
theorem dX4_isHouse_11 : decode cX4_isHouse 11 = .ok (.invokestatic 77, 3) := by decide +kernel
theorem dX4_isHouse_14 : decode cX4_isHouse 14 = .ok (.ireturn, 1) := by decide +kernel
theorem dX4_areTwoHouses_0 : decode cX4_areTwoHouses 0 = .ok (.aload_n 0, 1) := by decide +kernel
theorem dX4_areTwoHouses_1 : decode cX4_areTwoHouses 1 = .ok (.iload_n 1, 1) := by decide +kernel
theorem dX4_areTwoHouses_2 : decode cX4_areTwoHouses 2 = .ok (.invokevirtual 64, 3) := by decide +kernel
theorem dX4_areTwoHouses_5 : decode cX4_areTwoHouses 5 = .ok (.ifCond .eq 20, 3) := by decide +kernel
theorem dX4_areTwoHouses_8 : decode cX4_areTwoHouses 8 = .ok (.aload_n 0, 1) := by decide +kernel
theorem dX4_areTwoHouses_9 : decode cX4_areTwoHouses 9 = .ok (.iload_n 2, 1) := by decide +kernel
theorem dX4_areTwoHouses_10 : decode cX4_areTwoHouses 10 = .ok (.invokevirtual 64, 3) := by decide +kernel
theorem dX4_areTwoHouses_13 : decode cX4_areTwoHouses 13 = .ok (.ifCond .eq 12, 3) := by decide +kernel
theorem dX4_areTwoHouses_16 : decode cX4_areTwoHouses 16 = .ok (.iload_n 1, 1) := by decide +kernel
theorem dX4_areTwoHouses_17 : decode cX4_areTwoHouses 17 = .ok (.iload_n 2, 1) := by decide +kernel
theorem dX4_areTwoHouses_18 : decode cX4_areTwoHouses 18 = .ok (.if_icmp .eq 7, 3) := by decide +kernel
theorem dX4_areTwoHouses_21 : decode cX4_areTwoHouses 21 = .ok (.iconst 1, 1) := by decide +kernel
theorem dX4_areTwoHouses_22 : decode cX4_areTwoHouses 22 = .ok (.goto 4, 3) := by decide +kernel
theorem dX4_areTwoHouses_25 : decode cX4_areTwoHouses 25 = .ok (.iconst 0, 1) := by decide +kernel
theorem dX4_areTwoHouses_26 : decode cX4_areTwoHouses 26 = .ok (.ireturn, 1) := by decide +kernel
theorem dX4_isSetting_0 : decode cX4_isSetting 0 = .ok (.iload_n 0, 1) := by decide +kernel
theorem dX4_isSetting_1 : decode cX4_isSetting 1 = .ok (.tableswitch 44 0 2 #[27, 32, 37], 27) := by decide +kernel
theorem dX4_isSetting_28 : decode cX4_isSetting 28 = .ok (.iload_n 1, 1) := by decide +kernel
theorem dX4_isSetting_29 : decode cX4_isSetting 29 = .ok (.invokestatic 39, 3) := by decide +kernel
theorem dX4_isSetting_32 : decode cX4_isSetting 32 = .ok (.ireturn, 1) := by decide +kernel
theorem dX4_isSetting_33 : decode cX4_isSetting 33 = .ok (.iload_n 1, 1) := by decide +kernel
theorem dX4_isSetting_34 : decode cX4_isSetting 34 = .ok (.invokestatic 43, 3) := by decide +kernel
theorem dX4_isSetting_37 : decode cX4_isSetting 37 = .ok (.ireturn, 1) := by decide +kernel
theorem dX4_isSetting_38 : decode cX4_isSetting 38 = .ok (.iload_n 1, 1) := by decide +kernel
theorem dX4_isSetting_39 : decode cX4_isSetting 39 = .ok (.iconst 0, 1) := by decide +kernel
theorem dX4_isSetting_40 : decode cX4_isSetting 40 = .ok (.iconst 1, 1) := by decide +kernel
theorem dX4_isSetting_41 : decode cX4_isSetting 41 = .ok (.invokestatic 77, 3) := by decide +kernel
theorem dX4_isSetting_44 : decode cX4_isSetting 44 = .ok (.ireturn, 1) := by decide +kernel
theorem dX4_isSetting_45 : decode cX4_isSetting 45 = .ok (.iconst 0, 1) := by decide +kernel
theorem dX4_isSetting_46 : decode cX4_isSetting 46 = .ok (.ireturn, 1) := by decide +kernel
theorem dX4_isSort_0 : decode cX4_isSort 0 = .ok (.iload_n 0, 1) := by decide +kernel
theorem dX4_isSort_1 : decode cX4_isSort 1 = .ok (.iconst 0, 1) := by decide +kernel
theorem dX4_isSort_2 : decode cX4_isSort 2 = .ok (.iconst 5, 1) := by decide +kernel
theorem dX4_isSort_3 : decode cX4_isSort 3 = .ok (.invokestatic 77, 3) := by decide +kernel
theorem dX4_isSort_6 : decode cX4_isSort 6 = .ok (.ireturn, 1) := by decide +kernel
theorem dX4_isSize_0 : decode cX4_isSize 0 = .ok (.iload_n 0, 1) := by decide +kernel
theorem dX4_isSize_1 : decode cX4_isSize 1 = .ok (.iconst 1, 1) := by decide +kernel
theorem dX4_isSize_2 : decode cX4_isSize 2 = .ok (.bipush 20, 2) := by decide +kernel
theorem dX4_isSize_4 : decode cX4_isSize 4 = .ok (.invokestatic 77, 3) := by decide +kernel
theorem dX4_isSize_7 : decode cX4_isSize 7 = .ok (.ireturn, 1) := by decide +kernel
theorem dX4_isPhase_0 : decode cX4_isPhase 0 = .ok (.iload_n 0, 1) := by decide +kernel
theorem dX4_isPhase_1 : decode cX4_isPhase 1 = .ok (.iconst 0, 1) := by decide +kernel
theorem dX4_isPhase_2 : decode cX4_isPhase 2 = .ok (.iconst 2, 1) := by decide +kernel
theorem dX4_isPhase_3 : decode cX4_isPhase 3 = .ok (.invokestatic 77, 3) := by decide +kernel
theorem dX4_isPhase_6 : decode cX4_isPhase 6 = .ok (.ireturn, 1) := by decide +kernel
theorem dX4_isHour_0 : decode cX4_isHour 0 = .ok (.iload_n 0, 1) := by decide +kernel
theorem dX4_isHour_1 : decode cX4_isHour 1 = .ok (.iconst 0, 1) := by decide +kernel
theorem dX4_isHour_2 : decode cX4_isHour 2 = .ok (.iconst 5, 1) := by decide +kernel
theorem dX4_isHour_3 : decode cX4_isHour 3 = .ok (.invokestatic 77, 3) := by decide +kernel
theorem dX4_isHour_6 : decode cX4_isHour 6 = .ok (.ireturn, 1) := by decide +kernel
theorem dX4_isIn_0 : decode cX4_isIn 0 = .ok (.iload_n 0, 1) := by decide +kernel
theorem dX4_isIn_1 : decode cX4_isIn 1 = .ok (.iload_n 1, 1) := by decide +kernel
theorem dX4_isIn_2 : decode cX4_isIn 2 = .ok (.if_icmp .lt 12, 3) := by decide +kernel
theorem dX4_isIn_5 : decode cX4_isIn 5 = .ok (.iload_n 0, 1) := by decide +kernel
theorem dX4_isIn_6 : decode cX4_isIn 6 = .ok (.iload_n 2, 1) := by decide +kernel
theorem dX4_isIn_7 : decode cX4_isIn 7 = .ok (.if_icmp .gt 7, 3) := by decide +kernel
theorem dX4_isIn_10 : decode cX4_isIn 10 = .ok (.iconst 1, 1) := by decide +kernel
theorem dX4_isIn_11 : decode cX4_isIn 11 = .ok (.goto 4, 3) := by decide +kernel
theorem dX4_isIn_14 : decode cX4_isIn 14 = .ok (.iconst 0, 1) := by decide +kernel
theorem dX4_isIn_15 : decode cX4_isIn 15 = .ok (.ireturn, 1) := by decide +kernel
theorem dX4_phaseIn_0 : decode cX4_phaseIn 0 = .ok (.iload_n 0, 1) := by decide +kernel
theorem dX4_phaseIn_1 : decode cX4_phaseIn 1 = .ok (.iconst 2, 1) := by decide +kernel
theorem dX4_phaseIn_2 : decode cX4_phaseIn 2 = .ok (.iload_n 1, 1) := by decide +kernel
theorem dX4_phaseIn_3 : decode cX4_phaseIn 3 = .ok (.imul, 1) := by decide +kernel
theorem dX4_phaseIn_4 : decode cX4_phaseIn 4 = .ok (.iushr, 1) := by decide +kernel
theorem dX4_phaseIn_5 : decode cX4_phaseIn 5 = .ok (.iconst 3, 1) := by decide +kernel
theorem dX4_phaseIn_6 : decode cX4_phaseIn 6 = .ok (.iand, 1) := by decide +kernel
theorem dX4_phaseIn_7 : decode cX4_phaseIn 7 = .ok (.ireturn, 1) := by decide +kernel
theorem dX4_pack_0 : decode cX4_pack 0 = .ok (.iconst 0, 1) := by decide +kernel
theorem dX4_pack_1 : decode cX4_pack 1 = .ok (.istore_n 2, 1) := by decide +kernel
theorem dX4_pack_2 : decode cX4_pack 2 = .ok (.iconst 0, 1) := by decide +kernel
theorem dX4_pack_3 : decode cX4_pack 3 = .ok (.istore_n 3, 1) := by decide +kernel
theorem dX4_pack_4 : decode cX4_pack 4 = .ok (.iload_n 3, 1) := by decide +kernel
theorem dX4_pack_5 : decode cX4_pack 5 = .ok (.iload_n 1, 1) := by decide +kernel
theorem dX4_pack_6 : decode cX4_pack 6 = .ok (.if_icmp .ge 19, 3) := by decide +kernel
theorem dX4_pack_9 : decode cX4_pack 9 = .ok (.iload_n 2, 1) := by decide +kernel
theorem dX4_pack_10 : decode cX4_pack 10 = .ok (.aload_n 0, 1) := by decide +kernel
theorem dX4_pack_11 : decode cX4_pack 11 = .ok (.iload_n 3, 1) := by decide +kernel
theorem dX4_pack_12 : decode cX4_pack 12 = .ok (.iaload, 1) := by decide +kernel
theorem dX4_pack_13 : decode cX4_pack 13 = .ok (.iconst 2, 1) := by decide +kernel
theorem dX4_pack_14 : decode cX4_pack 14 = .ok (.iload_n 3, 1) := by decide +kernel
theorem dX4_pack_15 : decode cX4_pack 15 = .ok (.imul, 1) := by decide +kernel
theorem dX4_pack_16 : decode cX4_pack 16 = .ok (.ishl, 1) := by decide +kernel
theorem dX4_pack_17 : decode cX4_pack 17 = .ok (.ior, 1) := by decide +kernel
theorem dX4_pack_18 : decode cX4_pack 18 = .ok (.istore_n 2, 1) := by decide +kernel
theorem dX4_pack_19 : decode cX4_pack 19 = .ok (.iinc 3 1, 3) := by decide +kernel
theorem dX4_pack_22 : decode cX4_pack 22 = .ok (.goto (-18), 3) := by decide +kernel
theorem dX4_pack_25 : decode cX4_pack 25 = .ok (.iload_n 2, 1) := by decide +kernel
theorem dX4_pack_26 : decode cX4_pack 26 = .ok (.ireturn, 1) := by decide +kernel
