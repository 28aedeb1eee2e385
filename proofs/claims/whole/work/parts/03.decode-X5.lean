theorem dX5_init_0 : decode cX5_init 0 = .ok (.aload_n 0, 1) := by decide +kernel
theorem dX5_init_1 : decode cX5_init 1 = .ok (.invokespecial 1, 3) := by decide +kernel
theorem dX5_init_4 : decode cX5_init 4 = .ok (.aload_n 0, 1) := by decide +kernel
theorem dX5_init_5 : decode cX5_init 5 = .ok (.bipush 9, 2) := by decide +kernel
theorem dX5_init_7 : decode cX5_init 7 = .ok (.newarray .int, 2) := by decide +kernel
theorem dX5_init_9 : decode cX5_init 9 = .ok (.putfield 7, 3) := by decide +kernel
theorem dX5_init_12 : decode cX5_init 12 = .ok (.aload_n 0, 1) := by decide +kernel
theorem dX5_init_13 : decode cX5_init 13 = .ok (.bipush 9, 2) := by decide +kernel
theorem dX5_init_15 : decode cX5_init 15 = .ok (.newarray .int, 2) := by decide +kernel
theorem dX5_init_17 : decode cX5_init 17 = .ok (.putfield 13, 3) := by decide +kernel
theorem dX5_init_20 : decode cX5_init 20 = .ok (.aload_n 0, 1) := by decide +kernel
theorem dX5_init_21 : decode cX5_init 21 = .ok (.bipush 9, 2) := by decide +kernel
theorem dX5_init_23 : decode cX5_init 23 = .ok (.newarray .int, 2) := by decide +kernel
theorem dX5_init_25 : decode cX5_init 25 = .ok (.putfield 16, 3) := by decide +kernel
theorem dX5_init_28 : decode cX5_init 28 = .ok (.aload_n 0, 1) := by decide +kernel
theorem dX5_init_29 : decode cX5_init 29 = .ok (.bipush 9, 2) := by decide +kernel
theorem dX5_init_31 : decode cX5_init 31 = .ok (.newarray .int, 2) := by decide +kernel
theorem dX5_init_33 : decode cX5_init 33 = .ok (.putfield 19, 3) := by decide +kernel
theorem dX5_init_36 : decode cX5_init 36 = .ok (.aload_n 0, 1) := by decide +kernel
theorem dX5_init_37 : decode cX5_init 37 = .ok (.bipush 6, 2) := by decide +kernel
theorem dX5_init_39 : decode cX5_init 39 = .ok (.newarray .int, 2) := by decide +kernel
theorem dX5_init_41 : decode cX5_init 41 = .ok (.dup, 1) := by decide +kernel
theorem dX5_init_42 : decode cX5_init 42 = .ok (.iconst 0, 1) := by decide +kernel
theorem dX5_init_43 : decode cX5_init 43 = .ok (.iconst 1, 1) := by decide +kernel
theorem dX5_init_44 : decode cX5_init 44 = .ok (.iastore, 1) := by decide +kernel
theorem dX5_init_45 : decode cX5_init 45 = .ok (.dup, 1) := by decide +kernel
theorem dX5_init_46 : decode cX5_init 46 = .ok (.iconst 1, 1) := by decide +kernel
theorem dX5_init_47 : decode cX5_init 47 = .ok (.iconst 1, 1) := by decide +kernel
theorem dX5_init_48 : decode cX5_init 48 = .ok (.iastore, 1) := by decide +kernel
theorem dX5_init_49 : decode cX5_init 49 = .ok (.dup, 1) := by decide +kernel
theorem dX5_init_50 : decode cX5_init 50 = .ok (.iconst 2, 1) := by decide +kernel
theorem dX5_init_51 : decode cX5_init 51 = .ok (.iconst 1, 1) := by decide +kernel
theorem dX5_init_52 : decode cX5_init 52 = .ok (.iastore, 1) := by decide +kernel
theorem dX5_init_53 : decode cX5_init 53 = .ok (.dup, 1) := by decide +kernel
theorem dX5_init_54 : decode cX5_init 54 = .ok (.iconst 3, 1) := by decide +kernel
theorem dX5_init_55 : decode cX5_init 55 = .ok (.iconst 1, 1) := by decide +kernel
theorem dX5_init_56 : decode cX5_init 56 = .ok (.iastore, 1) := by decide +kernel
theorem dX5_init_57 : decode cX5_init 57 = .ok (.dup, 1) := by decide +kernel
theorem dX5_init_58 : decode cX5_init 58 = .ok (.iconst 4, 1) := by decide +kernel
theorem dX5_init_59 : decode cX5_init 59 = .ok (.iconst 1, 1) := by decide +kernel
theorem dX5_init_60 : decode cX5_init 60 = .ok (.iastore, 1) := by decide +kernel
theorem dX5_init_61 : decode cX5_init 61 = .ok (.dup, 1) := by decide +kernel
theorem dX5_init_62 : decode cX5_init 62 = .ok (.iconst 5, 1) := by decide +kernel
theorem dX5_init_63 : decode cX5_init 63 = .ok (.iconst 1, 1) := by decide +kernel
theorem dX5_init_64 : decode cX5_init 64 = .ok (.iastore, 1) := by decide +kernel
theorem dX5_init_65 : decode cX5_init 65 = .ok (.putfield 22, 3) := by decide +kernel
theorem dX5_init_68 : decode cX5_init 68 = .ok (.aload_n 0, 1) := by decide +kernel
theorem dX5_init_69 : decode cX5_init 69 = .ok (.sipush 400, 3) := by decide +kernel
theorem dX5_init_72 : decode cX5_init 72 = .ok (.putfield 25, 3) := by decide +kernel
theorem dX5_init_75 : decode cX5_init 75 = .ok (.aload_n 0, 1) := by decide +kernel
theorem dX5_init_76 : decode cX5_init 76 = .ok (.bipush 12, 2) := by decide +kernel
theorem dX5_init_78 : decode cX5_init 78 = .ok (.newarray .int, 2) := by decide +kernel
theorem dX5_init_80 : decode cX5_init 80 = .ok (.putfield 29, 3) := by decide +kernel
theorem dX5_init_83 : decode cX5_init 83 = .ok (.aload_n 0, 1) := by decide +kernel
theorem dX5_init_84 : decode cX5_init 84 = .ok (.bipush 72, 2) := by decide +kernel
theorem dX5_init_86 : decode cX5_init 86 = .ok (.newarray .int, 2) := by decide +kernel
theorem dX5_init_88 : decode cX5_init 88 = .ok (.putfield 32, 3) := by decide +kernel
theorem dX5_init_91 : decode cX5_init 91 = .ok (.aload_n 0, 1) := by decide +kernel
theorem dX5_init_92 : decode cX5_init 92 = .ok (.iconst 3, 1) := by decide +kernel
theorem dX5_init_93 : decode cX5_init 93 = .ok (.newarray .int, 2) := by decide +kernel
theorem dX5_init_95 : decode cX5_init 95 = .ok (.putfield 35, 3) := by decide +kernel
theorem dX5_init_98 : decode cX5_init 98 = .ok (.aload_n 0, 1) := by decide +kernel
theorem dX5_init_99 : decode cX5_init 99 = .ok (.bipush 54, 2) := by decide +kernel
theorem dX5_init_101 : decode cX5_init 101 = .ok (.newarray .int, 2) := by decide +kernel
theorem dX5_init_103 : decode cX5_init 103 = .ok (.putfield 38, 3) := by decide +kernel
theorem dX5_init_106 : decode cX5_init 106 = .ok (.aload_n 0, 1) := by decide +kernel
theorem dX5_init_107 : decode cX5_init 107 = .ok (.bipush 18, 2) := by decide +kernel
theorem dX5_init_109 : decode cX5_init 109 = .ok (.newarray .int, 2) := by decide +kernel
theorem dX5_init_111 : decode cX5_init 111 = .ok (.putfield 41, 3) := by decide +kernel
theorem dX5_init_114 : decode cX5_init 114 = .ok (.aload_n 0, 1) := by decide +kernel
theorem dX5_init_115 : decode cX5_init 115 = .ok (.bipush 9, 2) := by decide +kernel
theorem dX5_init_117 : decode cX5_init 117 = .ok (.newarray .int, 2) := by decide +kernel
theorem dX5_init_119 : decode cX5_init 119 = .ok (.putfield 44, 3) := by decide +kernel
theorem dX5_init_122 : decode cX5_init 122 = .ok (.aload_n 0, 1) := by decide +kernel
theorem dX5_init_123 : decode cX5_init 123 = .ok (.bipush 90, 2) := by decide +kernel
theorem dX5_init_125 : decode cX5_init 125 = .ok (.newarray .int, 2) := by decide +kernel
theorem dX5_init_127 : decode cX5_init 127 = .ok (.putfield 47, 3) := by decide +kernel
theorem dX5_init_130 : decode cX5_init 130 = .ok (.aload_n 0, 1) := by decide +kernel
theorem dX5_init_131 : decode cX5_init 131 = .ok (.bipush 10, 2) := by decide +kernel
theorem dX5_init_133 : decode cX5_init 133 = .ok (.newarray .int, 2) := by decide +kernel
theorem dX5_init_135 : decode cX5_init 135 = .ok (.putfield 50, 3) := by decide +kernel
theorem dX5_init_138 : decode cX5_init 138 = .ok (.aload_n 0, 1) := by decide +kernel
theorem dX5_init_139 : decode cX5_init 139 = .ok (.iconst 4, 1) := by decide +kernel
theorem dX5_init_140 : decode cX5_init 140 = .ok (.newarray .int, 2) := by decide +kernel
theorem dX5_init_142 : decode cX5_init 142 = .ok (.putfield 53, 3) := by decide +kernel
theorem dX5_init_145 : decode cX5_init 145 = .ok (.return_, 1) := by decide +kernel
theorem dX5_in_0 : decode cX5_in 0 = .ok (.iload_n 0, 1) := by decide +kernel
theorem dX5_in_1 : decode cX5_in 1 = .ok (.iload_n 1, 1) := by decide +kernel
theorem dX5_in_2 : decode cX5_in 2 = .ok (.if_icmp .lt 12, 3) := by decide +kernel
theorem dX5_in_5 : decode cX5_in 5 = .ok (.iload_n 0, 1) := by decide +kernel
theorem dX5_in_6 : decode cX5_in 6 = .ok (.iload_n 2, 1) := by decide +kernel
theorem dX5_in_7 : decode cX5_in 7 = .ok (.if_icmp .gt 7, 3) := by decide +kernel
theorem dX5_in_10 : decode cX5_in 10 = .ok (.iconst 1, 1) := by decide +kernel
theorem dX5_in_11 : decode cX5_in 11 = .ok (.goto 4, 3) := by decide +kernel
theorem dX5_in_14 : decode cX5_in 14 = .ok (.iconst 0, 1) := by decide +kernel
theorem dX5_in_15 : decode cX5_in 15 = .ok (.ireturn, 1) := by decide +kernel
theorem dX5_refuses_0 : decode cX5_refuses 0 = .ok (.aload_n 0, 1) := by decide +kernel
theorem dX5_refuses_1 : decode cX5_refuses 1 = .ok (.getfield 35, 3) := by decide +kernel
theorem dX5_refuses_4 : decode cX5_refuses 4 = .ok (.bipush (-2), 2) := by decide +kernel
theorem dX5_refuses_6 : decode cX5_refuses 6 = .ok (.iload_n 1, 1) := by decide +kernel
theorem dX5_refuses_7 : decode cX5_refuses 7 = .ok (.isub, 1) := by decide +kernel
theorem dX5_refuses_8 : decode cX5_refuses 8 = .ok (.dup2, 1) := by decide +kernel
theorem dX5_refuses_9 : decode cX5_refuses 9 = .ok (.iaload, 1) := by decide +kernel
theorem dX5_refuses_10 : decode cX5_refuses 10 = .ok (.iconst 1, 1) := by decide +kernel
theorem dX5_refuses_11 : decode cX5_refuses 11 = .ok (.iadd, 1) := by decide +kernel
theorem dX5_refuses_12 : decode cX5_refuses 12 = .ok (.iastore, 1) := by decide +kernel
theorem dX5_refuses_13 : decode cX5_refuses 13 = .ok (.iload_n 1, 1) := by decide +kernel
theorem dX5_refuses_14 : decode cX5_refuses 14 = .ok (.ireturn, 1) := by decide +kernel
theorem dX5_isHouse_0 : decode cX5_isHouse 0 = .ok (.iload_n 1, 1) := by decide +kernel
theorem dX5_isHouse_1 : decode cX5_isHouse 1 = .ok (.iconst 0, 1) := by decide +kernel
theorem dX5_isHouse_2 : decode cX5_isHouse 2 = .ok (.aload_n 0, 1) := by decide +kernel
theorem dX5_isHouse_3 : decode cX5_isHouse 3 = .ok (.getfield 56, 3) := by decide +kernel
theorem dX5_isHouse_6 : decode cX5_isHouse 6 = .ok (.iconst 1, 1) := by decide +kernel
theorem dX5_isHouse_7 : decode cX5_isHouse 7 = .ok (.isub, 1) := by decide +kernel
theorem dX5_isHouse_8 : decode cX5_isHouse 8 = .ok (.invokestatic 59, 3) := by decide +kernel
theorem dX5_isHouse_11 : decode cX5_isHouse 11 = .ok (.ireturn, 1) := by decide +kernel
theorem dX5_isHour_0 : decode cX5_isHour 0 = .ok (.iload_n 0, 1) := by decide +kernel
theorem dX5_isHour_1 : decode cX5_isHour 1 = .ok (.iconst 0, 1) := by decide +kernel
theorem dX5_isHour_2 : decode cX5_isHour 2 = .ok (.iconst 5, 1) := by decide +kernel
theorem dX5_isHour_3 : decode cX5_isHour 3 = .ok (.invokestatic 59, 3) := by decide +kernel
theorem dX5_isHour_6 : decode cX5_isHour 6 = .ok (.ireturn, 1) := by decide +kernel
theorem dX5_house_0 : decode cX5_house 0 = .ok (.iload_n 1, 1) := by decide +kernel
theorem dX5_house_1 : decode cX5_house 1 = .ok (.iconst 0, 1) := by decide +kernel
theorem dX5_house_2 : decode cX5_house 2 = .ok (.iconst 5, 1) := by decide +kernel
theorem dX5_house_3 : decode cX5_house 3 = .ok (.invokestatic 59, 3) := by decide +kernel
theorem dX5_house_6 : decode cX5_house 6 = .ok (.ifCond .eq 22, 3) := by decide +kernel
theorem dX5_house_9 : decode cX5_house 9 = .ok (.iload_n 2, 1) := by decide +kernel
theorem dX5_house_10 : decode cX5_house 10 = .ok (.iconst 1, 1) := by decide +kernel
theorem dX5_house_11 : decode cX5_house 11 = .ok (.bipush 20, 2) := by decide +kernel
theorem dX5_house_13 : decode cX5_house 13 = .ok (.invokestatic 59, 3) := by decide +kernel
theorem dX5_house_16 : decode cX5_house 16 = .ok (.ifCond .eq 12, 3) := by decide +kernel
theorem dX5_house_19 : decode cX5_house 19 = .ok (.iload_n 3, 1) := by decide +kernel
theorem dX5_house_20 : decode cX5_house 20 = .ok (.iconst 0, 1) := by decide +kernel
theorem dX5_house_21 : decode cX5_house 21 = .ok (.iconst 2, 1) := by decide +kernel
theorem dX5_house_22 : decode cX5_house 22 = .ok (.invokestatic 59, 3) := by decide +kernel
theorem dX5_house_25 : decode cX5_house 25 = .ok (.ifCond .ne 10, 3) := by decide +kernel
theorem dX5_house_28 : decode cX5_house 28 = .ok (.aload_n 0, 1) := by decide +kernel
theorem dX5_house_29 : decode cX5_house 29 = .ok (.bipush (-2), 2) := by decide +kernel
theorem dX5_house_31 : decode cX5_house 31 = .ok (.invokevirtual 63, 3) := by decide +kernel
theorem dX5_house_34 : decode cX5_house 34 = .ok (.ireturn, 1) := by decide +kernel
theorem dX5_house_35 : decode cX5_house 35 = .ok (.aload_n 0, 1) := by decide +kernel
theorem dX5_house_36 : decode cX5_house 36 = .ok (.getfield 56, 3) := by decide +kernel
theorem dX5_house_39 : decode cX5_house 39 = .ok (.bipush 9, 2) := by decide +kernel
theorem dX5_house_41 : decode cX5_house 41 = .ok (.if_icmp .ne 10, 3) := by decide +kernel
theorem dX5_house_44 : decode cX5_house 44 = .ok (.aload_n 0, 1) := by decide +kernel
theorem dX5_house_45 : decode cX5_house 45 = .ok (.bipush (-4), 2) := by decide +kernel
theorem dX5_house_47 : decode cX5_house 47 = .ok (.invokevirtual 63, 3) := by decide +kernel
theorem dX5_house_50 : decode cX5_house 50 = .ok (.ireturn, 1) := by decide +kernel
theorem dX5_house_51 : decode cX5_house 51 = .ok (.aload_n 0, 1) := by decide +kernel
theorem dX5_house_52 : decode cX5_house 52 = .ok (.getfield 7, 3) := by decide +kernel
theorem dX5_house_55 : decode cX5_house 55 = .ok (.aload_n 0, 1) := by decide +kernel
theorem dX5_house_56 : decode cX5_house 56 = .ok (.getfield 56, 3) := by decide +kernel
theorem dX5_house_59 : decode cX5_house 59 = .ok (.iload_n 1, 1) := by decide +kernel
theorem dX5_house_60 : decode cX5_house 60 = .ok (.iastore, 1) := by decide +kernel
theorem dX5_house_61 : decode cX5_house 61 = .ok (.aload_n 0, 1) := by decide +kernel
theorem dX5_house_62 : decode cX5_house 62 = .ok (.getfield 13, 3) := by decide +kernel
theorem dX5_house_65 : decode cX5_house 65 = .ok (.aload_n 0, 1) := by decide +kernel
theorem dX5_house_66 : decode cX5_house 66 = .ok (.getfield 56, 3) := by decide +kernel
theorem dX5_house_69 : decode cX5_house 69 = .ok (.iload_n 2, 1) := by decide +kernel
theorem dX5_house_70 : decode cX5_house 70 = .ok (.iastore, 1) := by decide +kernel
theorem dX5_house_71 : decode cX5_house 71 = .ok (.aload_n 0, 1) := by decide +kernel
theorem dX5_house_72 : decode cX5_house 72 = .ok (.getfield 16, 3) := by decide +kernel
theorem dX5_house_75 : decode cX5_house 75 = .ok (.aload_n 0, 1) := by decide +kernel
theorem dX5_house_76 : decode cX5_house 76 = .ok (.getfield 56, 3) := by decide +kernel
theorem dX5_house_79 : decode cX5_house 79 = .ok (.iload_n 3, 1) := by decide +kernel
theorem dX5_house_80 : decode cX5_house 80 = .ok (.iastore, 1) := by decide +kernel
theorem dX5_house_81 : decode cX5_house 81 = .ok (.aload_n 0, 1) := by decide +kernel
theorem dX5_house_82 : decode cX5_house 82 = .ok (.getfield 19, 3) := by decide +kernel
theorem dX5_house_85 : decode cX5_house 85 = .ok (.aload_n 0, 1) := by decide +kernel
theorem dX5_house_86 : decode cX5_house 86 = .ok (.getfield 56, 3) := by decide +kernel
theorem dX5_house_89 : decode cX5_house 89 = .ok (.iconst 0, 1) := by decide +kernel
theorem dX5_house_90 : decode cX5_house 90 = .ok (.iastore, 1) := by decide +kernel
theorem dX5_house_91 : decode cX5_house 91 = .ok (.aload_n 0, 1) := by decide +kernel
theorem dX5_house_92 : decode cX5_house 92 = .ok (.dup, 1) := by decide +kernel
theorem dX5_house_93 : decode cX5_house 93 = .ok (.getfield 56, 3) := by decide +kernel
theorem dX5_house_96 : decode cX5_house 96 = .ok (.iconst 1, 1) := by decide +kernel
theorem dX5_house_97 : decode cX5_house 97 = .ok (.iadd, 1) := by decide +kernel
theorem dX5_house_98 : decode cX5_house 98 = .ok (.putfield 56, 3) := by decide +kernel
theorem dX5_house_101 : decode cX5_house 101 = .ok (.aload_n 0, 1) := by decide +kernel
theorem dX5_house_102 : decode cX5_house 102 = .ok (.iconst 0, 1) := by decide +kernel
theorem dX5_house_103 : decode cX5_house 103 = .ok (.putfield 67, 3) := by decide +kernel
theorem dX5_house_106 : decode cX5_house 106 = .ok (.aload_n 0, 1) := by decide +kernel
theorem dX5_house_107 : decode cX5_house 107 = .ok (.getfield 56, 3) := by decide +kernel
theorem dX5_house_110 : decode cX5_house 110 = .ok (.iconst 1, 1) := by decide +kernel
theorem dX5_house_111 : decode cX5_house 111 = .ok (.isub, 1) := by decide +kernel
theorem dX5_house_112 : decode cX5_house 112 = .ok (.ireturn, 1) := by decide +kernel
theorem dX5_sets_0 : decode cX5_sets 0 = .ok (.aload_n 0, 1) := by decide +kernel
theorem dX5_sets_1 : decode cX5_sets 1 = .ok (.iload_n 1, 1) := by decide +kernel
theorem dX5_sets_2 : decode cX5_sets 2 = .ok (.invokevirtual 70, 3) := by decide +kernel
theorem dX5_sets_5 : decode cX5_sets 5 = .ok (.ifCond .eq 48, 3) := by decide +kernel
theorem dX5_sets_8 : decode cX5_sets 8 = .ok (.iload_n 2, 1) := by decide +kernel
theorem dX5_sets_9 : decode cX5_sets 9 = .ok (.iconst 0, 1) := by decide +kernel
theorem dX5_sets_10 : decode cX5_sets 10 = .ok (.iconst 2, 1) := by decide +kernel
theorem dX5_sets_11 : decode cX5_sets 11 = .ok (.invokestatic 59, 3) := by decide +kernel
theorem dX5_sets_14 : decode cX5_sets 14 = .ok (.ifCond .eq 39, 3) := by decide +kernel
theorem dX5_sets_17 : decode cX5_sets 17 = .ok (.iload_n 3, 1) := by decide +kernel
theorem dX5_sets_18 : decode cX5_sets 18 = .ok (.iload_n 2, 1) := by decide +kernel
theorem dX5_sets_19 : decode cX5_sets 19 = .ok (.iconst 1, 1) := by decide +kernel
theorem dX5_sets_20 : decode cX5_sets 20 = .ok (.if_icmp .ne 7, 3) := by decide +kernel
theorem dX5_sets_23 : decode cX5_sets 23 = .ok (.iconst 1, 1) := by decide +kernel
theorem dX5_sets_24 : decode cX5_sets 24 = .ok (.goto 4, 3) := by decide +kernel
theorem dX5_sets_27 : decode cX5_sets 27 = .ok (.iconst 0, 1) := by decide +kernel
theorem dX5_sets_28 : decode cX5_sets 28 = .ok (.iload_n 2, 1) := by decide +kernel
theorem dX5_sets_29 : decode cX5_sets 29 = .ok (.ifCond .ne 7, 3) := by decide +kernel
theorem dX5_sets_32 : decode cX5_sets 32 = .ok (.iconst 5, 1) := by decide +kernel
theorem dX5_sets_33 : decode cX5_sets 33 = .ok (.goto 14, 3) := by decide +kernel
theorem dX5_sets_36 : decode cX5_sets 36 = .ok (.iload_n 2, 1) := by decide +kernel
theorem dX5_sets_37 : decode cX5_sets 37 = .ok (.iconst 1, 1) := by decide +kernel
theorem dX5_sets_38 : decode cX5_sets 38 = .ok (.if_icmp .ne 8, 3) := by decide +kernel
theorem dX5_sets_41 : decode cX5_sets 41 = .ok (.bipush 20, 2) := by decide +kernel
theorem dX5_sets_43 : decode cX5_sets 43 = .ok (.goto 4, 3) := by decide +kernel
theorem dX5_sets_46 : decode cX5_sets 46 = .ok (.iconst 1, 1) := by decide +kernel
theorem dX5_sets_47 : decode cX5_sets 47 = .ok (.invokestatic 59, 3) := by decide +kernel
theorem dX5_sets_50 : decode cX5_sets 50 = .ok (.ifCond .ne 10, 3) := by decide +kernel
theorem dX5_sets_53 : decode cX5_sets 53 = .ok (.aload_n 0, 1) := by decide +kernel
theorem dX5_sets_54 : decode cX5_sets 54 = .ok (.bipush (-2), 2) := by decide +kernel
theorem dX5_sets_56 : decode cX5_sets 56 = .ok (.invokevirtual 63, 3) := by decide +kernel
theorem dX5_sets_59 : decode cX5_sets 59 = .ok (.ireturn, 1) := by decide +kernel
theorem dX5_sets_60 : decode cX5_sets 60 = .ok (.iload_n 2, 1) := by decide +kernel
theorem dX5_sets_61 : decode cX5_sets 61 = .ok (.ifCond .ne 12, 3) := by decide +kernel
theorem dX5_sets_64 : decode cX5_sets 64 = .ok (.aload_n 0, 1) := by decide +kernel
theorem dX5_sets_65 : decode cX5_sets 65 = .ok (.getfield 7, 3) := by decide +kernel
theorem dX5_sets_68 : decode cX5_sets 68 = .ok (.iload_n 1, 1) := by decide +kernel
theorem dX5_sets_69 : decode cX5_sets 69 = .ok (.iaload, 1) := by decide +kernel
theorem dX5_sets_70 : decode cX5_sets 70 = .ok (.goto 23, 3) := by decide +kernel
theorem dX5_sets_73 : decode cX5_sets 73 = .ok (.iload_n 2, 1) := by decide +kernel
theorem dX5_sets_74 : decode cX5_sets 74 = .ok (.iconst 1, 1) := by decide +kernel
theorem dX5_sets_75 : decode cX5_sets 75 = .ok (.if_icmp .ne 12, 3) := by decide +kernel
theorem dX5_sets_78 : decode cX5_sets 78 = .ok (.aload_n 0, 1) := by decide +kernel
theorem dX5_sets_79 : decode cX5_sets 79 = .ok (.getfield 13, 3) := by decide +kernel
theorem dX5_sets_82 : decode cX5_sets 82 = .ok (.iload_n 1, 1) := by decide +kernel
theorem dX5_sets_83 : decode cX5_sets 83 = .ok (.iaload, 1) := by decide +kernel
theorem dX5_sets_84 : decode cX5_sets 84 = .ok (.goto 9, 3) := by decide +kernel
theorem dX5_sets_87 : decode cX5_sets 87 = .ok (.aload_n 0, 1) := by decide +kernel
theorem dX5_sets_88 : decode cX5_sets 88 = .ok (.getfield 19, 3) := by decide +kernel
theorem dX5_sets_91 : decode cX5_sets 91 = .ok (.iload_n 1, 1) := by decide +kernel
theorem dX5_sets_92 : decode cX5_sets 92 = .ok (.iaload, 1) := by decide +kernel
theorem dX5_sets_93 : decode cX5_sets 93 = .ok (.istore 4, 2) := by decide +kernel
theorem dX5_sets_95 : decode cX5_sets 95 = .ok (.iload_n 2, 1) := by decide +kernel
theorem dX5_sets_96 : decode cX5_sets 96 = .ok (.ifCond .ne 13, 3) := by decide +kernel
theorem dX5_sets_99 : decode cX5_sets 99 = .ok (.aload_n 0, 1) := by decide +kernel
theorem dX5_sets_100 : decode cX5_sets 100 = .ok (.getfield 7, 3) := by decide +kernel
theorem dX5_sets_103 : decode cX5_sets 103 = .ok (.iload_n 1, 1) := by decide +kernel
theorem dX5_sets_104 : decode cX5_sets 104 = .ok (.iload_n 3, 1) := by decide +kernel
theorem dX5_sets_105 : decode cX5_sets 105 = .ok (.iastore, 1) := by decide +kernel
theorem dX5_sets_106 : decode cX5_sets 106 = .ok (.goto 25, 3) := by decide +kernel
theorem dX5_sets_109 : decode cX5_sets 109 = .ok (.iload_n 2, 1) := by decide +kernel
theorem dX5_sets_110 : decode cX5_sets 110 = .ok (.iconst 1, 1) := by decide +kernel
theorem dX5_sets_111 : decode cX5_sets 111 = .ok (.if_icmp .ne 13, 3) := by decide +kernel
theorem dX5_sets_114 : decode cX5_sets 114 = .ok (.aload_n 0, 1) := by decide +kernel
theorem dX5_sets_115 : decode cX5_sets 115 = .ok (.getfield 13, 3) := by decide +kernel
theorem dX5_sets_118 : decode cX5_sets 118 = .ok (.iload_n 1, 1) := by decide +kernel
theorem dX5_sets_119 : decode cX5_sets 119 = .ok (.iload_n 3, 1) := by decide +kernel
theorem dX5_sets_120 : decode cX5_sets 120 = .ok (.iastore, 1) := by decide +kernel
theorem dX5_sets_121 : decode cX5_sets 121 = .ok (.goto 10, 3) := by decide +kernel
theorem dX5_sets_124 : decode cX5_sets 124 = .ok (.aload_n 0, 1) := by decide +kernel
theorem dX5_sets_125 : decode cX5_sets 125 = .ok (.getfield 19, 3) := by decide +kernel
theorem dX5_sets_128 : decode cX5_sets 128 = .ok (.iload_n 1, 1) := by decide +kernel
theorem dX5_sets_129 : decode cX5_sets 129 = .ok (.iload_n 3, 1) := by decide +kernel
theorem dX5_sets_130 : decode cX5_sets 130 = .ok (.iastore, 1) := by decide +kernel
theorem dX5_sets_131 : decode cX5_sets 131 = .ok (.aload_n 0, 1) := by decide +kernel
theorem dX5_sets_132 : decode cX5_sets 132 = .ok (.iconst 0, 1) := by decide +kernel
theorem dX5_sets_133 : decode cX5_sets 133 = .ok (.putfield 67, 3) := by decide +kernel
theorem dX5_sets_136 : decode cX5_sets 136 = .ok (.iload 4, 2) := by decide +kernel
theorem dX5_sets_138 : decode cX5_sets 138 = .ok (.ireturn, 1) := by decide +kernel
theorem dX5_weight_0 : decode cX5_weight 0 = .ok (.iload_n 1, 1) := by decide +kernel
theorem dX5_weight_1 : decode cX5_weight 1 = .ok (.invokestatic 74, 3) := by decide +kernel
theorem dX5_weight_4 : decode cX5_weight 4 = .ok (.ifCond .eq 13, 3) := by decide +kernel
theorem dX5_weight_7 : decode cX5_weight 7 = .ok (.iload_n 2, 1) := by decide +kernel
theorem dX5_weight_8 : decode cX5_weight 8 = .ok (.iconst 0, 1) := by decide +kernel
theorem dX5_weight_9 : decode cX5_weight 9 = .ok (.bipush 9, 2) := by decide +kernel
theorem dX5_weight_11 : decode cX5_weight 11 = .ok (.invokestatic 59, 3) := by decide +kernel
theorem dX5_weight_14 : decode cX5_weight 14 = .ok (.ifCond .ne 10, 3) := by decide +kernel
theorem dX5_weight_17 : decode cX5_weight 17 = .ok (.aload_n 0, 1) := by decide +kernel
theorem dX5_weight_18 : decode cX5_weight 18 = .ok (.bipush (-2), 2) := by decide +kernel
theorem dX5_weight_20 : decode cX5_weight 20 = .ok (.invokevirtual 63, 3) := by decide +kernel
theorem dX5_weight_23 : decode cX5_weight 23 = .ok (.ireturn, 1) := by decide +kernel
theorem dX5_weight_24 : decode cX5_weight 24 = .ok (.aload_n 0, 1) := by decide +kernel
theorem dX5_weight_25 : decode cX5_weight 25 = .ok (.getfield 22, 3) := by decide +kernel
theorem dX5_weight_28 : decode cX5_weight 28 = .ok (.iload_n 1, 1) := by decide +kernel
theorem dX5_weight_29 : decode cX5_weight 29 = .ok (.iaload, 1) := by decide +kernel
theorem dX5_weight_30 : decode cX5_weight 30 = .ok (.istore_n 3, 1) := by decide +kernel
theorem dX5_weight_31 : decode cX5_weight 31 = .ok (.aload_n 0, 1) := by decide +kernel
theorem dX5_weight_32 : decode cX5_weight 32 = .ok (.getfield 22, 3) := by decide +kernel
theorem dX5_weight_35 : decode cX5_weight 35 = .ok (.iload_n 1, 1) := by decide +kernel
theorem dX5_weight_36 : decode cX5_weight 36 = .ok (.iload_n 2, 1) := by decide +kernel
theorem dX5_weight_37 : decode cX5_weight 37 = .ok (.iastore, 1) := by decide +kernel
theorem dX5_weight_38 : decode cX5_weight 38 = .ok (.aload_n 0, 1) := by decide +kernel
theorem dX5_weight_39 : decode cX5_weight 39 = .ok (.iconst 0, 1) := by decide +kernel
theorem dX5_weight_40 : decode cX5_weight 40 = .ok (.putfield 67, 3) := by decide +kernel
theorem dX5_weight_43 : decode cX5_weight 43 = .ok (.iload_n 3, 1) := by decide +kernel
theorem dX5_weight_44 : decode cX5_weight 44 = .ok (.ireturn, 1) := by decide +kernel
theorem dX5_fuse_0 : decode cX5_fuse 0 = .ok (.iload_n 1, 1) := by decide +kernel
theorem dX5_fuse_1 : decode cX5_fuse 1 = .ok (.iconst 1, 1) := by decide +kernel
theorem dX5_fuse_2 : decode cX5_fuse 2 = .ok (.sipush 400, 3) := by decide +kernel
theorem dX5_fuse_5 : decode cX5_fuse 5 = .ok (.invokestatic 59, 3) := by decide +kernel
theorem dX5_fuse_8 : decode cX5_fuse 8 = .ok (.ifCond .ne 10, 3) := by decide +kernel
theorem dX5_fuse_11 : decode cX5_fuse 11 = .ok (.aload_n 0, 1) := by decide +kernel
theorem dX5_fuse_12 : decode cX5_fuse 12 = .ok (.bipush (-2), 2) := by decide +kernel
theorem dX5_fuse_14 : decode cX5_fuse 14 = .ok (.invokevirtual 63, 3) := by decide +kernel
theorem dX5_fuse_17 : decode cX5_fuse 17 = .ok (.ireturn, 1) := by decide +kernel
theorem dX5_fuse_18 : decode cX5_fuse 18 = .ok (.aload_n 0, 1) := by decide +kernel
theorem dX5_fuse_19 : decode cX5_fuse 19 = .ok (.getfield 25, 3) := by decide +kernel
theorem dX5_fuse_22 : decode cX5_fuse 22 = .ok (.istore_n 2, 1) := by decide +kernel
theorem dX5_fuse_23 : decode cX5_fuse 23 = .ok (.aload_n 0, 1) := by decide +kernel
theorem dX5_fuse_24 : decode cX5_fuse 24 = .ok (.iload_n 1, 1) := by decide +kernel
theorem dX5_fuse_25 : decode cX5_fuse 25 = .ok (.putfield 25, 3) := by decide +kernel
theorem dX5_fuse_28 : decode cX5_fuse 28 = .ok (.aload_n 0, 1) := by decide +kernel
theorem dX5_fuse_29 : decode cX5_fuse 29 = .ok (.iconst 0, 1) := by decide +kernel
theorem dX5_fuse_30 : decode cX5_fuse 30 = .ok (.putfield 67, 3) := by decide +kernel
theorem dX5_fuse_33 : decode cX5_fuse 33 = .ok (.iload_n 2, 1) := by decide +kernel
theorem dX5_fuse_34 : decode cX5_fuse 34 = .ok (.ireturn, 1) := by decide +kernel
theorem dX5_leastOf_0 : decode cX5_leastOf 0 = .ok (.iconst 1, 1) := by decide +kernel
theorem dX5_leastOf_1 : decode cX5_leastOf 1 = .ok (.iload_n 1, 1) := by decide +kernel
theorem dX5_leastOf_2 : decode cX5_leastOf 2 = .ok (.ishl, 1) := by decide +kernel
theorem dX5_leastOf_3 : decode cX5_leastOf 3 = .ok (.istore_n 2, 1) := by decide +kernel
theorem dX5_leastOf_4 : decode cX5_leastOf 4 = .ok (.iconst 0, 1) := by decide +kernel
theorem dX5_leastOf_5 : decode cX5_leastOf 5 = .ok (.istore_n 3, 1) := by decide +kernel
theorem dX5_leastOf_6 : decode cX5_leastOf 6 = .ok (.iload_n 3, 1) := by decide +kernel
theorem dX5_leastOf_7 : decode cX5_leastOf 7 = .ok (.bipush 6, 2) := by decide +kernel
theorem dX5_leastOf_9 : decode cX5_leastOf 9 = .ok (.if_icmp .ge 70, 3) := by decide +kernel
theorem dX5_leastOf_12 : decode cX5_leastOf 12 = .ok (.iconst 0, 1) := by decide +kernel
theorem dX5_leastOf_13 : decode cX5_leastOf 13 = .ok (.istore 4, 2) := by decide +kernel
theorem dX5_leastOf_15 : decode cX5_leastOf 15 = .ok (.iload 4, 2) := by decide +kernel
theorem dX5_leastOf_17 : decode cX5_leastOf 17 = .ok (.aload_n 0, 1) := by decide +kernel
theorem dX5_leastOf_18 : decode cX5_leastOf 18 = .ok (.getfield 77, 3) := by decide +kernel
theorem dX5_leastOf_21 : decode cX5_leastOf 21 = .ok (.if_icmp .ge 52, 3) := by decide +kernel
theorem dX5_leastOf_24 : decode cX5_leastOf 24 = .ok (.iconst 1, 1) := by decide +kernel
theorem dX5_leastOf_25 : decode cX5_leastOf 25 = .ok (.aload_n 0, 1) := by decide +kernel
theorem dX5_leastOf_26 : decode cX5_leastOf 26 = .ok (.getfield 29, 3) := by decide +kernel
theorem dX5_leastOf_29 : decode cX5_leastOf 29 = .ok (.iconst 2, 1) := by decide +kernel
theorem dX5_leastOf_30 : decode cX5_leastOf 30 = .ok (.iload 4, 2) := by decide +kernel
theorem dX5_leastOf_32 : decode cX5_leastOf 32 = .ok (.imul, 1) := by decide +kernel
theorem dX5_leastOf_33 : decode cX5_leastOf 33 = .ok (.iaload, 1) := by decide +kernel
theorem dX5_leastOf_34 : decode cX5_leastOf 34 = .ok (.ishl, 1) := by decide +kernel
theorem dX5_leastOf_35 : decode cX5_leastOf 35 = .ok (.iconst 1, 1) := by decide +kernel
theorem dX5_leastOf_36 : decode cX5_leastOf 36 = .ok (.aload_n 0, 1) := by decide +kernel
theorem dX5_leastOf_37 : decode cX5_leastOf 37 = .ok (.getfield 29, 3) := by decide +kernel
theorem dX5_leastOf_40 : decode cX5_leastOf 40 = .ok (.iconst 2, 1) := by decide +kernel
theorem dX5_leastOf_41 : decode cX5_leastOf 41 = .ok (.iload 4, 2) := by decide +kernel
theorem dX5_leastOf_43 : decode cX5_leastOf 43 = .ok (.imul, 1) := by decide +kernel
theorem dX5_leastOf_44 : decode cX5_leastOf 44 = .ok (.iconst 1, 1) := by decide +kernel
theorem dX5_leastOf_45 : decode cX5_leastOf 45 = .ok (.iadd, 1) := by decide +kernel
theorem dX5_leastOf_46 : decode cX5_leastOf 46 = .ok (.iaload, 1) := by decide +kernel
theorem dX5_leastOf_47 : decode cX5_leastOf 47 = .ok (.ishl, 1) := by decide +kernel
theorem dX5_leastOf_48 : decode cX5_leastOf 48 = .ok (.ior, 1) := by decide +kernel
theorem dX5_leastOf_49 : decode cX5_leastOf 49 = .ok (.istore 5, 2) := by decide +kernel
theorem dX5_leastOf_51 : decode cX5_leastOf 51 = .ok (.iload_n 2, 1) := by decide +kernel
theorem dX5_leastOf_52 : decode cX5_leastOf 52 = .ok (.iload_n 2, 1) := by decide +kernel
theorem dX5_leastOf_53 : decode cX5_leastOf 53 = .ok (.iload 5, 2) := by decide +kernel
theorem dX5_leastOf_55 : decode cX5_leastOf 55 = .ok (.iand, 1) := by decide +kernel
theorem dX5_leastOf_56 : decode cX5_leastOf 56 = .ok (.ifCond .eq 8, 3) := by decide +kernel
theorem dX5_leastOf_59 : decode cX5_leastOf 59 = .ok (.iload 5, 2) := by decide +kernel
theorem dX5_leastOf_61 : decode cX5_leastOf 61 = .ok (.goto 4, 3) := by decide +kernel
theorem dX5_leastOf_64 : decode cX5_leastOf 64 = .ok (.iconst 0, 1) := by decide +kernel
theorem dX5_leastOf_65 : decode cX5_leastOf 65 = .ok (.ior, 1) := by decide +kernel
theorem dX5_leastOf_66 : decode cX5_leastOf 66 = .ok (.istore_n 2, 1) := by decide +kernel
theorem dX5_leastOf_67 : decode cX5_leastOf 67 = .ok (.iinc 4 1, 3) := by decide +kernel
theorem dX5_leastOf_70 : decode cX5_leastOf 70 = .ok (.goto (-55), 3) := by decide +kernel
theorem dX5_leastOf_73 : decode cX5_leastOf 73 = .ok (.iinc 3 1, 3) := by decide +kernel
theorem dX5_leastOf_76 : decode cX5_leastOf 76 = .ok (.goto (-70), 3) := by decide +kernel
theorem dX5_leastOf_79 : decode cX5_leastOf 79 = .ok (.iconst 0, 1) := by decide +kernel
theorem dX5_leastOf_80 : decode cX5_leastOf 80 = .ok (.istore_n 3, 1) := by decide +kernel
theorem dX5_leastOf_81 : decode cX5_leastOf 81 = .ok (.iload_n 2, 1) := by decide +kernel
theorem dX5_leastOf_82 : decode cX5_leastOf 82 = .ok (.iload_n 3, 1) := by decide +kernel
theorem dX5_leastOf_83 : decode cX5_leastOf 83 = .ok (.ishr, 1) := by decide +kernel
theorem dX5_leastOf_84 : decode cX5_leastOf 84 = .ok (.iconst 1, 1) := by decide +kernel
theorem dX5_leastOf_85 : decode cX5_leastOf 85 = .ok (.iand, 1) := by decide +kernel
theorem dX5_leastOf_86 : decode cX5_leastOf 86 = .ok (.ifCond .ne 9, 3) := by decide +kernel
theorem dX5_leastOf_89 : decode cX5_leastOf 89 = .ok (.iinc 3 1, 3) := by decide +kernel
theorem dX5_leastOf_92 : decode cX5_leastOf 92 = .ok (.goto (-11), 3) := by decide +kernel
theorem dX5_leastOf_95 : decode cX5_leastOf 95 = .ok (.iload_n 3, 1) := by decide +kernel
theorem dX5_leastOf_96 : decode cX5_leastOf 96 = .ok (.ireturn, 1) := by decide +kernel
theorem dX5_isTied_0 : decode cX5_isTied 0 = .ok (.iconst 0, 1) := by decide +kernel
theorem dX5_isTied_1 : decode cX5_isTied 1 = .ok (.istore_n 2, 1) := by decide +kernel
theorem dX5_isTied_2 : decode cX5_isTied 2 = .ok (.iconst 0, 1) := by decide +kernel
theorem dX5_isTied_3 : decode cX5_isTied 3 = .ok (.istore_n 3, 1) := by decide +kernel
theorem dX5_isTied_4 : decode cX5_isTied 4 = .ok (.iload_n 3, 1) := by decide +kernel
theorem dX5_isTied_5 : decode cX5_isTied 5 = .ok (.iconst 2, 1) := by decide +kernel
theorem dX5_isTied_6 : decode cX5_isTied 6 = .ok (.aload_n 0, 1) := by decide +kernel
theorem dX5_isTied_7 : decode cX5_isTied 7 = .ok (.getfield 77, 3) := by decide +kernel
theorem dX5_isTied_10 : decode cX5_isTied 10 = .ok (.imul, 1) := by decide +kernel
theorem dX5_isTied_11 : decode cX5_isTied 11 = .ok (.if_icmp .ge 29, 3) := by decide +kernel
theorem dX5_isTied_14 : decode cX5_isTied 14 = .ok (.iload_n 2, 1) := by decide +kernel
theorem dX5_isTied_15 : decode cX5_isTied 15 = .ok (.ifCond .ne 13, 3) := by decide +kernel
theorem dX5_isTied_18 : decode cX5_isTied 18 = .ok (.aload_n 0, 1) := by decide +kernel
theorem dX5_isTied_19 : decode cX5_isTied 19 = .ok (.getfield 29, 3) := by decide +kernel
theorem dX5_isTied_22 : decode cX5_isTied 22 = .ok (.iload_n 3, 1) := by decide +kernel
theorem dX5_isTied_23 : decode cX5_isTied 23 = .ok (.iaload, 1) := by decide +kernel
theorem dX5_isTied_24 : decode cX5_isTied 24 = .ok (.iload_n 1, 1) := by decide +kernel
theorem dX5_isTied_25 : decode cX5_isTied 25 = .ok (.if_icmp .ne 7, 3) := by decide +kernel
theorem dX5_isTied_28 : decode cX5_isTied 28 = .ok (.iconst 1, 1) := by decide +kernel
theorem dX5_isTied_29 : decode cX5_isTied 29 = .ok (.goto 4, 3) := by decide +kernel
theorem dX5_isTied_32 : decode cX5_isTied 32 = .ok (.iconst 0, 1) := by decide +kernel
theorem dX5_isTied_33 : decode cX5_isTied 33 = .ok (.istore_n 2, 1) := by decide +kernel
theorem dX5_isTied_34 : decode cX5_isTied 34 = .ok (.iinc 3 1, 3) := by decide +kernel
theorem dX5_isTied_37 : decode cX5_isTied 37 = .ok (.goto (-33), 3) := by decide +kernel
theorem dX5_isTied_40 : decode cX5_isTied 40 = .ok (.iload_n 2, 1) := by decide +kernel
theorem dX5_isTied_41 : decode cX5_isTied 41 = .ok (.ireturn, 1) := by decide +kernel
theorem dX5_tie_0 : decode cX5_tie 0 = .ok (.aload_n 0, 1) := by decide +kernel
theorem dX5_tie_1 : decode cX5_tie 1 = .ok (.iload_n 1, 1) := by decide +kernel
theorem dX5_tie_2 : decode cX5_tie 2 = .ok (.invokevirtual 70, 3) := by decide +kernel
theorem dX5_tie_5 : decode cX5_tie 5 = .ok (.ifCond .eq 16, 3) := by decide +kernel
theorem dX5_tie_8 : decode cX5_tie 8 = .ok (.aload_n 0, 1) := by decide +kernel
theorem dX5_tie_9 : decode cX5_tie 9 = .ok (.iload_n 2, 1) := by decide +kernel
theorem dX5_tie_10 : decode cX5_tie 10 = .ok (.invokevirtual 70, 3) := by decide +kernel
theorem dX5_tie_13 : decode cX5_tie 13 = .ok (.ifCond .eq 8, 3) := by decide +kernel
theorem dX5_tie_16 : decode cX5_tie 16 = .ok (.iload_n 1, 1) := by decide +kernel
theorem dX5_tie_17 : decode cX5_tie 17 = .ok (.iload_n 2, 1) := by decide +kernel
theorem dX5_tie_18 : decode cX5_tie 18 = .ok (.if_icmp .ne 10, 3) := by decide +kernel
theorem dX5_tie_21 : decode cX5_tie 21 = .ok (.aload_n 0, 1) := by decide +kernel
theorem dX5_tie_22 : decode cX5_tie 22 = .ok (.bipush (-2), 2) := by decide +kernel
theorem dX5_tie_24 : decode cX5_tie 24 = .ok (.invokevirtual 63, 3) := by decide +kernel
theorem dX5_tie_27 : decode cX5_tie 27 = .ok (.ireturn, 1) := by decide +kernel
theorem dX5_tie_28 : decode cX5_tie 28 = .ok (.aload_n 0, 1) := by decide +kernel
theorem dX5_tie_29 : decode cX5_tie 29 = .ok (.iload_n 1, 1) := by decide +kernel
theorem dX5_tie_30 : decode cX5_tie 30 = .ok (.invokevirtual 80, 3) := by decide +kernel
theorem dX5_tie_33 : decode cX5_tie 33 = .ok (.aload_n 0, 1) := by decide +kernel
theorem dX5_tie_34 : decode cX5_tie 34 = .ok (.iload_n 2, 1) := by decide +kernel
theorem dX5_tie_35 : decode cX5_tie 35 = .ok (.invokevirtual 80, 3) := by decide +kernel
theorem dX5_tie_38 : decode cX5_tie 38 = .ok (.if_icmp .ne 10, 3) := by decide +kernel
theorem dX5_tie_41 : decode cX5_tie 41 = .ok (.aload_n 0, 1) := by decide +kernel
theorem dX5_tie_42 : decode cX5_tie 42 = .ok (.bipush (-3), 2) := by decide +kernel
theorem dX5_tie_44 : decode cX5_tie 44 = .ok (.invokevirtual 63, 3) := by decide +kernel
theorem dX5_tie_47 : decode cX5_tie 47 = .ok (.ireturn, 1) := by decide +kernel
theorem dX5_tie_48 : decode cX5_tie 48 = .ok (.aload_n 0, 1) := by decide +kernel
theorem dX5_tie_49 : decode cX5_tie 49 = .ok (.getfield 77, 3) := by decide +kernel
theorem dX5_tie_52 : decode cX5_tie 52 = .ok (.bipush 6, 2) := by decide +kernel
theorem dX5_tie_54 : decode cX5_tie 54 = .ok (.if_icmp .ne 10, 3) := by decide +kernel
theorem dX5_tie_57 : decode cX5_tie 57 = .ok (.aload_n 0, 1) := by decide +kernel
theorem dX5_tie_58 : decode cX5_tie 58 = .ok (.bipush (-4), 2) := by decide +kernel
theorem dX5_tie_60 : decode cX5_tie 60 = .ok (.invokevirtual 63, 3) := by decide +kernel
theorem dX5_tie_63 : decode cX5_tie 63 = .ok (.ireturn, 1) := by decide +kernel
theorem dX5_tie_64 : decode cX5_tie 64 = .ok (.aload_n 0, 1) := by decide +kernel
theorem dX5_tie_65 : decode cX5_tie 65 = .ok (.getfield 29, 3) := by decide +kernel
theorem dX5_tie_68 : decode cX5_tie 68 = .ok (.iconst 2, 1) := by decide +kernel
theorem dX5_tie_69 : decode cX5_tie 69 = .ok (.aload_n 0, 1) := by decide +kernel
theorem dX5_tie_70 : decode cX5_tie 70 = .ok (.getfield 77, 3) := by decide +kernel
theorem dX5_tie_73 : decode cX5_tie 73 = .ok (.imul, 1) := by decide +kernel
theorem dX5_tie_74 : decode cX5_tie 74 = .ok (.iload_n 1, 1) := by decide +kernel
theorem dX5_tie_75 : decode cX5_tie 75 = .ok (.iastore, 1) := by decide +kernel
theorem dX5_tie_76 : decode cX5_tie 76 = .ok (.aload_n 0, 1) := by decide +kernel
theorem dX5_tie_77 : decode cX5_tie 77 = .ok (.getfield 29, 3) := by decide +kernel
theorem dX5_tie_80 : decode cX5_tie 80 = .ok (.iconst 2, 1) := by decide +kernel
theorem dX5_tie_81 : decode cX5_tie 81 = .ok (.aload_n 0, 1) := by decide +kernel
theorem dX5_tie_82 : decode cX5_tie 82 = .ok (.getfield 77, 3) := by decide +kernel
theorem dX5_tie_85 : decode cX5_tie 85 = .ok (.imul, 1) := by decide +kernel
theorem dX5_tie_86 : decode cX5_tie 86 = .ok (.iconst 1, 1) := by decide +kernel
theorem dX5_tie_87 : decode cX5_tie 87 = .ok (.iadd, 1) := by decide +kernel
theorem dX5_tie_88 : decode cX5_tie 88 = .ok (.iload_n 2, 1) := by decide +kernel
theorem dX5_tie_89 : decode cX5_tie 89 = .ok (.iastore, 1) := by decide +kernel
theorem dX5_tie_90 : decode cX5_tie 90 = .ok (.aload_n 0, 1) := by decide +kernel
theorem dX5_tie_91 : decode cX5_tie 91 = .ok (.dup, 1) := by decide +kernel
theorem dX5_tie_92 : decode cX5_tie 92 = .ok (.getfield 77, 3) := by decide +kernel
theorem dX5_tie_95 : decode cX5_tie 95 = .ok (.iconst 1, 1) := by decide +kernel
theorem dX5_tie_96 : decode cX5_tie 96 = .ok (.iadd, 1) := by decide +kernel
theorem dX5_tie_97 : decode cX5_tie 97 = .ok (.putfield 77, 3) := by decide +kernel
theorem dX5_tie_100 : decode cX5_tie 100 = .ok (.aload_n 0, 1) := by decide +kernel
theorem dX5_tie_101 : decode cX5_tie 101 = .ok (.iconst 0, 1) := by decide +kernel
theorem dX5_tie_102 : decode cX5_tie 102 = .ok (.putfield 67, 3) := by decide +kernel
theorem dX5_tie_105 : decode cX5_tie 105 = .ok (.aload_n 0, 1) := by decide +kernel
theorem dX5_tie_106 : decode cX5_tie 106 = .ok (.getfield 77, 3) := by decide +kernel
theorem dX5_tie_109 : decode cX5_tie 109 = .ok (.ireturn, 1) := by decide +kernel
theorem dX5_loosens_0 : decode cX5_loosens 0 = .ok (.aload_n 0, 1) := by decide +kernel
theorem dX5_loosens_1 : decode cX5_loosens 1 = .ok (.getfield 77, 3) := by decide +kernel
theorem dX5_loosens_4 : decode cX5_loosens 4 = .ok (.istore_n 1, 1) := by decide +kernel
theorem dX5_loosens_5 : decode cX5_loosens 5 = .ok (.aload_n 0, 1) := by decide +kernel
theorem dX5_loosens_6 : decode cX5_loosens 6 = .ok (.iconst 0, 1) := by decide +kernel
theorem dX5_loosens_7 : decode cX5_loosens 7 = .ok (.putfield 77, 3) := by decide +kernel
theorem dX5_loosens_10 : decode cX5_loosens 10 = .ok (.aload_n 0, 1) := by decide +kernel
theorem dX5_loosens_11 : decode cX5_loosens 11 = .ok (.iconst 0, 1) := by decide +kernel
theorem dX5_loosens_12 : decode cX5_loosens 12 = .ok (.putfield 67, 3) := by decide +kernel
theorem dX5_loosens_15 : decode cX5_loosens 15 = .ok (.iload_n 1, 1) := by decide +kernel
theorem dX5_loosens_16 : decode cX5_loosens 16 = .ok (.ireturn, 1) := by decide +kernel
theorem dX5_anew_0 : decode cX5_anew 0 = .ok (.aload_n 0, 1) := by decide +kernel
theorem dX5_anew_1 : decode cX5_anew 1 = .ok (.getfield 56, 3) := by decide +kernel
theorem dX5_anew_4 : decode cX5_anew 4 = .ok (.istore_n 1, 1) := by decide +kernel
theorem dX5_anew_5 : decode cX5_anew 5 = .ok (.aload_n 0, 1) := by decide +kernel
theorem dX5_anew_6 : decode cX5_anew 6 = .ok (.iconst 0, 1) := by decide +kernel
theorem dX5_anew_7 : decode cX5_anew 7 = .ok (.putfield 56, 3) := by decide +kernel
theorem dX5_anew_10 : decode cX5_anew 10 = .ok (.aload_n 0, 1) := by decide +kernel
theorem dX5_anew_11 : decode cX5_anew 11 = .ok (.iconst 0, 1) := by decide +kernel
theorem dX5_anew_12 : decode cX5_anew 12 = .ok (.putfield 77, 3) := by decide +kernel
theorem dX5_anew_15 : decode cX5_anew 15 = .ok (.aload_n 0, 1) := by decide +kernel
theorem dX5_anew_16 : decode cX5_anew 16 = .ok (.iconst 0, 1) := by decide +kernel
theorem dX5_anew_17 : decode cX5_anew 17 = .ok (.putfield 67, 3) := by decide +kernel
theorem dX5_anew_20 : decode cX5_anew 20 = .ok (.aload_n 0, 1) := by decide +kernel
theorem dX5_anew_21 : decode cX5_anew 21 = .ok (.sipush 400, 3) := by decide +kernel
theorem dX5_anew_24 : decode cX5_anew 24 = .ok (.putfield 25, 3) := by decide +kernel
theorem dX5_anew_27 : decode cX5_anew 27 = .ok (.iconst 0, 1) := by decide +kernel
theorem dX5_anew_28 : decode cX5_anew 28 = .ok (.istore_n 2, 1) := by decide +kernel
theorem dX5_anew_29 : decode cX5_anew 29 = .ok (.iload_n 2, 1) := by decide +kernel
theorem dX5_anew_30 : decode cX5_anew 30 = .ok (.bipush 6, 2) := by decide +kernel
theorem dX5_anew_32 : decode cX5_anew 32 = .ok (.if_icmp .ge 16, 3) := by decide +kernel
theorem dX5_anew_35 : decode cX5_anew 35 = .ok (.aload_n 0, 1) := by decide +kernel
theorem dX5_anew_36 : decode cX5_anew 36 = .ok (.getfield 22, 3) := by decide +kernel
theorem dX5_anew_39 : decode cX5_anew 39 = .ok (.iload_n 2, 1) := by decide +kernel
theorem dX5_anew_40 : decode cX5_anew 40 = .ok (.iconst 1, 1) := by decide +kernel
theorem dX5_anew_41 : decode cX5_anew 41 = .ok (.iastore, 1) := by decide +kernel
theorem dX5_anew_42 : decode cX5_anew 42 = .ok (.iinc 2 1, 3) := by decide +kernel
theorem dX5_anew_45 : decode cX5_anew 45 = .ok (.goto (-16), 3) := by decide +kernel
theorem dX5_anew_48 : decode cX5_anew 48 = .ok (.iload_n 1, 1) := by decide +kernel
theorem dX5_anew_49 : decode cX5_anew 49 = .ok (.ireturn, 1) := by decide +kernel
theorem dX5_draw_0 : decode cX5_draw 0 = .ok (.iload_n 1, 1) := by decide +kernel
theorem dX5_draw_1 : decode cX5_draw 1 = .ok (.iconst 0, 1) := by decide +kernel
theorem dX5_draw_2 : decode cX5_draw 2 = .ok (.ldc 83, 2) := by decide +kernel
theorem dX5_draw_4 : decode cX5_draw 4 = .ok (.invokestatic 59, 3) := by decide +kernel
theorem dX5_draw_7 : decode cX5_draw 7 = .ok (.ifCond .eq 13, 3) := by decide +kernel
theorem dX5_draw_10 : decode cX5_draw 10 = .ok (.iload_n 2, 1) := by decide +kernel
theorem dX5_draw_11 : decode cX5_draw 11 = .ok (.iconst 0, 1) := by decide +kernel
theorem dX5_draw_12 : decode cX5_draw 12 = .ok (.bipush 9, 2) := by decide +kernel
theorem dX5_draw_14 : decode cX5_draw 14 = .ok (.invokestatic 59, 3) := by decide +kernel
theorem dX5_draw_17 : decode cX5_draw 17 = .ok (.ifCond .ne 10, 3) := by decide +kernel
theorem dX5_draw_20 : decode cX5_draw 20 = .ok (.aload_n 0, 1) := by decide +kernel
theorem dX5_draw_21 : decode cX5_draw 21 = .ok (.bipush (-2), 2) := by decide +kernel
theorem dX5_draw_23 : decode cX5_draw 23 = .ok (.invokevirtual 63, 3) := by decide +kernel
theorem dX5_draw_26 : decode cX5_draw 26 = .ok (.ireturn, 1) := by decide +kernel
theorem dX5_draw_27 : decode cX5_draw 27 = .ok (.aload_n 0, 1) := by decide +kernel
theorem dX5_draw_28 : decode cX5_draw 28 = .ok (.iload_n 2, 1) := by decide +kernel
theorem dX5_draw_29 : decode cX5_draw 29 = .ok (.putfield 56, 3) := by decide +kernel
theorem dX5_draw_32 : decode cX5_draw 32 = .ok (.aload_n 0, 1) := by decide +kernel
theorem dX5_draw_33 : decode cX5_draw 33 = .ok (.iconst 0, 1) := by decide +kernel
theorem dX5_draw_34 : decode cX5_draw 34 = .ok (.putfield 77, 3) := by decide +kernel
theorem dX5_draw_37 : decode cX5_draw 37 = .ok (.aload_n 0, 1) := by decide +kernel
theorem dX5_draw_38 : decode cX5_draw 38 = .ok (.iconst 0, 1) := by decide +kernel
theorem dX5_draw_39 : decode cX5_draw 39 = .ok (.putfield 67, 3) := by decide +kernel
theorem dX5_draw_42 : decode cX5_draw 42 = .ok (.iload_n 1, 1) := by decide +kernel
theorem dX5_draw_43 : decode cX5_draw 43 = .ok (.i2l, 1) := by decide +kernel
theorem dX5_draw_44 : decode cX5_draw 44 = .ok (.lstore_n 3, 1) := by decide +kernel
theorem dX5_draw_45 : decode cX5_draw 45 = .ok (.iconst 0, 1) := by decide +kernel
theorem dX5_draw_46 : decode cX5_draw 46 = .ok (.istore 5, 2) := by decide +kernel
theorem dX5_draw_48 : decode cX5_draw 48 = .ok (.iload 5, 2) := by decide +kernel
theorem dX5_draw_50 : decode cX5_draw 50 = .ok (.iload_n 2, 1) := by decide +kernel
theorem dX5_draw_51 : decode cX5_draw 51 = .ok (.if_icmp .ge 84, 3) := by decide +kernel
theorem dX5_draw_54 : decode cX5_draw 54 = .ok (.lload_n 3, 1) := by decide +kernel
theorem dX5_draw_55 : decode cX5_draw 55 = .ok (.ldc2_w 84, 3) := by decide +kernel
theorem dX5_draw_58 : decode cX5_draw 58 = .ok (.lmul, 1) := by decide +kernel
theorem dX5_draw_59 : decode cX5_draw 59 = .ok (.ldc2_w 86, 3) := by decide +kernel
theorem dX5_draw_62 : decode cX5_draw 62 = .ok (.ladd, 1) := by decide +kernel
theorem dX5_draw_63 : decode cX5_draw 63 = .ok (.ldc2_w 88, 3) := by decide +kernel
theorem dX5_draw_66 : decode cX5_draw 66 = .ok (.lrem, 1) := by decide +kernel
theorem dX5_draw_67 : decode cX5_draw 67 = .ok (.lstore_n 3, 1) := by decide +kernel
theorem dX5_draw_68 : decode cX5_draw 68 = .ok (.aload_n 0, 1) := by decide +kernel
theorem dX5_draw_69 : decode cX5_draw 69 = .ok (.getfield 7, 3) := by decide +kernel
theorem dX5_draw_72 : decode cX5_draw 72 = .ok (.iload 5, 2) := by decide +kernel
theorem dX5_draw_74 : decode cX5_draw 74 = .ok (.lload_n 3, 1) := by decide +kernel
theorem dX5_draw_75 : decode cX5_draw 75 = .ok (.ldc2_w 90, 3) := by decide +kernel
theorem dX5_draw_78 : decode cX5_draw 78 = .ok (.ldiv, 1) := by decide +kernel
theorem dX5_draw_79 : decode cX5_draw 79 = .ok (.ldc2_w 92, 3) := by decide +kernel
theorem dX5_draw_82 : decode cX5_draw 82 = .ok (.lrem, 1) := by decide +kernel
theorem dX5_draw_83 : decode cX5_draw 83 = .ok (.l2i, 1) := by decide +kernel
theorem dX5_draw_84 : decode cX5_draw 84 = .ok (.iastore, 1) := by decide +kernel
theorem dX5_draw_85 : decode cX5_draw 85 = .ok (.aload_n 0, 1) := by decide +kernel
theorem dX5_draw_86 : decode cX5_draw 86 = .ok (.getfield 13, 3) := by decide +kernel
theorem dX5_draw_89 : decode cX5_draw 89 = .ok (.iload 5, 2) := by decide +kernel
theorem dX5_draw_91 : decode cX5_draw 91 = .ok (.lload_n 3, 1) := by decide +kernel
theorem dX5_draw_92 : decode cX5_draw 92 = .ok (.ldc2_w 94, 3) := by decide +kernel
theorem dX5_draw_95 : decode cX5_draw 95 = .ok (.ldiv, 1) := by decide +kernel
theorem dX5_draw_96 : decode cX5_draw 96 = .ok (.ldc2_w 96, 3) := by decide +kernel
theorem dX5_draw_99 : decode cX5_draw 99 = .ok (.lrem, 1) := by decide +kernel
theorem dX5_draw_100 : decode cX5_draw 100 = .ok (.l2i, 1) := by decide +kernel
theorem dX5_draw_101 : decode cX5_draw 101 = .ok (.iconst 1, 1) := by decide +kernel
theorem dX5_draw_102 : decode cX5_draw 102 = .ok (.iadd, 1) := by decide +kernel
theorem dX5_draw_103 : decode cX5_draw 103 = .ok (.iastore, 1) := by decide +kernel
theorem dX5_draw_104 : decode cX5_draw 104 = .ok (.aload_n 0, 1) := by decide +kernel
theorem dX5_draw_105 : decode cX5_draw 105 = .ok (.getfield 16, 3) := by decide +kernel
theorem dX5_draw_108 : decode cX5_draw 108 = .ok (.iload 5, 2) := by decide +kernel
theorem dX5_draw_110 : decode cX5_draw 110 = .ok (.lload_n 3, 1) := by decide +kernel
theorem dX5_draw_111 : decode cX5_draw 111 = .ok (.ldc2_w 98, 3) := by decide +kernel
theorem dX5_draw_114 : decode cX5_draw 114 = .ok (.ldiv, 1) := by decide +kernel
theorem dX5_draw_115 : decode cX5_draw 115 = .ok (.ldc2_w 100, 3) := by decide +kernel
theorem dX5_draw_118 : decode cX5_draw 118 = .ok (.lrem, 1) := by decide +kernel
theorem dX5_draw_119 : decode cX5_draw 119 = .ok (.l2i, 1) := by decide +kernel
theorem dX5_draw_120 : decode cX5_draw 120 = .ok (.iastore, 1) := by decide +kernel
theorem dX5_draw_121 : decode cX5_draw 121 = .ok (.aload_n 0, 1) := by decide +kernel
theorem dX5_draw_122 : decode cX5_draw 122 = .ok (.getfield 19, 3) := by decide +kernel
theorem dX5_draw_125 : decode cX5_draw 125 = .ok (.iload 5, 2) := by decide +kernel
theorem dX5_draw_127 : decode cX5_draw 127 = .ok (.iconst 0, 1) := by decide +kernel
theorem dX5_draw_128 : decode cX5_draw 128 = .ok (.iastore, 1) := by decide +kernel
theorem dX5_draw_129 : decode cX5_draw 129 = .ok (.iinc 5 1, 3) := by decide +kernel
theorem dX5_draw_132 : decode cX5_draw 132 = .ok (.goto (-84), 3) := by decide +kernel
theorem dX5_draw_135 : decode cX5_draw 135 = .ok (.iload_n 2, 1) := by decide +kernel
theorem dX5_draw_136 : decode cX5_draw 136 = .ok (.ireturn, 1) := by decide +kernel
theorem dX5_of_0 : decode cX5_of 0 = .ok (.aload_n 0, 1) := by decide +kernel
theorem dX5_of_1 : decode cX5_of 1 = .ok (.iload_n 1, 1) := by decide +kernel
theorem dX5_of_2 : decode cX5_of 2 = .ok (.invokevirtual 70, 3) := by decide +kernel
theorem dX5_of_5 : decode cX5_of 5 = .ok (.ifCond .eq 12, 3) := by decide +kernel
theorem dX5_of_8 : decode cX5_of 8 = .ok (.iload_n 2, 1) := by decide +kernel
theorem dX5_of_9 : decode cX5_of 9 = .ok (.iconst 0, 1) := by decide +kernel
theorem dX5_of_10 : decode cX5_of 10 = .ok (.iconst 4, 1) := by decide +kernel
theorem dX5_of_11 : decode cX5_of 11 = .ok (.invokestatic 59, 3) := by decide +kernel
theorem dX5_of_14 : decode cX5_of 14 = .ok (.ifCond .ne 10, 3) := by decide +kernel
theorem dX5_of_17 : decode cX5_of 17 = .ok (.aload_n 0, 1) := by decide +kernel
theorem dX5_of_18 : decode cX5_of 18 = .ok (.bipush (-2), 2) := by decide +kernel
theorem dX5_of_20 : decode cX5_of 20 = .ok (.invokevirtual 63, 3) := by decide +kernel
theorem dX5_of_23 : decode cX5_of 23 = .ok (.ireturn, 1) := by decide +kernel
theorem dX5_of_24 : decode cX5_of 24 = .ok (.iload_n 2, 1) := by decide +kernel
theorem dX5_of_25 : decode cX5_of 25 = .ok (.ifCond .ne 12, 3) := by decide +kernel
theorem dX5_of_28 : decode cX5_of 28 = .ok (.aload_n 0, 1) := by decide +kernel
theorem dX5_of_29 : decode cX5_of 29 = .ok (.getfield 7, 3) := by decide +kernel
theorem dX5_of_32 : decode cX5_of 32 = .ok (.iload_n 1, 1) := by decide +kernel
theorem dX5_of_33 : decode cX5_of 33 = .ok (.iaload, 1) := by decide +kernel
theorem dX5_of_34 : decode cX5_of 34 = .ok (.goto 50, 3) := by decide +kernel
theorem dX5_of_37 : decode cX5_of 37 = .ok (.iload_n 2, 1) := by decide +kernel
theorem dX5_of_38 : decode cX5_of 38 = .ok (.iconst 1, 1) := by decide +kernel
theorem dX5_of_39 : decode cX5_of 39 = .ok (.if_icmp .ne 12, 3) := by decide +kernel
theorem dX5_of_42 : decode cX5_of 42 = .ok (.aload_n 0, 1) := by decide +kernel
theorem dX5_of_43 : decode cX5_of 43 = .ok (.getfield 13, 3) := by decide +kernel
theorem dX5_of_46 : decode cX5_of 46 = .ok (.iload_n 1, 1) := by decide +kernel
theorem dX5_of_47 : decode cX5_of 47 = .ok (.iaload, 1) := by decide +kernel
theorem dX5_of_48 : decode cX5_of 48 = .ok (.goto 36, 3) := by decide +kernel
theorem dX5_of_51 : decode cX5_of 51 = .ok (.iload_n 2, 1) := by decide +kernel
theorem dX5_of_52 : decode cX5_of 52 = .ok (.iconst 2, 1) := by decide +kernel
theorem dX5_of_53 : decode cX5_of 53 = .ok (.if_icmp .ne 12, 3) := by decide +kernel
theorem dX5_of_56 : decode cX5_of 56 = .ok (.aload_n 0, 1) := by decide +kernel
theorem dX5_of_57 : decode cX5_of 57 = .ok (.getfield 16, 3) := by decide +kernel
theorem dX5_of_60 : decode cX5_of 60 = .ok (.iload_n 1, 1) := by decide +kernel
theorem dX5_of_61 : decode cX5_of 61 = .ok (.iaload, 1) := by decide +kernel
theorem dX5_of_62 : decode cX5_of 62 = .ok (.goto 22, 3) := by decide +kernel
theorem dX5_of_65 : decode cX5_of 65 = .ok (.iload_n 2, 1) := by decide +kernel
theorem dX5_of_66 : decode cX5_of 66 = .ok (.iconst 3, 1) := by decide +kernel
theorem dX5_of_67 : decode cX5_of 67 = .ok (.if_icmp .ne 12, 3) := by decide +kernel
theorem dX5_of_70 : decode cX5_of 70 = .ok (.aload_n 0, 1) := by decide +kernel
theorem dX5_of_71 : decode cX5_of 71 = .ok (.getfield 19, 3) := by decide +kernel
theorem dX5_of_74 : decode cX5_of 74 = .ok (.iload_n 1, 1) := by decide +kernel
theorem dX5_of_75 : decode cX5_of 75 = .ok (.iaload, 1) := by decide +kernel
theorem dX5_of_76 : decode cX5_of 76 = .ok (.goto 8, 3) := by decide +kernel
theorem dX5_of_79 : decode cX5_of 79 = .ok (.aload_n 0, 1) := by decide +kernel
theorem dX5_of_80 : decode cX5_of 80 = .ok (.iload_n 1, 1) := by decide +kernel
theorem dX5_of_81 : decode cX5_of 81 = .ok (.invokevirtual 80, 3) := by decide +kernel
theorem dX5_of_84 : decode cX5_of 84 = .ok (.ireturn, 1) := by decide +kernel
theorem dX5_takesOf_0 : decode cX5_takesOf 0 = .ok (.aload_n 0, 1) := by decide +kernel
theorem dX5_takesOf_1 : decode cX5_takesOf 1 = .ok (.getfield 13, 3) := by decide +kernel
theorem dX5_takesOf_4 : decode cX5_takesOf 4 = .ok (.iload_n 1, 1) := by decide +kernel
theorem dX5_takesOf_5 : decode cX5_takesOf 5 = .ok (.iaload, 1) := by decide +kernel
theorem dX5_takesOf_6 : decode cX5_takesOf 6 = .ok (.istore_n 3, 1) := by decide +kernel
theorem dX5_takesOf_7 : decode cX5_takesOf 7 = .ok (.iload_n 2, 1) := by decide +kernel
theorem dX5_takesOf_8 : decode cX5_takesOf 8 = .ok (.iconst 2, 1) := by decide +kernel
theorem dX5_takesOf_9 : decode cX5_takesOf 9 = .ok (.if_icmp .eq 8, 3) := by decide +kernel
theorem dX5_takesOf_12 : decode cX5_takesOf 12 = .ok (.iload_n 2, 1) := by decide +kernel
theorem dX5_takesOf_13 : decode cX5_takesOf 13 = .ok (.iconst 3, 1) := by decide +kernel
theorem dX5_takesOf_14 : decode cX5_takesOf 14 = .ok (.if_icmp .ne 7, 3) := by decide +kernel
theorem dX5_takesOf_17 : decode cX5_takesOf 17 = .ok (.iconst 1, 1) := by decide +kernel
theorem dX5_takesOf_18 : decode cX5_takesOf 18 = .ok (.goto 4, 3) := by decide +kernel
theorem dX5_takesOf_21 : decode cX5_takesOf 21 = .ok (.iconst 0, 1) := by decide +kernel
theorem dX5_takesOf_22 : decode cX5_takesOf 22 = .ok (.istore 4, 2) := by decide +kernel
theorem dX5_takesOf_24 : decode cX5_takesOf 24 = .ok (.aload_n 0, 1) := by decide +kernel
theorem dX5_takesOf_25 : decode cX5_takesOf 25 = .ok (.getfield 7, 3) := by decide +kernel
theorem dX5_takesOf_28 : decode cX5_takesOf 28 = .ok (.iload_n 1, 1) := by decide +kernel
theorem dX5_takesOf_29 : decode cX5_takesOf 29 = .ok (.iaload, 1) := by decide +kernel
theorem dX5_takesOf_30 : decode cX5_takesOf 30 = .ok (.tableswitch 104 0 4 #[34, 36, 49, 60, 86], 34) := by decide +kernel
theorem dX5_takesOf_64 : decode cX5_takesOf 64 = .ok (.iload_n 3, 1) := by decide +kernel
theorem dX5_takesOf_65 : decode cX5_takesOf 65 = .ok (.ireturn, 1) := by decide +kernel
theorem dX5_takesOf_66 : decode cX5_takesOf 66 = .ok (.iload 4, 2) := by decide +kernel
theorem dX5_takesOf_68 : decode cX5_takesOf 68 = .ok (.ifCond .eq 9, 3) := by decide +kernel
theorem dX5_takesOf_71 : decode cX5_takesOf 71 = .ok (.iconst 2, 1) := by decide +kernel
theorem dX5_takesOf_72 : decode cX5_takesOf 72 = .ok (.iload_n 3, 1) := by decide +kernel
theorem dX5_takesOf_73 : decode cX5_takesOf 73 = .ok (.imul, 1) := by decide +kernel
theorem dX5_takesOf_74 : decode cX5_takesOf 74 = .ok (.goto 4, 3) := by decide +kernel
theorem dX5_takesOf_77 : decode cX5_takesOf 77 = .ok (.iload_n 3, 1) := by decide +kernel
theorem dX5_takesOf_78 : decode cX5_takesOf 78 = .ok (.ireturn, 1) := by decide +kernel
theorem dX5_takesOf_79 : decode cX5_takesOf 79 = .ok (.iload 4, 2) := by decide +kernel
theorem dX5_takesOf_81 : decode cX5_takesOf 81 = .ok (.ifCond .eq 7, 3) := by decide +kernel
theorem dX5_takesOf_84 : decode cX5_takesOf 84 = .ok (.iconst 0, 1) := by decide +kernel
theorem dX5_takesOf_85 : decode cX5_takesOf 85 = .ok (.goto 4, 3) := by decide +kernel
theorem dX5_takesOf_88 : decode cX5_takesOf 88 = .ok (.iload_n 3, 1) := by decide +kernel
theorem dX5_takesOf_89 : decode cX5_takesOf 89 = .ok (.ireturn, 1) := by decide +kernel
theorem dX5_takesOf_90 : decode cX5_takesOf 90 = .ok (.iload_n 2, 1) := by decide +kernel
theorem dX5_takesOf_91 : decode cX5_takesOf 91 = .ok (.ifCond .eq 8, 3) := by decide +kernel
theorem dX5_takesOf_94 : decode cX5_takesOf 94 = .ok (.iload_n 2, 1) := by decide +kernel
theorem dX5_takesOf_95 : decode cX5_takesOf 95 = .ok (.iconst 5, 1) := by decide +kernel
theorem dX5_takesOf_96 : decode cX5_takesOf 96 = .ok (.if_icmp .ne 7, 3) := by decide +kernel
theorem dX5_takesOf_99 : decode cX5_takesOf 99 = .ok (.iconst 0, 1) := by decide +kernel
theorem dX5_takesOf_100 : decode cX5_takesOf 100 = .ok (.goto 15, 3) := by decide +kernel
theorem dX5_takesOf_103 : decode cX5_takesOf 103 = .ok (.iload 4, 2) := by decide +kernel
theorem dX5_takesOf_105 : decode cX5_takesOf 105 = .ok (.ifCond .eq 9, 3) := by decide +kernel
theorem dX5_takesOf_108 : decode cX5_takesOf 108 = .ok (.iconst 2, 1) := by decide +kernel
theorem dX5_takesOf_109 : decode cX5_takesOf 109 = .ok (.iload_n 3, 1) := by decide +kernel
theorem dX5_takesOf_110 : decode cX5_takesOf 110 = .ok (.imul, 1) := by decide +kernel
theorem dX5_takesOf_111 : decode cX5_takesOf 111 = .ok (.goto 4, 3) := by decide +kernel
theorem dX5_takesOf_114 : decode cX5_takesOf 114 = .ok (.iload_n 3, 1) := by decide +kernel
theorem dX5_takesOf_115 : decode cX5_takesOf 115 = .ok (.ireturn, 1) := by decide +kernel
theorem dX5_takesOf_116 : decode cX5_takesOf 116 = .ok (.iload_n 2, 1) := by decide +kernel
theorem dX5_takesOf_117 : decode cX5_takesOf 117 = .ok (.iconst 1, 1) := by decide +kernel
theorem dX5_takesOf_118 : decode cX5_takesOf 118 = .ok (.if_icmp .eq 8, 3) := by decide +kernel
theorem dX5_takesOf_121 : decode cX5_takesOf 121 = .ok (.iload_n 2, 1) := by decide +kernel
theorem dX5_takesOf_122 : decode cX5_takesOf 122 = .ok (.iconst 4, 1) := by decide +kernel
theorem dX5_takesOf_123 : decode cX5_takesOf 123 = .ok (.if_icmp .ne 9, 3) := by decide +kernel
theorem dX5_takesOf_126 : decode cX5_takesOf 126 = .ok (.iconst 3, 1) := by decide +kernel
theorem dX5_takesOf_127 : decode cX5_takesOf 127 = .ok (.iload_n 3, 1) := by decide +kernel
theorem dX5_takesOf_128 : decode cX5_takesOf 128 = .ok (.imul, 1) := by decide +kernel
theorem dX5_takesOf_129 : decode cX5_takesOf 129 = .ok (.goto 4, 3) := by decide +kernel
theorem dX5_takesOf_132 : decode cX5_takesOf 132 = .ok (.iconst 0, 1) := by decide +kernel
theorem dX5_takesOf_133 : decode cX5_takesOf 133 = .ok (.ireturn, 1) := by decide +kernel
theorem dX5_takesOf_134 : decode cX5_takesOf 134 = .ok (.iload_n 2, 1) := by decide +kernel
theorem dX5_takesOf_135 : decode cX5_takesOf 135 = .ok (.ifCond .eq 8, 3) := by decide +kernel
theorem dX5_takesOf_138 : decode cX5_takesOf 138 = .ok (.iload_n 2, 1) := by decide +kernel
theorem dX5_takesOf_139 : decode cX5_takesOf 139 = .ok (.iconst 1, 1) := by decide +kernel
theorem dX5_takesOf_140 : decode cX5_takesOf 140 = .ok (.if_icmp .ne 7, 3) := by decide +kernel
theorem dX5_takesOf_143 : decode cX5_takesOf 143 = .ok (.iconst 0, 1) := by decide +kernel
theorem dX5_takesOf_144 : decode cX5_takesOf 144 = .ok (.goto 5, 3) := by decide +kernel
theorem dX5_takesOf_147 : decode cX5_takesOf 147 = .ok (.iload_n 3, 1) := by decide +kernel
theorem dX5_takesOf_148 : decode cX5_takesOf 148 = .ok (.ineg, 1) := by decide +kernel
theorem dX5_takesOf_149 : decode cX5_takesOf 149 = .ok (.ireturn, 1) := by decide +kernel
theorem dX5_takes_0 : decode cX5_takes 0 = .ok (.aload_n 0, 1) := by decide +kernel
theorem dX5_takes_1 : decode cX5_takes 1 = .ok (.iload_n 1, 1) := by decide +kernel
theorem dX5_takes_2 : decode cX5_takes 2 = .ok (.invokevirtual 70, 3) := by decide +kernel
theorem dX5_takes_5 : decode cX5_takes 5 = .ok (.ifCond .eq 19, 3) := by decide +kernel
theorem dX5_takes_8 : decode cX5_takes 8 = .ok (.iload_n 2, 1) := by decide +kernel
theorem dX5_takes_9 : decode cX5_takes 9 = .ok (.invokestatic 74, 3) := by decide +kernel
theorem dX5_takes_12 : decode cX5_takes 12 = .ok (.ifCond .eq 12, 3) := by decide +kernel
theorem dX5_takes_15 : decode cX5_takes 15 = .ok (.aload_n 0, 1) := by decide +kernel
theorem dX5_takes_16 : decode cX5_takes 16 = .ok (.iload_n 1, 1) := by decide +kernel
theorem dX5_takes_17 : decode cX5_takes 17 = .ok (.iload_n 2, 1) := by decide +kernel
theorem dX5_takes_18 : decode cX5_takes 18 = .ok (.invokevirtual 102, 3) := by decide +kernel
theorem dX5_takes_21 : decode cX5_takes 21 = .ok (.goto 9, 3) := by decide +kernel
theorem dX5_takes_24 : decode cX5_takes 24 = .ok (.aload_n 0, 1) := by decide +kernel
theorem dX5_takes_25 : decode cX5_takes 25 = .ok (.bipush (-2), 2) := by decide +kernel
theorem dX5_takes_27 : decode cX5_takes 27 = .ok (.invokevirtual 63, 3) := by decide +kernel
theorem dX5_takes_30 : decode cX5_takes 30 = .ok (.ireturn, 1) := by decide +kernel
theorem dX5_table_0 : decode cX5_table 0 = .ok (.iconst 0, 1) := by decide +kernel
theorem dX5_table_1 : decode cX5_table 1 = .ok (.istore_n 1, 1) := by decide +kernel
theorem dX5_table_2 : decode cX5_table 2 = .ok (.iload_n 1, 1) := by decide +kernel
theorem dX5_table_3 : decode cX5_table 3 = .ok (.aload_n 0, 1) := by decide +kernel
theorem dX5_table_4 : decode cX5_table 4 = .ok (.getfield 56, 3) := by decide +kernel
theorem dX5_table_7 : decode cX5_table 7 = .ok (.if_icmp .ge 40, 3) := by decide +kernel
theorem dX5_table_10 : decode cX5_table 10 = .ok (.iconst 0, 1) := by decide +kernel
theorem dX5_table_11 : decode cX5_table 11 = .ok (.istore_n 2, 1) := by decide +kernel
theorem dX5_table_12 : decode cX5_table 12 = .ok (.iload_n 2, 1) := by decide +kernel
theorem dX5_table_13 : decode cX5_table 13 = .ok (.bipush 6, 2) := by decide +kernel
theorem dX5_table_15 : decode cX5_table 15 = .ok (.if_icmp .ge 26, 3) := by decide +kernel
theorem dX5_table_18 : decode cX5_table 18 = .ok (.aload_n 0, 1) := by decide +kernel
theorem dX5_table_19 : decode cX5_table 19 = .ok (.getfield 38, 3) := by decide +kernel
theorem dX5_table_22 : decode cX5_table 22 = .ok (.bipush 6, 2) := by decide +kernel
theorem dX5_table_24 : decode cX5_table 24 = .ok (.iload_n 1, 1) := by decide +kernel
theorem dX5_table_25 : decode cX5_table 25 = .ok (.imul, 1) := by decide +kernel
theorem dX5_table_26 : decode cX5_table 26 = .ok (.iload_n 2, 1) := by decide +kernel
theorem dX5_table_27 : decode cX5_table 27 = .ok (.iadd, 1) := by decide +kernel
theorem dX5_table_28 : decode cX5_table 28 = .ok (.aload_n 0, 1) := by decide +kernel
theorem dX5_table_29 : decode cX5_table 29 = .ok (.iload_n 1, 1) := by decide +kernel
theorem dX5_table_30 : decode cX5_table 30 = .ok (.iload_n 2, 1) := by decide +kernel
theorem dX5_table_31 : decode cX5_table 31 = .ok (.invokevirtual 102, 3) := by decide +kernel
theorem dX5_table_34 : decode cX5_table 34 = .ok (.iastore, 1) := by decide +kernel
theorem dX5_table_35 : decode cX5_table 35 = .ok (.iinc 2 1, 3) := by decide +kernel
theorem dX5_table_38 : decode cX5_table 38 = .ok (.goto (-26), 3) := by decide +kernel
theorem dX5_table_41 : decode cX5_table 41 = .ok (.iinc 1 1, 3) := by decide +kernel
theorem dX5_table_44 : decode cX5_table 44 = .ok (.goto (-42), 3) := by decide +kernel
theorem dX5_table_47 : decode cX5_table 47 = .ok (.return_, 1) := by decide +kernel
theorem dX5_loadsNow_0 : decode cX5_loadsNow 0 = .ok (.iconst 0, 1) := by decide +kernel
theorem dX5_loadsNow_1 : decode cX5_loadsNow 1 = .ok (.istore_n 1, 1) := by decide +kernel
theorem dX5_loadsNow_2 : decode cX5_loadsNow 2 = .ok (.iload_n 1, 1) := by decide +kernel
theorem dX5_loadsNow_3 : decode cX5_loadsNow 3 = .ok (.bipush 18, 2) := by decide +kernel
theorem dX5_loadsNow_5 : decode cX5_loadsNow 5 = .ok (.if_icmp .ge 16, 3) := by decide +kernel
theorem dX5_loadsNow_8 : decode cX5_loadsNow 8 = .ok (.aload_n 0, 1) := by decide +kernel
theorem dX5_loadsNow_9 : decode cX5_loadsNow 9 = .ok (.getfield 41, 3) := by decide +kernel
theorem dX5_loadsNow_12 : decode cX5_loadsNow 12 = .ok (.iload_n 1, 1) := by decide +kernel
theorem dX5_loadsNow_13 : decode cX5_loadsNow 13 = .ok (.iconst 0, 1) := by decide +kernel
theorem dX5_loadsNow_14 : decode cX5_loadsNow 14 = .ok (.iastore, 1) := by decide +kernel
theorem dX5_loadsNow_15 : decode cX5_loadsNow 15 = .ok (.iinc 1 1, 3) := by decide +kernel
theorem dX5_loadsNow_18 : decode cX5_loadsNow 18 = .ok (.goto (-16), 3) := by decide +kernel
theorem dX5_loadsNow_21 : decode cX5_loadsNow 21 = .ok (.iconst 0, 1) := by decide +kernel
theorem dX5_loadsNow_22 : decode cX5_loadsNow 22 = .ok (.istore_n 1, 1) := by decide +kernel
theorem dX5_loadsNow_23 : decode cX5_loadsNow 23 = .ok (.iload_n 1, 1) := by decide +kernel
theorem dX5_loadsNow_24 : decode cX5_loadsNow 24 = .ok (.aload_n 0, 1) := by decide +kernel
theorem dX5_loadsNow_25 : decode cX5_loadsNow 25 = .ok (.getfield 56, 3) := by decide +kernel
theorem dX5_loadsNow_28 : decode cX5_loadsNow 28 = .ok (.if_icmp .ge 52, 3) := by decide +kernel
theorem dX5_loadsNow_31 : decode cX5_loadsNow 31 = .ok (.iconst 0, 1) := by decide +kernel
theorem dX5_loadsNow_32 : decode cX5_loadsNow 32 = .ok (.istore_n 2, 1) := by decide +kernel
theorem dX5_loadsNow_33 : decode cX5_loadsNow 33 = .ok (.iload_n 2, 1) := by decide +kernel
theorem dX5_loadsNow_34 : decode cX5_loadsNow 34 = .ok (.bipush 6, 2) := by decide +kernel
theorem dX5_loadsNow_36 : decode cX5_loadsNow 36 = .ok (.if_icmp .ge 38, 3) := by decide +kernel
theorem dX5_loadsNow_39 : decode cX5_loadsNow 39 = .ok (.aload_n 0, 1) := by decide +kernel
theorem dX5_loadsNow_40 : decode cX5_loadsNow 40 = .ok (.getfield 41, 3) := by decide +kernel
theorem dX5_loadsNow_43 : decode cX5_loadsNow 43 = .ok (.iconst 3, 1) := by decide +kernel
theorem dX5_loadsNow_44 : decode cX5_loadsNow 44 = .ok (.iload_n 2, 1) := by decide +kernel
theorem dX5_loadsNow_45 : decode cX5_loadsNow 45 = .ok (.imul, 1) := by decide +kernel
theorem dX5_loadsNow_46 : decode cX5_loadsNow 46 = .ok (.aload_n 0, 1) := by decide +kernel
theorem dX5_loadsNow_47 : decode cX5_loadsNow 47 = .ok (.getfield 44, 3) := by decide +kernel
theorem dX5_loadsNow_50 : decode cX5_loadsNow 50 = .ok (.iload_n 1, 1) := by decide +kernel
theorem dX5_loadsNow_51 : decode cX5_loadsNow 51 = .ok (.iaload, 1) := by decide +kernel
theorem dX5_loadsNow_52 : decode cX5_loadsNow 52 = .ok (.iadd, 1) := by decide +kernel
theorem dX5_loadsNow_53 : decode cX5_loadsNow 53 = .ok (.dup2, 1) := by decide +kernel
theorem dX5_loadsNow_54 : decode cX5_loadsNow 54 = .ok (.iaload, 1) := by decide +kernel
theorem dX5_loadsNow_55 : decode cX5_loadsNow 55 = .ok (.aload_n 0, 1) := by decide +kernel
theorem dX5_loadsNow_56 : decode cX5_loadsNow 56 = .ok (.getfield 38, 3) := by decide +kernel
theorem dX5_loadsNow_59 : decode cX5_loadsNow 59 = .ok (.bipush 6, 2) := by decide +kernel
theorem dX5_loadsNow_61 : decode cX5_loadsNow 61 = .ok (.iload_n 1, 1) := by decide +kernel
theorem dX5_loadsNow_62 : decode cX5_loadsNow 62 = .ok (.imul, 1) := by decide +kernel
theorem dX5_loadsNow_63 : decode cX5_loadsNow 63 = .ok (.iload_n 2, 1) := by decide +kernel
theorem dX5_loadsNow_64 : decode cX5_loadsNow 64 = .ok (.iadd, 1) := by decide +kernel
theorem dX5_loadsNow_65 : decode cX5_loadsNow 65 = .ok (.iaload, 1) := by decide +kernel
theorem dX5_loadsNow_66 : decode cX5_loadsNow 66 = .ok (.iadd, 1) := by decide +kernel
theorem dX5_loadsNow_67 : decode cX5_loadsNow 67 = .ok (.iastore, 1) := by decide +kernel
theorem dX5_loadsNow_68 : decode cX5_loadsNow 68 = .ok (.iinc 2 1, 3) := by decide +kernel
theorem dX5_loadsNow_71 : decode cX5_loadsNow 71 = .ok (.goto (-38), 3) := by decide +kernel
theorem dX5_loadsNow_74 : decode cX5_loadsNow 74 = .ok (.iinc 1 1, 3) := by decide +kernel
theorem dX5_loadsNow_77 : decode cX5_loadsNow 77 = .ok (.goto (-54), 3) := by decide +kernel
theorem dX5_loadsNow_80 : decode cX5_loadsNow 80 = .ok (.return_, 1) := by decide +kernel
theorem dX5_asIs_0 : decode cX5_asIs 0 = .ok (.aload_n 0, 1) := by decide +kernel
theorem dX5_asIs_1 : decode cX5_asIs 1 = .ok (.invokevirtual 106, 3) := by decide +kernel
theorem dX5_asIs_4 : decode cX5_asIs 4 = .ok (.iconst 0, 1) := by decide +kernel
theorem dX5_asIs_5 : decode cX5_asIs 5 = .ok (.istore_n 1, 1) := by decide +kernel
theorem dX5_asIs_6 : decode cX5_asIs 6 = .ok (.iload_n 1, 1) := by decide +kernel
theorem dX5_asIs_7 : decode cX5_asIs 7 = .ok (.aload_n 0, 1) := by decide +kernel
theorem dX5_asIs_8 : decode cX5_asIs 8 = .ok (.getfield 56, 3) := by decide +kernel
theorem dX5_asIs_11 : decode cX5_asIs 11 = .ok (.if_icmp .ge 21, 3) := by decide +kernel
theorem dX5_asIs_14 : decode cX5_asIs 14 = .ok (.aload_n 0, 1) := by decide +kernel
theorem dX5_asIs_15 : decode cX5_asIs 15 = .ok (.getfield 44, 3) := by decide +kernel
theorem dX5_asIs_18 : decode cX5_asIs 18 = .ok (.iload_n 1, 1) := by decide +kernel
theorem dX5_asIs_19 : decode cX5_asIs 19 = .ok (.aload_n 0, 1) := by decide +kernel
theorem dX5_asIs_20 : decode cX5_asIs 20 = .ok (.getfield 16, 3) := by decide +kernel
theorem dX5_asIs_23 : decode cX5_asIs 23 = .ok (.iload_n 1, 1) := by decide +kernel
theorem dX5_asIs_24 : decode cX5_asIs 24 = .ok (.iaload, 1) := by decide +kernel
theorem dX5_asIs_25 : decode cX5_asIs 25 = .ok (.iastore, 1) := by decide +kernel
theorem dX5_asIs_26 : decode cX5_asIs 26 = .ok (.iinc 1 1, 3) := by decide +kernel
theorem dX5_asIs_29 : decode cX5_asIs 29 = .ok (.goto (-23), 3) := by decide +kernel
theorem dX5_asIs_32 : decode cX5_asIs 32 = .ok (.aload_n 0, 1) := by decide +kernel
theorem dX5_asIs_33 : decode cX5_asIs 33 = .ok (.invokevirtual 109, 3) := by decide +kernel
theorem dX5_asIs_36 : decode cX5_asIs 36 = .ok (.return_, 1) := by decide +kernel
theorem dX5_neutralNow_0 : decode cX5_neutralNow 0 = .ok (.aload_n 0, 1) := by decide +kernel
theorem dX5_neutralNow_1 : decode cX5_neutralNow 1 = .ok (.getfield 41, 3) := by decide +kernel
theorem dX5_neutralNow_4 : decode cX5_neutralNow 4 = .ok (.iconst 3, 1) := by decide +kernel
theorem dX5_neutralNow_5 : decode cX5_neutralNow 5 = .ok (.iload_n 1, 1) := by decide +kernel
theorem dX5_neutralNow_6 : decode cX5_neutralNow 6 = .ok (.imul, 1) := by decide +kernel
theorem dX5_neutralNow_7 : decode cX5_neutralNow 7 = .ok (.iaload, 1) := by decide +kernel
theorem dX5_neutralNow_8 : decode cX5_neutralNow 8 = .ok (.istore_n 2, 1) := by decide +kernel
theorem dX5_neutralNow_9 : decode cX5_neutralNow 9 = .ok (.aload_n 0, 1) := by decide +kernel
theorem dX5_neutralNow_10 : decode cX5_neutralNow 10 = .ok (.getfield 41, 3) := by decide +kernel
theorem dX5_neutralNow_13 : decode cX5_neutralNow 13 = .ok (.iconst 3, 1) := by decide +kernel
theorem dX5_neutralNow_14 : decode cX5_neutralNow 14 = .ok (.iload_n 1, 1) := by decide +kernel
theorem dX5_neutralNow_15 : decode cX5_neutralNow 15 = .ok (.imul, 1) := by decide +kernel
theorem dX5_neutralNow_16 : decode cX5_neutralNow 16 = .ok (.iconst 1, 1) := by decide +kernel
theorem dX5_neutralNow_17 : decode cX5_neutralNow 17 = .ok (.iadd, 1) := by decide +kernel
theorem dX5_neutralNow_18 : decode cX5_neutralNow 18 = .ok (.iaload, 1) := by decide +kernel
theorem dX5_neutralNow_19 : decode cX5_neutralNow 19 = .ok (.istore_n 3, 1) := by decide +kernel
theorem dX5_neutralNow_20 : decode cX5_neutralNow 20 = .ok (.aload_n 0, 1) := by decide +kernel
theorem dX5_neutralNow_21 : decode cX5_neutralNow 21 = .ok (.getfield 41, 3) := by decide +kernel
theorem dX5_neutralNow_24 : decode cX5_neutralNow 24 = .ok (.iconst 3, 1) := by decide +kernel
theorem dX5_neutralNow_25 : decode cX5_neutralNow 25 = .ok (.iload_n 1, 1) := by decide +kernel
theorem dX5_neutralNow_26 : decode cX5_neutralNow 26 = .ok (.imul, 1) := by decide +kernel
theorem dX5_neutralNow_27 : decode cX5_neutralNow 27 = .ok (.iconst 2, 1) := by decide +kernel
theorem dX5_neutralNow_28 : decode cX5_neutralNow 28 = .ok (.iadd, 1) := by decide +kernel
theorem dX5_neutralNow_29 : decode cX5_neutralNow 29 = .ok (.iaload, 1) := by decide +kernel
theorem dX5_neutralNow_30 : decode cX5_neutralNow 30 = .ok (.istore 4, 2) := by decide +kernel
theorem dX5_neutralNow_32 : decode cX5_neutralNow 32 = .ok (.iload_n 2, 1) := by decide +kernel
theorem dX5_neutralNow_33 : decode cX5_neutralNow 33 = .ok (.iload_n 2, 1) := by decide +kernel
theorem dX5_neutralNow_34 : decode cX5_neutralNow 34 = .ok (.imul, 1) := by decide +kernel
theorem dX5_neutralNow_35 : decode cX5_neutralNow 35 = .ok (.iload_n 3, 1) := by decide +kernel
theorem dX5_neutralNow_36 : decode cX5_neutralNow 36 = .ok (.iload_n 3, 1) := by decide +kernel
theorem dX5_neutralNow_37 : decode cX5_neutralNow 37 = .ok (.imul, 1) := by decide +kernel
theorem dX5_neutralNow_38 : decode cX5_neutralNow 38 = .ok (.iadd, 1) := by decide +kernel
theorem dX5_neutralNow_39 : decode cX5_neutralNow 39 = .ok (.iload 4, 2) := by decide +kernel
theorem dX5_neutralNow_41 : decode cX5_neutralNow 41 = .ok (.iload 4, 2) := by decide +kernel
theorem dX5_neutralNow_43 : decode cX5_neutralNow 43 = .ok (.imul, 1) := by decide +kernel
theorem dX5_neutralNow_44 : decode cX5_neutralNow 44 = .ok (.iadd, 1) := by decide +kernel
theorem dX5_neutralNow_45 : decode cX5_neutralNow 45 = .ok (.iload_n 2, 1) := by decide +kernel
theorem dX5_neutralNow_46 : decode cX5_neutralNow 46 = .ok (.iload_n 3, 1) := by decide +kernel
theorem dX5_neutralNow_47 : decode cX5_neutralNow 47 = .ok (.imul, 1) := by decide +kernel
theorem dX5_neutralNow_48 : decode cX5_neutralNow 48 = .ok (.isub, 1) := by decide +kernel
theorem dX5_neutralNow_49 : decode cX5_neutralNow 49 = .ok (.iload_n 3, 1) := by decide +kernel
theorem dX5_neutralNow_50 : decode cX5_neutralNow 50 = .ok (.iload 4, 2) := by decide +kernel
theorem dX5_neutralNow_52 : decode cX5_neutralNow 52 = .ok (.imul, 1) := by decide +kernel
theorem dX5_neutralNow_53 : decode cX5_neutralNow 53 = .ok (.isub, 1) := by decide +kernel
theorem dX5_neutralNow_54 : decode cX5_neutralNow 54 = .ok (.iload 4, 2) := by decide +kernel
theorem dX5_neutralNow_56 : decode cX5_neutralNow 56 = .ok (.iload_n 2, 1) := by decide +kernel
theorem dX5_neutralNow_57 : decode cX5_neutralNow 57 = .ok (.imul, 1) := by decide +kernel
theorem dX5_neutralNow_58 : decode cX5_neutralNow 58 = .ok (.isub, 1) := by decide +kernel
theorem dX5_neutralNow_59 : decode cX5_neutralNow 59 = .ok (.ireturn, 1) := by decide +kernel
theorem dX5_griefNow_0 : decode cX5_griefNow 0 = .ok (.iconst 0, 1) := by decide +kernel
theorem dX5_griefNow_1 : decode cX5_griefNow 1 = .ok (.istore_n 1, 1) := by decide +kernel
theorem dX5_griefNow_2 : decode cX5_griefNow 2 = .ok (.iconst 0, 1) := by decide +kernel
theorem dX5_griefNow_3 : decode cX5_griefNow 3 = .ok (.istore_n 2, 1) := by decide +kernel
theorem dX5_griefNow_4 : decode cX5_griefNow 4 = .ok (.iload_n 2, 1) := by decide +kernel
theorem dX5_griefNow_5 : decode cX5_griefNow 5 = .ok (.bipush 6, 2) := by decide +kernel
theorem dX5_griefNow_7 : decode cX5_griefNow 7 = .ok (.if_icmp .ge 24, 3) := by decide +kernel
theorem dX5_griefNow_10 : decode cX5_griefNow 10 = .ok (.iload_n 1, 1) := by decide +kernel
theorem dX5_griefNow_11 : decode cX5_griefNow 11 = .ok (.aload_n 0, 1) := by decide +kernel
theorem dX5_griefNow_12 : decode cX5_griefNow 12 = .ok (.getfield 22, 3) := by decide +kernel
theorem dX5_griefNow_15 : decode cX5_griefNow 15 = .ok (.iload_n 2, 1) := by decide +kernel
theorem dX5_griefNow_16 : decode cX5_griefNow 16 = .ok (.iaload, 1) := by decide +kernel
theorem dX5_griefNow_17 : decode cX5_griefNow 17 = .ok (.aload_n 0, 1) := by decide +kernel
theorem dX5_griefNow_18 : decode cX5_griefNow 18 = .ok (.iload_n 2, 1) := by decide +kernel
theorem dX5_griefNow_19 : decode cX5_griefNow 19 = .ok (.invokevirtual 112, 3) := by decide +kernel
theorem dX5_griefNow_22 : decode cX5_griefNow 22 = .ok (.imul, 1) := by decide +kernel
theorem dX5_griefNow_23 : decode cX5_griefNow 23 = .ok (.iadd, 1) := by decide +kernel
theorem dX5_griefNow_24 : decode cX5_griefNow 24 = .ok (.istore_n 1, 1) := by decide +kernel
theorem dX5_griefNow_25 : decode cX5_griefNow 25 = .ok (.iinc 2 1, 3) := by decide +kernel
theorem dX5_griefNow_28 : decode cX5_griefNow 28 = .ok (.goto (-24), 3) := by decide +kernel
theorem dX5_griefNow_31 : decode cX5_griefNow 31 = .ok (.iload_n 1, 1) := by decide +kernel
theorem dX5_griefNow_32 : decode cX5_griefNow 32 = .ok (.ireturn, 1) := by decide +kernel
theorem dX5_isSafe_0 : decode cX5_isSafe 0 = .ok (.iconst 1, 1) := by decide +kernel
theorem dX5_isSafe_1 : decode cX5_isSafe 1 = .ok (.istore_n 1, 1) := by decide +kernel
theorem dX5_isSafe_2 : decode cX5_isSafe 2 = .ok (.iconst 0, 1) := by decide +kernel
theorem dX5_isSafe_3 : decode cX5_isSafe 3 = .ok (.istore_n 2, 1) := by decide +kernel
theorem dX5_isSafe_4 : decode cX5_isSafe 4 = .ok (.iload_n 2, 1) := by decide +kernel
theorem dX5_isSafe_5 : decode cX5_isSafe 5 = .ok (.bipush 18, 2) := by decide +kernel
theorem dX5_isSafe_7 : decode cX5_isSafe 7 = .ok (.if_icmp .ge 40, 3) := by decide +kernel
theorem dX5_isSafe_10 : decode cX5_isSafe 10 = .ok (.iload_n 1, 1) := by decide +kernel
theorem dX5_isSafe_11 : decode cX5_isSafe 11 = .ok (.ifCond .eq 28, 3) := by decide +kernel
theorem dX5_isSafe_14 : decode cX5_isSafe 14 = .ok (.aload_n 0, 1) := by decide +kernel
theorem dX5_isSafe_15 : decode cX5_isSafe 15 = .ok (.getfield 41, 3) := by decide +kernel
theorem dX5_isSafe_18 : decode cX5_isSafe 18 = .ok (.iload_n 2, 1) := by decide +kernel
theorem dX5_isSafe_19 : decode cX5_isSafe 19 = .ok (.iaload, 1) := by decide +kernel
theorem dX5_isSafe_20 : decode cX5_isSafe 20 = .ok (.aload_n 0, 1) := by decide +kernel
theorem dX5_isSafe_21 : decode cX5_isSafe 21 = .ok (.getfield 25, 3) := by decide +kernel
theorem dX5_isSafe_24 : decode cX5_isSafe 24 = .ok (.ineg, 1) := by decide +kernel
theorem dX5_isSafe_25 : decode cX5_isSafe 25 = .ok (.aload_n 0, 1) := by decide +kernel
theorem dX5_isSafe_26 : decode cX5_isSafe 26 = .ok (.getfield 25, 3) := by decide +kernel
theorem dX5_isSafe_29 : decode cX5_isSafe 29 = .ok (.invokestatic 59, 3) := by decide +kernel
theorem dX5_isSafe_32 : decode cX5_isSafe 32 = .ok (.ifCond .eq 7, 3) := by decide +kernel
theorem dX5_isSafe_35 : decode cX5_isSafe 35 = .ok (.iconst 1, 1) := by decide +kernel
theorem dX5_isSafe_36 : decode cX5_isSafe 36 = .ok (.goto 4, 3) := by decide +kernel
theorem dX5_isSafe_39 : decode cX5_isSafe 39 = .ok (.iconst 0, 1) := by decide +kernel
theorem dX5_isSafe_40 : decode cX5_isSafe 40 = .ok (.istore_n 1, 1) := by decide +kernel
theorem dX5_isSafe_41 : decode cX5_isSafe 41 = .ok (.iinc 2 1, 3) := by decide +kernel
theorem dX5_isSafe_44 : decode cX5_isSafe 44 = .ok (.goto (-40), 3) := by decide +kernel
theorem dX5_isSafe_47 : decode cX5_isSafe 47 = .ok (.iload_n 1, 1) := by decide +kernel
theorem dX5_isSafe_48 : decode cX5_isSafe 48 = .ok (.ireturn, 1) := by decide +kernel
theorem dX5_isKept_0 : decode cX5_isKept 0 = .ok (.iconst 1, 1) := by decide +kernel
theorem dX5_isKept_1 : decode cX5_isKept 1 = .ok (.istore_n 1, 1) := by decide +kernel
theorem dX5_isKept_2 : decode cX5_isKept 2 = .ok (.iconst 0, 1) := by decide +kernel
theorem dX5_isKept_3 : decode cX5_isKept 3 = .ok (.istore_n 2, 1) := by decide +kernel
theorem dX5_isKept_4 : decode cX5_isKept 4 = .ok (.iload_n 2, 1) := by decide +kernel
theorem dX5_isKept_5 : decode cX5_isKept 5 = .ok (.aload_n 0, 1) := by decide +kernel
theorem dX5_isKept_6 : decode cX5_isKept 6 = .ok (.getfield 77, 3) := by decide +kernel
theorem dX5_isKept_9 : decode cX5_isKept 9 = .ok (.if_icmp .ge 50, 3) := by decide +kernel
theorem dX5_isKept_12 : decode cX5_isKept 12 = .ok (.iload_n 1, 1) := by decide +kernel
theorem dX5_isKept_13 : decode cX5_isKept 13 = .ok (.ifCond .eq 38, 3) := by decide +kernel
theorem dX5_isKept_16 : decode cX5_isKept 16 = .ok (.aload_n 0, 1) := by decide +kernel
theorem dX5_isKept_17 : decode cX5_isKept 17 = .ok (.getfield 44, 3) := by decide +kernel
theorem dX5_isKept_20 : decode cX5_isKept 20 = .ok (.aload_n 0, 1) := by decide +kernel
theorem dX5_isKept_21 : decode cX5_isKept 21 = .ok (.getfield 29, 3) := by decide +kernel
theorem dX5_isKept_24 : decode cX5_isKept 24 = .ok (.iconst 2, 1) := by decide +kernel
theorem dX5_isKept_25 : decode cX5_isKept 25 = .ok (.iload_n 2, 1) := by decide +kernel
theorem dX5_isKept_26 : decode cX5_isKept 26 = .ok (.imul, 1) := by decide +kernel
theorem dX5_isKept_27 : decode cX5_isKept 27 = .ok (.iaload, 1) := by decide +kernel
theorem dX5_isKept_28 : decode cX5_isKept 28 = .ok (.iaload, 1) := by decide +kernel
theorem dX5_isKept_29 : decode cX5_isKept 29 = .ok (.aload_n 0, 1) := by decide +kernel
theorem dX5_isKept_30 : decode cX5_isKept 30 = .ok (.getfield 44, 3) := by decide +kernel
theorem dX5_isKept_33 : decode cX5_isKept 33 = .ok (.aload_n 0, 1) := by decide +kernel
theorem dX5_isKept_34 : decode cX5_isKept 34 = .ok (.getfield 29, 3) := by decide +kernel
theorem dX5_isKept_37 : decode cX5_isKept 37 = .ok (.iconst 2, 1) := by decide +kernel
theorem dX5_isKept_38 : decode cX5_isKept 38 = .ok (.iload_n 2, 1) := by decide +kernel
theorem dX5_isKept_39 : decode cX5_isKept 39 = .ok (.imul, 1) := by decide +kernel
theorem dX5_isKept_40 : decode cX5_isKept 40 = .ok (.iconst 1, 1) := by decide +kernel
theorem dX5_isKept_41 : decode cX5_isKept 41 = .ok (.iadd, 1) := by decide +kernel
theorem dX5_isKept_42 : decode cX5_isKept 42 = .ok (.iaload, 1) := by decide +kernel
theorem dX5_isKept_43 : decode cX5_isKept 43 = .ok (.iaload, 1) := by decide +kernel
theorem dX5_isKept_44 : decode cX5_isKept 44 = .ok (.if_icmp .ne 7, 3) := by decide +kernel
theorem dX5_isKept_47 : decode cX5_isKept 47 = .ok (.iconst 1, 1) := by decide +kernel
theorem dX5_isKept_48 : decode cX5_isKept 48 = .ok (.goto 4, 3) := by decide +kernel
theorem dX5_isKept_51 : decode cX5_isKept 51 = .ok (.iconst 0, 1) := by decide +kernel
theorem dX5_isKept_52 : decode cX5_isKept 52 = .ok (.istore_n 1, 1) := by decide +kernel
theorem dX5_isKept_53 : decode cX5_isKept 53 = .ok (.iinc 2 1, 3) := by decide +kernel
theorem dX5_isKept_56 : decode cX5_isKept 56 = .ok (.goto (-52), 3) := by decide +kernel
theorem dX5_isKept_59 : decode cX5_isKept 59 = .ok (.iload_n 1, 1) := by decide +kernel
theorem dX5_isKept_60 : decode cX5_isKept 60 = .ok (.ireturn, 1) := by decide +kernel
theorem dX5_load_0 : decode cX5_load 0 = .ok (.aload_n 0, 1) := by decide +kernel
theorem dX5_load_1 : decode cX5_load 1 = .ok (.invokevirtual 115, 3) := by decide +kernel
theorem dX5_load_4 : decode cX5_load 4 = .ok (.iload_n 1, 1) := by decide +kernel
theorem dX5_load_5 : decode cX5_load 5 = .ok (.iconst 0, 1) := by decide +kernel
theorem dX5_load_6 : decode cX5_load 6 = .ok (.iconst 2, 1) := by decide +kernel
theorem dX5_load_7 : decode cX5_load 7 = .ok (.invokestatic 59, 3) := by decide +kernel
theorem dX5_load_10 : decode cX5_load 10 = .ok (.ifCond .eq 23, 3) := by decide +kernel
theorem dX5_load_13 : decode cX5_load 13 = .ok (.iload_n 2, 1) := by decide +kernel
theorem dX5_load_14 : decode cX5_load 14 = .ok (.invokestatic 74, 3) := by decide +kernel
theorem dX5_load_17 : decode cX5_load 17 = .ok (.ifCond .eq 16, 3) := by decide +kernel
theorem dX5_load_20 : decode cX5_load 20 = .ok (.aload_n 0, 1) := by decide +kernel
theorem dX5_load_21 : decode cX5_load 21 = .ok (.getfield 41, 3) := by decide +kernel
theorem dX5_load_24 : decode cX5_load 24 = .ok (.iconst 3, 1) := by decide +kernel
theorem dX5_load_25 : decode cX5_load 25 = .ok (.iload_n 2, 1) := by decide +kernel
theorem dX5_load_26 : decode cX5_load 26 = .ok (.imul, 1) := by decide +kernel
theorem dX5_load_27 : decode cX5_load 27 = .ok (.iload_n 1, 1) := by decide +kernel
theorem dX5_load_28 : decode cX5_load 28 = .ok (.iadd, 1) := by decide +kernel
theorem dX5_load_29 : decode cX5_load 29 = .ok (.iaload, 1) := by decide +kernel
theorem dX5_load_30 : decode cX5_load 30 = .ok (.goto 9, 3) := by decide +kernel
theorem dX5_load_33 : decode cX5_load 33 = .ok (.aload_n 0, 1) := by decide +kernel
theorem dX5_load_34 : decode cX5_load 34 = .ok (.bipush (-2), 2) := by decide +kernel
theorem dX5_load_36 : decode cX5_load 36 = .ok (.invokevirtual 63, 3) := by decide +kernel
theorem dX5_load_39 : decode cX5_load 39 = .ok (.ireturn, 1) := by decide +kernel
theorem dX5_neutral_0 : decode cX5_neutral 0 = .ok (.aload_n 0, 1) := by decide +kernel
theorem dX5_neutral_1 : decode cX5_neutral 1 = .ok (.invokevirtual 115, 3) := by decide +kernel
theorem dX5_neutral_4 : decode cX5_neutral 4 = .ok (.iload_n 1, 1) := by decide +kernel
theorem dX5_neutral_5 : decode cX5_neutral 5 = .ok (.invokestatic 74, 3) := by decide +kernel
theorem dX5_neutral_8 : decode cX5_neutral 8 = .ok (.ifCond .eq 11, 3) := by decide +kernel
theorem dX5_neutral_11 : decode cX5_neutral 11 = .ok (.aload_n 0, 1) := by decide +kernel
theorem dX5_neutral_12 : decode cX5_neutral 12 = .ok (.iload_n 1, 1) := by decide +kernel
theorem dX5_neutral_13 : decode cX5_neutral 13 = .ok (.invokevirtual 112, 3) := by decide +kernel
theorem dX5_neutral_16 : decode cX5_neutral 16 = .ok (.goto 9, 3) := by decide +kernel
theorem dX5_neutral_19 : decode cX5_neutral 19 = .ok (.aload_n 0, 1) := by decide +kernel
theorem dX5_neutral_20 : decode cX5_neutral 20 = .ok (.bipush (-2), 2) := by decide +kernel
theorem dX5_neutral_22 : decode cX5_neutral 22 = .ok (.invokevirtual 63, 3) := by decide +kernel
theorem dX5_neutral_25 : decode cX5_neutral 25 = .ok (.ireturn, 1) := by decide +kernel
theorem dX5_griefOf_0 : decode cX5_griefOf 0 = .ok (.aload_n 0, 1) := by decide +kernel
theorem dX5_griefOf_1 : decode cX5_griefOf 1 = .ok (.invokevirtual 115, 3) := by decide +kernel
theorem dX5_griefOf_4 : decode cX5_griefOf 4 = .ok (.aload_n 0, 1) := by decide +kernel
theorem dX5_griefOf_5 : decode cX5_griefOf 5 = .ok (.invokevirtual 118, 3) := by decide +kernel
theorem dX5_griefOf_8 : decode cX5_griefOf 8 = .ok (.ireturn, 1) := by decide +kernel
theorem dX5_grief_0 : decode cX5_grief 0 = .ok (.aload_n 0, 1) := by decide +kernel
theorem dX5_grief_1 : decode cX5_grief 1 = .ok (.invokevirtual 122, 3) := by decide +kernel
theorem dX5_grief_4 : decode cX5_grief 4 = .ok (.ireturn, 1) := by decide +kernel
theorem dX5_good_0 : decode cX5_good 0 = .ok (.aload_n 0, 1) := by decide +kernel
theorem dX5_good_1 : decode cX5_good 1 = .ok (.invokevirtual 115, 3) := by decide +kernel
theorem dX5_good_4 : decode cX5_good 4 = .ok (.iload_n 1, 1) := by decide +kernel
theorem dX5_good_5 : decode cX5_good 5 = .ok (.iconst 0, 1) := by decide +kernel
theorem dX5_good_6 : decode cX5_good 6 = .ok (.iconst 1, 1) := by decide +kernel
theorem dX5_good_7 : decode cX5_good 7 = .ok (.invokestatic 59, 3) := by decide +kernel
theorem dX5_good_10 : decode cX5_good 10 = .ok (.ifCond .eq 32, 3) := by decide +kernel
theorem dX5_good_13 : decode cX5_good 13 = .ok (.iload_n 1, 1) := by decide +kernel
theorem dX5_good_14 : decode cX5_good 14 = .ok (.ifCond .ne 13, 3) := by decide +kernel
theorem dX5_good_17 : decode cX5_good 17 = .ok (.aload_n 0, 1) := by decide +kernel
theorem dX5_good_18 : decode cX5_good 18 = .ok (.invokevirtual 125, 3) := by decide +kernel
theorem dX5_good_21 : decode cX5_good 21 = .ok (.ifCond .eq 17, 3) := by decide +kernel
theorem dX5_good_24 : decode cX5_good 24 = .ok (.goto 10, 3) := by decide +kernel
theorem dX5_good_27 : decode cX5_good 27 = .ok (.aload_n 0, 1) := by decide +kernel
theorem dX5_good_28 : decode cX5_good 28 = .ok (.invokevirtual 129, 3) := by decide +kernel
theorem dX5_good_31 : decode cX5_good 31 = .ok (.ifCond .eq 7, 3) := by decide +kernel
theorem dX5_good_34 : decode cX5_good 34 = .ok (.iconst 1, 1) := by decide +kernel
theorem dX5_good_35 : decode cX5_good 35 = .ok (.goto 13, 3) := by decide +kernel
theorem dX5_good_38 : decode cX5_good 38 = .ok (.iconst 0, 1) := by decide +kernel
theorem dX5_good_39 : decode cX5_good 39 = .ok (.goto 9, 3) := by decide +kernel
theorem dX5_good_42 : decode cX5_good 42 = .ok (.aload_n 0, 1) := by decide +kernel
theorem dX5_good_43 : decode cX5_good 43 = .ok (.bipush (-2), 2) := by decide +kernel
theorem dX5_good_45 : decode cX5_good 45 = .ok (.invokevirtual 63, 3) := by decide +kernel
theorem dX5_good_48 : decode cX5_good 48 = .ok (.ireturn, 1) := by decide +kernel
theorem dX5_size_0 : decode cX5_size 0 = .ok (.iload_n 0, 1) := by decide +kernel
theorem dX5_size_1 : decode cX5_size 1 = .ok (.ifCond .ge 8, 3) := by decide +kernel
theorem dX5_size_4 : decode cX5_size 4 = .ok (.iload_n 0, 1) := by decide +kernel
theorem dX5_size_5 : decode cX5_size 5 = .ok (.ineg, 1) := by decide +kernel
theorem dX5_size_6 : decode cX5_size 6 = .ok (.goto 4, 3) := by decide +kernel
theorem dX5_size_9 : decode cX5_size 9 = .ok (.iload_n 0, 1) := by decide +kernel
theorem dX5_size_10 : decode cX5_size 10 = .ok (.ireturn, 1) := by decide +kernel
theorem dX5_worst_0 : decode cX5_worst 0 = .ok (.iload_n 1, 1) := by decide +kernel
theorem dX5_worst_1 : decode cX5_worst 1 = .ok (.iconst 0, 1) := by decide +kernel
theorem dX5_worst_2 : decode cX5_worst 2 = .ok (.iconst 1, 1) := by decide +kernel
theorem dX5_worst_3 : decode cX5_worst 3 = .ok (.invokestatic 59, 3) := by decide +kernel
theorem dX5_worst_6 : decode cX5_worst 6 = .ok (.ifCond .ne 10, 3) := by decide +kernel
theorem dX5_worst_9 : decode cX5_worst 9 = .ok (.aload_n 0, 1) := by decide +kernel
theorem dX5_worst_10 : decode cX5_worst 10 = .ok (.bipush (-2), 2) := by decide +kernel
theorem dX5_worst_12 : decode cX5_worst 12 = .ok (.invokevirtual 63, 3) := by decide +kernel
theorem dX5_worst_15 : decode cX5_worst 15 = .ok (.ireturn, 1) := by decide +kernel
theorem dX5_worst_16 : decode cX5_worst 16 = .ok (.aload_n 0, 1) := by decide +kernel
theorem dX5_worst_17 : decode cX5_worst 17 = .ok (.invokevirtual 115, 3) := by decide +kernel
theorem dX5_worst_20 : decode cX5_worst 20 = .ok (.iconst 0, 1) := by decide +kernel
theorem dX5_worst_21 : decode cX5_worst 21 = .ok (.istore_n 2, 1) := by decide +kernel
theorem dX5_worst_22 : decode cX5_worst 22 = .ok (.iconst 0, 1) := by decide +kernel
theorem dX5_worst_23 : decode cX5_worst 23 = .ok (.istore_n 3, 1) := by decide +kernel
theorem dX5_worst_24 : decode cX5_worst 24 = .ok (.iconst 1, 1) := by decide +kernel
theorem dX5_worst_25 : decode cX5_worst 25 = .ok (.istore 4, 2) := by decide +kernel
theorem dX5_worst_27 : decode cX5_worst 27 = .ok (.iload 4, 2) := by decide +kernel
theorem dX5_worst_29 : decode cX5_worst 29 = .ok (.bipush 6, 2) := by decide +kernel
theorem dX5_worst_31 : decode cX5_worst 31 = .ok (.if_icmp .ge 30, 3) := by decide +kernel
theorem dX5_worst_34 : decode cX5_worst 34 = .ok (.aload_n 0, 1) := by decide +kernel
theorem dX5_worst_35 : decode cX5_worst 35 = .ok (.iload 4, 2) := by decide +kernel
theorem dX5_worst_37 : decode cX5_worst 37 = .ok (.invokevirtual 112, 3) := by decide +kernel
theorem dX5_worst_40 : decode cX5_worst 40 = .ok (.aload_n 0, 1) := by decide +kernel
theorem dX5_worst_41 : decode cX5_worst 41 = .ok (.iload_n 2, 1) := by decide +kernel
theorem dX5_worst_42 : decode cX5_worst 42 = .ok (.invokevirtual 112, 3) := by decide +kernel
theorem dX5_worst_45 : decode cX5_worst 45 = .ok (.if_icmp .le 8, 3) := by decide +kernel
theorem dX5_worst_48 : decode cX5_worst 48 = .ok (.iload 4, 2) := by decide +kernel
theorem dX5_worst_50 : decode cX5_worst 50 = .ok (.goto 4, 3) := by decide +kernel
theorem dX5_worst_53 : decode cX5_worst 53 = .ok (.iload_n 2, 1) := by decide +kernel
theorem dX5_worst_54 : decode cX5_worst 54 = .ok (.istore_n 2, 1) := by decide +kernel
theorem dX5_worst_55 : decode cX5_worst 55 = .ok (.iinc 4 1, 3) := by decide +kernel
theorem dX5_worst_58 : decode cX5_worst 58 = .ok (.goto (-31), 3) := by decide +kernel
theorem dX5_worst_61 : decode cX5_worst 61 = .ok (.iconst 1, 1) := by decide +kernel
theorem dX5_worst_62 : decode cX5_worst 62 = .ok (.istore 4, 2) := by decide +kernel
theorem dX5_worst_64 : decode cX5_worst 64 = .ok (.iload 4, 2) := by decide +kernel
theorem dX5_worst_66 : decode cX5_worst 66 = .ok (.bipush 18, 2) := by decide +kernel
theorem dX5_worst_68 : decode cX5_worst 68 = .ok (.if_icmp .ge 38, 3) := by decide +kernel
theorem dX5_worst_71 : decode cX5_worst 71 = .ok (.aload_n 0, 1) := by decide +kernel
theorem dX5_worst_72 : decode cX5_worst 72 = .ok (.getfield 41, 3) := by decide +kernel
theorem dX5_worst_75 : decode cX5_worst 75 = .ok (.iload 4, 2) := by decide +kernel
theorem dX5_worst_77 : decode cX5_worst 77 = .ok (.iaload, 1) := by decide +kernel
theorem dX5_worst_78 : decode cX5_worst 78 = .ok (.invokestatic 132, 3) := by decide +kernel
theorem dX5_worst_81 : decode cX5_worst 81 = .ok (.aload_n 0, 1) := by decide +kernel
theorem dX5_worst_82 : decode cX5_worst 82 = .ok (.getfield 41, 3) := by decide +kernel
theorem dX5_worst_85 : decode cX5_worst 85 = .ok (.iload_n 3, 1) := by decide +kernel
theorem dX5_worst_86 : decode cX5_worst 86 = .ok (.iaload, 1) := by decide +kernel
theorem dX5_worst_87 : decode cX5_worst 87 = .ok (.invokestatic 132, 3) := by decide +kernel
theorem dX5_worst_90 : decode cX5_worst 90 = .ok (.if_icmp .le 8, 3) := by decide +kernel
theorem dX5_worst_93 : decode cX5_worst 93 = .ok (.iload 4, 2) := by decide +kernel
theorem dX5_worst_95 : decode cX5_worst 95 = .ok (.goto 4, 3) := by decide +kernel
theorem dX5_worst_98 : decode cX5_worst 98 = .ok (.iload_n 3, 1) := by decide +kernel
theorem dX5_worst_99 : decode cX5_worst 99 = .ok (.istore_n 3, 1) := by decide +kernel
theorem dX5_worst_100 : decode cX5_worst 100 = .ok (.iinc 4 1, 3) := by decide +kernel
theorem dX5_worst_103 : decode cX5_worst 103 = .ok (.goto (-39), 3) := by decide +kernel
theorem dX5_worst_106 : decode cX5_worst 106 = .ok (.iload_n 1, 1) := by decide +kernel
theorem dX5_worst_107 : decode cX5_worst 107 = .ok (.ifCond .ne 7, 3) := by decide +kernel
theorem dX5_worst_110 : decode cX5_worst 110 = .ok (.iload_n 2, 1) := by decide +kernel
theorem dX5_worst_111 : decode cX5_worst 111 = .ok (.goto 9, 3) := by decide +kernel
theorem dX5_worst_114 : decode cX5_worst 114 = .ok (.aload_n 0, 1) := by decide +kernel
theorem dX5_worst_115 : decode cX5_worst 115 = .ok (.getfield 41, 3) := by decide +kernel
theorem dX5_worst_118 : decode cX5_worst 118 = .ok (.iload_n 3, 1) := by decide +kernel
theorem dX5_worst_119 : decode cX5_worst 119 = .ok (.iaload, 1) := by decide +kernel
theorem dX5_worst_120 : decode cX5_worst 120 = .ok (.ireturn, 1) := by decide +kernel
theorem dX5_keeps_0 : decode cX5_keeps 0 = .ok (.aload_n 0, 1) := by decide +kernel
theorem dX5_keeps_1 : decode cX5_keeps 1 = .ok (.getfield 67, 3) := by decide +kernel
theorem dX5_keeps_4 : decode cX5_keeps 4 = .ok (.bipush 8, 2) := by decide +kernel
theorem dX5_keeps_6 : decode cX5_keeps 6 = .ok (.if_icmp .ne 42, 3) := by decide +kernel
theorem dX5_keeps_9 : decode cX5_keeps 9 = .ok (.iconst 0, 1) := by decide +kernel
theorem dX5_keeps_10 : decode cX5_keeps 10 = .ok (.istore_n 1, 1) := by decide +kernel
theorem dX5_keeps_11 : decode cX5_keeps 11 = .ok (.iload_n 1, 1) := by decide +kernel
theorem dX5_keeps_12 : decode cX5_keeps 12 = .ok (.bipush 63, 2) := by decide +kernel
theorem dX5_keeps_14 : decode cX5_keeps 14 = .ok (.if_icmp .ge 24, 3) := by decide +kernel
theorem dX5_keeps_17 : decode cX5_keeps 17 = .ok (.aload_n 0, 1) := by decide +kernel
theorem dX5_keeps_18 : decode cX5_keeps 18 = .ok (.getfield 32, 3) := by decide +kernel
theorem dX5_keeps_21 : decode cX5_keeps 21 = .ok (.iload_n 1, 1) := by decide +kernel
theorem dX5_keeps_22 : decode cX5_keeps 22 = .ok (.aload_n 0, 1) := by decide +kernel
theorem dX5_keeps_23 : decode cX5_keeps 23 = .ok (.getfield 32, 3) := by decide +kernel
theorem dX5_keeps_26 : decode cX5_keeps 26 = .ok (.iload_n 1, 1) := by decide +kernel
theorem dX5_keeps_27 : decode cX5_keeps 27 = .ok (.bipush 9, 2) := by decide +kernel
theorem dX5_keeps_29 : decode cX5_keeps 29 = .ok (.iadd, 1) := by decide +kernel
theorem dX5_keeps_30 : decode cX5_keeps 30 = .ok (.iaload, 1) := by decide +kernel
theorem dX5_keeps_31 : decode cX5_keeps 31 = .ok (.iastore, 1) := by decide +kernel
theorem dX5_keeps_32 : decode cX5_keeps 32 = .ok (.iinc 1 1, 3) := by decide +kernel
theorem dX5_keeps_35 : decode cX5_keeps 35 = .ok (.goto (-24), 3) := by decide +kernel
theorem dX5_keeps_38 : decode cX5_keeps 38 = .ok (.aload_n 0, 1) := by decide +kernel
theorem dX5_keeps_39 : decode cX5_keeps 39 = .ok (.dup, 1) := by decide +kernel
theorem dX5_keeps_40 : decode cX5_keeps 40 = .ok (.getfield 67, 3) := by decide +kernel
theorem dX5_keeps_43 : decode cX5_keeps 43 = .ok (.iconst 1, 1) := by decide +kernel
theorem dX5_keeps_44 : decode cX5_keeps 44 = .ok (.isub, 1) := by decide +kernel
theorem dX5_keeps_45 : decode cX5_keeps 45 = .ok (.putfield 67, 3) := by decide +kernel
theorem dX5_keeps_48 : decode cX5_keeps 48 = .ok (.iconst 0, 1) := by decide +kernel
theorem dX5_keeps_49 : decode cX5_keeps 49 = .ok (.istore_n 1, 1) := by decide +kernel
theorem dX5_keeps_50 : decode cX5_keeps 50 = .ok (.iload_n 1, 1) := by decide +kernel
theorem dX5_keeps_51 : decode cX5_keeps 51 = .ok (.bipush 9, 2) := by decide +kernel
theorem dX5_keeps_53 : decode cX5_keeps 53 = .ok (.if_icmp .ge 29, 3) := by decide +kernel
theorem dX5_keeps_56 : decode cX5_keeps 56 = .ok (.aload_n 0, 1) := by decide +kernel
theorem dX5_keeps_57 : decode cX5_keeps 57 = .ok (.getfield 32, 3) := by decide +kernel
theorem dX5_keeps_60 : decode cX5_keeps 60 = .ok (.bipush 9, 2) := by decide +kernel
theorem dX5_keeps_62 : decode cX5_keeps 62 = .ok (.aload_n 0, 1) := by decide +kernel
theorem dX5_keeps_63 : decode cX5_keeps 63 = .ok (.getfield 67, 3) := by decide +kernel
theorem dX5_keeps_66 : decode cX5_keeps 66 = .ok (.imul, 1) := by decide +kernel
theorem dX5_keeps_67 : decode cX5_keeps 67 = .ok (.iload_n 1, 1) := by decide +kernel
theorem dX5_keeps_68 : decode cX5_keeps 68 = .ok (.iadd, 1) := by decide +kernel
theorem dX5_keeps_69 : decode cX5_keeps 69 = .ok (.aload_n 0, 1) := by decide +kernel
theorem dX5_keeps_70 : decode cX5_keeps 70 = .ok (.getfield 16, 3) := by decide +kernel
theorem dX5_keeps_73 : decode cX5_keeps 73 = .ok (.iload_n 1, 1) := by decide +kernel
theorem dX5_keeps_74 : decode cX5_keeps 74 = .ok (.iaload, 1) := by decide +kernel
theorem dX5_keeps_75 : decode cX5_keeps 75 = .ok (.iastore, 1) := by decide +kernel
theorem dX5_keeps_76 : decode cX5_keeps 76 = .ok (.iinc 1 1, 3) := by decide +kernel
theorem dX5_keeps_79 : decode cX5_keeps 79 = .ok (.goto (-29), 3) := by decide +kernel
theorem dX5_keeps_82 : decode cX5_keeps 82 = .ok (.aload_n 0, 1) := by decide +kernel
theorem dX5_keeps_83 : decode cX5_keeps 83 = .ok (.dup, 1) := by decide +kernel
theorem dX5_keeps_84 : decode cX5_keeps 84 = .ok (.getfield 67, 3) := by decide +kernel
theorem dX5_keeps_87 : decode cX5_keeps 87 = .ok (.iconst 1, 1) := by decide +kernel
theorem dX5_keeps_88 : decode cX5_keeps 88 = .ok (.iadd, 1) := by decide +kernel
theorem dX5_keeps_89 : decode cX5_keeps 89 = .ok (.putfield 67, 3) := by decide +kernel
theorem dX5_keeps_92 : decode cX5_keeps 92 = .ok (.return_, 1) := by decide +kernel
theorem dX5_change_0 : decode cX5_change 0 = .ok (.aload_n 0, 1) := by decide +kernel
theorem dX5_change_1 : decode cX5_change 1 = .ok (.iload_n 1, 1) := by decide +kernel
theorem dX5_change_2 : decode cX5_change 2 = .ok (.invokevirtual 70, 3) := by decide +kernel
theorem dX5_change_5 : decode cX5_change 5 = .ok (.ifCond .eq 12, 3) := by decide +kernel
theorem dX5_change_8 : decode cX5_change 8 = .ok (.iload_n 2, 1) := by decide +kernel
theorem dX5_change_9 : decode cX5_change 9 = .ok (.iconst 0, 1) := by decide +kernel
theorem dX5_change_10 : decode cX5_change 10 = .ok (.iconst 2, 1) := by decide +kernel
theorem dX5_change_11 : decode cX5_change 11 = .ok (.invokestatic 59, 3) := by decide +kernel
theorem dX5_change_14 : decode cX5_change 14 = .ok (.ifCond .ne 10, 3) := by decide +kernel
theorem dX5_change_17 : decode cX5_change 17 = .ok (.aload_n 0, 1) := by decide +kernel
theorem dX5_change_18 : decode cX5_change 18 = .ok (.bipush (-2), 2) := by decide +kernel
theorem dX5_change_20 : decode cX5_change 20 = .ok (.invokevirtual 63, 3) := by decide +kernel
theorem dX5_change_23 : decode cX5_change 23 = .ok (.ireturn, 1) := by decide +kernel
theorem dX5_change_24 : decode cX5_change 24 = .ok (.aload_n 0, 1) := by decide +kernel
theorem dX5_change_25 : decode cX5_change 25 = .ok (.getfield 19, 3) := by decide +kernel
theorem dX5_change_28 : decode cX5_change 28 = .ok (.iload_n 1, 1) := by decide +kernel
theorem dX5_change_29 : decode cX5_change 29 = .ok (.iaload, 1) := by decide +kernel
theorem dX5_change_30 : decode cX5_change 30 = .ok (.iconst 1, 1) := by decide +kernel
theorem dX5_change_31 : decode cX5_change 31 = .ok (.if_icmp .ne 10, 3) := by decide +kernel
theorem dX5_change_34 : decode cX5_change 34 = .ok (.aload_n 0, 1) := by decide +kernel
theorem dX5_change_35 : decode cX5_change 35 = .ok (.bipush (-3), 2) := by decide +kernel
theorem dX5_change_37 : decode cX5_change 37 = .ok (.invokevirtual 63, 3) := by decide +kernel
theorem dX5_change_40 : decode cX5_change 40 = .ok (.ireturn, 1) := by decide +kernel
theorem dX5_change_41 : decode cX5_change 41 = .ok (.aload_n 0, 1) := by decide +kernel
theorem dX5_change_42 : decode cX5_change 42 = .ok (.invokevirtual 135, 3) := by decide +kernel
theorem dX5_change_45 : decode cX5_change 45 = .ok (.aload_n 0, 1) := by decide +kernel
theorem dX5_change_46 : decode cX5_change 46 = .ok (.getfield 16, 3) := by decide +kernel
theorem dX5_change_49 : decode cX5_change 49 = .ok (.iload_n 1, 1) := by decide +kernel
theorem dX5_change_50 : decode cX5_change 50 = .ok (.iaload, 1) := by decide +kernel
theorem dX5_change_51 : decode cX5_change 51 = .ok (.istore_n 3, 1) := by decide +kernel
theorem dX5_change_52 : decode cX5_change 52 = .ok (.aload_n 0, 1) := by decide +kernel
theorem dX5_change_53 : decode cX5_change 53 = .ok (.getfield 16, 3) := by decide +kernel
theorem dX5_change_56 : decode cX5_change 56 = .ok (.iload_n 1, 1) := by decide +kernel
theorem dX5_change_57 : decode cX5_change 57 = .ok (.iload_n 2, 1) := by decide +kernel
theorem dX5_change_58 : decode cX5_change 58 = .ok (.iastore, 1) := by decide +kernel
theorem dX5_change_59 : decode cX5_change 59 = .ok (.iload_n 3, 1) := by decide +kernel
theorem dX5_change_60 : decode cX5_change 60 = .ok (.ireturn, 1) := by decide +kernel
theorem dX5_swaps_0 : decode cX5_swaps 0 = .ok (.aload_n 0, 1) := by decide +kernel
theorem dX5_swaps_1 : decode cX5_swaps 1 = .ok (.getfield 16, 3) := by decide +kernel
theorem dX5_swaps_4 : decode cX5_swaps 4 = .ok (.iload_n 1, 1) := by decide +kernel
theorem dX5_swaps_5 : decode cX5_swaps 5 = .ok (.iaload, 1) := by decide +kernel
theorem dX5_swaps_6 : decode cX5_swaps 6 = .ok (.istore_n 3, 1) := by decide +kernel
theorem dX5_swaps_7 : decode cX5_swaps 7 = .ok (.aload_n 0, 1) := by decide +kernel
theorem dX5_swaps_8 : decode cX5_swaps 8 = .ok (.getfield 16, 3) := by decide +kernel
theorem dX5_swaps_11 : decode cX5_swaps 11 = .ok (.iload_n 1, 1) := by decide +kernel
theorem dX5_swaps_12 : decode cX5_swaps 12 = .ok (.aload_n 0, 1) := by decide +kernel
theorem dX5_swaps_13 : decode cX5_swaps 13 = .ok (.getfield 16, 3) := by decide +kernel
theorem dX5_swaps_16 : decode cX5_swaps 16 = .ok (.iload_n 2, 1) := by decide +kernel
theorem dX5_swaps_17 : decode cX5_swaps 17 = .ok (.iaload, 1) := by decide +kernel
theorem dX5_swaps_18 : decode cX5_swaps 18 = .ok (.iastore, 1) := by decide +kernel
theorem dX5_swaps_19 : decode cX5_swaps 19 = .ok (.aload_n 0, 1) := by decide +kernel
theorem dX5_swaps_20 : decode cX5_swaps 20 = .ok (.getfield 16, 3) := by decide +kernel
theorem dX5_swaps_23 : decode cX5_swaps 23 = .ok (.iload_n 2, 1) := by decide +kernel
theorem dX5_swaps_24 : decode cX5_swaps 24 = .ok (.iload_n 3, 1) := by decide +kernel
theorem dX5_swaps_25 : decode cX5_swaps 25 = .ok (.iastore, 1) := by decide +kernel
theorem dX5_swaps_26 : decode cX5_swaps 26 = .ok (.return_, 1) := by decide +kernel
theorem dX5_swap_0 : decode cX5_swap 0 = .ok (.aload_n 0, 1) := by decide +kernel
theorem dX5_swap_1 : decode cX5_swap 1 = .ok (.iload_n 1, 1) := by decide +kernel
theorem dX5_swap_2 : decode cX5_swap 2 = .ok (.invokevirtual 70, 3) := by decide +kernel
theorem dX5_swap_5 : decode cX5_swap 5 = .ok (.ifCond .eq 16, 3) := by decide +kernel
theorem dX5_swap_8 : decode cX5_swap 8 = .ok (.aload_n 0, 1) := by decide +kernel
theorem dX5_swap_9 : decode cX5_swap 9 = .ok (.iload_n 2, 1) := by decide +kernel
theorem dX5_swap_10 : decode cX5_swap 10 = .ok (.invokevirtual 70, 3) := by decide +kernel
theorem dX5_swap_13 : decode cX5_swap 13 = .ok (.ifCond .eq 8, 3) := by decide +kernel
theorem dX5_swap_16 : decode cX5_swap 16 = .ok (.iload_n 1, 1) := by decide +kernel
theorem dX5_swap_17 : decode cX5_swap 17 = .ok (.iload_n 2, 1) := by decide +kernel
theorem dX5_swap_18 : decode cX5_swap 18 = .ok (.if_icmp .ne 10, 3) := by decide +kernel
theorem dX5_swap_21 : decode cX5_swap 21 = .ok (.aload_n 0, 1) := by decide +kernel
theorem dX5_swap_22 : decode cX5_swap 22 = .ok (.bipush (-2), 2) := by decide +kernel
theorem dX5_swap_24 : decode cX5_swap 24 = .ok (.invokevirtual 63, 3) := by decide +kernel
theorem dX5_swap_27 : decode cX5_swap 27 = .ok (.ireturn, 1) := by decide +kernel
theorem dX5_swap_28 : decode cX5_swap 28 = .ok (.aload_n 0, 1) := by decide +kernel
theorem dX5_swap_29 : decode cX5_swap 29 = .ok (.getfield 19, 3) := by decide +kernel
theorem dX5_swap_32 : decode cX5_swap 32 = .ok (.iload_n 1, 1) := by decide +kernel
theorem dX5_swap_33 : decode cX5_swap 33 = .ok (.iaload, 1) := by decide +kernel
theorem dX5_swap_34 : decode cX5_swap 34 = .ok (.iconst 1, 1) := by decide +kernel
theorem dX5_swap_35 : decode cX5_swap 35 = .ok (.if_icmp .eq 13, 3) := by decide +kernel
theorem dX5_swap_38 : decode cX5_swap 38 = .ok (.aload_n 0, 1) := by decide +kernel
theorem dX5_swap_39 : decode cX5_swap 39 = .ok (.getfield 19, 3) := by decide +kernel
theorem dX5_swap_42 : decode cX5_swap 42 = .ok (.iload_n 2, 1) := by decide +kernel
theorem dX5_swap_43 : decode cX5_swap 43 = .ok (.iaload, 1) := by decide +kernel
theorem dX5_swap_44 : decode cX5_swap 44 = .ok (.iconst 1, 1) := by decide +kernel
theorem dX5_swap_45 : decode cX5_swap 45 = .ok (.if_icmp .ne 10, 3) := by decide +kernel
theorem dX5_swap_48 : decode cX5_swap 48 = .ok (.aload_n 0, 1) := by decide +kernel
theorem dX5_swap_49 : decode cX5_swap 49 = .ok (.bipush (-3), 2) := by decide +kernel
theorem dX5_swap_51 : decode cX5_swap 51 = .ok (.invokevirtual 63, 3) := by decide +kernel
theorem dX5_swap_54 : decode cX5_swap 54 = .ok (.ireturn, 1) := by decide +kernel
theorem dX5_swap_55 : decode cX5_swap 55 = .ok (.aload_n 0, 1) := by decide +kernel
theorem dX5_swap_56 : decode cX5_swap 56 = .ok (.invokevirtual 135, 3) := by decide +kernel
theorem dX5_swap_59 : decode cX5_swap 59 = .ok (.aload_n 0, 1) := by decide +kernel
theorem dX5_swap_60 : decode cX5_swap 60 = .ok (.iload_n 1, 1) := by decide +kernel
theorem dX5_swap_61 : decode cX5_swap 61 = .ok (.iload_n 2, 1) := by decide +kernel
theorem dX5_swap_62 : decode cX5_swap 62 = .ok (.invokevirtual 138, 3) := by decide +kernel
theorem dX5_swap_65 : decode cX5_swap 65 = .ok (.aload_n 0, 1) := by decide +kernel
theorem dX5_swap_66 : decode cX5_swap 66 = .ok (.invokevirtual 122, 3) := by decide +kernel
theorem dX5_swap_69 : decode cX5_swap 69 = .ok (.ireturn, 1) := by decide +kernel
theorem dX5_isFree_0 : decode cX5_isFree 0 = .ok (.aload_n 0, 1) := by decide +kernel
theorem dX5_isFree_1 : decode cX5_isFree 1 = .ok (.getfield 19, 3) := by decide +kernel
theorem dX5_isFree_4 : decode cX5_isFree 4 = .ok (.iload_n 1, 1) := by decide +kernel
theorem dX5_isFree_5 : decode cX5_isFree 5 = .ok (.iaload, 1) := by decide +kernel
theorem dX5_isFree_6 : decode cX5_isFree 6 = .ok (.ifCond .ne 15, 3) := by decide +kernel
theorem dX5_isFree_9 : decode cX5_isFree 9 = .ok (.aload_n 0, 1) := by decide +kernel
theorem dX5_isFree_10 : decode cX5_isFree 10 = .ok (.iload_n 1, 1) := by decide +kernel
theorem dX5_isFree_11 : decode cX5_isFree 11 = .ok (.invokevirtual 142, 3) := by decide +kernel
theorem dX5_isFree_14 : decode cX5_isFree 14 = .ok (.ifCond .ne 7, 3) := by decide +kernel
theorem dX5_isFree_17 : decode cX5_isFree 17 = .ok (.iconst 1, 1) := by decide +kernel
theorem dX5_isFree_18 : decode cX5_isFree 18 = .ok (.goto 4, 3) := by decide +kernel
theorem dX5_isFree_21 : decode cX5_isFree 21 = .ok (.iconst 0, 1) := by decide +kernel
theorem dX5_isFree_22 : decode cX5_isFree 22 = .ok (.ireturn, 1) := by decide +kernel
theorem dX5_looks_0 : decode cX5_looks 0 = .ok (.aload_n 0, 1) := by decide +kernel
theorem dX5_looks_1 : decode cX5_looks 1 = .ok (.invokevirtual 109, 3) := by decide +kernel
theorem dX5_looks_4 : decode cX5_looks 4 = .ok (.aload_n 0, 1) := by decide +kernel
theorem dX5_looks_5 : decode cX5_looks 5 = .ok (.invokevirtual 118, 3) := by decide +kernel
theorem dX5_looks_8 : decode cX5_looks 8 = .ok (.istore 4, 2) := by decide +kernel
theorem dX5_looks_10 : decode cX5_looks 10 = .ok (.aload_n 0, 1) := by decide +kernel
theorem dX5_looks_11 : decode cX5_looks 11 = .ok (.invokevirtual 125, 3) := by decide +kernel
theorem dX5_looks_14 : decode cX5_looks 14 = .ok (.ifCond .eq 52, 3) := by decide +kernel
theorem dX5_looks_17 : decode cX5_looks 17 = .ok (.aload_n 0, 1) := by decide +kernel
theorem dX5_looks_18 : decode cX5_looks 18 = .ok (.getfield 53, 3) := by decide +kernel
theorem dX5_looks_21 : decode cX5_looks 21 = .ok (.iconst 0, 1) := by decide +kernel
theorem dX5_looks_22 : decode cX5_looks 22 = .ok (.iaload, 1) := by decide +kernel
theorem dX5_looks_23 : decode cX5_looks 23 = .ok (.ifCond .lt 14, 3) := by decide +kernel
theorem dX5_looks_26 : decode cX5_looks 26 = .ok (.iload 4, 2) := by decide +kernel
theorem dX5_looks_28 : decode cX5_looks 28 = .ok (.aload_n 0, 1) := by decide +kernel
theorem dX5_looks_29 : decode cX5_looks 29 = .ok (.getfield 53, 3) := by decide +kernel
theorem dX5_looks_32 : decode cX5_looks 32 = .ok (.iconst 0, 1) := by decide +kernel
theorem dX5_looks_33 : decode cX5_looks 33 = .ok (.iaload, 1) := by decide +kernel
theorem dX5_looks_34 : decode cX5_looks 34 = .ok (.if_icmp .ge 32, 3) := by decide +kernel
theorem dX5_looks_37 : decode cX5_looks 37 = .ok (.aload_n 0, 1) := by decide +kernel
theorem dX5_looks_38 : decode cX5_looks 38 = .ok (.getfield 53, 3) := by decide +kernel
theorem dX5_looks_41 : decode cX5_looks 41 = .ok (.iconst 0, 1) := by decide +kernel
theorem dX5_looks_42 : decode cX5_looks 42 = .ok (.iload 4, 2) := by decide +kernel
theorem dX5_looks_44 : decode cX5_looks 44 = .ok (.iastore, 1) := by decide +kernel
theorem dX5_looks_45 : decode cX5_looks 45 = .ok (.aload_n 0, 1) := by decide +kernel
theorem dX5_looks_46 : decode cX5_looks 46 = .ok (.getfield 53, 3) := by decide +kernel
theorem dX5_looks_49 : decode cX5_looks 49 = .ok (.iconst 1, 1) := by decide +kernel
theorem dX5_looks_50 : decode cX5_looks 50 = .ok (.iload_n 1, 1) := by decide +kernel
theorem dX5_looks_51 : decode cX5_looks 51 = .ok (.iastore, 1) := by decide +kernel
theorem dX5_looks_52 : decode cX5_looks 52 = .ok (.aload_n 0, 1) := by decide +kernel
theorem dX5_looks_53 : decode cX5_looks 53 = .ok (.getfield 53, 3) := by decide +kernel
theorem dX5_looks_56 : decode cX5_looks 56 = .ok (.iconst 2, 1) := by decide +kernel
theorem dX5_looks_57 : decode cX5_looks 57 = .ok (.iload_n 2, 1) := by decide +kernel
theorem dX5_looks_58 : decode cX5_looks 58 = .ok (.iastore, 1) := by decide +kernel
theorem dX5_looks_59 : decode cX5_looks 59 = .ok (.aload_n 0, 1) := by decide +kernel
theorem dX5_looks_60 : decode cX5_looks 60 = .ok (.getfield 53, 3) := by decide +kernel
theorem dX5_looks_63 : decode cX5_looks 63 = .ok (.iconst 3, 1) := by decide +kernel
theorem dX5_looks_64 : decode cX5_looks 64 = .ok (.iload_n 3, 1) := by decide +kernel
theorem dX5_looks_65 : decode cX5_looks 65 = .ok (.iastore, 1) := by decide +kernel
theorem dX5_looks_66 : decode cX5_looks 66 = .ok (.return_, 1) := by decide +kernel
theorem dX5_finds_0 : decode cX5_finds 0 = .ok (.aload_n 0, 1) := by decide +kernel
theorem dX5_finds_1 : decode cX5_finds 1 = .ok (.getfield 53, 3) := by decide +kernel
theorem dX5_finds_4 : decode cX5_finds 4 = .ok (.iconst 0, 1) := by decide +kernel
theorem dX5_finds_5 : decode cX5_finds 5 = .ok (.iconst (-1), 1) := by decide +kernel
theorem dX5_finds_6 : decode cX5_finds 6 = .ok (.iastore, 1) := by decide +kernel
theorem dX5_finds_7 : decode cX5_finds 7 = .ok (.aload_n 0, 1) := by decide +kernel
theorem dX5_finds_8 : decode cX5_finds 8 = .ok (.invokevirtual 115, 3) := by decide +kernel
theorem dX5_finds_11 : decode cX5_finds 11 = .ok (.iconst 0, 1) := by decide +kernel
theorem dX5_finds_12 : decode cX5_finds 12 = .ok (.istore_n 1, 1) := by decide +kernel
theorem dX5_finds_13 : decode cX5_finds 13 = .ok (.iload_n 1, 1) := by decide +kernel
theorem dX5_finds_14 : decode cX5_finds 14 = .ok (.aload_n 0, 1) := by decide +kernel
theorem dX5_finds_15 : decode cX5_finds 15 = .ok (.getfield 56, 3) := by decide +kernel
theorem dX5_finds_18 : decode cX5_finds 18 = .ok (.if_icmp .ge 66, 3) := by decide +kernel
theorem dX5_finds_21 : decode cX5_finds 21 = .ok (.iconst 0, 1) := by decide +kernel
theorem dX5_finds_22 : decode cX5_finds 22 = .ok (.istore_n 2, 1) := by decide +kernel
theorem dX5_finds_23 : decode cX5_finds 23 = .ok (.iload_n 2, 1) := by decide +kernel
theorem dX5_finds_24 : decode cX5_finds 24 = .ok (.iconst 3, 1) := by decide +kernel
theorem dX5_finds_25 : decode cX5_finds 25 = .ok (.if_icmp .ge 53, 3) := by decide +kernel
theorem dX5_finds_28 : decode cX5_finds 28 = .ok (.aload_n 0, 1) := by decide +kernel
theorem dX5_finds_29 : decode cX5_finds 29 = .ok (.iload_n 1, 1) := by decide +kernel
theorem dX5_finds_30 : decode cX5_finds 30 = .ok (.invokevirtual 145, 3) := by decide +kernel
theorem dX5_finds_33 : decode cX5_finds 33 = .ok (.ifCond .eq 39, 3) := by decide +kernel
theorem dX5_finds_36 : decode cX5_finds 36 = .ok (.iload_n 2, 1) := by decide +kernel
theorem dX5_finds_37 : decode cX5_finds 37 = .ok (.aload_n 0, 1) := by decide +kernel
theorem dX5_finds_38 : decode cX5_finds 38 = .ok (.getfield 16, 3) := by decide +kernel
theorem dX5_finds_41 : decode cX5_finds 41 = .ok (.iload_n 1, 1) := by decide +kernel
theorem dX5_finds_42 : decode cX5_finds 42 = .ok (.iaload, 1) := by decide +kernel
theorem dX5_finds_43 : decode cX5_finds 43 = .ok (.if_icmp .eq 29, 3) := by decide +kernel
theorem dX5_finds_46 : decode cX5_finds 46 = .ok (.aload_n 0, 1) := by decide +kernel
theorem dX5_finds_47 : decode cX5_finds 47 = .ok (.getfield 44, 3) := by decide +kernel
theorem dX5_finds_50 : decode cX5_finds 50 = .ok (.iload_n 1, 1) := by decide +kernel
theorem dX5_finds_51 : decode cX5_finds 51 = .ok (.iload_n 2, 1) := by decide +kernel
theorem dX5_finds_52 : decode cX5_finds 52 = .ok (.iastore, 1) := by decide +kernel
theorem dX5_finds_53 : decode cX5_finds 53 = .ok (.aload_n 0, 1) := by decide +kernel
theorem dX5_finds_54 : decode cX5_finds 54 = .ok (.iconst 0, 1) := by decide +kernel
theorem dX5_finds_55 : decode cX5_finds 55 = .ok (.iload_n 1, 1) := by decide +kernel
theorem dX5_finds_56 : decode cX5_finds 56 = .ok (.iload_n 2, 1) := by decide +kernel
theorem dX5_finds_57 : decode cX5_finds 57 = .ok (.invokevirtual 148, 3) := by decide +kernel
theorem dX5_finds_60 : decode cX5_finds 60 = .ok (.aload_n 0, 1) := by decide +kernel
theorem dX5_finds_61 : decode cX5_finds 61 = .ok (.getfield 44, 3) := by decide +kernel
theorem dX5_finds_64 : decode cX5_finds 64 = .ok (.iload_n 1, 1) := by decide +kernel
theorem dX5_finds_65 : decode cX5_finds 65 = .ok (.aload_n 0, 1) := by decide +kernel
theorem dX5_finds_66 : decode cX5_finds 66 = .ok (.getfield 16, 3) := by decide +kernel
theorem dX5_finds_69 : decode cX5_finds 69 = .ok (.iload_n 1, 1) := by decide +kernel
theorem dX5_finds_70 : decode cX5_finds 70 = .ok (.iaload, 1) := by decide +kernel
theorem dX5_finds_71 : decode cX5_finds 71 = .ok (.iastore, 1) := by decide +kernel
theorem dX5_finds_72 : decode cX5_finds 72 = .ok (.iinc 2 1, 3) := by decide +kernel
theorem dX5_finds_75 : decode cX5_finds 75 = .ok (.goto (-52), 3) := by decide +kernel
theorem dX5_finds_78 : decode cX5_finds 78 = .ok (.iinc 1 1, 3) := by decide +kernel
theorem dX5_finds_81 : decode cX5_finds 81 = .ok (.goto (-68), 3) := by decide +kernel
theorem dX5_finds_84 : decode cX5_finds 84 = .ok (.iconst 0, 1) := by decide +kernel
theorem dX5_finds_85 : decode cX5_finds 85 = .ok (.istore_n 1, 1) := by decide +kernel
theorem dX5_finds_86 : decode cX5_finds 86 = .ok (.iload_n 1, 1) := by decide +kernel
theorem dX5_finds_87 : decode cX5_finds 87 = .ok (.aload_n 0, 1) := by decide +kernel
theorem dX5_finds_88 : decode cX5_finds 88 = .ok (.getfield 56, 3) := by decide +kernel
theorem dX5_finds_91 : decode cX5_finds 91 = .ok (.if_icmp .ge 113, 3) := by decide +kernel
theorem dX5_finds_94 : decode cX5_finds 94 = .ok (.iload_n 1, 1) := by decide +kernel
theorem dX5_finds_95 : decode cX5_finds 95 = .ok (.iconst 1, 1) := by decide +kernel
theorem dX5_finds_96 : decode cX5_finds 96 = .ok (.iadd, 1) := by decide +kernel
theorem dX5_finds_97 : decode cX5_finds 97 = .ok (.istore_n 2, 1) := by decide +kernel
theorem dX5_finds_98 : decode cX5_finds 98 = .ok (.iload_n 2, 1) := by decide +kernel
theorem dX5_finds_99 : decode cX5_finds 99 = .ok (.aload_n 0, 1) := by decide +kernel
theorem dX5_finds_100 : decode cX5_finds 100 = .ok (.getfield 56, 3) := by decide +kernel
theorem dX5_finds_103 : decode cX5_finds 103 = .ok (.if_icmp .ge 95, 3) := by decide +kernel
theorem dX5_finds_106 : decode cX5_finds 106 = .ok (.aload_n 0, 1) := by decide +kernel
theorem dX5_finds_107 : decode cX5_finds 107 = .ok (.iload_n 1, 1) := by decide +kernel
theorem dX5_finds_108 : decode cX5_finds 108 = .ok (.invokevirtual 145, 3) := by decide +kernel
theorem dX5_finds_111 : decode cX5_finds 111 = .ok (.ifCond .eq 81, 3) := by decide +kernel
theorem dX5_finds_114 : decode cX5_finds 114 = .ok (.aload_n 0, 1) := by decide +kernel
theorem dX5_finds_115 : decode cX5_finds 115 = .ok (.iload_n 2, 1) := by decide +kernel
theorem dX5_finds_116 : decode cX5_finds 116 = .ok (.invokevirtual 145, 3) := by decide +kernel
theorem dX5_finds_119 : decode cX5_finds 119 = .ok (.ifCond .eq 73, 3) := by decide +kernel
theorem dX5_finds_122 : decode cX5_finds 122 = .ok (.aload_n 0, 1) := by decide +kernel
theorem dX5_finds_123 : decode cX5_finds 123 = .ok (.getfield 16, 3) := by decide +kernel
theorem dX5_finds_126 : decode cX5_finds 126 = .ok (.iload_n 1, 1) := by decide +kernel
theorem dX5_finds_127 : decode cX5_finds 127 = .ok (.iaload, 1) := by decide +kernel
theorem dX5_finds_128 : decode cX5_finds 128 = .ok (.aload_n 0, 1) := by decide +kernel
theorem dX5_finds_129 : decode cX5_finds 129 = .ok (.getfield 16, 3) := by decide +kernel
theorem dX5_finds_132 : decode cX5_finds 132 = .ok (.iload_n 2, 1) := by decide +kernel
theorem dX5_finds_133 : decode cX5_finds 133 = .ok (.iaload, 1) := by decide +kernel
theorem dX5_finds_134 : decode cX5_finds 134 = .ok (.if_icmp .eq 58, 3) := by decide +kernel
theorem dX5_finds_137 : decode cX5_finds 137 = .ok (.aload_n 0, 1) := by decide +kernel
theorem dX5_finds_138 : decode cX5_finds 138 = .ok (.getfield 44, 3) := by decide +kernel
theorem dX5_finds_141 : decode cX5_finds 141 = .ok (.iload_n 1, 1) := by decide +kernel
theorem dX5_finds_142 : decode cX5_finds 142 = .ok (.aload_n 0, 1) := by decide +kernel
theorem dX5_finds_143 : decode cX5_finds 143 = .ok (.getfield 16, 3) := by decide +kernel
theorem dX5_finds_146 : decode cX5_finds 146 = .ok (.iload_n 2, 1) := by decide +kernel
theorem dX5_finds_147 : decode cX5_finds 147 = .ok (.iaload, 1) := by decide +kernel
theorem dX5_finds_148 : decode cX5_finds 148 = .ok (.iastore, 1) := by decide +kernel
theorem dX5_finds_149 : decode cX5_finds 149 = .ok (.aload_n 0, 1) := by decide +kernel
theorem dX5_finds_150 : decode cX5_finds 150 = .ok (.getfield 44, 3) := by decide +kernel
theorem dX5_finds_153 : decode cX5_finds 153 = .ok (.iload_n 2, 1) := by decide +kernel
theorem dX5_finds_154 : decode cX5_finds 154 = .ok (.aload_n 0, 1) := by decide +kernel
theorem dX5_finds_155 : decode cX5_finds 155 = .ok (.getfield 16, 3) := by decide +kernel
theorem dX5_finds_158 : decode cX5_finds 158 = .ok (.iload_n 1, 1) := by decide +kernel
theorem dX5_finds_159 : decode cX5_finds 159 = .ok (.iaload, 1) := by decide +kernel
theorem dX5_finds_160 : decode cX5_finds 160 = .ok (.iastore, 1) := by decide +kernel
theorem dX5_finds_161 : decode cX5_finds 161 = .ok (.aload_n 0, 1) := by decide +kernel
theorem dX5_finds_162 : decode cX5_finds 162 = .ok (.iconst 1, 1) := by decide +kernel
theorem dX5_finds_163 : decode cX5_finds 163 = .ok (.iload_n 1, 1) := by decide +kernel
theorem dX5_finds_164 : decode cX5_finds 164 = .ok (.iload_n 2, 1) := by decide +kernel
theorem dX5_finds_165 : decode cX5_finds 165 = .ok (.invokevirtual 148, 3) := by decide +kernel
theorem dX5_finds_168 : decode cX5_finds 168 = .ok (.aload_n 0, 1) := by decide +kernel
theorem dX5_finds_169 : decode cX5_finds 169 = .ok (.getfield 44, 3) := by decide +kernel
theorem dX5_finds_172 : decode cX5_finds 172 = .ok (.iload_n 1, 1) := by decide +kernel
theorem dX5_finds_173 : decode cX5_finds 173 = .ok (.aload_n 0, 1) := by decide +kernel
theorem dX5_finds_174 : decode cX5_finds 174 = .ok (.getfield 16, 3) := by decide +kernel
theorem dX5_finds_177 : decode cX5_finds 177 = .ok (.iload_n 1, 1) := by decide +kernel
theorem dX5_finds_178 : decode cX5_finds 178 = .ok (.iaload, 1) := by decide +kernel
theorem dX5_finds_179 : decode cX5_finds 179 = .ok (.iastore, 1) := by decide +kernel
theorem dX5_finds_180 : decode cX5_finds 180 = .ok (.aload_n 0, 1) := by decide +kernel
theorem dX5_finds_181 : decode cX5_finds 181 = .ok (.getfield 44, 3) := by decide +kernel
theorem dX5_finds_184 : decode cX5_finds 184 = .ok (.iload_n 2, 1) := by decide +kernel
theorem dX5_finds_185 : decode cX5_finds 185 = .ok (.aload_n 0, 1) := by decide +kernel
theorem dX5_finds_186 : decode cX5_finds 186 = .ok (.getfield 16, 3) := by decide +kernel
theorem dX5_finds_189 : decode cX5_finds 189 = .ok (.iload_n 2, 1) := by decide +kernel
theorem dX5_finds_190 : decode cX5_finds 190 = .ok (.iaload, 1) := by decide +kernel
theorem dX5_finds_191 : decode cX5_finds 191 = .ok (.iastore, 1) := by decide +kernel
theorem dX5_finds_192 : decode cX5_finds 192 = .ok (.iinc 2 1, 3) := by decide +kernel
theorem dX5_finds_195 : decode cX5_finds 195 = .ok (.goto (-97), 3) := by decide +kernel
theorem dX5_finds_198 : decode cX5_finds 198 = .ok (.iinc 1 1, 3) := by decide +kernel
theorem dX5_finds_201 : decode cX5_finds 201 = .ok (.goto (-115), 3) := by decide +kernel
theorem dX5_finds_204 : decode cX5_finds 204 = .ok (.aload_n 0, 1) := by decide +kernel
theorem dX5_finds_205 : decode cX5_finds 205 = .ok (.getfield 53, 3) := by decide +kernel
theorem dX5_finds_208 : decode cX5_finds 208 = .ok (.iconst 0, 1) := by decide +kernel
theorem dX5_finds_209 : decode cX5_finds 209 = .ok (.iaload, 1) := by decide +kernel
theorem dX5_finds_210 : decode cX5_finds 210 = .ok (.ifCond .lt 7, 3) := by decide +kernel
theorem dX5_finds_213 : decode cX5_finds 213 = .ok (.iconst 1, 1) := by decide +kernel
theorem dX5_finds_214 : decode cX5_finds 214 = .ok (.goto 4, 3) := by decide +kernel
theorem dX5_finds_217 : decode cX5_finds 217 = .ok (.iconst 0, 1) := by decide +kernel
theorem dX5_finds_218 : decode cX5_finds 218 = .ok (.ireturn, 1) := by decide +kernel
theorem dX5_lessens_0 : decode cX5_lessens 0 = .ok (.aload_n 0, 1) := by decide +kernel
theorem dX5_lessens_1 : decode cX5_lessens 1 = .ok (.invokevirtual 152, 3) := by decide +kernel
theorem dX5_lessens_4 : decode cX5_lessens 4 = .ok (.ifCond .eq 20, 3) := by decide +kernel
theorem dX5_lessens_7 : decode cX5_lessens 7 = .ok (.aload_n 0, 1) := by decide +kernel
theorem dX5_lessens_8 : decode cX5_lessens 8 = .ok (.getfield 53, 3) := by decide +kernel
theorem dX5_lessens_11 : decode cX5_lessens 11 = .ok (.iconst 0, 1) := by decide +kernel
theorem dX5_lessens_12 : decode cX5_lessens 12 = .ok (.iaload, 1) := by decide +kernel
theorem dX5_lessens_13 : decode cX5_lessens 13 = .ok (.aload_n 0, 1) := by decide +kernel
theorem dX5_lessens_14 : decode cX5_lessens 14 = .ok (.invokevirtual 122, 3) := by decide +kernel
theorem dX5_lessens_17 : decode cX5_lessens 17 = .ok (.if_icmp .ge 7, 3) := by decide +kernel
theorem dX5_lessens_20 : decode cX5_lessens 20 = .ok (.iconst 1, 1) := by decide +kernel
theorem dX5_lessens_21 : decode cX5_lessens 21 = .ok (.goto 4, 3) := by decide +kernel
theorem dX5_lessens_24 : decode cX5_lessens 24 = .ok (.iconst 0, 1) := by decide +kernel
theorem dX5_lessens_25 : decode cX5_lessens 25 = .ok (.ireturn, 1) := by decide +kernel
theorem dX5_steps_0 : decode cX5_steps 0 = .ok (.aload_n 0, 1) := by decide +kernel
theorem dX5_steps_1 : decode cX5_steps 1 = .ok (.getfield 53, 3) := by decide +kernel
theorem dX5_steps_4 : decode cX5_steps 4 = .ok (.iconst 1, 1) := by decide +kernel
theorem dX5_steps_5 : decode cX5_steps 5 = .ok (.iaload, 1) := by decide +kernel
theorem dX5_steps_6 : decode cX5_steps 6 = .ok (.ifCond .ne 23, 3) := by decide +kernel
theorem dX5_steps_9 : decode cX5_steps 9 = .ok (.aload_n 0, 1) := by decide +kernel
theorem dX5_steps_10 : decode cX5_steps 10 = .ok (.getfield 16, 3) := by decide +kernel
theorem dX5_steps_13 : decode cX5_steps 13 = .ok (.aload_n 0, 1) := by decide +kernel
theorem dX5_steps_14 : decode cX5_steps 14 = .ok (.getfield 53, 3) := by decide +kernel
theorem dX5_steps_17 : decode cX5_steps 17 = .ok (.iconst 2, 1) := by decide +kernel
theorem dX5_steps_18 : decode cX5_steps 18 = .ok (.iaload, 1) := by decide +kernel
theorem dX5_steps_19 : decode cX5_steps 19 = .ok (.aload_n 0, 1) := by decide +kernel
theorem dX5_steps_20 : decode cX5_steps 20 = .ok (.getfield 53, 3) := by decide +kernel
theorem dX5_steps_23 : decode cX5_steps 23 = .ok (.iconst 3, 1) := by decide +kernel
theorem dX5_steps_24 : decode cX5_steps 24 = .ok (.iaload, 1) := by decide +kernel
theorem dX5_steps_25 : decode cX5_steps 25 = .ok (.iastore, 1) := by decide +kernel
theorem dX5_steps_26 : decode cX5_steps 26 = .ok (.goto 19, 3) := by decide +kernel
theorem dX5_steps_29 : decode cX5_steps 29 = .ok (.aload_n 0, 1) := by decide +kernel
theorem dX5_steps_30 : decode cX5_steps 30 = .ok (.aload_n 0, 1) := by decide +kernel
theorem dX5_steps_31 : decode cX5_steps 31 = .ok (.getfield 53, 3) := by decide +kernel
theorem dX5_steps_34 : decode cX5_steps 34 = .ok (.iconst 2, 1) := by decide +kernel
theorem dX5_steps_35 : decode cX5_steps 35 = .ok (.iaload, 1) := by decide +kernel
theorem dX5_steps_36 : decode cX5_steps 36 = .ok (.aload_n 0, 1) := by decide +kernel
theorem dX5_steps_37 : decode cX5_steps 37 = .ok (.getfield 53, 3) := by decide +kernel
theorem dX5_steps_40 : decode cX5_steps 40 = .ok (.iconst 3, 1) := by decide +kernel
theorem dX5_steps_41 : decode cX5_steps 41 = .ok (.iaload, 1) := by decide +kernel
theorem dX5_steps_42 : decode cX5_steps 42 = .ok (.invokevirtual 138, 3) := by decide +kernel
theorem dX5_steps_45 : decode cX5_steps 45 = .ok (.return_, 1) := by decide +kernel
theorem dX5_step_0 : decode cX5_step 0 = .ok (.aload_n 0, 1) := by decide +kernel
theorem dX5_step_1 : decode cX5_step 1 = .ok (.invokevirtual 155, 3) := by decide +kernel
theorem dX5_step_4 : decode cX5_step 4 = .ok (.ifCond .ne 10, 3) := by decide +kernel
theorem dX5_step_7 : decode cX5_step 7 = .ok (.aload_n 0, 1) := by decide +kernel
theorem dX5_step_8 : decode cX5_step 8 = .ok (.bipush (-3), 2) := by decide +kernel
theorem dX5_step_10 : decode cX5_step 10 = .ok (.invokevirtual 63, 3) := by decide +kernel
theorem dX5_step_13 : decode cX5_step 13 = .ok (.ireturn, 1) := by decide +kernel
theorem dX5_step_14 : decode cX5_step 14 = .ok (.aload_n 0, 1) := by decide +kernel
theorem dX5_step_15 : decode cX5_step 15 = .ok (.invokevirtual 135, 3) := by decide +kernel
theorem dX5_step_18 : decode cX5_step 18 = .ok (.aload_n 0, 1) := by decide +kernel
theorem dX5_step_19 : decode cX5_step 19 = .ok (.invokevirtual 158, 3) := by decide +kernel
theorem dX5_step_22 : decode cX5_step 22 = .ok (.aload_n 0, 1) := by decide +kernel
theorem dX5_step_23 : decode cX5_step 23 = .ok (.getfield 53, 3) := by decide +kernel
theorem dX5_step_26 : decode cX5_step 26 = .ok (.iconst 0, 1) := by decide +kernel
theorem dX5_step_27 : decode cX5_step 27 = .ok (.iaload, 1) := by decide +kernel
theorem dX5_step_28 : decode cX5_step 28 = .ok (.ireturn, 1) := by decide +kernel
theorem dX5_down_0 : decode cX5_down 0 = .ok (.iconst 0, 1) := by decide +kernel
theorem dX5_down_1 : decode cX5_down 1 = .ok (.istore_n 1, 1) := by decide +kernel
theorem dX5_down_2 : decode cX5_down 2 = .ok (.aload_n 0, 1) := by decide +kernel
theorem dX5_down_3 : decode cX5_down 3 = .ok (.invokevirtual 155, 3) := by decide +kernel
theorem dX5_down_6 : decode cX5_down 6 = .ok (.ifCond .eq 21, 3) := by decide +kernel
theorem dX5_down_9 : decode cX5_down 9 = .ok (.iload_n 1, 1) := by decide +kernel
theorem dX5_down_10 : decode cX5_down 10 = .ok (.ifCond .ne 7, 3) := by decide +kernel
theorem dX5_down_13 : decode cX5_down 13 = .ok (.aload_n 0, 1) := by decide +kernel
theorem dX5_down_14 : decode cX5_down 14 = .ok (.invokevirtual 135, 3) := by decide +kernel
theorem dX5_down_17 : decode cX5_down 17 = .ok (.aload_n 0, 1) := by decide +kernel
theorem dX5_down_18 : decode cX5_down 18 = .ok (.invokevirtual 158, 3) := by decide +kernel
theorem dX5_down_21 : decode cX5_down 21 = .ok (.iinc 1 1, 3) := by decide +kernel
theorem dX5_down_24 : decode cX5_down 24 = .ok (.goto (-22), 3) := by decide +kernel
theorem dX5_down_27 : decode cX5_down 27 = .ok (.iload_n 1, 1) := by decide +kernel
theorem dX5_down_28 : decode cX5_down 28 = .ok (.ireturn, 1) := by decide +kernel
theorem dX5_undo_0 : decode cX5_undo 0 = .ok (.aload_n 0, 1) := by decide +kernel
theorem dX5_undo_1 : decode cX5_undo 1 = .ok (.getfield 67, 3) := by decide +kernel
theorem dX5_undo_4 : decode cX5_undo 4 = .ok (.ifCond .ne 10, 3) := by decide +kernel
theorem dX5_undo_7 : decode cX5_undo 7 = .ok (.aload_n 0, 1) := by decide +kernel
theorem dX5_undo_8 : decode cX5_undo 8 = .ok (.bipush (-3), 2) := by decide +kernel
theorem dX5_undo_10 : decode cX5_undo 10 = .ok (.invokevirtual 63, 3) := by decide +kernel
theorem dX5_undo_13 : decode cX5_undo 13 = .ok (.ireturn, 1) := by decide +kernel
theorem dX5_undo_14 : decode cX5_undo 14 = .ok (.aload_n 0, 1) := by decide +kernel
theorem dX5_undo_15 : decode cX5_undo 15 = .ok (.dup, 1) := by decide +kernel
theorem dX5_undo_16 : decode cX5_undo 16 = .ok (.getfield 67, 3) := by decide +kernel
theorem dX5_undo_19 : decode cX5_undo 19 = .ok (.iconst 1, 1) := by decide +kernel
theorem dX5_undo_20 : decode cX5_undo 20 = .ok (.isub, 1) := by decide +kernel
theorem dX5_undo_21 : decode cX5_undo 21 = .ok (.putfield 67, 3) := by decide +kernel
theorem dX5_undo_24 : decode cX5_undo 24 = .ok (.iconst 0, 1) := by decide +kernel
theorem dX5_undo_25 : decode cX5_undo 25 = .ok (.istore_n 1, 1) := by decide +kernel
theorem dX5_undo_26 : decode cX5_undo 26 = .ok (.iload_n 1, 1) := by decide +kernel
theorem dX5_undo_27 : decode cX5_undo 27 = .ok (.bipush 9, 2) := by decide +kernel
theorem dX5_undo_29 : decode cX5_undo 29 = .ok (.if_icmp .ge 29, 3) := by decide +kernel
theorem dX5_undo_32 : decode cX5_undo 32 = .ok (.aload_n 0, 1) := by decide +kernel
theorem dX5_undo_33 : decode cX5_undo 33 = .ok (.getfield 16, 3) := by decide +kernel
theorem dX5_undo_36 : decode cX5_undo 36 = .ok (.iload_n 1, 1) := by decide +kernel
theorem dX5_undo_37 : decode cX5_undo 37 = .ok (.aload_n 0, 1) := by decide +kernel
theorem dX5_undo_38 : decode cX5_undo 38 = .ok (.getfield 32, 3) := by decide +kernel
theorem dX5_undo_41 : decode cX5_undo 41 = .ok (.bipush 9, 2) := by decide +kernel
theorem dX5_undo_43 : decode cX5_undo 43 = .ok (.aload_n 0, 1) := by decide +kernel
theorem dX5_undo_44 : decode cX5_undo 44 = .ok (.getfield 67, 3) := by decide +kernel
theorem dX5_undo_47 : decode cX5_undo 47 = .ok (.imul, 1) := by decide +kernel
theorem dX5_undo_48 : decode cX5_undo 48 = .ok (.iload_n 1, 1) := by decide +kernel
theorem dX5_undo_49 : decode cX5_undo 49 = .ok (.iadd, 1) := by decide +kernel
theorem dX5_undo_50 : decode cX5_undo 50 = .ok (.iaload, 1) := by decide +kernel
theorem dX5_undo_51 : decode cX5_undo 51 = .ok (.iastore, 1) := by decide +kernel
theorem dX5_undo_52 : decode cX5_undo 52 = .ok (.iinc 1 1, 3) := by decide +kernel
theorem dX5_undo_55 : decode cX5_undo 55 = .ok (.goto (-29), 3) := by decide +kernel
theorem dX5_undo_58 : decode cX5_undo 58 = .ok (.aload_n 0, 1) := by decide +kernel
theorem dX5_undo_59 : decode cX5_undo 59 = .ok (.getfield 67, 3) := by decide +kernel
theorem dX5_undo_62 : decode cX5_undo 62 = .ok (.ireturn, 1) := by decide +kernel
theorem dX5_goes_0 : decode cX5_goes 0 = .ok (.aload_n 0, 1) := by decide +kernel
theorem dX5_goes_1 : decode cX5_goes 1 = .ok (.invokevirtual 106, 3) := by decide +kernel
theorem dX5_goes_4 : decode cX5_goes 4 = .ok (.aload_n 0, 1) := by decide +kernel
theorem dX5_goes_5 : decode cX5_goes 5 = .ok (.iconst 0, 1) := by decide +kernel
theorem dX5_goes_6 : decode cX5_goes 6 = .ok (.putfield 161, 3) := by decide +kernel
theorem dX5_goes_9 : decode cX5_goes 9 = .ok (.aload_n 0, 1) := by decide +kernel
theorem dX5_goes_10 : decode cX5_goes 10 = .ok (.iconst (-1), 1) := by decide +kernel
theorem dX5_goes_11 : decode cX5_goes 11 = .ok (.putfield 164, 3) := by decide +kernel
theorem dX5_goes_14 : decode cX5_goes 14 = .ok (.aload_n 0, 1) := by decide +kernel
theorem dX5_goes_15 : decode cX5_goes 15 = .ok (.iconst 0, 1) := by decide +kernel
theorem dX5_goes_16 : decode cX5_goes 16 = .ok (.putfield 167, 3) := by decide +kernel
theorem dX5_goes_19 : decode cX5_goes 19 = .ok (.iconst 0, 1) := by decide +kernel
theorem dX5_goes_20 : decode cX5_goes 20 = .ok (.istore_n 1, 1) := by decide +kernel
theorem dX5_goes_21 : decode cX5_goes 21 = .ok (.iload_n 1, 1) := by decide +kernel
theorem dX5_goes_22 : decode cX5_goes 22 = .ok (.bipush 10, 2) := by decide +kernel
theorem dX5_goes_24 : decode cX5_goes 24 = .ok (.if_icmp .ge 16, 3) := by decide +kernel
theorem dX5_goes_27 : decode cX5_goes 27 = .ok (.aload_n 0, 1) := by decide +kernel
theorem dX5_goes_28 : decode cX5_goes 28 = .ok (.getfield 50, 3) := by decide +kernel
theorem dX5_goes_31 : decode cX5_goes 31 = .ok (.iload_n 1, 1) := by decide +kernel
theorem dX5_goes_32 : decode cX5_goes 32 = .ok (.iconst (-1), 1) := by decide +kernel
theorem dX5_goes_33 : decode cX5_goes 33 = .ok (.iastore, 1) := by decide +kernel
theorem dX5_goes_34 : decode cX5_goes 34 = .ok (.iinc 1 1, 3) := by decide +kernel
theorem dX5_goes_37 : decode cX5_goes 37 = .ok (.goto (-16), 3) := by decide +kernel
theorem dX5_goes_40 : decode cX5_goes 40 = .ok (.iconst 0, 1) := by decide +kernel
theorem dX5_goes_41 : decode cX5_goes 41 = .ok (.istore_n 1, 1) := by decide +kernel
theorem dX5_goes_42 : decode cX5_goes 42 = .ok (.iload_n 1, 1) := by decide +kernel
theorem dX5_goes_43 : decode cX5_goes 43 = .ok (.aload_n 0, 1) := by decide +kernel
theorem dX5_goes_44 : decode cX5_goes 44 = .ok (.getfield 56, 3) := by decide +kernel
theorem dX5_goes_47 : decode cX5_goes 47 = .ok (.if_icmp .ge 35, 3) := by decide +kernel
theorem dX5_goes_50 : decode cX5_goes 50 = .ok (.aload_n 0, 1) := by decide +kernel
theorem dX5_goes_51 : decode cX5_goes 51 = .ok (.getfield 44, 3) := by decide +kernel
theorem dX5_goes_54 : decode cX5_goes 54 = .ok (.iload_n 1, 1) := by decide +kernel
theorem dX5_goes_55 : decode cX5_goes 55 = .ok (.aload_n 0, 1) := by decide +kernel
theorem dX5_goes_56 : decode cX5_goes 56 = .ok (.getfield 19, 3) := by decide +kernel
theorem dX5_goes_59 : decode cX5_goes 59 = .ok (.iload_n 1, 1) := by decide +kernel
theorem dX5_goes_60 : decode cX5_goes 60 = .ok (.iaload, 1) := by decide +kernel
theorem dX5_goes_61 : decode cX5_goes 61 = .ok (.iconst 1, 1) := by decide +kernel
theorem dX5_goes_62 : decode cX5_goes 62 = .ok (.if_icmp .ne 12, 3) := by decide +kernel
theorem dX5_goes_65 : decode cX5_goes 65 = .ok (.aload_n 0, 1) := by decide +kernel
theorem dX5_goes_66 : decode cX5_goes 66 = .ok (.getfield 16, 3) := by decide +kernel
theorem dX5_goes_69 : decode cX5_goes 69 = .ok (.iload_n 1, 1) := by decide +kernel
theorem dX5_goes_70 : decode cX5_goes 70 = .ok (.iaload, 1) := by decide +kernel
theorem dX5_goes_71 : decode cX5_goes 71 = .ok (.goto 4, 3) := by decide +kernel
theorem dX5_goes_74 : decode cX5_goes 74 = .ok (.iconst 0, 1) := by decide +kernel
theorem dX5_goes_75 : decode cX5_goes 75 = .ok (.iastore, 1) := by decide +kernel
theorem dX5_goes_76 : decode cX5_goes 76 = .ok (.iinc 1 1, 3) := by decide +kernel
theorem dX5_goes_79 : decode cX5_goes 79 = .ok (.goto (-37), 3) := by decide +kernel
theorem dX5_goes_82 : decode cX5_goes 82 = .ok (.iconst 1, 1) := by decide +kernel
theorem dX5_goes_83 : decode cX5_goes 83 = .ok (.istore_n 1, 1) := by decide +kernel
theorem dX5_goes_84 : decode cX5_goes 84 = .ok (.iload_n 1, 1) := by decide +kernel
theorem dX5_goes_85 : decode cX5_goes 85 = .ok (.ifCond .eq 104, 3) := by decide +kernel
theorem dX5_goes_88 : decode cX5_goes 88 = .ok (.aload_n 0, 1) := by decide +kernel
theorem dX5_goes_89 : decode cX5_goes 89 = .ok (.invokevirtual 129, 3) := by decide +kernel
theorem dX5_goes_92 : decode cX5_goes 92 = .ok (.ifCond .eq 7, 3) := by decide +kernel
theorem dX5_goes_95 : decode cX5_goes 95 = .ok (.aload_n 0, 1) := by decide +kernel
theorem dX5_goes_96 : decode cX5_goes 96 = .ok (.invokevirtual 170, 3) := by decide +kernel
theorem dX5_goes_99 : decode cX5_goes 99 = .ok (.aload_n 0, 1) := by decide +kernel
theorem dX5_goes_100 : decode cX5_goes 100 = .ok (.getfield 56, 3) := by decide +kernel
theorem dX5_goes_103 : decode cX5_goes 103 = .ok (.iconst 1, 1) := by decide +kernel
theorem dX5_goes_104 : decode cX5_goes 104 = .ok (.isub, 1) := by decide +kernel
theorem dX5_goes_105 : decode cX5_goes 105 = .ok (.istore_n 2, 1) := by decide +kernel
theorem dX5_goes_106 : decode cX5_goes 106 = .ok (.iload_n 2, 1) := by decide +kernel
theorem dX5_goes_107 : decode cX5_goes 107 = .ok (.ifCond .lt 55, 3) := by decide +kernel
theorem dX5_goes_110 : decode cX5_goes 110 = .ok (.aload_n 0, 1) := by decide +kernel
theorem dX5_goes_111 : decode cX5_goes 111 = .ok (.getfield 19, 3) := by decide +kernel
theorem dX5_goes_114 : decode cX5_goes 114 = .ok (.iload_n 2, 1) := by decide +kernel
theorem dX5_goes_115 : decode cX5_goes 115 = .ok (.iaload, 1) := by decide +kernel
theorem dX5_goes_116 : decode cX5_goes 116 = .ok (.iconst 1, 1) := by decide +kernel
theorem dX5_goes_117 : decode cX5_goes 117 = .ok (.if_icmp .eq 13, 3) := by decide +kernel
theorem dX5_goes_120 : decode cX5_goes 120 = .ok (.aload_n 0, 1) := by decide +kernel
theorem dX5_goes_121 : decode cX5_goes 121 = .ok (.getfield 44, 3) := by decide +kernel
theorem dX5_goes_124 : decode cX5_goes 124 = .ok (.iload_n 2, 1) := by decide +kernel
theorem dX5_goes_125 : decode cX5_goes 125 = .ok (.iaload, 1) := by decide +kernel
theorem dX5_goes_126 : decode cX5_goes 126 = .ok (.iconst 2, 1) := by decide +kernel
theorem dX5_goes_127 : decode cX5_goes 127 = .ok (.if_icmp .ne 35, 3) := by decide +kernel
theorem dX5_goes_130 : decode cX5_goes 130 = .ok (.aload_n 0, 1) := by decide +kernel
theorem dX5_goes_131 : decode cX5_goes 131 = .ok (.getfield 44, 3) := by decide +kernel
theorem dX5_goes_134 : decode cX5_goes 134 = .ok (.iload_n 2, 1) := by decide +kernel
theorem dX5_goes_135 : decode cX5_goes 135 = .ok (.aload_n 0, 1) := by decide +kernel
theorem dX5_goes_136 : decode cX5_goes 136 = .ok (.getfield 19, 3) := by decide +kernel
theorem dX5_goes_139 : decode cX5_goes 139 = .ok (.iload_n 2, 1) := by decide +kernel
theorem dX5_goes_140 : decode cX5_goes 140 = .ok (.iaload, 1) := by decide +kernel
theorem dX5_goes_141 : decode cX5_goes 141 = .ok (.iconst 1, 1) := by decide +kernel
theorem dX5_goes_142 : decode cX5_goes 142 = .ok (.if_icmp .ne 12, 3) := by decide +kernel
theorem dX5_goes_145 : decode cX5_goes 145 = .ok (.aload_n 0, 1) := by decide +kernel
theorem dX5_goes_146 : decode cX5_goes 146 = .ok (.getfield 44, 3) := by decide +kernel
theorem dX5_goes_149 : decode cX5_goes 149 = .ok (.iload_n 2, 1) := by decide +kernel
theorem dX5_goes_150 : decode cX5_goes 150 = .ok (.iaload, 1) := by decide +kernel
theorem dX5_goes_151 : decode cX5_goes 151 = .ok (.goto 4, 3) := by decide +kernel
theorem dX5_goes_154 : decode cX5_goes 154 = .ok (.iconst 0, 1) := by decide +kernel
theorem dX5_goes_155 : decode cX5_goes 155 = .ok (.iastore, 1) := by decide +kernel
theorem dX5_goes_156 : decode cX5_goes 156 = .ok (.iinc 2 (-1), 3) := by decide +kernel
theorem dX5_goes_159 : decode cX5_goes 159 = .ok (.goto (-53), 3) := by decide +kernel
theorem dX5_goes_162 : decode cX5_goes 162 = .ok (.iload_n 2, 1) := by decide +kernel
theorem dX5_goes_163 : decode cX5_goes 163 = .ok (.ifCond .lt 7, 3) := by decide +kernel
theorem dX5_goes_166 : decode cX5_goes 166 = .ok (.iconst 1, 1) := by decide +kernel
theorem dX5_goes_167 : decode cX5_goes 167 = .ok (.goto 4, 3) := by decide +kernel
theorem dX5_goes_170 : decode cX5_goes 170 = .ok (.iconst 0, 1) := by decide +kernel
theorem dX5_goes_171 : decode cX5_goes 171 = .ok (.istore_n 1, 1) := by decide +kernel
theorem dX5_goes_172 : decode cX5_goes 172 = .ok (.iload_n 1, 1) := by decide +kernel
theorem dX5_goes_173 : decode cX5_goes 173 = .ok (.ifCond .eq 13, 3) := by decide +kernel
theorem dX5_goes_176 : decode cX5_goes 176 = .ok (.aload_n 0, 1) := by decide +kernel
theorem dX5_goes_177 : decode cX5_goes 177 = .ok (.getfield 44, 3) := by decide +kernel
theorem dX5_goes_180 : decode cX5_goes 180 = .ok (.iload_n 2, 1) := by decide +kernel
theorem dX5_goes_181 : decode cX5_goes 181 = .ok (.dup2, 1) := by decide +kernel
theorem dX5_goes_182 : decode cX5_goes 182 = .ok (.iaload, 1) := by decide +kernel
theorem dX5_goes_183 : decode cX5_goes 183 = .ok (.iconst 1, 1) := by decide +kernel
theorem dX5_goes_184 : decode cX5_goes 184 = .ok (.iadd, 1) := by decide +kernel
theorem dX5_goes_185 : decode cX5_goes 185 = .ok (.iastore, 1) := by decide +kernel
theorem dX5_goes_186 : decode cX5_goes 186 = .ok (.goto (-102), 3) := by decide +kernel
theorem dX5_goes_189 : decode cX5_goes 189 = .ok (.return_, 1) := by decide +kernel
theorem dX5_meets_0 : decode cX5_meets 0 = .ok (.aload_n 0, 1) := by decide +kernel
theorem dX5_meets_1 : decode cX5_meets 1 = .ok (.invokevirtual 109, 3) := by decide +kernel
theorem dX5_meets_4 : decode cX5_meets 4 = .ok (.aload_n 0, 1) := by decide +kernel
theorem dX5_meets_5 : decode cX5_meets 5 = .ok (.invokevirtual 125, 3) := by decide +kernel
theorem dX5_meets_8 : decode cX5_meets 8 = .ok (.ifCond .ne 4, 3) := by decide +kernel
theorem dX5_meets_11 : decode cX5_meets 11 = .ok (.return_, 1) := by decide +kernel
theorem dX5_meets_12 : decode cX5_meets 12 = .ok (.aload_n 0, 1) := by decide +kernel
theorem dX5_meets_13 : decode cX5_meets 13 = .ok (.dup, 1) := by decide +kernel
theorem dX5_meets_14 : decode cX5_meets 14 = .ok (.getfield 161, 3) := by decide +kernel
theorem dX5_meets_17 : decode cX5_meets 17 = .ok (.iconst 1, 1) := by decide +kernel
theorem dX5_meets_18 : decode cX5_meets 18 = .ok (.iadd, 1) := by decide +kernel
theorem dX5_meets_19 : decode cX5_meets 19 = .ok (.putfield 161, 3) := by decide +kernel
theorem dX5_meets_22 : decode cX5_meets 22 = .ok (.aload_n 0, 1) := by decide +kernel
theorem dX5_meets_23 : decode cX5_meets 23 = .ok (.invokevirtual 118, 3) := by decide +kernel
theorem dX5_meets_26 : decode cX5_meets 26 = .ok (.istore_n 1, 1) := by decide +kernel
theorem dX5_meets_27 : decode cX5_meets 27 = .ok (.iconst 0, 1) := by decide +kernel
theorem dX5_meets_28 : decode cX5_meets 28 = .ok (.istore_n 2, 1) := by decide +kernel
theorem dX5_meets_29 : decode cX5_meets 29 = .ok (.iconst 0, 1) := by decide +kernel
theorem dX5_meets_30 : decode cX5_meets 30 = .ok (.istore_n 3, 1) := by decide +kernel
theorem dX5_meets_31 : decode cX5_meets 31 = .ok (.iload_n 3, 1) := by decide +kernel
theorem dX5_meets_32 : decode cX5_meets 32 = .ok (.aload_n 0, 1) := by decide +kernel
theorem dX5_meets_33 : decode cX5_meets 33 = .ok (.getfield 56, 3) := by decide +kernel
theorem dX5_meets_36 : decode cX5_meets 36 = .ok (.if_icmp .ge 32, 3) := by decide +kernel
theorem dX5_meets_39 : decode cX5_meets 39 = .ok (.iload_n 2, 1) := by decide +kernel
theorem dX5_meets_40 : decode cX5_meets 40 = .ok (.aload_n 0, 1) := by decide +kernel
theorem dX5_meets_41 : decode cX5_meets 41 = .ok (.getfield 44, 3) := by decide +kernel
theorem dX5_meets_44 : decode cX5_meets 44 = .ok (.iload_n 3, 1) := by decide +kernel
theorem dX5_meets_45 : decode cX5_meets 45 = .ok (.iaload, 1) := by decide +kernel
theorem dX5_meets_46 : decode cX5_meets 46 = .ok (.aload_n 0, 1) := by decide +kernel
theorem dX5_meets_47 : decode cX5_meets 47 = .ok (.getfield 16, 3) := by decide +kernel
theorem dX5_meets_50 : decode cX5_meets 50 = .ok (.iload_n 3, 1) := by decide +kernel
theorem dX5_meets_51 : decode cX5_meets 51 = .ok (.iaload, 1) := by decide +kernel
theorem dX5_meets_52 : decode cX5_meets 52 = .ok (.if_icmp .ne 7, 3) := by decide +kernel
theorem dX5_meets_55 : decode cX5_meets 55 = .ok (.iconst 0, 1) := by decide +kernel
theorem dX5_meets_56 : decode cX5_meets 56 = .ok (.goto 4, 3) := by decide +kernel
theorem dX5_meets_59 : decode cX5_meets 59 = .ok (.iconst 1, 1) := by decide +kernel
theorem dX5_meets_60 : decode cX5_meets 60 = .ok (.iadd, 1) := by decide +kernel
theorem dX5_meets_61 : decode cX5_meets 61 = .ok (.istore_n 2, 1) := by decide +kernel
theorem dX5_meets_62 : decode cX5_meets 62 = .ok (.iinc 3 1, 3) := by decide +kernel
theorem dX5_meets_65 : decode cX5_meets 65 = .ok (.goto (-34), 3) := by decide +kernel
theorem dX5_meets_68 : decode cX5_meets 68 = .ok (.aload_n 0, 1) := by decide +kernel
theorem dX5_meets_69 : decode cX5_meets 69 = .ok (.aload_n 0, 1) := by decide +kernel
theorem dX5_meets_70 : decode cX5_meets 70 = .ok (.getfield 164, 3) := by decide +kernel
theorem dX5_meets_73 : decode cX5_meets 73 = .ok (.ifCond .lt 11, 3) := by decide +kernel
theorem dX5_meets_76 : decode cX5_meets 76 = .ok (.iload_n 1, 1) := by decide +kernel
theorem dX5_meets_77 : decode cX5_meets 77 = .ok (.aload_n 0, 1) := by decide +kernel
theorem dX5_meets_78 : decode cX5_meets 78 = .ok (.getfield 164, 3) := by decide +kernel
theorem dX5_meets_81 : decode cX5_meets 81 = .ok (.if_icmp .ge 7, 3) := by decide +kernel
theorem dX5_meets_84 : decode cX5_meets 84 = .ok (.iconst 1, 1) := by decide +kernel
theorem dX5_meets_85 : decode cX5_meets 85 = .ok (.goto 24, 3) := by decide +kernel
theorem dX5_meets_88 : decode cX5_meets 88 = .ok (.iload_n 1, 1) := by decide +kernel
theorem dX5_meets_89 : decode cX5_meets 89 = .ok (.aload_n 0, 1) := by decide +kernel
theorem dX5_meets_90 : decode cX5_meets 90 = .ok (.getfield 164, 3) := by decide +kernel
theorem dX5_meets_93 : decode cX5_meets 93 = .ok (.if_icmp .ne 12, 3) := by decide +kernel
theorem dX5_meets_96 : decode cX5_meets 96 = .ok (.aload_n 0, 1) := by decide +kernel
theorem dX5_meets_97 : decode cX5_meets 97 = .ok (.getfield 167, 3) := by decide +kernel
theorem dX5_meets_100 : decode cX5_meets 100 = .ok (.iconst 1, 1) := by decide +kernel
theorem dX5_meets_101 : decode cX5_meets 101 = .ok (.iadd, 1) := by decide +kernel
theorem dX5_meets_102 : decode cX5_meets 102 = .ok (.goto 7, 3) := by decide +kernel
theorem dX5_meets_105 : decode cX5_meets 105 = .ok (.aload_n 0, 1) := by decide +kernel
theorem dX5_meets_106 : decode cX5_meets 106 = .ok (.getfield 167, 3) := by decide +kernel
theorem dX5_meets_109 : decode cX5_meets 109 = .ok (.putfield 167, 3) := by decide +kernel
theorem dX5_meets_112 : decode cX5_meets 112 = .ok (.aload_n 0, 1) := by decide +kernel
theorem dX5_meets_113 : decode cX5_meets 113 = .ok (.aload_n 0, 1) := by decide +kernel
theorem dX5_meets_114 : decode cX5_meets 114 = .ok (.getfield 164, 3) := by decide +kernel
theorem dX5_meets_117 : decode cX5_meets 117 = .ok (.ifCond .lt 11, 3) := by decide +kernel
theorem dX5_meets_120 : decode cX5_meets 120 = .ok (.iload_n 1, 1) := by decide +kernel
theorem dX5_meets_121 : decode cX5_meets 121 = .ok (.aload_n 0, 1) := by decide +kernel
theorem dX5_meets_122 : decode cX5_meets 122 = .ok (.getfield 164, 3) := by decide +kernel
theorem dX5_meets_125 : decode cX5_meets 125 = .ok (.if_icmp .ge 7, 3) := by decide +kernel
theorem dX5_meets_128 : decode cX5_meets 128 = .ok (.iload_n 1, 1) := by decide +kernel
theorem dX5_meets_129 : decode cX5_meets 129 = .ok (.goto 7, 3) := by decide +kernel
theorem dX5_meets_132 : decode cX5_meets 132 = .ok (.aload_n 0, 1) := by decide +kernel
theorem dX5_meets_133 : decode cX5_meets 133 = .ok (.getfield 164, 3) := by decide +kernel
theorem dX5_meets_136 : decode cX5_meets 136 = .ok (.putfield 164, 3) := by decide +kernel
theorem dX5_meets_139 : decode cX5_meets 139 = .ok (.aload_n 0, 1) := by decide +kernel
theorem dX5_meets_140 : decode cX5_meets 140 = .ok (.getfield 50, 3) := by decide +kernel
theorem dX5_meets_143 : decode cX5_meets 143 = .ok (.iload_n 2, 1) := by decide +kernel
theorem dX5_meets_144 : decode cX5_meets 144 = .ok (.iaload, 1) := by decide +kernel
theorem dX5_meets_145 : decode cX5_meets 145 = .ok (.ifCond .lt 13, 3) := by decide +kernel
theorem dX5_meets_148 : decode cX5_meets 148 = .ok (.iload_n 1, 1) := by decide +kernel
theorem dX5_meets_149 : decode cX5_meets 149 = .ok (.aload_n 0, 1) := by decide +kernel
theorem dX5_meets_150 : decode cX5_meets 150 = .ok (.getfield 50, 3) := by decide +kernel
theorem dX5_meets_153 : decode cX5_meets 153 = .ok (.iload_n 2, 1) := by decide +kernel
theorem dX5_meets_154 : decode cX5_meets 154 = .ok (.iaload, 1) := by decide +kernel
theorem dX5_meets_155 : decode cX5_meets 155 = .ok (.if_icmp .ge 43, 3) := by decide +kernel
theorem dX5_meets_158 : decode cX5_meets 158 = .ok (.aload_n 0, 1) := by decide +kernel
theorem dX5_meets_159 : decode cX5_meets 159 = .ok (.getfield 50, 3) := by decide +kernel
theorem dX5_meets_162 : decode cX5_meets 162 = .ok (.iload_n 2, 1) := by decide +kernel
theorem dX5_meets_163 : decode cX5_meets 163 = .ok (.iload_n 1, 1) := by decide +kernel
theorem dX5_meets_164 : decode cX5_meets 164 = .ok (.iastore, 1) := by decide +kernel
theorem dX5_meets_165 : decode cX5_meets 165 = .ok (.iconst 0, 1) := by decide +kernel
theorem dX5_meets_166 : decode cX5_meets 166 = .ok (.istore_n 3, 1) := by decide +kernel
theorem dX5_meets_167 : decode cX5_meets 167 = .ok (.iload_n 3, 1) := by decide +kernel
theorem dX5_meets_168 : decode cX5_meets 168 = .ok (.aload_n 0, 1) := by decide +kernel
theorem dX5_meets_169 : decode cX5_meets 169 = .ok (.getfield 56, 3) := by decide +kernel
theorem dX5_meets_172 : decode cX5_meets 172 = .ok (.if_icmp .ge 26, 3) := by decide +kernel
theorem dX5_meets_175 : decode cX5_meets 175 = .ok (.aload_n 0, 1) := by decide +kernel
theorem dX5_meets_176 : decode cX5_meets 176 = .ok (.getfield 47, 3) := by decide +kernel
theorem dX5_meets_179 : decode cX5_meets 179 = .ok (.bipush 9, 2) := by decide +kernel
theorem dX5_meets_181 : decode cX5_meets 181 = .ok (.iload_n 2, 1) := by decide +kernel
theorem dX5_meets_182 : decode cX5_meets 182 = .ok (.imul, 1) := by decide +kernel
theorem dX5_meets_183 : decode cX5_meets 183 = .ok (.iload_n 3, 1) := by decide +kernel
theorem dX5_meets_184 : decode cX5_meets 184 = .ok (.iadd, 1) := by decide +kernel
theorem dX5_meets_185 : decode cX5_meets 185 = .ok (.aload_n 0, 1) := by decide +kernel
theorem dX5_meets_186 : decode cX5_meets 186 = .ok (.getfield 44, 3) := by decide +kernel
theorem dX5_meets_189 : decode cX5_meets 189 = .ok (.iload_n 3, 1) := by decide +kernel
theorem dX5_meets_190 : decode cX5_meets 190 = .ok (.iaload, 1) := by decide +kernel
theorem dX5_meets_191 : decode cX5_meets 191 = .ok (.iastore, 1) := by decide +kernel
theorem dX5_meets_192 : decode cX5_meets 192 = .ok (.iinc 3 1, 3) := by decide +kernel
theorem dX5_meets_195 : decode cX5_meets 195 = .ok (.goto (-28), 3) := by decide +kernel
theorem dX5_meets_198 : decode cX5_meets 198 = .ok (.return_, 1) := by decide +kernel
theorem dX5_bestBy_0 : decode cX5_bestBy 0 = .ok (.iconst (-1), 1) := by decide +kernel
theorem dX5_bestBy_1 : decode cX5_bestBy 1 = .ok (.istore_n 2, 1) := by decide +kernel
theorem dX5_bestBy_2 : decode cX5_bestBy 2 = .ok (.iconst 0, 1) := by decide +kernel
theorem dX5_bestBy_3 : decode cX5_bestBy 3 = .ok (.istore_n 3, 1) := by decide +kernel
theorem dX5_bestBy_4 : decode cX5_bestBy 4 = .ok (.iload_n 3, 1) := by decide +kernel
theorem dX5_bestBy_5 : decode cX5_bestBy 5 = .ok (.iload_n 1, 1) := by decide +kernel
theorem dX5_bestBy_6 : decode cX5_bestBy 6 = .ok (.if_icmp .gt 44, 3) := by decide +kernel
theorem dX5_bestBy_9 : decode cX5_bestBy 9 = .ok (.aload_n 0, 1) := by decide +kernel
theorem dX5_bestBy_10 : decode cX5_bestBy 10 = .ok (.getfield 50, 3) := by decide +kernel
theorem dX5_bestBy_13 : decode cX5_bestBy 13 = .ok (.iload_n 3, 1) := by decide +kernel
theorem dX5_bestBy_14 : decode cX5_bestBy 14 = .ok (.iaload, 1) := by decide +kernel
theorem dX5_bestBy_15 : decode cX5_bestBy 15 = .ok (.ifCond .lt 27, 3) := by decide +kernel
theorem dX5_bestBy_18 : decode cX5_bestBy 18 = .ok (.iload_n 2, 1) := by decide +kernel
theorem dX5_bestBy_19 : decode cX5_bestBy 19 = .ok (.iconst (-1), 1) := by decide +kernel
theorem dX5_bestBy_20 : decode cX5_bestBy 20 = .ok (.if_icmp .eq 18, 3) := by decide +kernel
theorem dX5_bestBy_23 : decode cX5_bestBy 23 = .ok (.aload_n 0, 1) := by decide +kernel
theorem dX5_bestBy_24 : decode cX5_bestBy 24 = .ok (.getfield 50, 3) := by decide +kernel
theorem dX5_bestBy_27 : decode cX5_bestBy 27 = .ok (.iload_n 3, 1) := by decide +kernel
theorem dX5_bestBy_28 : decode cX5_bestBy 28 = .ok (.iaload, 1) := by decide +kernel
theorem dX5_bestBy_29 : decode cX5_bestBy 29 = .ok (.aload_n 0, 1) := by decide +kernel
theorem dX5_bestBy_30 : decode cX5_bestBy 30 = .ok (.getfield 50, 3) := by decide +kernel
theorem dX5_bestBy_33 : decode cX5_bestBy 33 = .ok (.iload_n 2, 1) := by decide +kernel
theorem dX5_bestBy_34 : decode cX5_bestBy 34 = .ok (.iaload, 1) := by decide +kernel
theorem dX5_bestBy_35 : decode cX5_bestBy 35 = .ok (.if_icmp .ge 7, 3) := by decide +kernel
theorem dX5_bestBy_38 : decode cX5_bestBy 38 = .ok (.iload_n 3, 1) := by decide +kernel
theorem dX5_bestBy_39 : decode cX5_bestBy 39 = .ok (.goto 4, 3) := by decide +kernel
theorem dX5_bestBy_42 : decode cX5_bestBy 42 = .ok (.iload_n 2, 1) := by decide +kernel
theorem dX5_bestBy_43 : decode cX5_bestBy 43 = .ok (.istore_n 2, 1) := by decide +kernel
theorem dX5_bestBy_44 : decode cX5_bestBy 44 = .ok (.iinc 3 1, 3) := by decide +kernel
theorem dX5_bestBy_47 : decode cX5_bestBy 47 = .ok (.goto (-43), 3) := by decide +kernel
theorem dX5_bestBy_50 : decode cX5_bestBy 50 = .ok (.iload_n 2, 1) := by decide +kernel
theorem dX5_bestBy_51 : decode cX5_bestBy 51 = .ok (.ireturn, 1) := by decide +kernel
theorem dX5_lay_0 : decode cX5_lay 0 = .ok (.aload_n 0, 1) := by decide +kernel
theorem dX5_lay_1 : decode cX5_lay 1 = .ok (.invokevirtual 173, 3) := by decide +kernel
theorem dX5_lay_4 : decode cX5_lay 4 = .ok (.aload_n 0, 1) := by decide +kernel
theorem dX5_lay_5 : decode cX5_lay 5 = .ok (.bipush 9, 2) := by decide +kernel
theorem dX5_lay_7 : decode cX5_lay 7 = .ok (.invokevirtual 176, 3) := by decide +kernel
theorem dX5_lay_10 : decode cX5_lay 10 = .ok (.istore_n 1, 1) := by decide +kernel
theorem dX5_lay_11 : decode cX5_lay 11 = .ok (.iload_n 1, 1) := by decide +kernel
theorem dX5_lay_12 : decode cX5_lay 12 = .ok (.iconst (-1), 1) := by decide +kernel
theorem dX5_lay_13 : decode cX5_lay 13 = .ok (.if_icmp .ne 10, 3) := by decide +kernel
theorem dX5_lay_16 : decode cX5_lay 16 = .ok (.aload_n 0, 1) := by decide +kernel
theorem dX5_lay_17 : decode cX5_lay 17 = .ok (.bipush (-3), 2) := by decide +kernel
theorem dX5_lay_19 : decode cX5_lay 19 = .ok (.invokevirtual 63, 3) := by decide +kernel
theorem dX5_lay_22 : decode cX5_lay 22 = .ok (.ireturn, 1) := by decide +kernel
theorem dX5_lay_23 : decode cX5_lay 23 = .ok (.aload_n 0, 1) := by decide +kernel
theorem dX5_lay_24 : decode cX5_lay 24 = .ok (.invokevirtual 135, 3) := by decide +kernel
theorem dX5_lay_27 : decode cX5_lay 27 = .ok (.iconst 0, 1) := by decide +kernel
theorem dX5_lay_28 : decode cX5_lay 28 = .ok (.istore_n 2, 1) := by decide +kernel
theorem dX5_lay_29 : decode cX5_lay 29 = .ok (.iload_n 2, 1) := by decide +kernel
theorem dX5_lay_30 : decode cX5_lay 30 = .ok (.aload_n 0, 1) := by decide +kernel
theorem dX5_lay_31 : decode cX5_lay 31 = .ok (.getfield 56, 3) := by decide +kernel
theorem dX5_lay_34 : decode cX5_lay 34 = .ok (.if_icmp .ge 26, 3) := by decide +kernel
theorem dX5_lay_37 : decode cX5_lay 37 = .ok (.aload_n 0, 1) := by decide +kernel
theorem dX5_lay_38 : decode cX5_lay 38 = .ok (.getfield 16, 3) := by decide +kernel
theorem dX5_lay_41 : decode cX5_lay 41 = .ok (.iload_n 2, 1) := by decide +kernel
theorem dX5_lay_42 : decode cX5_lay 42 = .ok (.aload_n 0, 1) := by decide +kernel
theorem dX5_lay_43 : decode cX5_lay 43 = .ok (.getfield 47, 3) := by decide +kernel
theorem dX5_lay_46 : decode cX5_lay 46 = .ok (.bipush 9, 2) := by decide +kernel
theorem dX5_lay_48 : decode cX5_lay 48 = .ok (.iload_n 1, 1) := by decide +kernel
theorem dX5_lay_49 : decode cX5_lay 49 = .ok (.imul, 1) := by decide +kernel
theorem dX5_lay_50 : decode cX5_lay 50 = .ok (.iload_n 2, 1) := by decide +kernel
theorem dX5_lay_51 : decode cX5_lay 51 = .ok (.iadd, 1) := by decide +kernel
theorem dX5_lay_52 : decode cX5_lay 52 = .ok (.iaload, 1) := by decide +kernel
theorem dX5_lay_53 : decode cX5_lay 53 = .ok (.iastore, 1) := by decide +kernel
theorem dX5_lay_54 : decode cX5_lay 54 = .ok (.iinc 2 1, 3) := by decide +kernel
theorem dX5_lay_57 : decode cX5_lay 57 = .ok (.goto (-28), 3) := by decide +kernel
theorem dX5_lay_60 : decode cX5_lay 60 = .ok (.iload_n 1, 1) := by decide +kernel
theorem dX5_lay_61 : decode cX5_lay 61 = .ok (.ireturn, 1) := by decide +kernel
theorem dX5_best_0 : decode cX5_best 0 = .ok (.iload_n 1, 1) := by decide +kernel
theorem dX5_best_1 : decode cX5_best 1 = .ok (.iconst 0, 1) := by decide +kernel
theorem dX5_best_2 : decode cX5_best 2 = .ok (.iconst 2, 1) := by decide +kernel
theorem dX5_best_3 : decode cX5_best 3 = .ok (.invokestatic 59, 3) := by decide +kernel
theorem dX5_best_6 : decode cX5_best 6 = .ok (.ifCond .ne 10, 3) := by decide +kernel
theorem dX5_best_9 : decode cX5_best 9 = .ok (.aload_n 0, 1) := by decide +kernel
theorem dX5_best_10 : decode cX5_best 10 = .ok (.bipush (-2), 2) := by decide +kernel
theorem dX5_best_12 : decode cX5_best 12 = .ok (.invokevirtual 63, 3) := by decide +kernel
theorem dX5_best_15 : decode cX5_best 15 = .ok (.ireturn, 1) := by decide +kernel
theorem dX5_best_16 : decode cX5_best 16 = .ok (.aload_n 0, 1) := by decide +kernel
theorem dX5_best_17 : decode cX5_best 17 = .ok (.invokevirtual 173, 3) := by decide +kernel
theorem dX5_best_20 : decode cX5_best 20 = .ok (.aload_n 0, 1) := by decide +kernel
theorem dX5_best_21 : decode cX5_best 21 = .ok (.bipush 9, 2) := by decide +kernel
theorem dX5_best_23 : decode cX5_best 23 = .ok (.invokevirtual 176, 3) := by decide +kernel
theorem dX5_best_26 : decode cX5_best 26 = .ok (.istore_n 2, 1) := by decide +kernel
theorem dX5_best_27 : decode cX5_best 27 = .ok (.iload_n 2, 1) := by decide +kernel
theorem dX5_best_28 : decode cX5_best 28 = .ok (.iconst (-1), 1) := by decide +kernel
theorem dX5_best_29 : decode cX5_best 29 = .ok (.if_icmp .ne 12, 3) := by decide +kernel
theorem dX5_best_32 : decode cX5_best 32 = .ok (.aload_n 0, 1) := by decide +kernel
theorem dX5_best_33 : decode cX5_best 33 = .ok (.bipush (-3), 2) := by decide +kernel
theorem dX5_best_35 : decode cX5_best 35 = .ok (.invokevirtual 63, 3) := by decide +kernel
theorem dX5_best_38 : decode cX5_best 38 = .ok (.goto 27, 3) := by decide +kernel
theorem dX5_best_41 : decode cX5_best 41 = .ok (.iload_n 1, 1) := by decide +kernel
theorem dX5_best_42 : decode cX5_best 42 = .ok (.ifCond .ne 10, 3) := by decide +kernel
theorem dX5_best_45 : decode cX5_best 45 = .ok (.aload_n 0, 1) := by decide +kernel
theorem dX5_best_46 : decode cX5_best 46 = .ok (.getfield 164, 3) := by decide +kernel
theorem dX5_best_49 : decode cX5_best 49 = .ok (.goto 16, 3) := by decide +kernel
theorem dX5_best_52 : decode cX5_best 52 = .ok (.iload_n 1, 1) := by decide +kernel
theorem dX5_best_53 : decode cX5_best 53 = .ok (.iconst 1, 1) := by decide +kernel
theorem dX5_best_54 : decode cX5_best 54 = .ok (.if_icmp .ne 7, 3) := by decide +kernel
theorem dX5_best_57 : decode cX5_best 57 = .ok (.iload_n 2, 1) := by decide +kernel
theorem dX5_best_58 : decode cX5_best 58 = .ok (.goto 7, 3) := by decide +kernel
theorem dX5_best_61 : decode cX5_best 61 = .ok (.aload_n 0, 1) := by decide +kernel
theorem dX5_best_62 : decode cX5_best 62 = .ok (.getfield 167, 3) := by decide +kernel
theorem dX5_best_65 : decode cX5_best 65 = .ok (.ireturn, 1) := by decide +kernel
theorem dX5_phase_0 : decode cX5_phase 0 = .ok (.aload_n 0, 1) := by decide +kernel
theorem dX5_phase_1 : decode cX5_phase 1 = .ok (.iload_n 1, 1) := by decide +kernel
theorem dX5_phase_2 : decode cX5_phase 2 = .ok (.invokevirtual 70, 3) := by decide +kernel
theorem dX5_phase_5 : decode cX5_phase 5 = .ok (.ifCond .ne 10, 3) := by decide +kernel
theorem dX5_phase_8 : decode cX5_phase 8 = .ok (.aload_n 0, 1) := by decide +kernel
theorem dX5_phase_9 : decode cX5_phase 9 = .ok (.bipush (-2), 2) := by decide +kernel
theorem dX5_phase_11 : decode cX5_phase 11 = .ok (.invokevirtual 63, 3) := by decide +kernel
theorem dX5_phase_14 : decode cX5_phase 14 = .ok (.ireturn, 1) := by decide +kernel
theorem dX5_phase_15 : decode cX5_phase 15 = .ok (.aload_n 0, 1) := by decide +kernel
theorem dX5_phase_16 : decode cX5_phase 16 = .ok (.invokevirtual 173, 3) := by decide +kernel
theorem dX5_phase_19 : decode cX5_phase 19 = .ok (.aload_n 0, 1) := by decide +kernel
theorem dX5_phase_20 : decode cX5_phase 20 = .ok (.bipush 9, 2) := by decide +kernel
theorem dX5_phase_22 : decode cX5_phase 22 = .ok (.invokevirtual 176, 3) := by decide +kernel
theorem dX5_phase_25 : decode cX5_phase 25 = .ok (.istore_n 2, 1) := by decide +kernel
theorem dX5_phase_26 : decode cX5_phase 26 = .ok (.iload_n 2, 1) := by decide +kernel
theorem dX5_phase_27 : decode cX5_phase 27 = .ok (.iconst (-1), 1) := by decide +kernel
theorem dX5_phase_28 : decode cX5_phase 28 = .ok (.if_icmp .ne 12, 3) := by decide +kernel
theorem dX5_phase_31 : decode cX5_phase 31 = .ok (.aload_n 0, 1) := by decide +kernel
theorem dX5_phase_32 : decode cX5_phase 32 = .ok (.bipush (-3), 2) := by decide +kernel
theorem dX5_phase_34 : decode cX5_phase 34 = .ok (.invokevirtual 63, 3) := by decide +kernel
theorem dX5_phase_37 : decode cX5_phase 37 = .ok (.goto 14, 3) := by decide +kernel
theorem dX5_phase_40 : decode cX5_phase 40 = .ok (.aload_n 0, 1) := by decide +kernel
theorem dX5_phase_41 : decode cX5_phase 41 = .ok (.getfield 47, 3) := by decide +kernel
theorem dX5_phase_44 : decode cX5_phase 44 = .ok (.bipush 9, 2) := by decide +kernel
theorem dX5_phase_46 : decode cX5_phase 46 = .ok (.iload_n 2, 1) := by decide +kernel
theorem dX5_phase_47 : decode cX5_phase 47 = .ok (.imul, 1) := by decide +kernel
theorem dX5_phase_48 : decode cX5_phase 48 = .ok (.iload_n 1, 1) := by decide +kernel
theorem dX5_phase_49 : decode cX5_phase 49 = .ok (.iadd, 1) := by decide +kernel
theorem dX5_phase_50 : decode cX5_phase 50 = .ok (.iaload, 1) := by decide +kernel
theorem dX5_phase_51 : decode cX5_phase 51 = .ok (.ireturn, 1) := by decide +kernel
theorem dX5_by_0 : decode cX5_by 0 = .ok (.iload_n 1, 1) := by decide +kernel
theorem dX5_by_1 : decode cX5_by 1 = .ok (.iconst 0, 1) := by decide +kernel
theorem dX5_by_2 : decode cX5_by 2 = .ok (.bipush 9, 2) := by decide +kernel
theorem dX5_by_4 : decode cX5_by 4 = .ok (.invokestatic 59, 3) := by decide +kernel
theorem dX5_by_7 : decode cX5_by 7 = .ok (.ifCond .ne 10, 3) := by decide +kernel
theorem dX5_by_10 : decode cX5_by 10 = .ok (.aload_n 0, 1) := by decide +kernel
theorem dX5_by_11 : decode cX5_by 11 = .ok (.bipush (-2), 2) := by decide +kernel
theorem dX5_by_13 : decode cX5_by 13 = .ok (.invokevirtual 63, 3) := by decide +kernel
theorem dX5_by_16 : decode cX5_by 16 = .ok (.ireturn, 1) := by decide +kernel
theorem dX5_by_17 : decode cX5_by 17 = .ok (.aload_n 0, 1) := by decide +kernel
theorem dX5_by_18 : decode cX5_by 18 = .ok (.invokevirtual 173, 3) := by decide +kernel
theorem dX5_by_21 : decode cX5_by 21 = .ok (.aload_n 0, 1) := by decide +kernel
theorem dX5_by_22 : decode cX5_by 22 = .ok (.iload_n 1, 1) := by decide +kernel
theorem dX5_by_23 : decode cX5_by 23 = .ok (.invokevirtual 176, 3) := by decide +kernel
theorem dX5_by_26 : decode cX5_by 26 = .ok (.istore_n 2, 1) := by decide +kernel
theorem dX5_by_27 : decode cX5_by 27 = .ok (.iload_n 2, 1) := by decide +kernel
theorem dX5_by_28 : decode cX5_by 28 = .ok (.iconst (-1), 1) := by decide +kernel
theorem dX5_by_29 : decode cX5_by 29 = .ok (.if_icmp .ne 12, 3) := by decide +kernel
theorem dX5_by_32 : decode cX5_by 32 = .ok (.aload_n 0, 1) := by decide +kernel
theorem dX5_by_33 : decode cX5_by 33 = .ok (.bipush (-3), 2) := by decide +kernel
theorem dX5_by_35 : decode cX5_by 35 = .ok (.invokevirtual 63, 3) := by decide +kernel
theorem dX5_by_38 : decode cX5_by 38 = .ok (.goto 9, 3) := by decide +kernel
theorem dX5_by_41 : decode cX5_by 41 = .ok (.aload_n 0, 1) := by decide +kernel
theorem dX5_by_42 : decode cX5_by 42 = .ok (.getfield 50, 3) := by decide +kernel
theorem dX5_by_45 : decode cX5_by 45 = .ok (.iload_n 2, 1) := by decide +kernel
theorem dX5_by_46 : decode cX5_by 46 = .ok (.iaload, 1) := by decide +kernel
theorem dX5_by_47 : decode cX5_by 47 = .ok (.ireturn, 1) := by decide +kernel
theorem dX5_fewest_0 : decode cX5_fewest 0 = .ok (.iload_n 1, 1) := by decide +kernel
theorem dX5_fewest_1 : decode cX5_fewest 1 = .ok (.ifCond .ge 10, 3) := by decide +kernel
theorem dX5_fewest_4 : decode cX5_fewest 4 = .ok (.aload_n 0, 1) := by decide +kernel
theorem dX5_fewest_5 : decode cX5_fewest 5 = .ok (.bipush (-2), 2) := by decide +kernel
theorem dX5_fewest_7 : decode cX5_fewest 7 = .ok (.invokevirtual 63, 3) := by decide +kernel
theorem dX5_fewest_10 : decode cX5_fewest 10 = .ok (.ireturn, 1) := by decide +kernel
theorem dX5_fewest_11 : decode cX5_fewest 11 = .ok (.aload_n 0, 1) := by decide +kernel
theorem dX5_fewest_12 : decode cX5_fewest 12 = .ok (.invokevirtual 173, 3) := by decide +kernel
theorem dX5_fewest_15 : decode cX5_fewest 15 = .ok (.iconst 0, 1) := by decide +kernel
theorem dX5_fewest_16 : decode cX5_fewest 16 = .ok (.istore_n 2, 1) := by decide +kernel
theorem dX5_fewest_17 : decode cX5_fewest 17 = .ok (.iload_n 2, 1) := by decide +kernel
theorem dX5_fewest_18 : decode cX5_fewest 18 = .ok (.bipush 10, 2) := by decide +kernel
theorem dX5_fewest_20 : decode cX5_fewest 20 = .ok (.if_icmp .ge 28, 3) := by decide +kernel
theorem dX5_fewest_23 : decode cX5_fewest 23 = .ok (.aload_n 0, 1) := by decide +kernel
theorem dX5_fewest_24 : decode cX5_fewest 24 = .ok (.getfield 50, 3) := by decide +kernel
theorem dX5_fewest_27 : decode cX5_fewest 27 = .ok (.iload_n 2, 1) := by decide +kernel
theorem dX5_fewest_28 : decode cX5_fewest 28 = .ok (.iaload, 1) := by decide +kernel
theorem dX5_fewest_29 : decode cX5_fewest 29 = .ok (.ifCond .lt 13, 3) := by decide +kernel
theorem dX5_fewest_32 : decode cX5_fewest 32 = .ok (.aload_n 0, 1) := by decide +kernel
theorem dX5_fewest_33 : decode cX5_fewest 33 = .ok (.getfield 50, 3) := by decide +kernel
theorem dX5_fewest_36 : decode cX5_fewest 36 = .ok (.iload_n 2, 1) := by decide +kernel
theorem dX5_fewest_37 : decode cX5_fewest 37 = .ok (.iaload, 1) := by decide +kernel
theorem dX5_fewest_38 : decode cX5_fewest 38 = .ok (.iload_n 1, 1) := by decide +kernel
theorem dX5_fewest_39 : decode cX5_fewest 39 = .ok (.if_icmp .le 9, 3) := by decide +kernel
theorem dX5_fewest_42 : decode cX5_fewest 42 = .ok (.iinc 2 1, 3) := by decide +kernel
theorem dX5_fewest_45 : decode cX5_fewest 45 = .ok (.goto (-28), 3) := by decide +kernel
theorem dX5_fewest_48 : decode cX5_fewest 48 = .ok (.iload_n 2, 1) := by decide +kernel
theorem dX5_fewest_49 : decode cX5_fewest 49 = .ok (.bipush 10, 2) := by decide +kernel
theorem dX5_fewest_51 : decode cX5_fewest 51 = .ok (.if_icmp .ge 7, 3) := by decide +kernel
theorem dX5_fewest_54 : decode cX5_fewest 54 = .ok (.iload_n 2, 1) := by decide +kernel
theorem dX5_fewest_55 : decode cX5_fewest 55 = .ok (.goto 4, 3) := by decide +kernel
theorem dX5_fewest_58 : decode cX5_fewest 58 = .ok (.iconst (-1), 1) := by decide +kernel
theorem dX5_fewest_59 : decode cX5_fewest 59 = .ok (.ireturn, 1) := by decide +kernel
theorem dX5_many_0 : decode cX5_many 0 = .ok (.aload_n 0, 1) := by decide +kernel
theorem dX5_many_1 : decode cX5_many 1 = .ok (.invokevirtual 173, 3) := by decide +kernel
theorem dX5_many_4 : decode cX5_many 4 = .ok (.aload_n 0, 1) := by decide +kernel
theorem dX5_many_5 : decode cX5_many 5 = .ok (.getfield 161, 3) := by decide +kernel
theorem dX5_many_8 : decode cX5_many 8 = .ok (.ireturn, 1) := by decide +kernel
theorem dX5_next_0 : decode cX5_next 0 = .ok (.iload_n 1, 1) := by decide +kernel
theorem dX5_next_1 : decode cX5_next 1 = .ok (.iconst 0, 1) := by decide +kernel
theorem dX5_next_2 : decode cX5_next 2 = .ok (.iconst 3, 1) := by decide +kernel
theorem dX5_next_3 : decode cX5_next 3 = .ok (.invokestatic 59, 3) := by decide +kernel
theorem dX5_next_6 : decode cX5_next 6 = .ok (.ifCond .ne 10, 3) := by decide +kernel
theorem dX5_next_9 : decode cX5_next 9 = .ok (.aload_n 0, 1) := by decide +kernel
theorem dX5_next_10 : decode cX5_next 10 = .ok (.bipush (-2), 2) := by decide +kernel
theorem dX5_next_12 : decode cX5_next 12 = .ok (.invokevirtual 63, 3) := by decide +kernel
theorem dX5_next_15 : decode cX5_next 15 = .ok (.ireturn, 1) := by decide +kernel
theorem dX5_next_16 : decode cX5_next 16 = .ok (.aload_n 0, 1) := by decide +kernel
theorem dX5_next_17 : decode cX5_next 17 = .ok (.invokevirtual 152, 3) := by decide +kernel
theorem dX5_next_20 : decode cX5_next 20 = .ok (.ifCond .eq 12, 3) := by decide +kernel
theorem dX5_next_23 : decode cX5_next 23 = .ok (.aload_n 0, 1) := by decide +kernel
theorem dX5_next_24 : decode cX5_next 24 = .ok (.getfield 53, 3) := by decide +kernel
theorem dX5_next_27 : decode cX5_next 27 = .ok (.iload_n 1, 1) := by decide +kernel
theorem dX5_next_28 : decode cX5_next 28 = .ok (.iaload, 1) := by decide +kernel
theorem dX5_next_29 : decode cX5_next 29 = .ok (.goto 9, 3) := by decide +kernel
theorem dX5_next_32 : decode cX5_next 32 = .ok (.aload_n 0, 1) := by decide +kernel
theorem dX5_next_33 : decode cX5_next 33 = .ok (.bipush (-3), 2) := by decide +kernel
theorem dX5_next_35 : decode cX5_next 35 = .ok (.invokevirtual 63, 3) := by decide +kernel
theorem dX5_next_38 : decode cX5_next 38 = .ok (.ireturn, 1) := by decide +kernel
theorem dX5_toldOf_0 : decode cX5_toldOf 0 = .ok (.iconst 0, 1) := by decide +kernel
theorem dX5_toldOf_1 : decode cX5_toldOf 1 = .ok (.istore_n 2, 1) := by decide +kernel
theorem dX5_toldOf_2 : decode cX5_toldOf 2 = .ok (.iload_n 1, 1) := by decide +kernel
theorem dX5_toldOf_3 : decode cX5_toldOf 3 = .ok (.tableswitch 68 0 6 #[41, 41, 41, 48, 53, 58, 63], 41) := by decide +kernel
theorem dX5_toldOf_44 : decode cX5_toldOf 44 = .ok (.aload_n 0, 1) := by decide +kernel
theorem dX5_toldOf_45 : decode cX5_toldOf 45 = .ok (.getfield 35, 3) := by decide +kernel
theorem dX5_toldOf_48 : decode cX5_toldOf 48 = .ok (.iload_n 1, 1) := by decide +kernel
theorem dX5_toldOf_49 : decode cX5_toldOf 49 = .ok (.iaload, 1) := by decide +kernel
theorem dX5_toldOf_50 : decode cX5_toldOf 50 = .ok (.ireturn, 1) := by decide +kernel
theorem dX5_toldOf_51 : decode cX5_toldOf 51 = .ok (.aload_n 0, 1) := by decide +kernel
theorem dX5_toldOf_52 : decode cX5_toldOf 52 = .ok (.getfield 56, 3) := by decide +kernel
theorem dX5_toldOf_55 : decode cX5_toldOf 55 = .ok (.ireturn, 1) := by decide +kernel
theorem dX5_toldOf_56 : decode cX5_toldOf 56 = .ok (.aload_n 0, 1) := by decide +kernel
theorem dX5_toldOf_57 : decode cX5_toldOf 57 = .ok (.getfield 77, 3) := by decide +kernel
theorem dX5_toldOf_60 : decode cX5_toldOf 60 = .ok (.ireturn, 1) := by decide +kernel
theorem dX5_toldOf_61 : decode cX5_toldOf 61 = .ok (.aload_n 0, 1) := by decide +kernel
theorem dX5_toldOf_62 : decode cX5_toldOf 62 = .ok (.getfield 25, 3) := by decide +kernel
theorem dX5_toldOf_65 : decode cX5_toldOf 65 = .ok (.ireturn, 1) := by decide +kernel
theorem dX5_toldOf_66 : decode cX5_toldOf 66 = .ok (.aload_n 0, 1) := by decide +kernel
theorem dX5_toldOf_67 : decode cX5_toldOf 67 = .ok (.getfield 67, 3) := by decide +kernel
theorem dX5_toldOf_70 : decode cX5_toldOf 70 = .ok (.ireturn, 1) := by decide +kernel
theorem dX5_toldOf_71 : decode cX5_toldOf 71 = .ok (.iconst 0, 1) := by decide +kernel
theorem dX5_toldOf_72 : decode cX5_toldOf 72 = .ok (.istore_n 3, 1) := by decide +kernel
theorem dX5_toldOf_73 : decode cX5_toldOf 73 = .ok (.iload_n 3, 1) := by decide +kernel
theorem dX5_toldOf_74 : decode cX5_toldOf 74 = .ok (.aload_n 0, 1) := by decide +kernel
theorem dX5_toldOf_75 : decode cX5_toldOf 75 = .ok (.getfield 56, 3) := by decide +kernel
theorem dX5_toldOf_78 : decode cX5_toldOf 78 = .ok (.if_icmp .ge 20, 3) := by decide +kernel
theorem dX5_toldOf_81 : decode cX5_toldOf 81 = .ok (.iload_n 2, 1) := by decide +kernel
theorem dX5_toldOf_82 : decode cX5_toldOf 82 = .ok (.aload_n 0, 1) := by decide +kernel
theorem dX5_toldOf_83 : decode cX5_toldOf 83 = .ok (.getfield 19, 3) := by decide +kernel
theorem dX5_toldOf_86 : decode cX5_toldOf 86 = .ok (.iload_n 3, 1) := by decide +kernel
theorem dX5_toldOf_87 : decode cX5_toldOf 87 = .ok (.iaload, 1) := by decide +kernel
theorem dX5_toldOf_88 : decode cX5_toldOf 88 = .ok (.iload_n 3, 1) := by decide +kernel
theorem dX5_toldOf_89 : decode cX5_toldOf 89 = .ok (.ishl, 1) := by decide +kernel
theorem dX5_toldOf_90 : decode cX5_toldOf 90 = .ok (.ior, 1) := by decide +kernel
theorem dX5_toldOf_91 : decode cX5_toldOf 91 = .ok (.istore_n 2, 1) := by decide +kernel
theorem dX5_toldOf_92 : decode cX5_toldOf 92 = .ok (.iinc 3 1, 3) := by decide +kernel
theorem dX5_toldOf_95 : decode cX5_toldOf 95 = .ok (.goto (-22), 3) := by decide +kernel
theorem dX5_toldOf_98 : decode cX5_toldOf 98 = .ok (.iload_n 2, 1) := by decide +kernel
theorem dX5_toldOf_99 : decode cX5_toldOf 99 = .ok (.ireturn, 1) := by decide +kernel
theorem dX5_told_0 : decode cX5_told 0 = .ok (.iload_n 1, 1) := by decide +kernel
theorem dX5_told_1 : decode cX5_told 1 = .ok (.iconst 0, 1) := by decide +kernel
theorem dX5_told_2 : decode cX5_told 2 = .ok (.bipush 7, 2) := by decide +kernel
theorem dX5_told_4 : decode cX5_told 4 = .ok (.invokestatic 59, 3) := by decide +kernel
theorem dX5_told_7 : decode cX5_told 7 = .ok (.ifCond .eq 11, 3) := by decide +kernel
theorem dX5_told_10 : decode cX5_told 10 = .ok (.aload_n 0, 1) := by decide +kernel
theorem dX5_told_11 : decode cX5_told 11 = .ok (.iload_n 1, 1) := by decide +kernel
theorem dX5_told_12 : decode cX5_told 12 = .ok (.invokevirtual 179, 3) := by decide +kernel
theorem dX5_told_15 : decode cX5_told 15 = .ok (.goto 9, 3) := by decide +kernel
theorem dX5_told_18 : decode cX5_told 18 = .ok (.aload_n 0, 1) := by decide +kernel
theorem dX5_told_19 : decode cX5_told 19 = .ok (.bipush (-2), 2) := by decide +kernel
theorem dX5_told_21 : decode cX5_told 21 = .ok (.invokevirtual 63, 3) := by decide +kernel
theorem dX5_told_24 : decode cX5_told 24 = .ok (.ireturn, 1) := by decide +kernel
theorem dX5_digest_0 : decode cX5_digest 0 = .ok (.ldc2_w 182, 3) := by decide +kernel
theorem dX5_digest_3 : decode cX5_digest 3 = .ok (.lstore_n 1, 1) := by decide +kernel
theorem dX5_digest_4 : decode cX5_digest 4 = .ok (.iconst 0, 1) := by decide +kernel
theorem dX5_digest_5 : decode cX5_digest 5 = .ok (.istore_n 3, 1) := by decide +kernel
theorem dX5_digest_6 : decode cX5_digest 6 = .ok (.iload_n 3, 1) := by decide +kernel
theorem dX5_digest_7 : decode cX5_digest 7 = .ok (.bipush 8, 2) := by decide +kernel
theorem dX5_digest_9 : decode cX5_digest 9 = .ok (.if_icmp .ge 22, 3) := by decide +kernel
theorem dX5_digest_12 : decode cX5_digest 12 = .ok (.ldc2_w 184, 3) := by decide +kernel
theorem dX5_digest_15 : decode cX5_digest 15 = .ok (.lload_n 1, 1) := by decide +kernel
theorem dX5_digest_16 : decode cX5_digest 16 = .ok (.lmul, 1) := by decide +kernel
theorem dX5_digest_17 : decode cX5_digest 17 = .ok (.aload_n 0, 1) := by decide +kernel
theorem dX5_digest_18 : decode cX5_digest 18 = .ok (.iload_n 3, 1) := by decide +kernel
theorem dX5_digest_19 : decode cX5_digest 19 = .ok (.invokevirtual 179, 3) := by decide +kernel
theorem dX5_digest_22 : decode cX5_digest 22 = .ok (.i2l, 1) := by decide +kernel
theorem dX5_digest_23 : decode cX5_digest 23 = .ok (.ladd, 1) := by decide +kernel
theorem dX5_digest_24 : decode cX5_digest 24 = .ok (.lstore_n 1, 1) := by decide +kernel
theorem dX5_digest_25 : decode cX5_digest 25 = .ok (.iinc 3 1, 3) := by decide +kernel
theorem dX5_digest_28 : decode cX5_digest 28 = .ok (.goto (-22), 3) := by decide +kernel
theorem dX5_digest_31 : decode cX5_digest 31 = .ok (.iconst 0, 1) := by decide +kernel
theorem dX5_digest_32 : decode cX5_digest 32 = .ok (.istore_n 3, 1) := by decide +kernel
theorem dX5_digest_33 : decode cX5_digest 33 = .ok (.iload_n 3, 1) := by decide +kernel
theorem dX5_digest_34 : decode cX5_digest 34 = .ok (.aload_n 0, 1) := by decide +kernel
theorem dX5_digest_35 : decode cX5_digest 35 = .ok (.getfield 56, 3) := by decide +kernel
theorem dX5_digest_38 : decode cX5_digest 38 = .ok (.if_icmp .ge 51, 3) := by decide +kernel
theorem dX5_digest_41 : decode cX5_digest 41 = .ok (.ldc2_w 184, 3) := by decide +kernel
theorem dX5_digest_44 : decode cX5_digest 44 = .ok (.lload_n 1, 1) := by decide +kernel
theorem dX5_digest_45 : decode cX5_digest 45 = .ok (.lmul, 1) := by decide +kernel
theorem dX5_digest_46 : decode cX5_digest 46 = .ok (.aload_n 0, 1) := by decide +kernel
theorem dX5_digest_47 : decode cX5_digest 47 = .ok (.getfield 7, 3) := by decide +kernel
theorem dX5_digest_50 : decode cX5_digest 50 = .ok (.iload_n 3, 1) := by decide +kernel
theorem dX5_digest_51 : decode cX5_digest 51 = .ok (.iaload, 1) := by decide +kernel
theorem dX5_digest_52 : decode cX5_digest 52 = .ok (.i2l, 1) := by decide +kernel
theorem dX5_digest_53 : decode cX5_digest 53 = .ok (.ladd, 1) := by decide +kernel
theorem dX5_digest_54 : decode cX5_digest 54 = .ok (.lstore_n 1, 1) := by decide +kernel
theorem dX5_digest_55 : decode cX5_digest 55 = .ok (.ldc2_w 184, 3) := by decide +kernel
theorem dX5_digest_58 : decode cX5_digest 58 = .ok (.lload_n 1, 1) := by decide +kernel
theorem dX5_digest_59 : decode cX5_digest 59 = .ok (.lmul, 1) := by decide +kernel
theorem dX5_digest_60 : decode cX5_digest 60 = .ok (.aload_n 0, 1) := by decide +kernel
theorem dX5_digest_61 : decode cX5_digest 61 = .ok (.getfield 13, 3) := by decide +kernel
theorem dX5_digest_64 : decode cX5_digest 64 = .ok (.iload_n 3, 1) := by decide +kernel
theorem dX5_digest_65 : decode cX5_digest 65 = .ok (.iaload, 1) := by decide +kernel
theorem dX5_digest_66 : decode cX5_digest 66 = .ok (.i2l, 1) := by decide +kernel
theorem dX5_digest_67 : decode cX5_digest 67 = .ok (.ladd, 1) := by decide +kernel
theorem dX5_digest_68 : decode cX5_digest 68 = .ok (.lstore_n 1, 1) := by decide +kernel
theorem dX5_digest_69 : decode cX5_digest 69 = .ok (.ldc2_w 184, 3) := by decide +kernel
theorem dX5_digest_72 : decode cX5_digest 72 = .ok (.lload_n 1, 1) := by decide +kernel
theorem dX5_digest_73 : decode cX5_digest 73 = .ok (.lmul, 1) := by decide +kernel
theorem dX5_digest_74 : decode cX5_digest 74 = .ok (.aload_n 0, 1) := by decide +kernel
theorem dX5_digest_75 : decode cX5_digest 75 = .ok (.getfield 16, 3) := by decide +kernel
theorem dX5_digest_78 : decode cX5_digest 78 = .ok (.iload_n 3, 1) := by decide +kernel
theorem dX5_digest_79 : decode cX5_digest 79 = .ok (.iaload, 1) := by decide +kernel
theorem dX5_digest_80 : decode cX5_digest 80 = .ok (.i2l, 1) := by decide +kernel
theorem dX5_digest_81 : decode cX5_digest 81 = .ok (.ladd, 1) := by decide +kernel
theorem dX5_digest_82 : decode cX5_digest 82 = .ok (.lstore_n 1, 1) := by decide +kernel
theorem dX5_digest_83 : decode cX5_digest 83 = .ok (.iinc 3 1, 3) := by decide +kernel
theorem dX5_digest_86 : decode cX5_digest 86 = .ok (.goto (-53), 3) := by decide +kernel
theorem dX5_digest_89 : decode cX5_digest 89 = .ok (.iconst 0, 1) := by decide +kernel
theorem dX5_digest_90 : decode cX5_digest 90 = .ok (.istore_n 3, 1) := by decide +kernel
theorem dX5_digest_91 : decode cX5_digest 91 = .ok (.iload_n 3, 1) := by decide +kernel
theorem dX5_digest_92 : decode cX5_digest 92 = .ok (.bipush 6, 2) := by decide +kernel
theorem dX5_digest_94 : decode cX5_digest 94 = .ok (.if_icmp .ge 23, 3) := by decide +kernel
theorem dX5_digest_97 : decode cX5_digest 97 = .ok (.ldc2_w 184, 3) := by decide +kernel
theorem dX5_digest_100 : decode cX5_digest 100 = .ok (.lload_n 1, 1) := by decide +kernel
theorem dX5_digest_101 : decode cX5_digest 101 = .ok (.lmul, 1) := by decide +kernel
theorem dX5_digest_102 : decode cX5_digest 102 = .ok (.aload_n 0, 1) := by decide +kernel
theorem dX5_digest_103 : decode cX5_digest 103 = .ok (.getfield 22, 3) := by decide +kernel
theorem dX5_digest_106 : decode cX5_digest 106 = .ok (.iload_n 3, 1) := by decide +kernel
theorem dX5_digest_107 : decode cX5_digest 107 = .ok (.iaload, 1) := by decide +kernel
theorem dX5_digest_108 : decode cX5_digest 108 = .ok (.i2l, 1) := by decide +kernel
theorem dX5_digest_109 : decode cX5_digest 109 = .ok (.ladd, 1) := by decide +kernel
theorem dX5_digest_110 : decode cX5_digest 110 = .ok (.lstore_n 1, 1) := by decide +kernel
theorem dX5_digest_111 : decode cX5_digest 111 = .ok (.iinc 3 1, 3) := by decide +kernel
theorem dX5_digest_114 : decode cX5_digest 114 = .ok (.goto (-23), 3) := by decide +kernel
theorem dX5_digest_117 : decode cX5_digest 117 = .ok (.iconst 0, 1) := by decide +kernel
theorem dX5_digest_118 : decode cX5_digest 118 = .ok (.istore_n 3, 1) := by decide +kernel
theorem dX5_digest_119 : decode cX5_digest 119 = .ok (.iload_n 3, 1) := by decide +kernel
theorem dX5_digest_120 : decode cX5_digest 120 = .ok (.iconst 2, 1) := by decide +kernel
theorem dX5_digest_121 : decode cX5_digest 121 = .ok (.aload_n 0, 1) := by decide +kernel
theorem dX5_digest_122 : decode cX5_digest 122 = .ok (.getfield 77, 3) := by decide +kernel
theorem dX5_digest_125 : decode cX5_digest 125 = .ok (.imul, 1) := by decide +kernel
theorem dX5_digest_126 : decode cX5_digest 126 = .ok (.if_icmp .ge 23, 3) := by decide +kernel
theorem dX5_digest_129 : decode cX5_digest 129 = .ok (.ldc2_w 184, 3) := by decide +kernel
theorem dX5_digest_132 : decode cX5_digest 132 = .ok (.lload_n 1, 1) := by decide +kernel
theorem dX5_digest_133 : decode cX5_digest 133 = .ok (.lmul, 1) := by decide +kernel
theorem dX5_digest_134 : decode cX5_digest 134 = .ok (.aload_n 0, 1) := by decide +kernel
theorem dX5_digest_135 : decode cX5_digest 135 = .ok (.getfield 29, 3) := by decide +kernel
theorem dX5_digest_138 : decode cX5_digest 138 = .ok (.iload_n 3, 1) := by decide +kernel
theorem dX5_digest_139 : decode cX5_digest 139 = .ok (.iaload, 1) := by decide +kernel
theorem dX5_digest_140 : decode cX5_digest 140 = .ok (.i2l, 1) := by decide +kernel
theorem dX5_digest_141 : decode cX5_digest 141 = .ok (.ladd, 1) := by decide +kernel
theorem dX5_digest_142 : decode cX5_digest 142 = .ok (.lstore_n 1, 1) := by decide +kernel
theorem dX5_digest_143 : decode cX5_digest 143 = .ok (.iinc 3 1, 3) := by decide +kernel
theorem dX5_digest_146 : decode cX5_digest 146 = .ok (.goto (-27), 3) := by decide +kernel
theorem dX5_digest_149 : decode cX5_digest 149 = .ok (.ldc2_w 184, 3) := by decide +kernel
theorem dX5_digest_152 : decode cX5_digest 152 = .ok (.lload_n 1, 1) := by decide +kernel
theorem dX5_digest_153 : decode cX5_digest 153 = .ok (.lmul, 1) := by decide +kernel
theorem dX5_digest_154 : decode cX5_digest 154 = .ok (.aload_n 0, 1) := by decide +kernel
theorem dX5_digest_155 : decode cX5_digest 155 = .ok (.invokevirtual 122, 3) := by decide +kernel
theorem dX5_digest_158 : decode cX5_digest 158 = .ok (.i2l, 1) := by decide +kernel
theorem dX5_digest_159 : decode cX5_digest 159 = .ok (.ladd, 1) := by decide +kernel
theorem dX5_digest_160 : decode cX5_digest 160 = .ok (.lreturn, 1) := by decide +kernel
