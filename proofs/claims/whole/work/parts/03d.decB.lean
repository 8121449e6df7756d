theorem dX6_init_0 : decode cX6_init 0 = .ok (.aload_n 0, 1) := by decide +kernel
theorem dX6_init_1 : decode cX6_init 1 = .ok (.invokespecial 3, 3) := by decide +kernel
theorem dX6_init_4 : decode cX6_init 4 = .ok (.aload_n 0, 1) := by decide +kernel
theorem dX6_init_5 : decode cX6_init 5 = .ok (.iconst 5, 1) := by decide +kernel
theorem dX6_init_6 : decode cX6_init 6 = .ok (.newarray .int, 2) := by decide +kernel
theorem dX6_init_8 : decode cX6_init 8 = .ok (.putfield 9, 3) := by decide +kernel
theorem dX6_init_11 : decode cX6_init 11 = .ok (.aload_n 0, 1) := by decide +kernel
theorem dX6_init_12 : decode cX6_init 12 = .ok (.iconst 5, 1) := by decide +kernel
theorem dX6_init_13 : decode cX6_init 13 = .ok (.newarray .int, 2) := by decide +kernel
theorem dX6_init_15 : decode cX6_init 15 = .ok (.putfield 15, 3) := by decide +kernel
theorem dX6_init_18 : decode cX6_init 18 = .ok (.return_, 1) := by decide +kernel
theorem dX6_explore_0 : decode cX6_explore 0 = .ok (.aload_n 2, 1) := by decide +kernel
theorem dX6_explore_1 : decode cX6_explore 1 = .ok (.getfield 18, 3) := by decide +kernel
theorem dX6_explore_4 : decode cX6_explore 4 = .ok (.iload_n 3, 1) := by decide +kernel
theorem dX6_explore_5 : decode cX6_explore 5 = .ok (.iconst 1, 1) := by decide +kernel
theorem dX6_explore_6 : decode cX6_explore 6 = .ok (.bastore, 1) := by decide +kernel
theorem dX6_explore_7 : decode cX6_explore 7 = .ok (.aload_n 2, 1) := by decide +kernel
theorem dX6_explore_8 : decode cX6_explore 8 = .ok (.aload_n 1, 1) := by decide +kernel
theorem dX6_explore_9 : decode cX6_explore 9 = .ok (.invokevirtual 24, 3) := by decide +kernel
theorem dX6_explore_12 : decode cX6_explore 12 = .ok (.pop, 1) := by decide +kernel
theorem dX6_explore_13 : decode cX6_explore 13 = .ok (.aload_n 2, 1) := by decide +kernel
theorem dX6_explore_14 : decode cX6_explore 14 = .ok (.getfield 18, 3) := by decide +kernel
theorem dX6_explore_17 : decode cX6_explore 17 = .ok (.iload_n 3, 1) := by decide +kernel
theorem dX6_explore_18 : decode cX6_explore 18 = .ok (.iconst 0, 1) := by decide +kernel
theorem dX6_explore_19 : decode cX6_explore 19 = .ok (.bastore, 1) := by decide +kernel
theorem dX6_explore_20 : decode cX6_explore 20 = .ok (.aload_n 2, 1) := by decide +kernel
theorem dX6_explore_21 : decode cX6_explore 21 = .ok (.getfield 28, 3) := by decide +kernel
theorem dX6_explore_24 : decode cX6_explore 24 = .ok (.istore 4, 2) := by decide +kernel
theorem dX6_explore_26 : decode cX6_explore 26 = .ok (.aload_n 1, 1) := by decide +kernel
theorem dX6_explore_27 : decode cX6_explore 27 = .ok (.getfield 32, 3) := by decide +kernel
theorem dX6_explore_30 : decode cX6_explore 30 = .ok (.getfield 38, 3) := by decide +kernel
theorem dX6_explore_33 : decode cX6_explore 33 = .ok (.iload_n 3, 1) := by decide +kernel
theorem dX6_explore_34 : decode cX6_explore 34 = .ok (.aaload, 1) := by decide +kernel
theorem dX6_explore_35 : decode cX6_explore 35 = .ok (.astore 5, 2) := by decide +kernel
theorem dX6_explore_37 : decode cX6_explore 37 = .ok (.aload_n 1, 1) := by decide +kernel
theorem dX6_explore_38 : decode cX6_explore 38 = .ok (.getfield 32, 3) := by decide +kernel
theorem dX6_explore_41 : decode cX6_explore 41 = .ok (.getfield 44, 3) := by decide +kernel
theorem dX6_explore_44 : decode cX6_explore 44 = .ok (.iload_n 3, 1) := by decide +kernel
theorem dX6_explore_45 : decode cX6_explore 45 = .ok (.iaload, 1) := by decide +kernel
theorem dX6_explore_46 : decode cX6_explore 46 = .ok (.istore 6, 2) := by decide +kernel
theorem dX6_explore_48 : decode cX6_explore 48 = .ok (.aload 5, 2) := by decide +kernel
theorem dX6_explore_50 : decode cX6_explore 50 = .ok (.aload_n 0, 1) := by decide +kernel
theorem dX6_explore_51 : decode cX6_explore 51 = .ok (.getfield 15, 3) := by decide +kernel
theorem dX6_explore_54 : decode cX6_explore 54 = .ok (.invokestatic 47, 3) := by decide +kernel
theorem dX6_explore_57 : decode cX6_explore 57 = .ok (.aload 5, 2) := by decide +kernel
theorem dX6_explore_59 : decode cX6_explore 59 = .ok (.iload 6, 2) := by decide +kernel
theorem dX6_explore_61 : decode cX6_explore 61 = .ok (.invokestatic 51, 3) := by decide +kernel
theorem dX6_explore_64 : decode cX6_explore 64 = .ok (.iconst 0, 1) := by decide +kernel
theorem dX6_explore_65 : decode cX6_explore 65 = .ok (.istore 7, 2) := by decide +kernel
theorem dX6_explore_67 : decode cX6_explore 67 = .ok (.iconst 0, 1) := by decide +kernel
theorem dX6_explore_68 : decode cX6_explore 68 = .ok (.istore 8, 2) := by decide +kernel
theorem dX6_explore_70 : decode cX6_explore 70 = .ok (.iload 8, 2) := by decide +kernel
theorem dX6_explore_72 : decode cX6_explore 72 = .ok (.bipush 120, 2) := by decide +kernel
theorem dX6_explore_74 : decode cX6_explore 74 = .ok (.if_icmp .ge 92, 3) := by decide +kernel
theorem dX6_explore_77 : decode cX6_explore 77 = .ok (.aload_n 2, 1) := by decide +kernel
theorem dX6_explore_78 : decode cX6_explore 78 = .ok (.aload_n 1, 1) := by decide +kernel
theorem dX6_explore_79 : decode cX6_explore 79 = .ok (.invokevirtual 24, 3) := by decide +kernel
theorem dX6_explore_82 : decode cX6_explore 82 = .ok (.ifCond .eq 39, 3) := by decide +kernel
theorem dX6_explore_85 : decode cX6_explore 85 = .ok (.iload 7, 2) := by decide +kernel
theorem dX6_explore_87 : decode cX6_explore 87 = .ok (.ifCond .eq 14, 3) := by decide +kernel
theorem dX6_explore_90 : decode cX6_explore 90 = .ok (.aload_n 2, 1) := by decide +kernel
theorem dX6_explore_91 : decode cX6_explore 91 = .ok (.getfield 28, 3) := by decide +kernel
theorem dX6_explore_94 : decode cX6_explore 94 = .ok (.aload_n 0, 1) := by decide +kernel
theorem dX6_explore_95 : decode cX6_explore 95 = .ok (.getfield 55, 3) := by decide +kernel
theorem dX6_explore_98 : decode cX6_explore 98 = .ok (.if_icmp .ge 23, 3) := by decide +kernel
theorem dX6_explore_101 : decode cX6_explore 101 = .ok (.iconst 1, 1) := by decide +kernel
theorem dX6_explore_102 : decode cX6_explore 102 = .ok (.istore 7, 2) := by decide +kernel
theorem dX6_explore_104 : decode cX6_explore 104 = .ok (.aload_n 0, 1) := by decide +kernel
theorem dX6_explore_105 : decode cX6_explore 105 = .ok (.aload_n 2, 1) := by decide +kernel
theorem dX6_explore_106 : decode cX6_explore 106 = .ok (.getfield 28, 3) := by decide +kernel
theorem dX6_explore_109 : decode cX6_explore 109 = .ok (.putfield 55, 3) := by decide +kernel
theorem dX6_explore_112 : decode cX6_explore 112 = .ok (.aload 5, 2) := by decide +kernel
theorem dX6_explore_114 : decode cX6_explore 114 = .ok (.aload_n 0, 1) := by decide +kernel
theorem dX6_explore_115 : decode cX6_explore 115 = .ok (.getfield 9, 3) := by decide +kernel
theorem dX6_explore_118 : decode cX6_explore 118 = .ok (.invokestatic 47, 3) := by decide +kernel
theorem dX6_explore_121 : decode cX6_explore 121 = .ok (.iload 7, 2) := by decide +kernel
theorem dX6_explore_123 : decode cX6_explore 123 = .ok (.ifCond .eq 16, 3) := by decide +kernel
theorem dX6_explore_126 : decode cX6_explore 126 = .ok (.aload_n 0, 1) := by decide +kernel
theorem dX6_explore_127 : decode cX6_explore 127 = .ok (.getfield 55, 3) := by decide +kernel
theorem dX6_explore_130 : decode cX6_explore 130 = .ok (.iload 4, 2) := by decide +kernel
theorem dX6_explore_132 : decode cX6_explore 132 = .ok (.if_icmp .gt 7, 3) := by decide +kernel
theorem dX6_explore_135 : decode cX6_explore 135 = .ok (.iconst 1, 1) := by decide +kernel
theorem dX6_explore_136 : decode cX6_explore 136 = .ok (.goto 4, 3) := by decide +kernel
theorem dX6_explore_139 : decode cX6_explore 139 = .ok (.iconst 0, 1) := by decide +kernel
theorem dX6_explore_140 : decode cX6_explore 140 = .ok (.istore 9, 2) := by decide +kernel
theorem dX6_explore_142 : decode cX6_explore 142 = .ok (.iload 9, 2) := by decide +kernel
theorem dX6_explore_144 : decode cX6_explore 144 = .ok (.ifCond .ne 22, 3) := by decide +kernel
theorem dX6_explore_147 : decode cX6_explore 147 = .ok (.aload 5, 2) := by decide +kernel
theorem dX6_explore_149 : decode cX6_explore 149 = .ok (.iload 6, 2) := by decide +kernel
theorem dX6_explore_151 : decode cX6_explore 151 = .ok (.invokestatic 58, 3) := by decide +kernel
theorem dX6_explore_154 : decode cX6_explore 154 = .ok (.ifCond .ne 6, 3) := by decide +kernel
theorem dX6_explore_157 : decode cX6_explore 157 = .ok (.goto 9, 3) := by decide +kernel
theorem dX6_explore_160 : decode cX6_explore 160 = .ok (.iinc 8 1, 3) := by decide +kernel
theorem dX6_explore_163 : decode cX6_explore 163 = .ok (.goto (-93), 3) := by decide +kernel
theorem dX6_explore_166 : decode cX6_explore 166 = .ok (.aload_n 0, 1) := by decide +kernel
theorem dX6_explore_167 : decode cX6_explore 167 = .ok (.getfield 15, 3) := by decide +kernel
theorem dX6_explore_170 : decode cX6_explore 170 = .ok (.aload 5, 2) := by decide +kernel
theorem dX6_explore_172 : decode cX6_explore 172 = .ok (.invokestatic 47, 3) := by decide +kernel
theorem dX6_explore_175 : decode cX6_explore 175 = .ok (.return_, 1) := by decide +kernel
theorem dX6_install_0 : decode cX6_install 0 = .ok (.iconst 0, 1) := by decide +kernel
theorem dX6_install_1 : decode cX6_install 1 = .ok (.istore_n 3, 1) := by decide +kernel
theorem dX6_install_2 : decode cX6_install 2 = .ok (.iconst 0, 1) := by decide +kernel
theorem dX6_install_3 : decode cX6_install 3 = .ok (.istore 4, 2) := by decide +kernel
theorem dX6_install_5 : decode cX6_install 5 = .ok (.iload 4, 2) := by decide +kernel
theorem dX6_install_7 : decode cX6_install 7 = .ok (.aload_n 1, 1) := by decide +kernel
theorem dX6_install_8 : decode cX6_install 8 = .ok (.getfield 44, 3) := by decide +kernel
theorem dX6_install_11 : decode cX6_install 11 = .ok (.iload_n 2, 1) := by decide +kernel
theorem dX6_install_12 : decode cX6_install 12 = .ok (.iaload, 1) := by decide +kernel
theorem dX6_install_13 : decode cX6_install 13 = .ok (.if_icmp .ge 31, 3) := by decide +kernel
theorem dX6_install_16 : decode cX6_install 16 = .ok (.aload_n 1, 1) := by decide +kernel
theorem dX6_install_17 : decode cX6_install 17 = .ok (.getfield 38, 3) := by decide +kernel
theorem dX6_install_20 : decode cX6_install 20 = .ok (.iload_n 2, 1) := by decide +kernel
theorem dX6_install_21 : decode cX6_install 21 = .ok (.aaload, 1) := by decide +kernel
theorem dX6_install_22 : decode cX6_install 22 = .ok (.iload 4, 2) := by decide +kernel
theorem dX6_install_24 : decode cX6_install 24 = .ok (.iaload, 1) := by decide +kernel
theorem dX6_install_25 : decode cX6_install 25 = .ok (.aload_n 0, 1) := by decide +kernel
theorem dX6_install_26 : decode cX6_install 26 = .ok (.getfield 9, 3) := by decide +kernel
theorem dX6_install_29 : decode cX6_install 29 = .ok (.iload 4, 2) := by decide +kernel
theorem dX6_install_31 : decode cX6_install 31 = .ok (.iaload, 1) := by decide +kernel
theorem dX6_install_32 : decode cX6_install 32 = .ok (.if_icmp .eq 6, 3) := by decide +kernel
theorem dX6_install_35 : decode cX6_install 35 = .ok (.iinc 3 1, 3) := by decide +kernel
theorem dX6_install_38 : decode cX6_install 38 = .ok (.iinc 4 1, 3) := by decide +kernel
theorem dX6_install_41 : decode cX6_install 41 = .ok (.goto (-36), 3) := by decide +kernel
theorem dX6_install_44 : decode cX6_install 44 = .ok (.aload_n 0, 1) := by decide +kernel
theorem dX6_install_45 : decode cX6_install 45 = .ok (.getfield 9, 3) := by decide +kernel
theorem dX6_install_48 : decode cX6_install 48 = .ok (.aload_n 1, 1) := by decide +kernel
theorem dX6_install_49 : decode cX6_install 49 = .ok (.getfield 38, 3) := by decide +kernel
theorem dX6_install_52 : decode cX6_install 52 = .ok (.iload_n 2, 1) := by decide +kernel
theorem dX6_install_53 : decode cX6_install 53 = .ok (.aaload, 1) := by decide +kernel
theorem dX6_install_54 : decode cX6_install 54 = .ok (.invokestatic 47, 3) := by decide +kernel
theorem dX6_install_57 : decode cX6_install 57 = .ok (.iload_n 3, 1) := by decide +kernel
theorem dX6_install_58 : decode cX6_install 58 = .ok (.ireturn, 1) := by decide +kernel
theorem dX6_sort_0 : decode cX6_sort 0 = .ok (.iconst 1, 1) := by decide +kernel
theorem dX6_sort_1 : decode cX6_sort 1 = .ok (.istore_n 2, 1) := by decide +kernel
theorem dX6_sort_2 : decode cX6_sort 2 = .ok (.iload_n 2, 1) := by decide +kernel
theorem dX6_sort_3 : decode cX6_sort 3 = .ok (.iload_n 1, 1) := by decide +kernel
theorem dX6_sort_4 : decode cX6_sort 4 = .ok (.if_icmp .ge 40, 3) := by decide +kernel
theorem dX6_sort_7 : decode cX6_sort 7 = .ok (.iload_n 2, 1) := by decide +kernel
theorem dX6_sort_8 : decode cX6_sort 8 = .ok (.istore_n 3, 1) := by decide +kernel
theorem dX6_sort_9 : decode cX6_sort 9 = .ok (.iload_n 3, 1) := by decide +kernel
theorem dX6_sort_10 : decode cX6_sort 10 = .ok (.ifCond .le 28, 3) := by decide +kernel
theorem dX6_sort_13 : decode cX6_sort 13 = .ok (.aload_n 0, 1) := by decide +kernel
theorem dX6_sort_14 : decode cX6_sort 14 = .ok (.iload_n 3, 1) := by decide +kernel
theorem dX6_sort_15 : decode cX6_sort 15 = .ok (.iconst 1, 1) := by decide +kernel
theorem dX6_sort_16 : decode cX6_sort 16 = .ok (.isub, 1) := by decide +kernel
theorem dX6_sort_17 : decode cX6_sort 17 = .ok (.iaload, 1) := by decide +kernel
theorem dX6_sort_18 : decode cX6_sort 18 = .ok (.aload_n 0, 1) := by decide +kernel
theorem dX6_sort_19 : decode cX6_sort 19 = .ok (.iload_n 3, 1) := by decide +kernel
theorem dX6_sort_20 : decode cX6_sort 20 = .ok (.iaload, 1) := by decide +kernel
theorem dX6_sort_21 : decode cX6_sort 21 = .ok (.if_icmp .le 11, 3) := by decide +kernel
theorem dX6_sort_24 : decode cX6_sort 24 = .ok (.aload_n 0, 1) := by decide +kernel
theorem dX6_sort_25 : decode cX6_sort 25 = .ok (.iload_n 3, 1) := by decide +kernel
theorem dX6_sort_26 : decode cX6_sort 26 = .ok (.iconst 1, 1) := by decide +kernel
theorem dX6_sort_27 : decode cX6_sort 27 = .ok (.isub, 1) := by decide +kernel
theorem dX6_sort_28 : decode cX6_sort 28 = .ok (.iload_n 3, 1) := by decide +kernel
theorem dX6_sort_29 : decode cX6_sort 29 = .ok (.invokestatic 62, 3) := by decide +kernel
theorem dX6_sort_32 : decode cX6_sort 32 = .ok (.iinc 3 (-1), 3) := by decide +kernel
theorem dX6_sort_35 : decode cX6_sort 35 = .ok (.goto (-26), 3) := by decide +kernel
theorem dX6_sort_38 : decode cX6_sort 38 = .ok (.iinc 2 1, 3) := by decide +kernel
theorem dX6_sort_41 : decode cX6_sort 41 = .ok (.goto (-39), 3) := by decide +kernel
theorem dX6_sort_44 : decode cX6_sort 44 = .ok (.return_, 1) := by decide +kernel
theorem dX6_advance_0 : decode cX6_advance 0 = .ok (.iload_n 1, 1) := by decide +kernel
theorem dX6_advance_1 : decode cX6_advance 1 = .ok (.iconst 2, 1) := by decide +kernel
theorem dX6_advance_2 : decode cX6_advance 2 = .ok (.isub, 1) := by decide +kernel
theorem dX6_advance_3 : decode cX6_advance 3 = .ok (.istore_n 2, 1) := by decide +kernel
theorem dX6_advance_4 : decode cX6_advance 4 = .ok (.iload_n 2, 1) := by decide +kernel
theorem dX6_advance_5 : decode cX6_advance 5 = .ok (.ifCond .lt 20, 3) := by decide +kernel
theorem dX6_advance_8 : decode cX6_advance 8 = .ok (.aload_n 0, 1) := by decide +kernel
theorem dX6_advance_9 : decode cX6_advance 9 = .ok (.iload_n 2, 1) := by decide +kernel
theorem dX6_advance_10 : decode cX6_advance 10 = .ok (.iaload, 1) := by decide +kernel
theorem dX6_advance_11 : decode cX6_advance 11 = .ok (.aload_n 0, 1) := by decide +kernel
theorem dX6_advance_12 : decode cX6_advance 12 = .ok (.iload_n 2, 1) := by decide +kernel
theorem dX6_advance_13 : decode cX6_advance 13 = .ok (.iconst 1, 1) := by decide +kernel
theorem dX6_advance_14 : decode cX6_advance 14 = .ok (.iadd, 1) := by decide +kernel
theorem dX6_advance_15 : decode cX6_advance 15 = .ok (.iaload, 1) := by decide +kernel
theorem dX6_advance_16 : decode cX6_advance 16 = .ok (.if_icmp .le 9, 3) := by decide +kernel
theorem dX6_advance_19 : decode cX6_advance 19 = .ok (.iinc 2 (-1), 3) := by decide +kernel
theorem dX6_advance_22 : decode cX6_advance 22 = .ok (.goto (-18), 3) := by decide +kernel
theorem dX6_advance_25 : decode cX6_advance 25 = .ok (.iload_n 2, 1) := by decide +kernel
theorem dX6_advance_26 : decode cX6_advance 26 = .ok (.ifCond .ge 5, 3) := by decide +kernel
theorem dX6_advance_29 : decode cX6_advance 29 = .ok (.iconst 0, 1) := by decide +kernel
theorem dX6_advance_30 : decode cX6_advance 30 = .ok (.ireturn, 1) := by decide +kernel
theorem dX6_advance_31 : decode cX6_advance 31 = .ok (.iload_n 1, 1) := by decide +kernel
theorem dX6_advance_32 : decode cX6_advance 32 = .ok (.iconst 1, 1) := by decide +kernel
theorem dX6_advance_33 : decode cX6_advance 33 = .ok (.isub, 1) := by decide +kernel
theorem dX6_advance_34 : decode cX6_advance 34 = .ok (.istore_n 3, 1) := by decide +kernel
theorem dX6_advance_35 : decode cX6_advance 35 = .ok (.iload_n 3, 1) := by decide +kernel
theorem dX6_advance_36 : decode cX6_advance 36 = .ok (.iload_n 2, 1) := by decide +kernel
theorem dX6_advance_37 : decode cX6_advance 37 = .ok (.iconst 1, 1) := by decide +kernel
theorem dX6_advance_38 : decode cX6_advance 38 = .ok (.iadd, 1) := by decide +kernel
theorem dX6_advance_39 : decode cX6_advance 39 = .ok (.if_icmp .le 18, 3) := by decide +kernel
theorem dX6_advance_42 : decode cX6_advance 42 = .ok (.aload_n 0, 1) := by decide +kernel
theorem dX6_advance_43 : decode cX6_advance 43 = .ok (.iload_n 3, 1) := by decide +kernel
theorem dX6_advance_44 : decode cX6_advance 44 = .ok (.iaload, 1) := by decide +kernel
theorem dX6_advance_45 : decode cX6_advance 45 = .ok (.aload_n 0, 1) := by decide +kernel
theorem dX6_advance_46 : decode cX6_advance 46 = .ok (.iload_n 2, 1) := by decide +kernel
theorem dX6_advance_47 : decode cX6_advance 47 = .ok (.iaload, 1) := by decide +kernel
theorem dX6_advance_48 : decode cX6_advance 48 = .ok (.if_icmp .ge 9, 3) := by decide +kernel
theorem dX6_advance_51 : decode cX6_advance 51 = .ok (.iinc 3 (-1), 3) := by decide +kernel
theorem dX6_advance_54 : decode cX6_advance 54 = .ok (.goto (-19), 3) := by decide +kernel
theorem dX6_advance_57 : decode cX6_advance 57 = .ok (.aload_n 0, 1) := by decide +kernel
theorem dX6_advance_58 : decode cX6_advance 58 = .ok (.iload_n 2, 1) := by decide +kernel
theorem dX6_advance_59 : decode cX6_advance 59 = .ok (.iload_n 3, 1) := by decide +kernel
theorem dX6_advance_60 : decode cX6_advance 60 = .ok (.invokestatic 62, 3) := by decide +kernel
theorem dX6_advance_63 : decode cX6_advance 63 = .ok (.iload_n 1, 1) := by decide +kernel
theorem dX6_advance_64 : decode cX6_advance 64 = .ok (.iconst 1, 1) := by decide +kernel
theorem dX6_advance_65 : decode cX6_advance 65 = .ok (.isub, 1) := by decide +kernel
theorem dX6_advance_66 : decode cX6_advance 66 = .ok (.istore 4, 2) := by decide +kernel
theorem dX6_advance_68 : decode cX6_advance 68 = .ok (.iload_n 2, 1) := by decide +kernel
theorem dX6_advance_69 : decode cX6_advance 69 = .ok (.iconst 1, 1) := by decide +kernel
theorem dX6_advance_70 : decode cX6_advance 70 = .ok (.iadd, 1) := by decide +kernel
theorem dX6_advance_71 : decode cX6_advance 71 = .ok (.istore 5, 2) := by decide +kernel
theorem dX6_advance_73 : decode cX6_advance 73 = .ok (.iload 5, 2) := by decide +kernel
theorem dX6_advance_75 : decode cX6_advance 75 = .ok (.iload 4, 2) := by decide +kernel
theorem dX6_advance_77 : decode cX6_advance 77 = .ok (.if_icmp .ge 20, 3) := by decide +kernel
theorem dX6_advance_80 : decode cX6_advance 80 = .ok (.aload_n 0, 1) := by decide +kernel
theorem dX6_advance_81 : decode cX6_advance 81 = .ok (.iload 5, 2) := by decide +kernel
theorem dX6_advance_83 : decode cX6_advance 83 = .ok (.iload 4, 2) := by decide +kernel
theorem dX6_advance_85 : decode cX6_advance 85 = .ok (.invokestatic 62, 3) := by decide +kernel
theorem dX6_advance_88 : decode cX6_advance 88 = .ok (.iinc 4 (-1), 3) := by decide +kernel
theorem dX6_advance_91 : decode cX6_advance 91 = .ok (.iinc 5 1, 3) := by decide +kernel
theorem dX6_advance_94 : decode cX6_advance 94 = .ok (.goto (-21), 3) := by decide +kernel
theorem dX6_advance_97 : decode cX6_advance 97 = .ok (.iconst 1, 1) := by decide +kernel
theorem dX6_advance_98 : decode cX6_advance 98 = .ok (.ireturn, 1) := by decide +kernel
theorem dX6_exchange_0 : decode cX6_exchange 0 = .ok (.aload_n 0, 1) := by decide +kernel
theorem dX6_exchange_1 : decode cX6_exchange 1 = .ok (.iload_n 1, 1) := by decide +kernel
theorem dX6_exchange_2 : decode cX6_exchange 2 = .ok (.iaload, 1) := by decide +kernel
theorem dX6_exchange_3 : decode cX6_exchange 3 = .ok (.istore_n 3, 1) := by decide +kernel
theorem dX6_exchange_4 : decode cX6_exchange 4 = .ok (.aload_n 0, 1) := by decide +kernel
theorem dX6_exchange_5 : decode cX6_exchange 5 = .ok (.iload_n 1, 1) := by decide +kernel
theorem dX6_exchange_6 : decode cX6_exchange 6 = .ok (.aload_n 0, 1) := by decide +kernel
theorem dX6_exchange_7 : decode cX6_exchange 7 = .ok (.iload_n 2, 1) := by decide +kernel
theorem dX6_exchange_8 : decode cX6_exchange 8 = .ok (.iaload, 1) := by decide +kernel
theorem dX6_exchange_9 : decode cX6_exchange 9 = .ok (.iastore, 1) := by decide +kernel
theorem dX6_exchange_10 : decode cX6_exchange 10 = .ok (.aload_n 0, 1) := by decide +kernel
theorem dX6_exchange_11 : decode cX6_exchange 11 = .ok (.iload_n 2, 1) := by decide +kernel
theorem dX6_exchange_12 : decode cX6_exchange 12 = .ok (.iload_n 3, 1) := by decide +kernel
theorem dX6_exchange_13 : decode cX6_exchange 13 = .ok (.iastore, 1) := by decide +kernel
theorem dX6_exchange_14 : decode cX6_exchange 14 = .ok (.return_, 1) := by decide +kernel
theorem dX7_init_0 : decode cX7_init 0 = .ok (.aload_n 0, 1) := by decide +kernel
theorem dX7_init_1 : decode cX7_init 1 = .ok (.invokespecial 3, 3) := by decide +kernel
theorem dX7_init_4 : decode cX7_init 4 = .ok (.aload_n 0, 1) := by decide +kernel
theorem dX7_init_5 : decode cX7_init 5 = .ok (.iconst 5, 1) := by decide +kernel
theorem dX7_init_6 : decode cX7_init 6 = .ok (.iconst 3, 1) := by decide +kernel
theorem dX7_init_7 : decode cX7_init 7 = .ok (.multianewarray 9 2, 4) := by decide +kernel
theorem dX7_init_11 : decode cX7_init 11 = .ok (.putfield 11, 3) := by decide +kernel
theorem dX7_init_14 : decode cX7_init 14 = .ok (.aload_n 0, 1) := by decide +kernel
theorem dX7_init_15 : decode cX7_init 15 = .ok (.iconst 5, 1) := by decide +kernel
theorem dX7_init_16 : decode cX7_init 16 = .ok (.newarray .int, 2) := by decide +kernel
theorem dX7_init_18 : decode cX7_init 18 = .ok (.putfield 16, 3) := by decide +kernel
theorem dX7_init_21 : decode cX7_init 21 = .ok (.aload_n 0, 1) := by decide +kernel
theorem dX7_init_22 : decode cX7_init 22 = .ok (.iconst 5, 1) := by decide +kernel
theorem dX7_init_23 : decode cX7_init 23 = .ok (.iconst 4, 1) := by decide +kernel
theorem dX7_init_24 : decode cX7_init 24 = .ok (.multianewarray 9 2, 4) := by decide +kernel
theorem dX7_init_28 : decode cX7_init 28 = .ok (.putfield 20, 3) := by decide +kernel
theorem dX7_init_31 : decode cX7_init 31 = .ok (.aload_n 0, 1) := by decide +kernel
theorem dX7_init_32 : decode cX7_init 32 = .ok (.bipush 20, 2) := by decide +kernel
theorem dX7_init_34 : decode cX7_init 34 = .ok (.newarray .int, 2) := by decide +kernel
theorem dX7_init_36 : decode cX7_init 36 = .ok (.putfield 23, 3) := by decide +kernel
theorem dX7_init_39 : decode cX7_init 39 = .ok (.aload_n 0, 1) := by decide +kernel
theorem dX7_init_40 : decode cX7_init 40 = .ok (.bipush 20, 2) := by decide +kernel
theorem dX7_init_42 : decode cX7_init 42 = .ok (.newarray .int, 2) := by decide +kernel
theorem dX7_init_44 : decode cX7_init 44 = .ok (.putfield 26, 3) := by decide +kernel
theorem dX7_init_47 : decode cX7_init 47 = .ok (.aload_n 0, 1) := by decide +kernel
theorem dX7_init_48 : decode cX7_init 48 = .ok (.bipush 20, 2) := by decide +kernel
theorem dX7_init_50 : decode cX7_init 50 = .ok (.newarray .int, 2) := by decide +kernel
theorem dX7_init_52 : decode cX7_init 52 = .ok (.putfield 29, 3) := by decide +kernel
theorem dX7_init_55 : decode cX7_init 55 = .ok (.aload_n 0, 1) := by decide +kernel
theorem dX7_init_56 : decode cX7_init 56 = .ok (.bipush 20, 2) := by decide +kernel
theorem dX7_init_58 : decode cX7_init 58 = .ok (.newarray .int, 2) := by decide +kernel
theorem dX7_init_60 : decode cX7_init 60 = .ok (.putfield 32, 3) := by decide +kernel
theorem dX7_init_63 : decode cX7_init 63 = .ok (.aload_n 0, 1) := by decide +kernel
theorem dX7_init_64 : decode cX7_init 64 = .ok (.bipush 20, 2) := by decide +kernel
theorem dX7_init_66 : decode cX7_init 66 = .ok (.newarray .int, 2) := by decide +kernel
theorem dX7_init_68 : decode cX7_init 68 = .ok (.putfield 35, 3) := by decide +kernel
theorem dX7_init_71 : decode cX7_init 71 = .ok (.aload_n 0, 1) := by decide +kernel
theorem dX7_init_72 : decode cX7_init 72 = .ok (.iconst 3, 1) := by decide +kernel
theorem dX7_init_73 : decode cX7_init 73 = .ok (.iconst 3, 1) := by decide +kernel
theorem dX7_init_74 : decode cX7_init 74 = .ok (.multianewarray 9 2, 4) := by decide +kernel
theorem dX7_init_78 : decode cX7_init 78 = .ok (.putfield 38, 3) := by decide +kernel
theorem dX7_init_81 : decode cX7_init 81 = .ok (.aload_n 0, 1) := by decide +kernel
theorem dX7_init_82 : decode cX7_init 82 = .ok (.iconst 4, 1) := by decide +kernel
theorem dX7_init_83 : decode cX7_init 83 = .ok (.newarray .int, 2) := by decide +kernel
theorem dX7_init_85 : decode cX7_init 85 = .ok (.putfield 41, 3) := by decide +kernel
theorem dX7_init_88 : decode cX7_init 88 = .ok (.aload_n 0, 1) := by decide +kernel
theorem dX7_init_89 : decode cX7_init 89 = .ok (.iconst 4, 1) := by decide +kernel
theorem dX7_init_90 : decode cX7_init 90 = .ok (.iconst 3, 1) := by decide +kernel
theorem dX7_init_91 : decode cX7_init 91 = .ok (.multianewarray 9 2, 4) := by decide +kernel
theorem dX7_init_95 : decode cX7_init 95 = .ok (.putfield 44, 3) := by decide +kernel
theorem dX7_init_98 : decode cX7_init 98 = .ok (.aload_n 0, 1) := by decide +kernel
theorem dX7_init_99 : decode cX7_init 99 = .ok (.iconst 4, 1) := by decide +kernel
theorem dX7_init_100 : decode cX7_init 100 = .ok (.iconst 3, 1) := by decide +kernel
theorem dX7_init_101 : decode cX7_init 101 = .ok (.multianewarray 9 2, 4) := by decide +kernel
theorem dX7_init_105 : decode cX7_init 105 = .ok (.putfield 47, 3) := by decide +kernel
theorem dX7_init_108 : decode cX7_init 108 = .ok (.aload_n 0, 1) := by decide +kernel
theorem dX7_init_109 : decode cX7_init 109 = .ok (.new 50, 3) := by decide +kernel
theorem dX7_init_112 : decode cX7_init 112 = .ok (.dup, 1) := by decide +kernel
theorem dX7_init_113 : decode cX7_init 113 = .ok (.invokespecial 52, 3) := by decide +kernel
theorem dX7_init_116 : decode cX7_init 116 = .ok (.putfield 53, 3) := by decide +kernel
theorem dX7_init_119 : decode cX7_init 119 = .ok (.return_, 1) := by decide +kernel
theorem dX7_copyFrom_0 : decode cX7_copyFrom 0 = .ok (.aload_n 0, 1) := by decide +kernel
theorem dX7_copyFrom_1 : decode cX7_copyFrom 1 = .ok (.aload_n 1, 1) := by decide +kernel
theorem dX7_copyFrom_2 : decode cX7_copyFrom 2 = .ok (.getfield 57, 3) := by decide +kernel
theorem dX7_copyFrom_5 : decode cX7_copyFrom 5 = .ok (.putfield 57, 3) := by decide +kernel
theorem dX7_copyFrom_8 : decode cX7_copyFrom 8 = .ok (.aload_n 0, 1) := by decide +kernel
theorem dX7_copyFrom_9 : decode cX7_copyFrom 9 = .ok (.aload_n 1, 1) := by decide +kernel
theorem dX7_copyFrom_10 : decode cX7_copyFrom 10 = .ok (.getfield 61, 3) := by decide +kernel
theorem dX7_copyFrom_13 : decode cX7_copyFrom 13 = .ok (.putfield 61, 3) := by decide +kernel
theorem dX7_copyFrom_16 : decode cX7_copyFrom 16 = .ok (.aload_n 1, 1) := by decide +kernel
theorem dX7_copyFrom_17 : decode cX7_copyFrom 17 = .ok (.getfield 11, 3) := by decide +kernel
theorem dX7_copyFrom_20 : decode cX7_copyFrom 20 = .ok (.aload_n 0, 1) := by decide +kernel
theorem dX7_copyFrom_21 : decode cX7_copyFrom 21 = .ok (.getfield 11, 3) := by decide +kernel
theorem dX7_copyFrom_24 : decode cX7_copyFrom 24 = .ok (.invokestatic 64, 3) := by decide +kernel
theorem dX7_copyFrom_27 : decode cX7_copyFrom 27 = .ok (.aload_n 1, 1) := by decide +kernel
theorem dX7_copyFrom_28 : decode cX7_copyFrom 28 = .ok (.getfield 16, 3) := by decide +kernel
theorem dX7_copyFrom_31 : decode cX7_copyFrom 31 = .ok (.aload_n 0, 1) := by decide +kernel
theorem dX7_copyFrom_32 : decode cX7_copyFrom 32 = .ok (.getfield 16, 3) := by decide +kernel
theorem dX7_copyFrom_35 : decode cX7_copyFrom 35 = .ok (.invokestatic 68, 3) := by decide +kernel
theorem dX7_copyFrom_38 : decode cX7_copyFrom 38 = .ok (.aload_n 1, 1) := by decide +kernel
theorem dX7_copyFrom_39 : decode cX7_copyFrom 39 = .ok (.getfield 20, 3) := by decide +kernel
theorem dX7_copyFrom_42 : decode cX7_copyFrom 42 = .ok (.aload_n 0, 1) := by decide +kernel
theorem dX7_copyFrom_43 : decode cX7_copyFrom 43 = .ok (.getfield 20, 3) := by decide +kernel
theorem dX7_copyFrom_46 : decode cX7_copyFrom 46 = .ok (.invokestatic 64, 3) := by decide +kernel
theorem dX7_copyFrom_49 : decode cX7_copyFrom 49 = .ok (.aload_n 1, 1) := by decide +kernel
theorem dX7_copyFrom_50 : decode cX7_copyFrom 50 = .ok (.getfield 23, 3) := by decide +kernel
theorem dX7_copyFrom_53 : decode cX7_copyFrom 53 = .ok (.aload_n 0, 1) := by decide +kernel
theorem dX7_copyFrom_54 : decode cX7_copyFrom 54 = .ok (.getfield 23, 3) := by decide +kernel
theorem dX7_copyFrom_57 : decode cX7_copyFrom 57 = .ok (.invokestatic 68, 3) := by decide +kernel
theorem dX7_copyFrom_60 : decode cX7_copyFrom 60 = .ok (.aload_n 1, 1) := by decide +kernel
theorem dX7_copyFrom_61 : decode cX7_copyFrom 61 = .ok (.getfield 26, 3) := by decide +kernel
theorem dX7_copyFrom_64 : decode cX7_copyFrom 64 = .ok (.aload_n 0, 1) := by decide +kernel
theorem dX7_copyFrom_65 : decode cX7_copyFrom 65 = .ok (.getfield 26, 3) := by decide +kernel
theorem dX7_copyFrom_68 : decode cX7_copyFrom 68 = .ok (.invokestatic 68, 3) := by decide +kernel
theorem dX7_copyFrom_71 : decode cX7_copyFrom 71 = .ok (.aload_n 1, 1) := by decide +kernel
theorem dX7_copyFrom_72 : decode cX7_copyFrom 72 = .ok (.getfield 29, 3) := by decide +kernel
theorem dX7_copyFrom_75 : decode cX7_copyFrom 75 = .ok (.aload_n 0, 1) := by decide +kernel
theorem dX7_copyFrom_76 : decode cX7_copyFrom 76 = .ok (.getfield 29, 3) := by decide +kernel
theorem dX7_copyFrom_79 : decode cX7_copyFrom 79 = .ok (.invokestatic 68, 3) := by decide +kernel
theorem dX7_copyFrom_82 : decode cX7_copyFrom 82 = .ok (.aload_n 1, 1) := by decide +kernel
theorem dX7_copyFrom_83 : decode cX7_copyFrom 83 = .ok (.getfield 32, 3) := by decide +kernel
theorem dX7_copyFrom_86 : decode cX7_copyFrom 86 = .ok (.aload_n 0, 1) := by decide +kernel
theorem dX7_copyFrom_87 : decode cX7_copyFrom 87 = .ok (.getfield 32, 3) := by decide +kernel
theorem dX7_copyFrom_90 : decode cX7_copyFrom 90 = .ok (.invokestatic 68, 3) := by decide +kernel
theorem dX7_copyFrom_93 : decode cX7_copyFrom 93 = .ok (.aload_n 1, 1) := by decide +kernel
theorem dX7_copyFrom_94 : decode cX7_copyFrom 94 = .ok (.getfield 35, 3) := by decide +kernel
theorem dX7_copyFrom_97 : decode cX7_copyFrom 97 = .ok (.aload_n 0, 1) := by decide +kernel
theorem dX7_copyFrom_98 : decode cX7_copyFrom 98 = .ok (.getfield 35, 3) := by decide +kernel
theorem dX7_copyFrom_101 : decode cX7_copyFrom 101 = .ok (.invokestatic 68, 3) := by decide +kernel
theorem dX7_copyFrom_104 : decode cX7_copyFrom 104 = .ok (.aload_n 1, 1) := by decide +kernel
theorem dX7_copyFrom_105 : decode cX7_copyFrom 105 = .ok (.getfield 38, 3) := by decide +kernel
theorem dX7_copyFrom_108 : decode cX7_copyFrom 108 = .ok (.aload_n 0, 1) := by decide +kernel
theorem dX7_copyFrom_109 : decode cX7_copyFrom 109 = .ok (.getfield 38, 3) := by decide +kernel
theorem dX7_copyFrom_112 : decode cX7_copyFrom 112 = .ok (.invokestatic 64, 3) := by decide +kernel
theorem dX7_copyFrom_115 : decode cX7_copyFrom 115 = .ok (.aload_n 1, 1) := by decide +kernel
theorem dX7_copyFrom_116 : decode cX7_copyFrom 116 = .ok (.getfield 41, 3) := by decide +kernel
theorem dX7_copyFrom_119 : decode cX7_copyFrom 119 = .ok (.aload_n 0, 1) := by decide +kernel
theorem dX7_copyFrom_120 : decode cX7_copyFrom 120 = .ok (.getfield 41, 3) := by decide +kernel
theorem dX7_copyFrom_123 : decode cX7_copyFrom 123 = .ok (.invokestatic 68, 3) := by decide +kernel
theorem dX7_copyFrom_126 : decode cX7_copyFrom 126 = .ok (.aload_n 1, 1) := by decide +kernel
theorem dX7_copyFrom_127 : decode cX7_copyFrom 127 = .ok (.getfield 44, 3) := by decide +kernel
theorem dX7_copyFrom_130 : decode cX7_copyFrom 130 = .ok (.aload_n 0, 1) := by decide +kernel
theorem dX7_copyFrom_131 : decode cX7_copyFrom 131 = .ok (.getfield 44, 3) := by decide +kernel
theorem dX7_copyFrom_134 : decode cX7_copyFrom 134 = .ok (.invokestatic 64, 3) := by decide +kernel
theorem dX7_copyFrom_137 : decode cX7_copyFrom 137 = .ok (.aload_n 1, 1) := by decide +kernel
theorem dX7_copyFrom_138 : decode cX7_copyFrom 138 = .ok (.getfield 47, 3) := by decide +kernel
theorem dX7_copyFrom_141 : decode cX7_copyFrom 141 = .ok (.aload_n 0, 1) := by decide +kernel
theorem dX7_copyFrom_142 : decode cX7_copyFrom 142 = .ok (.getfield 47, 3) := by decide +kernel
theorem dX7_copyFrom_145 : decode cX7_copyFrom 145 = .ok (.invokestatic 64, 3) := by decide +kernel
theorem dX7_copyFrom_148 : decode cX7_copyFrom 148 = .ok (.aload_n 0, 1) := by decide +kernel
theorem dX7_copyFrom_149 : decode cX7_copyFrom 149 = .ok (.getfield 53, 3) := by decide +kernel
theorem dX7_copyFrom_152 : decode cX7_copyFrom 152 = .ok (.aload_n 1, 1) := by decide +kernel
theorem dX7_copyFrom_153 : decode cX7_copyFrom 153 = .ok (.getfield 53, 3) := by decide +kernel
theorem dX7_copyFrom_156 : decode cX7_copyFrom 156 = .ok (.invokevirtual 72, 3) := by decide +kernel
theorem dX7_copyFrom_159 : decode cX7_copyFrom 159 = .ok (.return_, 1) := by decide +kernel
theorem dX7_createJob_0 : decode cX7_createJob 0 = .ok (.aload_n 0, 1) := by decide +kernel
theorem dX7_createJob_1 : decode cX7_createJob 1 = .ok (.getfield 57, 3) := by decide +kernel
theorem dX7_createJob_4 : decode cX7_createJob 4 = .ok (.istore 4, 2) := by decide +kernel
theorem dX7_createJob_6 : decode cX7_createJob 6 = .ok (.aload_n 0, 1) := by decide +kernel
theorem dX7_createJob_7 : decode cX7_createJob 7 = .ok (.getfield 11, 3) := by decide +kernel
theorem dX7_createJob_10 : decode cX7_createJob 10 = .ok (.iload 4, 2) := by decide +kernel
theorem dX7_createJob_12 : decode cX7_createJob 12 = .ok (.aaload, 1) := by decide +kernel
theorem dX7_createJob_13 : decode cX7_createJob 13 = .ok (.iconst 0, 1) := by decide +kernel
theorem dX7_createJob_14 : decode cX7_createJob 14 = .ok (.iload_n 1, 1) := by decide +kernel
theorem dX7_createJob_15 : decode cX7_createJob 15 = .ok (.iastore, 1) := by decide +kernel
theorem dX7_createJob_16 : decode cX7_createJob 16 = .ok (.aload_n 0, 1) := by decide +kernel
theorem dX7_createJob_17 : decode cX7_createJob 17 = .ok (.getfield 11, 3) := by decide +kernel
theorem dX7_createJob_20 : decode cX7_createJob 20 = .ok (.iload 4, 2) := by decide +kernel
theorem dX7_createJob_22 : decode cX7_createJob 22 = .ok (.aaload, 1) := by decide +kernel
theorem dX7_createJob_23 : decode cX7_createJob 23 = .ok (.iconst 1, 1) := by decide +kernel
theorem dX7_createJob_24 : decode cX7_createJob 24 = .ok (.iload_n 2, 1) := by decide +kernel
theorem dX7_createJob_25 : decode cX7_createJob 25 = .ok (.iastore, 1) := by decide +kernel
theorem dX7_createJob_26 : decode cX7_createJob 26 = .ok (.aload_n 0, 1) := by decide +kernel
theorem dX7_createJob_27 : decode cX7_createJob 27 = .ok (.getfield 11, 3) := by decide +kernel
theorem dX7_createJob_30 : decode cX7_createJob 30 = .ok (.iload 4, 2) := by decide +kernel
theorem dX7_createJob_32 : decode cX7_createJob 32 = .ok (.aaload, 1) := by decide +kernel
theorem dX7_createJob_33 : decode cX7_createJob 33 = .ok (.iconst 2, 1) := by decide +kernel
theorem dX7_createJob_34 : decode cX7_createJob 34 = .ok (.iload_n 3, 1) := by decide +kernel
theorem dX7_createJob_35 : decode cX7_createJob 35 = .ok (.iastore, 1) := by decide +kernel
theorem dX7_createJob_36 : decode cX7_createJob 36 = .ok (.aload_n 0, 1) := by decide +kernel
theorem dX7_createJob_37 : decode cX7_createJob 37 = .ok (.getfield 16, 3) := by decide +kernel
theorem dX7_createJob_40 : decode cX7_createJob 40 = .ok (.iload 4, 2) := by decide +kernel
theorem dX7_createJob_42 : decode cX7_createJob 42 = .ok (.iconst 0, 1) := by decide +kernel
theorem dX7_createJob_43 : decode cX7_createJob 43 = .ok (.iastore, 1) := by decide +kernel
theorem dX7_createJob_44 : decode cX7_createJob 44 = .ok (.aload_n 0, 1) := by decide +kernel
theorem dX7_createJob_45 : decode cX7_createJob 45 = .ok (.iload 4, 2) := by decide +kernel
theorem dX7_createJob_47 : decode cX7_createJob 47 = .ok (.iconst 1, 1) := by decide +kernel
theorem dX7_createJob_48 : decode cX7_createJob 48 = .ok (.iadd, 1) := by decide +kernel
theorem dX7_createJob_49 : decode cX7_createJob 49 = .ok (.putfield 57, 3) := by decide +kernel
theorem dX7_createJob_52 : decode cX7_createJob 52 = .ok (.iload 4, 2) := by decide +kernel
theorem dX7_createJob_54 : decode cX7_createJob 54 = .ok (.ireturn, 1) := by decide +kernel
theorem dX7_accepts_0 : decode cX7_accepts 0 = .ok (.aload_n 0, 1) := by decide +kernel
theorem dX7_accepts_1 : decode cX7_accepts 1 = .ok (.getfield 16, 3) := by decide +kernel
theorem dX7_accepts_4 : decode cX7_accepts 4 = .ok (.iload_n 1, 1) := by decide +kernel
theorem dX7_accepts_5 : decode cX7_accepts 5 = .ok (.iaload, 1) := by decide +kernel
theorem dX7_accepts_6 : decode cX7_accepts 6 = .ok (.iconst 4, 1) := by decide +kernel
theorem dX7_accepts_7 : decode cX7_accepts 7 = .ok (.if_icmp .ge 12, 3) := by decide +kernel
theorem dX7_accepts_10 : decode cX7_accepts 10 = .ok (.aload_n 0, 1) := by decide +kernel
theorem dX7_accepts_11 : decode cX7_accepts 11 = .ok (.getfield 61, 3) := by decide +kernel
theorem dX7_accepts_14 : decode cX7_accepts 14 = .ok (.bipush 20, 2) := by decide +kernel
theorem dX7_accepts_16 : decode cX7_accepts 16 = .ok (.if_icmp .lt 5, 3) := by decide +kernel
theorem dX7_accepts_19 : decode cX7_accepts 19 = .ok (.iconst 0, 1) := by decide +kernel
theorem dX7_accepts_20 : decode cX7_accepts 20 = .ok (.ireturn, 1) := by decide +kernel
theorem dX7_accepts_21 : decode cX7_accepts 21 = .ok (.iconst 0, 1) := by decide +kernel
theorem dX7_accepts_22 : decode cX7_accepts 22 = .ok (.istore_n 3, 1) := by decide +kernel
theorem dX7_accepts_23 : decode cX7_accepts 23 = .ok (.iload_n 3, 1) := by decide +kernel
theorem dX7_accepts_24 : decode cX7_accepts 24 = .ok (.aload_n 0, 1) := by decide +kernel
theorem dX7_accepts_25 : decode cX7_accepts 25 = .ok (.getfield 16, 3) := by decide +kernel
theorem dX7_accepts_28 : decode cX7_accepts 28 = .ok (.iload_n 1, 1) := by decide +kernel
theorem dX7_accepts_29 : decode cX7_accepts 29 = .ok (.iaload, 1) := by decide +kernel
theorem dX7_accepts_30 : decode cX7_accepts 30 = .ok (.if_icmp .ge 28, 3) := by decide +kernel
theorem dX7_accepts_33 : decode cX7_accepts 33 = .ok (.aload_n 0, 1) := by decide +kernel
theorem dX7_accepts_34 : decode cX7_accepts 34 = .ok (.getfield 26, 3) := by decide +kernel
theorem dX7_accepts_37 : decode cX7_accepts 37 = .ok (.aload_n 0, 1) := by decide +kernel
theorem dX7_accepts_38 : decode cX7_accepts 38 = .ok (.getfield 20, 3) := by decide +kernel
theorem dX7_accepts_41 : decode cX7_accepts 41 = .ok (.iload_n 1, 1) := by decide +kernel
theorem dX7_accepts_42 : decode cX7_accepts 42 = .ok (.aaload, 1) := by decide +kernel
theorem dX7_accepts_43 : decode cX7_accepts 43 = .ok (.iload_n 3, 1) := by decide +kernel
theorem dX7_accepts_44 : decode cX7_accepts 44 = .ok (.iaload, 1) := by decide +kernel
theorem dX7_accepts_45 : decode cX7_accepts 45 = .ok (.iaload, 1) := by decide +kernel
theorem dX7_accepts_46 : decode cX7_accepts 46 = .ok (.iload_n 2, 1) := by decide +kernel
theorem dX7_accepts_47 : decode cX7_accepts 47 = .ok (.if_icmp .ne 5, 3) := by decide +kernel
theorem dX7_accepts_50 : decode cX7_accepts 50 = .ok (.iconst 0, 1) := by decide +kernel
theorem dX7_accepts_51 : decode cX7_accepts 51 = .ok (.ireturn, 1) := by decide +kernel
theorem dX7_accepts_52 : decode cX7_accepts 52 = .ok (.iinc 3 1, 3) := by decide +kernel
theorem dX7_accepts_55 : decode cX7_accepts 55 = .ok (.goto (-32), 3) := by decide +kernel
theorem dX7_accepts_58 : decode cX7_accepts 58 = .ok (.iconst 1, 1) := by decide +kernel
theorem dX7_accepts_59 : decode cX7_accepts 59 = .ok (.ireturn, 1) := by decide +kernel
theorem dX7_createOperation_0 : decode cX7_createOperation 0 = .ok (.aload_n 0, 1) := by decide +kernel
theorem dX7_createOperation_1 : decode cX7_createOperation 1 = .ok (.getfield 61, 3) := by decide +kernel
theorem dX7_createOperation_4 : decode cX7_createOperation 4 = .ok (.istore 5, 2) := by decide +kernel
theorem dX7_createOperation_6 : decode cX7_createOperation 6 = .ok (.aload_n 0, 1) := by decide +kernel
theorem dX7_createOperation_7 : decode cX7_createOperation 7 = .ok (.getfield 16, 3) := by decide +kernel
theorem dX7_createOperation_10 : decode cX7_createOperation 10 = .ok (.iload_n 1, 1) := by decide +kernel
theorem dX7_createOperation_11 : decode cX7_createOperation 11 = .ok (.iaload, 1) := by decide +kernel
theorem dX7_createOperation_12 : decode cX7_createOperation 12 = .ok (.istore 6, 2) := by decide +kernel
theorem dX7_createOperation_14 : decode cX7_createOperation 14 = .ok (.aload_n 0, 1) := by decide +kernel
theorem dX7_createOperation_15 : decode cX7_createOperation 15 = .ok (.getfield 20, 3) := by decide +kernel
theorem dX7_createOperation_18 : decode cX7_createOperation 18 = .ok (.iload_n 1, 1) := by decide +kernel
theorem dX7_createOperation_19 : decode cX7_createOperation 19 = .ok (.aaload, 1) := by decide +kernel
theorem dX7_createOperation_20 : decode cX7_createOperation 20 = .ok (.iload 6, 2) := by decide +kernel
theorem dX7_createOperation_22 : decode cX7_createOperation 22 = .ok (.iload 5, 2) := by decide +kernel
theorem dX7_createOperation_24 : decode cX7_createOperation 24 = .ok (.iastore, 1) := by decide +kernel
theorem dX7_createOperation_25 : decode cX7_createOperation 25 = .ok (.aload_n 0, 1) := by decide +kernel
theorem dX7_createOperation_26 : decode cX7_createOperation 26 = .ok (.getfield 16, 3) := by decide +kernel
theorem dX7_createOperation_29 : decode cX7_createOperation 29 = .ok (.iload_n 1, 1) := by decide +kernel
theorem dX7_createOperation_30 : decode cX7_createOperation 30 = .ok (.iload 6, 2) := by decide +kernel
theorem dX7_createOperation_32 : decode cX7_createOperation 32 = .ok (.iconst 1, 1) := by decide +kernel
theorem dX7_createOperation_33 : decode cX7_createOperation 33 = .ok (.iadd, 1) := by decide +kernel
theorem dX7_createOperation_34 : decode cX7_createOperation 34 = .ok (.iastore, 1) := by decide +kernel
theorem dX7_createOperation_35 : decode cX7_createOperation 35 = .ok (.aload_n 0, 1) := by decide +kernel
theorem dX7_createOperation_36 : decode cX7_createOperation 36 = .ok (.getfield 23, 3) := by decide +kernel
theorem dX7_createOperation_39 : decode cX7_createOperation 39 = .ok (.iload 5, 2) := by decide +kernel
theorem dX7_createOperation_41 : decode cX7_createOperation 41 = .ok (.iload_n 1, 1) := by decide +kernel
theorem dX7_createOperation_42 : decode cX7_createOperation 42 = .ok (.iastore, 1) := by decide +kernel
theorem dX7_createOperation_43 : decode cX7_createOperation 43 = .ok (.aload_n 0, 1) := by decide +kernel
theorem dX7_createOperation_44 : decode cX7_createOperation 44 = .ok (.getfield 26, 3) := by decide +kernel
theorem dX7_createOperation_47 : decode cX7_createOperation 47 = .ok (.iload 5, 2) := by decide +kernel
theorem dX7_createOperation_49 : decode cX7_createOperation 49 = .ok (.iload_n 2, 1) := by decide +kernel
theorem dX7_createOperation_50 : decode cX7_createOperation 50 = .ok (.iastore, 1) := by decide +kernel
theorem dX7_createOperation_51 : decode cX7_createOperation 51 = .ok (.aload_n 0, 1) := by decide +kernel
theorem dX7_createOperation_52 : decode cX7_createOperation 52 = .ok (.getfield 29, 3) := by decide +kernel
theorem dX7_createOperation_55 : decode cX7_createOperation 55 = .ok (.iload 5, 2) := by decide +kernel
theorem dX7_createOperation_57 : decode cX7_createOperation 57 = .ok (.iload_n 3, 1) := by decide +kernel
theorem dX7_createOperation_58 : decode cX7_createOperation 58 = .ok (.iastore, 1) := by decide +kernel
theorem dX7_createOperation_59 : decode cX7_createOperation 59 = .ok (.aload_n 0, 1) := by decide +kernel
theorem dX7_createOperation_60 : decode cX7_createOperation 60 = .ok (.getfield 32, 3) := by decide +kernel
theorem dX7_createOperation_63 : decode cX7_createOperation 63 = .ok (.iload 5, 2) := by decide +kernel
theorem dX7_createOperation_65 : decode cX7_createOperation 65 = .ok (.iload 4, 2) := by decide +kernel
theorem dX7_createOperation_67 : decode cX7_createOperation 67 = .ok (.iastore, 1) := by decide +kernel
theorem dX7_createOperation_68 : decode cX7_createOperation 68 = .ok (.aload_n 0, 1) := by decide +kernel
theorem dX7_createOperation_69 : decode cX7_createOperation 69 = .ok (.getfield 35, 3) := by decide +kernel
theorem dX7_createOperation_72 : decode cX7_createOperation 72 = .ok (.iload 5, 2) := by decide +kernel
theorem dX7_createOperation_74 : decode cX7_createOperation 74 = .ok (.iload 6, 2) := by decide +kernel
theorem dX7_createOperation_76 : decode cX7_createOperation 76 = .ok (.iastore, 1) := by decide +kernel
theorem dX7_createOperation_77 : decode cX7_createOperation 77 = .ok (.aload_n 0, 1) := by decide +kernel
theorem dX7_createOperation_78 : decode cX7_createOperation 78 = .ok (.iload 5, 2) := by decide +kernel
theorem dX7_createOperation_80 : decode cX7_createOperation 80 = .ok (.iconst 1, 1) := by decide +kernel
theorem dX7_createOperation_81 : decode cX7_createOperation 81 = .ok (.iadd, 1) := by decide +kernel
theorem dX7_createOperation_82 : decode cX7_createOperation 82 = .ok (.putfield 61, 3) := by decide +kernel
theorem dX7_createOperation_85 : decode cX7_createOperation 85 = .ok (.aload_n 0, 1) := by decide +kernel
theorem dX7_createOperation_86 : decode cX7_createOperation 86 = .ok (.getfield 53, 3) := by decide +kernel
theorem dX7_createOperation_89 : decode cX7_createOperation 89 = .ok (.iload_n 2, 1) := by decide +kernel
theorem dX7_createOperation_90 : decode cX7_createOperation 90 = .ok (.iload 5, 2) := by decide +kernel
theorem dX7_createOperation_92 : decode cX7_createOperation 92 = .ok (.invokevirtual 76, 3) := by decide +kernel
theorem dX7_createOperation_95 : decode cX7_createOperation 95 = .ok (.iload 5, 2) := by decide +kernel
theorem dX7_createOperation_97 : decode cX7_createOperation 97 = .ok (.ireturn, 1) := by decide +kernel
theorem dX7_createBreakdown_0 : decode cX7_createBreakdown 0 = .ok (.aload_n 0, 1) := by decide +kernel
theorem dX7_createBreakdown_1 : decode cX7_createBreakdown 1 = .ok (.getfield 41, 3) := by decide +kernel
theorem dX7_createBreakdown_4 : decode cX7_createBreakdown 4 = .ok (.iload_n 1, 1) := by decide +kernel
theorem dX7_createBreakdown_5 : decode cX7_createBreakdown 5 = .ok (.iaload, 1) := by decide +kernel
theorem dX7_createBreakdown_6 : decode cX7_createBreakdown 6 = .ok (.istore 4, 2) := by decide +kernel
theorem dX7_createBreakdown_8 : decode cX7_createBreakdown 8 = .ok (.aload_n 0, 1) := by decide +kernel
theorem dX7_createBreakdown_9 : decode cX7_createBreakdown 9 = .ok (.getfield 44, 3) := by decide +kernel
theorem dX7_createBreakdown_12 : decode cX7_createBreakdown 12 = .ok (.iload_n 1, 1) := by decide +kernel
theorem dX7_createBreakdown_13 : decode cX7_createBreakdown 13 = .ok (.aaload, 1) := by decide +kernel
theorem dX7_createBreakdown_14 : decode cX7_createBreakdown 14 = .ok (.iload 4, 2) := by decide +kernel
theorem dX7_createBreakdown_16 : decode cX7_createBreakdown 16 = .ok (.iload_n 2, 1) := by decide +kernel
theorem dX7_createBreakdown_17 : decode cX7_createBreakdown 17 = .ok (.iastore, 1) := by decide +kernel
theorem dX7_createBreakdown_18 : decode cX7_createBreakdown 18 = .ok (.aload_n 0, 1) := by decide +kernel
theorem dX7_createBreakdown_19 : decode cX7_createBreakdown 19 = .ok (.getfield 47, 3) := by decide +kernel
theorem dX7_createBreakdown_22 : decode cX7_createBreakdown 22 = .ok (.iload_n 1, 1) := by decide +kernel
theorem dX7_createBreakdown_23 : decode cX7_createBreakdown 23 = .ok (.aaload, 1) := by decide +kernel
theorem dX7_createBreakdown_24 : decode cX7_createBreakdown 24 = .ok (.iload 4, 2) := by decide +kernel
theorem dX7_createBreakdown_26 : decode cX7_createBreakdown 26 = .ok (.iload_n 2, 1) := by decide +kernel
theorem dX7_createBreakdown_27 : decode cX7_createBreakdown 27 = .ok (.iload_n 3, 1) := by decide +kernel
theorem dX7_createBreakdown_28 : decode cX7_createBreakdown 28 = .ok (.iadd, 1) := by decide +kernel
theorem dX7_createBreakdown_29 : decode cX7_createBreakdown 29 = .ok (.iastore, 1) := by decide +kernel
theorem dX7_createBreakdown_30 : decode cX7_createBreakdown 30 = .ok (.aload_n 0, 1) := by decide +kernel
theorem dX7_createBreakdown_31 : decode cX7_createBreakdown 31 = .ok (.getfield 41, 3) := by decide +kernel
theorem dX7_createBreakdown_34 : decode cX7_createBreakdown 34 = .ok (.iload_n 1, 1) := by decide +kernel
theorem dX7_createBreakdown_35 : decode cX7_createBreakdown 35 = .ok (.iload 4, 2) := by decide +kernel
theorem dX7_createBreakdown_37 : decode cX7_createBreakdown 37 = .ok (.iconst 1, 1) := by decide +kernel
theorem dX7_createBreakdown_38 : decode cX7_createBreakdown 38 = .ok (.iadd, 1) := by decide +kernel
theorem dX7_createBreakdown_39 : decode cX7_createBreakdown 39 = .ok (.iastore, 1) := by decide +kernel
theorem dX7_createBreakdown_40 : decode cX7_createBreakdown 40 = .ok (.iload 4, 2) := by decide +kernel
theorem dX7_createBreakdown_42 : decode cX7_createBreakdown 42 = .ok (.iconst 1, 1) := by decide +kernel
theorem dX7_createBreakdown_43 : decode cX7_createBreakdown 43 = .ok (.iadd, 1) := by decide +kernel
theorem dX7_createBreakdown_44 : decode cX7_createBreakdown 44 = .ok (.ireturn, 1) := by decide +kernel
theorem dX7_setupBetween_0 : decode cX7_setupBetween 0 = .ok (.aload_n 0, 1) := by decide +kernel
theorem dX7_setupBetween_1 : decode cX7_setupBetween 1 = .ok (.getfield 38, 3) := by decide +kernel
theorem dX7_setupBetween_4 : decode cX7_setupBetween 4 = .ok (.aload_n 0, 1) := by decide +kernel
theorem dX7_setupBetween_5 : decode cX7_setupBetween 5 = .ok (.getfield 32, 3) := by decide +kernel
theorem dX7_setupBetween_8 : decode cX7_setupBetween 8 = .ok (.iload_n 1, 1) := by decide +kernel
theorem dX7_setupBetween_9 : decode cX7_setupBetween 9 = .ok (.iaload, 1) := by decide +kernel
theorem dX7_setupBetween_10 : decode cX7_setupBetween 10 = .ok (.aaload, 1) := by decide +kernel
theorem dX7_setupBetween_11 : decode cX7_setupBetween 11 = .ok (.aload_n 0, 1) := by decide +kernel
theorem dX7_setupBetween_12 : decode cX7_setupBetween 12 = .ok (.getfield 32, 3) := by decide +kernel
theorem dX7_setupBetween_15 : decode cX7_setupBetween 15 = .ok (.iload_n 2, 1) := by decide +kernel
theorem dX7_setupBetween_16 : decode cX7_setupBetween 16 = .ok (.iaload, 1) := by decide +kernel
theorem dX7_setupBetween_17 : decode cX7_setupBetween 17 = .ok (.iaload, 1) := by decide +kernel
theorem dX7_setupBetween_18 : decode cX7_setupBetween 18 = .ok (.ireturn, 1) := by decide +kernel
theorem dX7_jobPredecessor_0 : decode cX7_jobPredecessor 0 = .ok (.aload_n 0, 1) := by decide +kernel
theorem dX7_jobPredecessor_1 : decode cX7_jobPredecessor 1 = .ok (.getfield 35, 3) := by decide +kernel
theorem dX7_jobPredecessor_4 : decode cX7_jobPredecessor 4 = .ok (.iload_n 1, 1) := by decide +kernel
theorem dX7_jobPredecessor_5 : decode cX7_jobPredecessor 5 = .ok (.iaload, 1) := by decide +kernel
theorem dX7_jobPredecessor_6 : decode cX7_jobPredecessor 6 = .ok (.istore_n 2, 1) := by decide +kernel
theorem dX7_jobPredecessor_7 : decode cX7_jobPredecessor 7 = .ok (.iload_n 2, 1) := by decide +kernel
theorem dX7_jobPredecessor_8 : decode cX7_jobPredecessor 8 = .ok (.ifCond .le 21, 3) := by decide +kernel
theorem dX7_jobPredecessor_11 : decode cX7_jobPredecessor 11 = .ok (.aload_n 0, 1) := by decide +kernel
theorem dX7_jobPredecessor_12 : decode cX7_jobPredecessor 12 = .ok (.getfield 20, 3) := by decide +kernel
theorem dX7_jobPredecessor_15 : decode cX7_jobPredecessor 15 = .ok (.aload_n 0, 1) := by decide +kernel
theorem dX7_jobPredecessor_16 : decode cX7_jobPredecessor 16 = .ok (.getfield 23, 3) := by decide +kernel
theorem dX7_jobPredecessor_19 : decode cX7_jobPredecessor 19 = .ok (.iload_n 1, 1) := by decide +kernel
theorem dX7_jobPredecessor_20 : decode cX7_jobPredecessor 20 = .ok (.iaload, 1) := by decide +kernel
theorem dX7_jobPredecessor_21 : decode cX7_jobPredecessor 21 = .ok (.aaload, 1) := by decide +kernel
theorem dX7_jobPredecessor_22 : decode cX7_jobPredecessor 22 = .ok (.iload_n 2, 1) := by decide +kernel
theorem dX7_jobPredecessor_23 : decode cX7_jobPredecessor 23 = .ok (.iconst 1, 1) := by decide +kernel
theorem dX7_jobPredecessor_24 : decode cX7_jobPredecessor 24 = .ok (.isub, 1) := by decide +kernel
theorem dX7_jobPredecessor_25 : decode cX7_jobPredecessor 25 = .ok (.iaload, 1) := by decide +kernel
theorem dX7_jobPredecessor_26 : decode cX7_jobPredecessor 26 = .ok (.goto 4, 3) := by decide +kernel
theorem dX7_jobPredecessor_29 : decode cX7_jobPredecessor 29 = .ok (.iconst (-1), 1) := by decide +kernel
theorem dX7_jobPredecessor_30 : decode cX7_jobPredecessor 30 = .ok (.ireturn, 1) := by decide +kernel
theorem dX7_readyTime_0 : decode cX7_readyTime 0 = .ok (.aload_n 0, 1) := by decide +kernel
theorem dX7_readyTime_1 : decode cX7_readyTime 1 = .ok (.getfield 23, 3) := by decide +kernel
theorem dX7_readyTime_4 : decode cX7_readyTime 4 = .ok (.iload_n 1, 1) := by decide +kernel
theorem dX7_readyTime_5 : decode cX7_readyTime 5 = .ok (.iaload, 1) := by decide +kernel
theorem dX7_readyTime_6 : decode cX7_readyTime 6 = .ok (.istore 4, 2) := by decide +kernel
theorem dX7_readyTime_8 : decode cX7_readyTime 8 = .ok (.aload_n 0, 1) := by decide +kernel
theorem dX7_readyTime_9 : decode cX7_readyTime 9 = .ok (.getfield 35, 3) := by decide +kernel
theorem dX7_readyTime_12 : decode cX7_readyTime 12 = .ok (.iload_n 1, 1) := by decide +kernel
theorem dX7_readyTime_13 : decode cX7_readyTime 13 = .ok (.iaload, 1) := by decide +kernel
theorem dX7_readyTime_14 : decode cX7_readyTime 14 = .ok (.istore 5, 2) := by decide +kernel
theorem dX7_readyTime_16 : decode cX7_readyTime 16 = .ok (.iload 5, 2) := by decide +kernel
theorem dX7_readyTime_18 : decode cX7_readyTime 18 = .ok (.ifCond .le 20, 3) := by decide +kernel
theorem dX7_readyTime_21 : decode cX7_readyTime 21 = .ok (.aload_n 3, 1) := by decide +kernel
theorem dX7_readyTime_22 : decode cX7_readyTime 22 = .ok (.aload_n 0, 1) := by decide +kernel
theorem dX7_readyTime_23 : decode cX7_readyTime 23 = .ok (.getfield 20, 3) := by decide +kernel
theorem dX7_readyTime_26 : decode cX7_readyTime 26 = .ok (.iload 4, 2) := by decide +kernel
theorem dX7_readyTime_28 : decode cX7_readyTime 28 = .ok (.aaload, 1) := by decide +kernel
theorem dX7_readyTime_29 : decode cX7_readyTime 29 = .ok (.iload 5, 2) := by decide +kernel
theorem dX7_readyTime_31 : decode cX7_readyTime 31 = .ok (.iconst 1, 1) := by decide +kernel
theorem dX7_readyTime_32 : decode cX7_readyTime 32 = .ok (.isub, 1) := by decide +kernel
theorem dX7_readyTime_33 : decode cX7_readyTime 33 = .ok (.iaload, 1) := by decide +kernel
theorem dX7_readyTime_34 : decode cX7_readyTime 34 = .ok (.iaload, 1) := by decide +kernel
theorem dX7_readyTime_35 : decode cX7_readyTime 35 = .ok (.goto 12, 3) := by decide +kernel
theorem dX7_readyTime_38 : decode cX7_readyTime 38 = .ok (.aload_n 0, 1) := by decide +kernel
theorem dX7_readyTime_39 : decode cX7_readyTime 39 = .ok (.getfield 11, 3) := by decide +kernel
theorem dX7_readyTime_42 : decode cX7_readyTime 42 = .ok (.iload 4, 2) := by decide +kernel
theorem dX7_readyTime_44 : decode cX7_readyTime 44 = .ok (.aaload, 1) := by decide +kernel
theorem dX7_readyTime_45 : decode cX7_readyTime 45 = .ok (.iconst 0, 1) := by decide +kernel
theorem dX7_readyTime_46 : decode cX7_readyTime 46 = .ok (.iaload, 1) := by decide +kernel
theorem dX7_readyTime_47 : decode cX7_readyTime 47 = .ok (.istore 6, 2) := by decide +kernel
theorem dX7_readyTime_49 : decode cX7_readyTime 49 = .ok (.iload_n 2, 1) := by decide +kernel
theorem dX7_readyTime_50 : decode cX7_readyTime 50 = .ok (.iconst (-1), 1) := by decide +kernel
theorem dX7_readyTime_51 : decode cX7_readyTime 51 = .ok (.if_icmp .ne 7, 3) := by decide +kernel
theorem dX7_readyTime_54 : decode cX7_readyTime 54 = .ok (.iconst 0, 1) := by decide +kernel
theorem dX7_readyTime_55 : decode cX7_readyTime 55 = .ok (.goto 25, 3) := by decide +kernel
theorem dX7_readyTime_58 : decode cX7_readyTime 58 = .ok (.aload_n 3, 1) := by decide +kernel
theorem dX7_readyTime_59 : decode cX7_readyTime 59 = .ok (.iload_n 2, 1) := by decide +kernel
theorem dX7_readyTime_60 : decode cX7_readyTime 60 = .ok (.iaload, 1) := by decide +kernel
theorem dX7_readyTime_61 : decode cX7_readyTime 61 = .ok (.aload_n 0, 1) := by decide +kernel
theorem dX7_readyTime_62 : decode cX7_readyTime 62 = .ok (.getfield 38, 3) := by decide +kernel
theorem dX7_readyTime_65 : decode cX7_readyTime 65 = .ok (.aload_n 0, 1) := by decide +kernel
theorem dX7_readyTime_66 : decode cX7_readyTime 66 = .ok (.getfield 32, 3) := by decide +kernel
theorem dX7_readyTime_69 : decode cX7_readyTime 69 = .ok (.iload_n 2, 1) := by decide +kernel
theorem dX7_readyTime_70 : decode cX7_readyTime 70 = .ok (.iaload, 1) := by decide +kernel
theorem dX7_readyTime_71 : decode cX7_readyTime 71 = .ok (.aaload, 1) := by decide +kernel
theorem dX7_readyTime_72 : decode cX7_readyTime 72 = .ok (.aload_n 0, 1) := by decide +kernel
theorem dX7_readyTime_73 : decode cX7_readyTime 73 = .ok (.getfield 32, 3) := by decide +kernel
theorem dX7_readyTime_76 : decode cX7_readyTime 76 = .ok (.iload_n 1, 1) := by decide +kernel
theorem dX7_readyTime_77 : decode cX7_readyTime 77 = .ok (.iaload, 1) := by decide +kernel
theorem dX7_readyTime_78 : decode cX7_readyTime 78 = .ok (.iaload, 1) := by decide +kernel
theorem dX7_readyTime_79 : decode cX7_readyTime 79 = .ok (.iadd, 1) := by decide +kernel
theorem dX7_readyTime_80 : decode cX7_readyTime 80 = .ok (.istore 7, 2) := by decide +kernel
theorem dX7_readyTime_82 : decode cX7_readyTime 82 = .ok (.iload 7, 2) := by decide +kernel
theorem dX7_readyTime_84 : decode cX7_readyTime 84 = .ok (.iload 6, 2) := by decide +kernel
theorem dX7_readyTime_86 : decode cX7_readyTime 86 = .ok (.if_icmp .le 8, 3) := by decide +kernel
theorem dX7_readyTime_89 : decode cX7_readyTime 89 = .ok (.iload 7, 2) := by decide +kernel
theorem dX7_readyTime_91 : decode cX7_readyTime 91 = .ok (.goto 5, 3) := by decide +kernel
theorem dX7_readyTime_94 : decode cX7_readyTime 94 = .ok (.iload 6, 2) := by decide +kernel
theorem dX7_readyTime_96 : decode cX7_readyTime 96 = .ok (.ireturn, 1) := by decide +kernel
theorem dX7_startFrom_0 : decode cX7_startFrom 0 = .ok (.aload_n 0, 1) := by decide +kernel
theorem dX7_startFrom_1 : decode cX7_startFrom 1 = .ok (.getfield 26, 3) := by decide +kernel
theorem dX7_startFrom_4 : decode cX7_startFrom 4 = .ok (.iload_n 1, 1) := by decide +kernel
theorem dX7_startFrom_5 : decode cX7_startFrom 5 = .ok (.iaload, 1) := by decide +kernel
theorem dX7_startFrom_6 : decode cX7_startFrom 6 = .ok (.istore_n 3, 1) := by decide +kernel
theorem dX7_startFrom_7 : decode cX7_startFrom 7 = .ok (.aload_n 0, 1) := by decide +kernel
theorem dX7_startFrom_8 : decode cX7_startFrom 8 = .ok (.getfield 41, 3) := by decide +kernel
theorem dX7_startFrom_11 : decode cX7_startFrom 11 = .ok (.iload_n 3, 1) := by decide +kernel
theorem dX7_startFrom_12 : decode cX7_startFrom 12 = .ok (.iaload, 1) := by decide +kernel
theorem dX7_startFrom_13 : decode cX7_startFrom 13 = .ok (.istore 4, 2) := by decide +kernel
theorem dX7_startFrom_15 : decode cX7_startFrom 15 = .ok (.iload_n 2, 1) := by decide +kernel
theorem dX7_startFrom_16 : decode cX7_startFrom 16 = .ok (.istore 5, 2) := by decide +kernel
theorem dX7_startFrom_18 : decode cX7_startFrom 18 = .ok (.iconst 0, 1) := by decide +kernel
theorem dX7_startFrom_19 : decode cX7_startFrom 19 = .ok (.istore 6, 2) := by decide +kernel
theorem dX7_startFrom_21 : decode cX7_startFrom 21 = .ok (.iload 6, 2) := by decide +kernel
theorem dX7_startFrom_23 : decode cX7_startFrom 23 = .ok (.iload 4, 2) := by decide +kernel
theorem dX7_startFrom_25 : decode cX7_startFrom 25 = .ok (.if_icmp .ge 88, 3) := by decide +kernel
theorem dX7_startFrom_28 : decode cX7_startFrom 28 = .ok (.iconst 0, 1) := by decide +kernel
theorem dX7_startFrom_29 : decode cX7_startFrom 29 = .ok (.istore 7, 2) := by decide +kernel
theorem dX7_startFrom_31 : decode cX7_startFrom 31 = .ok (.iload 7, 2) := by decide +kernel
theorem dX7_startFrom_33 : decode cX7_startFrom 33 = .ok (.iload 4, 2) := by decide +kernel
theorem dX7_startFrom_35 : decode cX7_startFrom 35 = .ok (.if_icmp .ge 72, 3) := by decide +kernel
theorem dX7_startFrom_38 : decode cX7_startFrom 38 = .ok (.iload 5, 2) := by decide +kernel
theorem dX7_startFrom_40 : decode cX7_startFrom 40 = .ok (.aload_n 0, 1) := by decide +kernel
theorem dX7_startFrom_41 : decode cX7_startFrom 41 = .ok (.getfield 47, 3) := by decide +kernel
theorem dX7_startFrom_44 : decode cX7_startFrom 44 = .ok (.iload_n 3, 1) := by decide +kernel
theorem dX7_startFrom_45 : decode cX7_startFrom 45 = .ok (.aaload, 1) := by decide +kernel
theorem dX7_startFrom_46 : decode cX7_startFrom 46 = .ok (.iload 7, 2) := by decide +kernel
theorem dX7_startFrom_48 : decode cX7_startFrom 48 = .ok (.iaload, 1) := by decide +kernel
theorem dX7_startFrom_49 : decode cX7_startFrom 49 = .ok (.if_icmp .ge 28, 3) := by decide +kernel
theorem dX7_startFrom_52 : decode cX7_startFrom 52 = .ok (.aload_n 0, 1) := by decide +kernel
theorem dX7_startFrom_53 : decode cX7_startFrom 53 = .ok (.getfield 44, 3) := by decide +kernel
theorem dX7_startFrom_56 : decode cX7_startFrom 56 = .ok (.iload_n 3, 1) := by decide +kernel
theorem dX7_startFrom_57 : decode cX7_startFrom 57 = .ok (.aaload, 1) := by decide +kernel
theorem dX7_startFrom_58 : decode cX7_startFrom 58 = .ok (.iload 7, 2) := by decide +kernel
theorem dX7_startFrom_60 : decode cX7_startFrom 60 = .ok (.iaload, 1) := by decide +kernel
theorem dX7_startFrom_61 : decode cX7_startFrom 61 = .ok (.iload 5, 2) := by decide +kernel
theorem dX7_startFrom_63 : decode cX7_startFrom 63 = .ok (.aload_n 0, 1) := by decide +kernel
theorem dX7_startFrom_64 : decode cX7_startFrom 64 = .ok (.getfield 29, 3) := by decide +kernel
theorem dX7_startFrom_67 : decode cX7_startFrom 67 = .ok (.iload_n 1, 1) := by decide +kernel
theorem dX7_startFrom_68 : decode cX7_startFrom 68 = .ok (.iaload, 1) := by decide +kernel
theorem dX7_startFrom_69 : decode cX7_startFrom 69 = .ok (.iadd, 1) := by decide +kernel
theorem dX7_startFrom_70 : decode cX7_startFrom 70 = .ok (.if_icmp .ge 7, 3) := by decide +kernel
theorem dX7_startFrom_73 : decode cX7_startFrom 73 = .ok (.iconst 1, 1) := by decide +kernel
theorem dX7_startFrom_74 : decode cX7_startFrom 74 = .ok (.goto 4, 3) := by decide +kernel
theorem dX7_startFrom_77 : decode cX7_startFrom 77 = .ok (.iconst 0, 1) := by decide +kernel
theorem dX7_startFrom_78 : decode cX7_startFrom 78 = .ok (.istore 8, 2) := by decide +kernel
theorem dX7_startFrom_80 : decode cX7_startFrom 80 = .ok (.iload 8, 2) := by decide +kernel
theorem dX7_startFrom_82 : decode cX7_startFrom 82 = .ok (.ifCond .eq 15, 3) := by decide +kernel
theorem dX7_startFrom_85 : decode cX7_startFrom 85 = .ok (.aload_n 0, 1) := by decide +kernel
theorem dX7_startFrom_86 : decode cX7_startFrom 86 = .ok (.getfield 47, 3) := by decide +kernel
theorem dX7_startFrom_89 : decode cX7_startFrom 89 = .ok (.iload_n 3, 1) := by decide +kernel
theorem dX7_startFrom_90 : decode cX7_startFrom 90 = .ok (.aaload, 1) := by decide +kernel
theorem dX7_startFrom_91 : decode cX7_startFrom 91 = .ok (.iload 7, 2) := by decide +kernel
theorem dX7_startFrom_93 : decode cX7_startFrom 93 = .ok (.iaload, 1) := by decide +kernel
theorem dX7_startFrom_94 : decode cX7_startFrom 94 = .ok (.goto 5, 3) := by decide +kernel
theorem dX7_startFrom_97 : decode cX7_startFrom 97 = .ok (.iload 5, 2) := by decide +kernel
theorem dX7_startFrom_99 : decode cX7_startFrom 99 = .ok (.istore 5, 2) := by decide +kernel
theorem dX7_startFrom_101 : decode cX7_startFrom 101 = .ok (.iinc 7 1, 3) := by decide +kernel
theorem dX7_startFrom_104 : decode cX7_startFrom 104 = .ok (.goto (-73), 3) := by decide +kernel
theorem dX7_startFrom_107 : decode cX7_startFrom 107 = .ok (.iinc 6 1, 3) := by decide +kernel
theorem dX7_startFrom_110 : decode cX7_startFrom 110 = .ok (.goto (-89), 3) := by decide +kernel
theorem dX7_startFrom_113 : decode cX7_startFrom 113 = .ok (.iload 5, 2) := by decide +kernel
theorem dX7_startFrom_115 : decode cX7_startFrom 115 = .ok (.ireturn, 1) := by decide +kernel
theorem dX8_init_0 : decode cX8_init 0 = .ok (.aload_n 0, 1) := by decide +kernel
theorem dX8_init_1 : decode cX8_init 1 = .ok (.invokespecial 3, 3) := by decide +kernel
theorem dX8_init_4 : decode cX8_init 4 = .ok (.aload_n 0, 1) := by decide +kernel
theorem dX8_init_5 : decode cX8_init 5 = .ok (.new 9, 3) := by decide +kernel
theorem dX8_init_8 : decode cX8_init 8 = .ok (.dup, 1) := by decide +kernel
theorem dX8_init_9 : decode cX8_init 9 = .ok (.invokespecial 11, 3) := by decide +kernel
theorem dX8_init_12 : decode cX8_init 12 = .ok (.putfield 12, 3) := by decide +kernel
theorem dX8_init_15 : decode cX8_init 15 = .ok (.aload_n 0, 1) := by decide +kernel
theorem dX8_init_16 : decode cX8_init 16 = .ok (.new 18, 3) := by decide +kernel
theorem dX8_init_19 : decode cX8_init 19 = .ok (.dup, 1) := by decide +kernel
theorem dX8_init_20 : decode cX8_init 20 = .ok (.invokespecial 20, 3) := by decide +kernel
theorem dX8_init_23 : decode cX8_init 23 = .ok (.putfield 21, 3) := by decide +kernel
theorem dX8_init_26 : decode cX8_init 26 = .ok (.aload_n 0, 1) := by decide +kernel
theorem dX8_init_27 : decode cX8_init 27 = .ok (.new 25, 3) := by decide +kernel
theorem dX8_init_30 : decode cX8_init 30 = .ok (.dup, 1) := by decide +kernel
theorem dX8_init_31 : decode cX8_init 31 = .ok (.invokespecial 27, 3) := by decide +kernel
theorem dX8_init_34 : decode cX8_init 34 = .ok (.putfield 28, 3) := by decide +kernel
theorem dX8_init_37 : decode cX8_init 37 = .ok (.aload_n 0, 1) := by decide +kernel
theorem dX8_init_38 : decode cX8_init 38 = .ok (.bipush 20, 2) := by decide +kernel
theorem dX8_init_40 : decode cX8_init 40 = .ok (.bipush 20, 2) := by decide +kernel
theorem dX8_init_42 : decode cX8_init 42 = .ok (.multianewarray 32 2, 4) := by decide +kernel
theorem dX8_init_46 : decode cX8_init 46 = .ok (.putfield 34, 3) := by decide +kernel
theorem dX8_init_49 : decode cX8_init 49 = .ok (.return_, 1) := by decide +kernel
theorem dX8_search_0 : decode cX8_search 0 = .ok (.aload_n 0, 1) := by decide +kernel
theorem dX8_search_1 : decode cX8_search 1 = .ok (.invokevirtual 37, 3) := by decide +kernel
theorem dX8_search_4 : decode cX8_search 4 = .ok (.aload_n 0, 1) := by decide +kernel
theorem dX8_search_5 : decode cX8_search 5 = .ok (.iconst 0, 1) := by decide +kernel
theorem dX8_search_6 : decode cX8_search 6 = .ok (.putfield 40, 3) := by decide +kernel
theorem dX8_search_9 : decode cX8_search 9 = .ok (.aload_n 0, 1) := by decide +kernel
theorem dX8_search_10 : decode cX8_search 10 = .ok (.getfield 12, 3) := by decide +kernel
theorem dX8_search_13 : decode cX8_search 13 = .ok (.aload_n 1, 1) := by decide +kernel
theorem dX8_search_14 : decode cX8_search 14 = .ok (.invokevirtual 44, 3) := by decide +kernel
theorem dX8_search_17 : decode cX8_search 17 = .ok (.pop, 1) := by decide +kernel
theorem dX8_search_18 : decode cX8_search 18 = .ok (.aload_n 0, 1) := by decide +kernel
theorem dX8_search_19 : decode cX8_search 19 = .ok (.aload_n 0, 1) := by decide +kernel
theorem dX8_search_20 : decode cX8_search 20 = .ok (.getfield 12, 3) := by decide +kernel
theorem dX8_search_23 : decode cX8_search 23 = .ok (.getfield 48, 3) := by decide +kernel
theorem dX8_search_26 : decode cX8_search 26 = .ok (.putfield 51, 3) := by decide +kernel
theorem dX8_search_29 : decode cX8_search 29 = .ok (.aload_n 0, 1) := by decide +kernel
theorem dX8_search_30 : decode cX8_search 30 = .ok (.getfield 28, 3) := by decide +kernel
theorem dX8_search_33 : decode cX8_search 33 = .ok (.aload_n 1, 1) := by decide +kernel
theorem dX8_search_34 : decode cX8_search 34 = .ok (.getfield 54, 3) := by decide +kernel
theorem dX8_search_37 : decode cX8_search 37 = .ok (.invokevirtual 59, 3) := by decide +kernel
theorem dX8_search_40 : decode cX8_search 40 = .ok (.iconst 1, 1) := by decide +kernel
theorem dX8_search_41 : decode cX8_search 41 = .ok (.istore 4, 2) := by decide +kernel
theorem dX8_search_43 : decode cX8_search 43 = .ok (.iload 4, 2) := by decide +kernel
theorem dX8_search_45 : decode cX8_search 45 = .ok (.iload_n 2, 1) := by decide +kernel
theorem dX8_search_46 : decode cX8_search 46 = .ok (.if_icmp .gt 57, 3) := by decide +kernel
theorem dX8_search_49 : decode cX8_search 49 = .ok (.aload_n 0, 1) := by decide +kernel
theorem dX8_search_50 : decode cX8_search 50 = .ok (.getfield 12, 3) := by decide +kernel
theorem dX8_search_53 : decode cX8_search 53 = .ok (.aload_n 1, 1) := by decide +kernel
theorem dX8_search_54 : decode cX8_search 54 = .ok (.invokevirtual 44, 3) := by decide +kernel
theorem dX8_search_57 : decode cX8_search 57 = .ok (.pop, 1) := by decide +kernel
theorem dX8_search_58 : decode cX8_search 58 = .ok (.aload_n 0, 1) := by decide +kernel
theorem dX8_search_59 : decode cX8_search 59 = .ok (.getfield 21, 3) := by decide +kernel
theorem dX8_search_62 : decode cX8_search 62 = .ok (.aload_n 1, 1) := by decide +kernel
theorem dX8_search_63 : decode cX8_search 63 = .ok (.aload_n 0, 1) := by decide +kernel
theorem dX8_search_64 : decode cX8_search 64 = .ok (.getfield 12, 3) := by decide +kernel
theorem dX8_search_67 : decode cX8_search 67 = .ok (.invokevirtual 63, 3) := by decide +kernel
theorem dX8_search_70 : decode cX8_search 70 = .ok (.aload_n 0, 1) := by decide +kernel
theorem dX8_search_71 : decode cX8_search 71 = .ok (.aload_n 1, 1) := by decide +kernel
theorem dX8_search_72 : decode cX8_search 72 = .ok (.iload 4, 2) := by decide +kernel
theorem dX8_search_74 : decode cX8_search 74 = .ok (.iload_n 3, 1) := by decide +kernel
theorem dX8_search_75 : decode cX8_search 75 = .ok (.isub, 1) := by decide +kernel
theorem dX8_search_76 : decode cX8_search 76 = .ok (.invokevirtual 67, 3) := by decide +kernel
theorem dX8_search_79 : decode cX8_search 79 = .ok (.aload_n 0, 1) := by decide +kernel
theorem dX8_search_80 : decode cX8_search 80 = .ok (.getfield 71, 3) := by decide +kernel
theorem dX8_search_83 : decode cX8_search 83 = .ok (.iconst (-1), 1) := by decide +kernel
theorem dX8_search_84 : decode cX8_search 84 = .ok (.if_icmp .ne 6, 3) := by decide +kernel
theorem dX8_search_87 : decode cX8_search 87 = .ok (.goto 16, 3) := by decide +kernel
theorem dX8_search_90 : decode cX8_search 90 = .ok (.aload_n 0, 1) := by decide +kernel
theorem dX8_search_91 : decode cX8_search 91 = .ok (.aload_n 1, 1) := by decide +kernel
theorem dX8_search_92 : decode cX8_search 92 = .ok (.iload 4, 2) := by decide +kernel
theorem dX8_search_94 : decode cX8_search 94 = .ok (.invokevirtual 74, 3) := by decide +kernel
theorem dX8_search_97 : decode cX8_search 97 = .ok (.iinc 4 1, 3) := by decide +kernel
theorem dX8_search_100 : decode cX8_search 100 = .ok (.goto (-57), 3) := by decide +kernel
theorem dX8_search_103 : decode cX8_search 103 = .ok (.aload_n 1, 1) := by decide +kernel
theorem dX8_search_104 : decode cX8_search 104 = .ok (.getfield 54, 3) := by decide +kernel
theorem dX8_search_107 : decode cX8_search 107 = .ok (.aload_n 0, 1) := by decide +kernel
theorem dX8_search_108 : decode cX8_search 108 = .ok (.getfield 28, 3) := by decide +kernel
theorem dX8_search_111 : decode cX8_search 111 = .ok (.invokevirtual 59, 3) := by decide +kernel
theorem dX8_search_114 : decode cX8_search 114 = .ok (.aload_n 0, 1) := by decide +kernel
theorem dX8_search_115 : decode cX8_search 115 = .ok (.getfield 51, 3) := by decide +kernel
theorem dX8_search_118 : decode cX8_search 118 = .ok (.ireturn, 1) := by decide +kernel
theorem dX8_forgetSwaps_0 : decode cX8_forgetSwaps 0 = .ok (.iconst 0, 1) := by decide +kernel
theorem dX8_forgetSwaps_1 : decode cX8_forgetSwaps 1 = .ok (.istore_n 1, 1) := by decide +kernel
theorem dX8_forgetSwaps_2 : decode cX8_forgetSwaps 2 = .ok (.iload_n 1, 1) := by decide +kernel
theorem dX8_forgetSwaps_3 : decode cX8_forgetSwaps 3 = .ok (.bipush 20, 2) := by decide +kernel
theorem dX8_forgetSwaps_5 : decode cX8_forgetSwaps 5 = .ok (.if_icmp .ge 32, 3) := by decide +kernel
theorem dX8_forgetSwaps_8 : decode cX8_forgetSwaps 8 = .ok (.iconst 0, 1) := by decide +kernel
theorem dX8_forgetSwaps_9 : decode cX8_forgetSwaps 9 = .ok (.istore_n 2, 1) := by decide +kernel
theorem dX8_forgetSwaps_10 : decode cX8_forgetSwaps 10 = .ok (.iload_n 2, 1) := by decide +kernel
theorem dX8_forgetSwaps_11 : decode cX8_forgetSwaps 11 = .ok (.bipush 20, 2) := by decide +kernel
theorem dX8_forgetSwaps_13 : decode cX8_forgetSwaps 13 = .ok (.if_icmp .ge 18, 3) := by decide +kernel
theorem dX8_forgetSwaps_16 : decode cX8_forgetSwaps 16 = .ok (.aload_n 0, 1) := by decide +kernel
theorem dX8_forgetSwaps_17 : decode cX8_forgetSwaps 17 = .ok (.getfield 34, 3) := by decide +kernel
theorem dX8_forgetSwaps_20 : decode cX8_forgetSwaps 20 = .ok (.iload_n 1, 1) := by decide +kernel
theorem dX8_forgetSwaps_21 : decode cX8_forgetSwaps 21 = .ok (.aaload, 1) := by decide +kernel
theorem dX8_forgetSwaps_22 : decode cX8_forgetSwaps 22 = .ok (.iload_n 2, 1) := by decide +kernel
theorem dX8_forgetSwaps_23 : decode cX8_forgetSwaps 23 = .ok (.iconst 0, 1) := by decide +kernel
theorem dX8_forgetSwaps_24 : decode cX8_forgetSwaps 24 = .ok (.iastore, 1) := by decide +kernel
theorem dX8_forgetSwaps_25 : decode cX8_forgetSwaps 25 = .ok (.iinc 2 1, 3) := by decide +kernel
theorem dX8_forgetSwaps_28 : decode cX8_forgetSwaps 28 = .ok (.goto (-18), 3) := by decide +kernel
theorem dX8_forgetSwaps_31 : decode cX8_forgetSwaps 31 = .ok (.iinc 1 1, 3) := by decide +kernel
theorem dX8_forgetSwaps_34 : decode cX8_forgetSwaps 34 = .ok (.goto (-32), 3) := by decide +kernel
theorem dX8_forgetSwaps_37 : decode cX8_forgetSwaps 37 = .ok (.return_, 1) := by decide +kernel
theorem dX8_choose_0 : decode cX8_choose 0 = .ok (.aload_n 0, 1) := by decide +kernel
theorem dX8_choose_1 : decode cX8_choose 1 = .ok (.iconst (-1), 1) := by decide +kernel
theorem dX8_choose_2 : decode cX8_choose 2 = .ok (.putfield 71, 3) := by decide +kernel
theorem dX8_choose_5 : decode cX8_choose 5 = .ok (.iconst 0, 1) := by decide +kernel
theorem dX8_choose_6 : decode cX8_choose 6 = .ok (.istore_n 3, 1) := by decide +kernel
theorem dX8_choose_7 : decode cX8_choose 7 = .ok (.iload_n 3, 1) := by decide +kernel
theorem dX8_choose_8 : decode cX8_choose 8 = .ok (.iconst 4, 1) := by decide +kernel
theorem dX8_choose_9 : decode cX8_choose 9 = .ok (.if_icmp .ge 43, 3) := by decide +kernel
theorem dX8_choose_12 : decode cX8_choose 12 = .ok (.iconst 0, 1) := by decide +kernel
theorem dX8_choose_13 : decode cX8_choose 13 = .ok (.istore 4, 2) := by decide +kernel
theorem dX8_choose_15 : decode cX8_choose 15 = .ok (.iload 4, 2) := by decide +kernel
theorem dX8_choose_17 : decode cX8_choose 17 = .ok (.aload_n 1, 1) := by decide +kernel
theorem dX8_choose_18 : decode cX8_choose 18 = .ok (.getfield 54, 3) := by decide +kernel
theorem dX8_choose_21 : decode cX8_choose 21 = .ok (.getfield 77, 3) := by decide +kernel
theorem dX8_choose_24 : decode cX8_choose 24 = .ok (.iload_n 3, 1) := by decide +kernel
theorem dX8_choose_25 : decode cX8_choose 25 = .ok (.iaload, 1) := by decide +kernel
theorem dX8_choose_26 : decode cX8_choose 26 = .ok (.iconst 1, 1) := by decide +kernel
theorem dX8_choose_27 : decode cX8_choose 27 = .ok (.isub, 1) := by decide +kernel
theorem dX8_choose_28 : decode cX8_choose 28 = .ok (.if_icmp .ge 18, 3) := by decide +kernel
theorem dX8_choose_31 : decode cX8_choose 31 = .ok (.aload_n 0, 1) := by decide +kernel
theorem dX8_choose_32 : decode cX8_choose 32 = .ok (.aload_n 1, 1) := by decide +kernel
theorem dX8_choose_33 : decode cX8_choose 33 = .ok (.iload_n 3, 1) := by decide +kernel
theorem dX8_choose_34 : decode cX8_choose 34 = .ok (.iload 4, 2) := by decide +kernel
theorem dX8_choose_36 : decode cX8_choose 36 = .ok (.iload_n 2, 1) := by decide +kernel
theorem dX8_choose_37 : decode cX8_choose 37 = .ok (.invokevirtual 81, 3) := by decide +kernel
theorem dX8_choose_40 : decode cX8_choose 40 = .ok (.iinc 4 1, 3) := by decide +kernel
theorem dX8_choose_43 : decode cX8_choose 43 = .ok (.goto (-28), 3) := by decide +kernel
theorem dX8_choose_46 : decode cX8_choose 46 = .ok (.iinc 3 1, 3) := by decide +kernel
theorem dX8_choose_49 : decode cX8_choose 49 = .ok (.goto (-42), 3) := by decide +kernel
theorem dX8_choose_52 : decode cX8_choose 52 = .ok (.return_, 1) := by decide +kernel
theorem dX8_consider_0 : decode cX8_consider 0 = .ok (.aload_n 1, 1) := by decide +kernel
theorem dX8_consider_1 : decode cX8_consider 1 = .ok (.getfield 54, 3) := by decide +kernel
theorem dX8_consider_4 : decode cX8_consider 4 = .ok (.getfield 85, 3) := by decide +kernel
theorem dX8_consider_7 : decode cX8_consider 7 = .ok (.iload_n 2, 1) := by decide +kernel
theorem dX8_consider_8 : decode cX8_consider 8 = .ok (.aaload, 1) := by decide +kernel
theorem dX8_consider_9 : decode cX8_consider 9 = .ok (.iload_n 3, 1) := by decide +kernel
theorem dX8_consider_10 : decode cX8_consider 10 = .ok (.iaload, 1) := by decide +kernel
theorem dX8_consider_11 : decode cX8_consider 11 = .ok (.istore 5, 2) := by decide +kernel
theorem dX8_consider_13 : decode cX8_consider 13 = .ok (.aload_n 1, 1) := by decide +kernel
theorem dX8_consider_14 : decode cX8_consider 14 = .ok (.getfield 54, 3) := by decide +kernel
theorem dX8_consider_17 : decode cX8_consider 17 = .ok (.getfield 85, 3) := by decide +kernel
theorem dX8_consider_20 : decode cX8_consider 20 = .ok (.iload_n 2, 1) := by decide +kernel
theorem dX8_consider_21 : decode cX8_consider 21 = .ok (.aaload, 1) := by decide +kernel
theorem dX8_consider_22 : decode cX8_consider 22 = .ok (.iload_n 3, 1) := by decide +kernel
theorem dX8_consider_23 : decode cX8_consider 23 = .ok (.iconst 1, 1) := by decide +kernel
theorem dX8_consider_24 : decode cX8_consider 24 = .ok (.iadd, 1) := by decide +kernel
theorem dX8_consider_25 : decode cX8_consider 25 = .ok (.iaload, 1) := by decide +kernel
theorem dX8_consider_26 : decode cX8_consider 26 = .ok (.istore 6, 2) := by decide +kernel
theorem dX8_consider_28 : decode cX8_consider 28 = .ok (.aload_n 0, 1) := by decide +kernel
theorem dX8_consider_29 : decode cX8_consider 29 = .ok (.getfield 21, 3) := by decide +kernel
theorem dX8_consider_32 : decode cX8_consider 32 = .ok (.iload 6, 2) := by decide +kernel
theorem dX8_consider_34 : decode cX8_consider 34 = .ok (.iload 5, 2) := by decide +kernel
theorem dX8_consider_36 : decode cX8_consider 36 = .ok (.invokevirtual 88, 3) := by decide +kernel
theorem dX8_consider_39 : decode cX8_consider 39 = .ok (.ifCond .ne 4, 3) := by decide +kernel
theorem dX8_consider_42 : decode cX8_consider 42 = .ok (.return_, 1) := by decide +kernel
theorem dX8_consider_43 : decode cX8_consider 43 = .ok (.aload_n 1, 1) := by decide +kernel
theorem dX8_consider_44 : decode cX8_consider 44 = .ok (.getfield 54, 3) := by decide +kernel
theorem dX8_consider_47 : decode cX8_consider 47 = .ok (.iload_n 2, 1) := by decide +kernel
theorem dX8_consider_48 : decode cX8_consider 48 = .ok (.iload_n 3, 1) := by decide +kernel
theorem dX8_consider_49 : decode cX8_consider 49 = .ok (.invokevirtual 92, 3) := by decide +kernel
theorem dX8_consider_52 : decode cX8_consider 52 = .ok (.aload_n 0, 1) := by decide +kernel
theorem dX8_consider_53 : decode cX8_consider 53 = .ok (.getfield 12, 3) := by decide +kernel
theorem dX8_consider_56 : decode cX8_consider 56 = .ok (.aload_n 1, 1) := by decide +kernel
theorem dX8_consider_57 : decode cX8_consider 57 = .ok (.invokevirtual 44, 3) := by decide +kernel
theorem dX8_consider_60 : decode cX8_consider 60 = .ok (.istore 7, 2) := by decide +kernel
theorem dX8_consider_62 : decode cX8_consider 62 = .ok (.aload_n 1, 1) := by decide +kernel
theorem dX8_consider_63 : decode cX8_consider 63 = .ok (.getfield 54, 3) := by decide +kernel
theorem dX8_consider_66 : decode cX8_consider 66 = .ok (.iload_n 2, 1) := by decide +kernel
theorem dX8_consider_67 : decode cX8_consider 67 = .ok (.iload_n 3, 1) := by decide +kernel
theorem dX8_consider_68 : decode cX8_consider 68 = .ok (.invokevirtual 92, 3) := by decide +kernel
theorem dX8_consider_71 : decode cX8_consider 71 = .ok (.aload_n 0, 1) := by decide +kernel
theorem dX8_consider_72 : decode cX8_consider 72 = .ok (.getfield 34, 3) := by decide +kernel
theorem dX8_consider_75 : decode cX8_consider 75 = .ok (.iload 5, 2) := by decide +kernel
theorem dX8_consider_77 : decode cX8_consider 77 = .ok (.aaload, 1) := by decide +kernel
theorem dX8_consider_78 : decode cX8_consider 78 = .ok (.iload 6, 2) := by decide +kernel
theorem dX8_consider_80 : decode cX8_consider 80 = .ok (.iaload, 1) := by decide +kernel
theorem dX8_consider_81 : decode cX8_consider 81 = .ok (.istore 8, 2) := by decide +kernel
theorem dX8_consider_83 : decode cX8_consider 83 = .ok (.iload 8, 2) := by decide +kernel
theorem dX8_consider_85 : decode cX8_consider 85 = .ok (.ifCond .le 28, 3) := by decide +kernel
theorem dX8_consider_88 : decode cX8_consider 88 = .ok (.iload 8, 2) := by decide +kernel
theorem dX8_consider_90 : decode cX8_consider 90 = .ok (.iload 4, 2) := by decide +kernel
theorem dX8_consider_92 : decode cX8_consider 92 = .ok (.if_icmp .lt 21, 3) := by decide +kernel
theorem dX8_consider_95 : decode cX8_consider 95 = .ok (.aload_n 0, 1) := by decide +kernel
theorem dX8_consider_96 : decode cX8_consider 96 = .ok (.getfield 12, 3) := by decide +kernel
theorem dX8_consider_99 : decode cX8_consider 99 = .ok (.getfield 48, 3) := by decide +kernel
theorem dX8_consider_102 : decode cX8_consider 102 = .ok (.aload_n 0, 1) := by decide +kernel
theorem dX8_consider_103 : decode cX8_consider 103 = .ok (.getfield 51, 3) := by decide +kernel
theorem dX8_consider_106 : decode cX8_consider 106 = .ok (.if_icmp .lt 7, 3) := by decide +kernel
theorem dX8_consider_109 : decode cX8_consider 109 = .ok (.iconst 1, 1) := by decide +kernel
theorem dX8_consider_110 : decode cX8_consider 110 = .ok (.goto 4, 3) := by decide +kernel
theorem dX8_consider_113 : decode cX8_consider 113 = .ok (.iconst 0, 1) := by decide +kernel
theorem dX8_consider_114 : decode cX8_consider 114 = .ok (.istore 9, 2) := by decide +kernel
theorem dX8_consider_116 : decode cX8_consider 116 = .ok (.iload 7, 2) := by decide +kernel
theorem dX8_consider_118 : decode cX8_consider 118 = .ok (.ifCond .eq 51, 3) := by decide +kernel
theorem dX8_consider_121 : decode cX8_consider 121 = .ok (.iload 9, 2) := by decide +kernel
theorem dX8_consider_123 : decode cX8_consider 123 = .ok (.ifCond .ne 46, 3) := by decide +kernel
theorem dX8_consider_126 : decode cX8_consider 126 = .ok (.aload_n 0, 1) := by decide +kernel
theorem dX8_consider_127 : decode cX8_consider 127 = .ok (.getfield 71, 3) := by decide +kernel
theorem dX8_consider_130 : decode cX8_consider 130 = .ok (.iconst (-1), 1) := by decide +kernel
theorem dX8_consider_131 : decode cX8_consider 131 = .ok (.if_icmp .eq 17, 3) := by decide +kernel
theorem dX8_consider_134 : decode cX8_consider 134 = .ok (.aload_n 0, 1) := by decide +kernel
theorem dX8_consider_135 : decode cX8_consider 135 = .ok (.getfield 12, 3) := by decide +kernel
theorem dX8_consider_138 : decode cX8_consider 138 = .ok (.getfield 48, 3) := by decide +kernel
theorem dX8_consider_141 : decode cX8_consider 141 = .ok (.aload_n 0, 1) := by decide +kernel
theorem dX8_consider_142 : decode cX8_consider 142 = .ok (.getfield 96, 3) := by decide +kernel
theorem dX8_consider_145 : decode cX8_consider 145 = .ok (.if_icmp .ge 24, 3) := by decide +kernel
theorem dX8_consider_148 : decode cX8_consider 148 = .ok (.aload_n 0, 1) := by decide +kernel
theorem dX8_consider_149 : decode cX8_consider 149 = .ok (.iload_n 2, 1) := by decide +kernel
theorem dX8_consider_150 : decode cX8_consider 150 = .ok (.putfield 71, 3) := by decide +kernel
theorem dX8_consider_153 : decode cX8_consider 153 = .ok (.aload_n 0, 1) := by decide +kernel
theorem dX8_consider_154 : decode cX8_consider 154 = .ok (.iload_n 3, 1) := by decide +kernel
theorem dX8_consider_155 : decode cX8_consider 155 = .ok (.putfield 99, 3) := by decide +kernel
theorem dX8_consider_158 : decode cX8_consider 158 = .ok (.aload_n 0, 1) := by decide +kernel
theorem dX8_consider_159 : decode cX8_consider 159 = .ok (.aload_n 0, 1) := by decide +kernel
theorem dX8_consider_160 : decode cX8_consider 160 = .ok (.getfield 12, 3) := by decide +kernel
theorem dX8_consider_163 : decode cX8_consider 163 = .ok (.getfield 48, 3) := by decide +kernel
theorem dX8_consider_166 : decode cX8_consider 166 = .ok (.putfield 96, 3) := by decide +kernel
theorem dX8_consider_169 : decode cX8_consider 169 = .ok (.return_, 1) := by decide +kernel
theorem dX8_makeChosen_0 : decode cX8_makeChosen 0 = .ok (.aload_n 1, 1) := by decide +kernel
theorem dX8_makeChosen_1 : decode cX8_makeChosen 1 = .ok (.getfield 54, 3) := by decide +kernel
theorem dX8_makeChosen_4 : decode cX8_makeChosen 4 = .ok (.aload_n 0, 1) := by decide +kernel
theorem dX8_makeChosen_5 : decode cX8_makeChosen 5 = .ok (.getfield 71, 3) := by decide +kernel
theorem dX8_makeChosen_8 : decode cX8_makeChosen 8 = .ok (.aload_n 0, 1) := by decide +kernel
theorem dX8_makeChosen_9 : decode cX8_makeChosen 9 = .ok (.getfield 99, 3) := by decide +kernel
theorem dX8_makeChosen_12 : decode cX8_makeChosen 12 = .ok (.invokevirtual 92, 3) := by decide +kernel
theorem dX8_makeChosen_15 : decode cX8_makeChosen 15 = .ok (.aload_n 1, 1) := by decide +kernel
theorem dX8_makeChosen_16 : decode cX8_makeChosen 16 = .ok (.getfield 54, 3) := by decide +kernel
theorem dX8_makeChosen_19 : decode cX8_makeChosen 19 = .ok (.getfield 85, 3) := by decide +kernel
theorem dX8_makeChosen_22 : decode cX8_makeChosen 22 = .ok (.aload_n 0, 1) := by decide +kernel
theorem dX8_makeChosen_23 : decode cX8_makeChosen 23 = .ok (.getfield 71, 3) := by decide +kernel
theorem dX8_makeChosen_26 : decode cX8_makeChosen 26 = .ok (.aaload, 1) := by decide +kernel
theorem dX8_makeChosen_27 : decode cX8_makeChosen 27 = .ok (.astore_n 3, 1) := by decide +kernel
theorem dX8_makeChosen_28 : decode cX8_makeChosen 28 = .ok (.aload_n 0, 1) := by decide +kernel
theorem dX8_makeChosen_29 : decode cX8_makeChosen 29 = .ok (.getfield 34, 3) := by decide +kernel
theorem dX8_makeChosen_32 : decode cX8_makeChosen 32 = .ok (.aload_n 3, 1) := by decide +kernel
theorem dX8_makeChosen_33 : decode cX8_makeChosen 33 = .ok (.aload_n 0, 1) := by decide +kernel
theorem dX8_makeChosen_34 : decode cX8_makeChosen 34 = .ok (.getfield 99, 3) := by decide +kernel
theorem dX8_makeChosen_37 : decode cX8_makeChosen 37 = .ok (.iaload, 1) := by decide +kernel
theorem dX8_makeChosen_38 : decode cX8_makeChosen 38 = .ok (.aaload, 1) := by decide +kernel
theorem dX8_makeChosen_39 : decode cX8_makeChosen 39 = .ok (.aload_n 3, 1) := by decide +kernel
theorem dX8_makeChosen_40 : decode cX8_makeChosen 40 = .ok (.aload_n 0, 1) := by decide +kernel
theorem dX8_makeChosen_41 : decode cX8_makeChosen 41 = .ok (.getfield 99, 3) := by decide +kernel
theorem dX8_makeChosen_44 : decode cX8_makeChosen 44 = .ok (.iconst 1, 1) := by decide +kernel
theorem dX8_makeChosen_45 : decode cX8_makeChosen 45 = .ok (.iadd, 1) := by decide +kernel
theorem dX8_makeChosen_46 : decode cX8_makeChosen 46 = .ok (.iaload, 1) := by decide +kernel
theorem dX8_makeChosen_47 : decode cX8_makeChosen 47 = .ok (.iload_n 2, 1) := by decide +kernel
theorem dX8_makeChosen_48 : decode cX8_makeChosen 48 = .ok (.iastore, 1) := by decide +kernel
theorem dX8_makeChosen_49 : decode cX8_makeChosen 49 = .ok (.aload_n 0, 1) := by decide +kernel
theorem dX8_makeChosen_50 : decode cX8_makeChosen 50 = .ok (.iload_n 2, 1) := by decide +kernel
theorem dX8_makeChosen_51 : decode cX8_makeChosen 51 = .ok (.putfield 40, 3) := by decide +kernel
theorem dX8_makeChosen_54 : decode cX8_makeChosen 54 = .ok (.aload_n 0, 1) := by decide +kernel
theorem dX8_makeChosen_55 : decode cX8_makeChosen 55 = .ok (.getfield 96, 3) := by decide +kernel
theorem dX8_makeChosen_58 : decode cX8_makeChosen 58 = .ok (.aload_n 0, 1) := by decide +kernel
theorem dX8_makeChosen_59 : decode cX8_makeChosen 59 = .ok (.getfield 51, 3) := by decide +kernel
theorem dX8_makeChosen_62 : decode cX8_makeChosen 62 = .ok (.if_icmp .ge 22, 3) := by decide +kernel
theorem dX8_makeChosen_65 : decode cX8_makeChosen 65 = .ok (.aload_n 0, 1) := by decide +kernel
theorem dX8_makeChosen_66 : decode cX8_makeChosen 66 = .ok (.aload_n 0, 1) := by decide +kernel
theorem dX8_makeChosen_67 : decode cX8_makeChosen 67 = .ok (.getfield 96, 3) := by decide +kernel
theorem dX8_makeChosen_70 : decode cX8_makeChosen 70 = .ok (.putfield 51, 3) := by decide +kernel
theorem dX8_makeChosen_73 : decode cX8_makeChosen 73 = .ok (.aload_n 0, 1) := by decide +kernel
theorem dX8_makeChosen_74 : decode cX8_makeChosen 74 = .ok (.getfield 28, 3) := by decide +kernel
theorem dX8_makeChosen_77 : decode cX8_makeChosen 77 = .ok (.aload_n 1, 1) := by decide +kernel
theorem dX8_makeChosen_78 : decode cX8_makeChosen 78 = .ok (.getfield 54, 3) := by decide +kernel
theorem dX8_makeChosen_81 : decode cX8_makeChosen 81 = .ok (.invokevirtual 59, 3) := by decide +kernel
theorem dX8_makeChosen_84 : decode cX8_makeChosen 84 = .ok (.return_, 1) := by decide +kernel
