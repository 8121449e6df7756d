theorem dX9_init_0 : decode cX9_init 0 = .ok (.aload_n 0, 1) := by decide +kernel
theorem dX9_init_1 : decode cX9_init 1 = .ok (.invokespecial 3, 3) := by decide +kernel
theorem dX9_init_4 : decode cX9_init 4 = .ok (.aload_n 0, 1) := by decide +kernel
theorem dX9_init_5 : decode cX9_init 5 = .ok (.bipush 80, 2) := by decide +kernel
theorem dX9_init_7 : decode cX9_init 7 = .ok (.newarray .char, 2) := by decide +kernel
theorem dX9_init_9 : decode cX9_init 9 = .ok (.putfield 9, 3) := by decide +kernel
theorem dX9_init_12 : decode cX9_init 12 = .ok (.aload_n 0, 1) := by decide +kernel
theorem dX9_init_13 : decode cX9_init 13 = .ok (.bipush 80, 2) := by decide +kernel
theorem dX9_init_15 : decode cX9_init 15 = .ok (.newarray .int, 2) := by decide +kernel
theorem dX9_init_17 : decode cX9_init 17 = .ok (.putfield 15, 3) := by decide +kernel
theorem dX9_init_20 : decode cX9_init 20 = .ok (.aload_n 0, 1) := by decide +kernel
theorem dX9_init_21 : decode cX9_init 21 = .ok (.bipush 80, 2) := by decide +kernel
theorem dX9_init_23 : decode cX9_init 23 = .ok (.newarray .int, 2) := by decide +kernel
theorem dX9_init_25 : decode cX9_init 25 = .ok (.putfield 19, 3) := by decide +kernel
theorem dX9_init_28 : decode cX9_init 28 = .ok (.return_, 1) := by decide +kernel
theorem dX9_add_0 : decode cX9_add 0 = .ok (.aload_n 0, 1) := by decide +kernel
theorem dX9_add_1 : decode cX9_add 1 = .ok (.getfield 9, 3) := by decide +kernel
theorem dX9_add_4 : decode cX9_add 4 = .ok (.aload_n 0, 1) := by decide +kernel
theorem dX9_add_5 : decode cX9_add 5 = .ok (.getfield 22, 3) := by decide +kernel
theorem dX9_add_8 : decode cX9_add 8 = .ok (.iload_n 1, 1) := by decide +kernel
theorem dX9_add_9 : decode cX9_add 9 = .ok (.castore, 1) := by decide +kernel
theorem dX9_add_10 : decode cX9_add 10 = .ok (.aload_n 0, 1) := by decide +kernel
theorem dX9_add_11 : decode cX9_add 11 = .ok (.dup, 1) := by decide +kernel
theorem dX9_add_12 : decode cX9_add 12 = .ok (.getfield 22, 3) := by decide +kernel
theorem dX9_add_15 : decode cX9_add 15 = .ok (.iconst 1, 1) := by decide +kernel
theorem dX9_add_16 : decode cX9_add 16 = .ok (.iadd, 1) := by decide +kernel
theorem dX9_add_17 : decode cX9_add 17 = .ok (.putfield 22, 3) := by decide +kernel
theorem dX9_add_20 : decode cX9_add 20 = .ok (.return_, 1) := by decide +kernel
theorem dX9_findFault_0 : decode cX9_findFault 0 = .ok (.aload_n 0, 1) := by decide +kernel
theorem dX9_findFault_1 : decode cX9_findFault 1 = .ok (.iconst 0, 1) := by decide +kernel
theorem dX9_findFault_2 : decode cX9_findFault 2 = .ok (.putfield 26, 3) := by decide +kernel
theorem dX9_findFault_5 : decode cX9_findFault 5 = .ok (.aload_n 0, 1) := by decide +kernel
theorem dX9_findFault_6 : decode cX9_findFault 6 = .ok (.iconst 0, 1) := by decide +kernel
theorem dX9_findFault_7 : decode cX9_findFault 7 = .ok (.invokevirtual 29, 3) := by decide +kernel
theorem dX9_findFault_10 : decode cX9_findFault 10 = .ok (.iconst 0, 1) := by decide +kernel
theorem dX9_findFault_11 : decode cX9_findFault 11 = .ok (.istore_n 1, 1) := by decide +kernel
theorem dX9_findFault_12 : decode cX9_findFault 12 = .ok (.iload_n 1, 1) := by decide +kernel
theorem dX9_findFault_13 : decode cX9_findFault 13 = .ok (.aload_n 0, 1) := by decide +kernel
theorem dX9_findFault_14 : decode cX9_findFault 14 = .ok (.getfield 22, 3) := by decide +kernel
theorem dX9_findFault_17 : decode cX9_findFault 17 = .ok (.if_icmp .ge 93, 3) := by decide +kernel
theorem dX9_findFault_20 : decode cX9_findFault 20 = .ok (.aload_n 0, 1) := by decide +kernel
theorem dX9_findFault_21 : decode cX9_findFault 21 = .ok (.getfield 9, 3) := by decide +kernel
theorem dX9_findFault_24 : decode cX9_findFault 24 = .ok (.iload_n 1, 1) := by decide +kernel
theorem dX9_findFault_25 : decode cX9_findFault 25 = .ok (.caload, 1) := by decide +kernel
theorem dX9_findFault_26 : decode cX9_findFault 26 = .ok (.istore_n 2, 1) := by decide +kernel
theorem dX9_findFault_27 : decode cX9_findFault 27 = .ok (.iload_n 2, 1) := by decide +kernel
theorem dX9_findFault_28 : decode cX9_findFault 28 = .ok (.bipush 48, 2) := by decide +kernel
theorem dX9_findFault_30 : decode cX9_findFault 30 = .ok (.if_icmp .lt 45, 3) := by decide +kernel
theorem dX9_findFault_33 : decode cX9_findFault 33 = .ok (.iload_n 2, 1) := by decide +kernel
theorem dX9_findFault_34 : decode cX9_findFault 34 = .ok (.bipush 57, 2) := by decide +kernel
theorem dX9_findFault_36 : decode cX9_findFault 36 = .ok (.if_icmp .gt 39, 3) := by decide +kernel
theorem dX9_findFault_39 : decode cX9_findFault 39 = .ok (.aload_n 0, 1) := by decide +kernel
theorem dX9_findFault_40 : decode cX9_findFault 40 = .ok (.invokevirtual 33, 3) := by decide +kernel
theorem dX9_findFault_43 : decode cX9_findFault 43 = .ok (.ifCond .eq 32, 3) := by decide +kernel
theorem dX9_findFault_46 : decode cX9_findFault 46 = .ok (.aload_n 0, 1) := by decide +kernel
theorem dX9_findFault_47 : decode cX9_findFault 47 = .ok (.aload_n 0, 1) := by decide +kernel
theorem dX9_findFault_48 : decode cX9_findFault 48 = .ok (.getfield 37, 3) := by decide +kernel
theorem dX9_findFault_51 : decode cX9_findFault 51 = .ok (.bipush 10, 2) := by decide +kernel
theorem dX9_findFault_53 : decode cX9_findFault 53 = .ok (.imul, 1) := by decide +kernel
theorem dX9_findFault_54 : decode cX9_findFault 54 = .ok (.iload_n 2, 1) := by decide +kernel
theorem dX9_findFault_55 : decode cX9_findFault 55 = .ok (.bipush 48, 2) := by decide +kernel
theorem dX9_findFault_57 : decode cX9_findFault 57 = .ok (.isub, 1) := by decide +kernel
theorem dX9_findFault_58 : decode cX9_findFault 58 = .ok (.iadd, 1) := by decide +kernel
theorem dX9_findFault_59 : decode cX9_findFault 59 = .ok (.putfield 37, 3) := by decide +kernel
theorem dX9_findFault_62 : decode cX9_findFault 62 = .ok (.aload_n 0, 1) := by decide +kernel
theorem dX9_findFault_63 : decode cX9_findFault 63 = .ok (.dup, 1) := by decide +kernel
theorem dX9_findFault_64 : decode cX9_findFault 64 = .ok (.getfield 40, 3) := by decide +kernel
theorem dX9_findFault_67 : decode cX9_findFault 67 = .ok (.iconst 1, 1) := by decide +kernel
theorem dX9_findFault_68 : decode cX9_findFault 68 = .ok (.iadd, 1) := by decide +kernel
theorem dX9_findFault_69 : decode cX9_findFault 69 = .ok (.putfield 40, 3) := by decide +kernel
theorem dX9_findFault_72 : decode cX9_findFault 72 = .ok (.goto 32, 3) := by decide +kernel
theorem dX9_findFault_75 : decode cX9_findFault 75 = .ok (.aload_n 0, 1) := by decide +kernel
theorem dX9_findFault_76 : decode cX9_findFault 76 = .ok (.iload_n 2, 1) := by decide +kernel
theorem dX9_findFault_77 : decode cX9_findFault 77 = .ok (.invokevirtual 43, 3) := by decide +kernel
theorem dX9_findFault_80 : decode cX9_findFault 80 = .ok (.istore_n 3, 1) := by decide +kernel
theorem dX9_findFault_81 : decode cX9_findFault 81 = .ok (.aload_n 0, 1) := by decide +kernel
theorem dX9_findFault_82 : decode cX9_findFault 82 = .ok (.getfield 40, 3) := by decide +kernel
theorem dX9_findFault_85 : decode cX9_findFault 85 = .ok (.ifCond .eq 8, 3) := by decide +kernel
theorem dX9_findFault_88 : decode cX9_findFault 88 = .ok (.iload_n 3, 1) := by decide +kernel
theorem dX9_findFault_89 : decode cX9_findFault 89 = .ok (.iconst (-1), 1) := by decide +kernel
theorem dX9_findFault_90 : decode cX9_findFault 90 = .ok (.if_icmp .ne 5, 3) := by decide +kernel
theorem dX9_findFault_93 : decode cX9_findFault 93 = .ok (.iload_n 1, 1) := by decide +kernel
theorem dX9_findFault_94 : decode cX9_findFault 94 = .ok (.ireturn, 1) := by decide +kernel
theorem dX9_findFault_95 : decode cX9_findFault 95 = .ok (.aload_n 0, 1) := by decide +kernel
theorem dX9_findFault_96 : decode cX9_findFault 96 = .ok (.invokevirtual 47, 3) := by decide +kernel
theorem dX9_findFault_99 : decode cX9_findFault 99 = .ok (.aload_n 0, 1) := by decide +kernel
theorem dX9_findFault_100 : decode cX9_findFault 100 = .ok (.iload_n 3, 1) := by decide +kernel
theorem dX9_findFault_101 : decode cX9_findFault 101 = .ok (.invokevirtual 29, 3) := by decide +kernel
theorem dX9_findFault_104 : decode cX9_findFault 104 = .ok (.iinc 1 1, 3) := by decide +kernel
theorem dX9_findFault_107 : decode cX9_findFault 107 = .ok (.goto (-95), 3) := by decide +kernel
theorem dX9_findFault_110 : decode cX9_findFault 110 = .ok (.aload_n 0, 1) := by decide +kernel
theorem dX9_findFault_111 : decode cX9_findFault 111 = .ok (.getfield 50, 3) := by decide +kernel
theorem dX9_findFault_114 : decode cX9_findFault 114 = .ok (.iconst 5, 1) := by decide +kernel
theorem dX9_findFault_115 : decode cX9_findFault 115 = .ok (.if_icmp .ne 10, 3) := by decide +kernel
theorem dX9_findFault_118 : decode cX9_findFault 118 = .ok (.aload_n 0, 1) := by decide +kernel
theorem dX9_findFault_119 : decode cX9_findFault 119 = .ok (.getfield 40, 3) := by decide +kernel
theorem dX9_findFault_122 : decode cX9_findFault 122 = .ok (.ifCond .ne 8, 3) := by decide +kernel
theorem dX9_findFault_125 : decode cX9_findFault 125 = .ok (.aload_n 0, 1) := by decide +kernel
theorem dX9_findFault_126 : decode cX9_findFault 126 = .ok (.getfield 22, 3) := by decide +kernel
theorem dX9_findFault_129 : decode cX9_findFault 129 = .ok (.ireturn, 1) := by decide +kernel
theorem dX9_findFault_130 : decode cX9_findFault 130 = .ok (.aload_n 0, 1) := by decide +kernel
theorem dX9_findFault_131 : decode cX9_findFault 131 = .ok (.invokevirtual 47, 3) := by decide +kernel
theorem dX9_findFault_134 : decode cX9_findFault 134 = .ok (.iconst (-1), 1) := by decide +kernel
theorem dX9_findFault_135 : decode cX9_findFault 135 = .ok (.ireturn, 1) := by decide +kernel
theorem dX9_createJobs_0 : decode cX9_createJobs 0 = .ok (.iconst (-1), 1) := by decide +kernel
theorem dX9_createJobs_1 : decode cX9_createJobs 1 = .ok (.istore_n 3, 1) := by decide +kernel
theorem dX9_createJobs_2 : decode cX9_createJobs 2 = .ok (.iconst 0, 1) := by decide +kernel
theorem dX9_createJobs_3 : decode cX9_createJobs 3 = .ok (.istore 4, 2) := by decide +kernel
theorem dX9_createJobs_5 : decode cX9_createJobs 5 = .ok (.iconst 0, 1) := by decide +kernel
theorem dX9_createJobs_6 : decode cX9_createJobs 6 = .ok (.istore 5, 2) := by decide +kernel
theorem dX9_createJobs_8 : decode cX9_createJobs 8 = .ok (.iload 5, 2) := by decide +kernel
theorem dX9_createJobs_10 : decode cX9_createJobs 10 = .ok (.iconst 2, 1) := by decide +kernel
theorem dX9_createJobs_11 : decode cX9_createJobs 11 = .ok (.iadd, 1) := by decide +kernel
theorem dX9_createJobs_12 : decode cX9_createJobs 12 = .ok (.aload_n 0, 1) := by decide +kernel
theorem dX9_createJobs_13 : decode cX9_createJobs 13 = .ok (.getfield 26, 3) := by decide +kernel
theorem dX9_createJobs_16 : decode cX9_createJobs 16 = .ok (.if_icmp .ge 147, 3) := by decide +kernel
theorem dX9_createJobs_19 : decode cX9_createJobs 19 = .ok (.aload_n 0, 1) := by decide +kernel
theorem dX9_createJobs_20 : decode cX9_createJobs 20 = .ok (.getfield 19, 3) := by decide +kernel
theorem dX9_createJobs_23 : decode cX9_createJobs 23 = .ok (.iload 5, 2) := by decide +kernel
theorem dX9_createJobs_25 : decode cX9_createJobs 25 = .ok (.iaload, 1) := by decide +kernel
theorem dX9_createJobs_26 : decode cX9_createJobs 26 = .ok (.ifCond .ne 65, 3) := by decide +kernel
theorem dX9_createJobs_29 : decode cX9_createJobs 29 = .ok (.iinc 3 1, 3) := by decide +kernel
theorem dX9_createJobs_32 : decode cX9_createJobs 32 = .ok (.iconst 0, 1) := by decide +kernel
theorem dX9_createJobs_33 : decode cX9_createJobs 33 = .ok (.istore 4, 2) := by decide +kernel
theorem dX9_createJobs_35 : decode cX9_createJobs 35 = .ok (.aload_n 0, 1) := by decide +kernel
theorem dX9_createJobs_36 : decode cX9_createJobs 36 = .ok (.aload_n 1, 1) := by decide +kernel
theorem dX9_createJobs_37 : decode cX9_createJobs 37 = .ok (.iload 5, 2) := by decide +kernel
theorem dX9_createJobs_39 : decode cX9_createJobs 39 = .ok (.invokevirtual 53, 3) := by decide +kernel
theorem dX9_createJobs_42 : decode cX9_createJobs 42 = .ok (.istore 6, 2) := by decide +kernel
theorem dX9_createJobs_44 : decode cX9_createJobs 44 = .ok (.iload 6, 2) := by decide +kernel
theorem dX9_createJobs_46 : decode cX9_createJobs 46 = .ok (.ifCond .eq 12, 3) := by decide +kernel
theorem dX9_createJobs_49 : decode cX9_createJobs 49 = .ok (.aload_n 2, 1) := by decide +kernel
theorem dX9_createJobs_50 : decode cX9_createJobs 50 = .ok (.iload_n 3, 1) := by decide +kernel
theorem dX9_createJobs_51 : decode cX9_createJobs 51 = .ok (.iload 6, 2) := by decide +kernel
theorem dX9_createJobs_53 : decode cX9_createJobs 53 = .ok (.invokestatic 57, 3) := by decide +kernel
theorem dX9_createJobs_56 : decode cX9_createJobs 56 = .ok (.iconst 0, 1) := by decide +kernel
theorem dX9_createJobs_57 : decode cX9_createJobs 57 = .ok (.ireturn, 1) := by decide +kernel
theorem dX9_createJobs_58 : decode cX9_createJobs 58 = .ok (.aload_n 1, 1) := by decide +kernel
theorem dX9_createJobs_59 : decode cX9_createJobs 59 = .ok (.aload_n 0, 1) := by decide +kernel
theorem dX9_createJobs_60 : decode cX9_createJobs 60 = .ok (.getfield 15, 3) := by decide +kernel
theorem dX9_createJobs_63 : decode cX9_createJobs 63 = .ok (.iload 5, 2) := by decide +kernel
theorem dX9_createJobs_65 : decode cX9_createJobs 65 = .ok (.iaload, 1) := by decide +kernel
theorem dX9_createJobs_66 : decode cX9_createJobs 66 = .ok (.aload_n 0, 1) := by decide +kernel
theorem dX9_createJobs_67 : decode cX9_createJobs 67 = .ok (.getfield 15, 3) := by decide +kernel
theorem dX9_createJobs_70 : decode cX9_createJobs 70 = .ok (.iload 5, 2) := by decide +kernel
theorem dX9_createJobs_72 : decode cX9_createJobs 72 = .ok (.iconst 1, 1) := by decide +kernel
theorem dX9_createJobs_73 : decode cX9_createJobs 73 = .ok (.iadd, 1) := by decide +kernel
theorem dX9_createJobs_74 : decode cX9_createJobs 74 = .ok (.iaload, 1) := by decide +kernel
theorem dX9_createJobs_75 : decode cX9_createJobs 75 = .ok (.aload_n 0, 1) := by decide +kernel
theorem dX9_createJobs_76 : decode cX9_createJobs 76 = .ok (.getfield 15, 3) := by decide +kernel
theorem dX9_createJobs_79 : decode cX9_createJobs 79 = .ok (.iload 5, 2) := by decide +kernel
theorem dX9_createJobs_81 : decode cX9_createJobs 81 = .ok (.iconst 2, 1) := by decide +kernel
theorem dX9_createJobs_82 : decode cX9_createJobs 82 = .ok (.iadd, 1) := by decide +kernel
theorem dX9_createJobs_83 : decode cX9_createJobs 83 = .ok (.iaload, 1) := by decide +kernel
theorem dX9_createJobs_84 : decode cX9_createJobs 84 = .ok (.invokevirtual 61, 3) := by decide +kernel
theorem dX9_createJobs_87 : decode cX9_createJobs 87 = .ok (.pop, 1) := by decide +kernel
theorem dX9_createJobs_88 : decode cX9_createJobs 88 = .ok (.goto 69, 3) := by decide +kernel
theorem dX9_createJobs_91 : decode cX9_createJobs 91 = .ok (.aload_n 0, 1) := by decide +kernel
theorem dX9_createJobs_92 : decode cX9_createJobs 92 = .ok (.aload_n 1, 1) := by decide +kernel
theorem dX9_createJobs_93 : decode cX9_createJobs 93 = .ok (.iload 5, 2) := by decide +kernel
theorem dX9_createJobs_95 : decode cX9_createJobs 95 = .ok (.invokevirtual 67, 3) := by decide +kernel
theorem dX9_createJobs_98 : decode cX9_createJobs 98 = .ok (.ifCond .ne 20, 3) := by decide +kernel
theorem dX9_createJobs_101 : decode cX9_createJobs 101 = .ok (.aload_n 2, 1) := by decide +kernel
theorem dX9_createJobs_102 : decode cX9_createJobs 102 = .ok (.iload_n 3, 1) := by decide +kernel
theorem dX9_createJobs_103 : decode cX9_createJobs 103 = .ok (.iconst 3, 1) := by decide +kernel
theorem dX9_createJobs_104 : decode cX9_createJobs 104 = .ok (.invokestatic 57, 3) := by decide +kernel
theorem dX9_createJobs_107 : decode cX9_createJobs 107 = .ok (.aload_n 2, 1) := by decide +kernel
theorem dX9_createJobs_108 : decode cX9_createJobs 108 = .ok (.bipush 100, 2) := by decide +kernel
theorem dX9_createJobs_110 : decode cX9_createJobs 110 = .ok (.iload 4, 2) := by decide +kernel
theorem dX9_createJobs_112 : decode cX9_createJobs 112 = .ok (.iadd, 1) := by decide +kernel
theorem dX9_createJobs_113 : decode cX9_createJobs 113 = .ok (.invokevirtual 71, 3) := by decide +kernel
theorem dX9_createJobs_116 : decode cX9_createJobs 116 = .ok (.iconst 0, 1) := by decide +kernel
theorem dX9_createJobs_117 : decode cX9_createJobs 117 = .ok (.ireturn, 1) := by decide +kernel
theorem dX9_createJobs_118 : decode cX9_createJobs 118 = .ok (.aload_n 1, 1) := by decide +kernel
theorem dX9_createJobs_119 : decode cX9_createJobs 119 = .ok (.aload_n 1, 1) := by decide +kernel
theorem dX9_createJobs_120 : decode cX9_createJobs 120 = .ok (.getfield 76, 3) := by decide +kernel
theorem dX9_createJobs_123 : decode cX9_createJobs 123 = .ok (.iconst 1, 1) := by decide +kernel
theorem dX9_createJobs_124 : decode cX9_createJobs 124 = .ok (.isub, 1) := by decide +kernel
theorem dX9_createJobs_125 : decode cX9_createJobs 125 = .ok (.aload_n 0, 1) := by decide +kernel
theorem dX9_createJobs_126 : decode cX9_createJobs 126 = .ok (.getfield 15, 3) := by decide +kernel
theorem dX9_createJobs_129 : decode cX9_createJobs 129 = .ok (.iload 5, 2) := by decide +kernel
theorem dX9_createJobs_131 : decode cX9_createJobs 131 = .ok (.iaload, 1) := by decide +kernel
theorem dX9_createJobs_132 : decode cX9_createJobs 132 = .ok (.aload_n 0, 1) := by decide +kernel
theorem dX9_createJobs_133 : decode cX9_createJobs 133 = .ok (.getfield 15, 3) := by decide +kernel
theorem dX9_createJobs_136 : decode cX9_createJobs 136 = .ok (.iload 5, 2) := by decide +kernel
theorem dX9_createJobs_138 : decode cX9_createJobs 138 = .ok (.iconst 1, 1) := by decide +kernel
theorem dX9_createJobs_139 : decode cX9_createJobs 139 = .ok (.iadd, 1) := by decide +kernel
theorem dX9_createJobs_140 : decode cX9_createJobs 140 = .ok (.iaload, 1) := by decide +kernel
theorem dX9_createJobs_141 : decode cX9_createJobs 141 = .ok (.aload_n 0, 1) := by decide +kernel
theorem dX9_createJobs_142 : decode cX9_createJobs 142 = .ok (.getfield 15, 3) := by decide +kernel
theorem dX9_createJobs_145 : decode cX9_createJobs 145 = .ok (.iload 5, 2) := by decide +kernel
theorem dX9_createJobs_147 : decode cX9_createJobs 147 = .ok (.iconst 2, 1) := by decide +kernel
theorem dX9_createJobs_148 : decode cX9_createJobs 148 = .ok (.iadd, 1) := by decide +kernel
theorem dX9_createJobs_149 : decode cX9_createJobs 149 = .ok (.iaload, 1) := by decide +kernel
theorem dX9_createJobs_150 : decode cX9_createJobs 150 = .ok (.invokevirtual 79, 3) := by decide +kernel
theorem dX9_createJobs_153 : decode cX9_createJobs 153 = .ok (.pop, 1) := by decide +kernel
theorem dX9_createJobs_154 : decode cX9_createJobs 154 = .ok (.iinc 4 1, 3) := by decide +kernel
theorem dX9_createJobs_157 : decode cX9_createJobs 157 = .ok (.iinc 5 3, 3) := by decide +kernel
theorem dX9_createJobs_160 : decode cX9_createJobs 160 = .ok (.goto (-152), 3) := by decide +kernel
theorem dX9_createJobs_163 : decode cX9_createJobs 163 = .ok (.iconst 1, 1) := by decide +kernel
theorem dX9_createJobs_164 : decode cX9_createJobs 164 = .ok (.ireturn, 1) := by decide +kernel
theorem dX9_beginNumber_0 : decode cX9_beginNumber 0 = .ok (.aload_n 0, 1) := by decide +kernel
theorem dX9_beginNumber_1 : decode cX9_beginNumber 1 = .ok (.iload_n 1, 1) := by decide +kernel
theorem dX9_beginNumber_2 : decode cX9_beginNumber 2 = .ok (.putfield 50, 3) := by decide +kernel
theorem dX9_beginNumber_5 : decode cX9_beginNumber 5 = .ok (.aload_n 0, 1) := by decide +kernel
theorem dX9_beginNumber_6 : decode cX9_beginNumber 6 = .ok (.iconst 0, 1) := by decide +kernel
theorem dX9_beginNumber_7 : decode cX9_beginNumber 7 = .ok (.putfield 40, 3) := by decide +kernel
theorem dX9_beginNumber_10 : decode cX9_beginNumber 10 = .ok (.aload_n 0, 1) := by decide +kernel
theorem dX9_beginNumber_11 : decode cX9_beginNumber 11 = .ok (.iconst 0, 1) := by decide +kernel
theorem dX9_beginNumber_12 : decode cX9_beginNumber 12 = .ok (.putfield 37, 3) := by decide +kernel
theorem dX9_beginNumber_15 : decode cX9_beginNumber 15 = .ok (.return_, 1) := by decide +kernel
theorem dX9_endNumber_0 : decode cX9_endNumber 0 = .ok (.aload_n 0, 1) := by decide +kernel
theorem dX9_endNumber_1 : decode cX9_endNumber 1 = .ok (.getfield 26, 3) := by decide +kernel
theorem dX9_endNumber_4 : decode cX9_endNumber 4 = .ok (.bipush 80, 2) := by decide +kernel
theorem dX9_endNumber_6 : decode cX9_endNumber 6 = .ok (.if_icmp .ge 39, 3) := by decide +kernel
theorem dX9_endNumber_9 : decode cX9_endNumber 9 = .ok (.aload_n 0, 1) := by decide +kernel
theorem dX9_endNumber_10 : decode cX9_endNumber 10 = .ok (.getfield 19, 3) := by decide +kernel
theorem dX9_endNumber_13 : decode cX9_endNumber 13 = .ok (.aload_n 0, 1) := by decide +kernel
theorem dX9_endNumber_14 : decode cX9_endNumber 14 = .ok (.getfield 26, 3) := by decide +kernel
theorem dX9_endNumber_17 : decode cX9_endNumber 17 = .ok (.aload_n 0, 1) := by decide +kernel
theorem dX9_endNumber_18 : decode cX9_endNumber 18 = .ok (.getfield 50, 3) := by decide +kernel
theorem dX9_endNumber_21 : decode cX9_endNumber 21 = .ok (.iastore, 1) := by decide +kernel
theorem dX9_endNumber_22 : decode cX9_endNumber 22 = .ok (.aload_n 0, 1) := by decide +kernel
theorem dX9_endNumber_23 : decode cX9_endNumber 23 = .ok (.getfield 15, 3) := by decide +kernel
theorem dX9_endNumber_26 : decode cX9_endNumber 26 = .ok (.aload_n 0, 1) := by decide +kernel
theorem dX9_endNumber_27 : decode cX9_endNumber 27 = .ok (.getfield 26, 3) := by decide +kernel
theorem dX9_endNumber_30 : decode cX9_endNumber 30 = .ok (.aload_n 0, 1) := by decide +kernel
theorem dX9_endNumber_31 : decode cX9_endNumber 31 = .ok (.getfield 37, 3) := by decide +kernel
theorem dX9_endNumber_34 : decode cX9_endNumber 34 = .ok (.iastore, 1) := by decide +kernel
theorem dX9_endNumber_35 : decode cX9_endNumber 35 = .ok (.aload_n 0, 1) := by decide +kernel
theorem dX9_endNumber_36 : decode cX9_endNumber 36 = .ok (.dup, 1) := by decide +kernel
theorem dX9_endNumber_37 : decode cX9_endNumber 37 = .ok (.getfield 26, 3) := by decide +kernel
theorem dX9_endNumber_40 : decode cX9_endNumber 40 = .ok (.iconst 1, 1) := by decide +kernel
theorem dX9_endNumber_41 : decode cX9_endNumber 41 = .ok (.iadd, 1) := by decide +kernel
theorem dX9_endNumber_42 : decode cX9_endNumber 42 = .ok (.putfield 26, 3) := by decide +kernel
theorem dX9_endNumber_45 : decode cX9_endNumber 45 = .ok (.return_, 1) := by decide +kernel
theorem dX9_takesDigit_0 : decode cX9_takesDigit 0 = .ok (.aload_n 0, 1) := by decide +kernel
theorem dX9_takesDigit_1 : decode cX9_takesDigit 1 = .ok (.getfield 50, 3) := by decide +kernel
theorem dX9_takesDigit_4 : decode cX9_takesDigit 4 = .ok (.iconst 3, 1) := by decide +kernel
theorem dX9_takesDigit_5 : decode cX9_takesDigit 5 = .ok (.if_icmp .eq 11, 3) := by decide +kernel
theorem dX9_takesDigit_8 : decode cX9_takesDigit 8 = .ok (.aload_n 0, 1) := by decide +kernel
theorem dX9_takesDigit_9 : decode cX9_takesDigit 9 = .ok (.getfield 50, 3) := by decide +kernel
theorem dX9_takesDigit_12 : decode cX9_takesDigit 12 = .ok (.iconst 5, 1) := by decide +kernel
theorem dX9_takesDigit_13 : decode cX9_takesDigit 13 = .ok (.if_icmp .ne 16, 3) := by decide +kernel
theorem dX9_takesDigit_16 : decode cX9_takesDigit 16 = .ok (.aload_n 0, 1) := by decide +kernel
theorem dX9_takesDigit_17 : decode cX9_takesDigit 17 = .ok (.getfield 40, 3) := by decide +kernel
theorem dX9_takesDigit_20 : decode cX9_takesDigit 20 = .ok (.ifCond .ne 7, 3) := by decide +kernel
theorem dX9_takesDigit_23 : decode cX9_takesDigit 23 = .ok (.iconst 1, 1) := by decide +kernel
theorem dX9_takesDigit_24 : decode cX9_takesDigit 24 = .ok (.goto 4, 3) := by decide +kernel
theorem dX9_takesDigit_27 : decode cX9_takesDigit 27 = .ok (.iconst 0, 1) := by decide +kernel
theorem dX9_takesDigit_28 : decode cX9_takesDigit 28 = .ok (.ireturn, 1) := by decide +kernel
theorem dX9_takesDigit_29 : decode cX9_takesDigit 29 = .ok (.aload_n 0, 1) := by decide +kernel
theorem dX9_takesDigit_30 : decode cX9_takesDigit 30 = .ok (.getfield 40, 3) := by decide +kernel
theorem dX9_takesDigit_33 : decode cX9_takesDigit 33 = .ok (.ifCond .eq 18, 3) := by decide +kernel
theorem dX9_takesDigit_36 : decode cX9_takesDigit 36 = .ok (.aload_n 0, 1) := by decide +kernel
theorem dX9_takesDigit_37 : decode cX9_takesDigit 37 = .ok (.getfield 40, 3) := by decide +kernel
theorem dX9_takesDigit_40 : decode cX9_takesDigit 40 = .ok (.iconst 3, 1) := by decide +kernel
theorem dX9_takesDigit_41 : decode cX9_takesDigit 41 = .ok (.if_icmp .ge 14, 3) := by decide +kernel
theorem dX9_takesDigit_44 : decode cX9_takesDigit 44 = .ok (.aload_n 0, 1) := by decide +kernel
theorem dX9_takesDigit_45 : decode cX9_takesDigit 45 = .ok (.getfield 37, 3) := by decide +kernel
theorem dX9_takesDigit_48 : decode cX9_takesDigit 48 = .ok (.ifCond .le 7, 3) := by decide +kernel
theorem dX9_takesDigit_51 : decode cX9_takesDigit 51 = .ok (.iconst 1, 1) := by decide +kernel
theorem dX9_takesDigit_52 : decode cX9_takesDigit 52 = .ok (.goto 4, 3) := by decide +kernel
theorem dX9_takesDigit_55 : decode cX9_takesDigit 55 = .ok (.iconst 0, 1) := by decide +kernel
theorem dX9_takesDigit_56 : decode cX9_takesDigit 56 = .ok (.ireturn, 1) := by decide +kernel
theorem dX9_kindBehind_0 : decode cX9_kindBehind 0 = .ok (.aload_n 0, 1) := by decide +kernel
theorem dX9_kindBehind_1 : decode cX9_kindBehind 1 = .ok (.getfield 50, 3) := by decide +kernel
theorem dX9_kindBehind_4 : decode cX9_kindBehind 4 = .ok (.tableswitch 96 0 4 #[36, 48, 60, 72, 84], 36) := by decide +kernel
theorem dX9_kindBehind_40 : decode cX9_kindBehind 40 = .ok (.iload_n 1, 1) := by decide +kernel
theorem dX9_kindBehind_41 : decode cX9_kindBehind 41 = .ok (.bipush 44, 2) := by decide +kernel
theorem dX9_kindBehind_43 : decode cX9_kindBehind 43 = .ok (.if_icmp .ne 7, 3) := by decide +kernel
theorem dX9_kindBehind_46 : decode cX9_kindBehind 46 = .ok (.iconst 1, 1) := by decide +kernel
theorem dX9_kindBehind_47 : decode cX9_kindBehind 47 = .ok (.goto 4, 3) := by decide +kernel
theorem dX9_kindBehind_50 : decode cX9_kindBehind 50 = .ok (.iconst (-1), 1) := by decide +kernel
theorem dX9_kindBehind_51 : decode cX9_kindBehind 51 = .ok (.ireturn, 1) := by decide +kernel
theorem dX9_kindBehind_52 : decode cX9_kindBehind 52 = .ok (.iload_n 1, 1) := by decide +kernel
theorem dX9_kindBehind_53 : decode cX9_kindBehind 53 = .ok (.bipush 44, 2) := by decide +kernel
theorem dX9_kindBehind_55 : decode cX9_kindBehind 55 = .ok (.if_icmp .ne 7, 3) := by decide +kernel
theorem dX9_kindBehind_58 : decode cX9_kindBehind 58 = .ok (.iconst 2, 1) := by decide +kernel
theorem dX9_kindBehind_59 : decode cX9_kindBehind 59 = .ok (.goto 4, 3) := by decide +kernel
theorem dX9_kindBehind_62 : decode cX9_kindBehind 62 = .ok (.iconst (-1), 1) := by decide +kernel
theorem dX9_kindBehind_63 : decode cX9_kindBehind 63 = .ok (.ireturn, 1) := by decide +kernel
theorem dX9_kindBehind_64 : decode cX9_kindBehind 64 = .ok (.iload_n 1, 1) := by decide +kernel
theorem dX9_kindBehind_65 : decode cX9_kindBehind 65 = .ok (.bipush 58, 2) := by decide +kernel
theorem dX9_kindBehind_67 : decode cX9_kindBehind 67 = .ok (.if_icmp .ne 7, 3) := by decide +kernel
theorem dX9_kindBehind_70 : decode cX9_kindBehind 70 = .ok (.iconst 3, 1) := by decide +kernel
theorem dX9_kindBehind_71 : decode cX9_kindBehind 71 = .ok (.goto 4, 3) := by decide +kernel
theorem dX9_kindBehind_74 : decode cX9_kindBehind 74 = .ok (.iconst (-1), 1) := by decide +kernel
theorem dX9_kindBehind_75 : decode cX9_kindBehind 75 = .ok (.ireturn, 1) := by decide +kernel
theorem dX9_kindBehind_76 : decode cX9_kindBehind 76 = .ok (.iload_n 1, 1) := by decide +kernel
theorem dX9_kindBehind_77 : decode cX9_kindBehind 77 = .ok (.bipush 46, 2) := by decide +kernel
theorem dX9_kindBehind_79 : decode cX9_kindBehind 79 = .ok (.if_icmp .ne 7, 3) := by decide +kernel
theorem dX9_kindBehind_82 : decode cX9_kindBehind 82 = .ok (.iconst 4, 1) := by decide +kernel
theorem dX9_kindBehind_83 : decode cX9_kindBehind 83 = .ok (.goto 4, 3) := by decide +kernel
theorem dX9_kindBehind_86 : decode cX9_kindBehind 86 = .ok (.iconst (-1), 1) := by decide +kernel
theorem dX9_kindBehind_87 : decode cX9_kindBehind 87 = .ok (.ireturn, 1) := by decide +kernel
theorem dX9_kindBehind_88 : decode cX9_kindBehind 88 = .ok (.iload_n 1, 1) := by decide +kernel
theorem dX9_kindBehind_89 : decode cX9_kindBehind 89 = .ok (.bipush 46, 2) := by decide +kernel
theorem dX9_kindBehind_91 : decode cX9_kindBehind 91 = .ok (.if_icmp .ne 7, 3) := by decide +kernel
theorem dX9_kindBehind_94 : decode cX9_kindBehind 94 = .ok (.iconst 5, 1) := by decide +kernel
theorem dX9_kindBehind_95 : decode cX9_kindBehind 95 = .ok (.goto 4, 3) := by decide +kernel
theorem dX9_kindBehind_98 : decode cX9_kindBehind 98 = .ok (.iconst (-1), 1) := by decide +kernel
theorem dX9_kindBehind_99 : decode cX9_kindBehind 99 = .ok (.ireturn, 1) := by decide +kernel
theorem dX9_kindBehind_100 : decode cX9_kindBehind 100 = .ok (.iload_n 1, 1) := by decide +kernel
theorem dX9_kindBehind_101 : decode cX9_kindBehind 101 = .ok (.bipush 47, 2) := by decide +kernel
theorem dX9_kindBehind_103 : decode cX9_kindBehind 103 = .ok (.if_icmp .ne 5, 3) := by decide +kernel
theorem dX9_kindBehind_106 : decode cX9_kindBehind 106 = .ok (.iconst 3, 1) := by decide +kernel
theorem dX9_kindBehind_107 : decode cX9_kindBehind 107 = .ok (.ireturn, 1) := by decide +kernel
theorem dX9_kindBehind_108 : decode cX9_kindBehind 108 = .ok (.iload_n 1, 1) := by decide +kernel
theorem dX9_kindBehind_109 : decode cX9_kindBehind 109 = .ok (.bipush 59, 2) := by decide +kernel
theorem dX9_kindBehind_111 : decode cX9_kindBehind 111 = .ok (.if_icmp .ne 7, 3) := by decide +kernel
theorem dX9_kindBehind_114 : decode cX9_kindBehind 114 = .ok (.iconst 0, 1) := by decide +kernel
theorem dX9_kindBehind_115 : decode cX9_kindBehind 115 = .ok (.goto 4, 3) := by decide +kernel
theorem dX9_kindBehind_118 : decode cX9_kindBehind 118 = .ok (.iconst (-1), 1) := by decide +kernel
theorem dX9_kindBehind_119 : decode cX9_kindBehind 119 = .ok (.ireturn, 1) := by decide +kernel
theorem dX9_reasonAgainstJob_0 : decode cX9_reasonAgainstJob 0 = .ok (.aload_n 1, 1) := by decide +kernel
theorem dX9_reasonAgainstJob_1 : decode cX9_reasonAgainstJob 1 = .ok (.getfield 76, 3) := by decide +kernel
theorem dX9_reasonAgainstJob_4 : decode cX9_reasonAgainstJob 4 = .ok (.iconst 5, 1) := by decide +kernel
theorem dX9_reasonAgainstJob_5 : decode cX9_reasonAgainstJob 5 = .ok (.if_icmp .lt 5, 3) := by decide +kernel
theorem dX9_reasonAgainstJob_8 : decode cX9_reasonAgainstJob 8 = .ok (.iconst 1, 1) := by decide +kernel
theorem dX9_reasonAgainstJob_9 : decode cX9_reasonAgainstJob 9 = .ok (.ireturn, 1) := by decide +kernel
theorem dX9_reasonAgainstJob_10 : decode cX9_reasonAgainstJob 10 = .ok (.aload_n 0, 1) := by decide +kernel
theorem dX9_reasonAgainstJob_11 : decode cX9_reasonAgainstJob 11 = .ok (.getfield 15, 3) := by decide +kernel
theorem dX9_reasonAgainstJob_14 : decode cX9_reasonAgainstJob 14 = .ok (.iload_n 2, 1) := by decide +kernel
theorem dX9_reasonAgainstJob_15 : decode cX9_reasonAgainstJob 15 = .ok (.iaload, 1) := by decide +kernel
theorem dX9_reasonAgainstJob_16 : decode cX9_reasonAgainstJob 16 = .ok (.aload_n 0, 1) := by decide +kernel
theorem dX9_reasonAgainstJob_17 : decode cX9_reasonAgainstJob 17 = .ok (.getfield 15, 3) := by decide +kernel
theorem dX9_reasonAgainstJob_20 : decode cX9_reasonAgainstJob 20 = .ok (.iload_n 2, 1) := by decide +kernel
theorem dX9_reasonAgainstJob_21 : decode cX9_reasonAgainstJob 21 = .ok (.iconst 1, 1) := by decide +kernel
theorem dX9_reasonAgainstJob_22 : decode cX9_reasonAgainstJob 22 = .ok (.iadd, 1) := by decide +kernel
theorem dX9_reasonAgainstJob_23 : decode cX9_reasonAgainstJob 23 = .ok (.iaload, 1) := by decide +kernel
theorem dX9_reasonAgainstJob_24 : decode cX9_reasonAgainstJob 24 = .ok (.aload_n 0, 1) := by decide +kernel
theorem dX9_reasonAgainstJob_25 : decode cX9_reasonAgainstJob 25 = .ok (.getfield 15, 3) := by decide +kernel
theorem dX9_reasonAgainstJob_28 : decode cX9_reasonAgainstJob 28 = .ok (.iload_n 2, 1) := by decide +kernel
theorem dX9_reasonAgainstJob_29 : decode cX9_reasonAgainstJob 29 = .ok (.iconst 2, 1) := by decide +kernel
theorem dX9_reasonAgainstJob_30 : decode cX9_reasonAgainstJob 30 = .ok (.iadd, 1) := by decide +kernel
theorem dX9_reasonAgainstJob_31 : decode cX9_reasonAgainstJob 31 = .ok (.iaload, 1) := by decide +kernel
theorem dX9_reasonAgainstJob_32 : decode cX9_reasonAgainstJob 32 = .ok (.invokestatic 83, 3) := by decide +kernel
theorem dX9_reasonAgainstJob_35 : decode cX9_reasonAgainstJob 35 = .ok (.ifCond .eq 7, 3) := by decide +kernel
theorem dX9_reasonAgainstJob_38 : decode cX9_reasonAgainstJob 38 = .ok (.iconst 0, 1) := by decide +kernel
theorem dX9_reasonAgainstJob_39 : decode cX9_reasonAgainstJob 39 = .ok (.goto 4, 3) := by decide +kernel
theorem dX9_reasonAgainstJob_42 : decode cX9_reasonAgainstJob 42 = .ok (.iconst 2, 1) := by decide +kernel
theorem dX9_reasonAgainstJob_43 : decode cX9_reasonAgainstJob 43 = .ok (.ireturn, 1) := by decide +kernel
theorem dX9_operationFits_0 : decode cX9_operationFits 0 = .ok (.aload_n 0, 1) := by decide +kernel
theorem dX9_operationFits_1 : decode cX9_operationFits 1 = .ok (.getfield 15, 3) := by decide +kernel
theorem dX9_operationFits_4 : decode cX9_operationFits 4 = .ok (.iload_n 2, 1) := by decide +kernel
theorem dX9_operationFits_5 : decode cX9_operationFits 5 = .ok (.iaload, 1) := by decide +kernel
theorem dX9_operationFits_6 : decode cX9_operationFits 6 = .ok (.invokestatic 87, 3) := by decide +kernel
theorem dX9_operationFits_9 : decode cX9_operationFits 9 = .ok (.ifCond .eq 61, 3) := by decide +kernel
theorem dX9_operationFits_12 : decode cX9_operationFits 12 = .ok (.aload_n 0, 1) := by decide +kernel
theorem dX9_operationFits_13 : decode cX9_operationFits 13 = .ok (.getfield 15, 3) := by decide +kernel
theorem dX9_operationFits_16 : decode cX9_operationFits 16 = .ok (.iload_n 2, 1) := by decide +kernel
theorem dX9_operationFits_17 : decode cX9_operationFits 17 = .ok (.iconst 1, 1) := by decide +kernel
theorem dX9_operationFits_18 : decode cX9_operationFits 18 = .ok (.iadd, 1) := by decide +kernel
theorem dX9_operationFits_19 : decode cX9_operationFits 19 = .ok (.iaload, 1) := by decide +kernel
theorem dX9_operationFits_20 : decode cX9_operationFits 20 = .ok (.invokestatic 91, 3) := by decide +kernel
theorem dX9_operationFits_23 : decode cX9_operationFits 23 = .ok (.ifCond .eq 47, 3) := by decide +kernel
theorem dX9_operationFits_26 : decode cX9_operationFits 26 = .ok (.aload_n 0, 1) := by decide +kernel
theorem dX9_operationFits_27 : decode cX9_operationFits 27 = .ok (.getfield 15, 3) := by decide +kernel
theorem dX9_operationFits_30 : decode cX9_operationFits 30 = .ok (.iload_n 2, 1) := by decide +kernel
theorem dX9_operationFits_31 : decode cX9_operationFits 31 = .ok (.iconst 2, 1) := by decide +kernel
theorem dX9_operationFits_32 : decode cX9_operationFits 32 = .ok (.iadd, 1) := by decide +kernel
theorem dX9_operationFits_33 : decode cX9_operationFits 33 = .ok (.iaload, 1) := by decide +kernel
theorem dX9_operationFits_34 : decode cX9_operationFits 34 = .ok (.invokestatic 94, 3) := by decide +kernel
theorem dX9_operationFits_37 : decode cX9_operationFits 37 = .ok (.ifCond .eq 33, 3) := by decide +kernel
theorem dX9_operationFits_40 : decode cX9_operationFits 40 = .ok (.aload_n 1, 1) := by decide +kernel
theorem dX9_operationFits_41 : decode cX9_operationFits 41 = .ok (.getfield 76, 3) := by decide +kernel
theorem dX9_operationFits_44 : decode cX9_operationFits 44 = .ok (.ifCond .le 26, 3) := by decide +kernel
theorem dX9_operationFits_47 : decode cX9_operationFits 47 = .ok (.aload_n 1, 1) := by decide +kernel
theorem dX9_operationFits_48 : decode cX9_operationFits 48 = .ok (.aload_n 1, 1) := by decide +kernel
theorem dX9_operationFits_49 : decode cX9_operationFits 49 = .ok (.getfield 76, 3) := by decide +kernel
theorem dX9_operationFits_52 : decode cX9_operationFits 52 = .ok (.iconst 1, 1) := by decide +kernel
theorem dX9_operationFits_53 : decode cX9_operationFits 53 = .ok (.isub, 1) := by decide +kernel
theorem dX9_operationFits_54 : decode cX9_operationFits 54 = .ok (.aload_n 0, 1) := by decide +kernel
theorem dX9_operationFits_55 : decode cX9_operationFits 55 = .ok (.getfield 15, 3) := by decide +kernel
theorem dX9_operationFits_58 : decode cX9_operationFits 58 = .ok (.iload_n 2, 1) := by decide +kernel
theorem dX9_operationFits_59 : decode cX9_operationFits 59 = .ok (.iaload, 1) := by decide +kernel
theorem dX9_operationFits_60 : decode cX9_operationFits 60 = .ok (.invokevirtual 97, 3) := by decide +kernel
theorem dX9_operationFits_63 : decode cX9_operationFits 63 = .ok (.ifCond .eq 7, 3) := by decide +kernel
theorem dX9_operationFits_66 : decode cX9_operationFits 66 = .ok (.iconst 1, 1) := by decide +kernel
theorem dX9_operationFits_67 : decode cX9_operationFits 67 = .ok (.goto 4, 3) := by decide +kernel
theorem dX9_operationFits_70 : decode cX9_operationFits 70 = .ok (.iconst 0, 1) := by decide +kernel
theorem dX9_operationFits_71 : decode cX9_operationFits 71 = .ok (.ireturn, 1) := by decide +kernel
theorem dX9_refuse_0 : decode cX9_refuse 0 = .ok (.aload_n 0, 1) := by decide +kernel
theorem dX9_refuse_1 : decode cX9_refuse 1 = .ok (.iconst 3, 1) := by decide +kernel
theorem dX9_refuse_2 : decode cX9_refuse 2 = .ok (.invokevirtual 101, 3) := by decide +kernel
theorem dX9_refuse_5 : decode cX9_refuse 5 = .ok (.aload_n 0, 1) := by decide +kernel
theorem dX9_refuse_6 : decode cX9_refuse 6 = .ok (.bipush 100, 2) := by decide +kernel
theorem dX9_refuse_8 : decode cX9_refuse 8 = .ok (.iload_n 1, 1) := by decide +kernel
theorem dX9_refuse_9 : decode cX9_refuse 9 = .ok (.iadd, 1) := by decide +kernel
theorem dX9_refuse_10 : decode cX9_refuse 10 = .ok (.invokevirtual 71, 3) := by decide +kernel
theorem dX9_refuse_13 : decode cX9_refuse 13 = .ok (.aload_n 0, 1) := by decide +kernel
theorem dX9_refuse_14 : decode cX9_refuse 14 = .ok (.iload_n 2, 1) := by decide +kernel
theorem dX9_refuse_15 : decode cX9_refuse 15 = .ok (.invokevirtual 71, 3) := by decide +kernel
theorem dX9_refuse_18 : decode cX9_refuse 18 = .ok (.return_, 1) := by decide +kernel
theorem dX10_init_0 : decode cX10_init 0 = .ok (.aload_n 0, 1) := by decide +kernel
theorem dX10_init_1 : decode cX10_init 1 = .ok (.invokespecial 3, 3) := by decide +kernel
theorem dX10_init_4 : decode cX10_init 4 = .ok (.aload_n 0, 1) := by decide +kernel
theorem dX10_init_5 : decode cX10_init 5 = .ok (.bipush 20, 2) := by decide +kernel
theorem dX10_init_7 : decode cX10_init 7 = .ok (.newarray .int, 2) := by decide +kernel
theorem dX10_init_9 : decode cX10_init 9 = .ok (.putfield 9, 3) := by decide +kernel
theorem dX10_init_12 : decode cX10_init 12 = .ok (.aload_n 0, 1) := by decide +kernel
theorem dX10_init_13 : decode cX10_init 13 = .ok (.bipush 20, 2) := by decide +kernel
theorem dX10_init_15 : decode cX10_init 15 = .ok (.newarray .int, 2) := by decide +kernel
theorem dX10_init_17 : decode cX10_init 17 = .ok (.putfield 15, 3) := by decide +kernel
theorem dX10_init_20 : decode cX10_init 20 = .ok (.aload_n 0, 1) := by decide +kernel
theorem dX10_init_21 : decode cX10_init 21 = .ok (.bipush 20, 2) := by decide +kernel
theorem dX10_init_23 : decode cX10_init 23 = .ok (.newarray .int, 2) := by decide +kernel
theorem dX10_init_25 : decode cX10_init 25 = .ok (.putfield 18, 3) := by decide +kernel
theorem dX10_init_28 : decode cX10_init 28 = .ok (.aload_n 0, 1) := by decide +kernel
theorem dX10_init_29 : decode cX10_init 29 = .ok (.bipush 20, 2) := by decide +kernel
theorem dX10_init_31 : decode cX10_init 31 = .ok (.newarray .int, 2) := by decide +kernel
theorem dX10_init_33 : decode cX10_init 33 = .ok (.putfield 21, 3) := by decide +kernel
theorem dX10_init_36 : decode cX10_init 36 = .ok (.aload_n 0, 1) := by decide +kernel
theorem dX10_init_37 : decode cX10_init 37 = .ok (.iconst 4, 1) := by decide +kernel
theorem dX10_init_38 : decode cX10_init 38 = .ok (.newarray .boolean, 2) := by decide +kernel
theorem dX10_init_40 : decode cX10_init 40 = .ok (.putfield 24, 3) := by decide +kernel
theorem dX10_init_43 : decode cX10_init 43 = .ok (.aload_n 0, 1) := by decide +kernel
theorem dX10_init_44 : decode cX10_init 44 = .ok (.iconst 5, 1) := by decide +kernel
theorem dX10_init_45 : decode cX10_init 45 = .ok (.newarray .int, 2) := by decide +kernel
theorem dX10_init_47 : decode cX10_init 47 = .ok (.putfield 28, 3) := by decide +kernel
theorem dX10_init_50 : decode cX10_init 50 = .ok (.aload_n 0, 1) := by decide +kernel
theorem dX10_init_51 : decode cX10_init 51 = .ok (.iconst 4, 1) := by decide +kernel
theorem dX10_init_52 : decode cX10_init 52 = .ok (.newarray .int, 2) := by decide +kernel
theorem dX10_init_54 : decode cX10_init 54 = .ok (.putfield 31, 3) := by decide +kernel
theorem dX10_init_57 : decode cX10_init 57 = .ok (.aload_n 0, 1) := by decide +kernel
theorem dX10_init_58 : decode cX10_init 58 = .ok (.iconst (-1), 1) := by decide +kernel
theorem dX10_init_59 : decode cX10_init 59 = .ok (.putfield 34, 3) := by decide +kernel
theorem dX10_init_62 : decode cX10_init 62 = .ok (.return_, 1) := by decide +kernel
theorem dX10_compute_0 : decode cX10_compute 0 = .ok (.aload_n 0, 1) := by decide +kernel
theorem dX10_compute_1 : decode cX10_compute 1 = .ok (.invokevirtual 38, 3) := by decide +kernel
theorem dX10_compute_4 : decode cX10_compute 4 = .ok (.iconst 0, 1) := by decide +kernel
theorem dX10_compute_5 : decode cX10_compute 5 = .ok (.istore_n 2, 1) := by decide +kernel
theorem dX10_compute_6 : decode cX10_compute 6 = .ok (.iload_n 2, 1) := by decide +kernel
theorem dX10_compute_7 : decode cX10_compute 7 = .ok (.bipush 20, 2) := by decide +kernel
theorem dX10_compute_9 : decode cX10_compute 9 = .ok (.if_icmp .ge 122, 3) := by decide +kernel
theorem dX10_compute_12 : decode cX10_compute 12 = .ok (.aload_n 0, 1) := by decide +kernel
theorem dX10_compute_13 : decode cX10_compute 13 = .ok (.getfield 41, 3) := by decide +kernel
theorem dX10_compute_16 : decode cX10_compute 16 = .ok (.aload_n 1, 1) := by decide +kernel
theorem dX10_compute_17 : decode cX10_compute 17 = .ok (.getfield 44, 3) := by decide +kernel
theorem dX10_compute_20 : decode cX10_compute 20 = .ok (.if_icmp .ge 111, 3) := by decide +kernel
theorem dX10_compute_23 : decode cX10_compute 23 = .ok (.aload_n 0, 1) := by decide +kernel
theorem dX10_compute_24 : decode cX10_compute 24 = .ok (.getfield 41, 3) := by decide +kernel
theorem dX10_compute_27 : decode cX10_compute 27 = .ok (.istore_n 3, 1) := by decide +kernel
theorem dX10_compute_28 : decode cX10_compute 28 = .ok (.iconst 0, 1) := by decide +kernel
theorem dX10_compute_29 : decode cX10_compute 29 = .ok (.istore 4, 2) := by decide +kernel
theorem dX10_compute_31 : decode cX10_compute 31 = .ok (.iload 4, 2) := by decide +kernel
theorem dX10_compute_33 : decode cX10_compute 33 = .ok (.aload_n 1, 1) := by decide +kernel
theorem dX10_compute_34 : decode cX10_compute 34 = .ok (.getfield 49, 3) := by decide +kernel
theorem dX10_compute_37 : decode cX10_compute 37 = .ok (.if_icmp .ge 78, 3) := by decide +kernel
theorem dX10_compute_40 : decode cX10_compute 40 = .ok (.aload_n 0, 1) := by decide +kernel
theorem dX10_compute_41 : decode cX10_compute 41 = .ok (.getfield 28, 3) := by decide +kernel
theorem dX10_compute_44 : decode cX10_compute 44 = .ok (.iload 4, 2) := by decide +kernel
theorem dX10_compute_46 : decode cX10_compute 46 = .ok (.iaload, 1) := by decide +kernel
theorem dX10_compute_47 : decode cX10_compute 47 = .ok (.istore 5, 2) := by decide +kernel
theorem dX10_compute_49 : decode cX10_compute 49 = .ok (.iload 5, 2) := by decide +kernel
theorem dX10_compute_51 : decode cX10_compute 51 = .ok (.aload_n 1, 1) := by decide +kernel
theorem dX10_compute_52 : decode cX10_compute 52 = .ok (.getfield 52, 3) := by decide +kernel
theorem dX10_compute_55 : decode cX10_compute 55 = .ok (.iload 4, 2) := by decide +kernel
theorem dX10_compute_57 : decode cX10_compute 57 = .ok (.iaload, 1) := by decide +kernel
theorem dX10_compute_58 : decode cX10_compute 58 = .ok (.if_icmp .ge 42, 3) := by decide +kernel
theorem dX10_compute_61 : decode cX10_compute 61 = .ok (.aload_n 0, 1) := by decide +kernel
theorem dX10_compute_62 : decode cX10_compute 62 = .ok (.aload_n 1, 1) := by decide +kernel
theorem dX10_compute_63 : decode cX10_compute 63 = .ok (.aload_n 1, 1) := by decide +kernel
theorem dX10_compute_64 : decode cX10_compute 64 = .ok (.getfield 55, 3) := by decide +kernel
theorem dX10_compute_67 : decode cX10_compute 67 = .ok (.iload 4, 2) := by decide +kernel
theorem dX10_compute_69 : decode cX10_compute 69 = .ok (.aaload, 1) := by decide +kernel
theorem dX10_compute_70 : decode cX10_compute 70 = .ok (.iload 5, 2) := by decide +kernel
theorem dX10_compute_72 : decode cX10_compute 72 = .ok (.iaload, 1) := by decide +kernel
theorem dX10_compute_73 : decode cX10_compute 73 = .ok (.invokevirtual 59, 3) := by decide +kernel
theorem dX10_compute_76 : decode cX10_compute 76 = .ok (.ifCond .eq 24, 3) := by decide +kernel
theorem dX10_compute_79 : decode cX10_compute 79 = .ok (.aload_n 0, 1) := by decide +kernel
theorem dX10_compute_80 : decode cX10_compute 80 = .ok (.aload_n 1, 1) := by decide +kernel
theorem dX10_compute_81 : decode cX10_compute 81 = .ok (.aload_n 1, 1) := by decide +kernel
theorem dX10_compute_82 : decode cX10_compute 82 = .ok (.getfield 55, 3) := by decide +kernel
theorem dX10_compute_85 : decode cX10_compute 85 = .ok (.iload 4, 2) := by decide +kernel
theorem dX10_compute_87 : decode cX10_compute 87 = .ok (.aaload, 1) := by decide +kernel
theorem dX10_compute_88 : decode cX10_compute 88 = .ok (.iload 5, 2) := by decide +kernel
theorem dX10_compute_90 : decode cX10_compute 90 = .ok (.iaload, 1) := by decide +kernel
theorem dX10_compute_91 : decode cX10_compute 91 = .ok (.invokevirtual 63, 3) := by decide +kernel
theorem dX10_compute_94 : decode cX10_compute 94 = .ok (.iinc 5 1, 3) := by decide +kernel
theorem dX10_compute_97 : decode cX10_compute 97 = .ok (.goto (-48), 3) := by decide +kernel
theorem dX10_compute_100 : decode cX10_compute 100 = .ok (.aload_n 0, 1) := by decide +kernel
theorem dX10_compute_101 : decode cX10_compute 101 = .ok (.getfield 28, 3) := by decide +kernel
theorem dX10_compute_104 : decode cX10_compute 104 = .ok (.iload 4, 2) := by decide +kernel
theorem dX10_compute_106 : decode cX10_compute 106 = .ok (.iload 5, 2) := by decide +kernel
theorem dX10_compute_108 : decode cX10_compute 108 = .ok (.iastore, 1) := by decide +kernel
theorem dX10_compute_109 : decode cX10_compute 109 = .ok (.iinc 4 1, 3) := by decide +kernel
theorem dX10_compute_112 : decode cX10_compute 112 = .ok (.goto (-81), 3) := by decide +kernel
theorem dX10_compute_115 : decode cX10_compute 115 = .ok (.aload_n 0, 1) := by decide +kernel
theorem dX10_compute_116 : decode cX10_compute 116 = .ok (.getfield 41, 3) := by decide +kernel
theorem dX10_compute_119 : decode cX10_compute 119 = .ok (.iload_n 3, 1) := by decide +kernel
theorem dX10_compute_120 : decode cX10_compute 120 = .ok (.if_icmp .ne 5, 3) := by decide +kernel
theorem dX10_compute_123 : decode cX10_compute 123 = .ok (.iconst 0, 1) := by decide +kernel
theorem dX10_compute_124 : decode cX10_compute 124 = .ok (.ireturn, 1) := by decide +kernel
theorem dX10_compute_125 : decode cX10_compute 125 = .ok (.iinc 2 1, 3) := by decide +kernel
theorem dX10_compute_128 : decode cX10_compute 128 = .ok (.goto (-122), 3) := by decide +kernel
theorem dX10_compute_131 : decode cX10_compute 131 = .ok (.iconst 1, 1) := by decide +kernel
theorem dX10_compute_132 : decode cX10_compute 132 = .ok (.ireturn, 1) := by decide +kernel
theorem dX10_computeHolding_0 : decode cX10_computeHolding 0 = .ok (.aload_n 0, 1) := by decide +kernel
theorem dX10_computeHolding_1 : decode cX10_computeHolding 1 = .ok (.iload_n 2, 1) := by decide +kernel
theorem dX10_computeHolding_2 : decode cX10_computeHolding 2 = .ok (.putfield 34, 3) := by decide +kernel
theorem dX10_computeHolding_5 : decode cX10_computeHolding 5 = .ok (.aload_n 0, 1) := by decide +kernel
theorem dX10_computeHolding_6 : decode cX10_computeHolding 6 = .ok (.iload_n 3, 1) := by decide +kernel
theorem dX10_computeHolding_7 : decode cX10_computeHolding 7 = .ok (.putfield 67, 3) := by decide +kernel
theorem dX10_computeHolding_10 : decode cX10_computeHolding 10 = .ok (.aload_n 0, 1) := by decide +kernel
theorem dX10_computeHolding_11 : decode cX10_computeHolding 11 = .ok (.aload_n 1, 1) := by decide +kernel
theorem dX10_computeHolding_12 : decode cX10_computeHolding 12 = .ok (.invokevirtual 70, 3) := by decide +kernel
theorem dX10_computeHolding_15 : decode cX10_computeHolding 15 = .ok (.pop, 1) := by decide +kernel
theorem dX10_computeHolding_16 : decode cX10_computeHolding 16 = .ok (.aload_n 0, 1) := by decide +kernel
theorem dX10_computeHolding_17 : decode cX10_computeHolding 17 = .ok (.iconst (-1), 1) := by decide +kernel
theorem dX10_computeHolding_18 : decode cX10_computeHolding 18 = .ok (.putfield 34, 3) := by decide +kernel
theorem dX10_computeHolding_21 : decode cX10_computeHolding 21 = .ok (.return_, 1) := by decide +kernel
theorem dX10_completionOf_0 : decode cX10_completionOf 0 = .ok (.aload_n 1, 1) := by decide +kernel
theorem dX10_completionOf_1 : decode cX10_completionOf 1 = .ok (.getfield 52, 3) := by decide +kernel
theorem dX10_completionOf_4 : decode cX10_completionOf 4 = .ok (.iload_n 2, 1) := by decide +kernel
theorem dX10_completionOf_5 : decode cX10_completionOf 5 = .ok (.iaload, 1) := by decide +kernel
theorem dX10_completionOf_6 : decode cX10_completionOf 6 = .ok (.istore_n 3, 1) := by decide +kernel
theorem dX10_completionOf_7 : decode cX10_completionOf 7 = .ok (.iload_n 3, 1) := by decide +kernel
theorem dX10_completionOf_8 : decode cX10_completionOf 8 = .ok (.ifCond .le 21, 3) := by decide +kernel
theorem dX10_completionOf_11 : decode cX10_completionOf 11 = .ok (.aload_n 0, 1) := by decide +kernel
theorem dX10_completionOf_12 : decode cX10_completionOf 12 = .ok (.getfield 18, 3) := by decide +kernel
theorem dX10_completionOf_15 : decode cX10_completionOf 15 = .ok (.aload_n 1, 1) := by decide +kernel
theorem dX10_completionOf_16 : decode cX10_completionOf 16 = .ok (.getfield 55, 3) := by decide +kernel
theorem dX10_completionOf_19 : decode cX10_completionOf 19 = .ok (.iload_n 2, 1) := by decide +kernel
theorem dX10_completionOf_20 : decode cX10_completionOf 20 = .ok (.aaload, 1) := by decide +kernel
theorem dX10_completionOf_21 : decode cX10_completionOf 21 = .ok (.iload_n 3, 1) := by decide +kernel
theorem dX10_completionOf_22 : decode cX10_completionOf 22 = .ok (.iconst 1, 1) := by decide +kernel
theorem dX10_completionOf_23 : decode cX10_completionOf 23 = .ok (.isub, 1) := by decide +kernel
theorem dX10_completionOf_24 : decode cX10_completionOf 24 = .ok (.iaload, 1) := by decide +kernel
theorem dX10_completionOf_25 : decode cX10_completionOf 25 = .ok (.iaload, 1) := by decide +kernel
theorem dX10_completionOf_26 : decode cX10_completionOf 26 = .ok (.goto 11, 3) := by decide +kernel
theorem dX10_completionOf_29 : decode cX10_completionOf 29 = .ok (.aload_n 1, 1) := by decide +kernel
theorem dX10_completionOf_30 : decode cX10_completionOf 30 = .ok (.getfield 74, 3) := by decide +kernel
theorem dX10_completionOf_33 : decode cX10_completionOf 33 = .ok (.iload_n 2, 1) := by decide +kernel
theorem dX10_completionOf_34 : decode cX10_completionOf 34 = .ok (.aaload, 1) := by decide +kernel
theorem dX10_completionOf_35 : decode cX10_completionOf 35 = .ok (.iconst 0, 1) := by decide +kernel
theorem dX10_completionOf_36 : decode cX10_completionOf 36 = .ok (.iaload, 1) := by decide +kernel
theorem dX10_completionOf_37 : decode cX10_completionOf 37 = .ok (.ireturn, 1) := by decide +kernel
theorem dX10_lowestUndefined_0 : decode cX10_lowestUndefined 0 = .ok (.iconst 0, 1) := by decide +kernel
theorem dX10_lowestUndefined_1 : decode cX10_lowestUndefined 1 = .ok (.istore_n 2, 1) := by decide +kernel
theorem dX10_lowestUndefined_2 : decode cX10_lowestUndefined 2 = .ok (.iload_n 2, 1) := by decide +kernel
theorem dX10_lowestUndefined_3 : decode cX10_lowestUndefined 3 = .ok (.aload_n 1, 1) := by decide +kernel
theorem dX10_lowestUndefined_4 : decode cX10_lowestUndefined 4 = .ok (.getfield 44, 3) := by decide +kernel
theorem dX10_lowestUndefined_7 : decode cX10_lowestUndefined 7 = .ok (.if_icmp .ge 31, 3) := by decide +kernel
theorem dX10_lowestUndefined_10 : decode cX10_lowestUndefined 10 = .ok (.aload_n 1, 1) := by decide +kernel
theorem dX10_lowestUndefined_11 : decode cX10_lowestUndefined 11 = .ok (.getfield 77, 3) := by decide +kernel
theorem dX10_lowestUndefined_14 : decode cX10_lowestUndefined 14 = .ok (.iload_n 2, 1) := by decide +kernel
theorem dX10_lowestUndefined_15 : decode cX10_lowestUndefined 15 = .ok (.iaload, 1) := by decide +kernel
theorem dX10_lowestUndefined_16 : decode cX10_lowestUndefined 16 = .ok (.aload_n 0, 1) := by decide +kernel
theorem dX10_lowestUndefined_17 : decode cX10_lowestUndefined 17 = .ok (.getfield 28, 3) := by decide +kernel
theorem dX10_lowestUndefined_20 : decode cX10_lowestUndefined 20 = .ok (.aload_n 1, 1) := by decide +kernel
theorem dX10_lowestUndefined_21 : decode cX10_lowestUndefined 21 = .ok (.getfield 80, 3) := by decide +kernel
theorem dX10_lowestUndefined_24 : decode cX10_lowestUndefined 24 = .ok (.iload_n 2, 1) := by decide +kernel
theorem dX10_lowestUndefined_25 : decode cX10_lowestUndefined 25 = .ok (.iaload, 1) := by decide +kernel
theorem dX10_lowestUndefined_26 : decode cX10_lowestUndefined 26 = .ok (.iaload, 1) := by decide +kernel
theorem dX10_lowestUndefined_27 : decode cX10_lowestUndefined 27 = .ok (.if_icmp .lt 5, 3) := by decide +kernel
theorem dX10_lowestUndefined_30 : decode cX10_lowestUndefined 30 = .ok (.iload_n 2, 1) := by decide +kernel
theorem dX10_lowestUndefined_31 : decode cX10_lowestUndefined 31 = .ok (.ireturn, 1) := by decide +kernel
theorem dX10_lowestUndefined_32 : decode cX10_lowestUndefined 32 = .ok (.iinc 2 1, 3) := by decide +kernel
theorem dX10_lowestUndefined_35 : decode cX10_lowestUndefined 35 = .ok (.goto (-33), 3) := by decide +kernel
theorem dX10_lowestUndefined_38 : decode cX10_lowestUndefined 38 = .ok (.iconst 0, 1) := by decide +kernel
theorem dX10_lowestUndefined_39 : decode cX10_lowestUndefined 39 = .ok (.ireturn, 1) := by decide +kernel
theorem dX10_clear_0 : decode cX10_clear 0 = .ok (.aload_n 0, 1) := by decide +kernel
theorem dX10_clear_1 : decode cX10_clear 1 = .ok (.iconst 0, 1) := by decide +kernel
theorem dX10_clear_2 : decode cX10_clear 2 = .ok (.putfield 41, 3) := by decide +kernel
theorem dX10_clear_5 : decode cX10_clear 5 = .ok (.aload_n 0, 1) := by decide +kernel
theorem dX10_clear_6 : decode cX10_clear 6 = .ok (.iconst 0, 1) := by decide +kernel
theorem dX10_clear_7 : decode cX10_clear 7 = .ok (.putfield 83, 3) := by decide +kernel
theorem dX10_clear_10 : decode cX10_clear 10 = .ok (.iconst 0, 1) := by decide +kernel
theorem dX10_clear_11 : decode cX10_clear 11 = .ok (.istore_n 1, 1) := by decide +kernel
theorem dX10_clear_12 : decode cX10_clear 12 = .ok (.iload_n 1, 1) := by decide +kernel
theorem dX10_clear_13 : decode cX10_clear 13 = .ok (.iconst 5, 1) := by decide +kernel
theorem dX10_clear_14 : decode cX10_clear 14 = .ok (.if_icmp .ge 16, 3) := by decide +kernel
theorem dX10_clear_17 : decode cX10_clear 17 = .ok (.aload_n 0, 1) := by decide +kernel
theorem dX10_clear_18 : decode cX10_clear 18 = .ok (.getfield 28, 3) := by decide +kernel
theorem dX10_clear_21 : decode cX10_clear 21 = .ok (.iload_n 1, 1) := by decide +kernel
theorem dX10_clear_22 : decode cX10_clear 22 = .ok (.iconst 0, 1) := by decide +kernel
theorem dX10_clear_23 : decode cX10_clear 23 = .ok (.iastore, 1) := by decide +kernel
theorem dX10_clear_24 : decode cX10_clear 24 = .ok (.iinc 1 1, 3) := by decide +kernel
theorem dX10_clear_27 : decode cX10_clear 27 = .ok (.goto (-15), 3) := by decide +kernel
theorem dX10_clear_30 : decode cX10_clear 30 = .ok (.iconst 0, 1) := by decide +kernel
theorem dX10_clear_31 : decode cX10_clear 31 = .ok (.istore_n 1, 1) := by decide +kernel
theorem dX10_clear_32 : decode cX10_clear 32 = .ok (.iload_n 1, 1) := by decide +kernel
theorem dX10_clear_33 : decode cX10_clear 33 = .ok (.iconst 4, 1) := by decide +kernel
theorem dX10_clear_34 : decode cX10_clear 34 = .ok (.if_icmp .ge 16, 3) := by decide +kernel
theorem dX10_clear_37 : decode cX10_clear 37 = .ok (.aload_n 0, 1) := by decide +kernel
theorem dX10_clear_38 : decode cX10_clear 38 = .ok (.getfield 31, 3) := by decide +kernel
theorem dX10_clear_41 : decode cX10_clear 41 = .ok (.iload_n 1, 1) := by decide +kernel
theorem dX10_clear_42 : decode cX10_clear 42 = .ok (.iconst 0, 1) := by decide +kernel
theorem dX10_clear_43 : decode cX10_clear 43 = .ok (.iastore, 1) := by decide +kernel
theorem dX10_clear_44 : decode cX10_clear 44 = .ok (.iinc 1 1, 3) := by decide +kernel
theorem dX10_clear_47 : decode cX10_clear 47 = .ok (.goto (-15), 3) := by decide +kernel
theorem dX10_clear_50 : decode cX10_clear 50 = .ok (.return_, 1) := by decide +kernel
theorem dX10_isNext_0 : decode cX10_isNext 0 = .ok (.aload_n 1, 1) := by decide +kernel
theorem dX10_isNext_1 : decode cX10_isNext 1 = .ok (.getfield 86, 3) := by decide +kernel
theorem dX10_isNext_4 : decode cX10_isNext 4 = .ok (.iload_n 2, 1) := by decide +kernel
theorem dX10_isNext_5 : decode cX10_isNext 5 = .ok (.iaload, 1) := by decide +kernel
theorem dX10_isNext_6 : decode cX10_isNext 6 = .ok (.istore_n 3, 1) := by decide +kernel
theorem dX10_isNext_7 : decode cX10_isNext 7 = .ok (.aload_n 0, 1) := by decide +kernel
theorem dX10_isNext_8 : decode cX10_isNext 8 = .ok (.getfield 31, 3) := by decide +kernel
theorem dX10_isNext_11 : decode cX10_isNext 11 = .ok (.iload_n 3, 1) := by decide +kernel
theorem dX10_isNext_12 : decode cX10_isNext 12 = .ok (.iaload, 1) := by decide +kernel
theorem dX10_isNext_13 : decode cX10_isNext 13 = .ok (.istore 4, 2) := by decide +kernel
theorem dX10_isNext_15 : decode cX10_isNext 15 = .ok (.aload_n 0, 1) := by decide +kernel
theorem dX10_isNext_16 : decode cX10_isNext 16 = .ok (.getfield 24, 3) := by decide +kernel
theorem dX10_isNext_19 : decode cX10_isNext 19 = .ok (.iload_n 3, 1) := by decide +kernel
theorem dX10_isNext_20 : decode cX10_isNext 20 = .ok (.baload, 1) := by decide +kernel
theorem dX10_isNext_21 : decode cX10_isNext 21 = .ok (.ifCond .ne 33, 3) := by decide +kernel
theorem dX10_isNext_24 : decode cX10_isNext 24 = .ok (.iload 4, 2) := by decide +kernel
theorem dX10_isNext_26 : decode cX10_isNext 26 = .ok (.aload_n 1, 1) := by decide +kernel
theorem dX10_isNext_27 : decode cX10_isNext 27 = .ok (.getfield 89, 3) := by decide +kernel
theorem dX10_isNext_30 : decode cX10_isNext 30 = .ok (.getfield 93, 3) := by decide +kernel
theorem dX10_isNext_33 : decode cX10_isNext 33 = .ok (.iload_n 3, 1) := by decide +kernel
theorem dX10_isNext_34 : decode cX10_isNext 34 = .ok (.iaload, 1) := by decide +kernel
theorem dX10_isNext_35 : decode cX10_isNext 35 = .ok (.if_icmp .ge 23, 3) := by decide +kernel
theorem dX10_isNext_38 : decode cX10_isNext 38 = .ok (.aload_n 1, 1) := by decide +kernel
theorem dX10_isNext_39 : decode cX10_isNext 39 = .ok (.getfield 89, 3) := by decide +kernel
theorem dX10_isNext_42 : decode cX10_isNext 42 = .ok (.getfield 98, 3) := by decide +kernel
theorem dX10_isNext_45 : decode cX10_isNext 45 = .ok (.iload_n 3, 1) := by decide +kernel
theorem dX10_isNext_46 : decode cX10_isNext 46 = .ok (.aaload, 1) := by decide +kernel
theorem dX10_isNext_47 : decode cX10_isNext 47 = .ok (.iload 4, 2) := by decide +kernel
theorem dX10_isNext_49 : decode cX10_isNext 49 = .ok (.iaload, 1) := by decide +kernel
theorem dX10_isNext_50 : decode cX10_isNext 50 = .ok (.iload_n 2, 1) := by decide +kernel
theorem dX10_isNext_51 : decode cX10_isNext 51 = .ok (.if_icmp .ne 7, 3) := by decide +kernel
theorem dX10_isNext_54 : decode cX10_isNext 54 = .ok (.iconst 1, 1) := by decide +kernel
theorem dX10_isNext_55 : decode cX10_isNext 55 = .ok (.goto 4, 3) := by decide +kernel
theorem dX10_isNext_58 : decode cX10_isNext 58 = .ok (.iconst 0, 1) := by decide +kernel
theorem dX10_isNext_59 : decode cX10_isNext 59 = .ok (.ireturn, 1) := by decide +kernel
theorem dX10_place_0 : decode cX10_place 0 = .ok (.aload_n 1, 1) := by decide +kernel
theorem dX10_place_1 : decode cX10_place 1 = .ok (.getfield 86, 3) := by decide +kernel
theorem dX10_place_4 : decode cX10_place 4 = .ok (.iload_n 2, 1) := by decide +kernel
theorem dX10_place_5 : decode cX10_place 5 = .ok (.iaload, 1) := by decide +kernel
theorem dX10_place_6 : decode cX10_place 6 = .ok (.istore_n 3, 1) := by decide +kernel
theorem dX10_place_7 : decode cX10_place 7 = .ok (.aload_n 0, 1) := by decide +kernel
theorem dX10_place_8 : decode cX10_place 8 = .ok (.getfield 31, 3) := by decide +kernel
theorem dX10_place_11 : decode cX10_place 11 = .ok (.iload_n 3, 1) := by decide +kernel
theorem dX10_place_12 : decode cX10_place 12 = .ok (.iaload, 1) := by decide +kernel
theorem dX10_place_13 : decode cX10_place 13 = .ok (.istore 4, 2) := by decide +kernel
theorem dX10_place_15 : decode cX10_place 15 = .ok (.iload 4, 2) := by decide +kernel
theorem dX10_place_17 : decode cX10_place 17 = .ok (.ifCond .le 16, 3) := by decide +kernel
theorem dX10_place_20 : decode cX10_place 20 = .ok (.aload_n 0, 1) := by decide +kernel
theorem dX10_place_21 : decode cX10_place 21 = .ok (.getfield 24, 3) := by decide +kernel
theorem dX10_place_24 : decode cX10_place 24 = .ok (.iload_n 3, 1) := by decide +kernel
theorem dX10_place_25 : decode cX10_place 25 = .ok (.baload, 1) := by decide +kernel
theorem dX10_place_26 : decode cX10_place 26 = .ok (.ifCond .ne 7, 3) := by decide +kernel
theorem dX10_place_29 : decode cX10_place 29 = .ok (.iconst 1, 1) := by decide +kernel
theorem dX10_place_30 : decode cX10_place 30 = .ok (.goto 4, 3) := by decide +kernel
theorem dX10_place_33 : decode cX10_place 33 = .ok (.iconst 0, 1) := by decide +kernel
theorem dX10_place_34 : decode cX10_place 34 = .ok (.istore 5, 2) := by decide +kernel
theorem dX10_place_36 : decode cX10_place 36 = .ok (.iload 5, 2) := by decide +kernel
theorem dX10_place_38 : decode cX10_place 38 = .ok (.ifCond .eq 20, 3) := by decide +kernel
theorem dX10_place_41 : decode cX10_place 41 = .ok (.aload_n 1, 1) := by decide +kernel
theorem dX10_place_42 : decode cX10_place 42 = .ok (.getfield 89, 3) := by decide +kernel
theorem dX10_place_45 : decode cX10_place 45 = .ok (.getfield 98, 3) := by decide +kernel
theorem dX10_place_48 : decode cX10_place 48 = .ok (.iload_n 3, 1) := by decide +kernel
theorem dX10_place_49 : decode cX10_place 49 = .ok (.aaload, 1) := by decide +kernel
theorem dX10_place_50 : decode cX10_place 50 = .ok (.iload 4, 2) := by decide +kernel
theorem dX10_place_52 : decode cX10_place 52 = .ok (.iconst 1, 1) := by decide +kernel
theorem dX10_place_53 : decode cX10_place 53 = .ok (.isub, 1) := by decide +kernel
theorem dX10_place_54 : decode cX10_place 54 = .ok (.iaload, 1) := by decide +kernel
theorem dX10_place_55 : decode cX10_place 55 = .ok (.goto 4, 3) := by decide +kernel
theorem dX10_place_58 : decode cX10_place 58 = .ok (.iconst (-1), 1) := by decide +kernel
theorem dX10_place_59 : decode cX10_place 59 = .ok (.istore 6, 2) := by decide +kernel
theorem dX10_place_61 : decode cX10_place 61 = .ok (.aload_n 1, 1) := by decide +kernel
theorem dX10_place_62 : decode cX10_place 62 = .ok (.iload_n 2, 1) := by decide +kernel
theorem dX10_place_63 : decode cX10_place 63 = .ok (.iload 6, 2) := by decide +kernel
theorem dX10_place_65 : decode cX10_place 65 = .ok (.aload_n 0, 1) := by decide +kernel
theorem dX10_place_66 : decode cX10_place 66 = .ok (.getfield 18, 3) := by decide +kernel
theorem dX10_place_69 : decode cX10_place 69 = .ok (.invokevirtual 101, 3) := by decide +kernel
theorem dX10_place_72 : decode cX10_place 72 = .ok (.istore 7, 2) := by decide +kernel
theorem dX10_place_74 : decode cX10_place 74 = .ok (.iload_n 2, 1) := by decide +kernel
theorem dX10_place_75 : decode cX10_place 75 = .ok (.aload_n 0, 1) := by decide +kernel
theorem dX10_place_76 : decode cX10_place 76 = .ok (.getfield 34, 3) := by decide +kernel
theorem dX10_place_79 : decode cX10_place 79 = .ok (.if_icmp .ne 15, 3) := by decide +kernel
theorem dX10_place_82 : decode cX10_place 82 = .ok (.iload 7, 2) := by decide +kernel
theorem dX10_place_84 : decode cX10_place 84 = .ok (.aload_n 0, 1) := by decide +kernel
theorem dX10_place_85 : decode cX10_place 85 = .ok (.getfield 67, 3) := by decide +kernel
theorem dX10_place_88 : decode cX10_place 88 = .ok (.invokestatic 105, 3) := by decide +kernel
theorem dX10_place_91 : decode cX10_place 91 = .ok (.goto 5, 3) := by decide +kernel
theorem dX10_place_94 : decode cX10_place 94 = .ok (.iload 7, 2) := by decide +kernel
theorem dX10_place_96 : decode cX10_place 96 = .ok (.istore 8, 2) := by decide +kernel
theorem dX10_place_98 : decode cX10_place 98 = .ok (.aload_n 0, 1) := by decide +kernel
theorem dX10_place_99 : decode cX10_place 99 = .ok (.getfield 9, 3) := by decide +kernel
theorem dX10_place_102 : decode cX10_place 102 = .ok (.iload_n 2, 1) := by decide +kernel
theorem dX10_place_103 : decode cX10_place 103 = .ok (.iload 7, 2) := by decide +kernel
theorem dX10_place_105 : decode cX10_place 105 = .ok (.iastore, 1) := by decide +kernel
theorem dX10_place_106 : decode cX10_place 106 = .ok (.aload_n 0, 1) := by decide +kernel
theorem dX10_place_107 : decode cX10_place 107 = .ok (.getfield 15, 3) := by decide +kernel
theorem dX10_place_110 : decode cX10_place 110 = .ok (.iload_n 2, 1) := by decide +kernel
theorem dX10_place_111 : decode cX10_place 111 = .ok (.aload_n 1, 1) := by decide +kernel
theorem dX10_place_112 : decode cX10_place 112 = .ok (.iload_n 2, 1) := by decide +kernel
theorem dX10_place_113 : decode cX10_place 113 = .ok (.iload 8, 2) := by decide +kernel
theorem dX10_place_115 : decode cX10_place 115 = .ok (.invokevirtual 111, 3) := by decide +kernel
theorem dX10_place_118 : decode cX10_place 118 = .ok (.iastore, 1) := by decide +kernel
theorem dX10_place_119 : decode cX10_place 119 = .ok (.aload_n 0, 1) := by decide +kernel
theorem dX10_place_120 : decode cX10_place 120 = .ok (.getfield 18, 3) := by decide +kernel
theorem dX10_place_123 : decode cX10_place 123 = .ok (.iload_n 2, 1) := by decide +kernel
theorem dX10_place_124 : decode cX10_place 124 = .ok (.aload_n 0, 1) := by decide +kernel
theorem dX10_place_125 : decode cX10_place 125 = .ok (.getfield 15, 3) := by decide +kernel
theorem dX10_place_128 : decode cX10_place 128 = .ok (.iload_n 2, 1) := by decide +kernel
theorem dX10_place_129 : decode cX10_place 129 = .ok (.iaload, 1) := by decide +kernel
theorem dX10_place_130 : decode cX10_place 130 = .ok (.aload_n 1, 1) := by decide +kernel
theorem dX10_place_131 : decode cX10_place 131 = .ok (.getfield 114, 3) := by decide +kernel
theorem dX10_place_134 : decode cX10_place 134 = .ok (.iload_n 2, 1) := by decide +kernel
theorem dX10_place_135 : decode cX10_place 135 = .ok (.iaload, 1) := by decide +kernel
theorem dX10_place_136 : decode cX10_place 136 = .ok (.iadd, 1) := by decide +kernel
theorem dX10_place_137 : decode cX10_place 137 = .ok (.iastore, 1) := by decide +kernel
theorem dX10_place_138 : decode cX10_place 138 = .ok (.aload_n 0, 1) := by decide +kernel
theorem dX10_place_139 : decode cX10_place 139 = .ok (.aload_n 0, 1) := by decide +kernel
theorem dX10_place_140 : decode cX10_place 140 = .ok (.getfield 83, 3) := by decide +kernel
theorem dX10_place_143 : decode cX10_place 143 = .ok (.aload_n 0, 1) := by decide +kernel
theorem dX10_place_144 : decode cX10_place 144 = .ok (.getfield 18, 3) := by decide +kernel
theorem dX10_place_147 : decode cX10_place 147 = .ok (.iload_n 2, 1) := by decide +kernel
theorem dX10_place_148 : decode cX10_place 148 = .ok (.iaload, 1) := by decide +kernel
theorem dX10_place_149 : decode cX10_place 149 = .ok (.invokestatic 105, 3) := by decide +kernel
theorem dX10_place_152 : decode cX10_place 152 = .ok (.putfield 83, 3) := by decide +kernel
theorem dX10_place_155 : decode cX10_place 155 = .ok (.aload_n 0, 1) := by decide +kernel
theorem dX10_place_156 : decode cX10_place 156 = .ok (.getfield 21, 3) := by decide +kernel
theorem dX10_place_159 : decode cX10_place 159 = .ok (.iload_n 2, 1) := by decide +kernel
theorem dX10_place_160 : decode cX10_place 160 = .ok (.iload 6, 2) := by decide +kernel
theorem dX10_place_162 : decode cX10_place 162 = .ok (.iastore, 1) := by decide +kernel
theorem dX10_place_163 : decode cX10_place 163 = .ok (.aload_n 0, 1) := by decide +kernel
theorem dX10_place_164 : decode cX10_place 164 = .ok (.getfield 31, 3) := by decide +kernel
theorem dX10_place_167 : decode cX10_place 167 = .ok (.iload_n 3, 1) := by decide +kernel
theorem dX10_place_168 : decode cX10_place 168 = .ok (.iload 4, 2) := by decide +kernel
theorem dX10_place_170 : decode cX10_place 170 = .ok (.iconst 1, 1) := by decide +kernel
theorem dX10_place_171 : decode cX10_place 171 = .ok (.iadd, 1) := by decide +kernel
theorem dX10_place_172 : decode cX10_place 172 = .ok (.iastore, 1) := by decide +kernel
theorem dX10_place_173 : decode cX10_place 173 = .ok (.aload_n 0, 1) := by decide +kernel
theorem dX10_place_174 : decode cX10_place 174 = .ok (.dup, 1) := by decide +kernel
theorem dX10_place_175 : decode cX10_place 175 = .ok (.getfield 41, 3) := by decide +kernel
theorem dX10_place_178 : decode cX10_place 178 = .ok (.iconst 1, 1) := by decide +kernel
theorem dX10_place_179 : decode cX10_place 179 = .ok (.iadd, 1) := by decide +kernel
theorem dX10_place_180 : decode cX10_place 180 = .ok (.putfield 41, 3) := by decide +kernel
theorem dX10_place_183 : decode cX10_place 183 = .ok (.return_, 1) := by decide +kernel
