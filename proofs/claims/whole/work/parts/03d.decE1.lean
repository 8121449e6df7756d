theorem dX12_objective_0 : decode cX12_objective 0 = .ok (.aload_n 0, 1) := by decide +kernel
theorem dX12_objective_1 : decode cX12_objective 1 = .ok (.iload_n 1, 1) := by decide +kernel
theorem dX12_objective_2 : decode cX12_objective 2 = .ok (.i2l, 1) := by decide +kernel
theorem dX12_objective_3 : decode cX12_objective 3 = .ok (.lconst 0, 1) := by decide +kernel
theorem dX12_objective_4 : decode cX12_objective 4 = .ok (.ldc2_w 194, 3) := by decide +kernel
theorem dX12_objective_7 : decode cX12_objective 7 = .ok (.invokestatic 82, 3) := by decide +kernel
theorem dX12_objective_10 : decode cX12_objective 10 = .ok (.ifCond .eq 7, 3) := by decide +kernel
theorem dX12_objective_13 : decode cX12_objective 13 = .ok (.iconst 0, 1) := by decide +kernel
theorem dX12_objective_14 : decode cX12_objective 14 = .ok (.goto 4, 3) := by decide +kernel
theorem dX12_objective_17 : decode cX12_objective 17 = .ok (.iconst 1, 1) := by decide +kernel
theorem dX12_objective_18 : decode cX12_objective 18 = .ok (.putfield 79, 3) := by decide +kernel
theorem dX12_objective_21 : decode cX12_objective 21 = .ok (.aload_n 0, 1) := by decide +kernel
theorem dX12_objective_22 : decode cX12_objective 22 = .ok (.getfield 79, 3) := by decide +kernel
theorem dX12_objective_25 : decode cX12_objective 25 = .ok (.ifCond .le 5, 3) := by decide +kernel
theorem dX12_objective_28 : decode cX12_objective 28 = .ok (.iconst 0, 1) := by decide +kernel
theorem dX12_objective_29 : decode cX12_objective 29 = .ok (.ireturn, 1) := by decide +kernel
theorem dX12_objective_30 : decode cX12_objective 30 = .ok (.aload_n 0, 1) := by decide +kernel
theorem dX12_objective_31 : decode cX12_objective 31 = .ok (.invokevirtual 181, 3) := by decide +kernel
theorem dX12_objective_34 : decode cX12_objective 34 = .ok (.istore_n 2, 1) := by decide +kernel
theorem dX12_objective_35 : decode cX12_objective 35 = .ok (.iload_n 1, 1) := by decide +kernel
theorem dX12_objective_36 : decode cX12_objective 36 = .ok (.iconst 3, 1) := by decide +kernel
theorem dX12_objective_37 : decode cX12_objective 37 = .ok (.if_icmp .ne 8, 3) := by decide +kernel
theorem dX12_objective_40 : decode cX12_objective 40 = .ok (.aload_n 0, 1) := by decide +kernel
theorem dX12_objective_41 : decode cX12_objective 41 = .ok (.invokevirtual 196, 3) := by decide +kernel
theorem dX12_objective_44 : decode cX12_objective 44 = .ok (.ireturn, 1) := by decide +kernel
theorem dX12_objective_45 : decode cX12_objective 45 = .ok (.iconst 0, 1) := by decide +kernel
theorem dX12_objective_46 : decode cX12_objective 46 = .ok (.istore_n 3, 1) := by decide +kernel
theorem dX12_objective_47 : decode cX12_objective 47 = .ok (.iconst 0, 1) := by decide +kernel
theorem dX12_objective_48 : decode cX12_objective 48 = .ok (.istore 4, 2) := by decide +kernel
theorem dX12_objective_50 : decode cX12_objective 50 = .ok (.iload 4, 2) := by decide +kernel
theorem dX12_objective_52 : decode cX12_objective 52 = .ok (.aload_n 0, 1) := by decide +kernel
theorem dX12_objective_53 : decode cX12_objective 53 = .ok (.getfield 9, 3) := by decide +kernel
theorem dX12_objective_56 : decode cX12_objective 56 = .ok (.iconst 1, 1) := by decide +kernel
theorem dX12_objective_57 : decode cX12_objective 57 = .ok (.iaload, 1) := by decide +kernel
theorem dX12_objective_58 : decode cX12_objective 58 = .ok (.if_icmp .ge 32, 3) := by decide +kernel
theorem dX12_objective_61 : decode cX12_objective 61 = .ok (.iload_n 1, 1) := by decide +kernel
theorem dX12_objective_62 : decode cX12_objective 62 = .ok (.iconst 4, 1) := by decide +kernel
theorem dX12_objective_63 : decode cX12_objective 63 = .ok (.if_icmp .ne 27, 3) := by decide +kernel
theorem dX12_objective_66 : decode cX12_objective 66 = .ok (.iload_n 3, 1) := by decide +kernel
theorem dX12_objective_67 : decode cX12_objective 67 = .ok (.aload_n 0, 1) := by decide +kernel
theorem dX12_objective_68 : decode cX12_objective 68 = .ok (.getfield 29, 3) := by decide +kernel
theorem dX12_objective_71 : decode cX12_objective 71 = .ok (.iload 4, 2) := by decide +kernel
theorem dX12_objective_73 : decode cX12_objective 73 = .ok (.iaload, 1) := by decide +kernel
theorem dX12_objective_74 : decode cX12_objective 74 = .ok (.aload_n 0, 1) := by decide +kernel
theorem dX12_objective_75 : decode cX12_objective 75 = .ok (.getfield 26, 3) := by decide +kernel
theorem dX12_objective_78 : decode cX12_objective 78 = .ok (.iload 4, 2) := by decide +kernel
theorem dX12_objective_80 : decode cX12_objective 80 = .ok (.iaload, 1) := by decide +kernel
theorem dX12_objective_81 : decode cX12_objective 81 = .ok (.isub, 1) := by decide +kernel
theorem dX12_objective_82 : decode cX12_objective 82 = .ok (.iadd, 1) := by decide +kernel
theorem dX12_objective_83 : decode cX12_objective 83 = .ok (.istore_n 3, 1) := by decide +kernel
theorem dX12_objective_84 : decode cX12_objective 84 = .ok (.iinc 4 1, 3) := by decide +kernel
theorem dX12_objective_87 : decode cX12_objective 87 = .ok (.goto (-37), 3) := by decide +kernel
theorem dX12_objective_90 : decode cX12_objective 90 = .ok (.iconst 0, 1) := by decide +kernel
theorem dX12_objective_91 : decode cX12_objective 91 = .ok (.istore 4, 2) := by decide +kernel
theorem dX12_objective_93 : decode cX12_objective 93 = .ok (.iload 4, 2) := by decide +kernel
theorem dX12_objective_95 : decode cX12_objective 95 = .ok (.aload_n 0, 1) := by decide +kernel
theorem dX12_objective_96 : decode cX12_objective 96 = .ok (.getfield 9, 3) := by decide +kernel
theorem dX12_objective_99 : decode cX12_objective 99 = .ok (.iconst 0, 1) := by decide +kernel
theorem dX12_objective_100 : decode cX12_objective 100 = .ok (.iaload, 1) := by decide +kernel
theorem dX12_objective_101 : decode cX12_objective 101 = .ok (.if_icmp .ge 84, 3) := by decide +kernel
theorem dX12_objective_104 : decode cX12_objective 104 = .ok (.iload_n 1, 1) := by decide +kernel
theorem dX12_objective_105 : decode cX12_objective 105 = .ok (.iconst 3, 1) := by decide +kernel
theorem dX12_objective_106 : decode cX12_objective 106 = .ok (.if_icmp .ge 79, 3) := by decide +kernel
theorem dX12_objective_109 : decode cX12_objective 109 = .ok (.iconst 0, 1) := by decide +kernel
theorem dX12_objective_110 : decode cX12_objective 110 = .ok (.aload_n 0, 1) := by decide +kernel
theorem dX12_objective_111 : decode cX12_objective 111 = .ok (.iload 4, 2) := by decide +kernel
theorem dX12_objective_113 : decode cX12_objective 113 = .ok (.invokevirtual 191, 3) := by decide +kernel
theorem dX12_objective_116 : decode cX12_objective 116 = .ok (.aload_n 0, 1) := by decide +kernel
theorem dX12_objective_117 : decode cX12_objective 117 = .ok (.getfield 9, 3) := by decide +kernel
theorem dX12_objective_120 : decode cX12_objective 120 = .ok (.bipush 7, 2) := by decide +kernel
theorem dX12_objective_122 : decode cX12_objective 122 = .ok (.iload 4, 2) := by decide +kernel
theorem dX12_objective_124 : decode cX12_objective 124 = .ok (.iadd, 1) := by decide +kernel
theorem dX12_objective_125 : decode cX12_objective 125 = .ok (.iaload, 1) := by decide +kernel
theorem dX12_objective_126 : decode cX12_objective 126 = .ok (.isub, 1) := by decide +kernel
theorem dX12_objective_127 : decode cX12_objective 127 = .ok (.invokestatic 167, 3) := by decide +kernel
theorem dX12_objective_130 : decode cX12_objective 130 = .ok (.istore 5, 2) := by decide +kernel
theorem dX12_objective_132 : decode cX12_objective 132 = .ok (.iload_n 3, 1) := by decide +kernel
theorem dX12_objective_133 : decode cX12_objective 133 = .ok (.iload_n 1, 1) := by decide +kernel
theorem dX12_objective_134 : decode cX12_objective 134 = .ok (.ifCond .ne 12, 3) := by decide +kernel
theorem dX12_objective_137 : decode cX12_objective 137 = .ok (.aload_n 0, 1) := by decide +kernel
theorem dX12_objective_138 : decode cX12_objective 138 = .ok (.iload 4, 2) := by decide +kernel
theorem dX12_objective_140 : decode cX12_objective 140 = .ok (.invokevirtual 191, 3) := by decide +kernel
theorem dX12_objective_143 : decode cX12_objective 143 = .ok (.goto 34, 3) := by decide +kernel
theorem dX12_objective_146 : decode cX12_objective 146 = .ok (.iload_n 1, 1) := by decide +kernel
theorem dX12_objective_147 : decode cX12_objective 147 = .ok (.iconst 1, 1) := by decide +kernel
theorem dX12_objective_148 : decode cX12_objective 148 = .ok (.if_icmp .ne 19, 3) := by decide +kernel
theorem dX12_objective_151 : decode cX12_objective 151 = .ok (.aload_n 0, 1) := by decide +kernel
theorem dX12_objective_152 : decode cX12_objective 152 = .ok (.getfield 9, 3) := by decide +kernel
theorem dX12_objective_155 : decode cX12_objective 155 = .ok (.bipush 12, 2) := by decide +kernel
theorem dX12_objective_157 : decode cX12_objective 157 = .ok (.iload 4, 2) := by decide +kernel
theorem dX12_objective_159 : decode cX12_objective 159 = .ok (.iadd, 1) := by decide +kernel
theorem dX12_objective_160 : decode cX12_objective 160 = .ok (.iaload, 1) := by decide +kernel
theorem dX12_objective_161 : decode cX12_objective 161 = .ok (.iload 5, 2) := by decide +kernel
theorem dX12_objective_163 : decode cX12_objective 163 = .ok (.imul, 1) := by decide +kernel
theorem dX12_objective_164 : decode cX12_objective 164 = .ok (.goto 13, 3) := by decide +kernel
theorem dX12_objective_167 : decode cX12_objective 167 = .ok (.iload 5, 2) := by decide +kernel
theorem dX12_objective_169 : decode cX12_objective 169 = .ok (.ifCond .le 7, 3) := by decide +kernel
theorem dX12_objective_172 : decode cX12_objective 172 = .ok (.iconst 1, 1) := by decide +kernel
theorem dX12_objective_173 : decode cX12_objective 173 = .ok (.goto 4, 3) := by decide +kernel
theorem dX12_objective_176 : decode cX12_objective 176 = .ok (.iconst 0, 1) := by decide +kernel
theorem dX12_objective_177 : decode cX12_objective 177 = .ok (.iadd, 1) := by decide +kernel
theorem dX12_objective_178 : decode cX12_objective 178 = .ok (.istore_n 3, 1) := by decide +kernel
theorem dX12_objective_179 : decode cX12_objective 179 = .ok (.iinc 4 1, 3) := by decide +kernel
theorem dX12_objective_182 : decode cX12_objective 182 = .ok (.goto (-89), 3) := by decide +kernel
theorem dX12_objective_185 : decode cX12_objective 185 = .ok (.iload_n 3, 1) := by decide +kernel
theorem dX12_objective_186 : decode cX12_objective 186 = .ok (.ireturn, 1) := by decide +kernel
theorem dX12_utilization_0 : decode cX12_utilization 0 = .ok (.aload_n 0, 1) := by decide +kernel
theorem dX12_utilization_1 : decode cX12_utilization 1 = .ok (.iload_n 1, 1) := by decide +kernel
theorem dX12_utilization_2 : decode cX12_utilization 2 = .ok (.invokestatic 122, 3) := by decide +kernel
theorem dX12_utilization_5 : decode cX12_utilization 5 = .ok (.ifCond .eq 7, 3) := by decide +kernel
theorem dX12_utilization_8 : decode cX12_utilization 8 = .ok (.iconst 0, 1) := by decide +kernel
theorem dX12_utilization_9 : decode cX12_utilization 9 = .ok (.goto 4, 3) := by decide +kernel
theorem dX12_utilization_12 : decode cX12_utilization 12 = .ok (.iconst 1, 1) := by decide +kernel
theorem dX12_utilization_13 : decode cX12_utilization 13 = .ok (.putfield 79, 3) := by decide +kernel
theorem dX12_utilization_16 : decode cX12_utilization 16 = .ok (.aload_n 0, 1) := by decide +kernel
theorem dX12_utilization_17 : decode cX12_utilization 17 = .ok (.getfield 79, 3) := by decide +kernel
theorem dX12_utilization_20 : decode cX12_utilization 20 = .ok (.ifCond .le 5, 3) := by decide +kernel
theorem dX12_utilization_23 : decode cX12_utilization 23 = .ok (.dconst 0, 1) := by decide +kernel
theorem dX12_utilization_24 : decode cX12_utilization 24 = .ok (.dreturn, 1) := by decide +kernel
theorem dX12_utilization_25 : decode cX12_utilization 25 = .ok (.iconst 0, 1) := by decide +kernel
theorem dX12_utilization_26 : decode cX12_utilization 26 = .ok (.istore_n 2, 1) := by decide +kernel
theorem dX12_utilization_27 : decode cX12_utilization 27 = .ok (.iconst 0, 1) := by decide +kernel
theorem dX12_utilization_28 : decode cX12_utilization 28 = .ok (.istore_n 3, 1) := by decide +kernel
theorem dX12_utilization_29 : decode cX12_utilization 29 = .ok (.iload_n 3, 1) := by decide +kernel
theorem dX12_utilization_30 : decode cX12_utilization 30 = .ok (.aload_n 0, 1) := by decide +kernel
theorem dX12_utilization_31 : decode cX12_utilization 31 = .ok (.getfield 9, 3) := by decide +kernel
theorem dX12_utilization_34 : decode cX12_utilization 34 = .ok (.sipush 179, 3) := by decide +kernel
theorem dX12_utilization_37 : decode cX12_utilization 37 = .ok (.iload_n 1, 1) := by decide +kernel
theorem dX12_utilization_38 : decode cX12_utilization 38 = .ok (.iadd, 1) := by decide +kernel
theorem dX12_utilization_39 : decode cX12_utilization 39 = .ok (.iaload, 1) := by decide +kernel
theorem dX12_utilization_40 : decode cX12_utilization 40 = .ok (.if_icmp .ge 26, 3) := by decide +kernel
theorem dX12_utilization_43 : decode cX12_utilization 43 = .ok (.iload_n 2, 1) := by decide +kernel
theorem dX12_utilization_44 : decode cX12_utilization 44 = .ok (.aload_n 0, 1) := by decide +kernel
theorem dX12_utilization_45 : decode cX12_utilization 45 = .ok (.getfield 9, 3) := by decide +kernel
theorem dX12_utilization_48 : decode cX12_utilization 48 = .ok (.bipush 82, 2) := by decide +kernel
theorem dX12_utilization_50 : decode cX12_utilization 50 = .ok (.aload_n 0, 1) := by decide +kernel
theorem dX12_utilization_51 : decode cX12_utilization 51 = .ok (.iload_n 1, 1) := by decide +kernel
theorem dX12_utilization_52 : decode cX12_utilization 52 = .ok (.iload_n 3, 1) := by decide +kernel
theorem dX12_utilization_53 : decode cX12_utilization 53 = .ok (.invokevirtual 142, 3) := by decide +kernel
theorem dX12_utilization_56 : decode cX12_utilization 56 = .ok (.iadd, 1) := by decide +kernel
theorem dX12_utilization_57 : decode cX12_utilization 57 = .ok (.iaload, 1) := by decide +kernel
theorem dX12_utilization_58 : decode cX12_utilization 58 = .ok (.iadd, 1) := by decide +kernel
theorem dX12_utilization_59 : decode cX12_utilization 59 = .ok (.istore_n 2, 1) := by decide +kernel
theorem dX12_utilization_60 : decode cX12_utilization 60 = .ok (.iinc 3 1, 3) := by decide +kernel
theorem dX12_utilization_63 : decode cX12_utilization 63 = .ok (.goto (-34), 3) := by decide +kernel
theorem dX12_utilization_66 : decode cX12_utilization 66 = .ok (.aload_n 0, 1) := by decide +kernel
theorem dX12_utilization_67 : decode cX12_utilization 67 = .ok (.invokevirtual 188, 3) := by decide +kernel
theorem dX12_utilization_70 : decode cX12_utilization 70 = .ok (.istore_n 3, 1) := by decide +kernel
theorem dX12_utilization_71 : decode cX12_utilization 71 = .ok (.iload_n 3, 1) := by decide +kernel
theorem dX12_utilization_72 : decode cX12_utilization 72 = .ok (.ifCond .ne 7, 3) := by decide +kernel
theorem dX12_utilization_75 : decode cX12_utilization 75 = .ok (.dconst 0, 1) := by decide +kernel
theorem dX12_utilization_76 : decode cX12_utilization 76 = .ok (.goto 8, 3) := by decide +kernel
theorem dX12_utilization_79 : decode cX12_utilization 79 = .ok (.iload_n 2, 1) := by decide +kernel
theorem dX12_utilization_80 : decode cX12_utilization 80 = .ok (.i2d, 1) := by decide +kernel
theorem dX12_utilization_81 : decode cX12_utilization 81 = .ok (.iload_n 3, 1) := by decide +kernel
theorem dX12_utilization_82 : decode cX12_utilization 82 = .ok (.i2d, 1) := by decide +kernel
theorem dX12_utilization_83 : decode cX12_utilization 83 = .ok (.ddiv, 1) := by decide +kernel
theorem dX12_utilization_84 : decode cX12_utilization 84 = .ok (.dreturn, 1) := by decide +kernel
theorem dX12_findPath_0 : decode cX12_findPath 0 = .ok (.aload_n 0, 1) := by decide +kernel
theorem dX12_findPath_1 : decode cX12_findPath 1 = .ok (.invokevirtual 181, 3) := by decide +kernel
theorem dX12_findPath_4 : decode cX12_findPath 4 = .ok (.istore_n 1, 1) := by decide +kernel
theorem dX12_findPath_5 : decode cX12_findPath 5 = .ok (.aload_n 0, 1) := by decide +kernel
theorem dX12_findPath_6 : decode cX12_findPath 6 = .ok (.iconst 0, 1) := by decide +kernel
theorem dX12_findPath_7 : decode cX12_findPath 7 = .ok (.putfield 199, 3) := by decide +kernel
theorem dX12_findPath_10 : decode cX12_findPath 10 = .ok (.iconst (-1), 1) := by decide +kernel
theorem dX12_findPath_11 : decode cX12_findPath 11 = .ok (.istore_n 2, 1) := by decide +kernel
theorem dX12_findPath_12 : decode cX12_findPath 12 = .ok (.iconst 0, 1) := by decide +kernel
theorem dX12_findPath_13 : decode cX12_findPath 13 = .ok (.istore_n 3, 1) := by decide +kernel
theorem dX12_findPath_14 : decode cX12_findPath 14 = .ok (.iload_n 3, 1) := by decide +kernel
theorem dX12_findPath_15 : decode cX12_findPath 15 = .ok (.aload_n 0, 1) := by decide +kernel
theorem dX12_findPath_16 : decode cX12_findPath 16 = .ok (.getfield 9, 3) := by decide +kernel
theorem dX12_findPath_19 : decode cX12_findPath 19 = .ok (.iconst 1, 1) := by decide +kernel
theorem dX12_findPath_20 : decode cX12_findPath 20 = .ok (.iaload, 1) := by decide +kernel
theorem dX12_findPath_21 : decode cX12_findPath 21 = .ok (.if_icmp .ge 33, 3) := by decide +kernel
theorem dX12_findPath_24 : decode cX12_findPath 24 = .ok (.iload_n 2, 1) := by decide +kernel
theorem dX12_findPath_25 : decode cX12_findPath 25 = .ok (.iconst (-1), 1) := by decide +kernel
theorem dX12_findPath_26 : decode cX12_findPath 26 = .ok (.if_icmp .eq 16, 3) := by decide +kernel
theorem dX12_findPath_29 : decode cX12_findPath 29 = .ok (.aload_n 0, 1) := by decide +kernel
theorem dX12_findPath_30 : decode cX12_findPath 30 = .ok (.iload_n 3, 1) := by decide +kernel
theorem dX12_findPath_31 : decode cX12_findPath 31 = .ok (.invokevirtual 164, 3) := by decide +kernel
theorem dX12_findPath_34 : decode cX12_findPath 34 = .ok (.aload_n 0, 1) := by decide +kernel
theorem dX12_findPath_35 : decode cX12_findPath 35 = .ok (.iload_n 2, 1) := by decide +kernel
theorem dX12_findPath_36 : decode cX12_findPath 36 = .ok (.invokevirtual 164, 3) := by decide +kernel
theorem dX12_findPath_39 : decode cX12_findPath 39 = .ok (.if_icmp .le 7, 3) := by decide +kernel
theorem dX12_findPath_42 : decode cX12_findPath 42 = .ok (.iload_n 3, 1) := by decide +kernel
theorem dX12_findPath_43 : decode cX12_findPath 43 = .ok (.goto 4, 3) := by decide +kernel
theorem dX12_findPath_46 : decode cX12_findPath 46 = .ok (.iload_n 2, 1) := by decide +kernel
theorem dX12_findPath_47 : decode cX12_findPath 47 = .ok (.istore_n 2, 1) := by decide +kernel
theorem dX12_findPath_48 : decode cX12_findPath 48 = .ok (.iinc 3 1, 3) := by decide +kernel
theorem dX12_findPath_51 : decode cX12_findPath 51 = .ok (.goto (-37), 3) := by decide +kernel
theorem dX12_findPath_54 : decode cX12_findPath 54 = .ok (.iload_n 2, 1) := by decide +kernel
theorem dX12_findPath_55 : decode cX12_findPath 55 = .ok (.iconst (-1), 1) := by decide +kernel
theorem dX12_findPath_56 : decode cX12_findPath 56 = .ok (.if_icmp .eq 99, 3) := by decide +kernel
theorem dX12_findPath_59 : decode cX12_findPath 59 = .ok (.aload_n 0, 1) := by decide +kernel
theorem dX12_findPath_60 : decode cX12_findPath 60 = .ok (.getfield 40, 3) := by decide +kernel
theorem dX12_findPath_63 : decode cX12_findPath 63 = .ok (.aload_n 0, 1) := by decide +kernel
theorem dX12_findPath_64 : decode cX12_findPath 64 = .ok (.getfield 199, 3) := by decide +kernel
theorem dX12_findPath_67 : decode cX12_findPath 67 = .ok (.iload_n 2, 1) := by decide +kernel
theorem dX12_findPath_68 : decode cX12_findPath 68 = .ok (.iastore, 1) := by decide +kernel
theorem dX12_findPath_69 : decode cX12_findPath 69 = .ok (.aload_n 0, 1) := by decide +kernel
theorem dX12_findPath_70 : decode cX12_findPath 70 = .ok (.dup, 1) := by decide +kernel
theorem dX12_findPath_71 : decode cX12_findPath 71 = .ok (.getfield 199, 3) := by decide +kernel
theorem dX12_findPath_74 : decode cX12_findPath 74 = .ok (.iconst 1, 1) := by decide +kernel
theorem dX12_findPath_75 : decode cX12_findPath 75 = .ok (.iadd, 1) := by decide +kernel
theorem dX12_findPath_76 : decode cX12_findPath 76 = .ok (.putfield 199, 3) := by decide +kernel
theorem dX12_findPath_79 : decode cX12_findPath 79 = .ok (.aload_n 0, 1) := by decide +kernel
theorem dX12_findPath_80 : decode cX12_findPath 80 = .ok (.iload_n 2, 1) := by decide +kernel
theorem dX12_findPath_81 : decode cX12_findPath 81 = .ok (.invokevirtual 151, 3) := by decide +kernel
theorem dX12_findPath_84 : decode cX12_findPath 84 = .ok (.istore_n 3, 1) := by decide +kernel
theorem dX12_findPath_85 : decode cX12_findPath 85 = .ok (.aload_n 0, 1) := by decide +kernel
theorem dX12_findPath_86 : decode cX12_findPath 86 = .ok (.iload_n 2, 1) := by decide +kernel
theorem dX12_findPath_87 : decode cX12_findPath 87 = .ok (.invokevirtual 157, 3) := by decide +kernel
theorem dX12_findPath_90 : decode cX12_findPath 90 = .ok (.istore 4, 2) := by decide +kernel
theorem dX12_findPath_92 : decode cX12_findPath 92 = .ok (.iload_n 3, 1) := by decide +kernel
theorem dX12_findPath_93 : decode cX12_findPath 93 = .ok (.iconst (-1), 1) := by decide +kernel
theorem dX12_findPath_94 : decode cX12_findPath 94 = .ok (.if_icmp .eq 22, 3) := by decide +kernel
theorem dX12_findPath_97 : decode cX12_findPath 97 = .ok (.aload_n 0, 1) := by decide +kernel
theorem dX12_findPath_98 : decode cX12_findPath 98 = .ok (.iload_n 3, 1) := by decide +kernel
theorem dX12_findPath_99 : decode cX12_findPath 99 = .ok (.invokevirtual 164, 3) := by decide +kernel
theorem dX12_findPath_102 : decode cX12_findPath 102 = .ok (.aload_n 0, 1) := by decide +kernel
theorem dX12_findPath_103 : decode cX12_findPath 103 = .ok (.getfield 26, 3) := by decide +kernel
theorem dX12_findPath_106 : decode cX12_findPath 106 = .ok (.iload_n 2, 1) := by decide +kernel
theorem dX12_findPath_107 : decode cX12_findPath 107 = .ok (.iaload, 1) := by decide +kernel
theorem dX12_findPath_108 : decode cX12_findPath 108 = .ok (.if_icmp .ne 8, 3) := by decide +kernel
theorem dX12_findPath_111 : decode cX12_findPath 111 = .ok (.iload_n 3, 1) := by decide +kernel
theorem dX12_findPath_112 : decode cX12_findPath 112 = .ok (.istore_n 2, 1) := by decide +kernel
theorem dX12_findPath_113 : decode cX12_findPath 113 = .ok (.goto 39, 3) := by decide +kernel
theorem dX12_findPath_116 : decode cX12_findPath 116 = .ok (.iload 4, 2) := by decide +kernel
theorem dX12_findPath_118 : decode cX12_findPath 118 = .ok (.iconst (-1), 1) := by decide +kernel
theorem dX12_findPath_119 : decode cX12_findPath 119 = .ok (.if_icmp .eq 31, 3) := by decide +kernel
theorem dX12_findPath_122 : decode cX12_findPath 122 = .ok (.aload_n 0, 1) := by decide +kernel
theorem dX12_findPath_123 : decode cX12_findPath 123 = .ok (.iload 4, 2) := by decide +kernel
theorem dX12_findPath_125 : decode cX12_findPath 125 = .ok (.invokevirtual 164, 3) := by decide +kernel
theorem dX12_findPath_128 : decode cX12_findPath 128 = .ok (.aload_n 0, 1) := by decide +kernel
theorem dX12_findPath_129 : decode cX12_findPath 129 = .ok (.iload 4, 2) := by decide +kernel
theorem dX12_findPath_131 : decode cX12_findPath 131 = .ok (.iload_n 2, 1) := by decide +kernel
theorem dX12_findPath_132 : decode cX12_findPath 132 = .ok (.invokevirtual 172, 3) := by decide +kernel
theorem dX12_findPath_135 : decode cX12_findPath 135 = .ok (.iadd, 1) := by decide +kernel
theorem dX12_findPath_136 : decode cX12_findPath 136 = .ok (.aload_n 0, 1) := by decide +kernel
theorem dX12_findPath_137 : decode cX12_findPath 137 = .ok (.getfield 26, 3) := by decide +kernel
theorem dX12_findPath_140 : decode cX12_findPath 140 = .ok (.iload_n 2, 1) := by decide +kernel
theorem dX12_findPath_141 : decode cX12_findPath 141 = .ok (.iaload, 1) := by decide +kernel
theorem dX12_findPath_142 : decode cX12_findPath 142 = .ok (.if_icmp .ne 8, 3) := by decide +kernel
theorem dX12_findPath_145 : decode cX12_findPath 145 = .ok (.iload 4, 2) := by decide +kernel
theorem dX12_findPath_147 : decode cX12_findPath 147 = .ok (.goto 4, 3) := by decide +kernel
theorem dX12_findPath_150 : decode cX12_findPath 150 = .ok (.iconst (-1), 1) := by decide +kernel
theorem dX12_findPath_151 : decode cX12_findPath 151 = .ok (.istore_n 2, 1) := by decide +kernel
theorem dX12_findPath_152 : decode cX12_findPath 152 = .ok (.goto (-98), 3) := by decide +kernel
theorem dX12_findPath_155 : decode cX12_findPath 155 = .ok (.return_, 1) := by decide +kernel
theorem dX12_onPath_0 : decode cX12_onPath 0 = .ok (.aload_n 0, 1) := by decide +kernel
theorem dX12_onPath_1 : decode cX12_onPath 1 = .ok (.getfield 40, 3) := by decide +kernel
theorem dX12_onPath_4 : decode cX12_onPath 4 = .ok (.aload_n 0, 1) := by decide +kernel
theorem dX12_onPath_5 : decode cX12_onPath 5 = .ok (.getfield 199, 3) := by decide +kernel
theorem dX12_onPath_8 : decode cX12_onPath 8 = .ok (.iconst 1, 1) := by decide +kernel
theorem dX12_onPath_9 : decode cX12_onPath 9 = .ok (.isub, 1) := by decide +kernel
theorem dX12_onPath_10 : decode cX12_onPath 10 = .ok (.iload_n 1, 1) := by decide +kernel
theorem dX12_onPath_11 : decode cX12_onPath 11 = .ok (.isub, 1) := by decide +kernel
theorem dX12_onPath_12 : decode cX12_onPath 12 = .ok (.iaload, 1) := by decide +kernel
theorem dX12_onPath_13 : decode cX12_onPath 13 = .ok (.ireturn, 1) := by decide +kernel
theorem dX12_pathLength_0 : decode cX12_pathLength 0 = .ok (.aload_n 0, 1) := by decide +kernel
theorem dX12_pathLength_1 : decode cX12_pathLength 1 = .ok (.iconst 0, 1) := by decide +kernel
theorem dX12_pathLength_2 : decode cX12_pathLength 2 = .ok (.putfield 79, 3) := by decide +kernel
theorem dX12_pathLength_5 : decode cX12_pathLength 5 = .ok (.aload_n 0, 1) := by decide +kernel
theorem dX12_pathLength_6 : decode cX12_pathLength 6 = .ok (.invokevirtual 202, 3) := by decide +kernel
theorem dX12_pathLength_9 : decode cX12_pathLength 9 = .ok (.aload_n 0, 1) := by decide +kernel
theorem dX12_pathLength_10 : decode cX12_pathLength 10 = .ok (.getfield 199, 3) := by decide +kernel
theorem dX12_pathLength_13 : decode cX12_pathLength 13 = .ok (.ireturn, 1) := by decide +kernel
theorem dX12_path_0 : decode cX12_path 0 = .ok (.aload_n 0, 1) := by decide +kernel
theorem dX12_path_1 : decode cX12_path 1 = .ok (.invokevirtual 202, 3) := by decide +kernel
theorem dX12_path_4 : decode cX12_path 4 = .ok (.aload_n 0, 1) := by decide +kernel
theorem dX12_path_5 : decode cX12_path 5 = .ok (.iload_n 1, 1) := by decide +kernel
theorem dX12_path_6 : decode cX12_path 6 = .ok (.i2l, 1) := by decide +kernel
theorem dX12_path_7 : decode cX12_path 7 = .ok (.lconst 0, 1) := by decide +kernel
theorem dX12_path_8 : decode cX12_path 8 = .ok (.aload_n 0, 1) := by decide +kernel
theorem dX12_path_9 : decode cX12_path 9 = .ok (.getfield 199, 3) := by decide +kernel
theorem dX12_path_12 : decode cX12_path 12 = .ok (.iconst 1, 1) := by decide +kernel
theorem dX12_path_13 : decode cX12_path 13 = .ok (.isub, 1) := by decide +kernel
theorem dX12_path_14 : decode cX12_path 14 = .ok (.i2l, 1) := by decide +kernel
theorem dX12_path_15 : decode cX12_path 15 = .ok (.invokestatic 82, 3) := by decide +kernel
theorem dX12_path_18 : decode cX12_path 18 = .ok (.ifCond .eq 7, 3) := by decide +kernel
theorem dX12_path_21 : decode cX12_path 21 = .ok (.iconst 0, 1) := by decide +kernel
theorem dX12_path_22 : decode cX12_path 22 = .ok (.goto 4, 3) := by decide +kernel
theorem dX12_path_25 : decode cX12_path 25 = .ok (.iconst 1, 1) := by decide +kernel
theorem dX12_path_26 : decode cX12_path 26 = .ok (.putfield 79, 3) := by decide +kernel
theorem dX12_path_29 : decode cX12_path 29 = .ok (.aload_n 0, 1) := by decide +kernel
theorem dX12_path_30 : decode cX12_path 30 = .ok (.getfield 79, 3) := by decide +kernel
theorem dX12_path_33 : decode cX12_path 33 = .ok (.ifCond .le 7, 3) := by decide +kernel
theorem dX12_path_36 : decode cX12_path 36 = .ok (.iconst 0, 1) := by decide +kernel
theorem dX12_path_37 : decode cX12_path 37 = .ok (.goto 8, 3) := by decide +kernel
theorem dX12_path_40 : decode cX12_path 40 = .ok (.aload_n 0, 1) := by decide +kernel
theorem dX12_path_41 : decode cX12_path 41 = .ok (.iload_n 1, 1) := by decide +kernel
theorem dX12_path_42 : decode cX12_path 42 = .ok (.invokevirtual 205, 3) := by decide +kernel
theorem dX12_path_45 : decode cX12_path 45 = .ok (.ireturn, 1) := by decide +kernel
theorem dX12_beginsBlock_0 : decode cX12_beginsBlock 0 = .ok (.iload_n 1, 1) := by decide +kernel
theorem dX12_beginsBlock_1 : decode cX12_beginsBlock 1 = .ok (.ifCond .eq 34, 3) := by decide +kernel
theorem dX12_beginsBlock_4 : decode cX12_beginsBlock 4 = .ok (.aload_n 0, 1) := by decide +kernel
theorem dX12_beginsBlock_5 : decode cX12_beginsBlock 5 = .ok (.getfield 9, 3) := by decide +kernel
theorem dX12_beginsBlock_8 : decode cX12_beginsBlock 8 = .ok (.bipush 62, 2) := by decide +kernel
theorem dX12_beginsBlock_10 : decode cX12_beginsBlock 10 = .ok (.aload_n 0, 1) := by decide +kernel
theorem dX12_beginsBlock_11 : decode cX12_beginsBlock 11 = .ok (.iload_n 1, 1) := by decide +kernel
theorem dX12_beginsBlock_12 : decode cX12_beginsBlock 12 = .ok (.invokevirtual 205, 3) := by decide +kernel
theorem dX12_beginsBlock_15 : decode cX12_beginsBlock 15 = .ok (.iadd, 1) := by decide +kernel
theorem dX12_beginsBlock_16 : decode cX12_beginsBlock 16 = .ok (.iaload, 1) := by decide +kernel
theorem dX12_beginsBlock_17 : decode cX12_beginsBlock 17 = .ok (.aload_n 0, 1) := by decide +kernel
theorem dX12_beginsBlock_18 : decode cX12_beginsBlock 18 = .ok (.getfield 9, 3) := by decide +kernel
theorem dX12_beginsBlock_21 : decode cX12_beginsBlock 21 = .ok (.bipush 62, 2) := by decide +kernel
theorem dX12_beginsBlock_23 : decode cX12_beginsBlock 23 = .ok (.aload_n 0, 1) := by decide +kernel
theorem dX12_beginsBlock_24 : decode cX12_beginsBlock 24 = .ok (.iload_n 1, 1) := by decide +kernel
theorem dX12_beginsBlock_25 : decode cX12_beginsBlock 25 = .ok (.iconst 1, 1) := by decide +kernel
theorem dX12_beginsBlock_26 : decode cX12_beginsBlock 26 = .ok (.isub, 1) := by decide +kernel
theorem dX12_beginsBlock_27 : decode cX12_beginsBlock 27 = .ok (.invokevirtual 205, 3) := by decide +kernel
theorem dX12_beginsBlock_30 : decode cX12_beginsBlock 30 = .ok (.iadd, 1) := by decide +kernel
theorem dX12_beginsBlock_31 : decode cX12_beginsBlock 31 = .ok (.iaload, 1) := by decide +kernel
theorem dX12_beginsBlock_32 : decode cX12_beginsBlock 32 = .ok (.if_icmp .eq 7, 3) := by decide +kernel
theorem dX12_beginsBlock_35 : decode cX12_beginsBlock 35 = .ok (.iconst 1, 1) := by decide +kernel
theorem dX12_beginsBlock_36 : decode cX12_beginsBlock 36 = .ok (.goto 4, 3) := by decide +kernel
theorem dX12_beginsBlock_39 : decode cX12_beginsBlock 39 = .ok (.iconst 0, 1) := by decide +kernel
theorem dX12_beginsBlock_40 : decode cX12_beginsBlock 40 = .ok (.ireturn, 1) := by decide +kernel
theorem dX12_blockMany_0 : decode cX12_blockMany 0 = .ok (.iconst 0, 1) := by decide +kernel
theorem dX12_blockMany_1 : decode cX12_blockMany 1 = .ok (.istore_n 1, 1) := by decide +kernel
theorem dX12_blockMany_2 : decode cX12_blockMany 2 = .ok (.iconst 0, 1) := by decide +kernel
theorem dX12_blockMany_3 : decode cX12_blockMany 3 = .ok (.istore_n 2, 1) := by decide +kernel
theorem dX12_blockMany_4 : decode cX12_blockMany 4 = .ok (.iload_n 2, 1) := by decide +kernel
theorem dX12_blockMany_5 : decode cX12_blockMany 5 = .ok (.aload_n 0, 1) := by decide +kernel
theorem dX12_blockMany_6 : decode cX12_blockMany 6 = .ok (.getfield 199, 3) := by decide +kernel
theorem dX12_blockMany_9 : decode cX12_blockMany 9 = .ok (.if_icmp .ge 25, 3) := by decide +kernel
theorem dX12_blockMany_12 : decode cX12_blockMany 12 = .ok (.iload_n 1, 1) := by decide +kernel
theorem dX12_blockMany_13 : decode cX12_blockMany 13 = .ok (.aload_n 0, 1) := by decide +kernel
theorem dX12_blockMany_14 : decode cX12_blockMany 14 = .ok (.iload_n 2, 1) := by decide +kernel
theorem dX12_blockMany_15 : decode cX12_blockMany 15 = .ok (.invokevirtual 208, 3) := by decide +kernel
theorem dX12_blockMany_18 : decode cX12_blockMany 18 = .ok (.ifCond .eq 7, 3) := by decide +kernel
theorem dX12_blockMany_21 : decode cX12_blockMany 21 = .ok (.iconst 1, 1) := by decide +kernel
theorem dX12_blockMany_22 : decode cX12_blockMany 22 = .ok (.goto 4, 3) := by decide +kernel
theorem dX12_blockMany_25 : decode cX12_blockMany 25 = .ok (.iconst 0, 1) := by decide +kernel
theorem dX12_blockMany_26 : decode cX12_blockMany 26 = .ok (.iadd, 1) := by decide +kernel
theorem dX12_blockMany_27 : decode cX12_blockMany 27 = .ok (.istore_n 1, 1) := by decide +kernel
theorem dX12_blockMany_28 : decode cX12_blockMany 28 = .ok (.iinc 2 1, 3) := by decide +kernel
theorem dX12_blockMany_31 : decode cX12_blockMany 31 = .ok (.goto (-27), 3) := by decide +kernel
theorem dX12_blockMany_34 : decode cX12_blockMany 34 = .ok (.iload_n 1, 1) := by decide +kernel
theorem dX12_blockMany_35 : decode cX12_blockMany 35 = .ok (.ireturn, 1) := by decide +kernel
theorem dX12_blocks_0 : decode cX12_blocks 0 = .ok (.aload_n 0, 1) := by decide +kernel
theorem dX12_blocks_1 : decode cX12_blocks 1 = .ok (.iconst 0, 1) := by decide +kernel
theorem dX12_blocks_2 : decode cX12_blocks 2 = .ok (.putfield 79, 3) := by decide +kernel
theorem dX12_blocks_5 : decode cX12_blocks 5 = .ok (.aload_n 0, 1) := by decide +kernel
theorem dX12_blocks_6 : decode cX12_blocks 6 = .ok (.invokevirtual 202, 3) := by decide +kernel
theorem dX12_blocks_9 : decode cX12_blocks 9 = .ok (.aload_n 0, 1) := by decide +kernel
theorem dX12_blocks_10 : decode cX12_blocks 10 = .ok (.invokevirtual 211, 3) := by decide +kernel
theorem dX12_blocks_13 : decode cX12_blocks 13 = .ok (.ireturn, 1) := by decide +kernel
theorem dX12_blockLength_0 : decode cX12_blockLength 0 = .ok (.aload_n 0, 1) := by decide +kernel
theorem dX12_blockLength_1 : decode cX12_blockLength 1 = .ok (.invokevirtual 202, 3) := by decide +kernel
theorem dX12_blockLength_4 : decode cX12_blockLength 4 = .ok (.aload_n 0, 1) := by decide +kernel
theorem dX12_blockLength_5 : decode cX12_blockLength 5 = .ok (.iload_n 1, 1) := by decide +kernel
theorem dX12_blockLength_6 : decode cX12_blockLength 6 = .ok (.i2l, 1) := by decide +kernel
theorem dX12_blockLength_7 : decode cX12_blockLength 7 = .ok (.lconst 0, 1) := by decide +kernel
theorem dX12_blockLength_8 : decode cX12_blockLength 8 = .ok (.aload_n 0, 1) := by decide +kernel
theorem dX12_blockLength_9 : decode cX12_blockLength 9 = .ok (.invokevirtual 211, 3) := by decide +kernel
theorem dX12_blockLength_12 : decode cX12_blockLength 12 = .ok (.iconst 1, 1) := by decide +kernel
theorem dX12_blockLength_13 : decode cX12_blockLength 13 = .ok (.isub, 1) := by decide +kernel
theorem dX12_blockLength_14 : decode cX12_blockLength 14 = .ok (.i2l, 1) := by decide +kernel
theorem dX12_blockLength_15 : decode cX12_blockLength 15 = .ok (.invokestatic 82, 3) := by decide +kernel
theorem dX12_blockLength_18 : decode cX12_blockLength 18 = .ok (.ifCond .eq 7, 3) := by decide +kernel
theorem dX12_blockLength_21 : decode cX12_blockLength 21 = .ok (.iconst 0, 1) := by decide +kernel
theorem dX12_blockLength_22 : decode cX12_blockLength 22 = .ok (.goto 4, 3) := by decide +kernel
theorem dX12_blockLength_25 : decode cX12_blockLength 25 = .ok (.iconst 1, 1) := by decide +kernel
theorem dX12_blockLength_26 : decode cX12_blockLength 26 = .ok (.putfield 79, 3) := by decide +kernel
theorem dX12_blockLength_29 : decode cX12_blockLength 29 = .ok (.aload_n 0, 1) := by decide +kernel
theorem dX12_blockLength_30 : decode cX12_blockLength 30 = .ok (.getfield 79, 3) := by decide +kernel
theorem dX12_blockLength_33 : decode cX12_blockLength 33 = .ok (.ifCond .le 5, 3) := by decide +kernel
theorem dX12_blockLength_36 : decode cX12_blockLength 36 = .ok (.iconst 0, 1) := by decide +kernel
theorem dX12_blockLength_37 : decode cX12_blockLength 37 = .ok (.ireturn, 1) := by decide +kernel
theorem dX12_blockLength_38 : decode cX12_blockLength 38 = .ok (.iconst (-1), 1) := by decide +kernel
theorem dX12_blockLength_39 : decode cX12_blockLength 39 = .ok (.istore_n 2, 1) := by decide +kernel
theorem dX12_blockLength_40 : decode cX12_blockLength 40 = .ok (.iconst 0, 1) := by decide +kernel
theorem dX12_blockLength_41 : decode cX12_blockLength 41 = .ok (.istore_n 3, 1) := by decide +kernel
theorem dX12_blockLength_42 : decode cX12_blockLength 42 = .ok (.iconst 0, 1) := by decide +kernel
theorem dX12_blockLength_43 : decode cX12_blockLength 43 = .ok (.istore 4, 2) := by decide +kernel
theorem dX12_blockLength_45 : decode cX12_blockLength 45 = .ok (.iload 4, 2) := by decide +kernel
theorem dX12_blockLength_47 : decode cX12_blockLength 47 = .ok (.aload_n 0, 1) := by decide +kernel
theorem dX12_blockLength_48 : decode cX12_blockLength 48 = .ok (.getfield 199, 3) := by decide +kernel
theorem dX12_blockLength_51 : decode cX12_blockLength 51 = .ok (.if_icmp .ge 39, 3) := by decide +kernel
theorem dX12_blockLength_54 : decode cX12_blockLength 54 = .ok (.iload_n 2, 1) := by decide +kernel
theorem dX12_blockLength_55 : decode cX12_blockLength 55 = .ok (.aload_n 0, 1) := by decide +kernel
theorem dX12_blockLength_56 : decode cX12_blockLength 56 = .ok (.iload 4, 2) := by decide +kernel
theorem dX12_blockLength_58 : decode cX12_blockLength 58 = .ok (.invokevirtual 208, 3) := by decide +kernel
theorem dX12_blockLength_61 : decode cX12_blockLength 61 = .ok (.ifCond .eq 7, 3) := by decide +kernel
theorem dX12_blockLength_64 : decode cX12_blockLength 64 = .ok (.iconst 1, 1) := by decide +kernel
theorem dX12_blockLength_65 : decode cX12_blockLength 65 = .ok (.goto 4, 3) := by decide +kernel
theorem dX12_blockLength_68 : decode cX12_blockLength 68 = .ok (.iconst 0, 1) := by decide +kernel
theorem dX12_blockLength_69 : decode cX12_blockLength 69 = .ok (.iadd, 1) := by decide +kernel
theorem dX12_blockLength_70 : decode cX12_blockLength 70 = .ok (.istore_n 2, 1) := by decide +kernel
theorem dX12_blockLength_71 : decode cX12_blockLength 71 = .ok (.iload_n 3, 1) := by decide +kernel
theorem dX12_blockLength_72 : decode cX12_blockLength 72 = .ok (.iload_n 2, 1) := by decide +kernel
theorem dX12_blockLength_73 : decode cX12_blockLength 73 = .ok (.iload_n 1, 1) := by decide +kernel
theorem dX12_blockLength_74 : decode cX12_blockLength 74 = .ok (.if_icmp .ne 7, 3) := by decide +kernel
theorem dX12_blockLength_77 : decode cX12_blockLength 77 = .ok (.iconst 1, 1) := by decide +kernel
theorem dX12_blockLength_78 : decode cX12_blockLength 78 = .ok (.goto 4, 3) := by decide +kernel
theorem dX12_blockLength_81 : decode cX12_blockLength 81 = .ok (.iconst 0, 1) := by decide +kernel
theorem dX12_blockLength_82 : decode cX12_blockLength 82 = .ok (.iadd, 1) := by decide +kernel
theorem dX12_blockLength_83 : decode cX12_blockLength 83 = .ok (.istore_n 3, 1) := by decide +kernel
theorem dX12_blockLength_84 : decode cX12_blockLength 84 = .ok (.iinc 4 1, 3) := by decide +kernel
theorem dX12_blockLength_87 : decode cX12_blockLength 87 = .ok (.goto (-42), 3) := by decide +kernel
theorem dX12_blockLength_90 : decode cX12_blockLength 90 = .ok (.iload_n 3, 1) := by decide +kernel
theorem dX12_blockLength_91 : decode cX12_blockLength 91 = .ok (.ireturn, 1) := by decide +kernel
theorem dX12_fail_0 : decode cX12_fail 0 = .ok (.aload_n 0, 1) := by decide +kernel
theorem dX12_fail_1 : decode cX12_fail 1 = .ok (.iload_n 1, 1) := by decide +kernel
theorem dX12_fail_2 : decode cX12_fail 2 = .ok (.putfield 214, 3) := by decide +kernel
theorem dX12_fail_5 : decode cX12_fail 5 = .ok (.aload_n 0, 1) := by decide +kernel
theorem dX12_fail_6 : decode cX12_fail 6 = .ok (.getfield 20, 3) := by decide +kernel
theorem dX12_fail_9 : decode cX12_fail 9 = .ok (.iconst 0, 1) := by decide +kernel
theorem dX12_fail_10 : decode cX12_fail 10 = .ok (.iload_n 2, 1) := by decide +kernel
theorem dX12_fail_11 : decode cX12_fail 11 = .ok (.iastore, 1) := by decide +kernel
theorem dX12_fail_12 : decode cX12_fail 12 = .ok (.aload_n 0, 1) := by decide +kernel
theorem dX12_fail_13 : decode cX12_fail 13 = .ok (.getfield 20, 3) := by decide +kernel
theorem dX12_fail_16 : decode cX12_fail 16 = .ok (.iconst 1, 1) := by decide +kernel
theorem dX12_fail_17 : decode cX12_fail 17 = .ok (.iload_n 3, 1) := by decide +kernel
theorem dX12_fail_18 : decode cX12_fail 18 = .ok (.iastore, 1) := by decide +kernel
theorem dX12_fail_19 : decode cX12_fail 19 = .ok (.aload_n 0, 1) := by decide +kernel
theorem dX12_fail_20 : decode cX12_fail 20 = .ok (.getfield 20, 3) := by decide +kernel
theorem dX12_fail_23 : decode cX12_fail 23 = .ok (.iconst 2, 1) := by decide +kernel
theorem dX12_fail_24 : decode cX12_fail 24 = .ok (.iload 4, 2) := by decide +kernel
theorem dX12_fail_26 : decode cX12_fail 26 = .ok (.iastore, 1) := by decide +kernel
theorem dX12_fail_27 : decode cX12_fail 27 = .ok (.aload_n 0, 1) := by decide +kernel
theorem dX12_fail_28 : decode cX12_fail 28 = .ok (.getfield 20, 3) := by decide +kernel
theorem dX12_fail_31 : decode cX12_fail 31 = .ok (.iconst 3, 1) := by decide +kernel
theorem dX12_fail_32 : decode cX12_fail 32 = .ok (.iload 5, 2) := by decide +kernel
theorem dX12_fail_34 : decode cX12_fail 34 = .ok (.iastore, 1) := by decide +kernel
theorem dX12_fail_35 : decode cX12_fail 35 = .ok (.return_, 1) := by decide +kernel
theorem dX12_failure_0 : decode cX12_failure 0 = .ok (.aload_n 0, 1) := by decide +kernel
theorem dX12_failure_1 : decode cX12_failure 1 = .ok (.iload_n 1, 1) := by decide +kernel
theorem dX12_failure_2 : decode cX12_failure 2 = .ok (.ifCond .ge 7, 3) := by decide +kernel
theorem dX12_failure_5 : decode cX12_failure 5 = .ok (.iconst 1, 1) := by decide +kernel
theorem dX12_failure_6 : decode cX12_failure 6 = .ok (.goto 4, 3) := by decide +kernel
theorem dX12_failure_9 : decode cX12_failure 9 = .ok (.iconst 0, 1) := by decide +kernel
theorem dX12_failure_10 : decode cX12_failure 10 = .ok (.putfield 79, 3) := by decide +kernel
theorem dX12_failure_13 : decode cX12_failure 13 = .ok (.aload_n 0, 1) := by decide +kernel
theorem dX12_failure_14 : decode cX12_failure 14 = .ok (.getfield 79, 3) := by decide +kernel
theorem dX12_failure_17 : decode cX12_failure 17 = .ok (.ifCond .le 5, 3) := by decide +kernel
theorem dX12_failure_20 : decode cX12_failure 20 = .ok (.iconst 0, 1) := by decide +kernel
theorem dX12_failure_21 : decode cX12_failure 21 = .ok (.ireturn, 1) := by decide +kernel
theorem dX12_failure_22 : decode cX12_failure 22 = .ok (.iload_n 1, 1) := by decide +kernel
theorem dX12_failure_23 : decode cX12_failure 23 = .ok (.aload_n 0, 1) := by decide +kernel
theorem dX12_failure_24 : decode cX12_failure 24 = .ok (.getfield 214, 3) := by decide +kernel
theorem dX12_failure_27 : decode cX12_failure 27 = .ok (.if_icmp .ge 12, 3) := by decide +kernel
theorem dX12_failure_30 : decode cX12_failure 30 = .ok (.aload_n 0, 1) := by decide +kernel
theorem dX12_failure_31 : decode cX12_failure 31 = .ok (.getfield 20, 3) := by decide +kernel
theorem dX12_failure_34 : decode cX12_failure 34 = .ok (.iload_n 1, 1) := by decide +kernel
theorem dX12_failure_35 : decode cX12_failure 35 = .ok (.iaload, 1) := by decide +kernel
theorem dX12_failure_36 : decode cX12_failure 36 = .ok (.goto 12, 3) := by decide +kernel
theorem dX12_failure_39 : decode cX12_failure 39 = .ok (.iload_n 1, 1) := by decide +kernel
theorem dX12_failure_40 : decode cX12_failure 40 = .ok (.ifCond .ne 7, 3) := by decide +kernel
theorem dX12_failure_43 : decode cX12_failure 43 = .ok (.iconst 0, 1) := by decide +kernel
theorem dX12_failure_44 : decode cX12_failure 44 = .ok (.goto 4, 3) := by decide +kernel
theorem dX12_failure_47 : decode cX12_failure 47 = .ok (.iconst (-1), 1) := by decide +kernel
theorem dX12_failure_48 : decode cX12_failure 48 = .ok (.ireturn, 1) := by decide +kernel
theorem dX12_exchange_0 : decode cX12_exchange 0 = .ok (.aload_n 0, 1) := by decide +kernel
theorem dX12_exchange_1 : decode cX12_exchange 1 = .ok (.iload_n 1, 1) := by decide +kernel
theorem dX12_exchange_2 : decode cX12_exchange 2 = .ok (.iload_n 2, 1) := by decide +kernel
theorem dX12_exchange_3 : decode cX12_exchange 3 = .ok (.invokevirtual 142, 3) := by decide +kernel
theorem dX12_exchange_6 : decode cX12_exchange 6 = .ok (.istore_n 3, 1) := by decide +kernel
theorem dX12_exchange_7 : decode cX12_exchange 7 = .ok (.aload_n 0, 1) := by decide +kernel
theorem dX12_exchange_8 : decode cX12_exchange 8 = .ok (.iload_n 1, 1) := by decide +kernel
theorem dX12_exchange_9 : decode cX12_exchange 9 = .ok (.iload_n 2, 1) := by decide +kernel
theorem dX12_exchange_10 : decode cX12_exchange 10 = .ok (.aload_n 0, 1) := by decide +kernel
theorem dX12_exchange_11 : decode cX12_exchange 11 = .ok (.iload_n 1, 1) := by decide +kernel
theorem dX12_exchange_12 : decode cX12_exchange 12 = .ok (.iload_n 2, 1) := by decide +kernel
theorem dX12_exchange_13 : decode cX12_exchange 13 = .ok (.iconst 1, 1) := by decide +kernel
theorem dX12_exchange_14 : decode cX12_exchange 14 = .ok (.iadd, 1) := by decide +kernel
theorem dX12_exchange_15 : decode cX12_exchange 15 = .ok (.invokevirtual 142, 3) := by decide +kernel
theorem dX12_exchange_18 : decode cX12_exchange 18 = .ok (.invokevirtual 114, 3) := by decide +kernel
theorem dX12_exchange_21 : decode cX12_exchange 21 = .ok (.aload_n 0, 1) := by decide +kernel
theorem dX12_exchange_22 : decode cX12_exchange 22 = .ok (.iload_n 1, 1) := by decide +kernel
theorem dX12_exchange_23 : decode cX12_exchange 23 = .ok (.iload_n 2, 1) := by decide +kernel
theorem dX12_exchange_24 : decode cX12_exchange 24 = .ok (.iconst 1, 1) := by decide +kernel
theorem dX12_exchange_25 : decode cX12_exchange 25 = .ok (.iadd, 1) := by decide +kernel
theorem dX12_exchange_26 : decode cX12_exchange 26 = .ok (.iload_n 3, 1) := by decide +kernel
theorem dX12_exchange_27 : decode cX12_exchange 27 = .ok (.invokevirtual 114, 3) := by decide +kernel
theorem dX12_exchange_30 : decode cX12_exchange 30 = .ok (.return_, 1) := by decide +kernel
theorem dX12_failsByCycle_0 : decode cX12_failsByCycle 0 = .ok (.aload_n 0, 1) := by decide +kernel
theorem dX12_failsByCycle_1 : decode cX12_failsByCycle 1 = .ok (.invokevirtual 181, 3) := by decide +kernel
theorem dX12_failsByCycle_4 : decode cX12_failsByCycle 4 = .ok (.istore_n 1, 1) := by decide +kernel
theorem dX12_failsByCycle_5 : decode cX12_failsByCycle 5 = .ok (.iload_n 1, 1) := by decide +kernel
theorem dX12_failsByCycle_6 : decode cX12_failsByCycle 6 = .ok (.ifCond .ne 5, 3) := by decide +kernel
theorem dX12_failsByCycle_9 : decode cX12_failsByCycle 9 = .ok (.iconst 0, 1) := by decide +kernel
theorem dX12_failsByCycle_10 : decode cX12_failsByCycle 10 = .ok (.ireturn, 1) := by decide +kernel
theorem dX12_failsByCycle_11 : decode cX12_failsByCycle 11 = .ok (.iconst 0, 1) := by decide +kernel
theorem dX12_failsByCycle_12 : decode cX12_failsByCycle 12 = .ok (.istore_n 2, 1) := by decide +kernel
theorem dX12_failsByCycle_13 : decode cX12_failsByCycle 13 = .ok (.aload_n 0, 1) := by decide +kernel
theorem dX12_failsByCycle_14 : decode cX12_failsByCycle 14 = .ok (.getfield 29, 3) := by decide +kernel
theorem dX12_failsByCycle_17 : decode cX12_failsByCycle 17 = .ok (.iload_n 2, 1) := by decide +kernel
theorem dX12_failsByCycle_18 : decode cX12_failsByCycle 18 = .ok (.iaload, 1) := by decide +kernel
theorem dX12_failsByCycle_19 : decode cX12_failsByCycle 19 = .ok (.ifCond .lt 9, 3) := by decide +kernel
theorem dX12_failsByCycle_22 : decode cX12_failsByCycle 22 = .ok (.iinc 2 1, 3) := by decide +kernel
theorem dX12_failsByCycle_25 : decode cX12_failsByCycle 25 = .ok (.goto (-12), 3) := by decide +kernel
theorem dX12_failsByCycle_28 : decode cX12_failsByCycle 28 = .ok (.aload_n 0, 1) := by decide +kernel
theorem dX12_failsByCycle_29 : decode cX12_failsByCycle 29 = .ok (.iconst 3, 1) := by decide +kernel
theorem dX12_failsByCycle_30 : decode cX12_failsByCycle 30 = .ok (.iconst 1, 1) := by decide +kernel
theorem dX12_failsByCycle_31 : decode cX12_failsByCycle 31 = .ok (.bipush 100, 2) := by decide +kernel
theorem dX12_failsByCycle_33 : decode cX12_failsByCycle 33 = .ok (.iload_n 2, 1) := by decide +kernel
theorem dX12_failsByCycle_34 : decode cX12_failsByCycle 34 = .ok (.iadd, 1) := by decide +kernel
theorem dX12_failsByCycle_35 : decode cX12_failsByCycle 35 = .ok (.iload_n 1, 1) := by decide +kernel
theorem dX12_failsByCycle_36 : decode cX12_failsByCycle 36 = .ok (.iconst 0, 1) := by decide +kernel
theorem dX12_failsByCycle_37 : decode cX12_failsByCycle 37 = .ok (.invokevirtual 217, 3) := by decide +kernel
theorem dX12_failsByCycle_40 : decode cX12_failsByCycle 40 = .ok (.iconst 1, 1) := by decide +kernel
theorem dX12_failsByCycle_41 : decode cX12_failsByCycle 41 = .ok (.ireturn, 1) := by decide +kernel
theorem dX12_swap_0 : decode cX12_swap 0 = .ok (.aload_n 0, 1) := by decide +kernel
theorem dX12_swap_1 : decode cX12_swap 1 = .ok (.iload_n 1, 1) := by decide +kernel
theorem dX12_swap_2 : decode cX12_swap 2 = .ok (.invokestatic 122, 3) := by decide +kernel
theorem dX12_swap_5 : decode cX12_swap 5 = .ok (.ifCond .ne 7, 3) := by decide +kernel
theorem dX12_swap_8 : decode cX12_swap 8 = .ok (.iconst 1, 1) := by decide +kernel
theorem dX12_swap_9 : decode cX12_swap 9 = .ok (.goto 30, 3) := by decide +kernel
theorem dX12_swap_12 : decode cX12_swap 12 = .ok (.iload_n 2, 1) := by decide +kernel
theorem dX12_swap_13 : decode cX12_swap 13 = .ok (.i2l, 1) := by decide +kernel
theorem dX12_swap_14 : decode cX12_swap 14 = .ok (.lconst 0, 1) := by decide +kernel
theorem dX12_swap_15 : decode cX12_swap 15 = .ok (.aload_n 0, 1) := by decide +kernel
theorem dX12_swap_16 : decode cX12_swap 16 = .ok (.getfield 9, 3) := by decide +kernel
theorem dX12_swap_19 : decode cX12_swap 19 = .ok (.sipush 179, 3) := by decide +kernel
theorem dX12_swap_22 : decode cX12_swap 22 = .ok (.iload_n 1, 1) := by decide +kernel
theorem dX12_swap_23 : decode cX12_swap 23 = .ok (.iadd, 1) := by decide +kernel
theorem dX12_swap_24 : decode cX12_swap 24 = .ok (.iaload, 1) := by decide +kernel
theorem dX12_swap_25 : decode cX12_swap 25 = .ok (.iconst 2, 1) := by decide +kernel
theorem dX12_swap_26 : decode cX12_swap 26 = .ok (.isub, 1) := by decide +kernel
theorem dX12_swap_27 : decode cX12_swap 27 = .ok (.i2l, 1) := by decide +kernel
theorem dX12_swap_28 : decode cX12_swap 28 = .ok (.invokestatic 82, 3) := by decide +kernel
theorem dX12_swap_31 : decode cX12_swap 31 = .ok (.ifCond .ne 7, 3) := by decide +kernel
theorem dX12_swap_34 : decode cX12_swap 34 = .ok (.iconst 2, 1) := by decide +kernel
theorem dX12_swap_35 : decode cX12_swap 35 = .ok (.goto 4, 3) := by decide +kernel
theorem dX12_swap_38 : decode cX12_swap 38 = .ok (.iconst 0, 1) := by decide +kernel
theorem dX12_swap_39 : decode cX12_swap 39 = .ok (.putfield 79, 3) := by decide +kernel
theorem dX12_swap_42 : decode cX12_swap 42 = .ok (.aload_n 0, 1) := by decide +kernel
theorem dX12_swap_43 : decode cX12_swap 43 = .ok (.getfield 79, 3) := by decide +kernel
theorem dX12_swap_46 : decode cX12_swap 46 = .ok (.ifCond .le 5, 3) := by decide +kernel
theorem dX12_swap_49 : decode cX12_swap 49 = .ok (.iconst 0, 1) := by decide +kernel
theorem dX12_swap_50 : decode cX12_swap 50 = .ok (.ireturn, 1) := by decide +kernel
theorem dX12_swap_51 : decode cX12_swap 51 = .ok (.aload_n 0, 1) := by decide +kernel
theorem dX12_swap_52 : decode cX12_swap 52 = .ok (.iload_n 1, 1) := by decide +kernel
theorem dX12_swap_53 : decode cX12_swap 53 = .ok (.iload_n 2, 1) := by decide +kernel
theorem dX12_swap_54 : decode cX12_swap 54 = .ok (.invokevirtual 221, 3) := by decide +kernel
theorem dX12_swap_57 : decode cX12_swap 57 = .ok (.aload_n 0, 1) := by decide +kernel
theorem dX12_swap_58 : decode cX12_swap 58 = .ok (.invokevirtual 225, 3) := by decide +kernel
theorem dX12_swap_61 : decode cX12_swap 61 = .ok (.ifCond .eq 16, 3) := by decide +kernel
theorem dX12_swap_64 : decode cX12_swap 64 = .ok (.aload_n 0, 1) := by decide +kernel
theorem dX12_swap_65 : decode cX12_swap 65 = .ok (.iload_n 1, 1) := by decide +kernel
theorem dX12_swap_66 : decode cX12_swap 66 = .ok (.iload_n 2, 1) := by decide +kernel
theorem dX12_swap_67 : decode cX12_swap 67 = .ok (.invokevirtual 221, 3) := by decide +kernel
theorem dX12_swap_70 : decode cX12_swap 70 = .ok (.aload_n 0, 1) := by decide +kernel
theorem dX12_swap_71 : decode cX12_swap 71 = .ok (.iconst 3, 1) := by decide +kernel
theorem dX12_swap_72 : decode cX12_swap 72 = .ok (.putfield 79, 3) := by decide +kernel
theorem dX12_swap_75 : decode cX12_swap 75 = .ok (.iconst 0, 1) := by decide +kernel
theorem dX12_swap_76 : decode cX12_swap 76 = .ok (.ireturn, 1) := by decide +kernel
theorem dX12_swap_77 : decode cX12_swap 77 = .ok (.aload_n 0, 1) := by decide +kernel
theorem dX12_swap_78 : decode cX12_swap 78 = .ok (.invokevirtual 185, 3) := by decide +kernel
theorem dX12_swap_81 : decode cX12_swap 81 = .ok (.ireturn, 1) := by decide +kernel
theorem dX12_shift_0 : decode cX12_shift 0 = .ok (.iload_n 2, 1) := by decide +kernel
theorem dX12_shift_1 : decode cX12_shift 1 = .ok (.istore 4, 2) := by decide +kernel
theorem dX12_shift_3 : decode cX12_shift 3 = .ok (.iload 4, 2) := by decide +kernel
theorem dX12_shift_5 : decode cX12_shift 5 = .ok (.iload_n 3, 1) := by decide +kernel
theorem dX12_shift_6 : decode cX12_shift 6 = .ok (.if_icmp .ge 16, 3) := by decide +kernel
theorem dX12_shift_9 : decode cX12_shift 9 = .ok (.aload_n 0, 1) := by decide +kernel
theorem dX12_shift_10 : decode cX12_shift 10 = .ok (.iload_n 1, 1) := by decide +kernel
theorem dX12_shift_11 : decode cX12_shift 11 = .ok (.iload 4, 2) := by decide +kernel
theorem dX12_shift_13 : decode cX12_shift 13 = .ok (.invokevirtual 221, 3) := by decide +kernel
theorem dX12_shift_16 : decode cX12_shift 16 = .ok (.iinc 4 1, 3) := by decide +kernel
theorem dX12_shift_19 : decode cX12_shift 19 = .ok (.goto (-16), 3) := by decide +kernel
theorem dX12_shift_22 : decode cX12_shift 22 = .ok (.iload_n 2, 1) := by decide +kernel
theorem dX12_shift_23 : decode cX12_shift 23 = .ok (.istore 4, 2) := by decide +kernel
theorem dX12_shift_25 : decode cX12_shift 25 = .ok (.iload 4, 2) := by decide +kernel
theorem dX12_shift_27 : decode cX12_shift 27 = .ok (.iload_n 3, 1) := by decide +kernel
theorem dX12_shift_28 : decode cX12_shift 28 = .ok (.if_icmp .le 18, 3) := by decide +kernel
theorem dX12_shift_31 : decode cX12_shift 31 = .ok (.aload_n 0, 1) := by decide +kernel
theorem dX12_shift_32 : decode cX12_shift 32 = .ok (.iload_n 1, 1) := by decide +kernel
theorem dX12_shift_33 : decode cX12_shift 33 = .ok (.iload 4, 2) := by decide +kernel
theorem dX12_shift_35 : decode cX12_shift 35 = .ok (.iconst 1, 1) := by decide +kernel
theorem dX12_shift_36 : decode cX12_shift 36 = .ok (.isub, 1) := by decide +kernel
theorem dX12_shift_37 : decode cX12_shift 37 = .ok (.invokevirtual 221, 3) := by decide +kernel
theorem dX12_shift_40 : decode cX12_shift 40 = .ok (.iinc 4 (-1), 3) := by decide +kernel
theorem dX12_shift_43 : decode cX12_shift 43 = .ok (.goto (-18), 3) := by decide +kernel
theorem dX12_shift_46 : decode cX12_shift 46 = .ok (.return_, 1) := by decide +kernel
theorem dX12_move_0 : decode cX12_move 0 = .ok (.aload_n 0, 1) := by decide +kernel
theorem dX12_move_1 : decode cX12_move 1 = .ok (.aload_n 0, 1) := by decide +kernel
theorem dX12_move_2 : decode cX12_move 2 = .ok (.iload_n 1, 1) := by decide +kernel
theorem dX12_move_3 : decode cX12_move 3 = .ok (.invokevirtual 135, 3) := by decide +kernel
theorem dX12_move_6 : decode cX12_move 6 = .ok (.ifCond .ne 7, 3) := by decide +kernel
theorem dX12_move_9 : decode cX12_move 9 = .ok (.iconst 1, 1) := by decide +kernel
theorem dX12_move_10 : decode cX12_move 10 = .ok (.goto 38, 3) := by decide +kernel
theorem dX12_move_13 : decode cX12_move 13 = .ok (.iload_n 2, 1) := by decide +kernel
theorem dX12_move_14 : decode cX12_move 14 = .ok (.i2l, 1) := by decide +kernel
theorem dX12_move_15 : decode cX12_move 15 = .ok (.lconst 0, 1) := by decide +kernel
theorem dX12_move_16 : decode cX12_move 16 = .ok (.aload_n 0, 1) := by decide +kernel
theorem dX12_move_17 : decode cX12_move 17 = .ok (.getfield 9, 3) := by decide +kernel
theorem dX12_move_20 : decode cX12_move 20 = .ok (.sipush 179, 3) := by decide +kernel
theorem dX12_move_23 : decode cX12_move 23 = .ok (.aload_n 0, 1) := by decide +kernel
theorem dX12_move_24 : decode cX12_move 24 = .ok (.getfield 9, 3) := by decide +kernel
theorem dX12_move_27 : decode cX12_move 27 = .ok (.bipush 62, 2) := by decide +kernel
theorem dX12_move_29 : decode cX12_move 29 = .ok (.iload_n 1, 1) := by decide +kernel
theorem dX12_move_30 : decode cX12_move 30 = .ok (.iadd, 1) := by decide +kernel
theorem dX12_move_31 : decode cX12_move 31 = .ok (.iaload, 1) := by decide +kernel
theorem dX12_move_32 : decode cX12_move 32 = .ok (.iadd, 1) := by decide +kernel
theorem dX12_move_33 : decode cX12_move 33 = .ok (.iaload, 1) := by decide +kernel
theorem dX12_move_34 : decode cX12_move 34 = .ok (.iconst 1, 1) := by decide +kernel
theorem dX12_move_35 : decode cX12_move 35 = .ok (.isub, 1) := by decide +kernel
theorem dX12_move_36 : decode cX12_move 36 = .ok (.i2l, 1) := by decide +kernel
theorem dX12_move_37 : decode cX12_move 37 = .ok (.invokestatic 82, 3) := by decide +kernel
theorem dX12_move_40 : decode cX12_move 40 = .ok (.ifCond .ne 7, 3) := by decide +kernel
theorem dX12_move_43 : decode cX12_move 43 = .ok (.iconst 2, 1) := by decide +kernel
theorem dX12_move_44 : decode cX12_move 44 = .ok (.goto 4, 3) := by decide +kernel
theorem dX12_move_47 : decode cX12_move 47 = .ok (.iconst 0, 1) := by decide +kernel
theorem dX12_move_48 : decode cX12_move 48 = .ok (.putfield 79, 3) := by decide +kernel
theorem dX12_move_51 : decode cX12_move 51 = .ok (.aload_n 0, 1) := by decide +kernel
theorem dX12_move_52 : decode cX12_move 52 = .ok (.getfield 79, 3) := by decide +kernel
theorem dX12_move_55 : decode cX12_move 55 = .ok (.ifCond .le 5, 3) := by decide +kernel
theorem dX12_move_58 : decode cX12_move 58 = .ok (.iconst 0, 1) := by decide +kernel
theorem dX12_move_59 : decode cX12_move 59 = .ok (.ireturn, 1) := by decide +kernel
theorem dX12_move_60 : decode cX12_move 60 = .ok (.aload_n 0, 1) := by decide +kernel
theorem dX12_move_61 : decode cX12_move 61 = .ok (.getfield 9, 3) := by decide +kernel
theorem dX12_move_64 : decode cX12_move 64 = .ok (.bipush 62, 2) := by decide +kernel
theorem dX12_move_66 : decode cX12_move 66 = .ok (.iload_n 1, 1) := by decide +kernel
theorem dX12_move_67 : decode cX12_move 67 = .ok (.iadd, 1) := by decide +kernel
theorem dX12_move_68 : decode cX12_move 68 = .ok (.iaload, 1) := by decide +kernel
theorem dX12_move_69 : decode cX12_move 69 = .ok (.istore_n 3, 1) := by decide +kernel
theorem dX12_move_70 : decode cX12_move 70 = .ok (.aload_n 0, 1) := by decide +kernel
theorem dX12_move_71 : decode cX12_move 71 = .ok (.iload_n 1, 1) := by decide +kernel
theorem dX12_move_72 : decode cX12_move 72 = .ok (.invokevirtual 147, 3) := by decide +kernel
theorem dX12_move_75 : decode cX12_move 75 = .ok (.istore 4, 2) := by decide +kernel
theorem dX12_move_77 : decode cX12_move 77 = .ok (.aload_n 0, 1) := by decide +kernel
theorem dX12_move_78 : decode cX12_move 78 = .ok (.iload_n 3, 1) := by decide +kernel
theorem dX12_move_79 : decode cX12_move 79 = .ok (.iload 4, 2) := by decide +kernel
theorem dX12_move_81 : decode cX12_move 81 = .ok (.iload_n 2, 1) := by decide +kernel
theorem dX12_move_82 : decode cX12_move 82 = .ok (.invokevirtual 229, 3) := by decide +kernel
theorem dX12_move_85 : decode cX12_move 85 = .ok (.aload_n 0, 1) := by decide +kernel
theorem dX12_move_86 : decode cX12_move 86 = .ok (.invokevirtual 225, 3) := by decide +kernel
theorem dX12_move_89 : decode cX12_move 89 = .ok (.ifCond .eq 18, 3) := by decide +kernel
theorem dX12_move_92 : decode cX12_move 92 = .ok (.aload_n 0, 1) := by decide +kernel
theorem dX12_move_93 : decode cX12_move 93 = .ok (.iload_n 3, 1) := by decide +kernel
theorem dX12_move_94 : decode cX12_move 94 = .ok (.iload_n 2, 1) := by decide +kernel
theorem dX12_move_95 : decode cX12_move 95 = .ok (.iload 4, 2) := by decide +kernel
theorem dX12_move_97 : decode cX12_move 97 = .ok (.invokevirtual 229, 3) := by decide +kernel
theorem dX12_move_100 : decode cX12_move 100 = .ok (.aload_n 0, 1) := by decide +kernel
theorem dX12_move_101 : decode cX12_move 101 = .ok (.iconst 3, 1) := by decide +kernel
theorem dX12_move_102 : decode cX12_move 102 = .ok (.putfield 79, 3) := by decide +kernel
theorem dX12_move_105 : decode cX12_move 105 = .ok (.iconst 0, 1) := by decide +kernel
theorem dX12_move_106 : decode cX12_move 106 = .ok (.ireturn, 1) := by decide +kernel
theorem dX12_move_107 : decode cX12_move 107 = .ok (.aload_n 0, 1) := by decide +kernel
theorem dX12_move_108 : decode cX12_move 108 = .ok (.invokevirtual 185, 3) := by decide +kernel
theorem dX12_move_111 : decode cX12_move 111 = .ok (.ireturn, 1) := by decide +kernel
theorem dX12_candidateStart_0 : decode cX12_candidateStart 0 = .ok (.aload_n 0, 1) := by decide +kernel
theorem dX12_candidateStart_1 : decode cX12_candidateStart 1 = .ok (.getfield 9, 3) := by decide +kernel
theorem dX12_candidateStart_4 : decode cX12_candidateStart 4 = .ok (.bipush 62, 2) := by decide +kernel
theorem dX12_candidateStart_6 : decode cX12_candidateStart 6 = .ok (.iload_n 1, 1) := by decide +kernel
theorem dX12_candidateStart_7 : decode cX12_candidateStart 7 = .ok (.iadd, 1) := by decide +kernel
theorem dX12_candidateStart_8 : decode cX12_candidateStart 8 = .ok (.iaload, 1) := by decide +kernel
theorem dX12_candidateStart_9 : decode cX12_candidateStart 9 = .ok (.istore_n 3, 1) := by decide +kernel
theorem dX12_candidateStart_10 : decode cX12_candidateStart 10 = .ok (.aload_n 0, 1) := by decide +kernel
theorem dX12_candidateStart_11 : decode cX12_candidateStart 11 = .ok (.getfield 9, 3) := by decide +kernel
theorem dX12_candidateStart_14 : decode cX12_candidateStart 14 = .ok (.sipush 179, 3) := by decide +kernel
theorem dX12_candidateStart_17 : decode cX12_candidateStart 17 = .ok (.iload_n 3, 1) := by decide +kernel
theorem dX12_candidateStart_18 : decode cX12_candidateStart 18 = .ok (.iadd, 1) := by decide +kernel
theorem dX12_candidateStart_19 : decode cX12_candidateStart 19 = .ok (.iaload, 1) := by decide +kernel
theorem dX12_candidateStart_20 : decode cX12_candidateStart 20 = .ok (.istore 4, 2) := by decide +kernel
theorem dX12_candidateStart_22 : decode cX12_candidateStart 22 = .ok (.iload_n 2, 1) := by decide +kernel
theorem dX12_candidateStart_23 : decode cX12_candidateStart 23 = .ok (.aload_n 0, 1) := by decide +kernel
theorem dX12_candidateStart_24 : decode cX12_candidateStart 24 = .ok (.getfield 9, 3) := by decide +kernel
theorem dX12_candidateStart_27 : decode cX12_candidateStart 27 = .ok (.iconst 2, 1) := by decide +kernel
theorem dX12_candidateStart_28 : decode cX12_candidateStart 28 = .ok (.aload_n 0, 1) := by decide +kernel
theorem dX12_candidateStart_29 : decode cX12_candidateStart 29 = .ok (.getfield 9, 3) := by decide +kernel
theorem dX12_candidateStart_32 : decode cX12_candidateStart 32 = .ok (.bipush 42, 2) := by decide +kernel
theorem dX12_candidateStart_34 : decode cX12_candidateStart 34 = .ok (.iload_n 1, 1) := by decide +kernel
theorem dX12_candidateStart_35 : decode cX12_candidateStart 35 = .ok (.iadd, 1) := by decide +kernel
theorem dX12_candidateStart_36 : decode cX12_candidateStart 36 = .ok (.iaload, 1) := by decide +kernel
theorem dX12_candidateStart_37 : decode cX12_candidateStart 37 = .ok (.iadd, 1) := by decide +kernel
theorem dX12_candidateStart_38 : decode cX12_candidateStart 38 = .ok (.iaload, 1) := by decide +kernel
theorem dX12_candidateStart_39 : decode cX12_candidateStart 39 = .ok (.invokestatic 167, 3) := by decide +kernel
theorem dX12_candidateStart_42 : decode cX12_candidateStart 42 = .ok (.istore 5, 2) := by decide +kernel
theorem dX12_candidateStart_44 : decode cX12_candidateStart 44 = .ok (.aload_n 0, 1) := by decide +kernel
theorem dX12_candidateStart_45 : decode cX12_candidateStart 45 = .ok (.iload_n 1, 1) := by decide +kernel
theorem dX12_candidateStart_46 : decode cX12_candidateStart 46 = .ok (.invokevirtual 151, 3) := by decide +kernel
theorem dX12_candidateStart_49 : decode cX12_candidateStart 49 = .ok (.istore 6, 2) := by decide +kernel
theorem dX12_candidateStart_51 : decode cX12_candidateStart 51 = .ok (.iload 6, 2) := by decide +kernel
theorem dX12_candidateStart_53 : decode cX12_candidateStart 53 = .ok (.iconst (-1), 1) := by decide +kernel
theorem dX12_candidateStart_54 : decode cX12_candidateStart 54 = .ok (.if_icmp .ne 8, 3) := by decide +kernel
theorem dX12_candidateStart_57 : decode cX12_candidateStart 57 = .ok (.iload 5, 2) := by decide +kernel
theorem dX12_candidateStart_59 : decode cX12_candidateStart 59 = .ok (.goto 26, 3) := by decide +kernel
theorem dX12_candidateStart_62 : decode cX12_candidateStart 62 = .ok (.iload 5, 2) := by decide +kernel
theorem dX12_candidateStart_64 : decode cX12_candidateStart 64 = .ok (.aload_n 0, 1) := by decide +kernel
theorem dX12_candidateStart_65 : decode cX12_candidateStart 65 = .ok (.getfield 46, 3) := by decide +kernel
theorem dX12_candidateStart_68 : decode cX12_candidateStart 68 = .ok (.iload 6, 2) := by decide +kernel
theorem dX12_candidateStart_70 : decode cX12_candidateStart 70 = .ok (.iaload, 1) := by decide +kernel
theorem dX12_candidateStart_71 : decode cX12_candidateStart 71 = .ok (.aload_n 0, 1) := by decide +kernel
theorem dX12_candidateStart_72 : decode cX12_candidateStart 72 = .ok (.getfield 9, 3) := by decide +kernel
theorem dX12_candidateStart_75 : decode cX12_candidateStart 75 = .ok (.bipush 82, 2) := by decide +kernel
theorem dX12_candidateStart_77 : decode cX12_candidateStart 77 = .ok (.iload 6, 2) := by decide +kernel
theorem dX12_candidateStart_79 : decode cX12_candidateStart 79 = .ok (.iadd, 1) := by decide +kernel
theorem dX12_candidateStart_80 : decode cX12_candidateStart 80 = .ok (.iaload, 1) := by decide +kernel
theorem dX12_candidateStart_81 : decode cX12_candidateStart 81 = .ok (.iadd, 1) := by decide +kernel
theorem dX12_candidateStart_82 : decode cX12_candidateStart 82 = .ok (.invokestatic 167, 3) := by decide +kernel
theorem dX12_candidateStart_85 : decode cX12_candidateStart 85 = .ok (.istore 5, 2) := by decide +kernel
theorem dX12_candidateStart_87 : decode cX12_candidateStart 87 = .ok (.iload 4, 2) := by decide +kernel
theorem dX12_candidateStart_89 : decode cX12_candidateStart 89 = .ok (.ifCond .le 47, 3) := by decide +kernel
theorem dX12_candidateStart_92 : decode cX12_candidateStart 92 = .ok (.aload_n 0, 1) := by decide +kernel
theorem dX12_candidateStart_93 : decode cX12_candidateStart 93 = .ok (.iload_n 3, 1) := by decide +kernel
theorem dX12_candidateStart_94 : decode cX12_candidateStart 94 = .ok (.iload 4, 2) := by decide +kernel
theorem dX12_candidateStart_96 : decode cX12_candidateStart 96 = .ok (.iconst 1, 1) := by decide +kernel
theorem dX12_candidateStart_97 : decode cX12_candidateStart 97 = .ok (.isub, 1) := by decide +kernel
theorem dX12_candidateStart_98 : decode cX12_candidateStart 98 = .ok (.invokevirtual 142, 3) := by decide +kernel
theorem dX12_candidateStart_101 : decode cX12_candidateStart 101 = .ok (.istore 7, 2) := by decide +kernel
theorem dX12_candidateStart_103 : decode cX12_candidateStart 103 = .ok (.iload 5, 2) := by decide +kernel
theorem dX12_candidateStart_105 : decode cX12_candidateStart 105 = .ok (.aload_n 0, 1) := by decide +kernel
theorem dX12_candidateStart_106 : decode cX12_candidateStart 106 = .ok (.getfield 46, 3) := by decide +kernel
theorem dX12_candidateStart_109 : decode cX12_candidateStart 109 = .ok (.iload 7, 2) := by decide +kernel
theorem dX12_candidateStart_111 : decode cX12_candidateStart 111 = .ok (.iaload, 1) := by decide +kernel
theorem dX12_candidateStart_112 : decode cX12_candidateStart 112 = .ok (.aload_n 0, 1) := by decide +kernel
theorem dX12_candidateStart_113 : decode cX12_candidateStart 113 = .ok (.getfield 9, 3) := by decide +kernel
theorem dX12_candidateStart_116 : decode cX12_candidateStart 116 = .ok (.bipush 82, 2) := by decide +kernel
theorem dX12_candidateStart_118 : decode cX12_candidateStart 118 = .ok (.iload 7, 2) := by decide +kernel
theorem dX12_candidateStart_120 : decode cX12_candidateStart 120 = .ok (.iadd, 1) := by decide +kernel
theorem dX12_candidateStart_121 : decode cX12_candidateStart 121 = .ok (.iaload, 1) := by decide +kernel
theorem dX12_candidateStart_122 : decode cX12_candidateStart 122 = .ok (.iadd, 1) := by decide +kernel
theorem dX12_candidateStart_123 : decode cX12_candidateStart 123 = .ok (.aload_n 0, 1) := by decide +kernel
theorem dX12_candidateStart_124 : decode cX12_candidateStart 124 = .ok (.iload 7, 2) := by decide +kernel
theorem dX12_candidateStart_126 : decode cX12_candidateStart 126 = .ok (.iload_n 1, 1) := by decide +kernel
theorem dX12_candidateStart_127 : decode cX12_candidateStart 127 = .ok (.invokevirtual 172, 3) := by decide +kernel
theorem dX12_candidateStart_130 : decode cX12_candidateStart 130 = .ok (.iadd, 1) := by decide +kernel
theorem dX12_candidateStart_131 : decode cX12_candidateStart 131 = .ok (.invokestatic 167, 3) := by decide +kernel
theorem dX12_candidateStart_134 : decode cX12_candidateStart 134 = .ok (.istore 5, 2) := by decide +kernel
theorem dX12_candidateStart_136 : decode cX12_candidateStart 136 = .ok (.aload_n 0, 1) := by decide +kernel
theorem dX12_candidateStart_137 : decode cX12_candidateStart 137 = .ok (.iload_n 3, 1) := by decide +kernel
theorem dX12_candidateStart_138 : decode cX12_candidateStart 138 = .ok (.iload 5, 2) := by decide +kernel
theorem dX12_candidateStart_140 : decode cX12_candidateStart 140 = .ok (.aload_n 0, 1) := by decide +kernel
theorem dX12_candidateStart_141 : decode cX12_candidateStart 141 = .ok (.getfield 9, 3) := by decide +kernel
theorem dX12_candidateStart_144 : decode cX12_candidateStart 144 = .ok (.bipush 82, 2) := by decide +kernel
theorem dX12_candidateStart_146 : decode cX12_candidateStart 146 = .ok (.iload_n 1, 1) := by decide +kernel
theorem dX12_candidateStart_147 : decode cX12_candidateStart 147 = .ok (.iadd, 1) := by decide +kernel
theorem dX12_candidateStart_148 : decode cX12_candidateStart 148 = .ok (.iaload, 1) := by decide +kernel
theorem dX12_candidateStart_149 : decode cX12_candidateStart 149 = .ok (.invokevirtual 178, 3) := by decide +kernel
theorem dX12_candidateStart_152 : decode cX12_candidateStart 152 = .ok (.ireturn, 1) := by decide +kernel
theorem dX12_restOf_0 : decode cX12_restOf 0 = .ok (.aload_n 0, 1) := by decide +kernel
theorem dX12_restOf_1 : decode cX12_restOf 1 = .ok (.getfield 9, 3) := by decide +kernel
theorem dX12_restOf_4 : decode cX12_restOf 4 = .ok (.bipush 42, 2) := by decide +kernel
theorem dX12_restOf_6 : decode cX12_restOf 6 = .ok (.iload_n 1, 1) := by decide +kernel
theorem dX12_restOf_7 : decode cX12_restOf 7 = .ok (.iadd, 1) := by decide +kernel
theorem dX12_restOf_8 : decode cX12_restOf 8 = .ok (.iaload, 1) := by decide +kernel
theorem dX12_restOf_9 : decode cX12_restOf 9 = .ok (.istore_n 2, 1) := by decide +kernel
theorem dX12_restOf_10 : decode cX12_restOf 10 = .ok (.iconst 0, 1) := by decide +kernel
theorem dX12_restOf_11 : decode cX12_restOf 11 = .ok (.istore_n 3, 1) := by decide +kernel
theorem dX12_restOf_12 : decode cX12_restOf 12 = .ok (.aload_n 0, 1) := by decide +kernel
theorem dX12_restOf_13 : decode cX12_restOf 13 = .ok (.getfield 9, 3) := by decide +kernel
theorem dX12_restOf_16 : decode cX12_restOf 16 = .ok (.bipush 122, 2) := by decide +kernel
theorem dX12_restOf_18 : decode cX12_restOf 18 = .ok (.iload_n 1, 1) := by decide +kernel
theorem dX12_restOf_19 : decode cX12_restOf 19 = .ok (.iadd, 1) := by decide +kernel
theorem dX12_restOf_20 : decode cX12_restOf 20 = .ok (.iaload, 1) := by decide +kernel
theorem dX12_restOf_21 : decode cX12_restOf 21 = .ok (.istore 4, 2) := by decide +kernel
theorem dX12_restOf_23 : decode cX12_restOf 23 = .ok (.iload 4, 2) := by decide +kernel
theorem dX12_restOf_25 : decode cX12_restOf 25 = .ok (.aload_n 0, 1) := by decide +kernel
theorem dX12_restOf_26 : decode cX12_restOf 26 = .ok (.getfield 9, 3) := by decide +kernel
theorem dX12_restOf_29 : decode cX12_restOf 29 = .ok (.bipush 17, 2) := by decide +kernel
theorem dX12_restOf_31 : decode cX12_restOf 31 = .ok (.iload_n 2, 1) := by decide +kernel
theorem dX12_restOf_32 : decode cX12_restOf 32 = .ok (.iadd, 1) := by decide +kernel
theorem dX12_restOf_33 : decode cX12_restOf 33 = .ok (.iaload, 1) := by decide +kernel
theorem dX12_restOf_34 : decode cX12_restOf 34 = .ok (.if_icmp .ge 27, 3) := by decide +kernel
theorem dX12_restOf_37 : decode cX12_restOf 37 = .ok (.iload_n 3, 1) := by decide +kernel
theorem dX12_restOf_38 : decode cX12_restOf 38 = .ok (.aload_n 0, 1) := by decide +kernel
theorem dX12_restOf_39 : decode cX12_restOf 39 = .ok (.getfield 9, 3) := by decide +kernel
theorem dX12_restOf_42 : decode cX12_restOf 42 = .ok (.bipush 82, 2) := by decide +kernel
theorem dX12_restOf_44 : decode cX12_restOf 44 = .ok (.aload_n 0, 1) := by decide +kernel
theorem dX12_restOf_45 : decode cX12_restOf 45 = .ok (.iload_n 2, 1) := by decide +kernel
theorem dX12_restOf_46 : decode cX12_restOf 46 = .ok (.iload 4, 2) := by decide +kernel
theorem dX12_restOf_48 : decode cX12_restOf 48 = .ok (.invokevirtual 110, 3) := by decide +kernel
theorem dX12_restOf_51 : decode cX12_restOf 51 = .ok (.iadd, 1) := by decide +kernel
theorem dX12_restOf_52 : decode cX12_restOf 52 = .ok (.iaload, 1) := by decide +kernel
theorem dX12_restOf_53 : decode cX12_restOf 53 = .ok (.iadd, 1) := by decide +kernel
theorem dX12_restOf_54 : decode cX12_restOf 54 = .ok (.istore_n 3, 1) := by decide +kernel
theorem dX12_restOf_55 : decode cX12_restOf 55 = .ok (.iinc 4 1, 3) := by decide +kernel
theorem dX12_restOf_58 : decode cX12_restOf 58 = .ok (.goto (-35), 3) := by decide +kernel
theorem dX12_restOf_61 : decode cX12_restOf 61 = .ok (.iload_n 3, 1) := by decide +kernel
theorem dX12_restOf_62 : decode cX12_restOf 62 = .ok (.ireturn, 1) := by decide +kernel
theorem dX12_prefers_0 : decode cX12_prefers 0 = .ok (.iload_n 1, 1) := by decide +kernel
theorem dX12_prefers_1 : decode cX12_prefers 1 = .ok (.tableswitch 116 0 2 #[27, 54, 73], 27) := by decide +kernel
theorem dX12_prefers_28 : decode cX12_prefers 28 = .ok (.aload_n 0, 1) := by decide +kernel
theorem dX12_prefers_29 : decode cX12_prefers 29 = .ok (.getfield 9, 3) := by decide +kernel
theorem dX12_prefers_32 : decode cX12_prefers 32 = .ok (.bipush 82, 2) := by decide +kernel
theorem dX12_prefers_34 : decode cX12_prefers 34 = .ok (.iload_n 2, 1) := by decide +kernel
theorem dX12_prefers_35 : decode cX12_prefers 35 = .ok (.iadd, 1) := by decide +kernel
theorem dX12_prefers_36 : decode cX12_prefers 36 = .ok (.iaload, 1) := by decide +kernel
theorem dX12_prefers_37 : decode cX12_prefers 37 = .ok (.aload_n 0, 1) := by decide +kernel
theorem dX12_prefers_38 : decode cX12_prefers 38 = .ok (.getfield 9, 3) := by decide +kernel
theorem dX12_prefers_41 : decode cX12_prefers 41 = .ok (.bipush 82, 2) := by decide +kernel
theorem dX12_prefers_43 : decode cX12_prefers 43 = .ok (.iload_n 3, 1) := by decide +kernel
theorem dX12_prefers_44 : decode cX12_prefers 44 = .ok (.iadd, 1) := by decide +kernel
theorem dX12_prefers_45 : decode cX12_prefers 45 = .ok (.iaload, 1) := by decide +kernel
theorem dX12_prefers_46 : decode cX12_prefers 46 = .ok (.if_icmp .ge 7, 3) := by decide +kernel
theorem dX12_prefers_49 : decode cX12_prefers 49 = .ok (.iconst 1, 1) := by decide +kernel
theorem dX12_prefers_50 : decode cX12_prefers 50 = .ok (.goto 4, 3) := by decide +kernel
theorem dX12_prefers_53 : decode cX12_prefers 53 = .ok (.iconst 0, 1) := by decide +kernel
theorem dX12_prefers_54 : decode cX12_prefers 54 = .ok (.ireturn, 1) := by decide +kernel
theorem dX12_prefers_55 : decode cX12_prefers 55 = .ok (.aload_n 0, 1) := by decide +kernel
theorem dX12_prefers_56 : decode cX12_prefers 56 = .ok (.iload_n 2, 1) := by decide +kernel
theorem dX12_prefers_57 : decode cX12_prefers 57 = .ok (.invokevirtual 232, 3) := by decide +kernel
theorem dX12_prefers_60 : decode cX12_prefers 60 = .ok (.aload_n 0, 1) := by decide +kernel
theorem dX12_prefers_61 : decode cX12_prefers 61 = .ok (.iload_n 3, 1) := by decide +kernel
theorem dX12_prefers_62 : decode cX12_prefers 62 = .ok (.invokevirtual 232, 3) := by decide +kernel
theorem dX12_prefers_65 : decode cX12_prefers 65 = .ok (.if_icmp .le 7, 3) := by decide +kernel
theorem dX12_prefers_68 : decode cX12_prefers 68 = .ok (.iconst 1, 1) := by decide +kernel
theorem dX12_prefers_69 : decode cX12_prefers 69 = .ok (.goto 4, 3) := by decide +kernel
theorem dX12_prefers_72 : decode cX12_prefers 72 = .ok (.iconst 0, 1) := by decide +kernel
theorem dX12_prefers_73 : decode cX12_prefers 73 = .ok (.ireturn, 1) := by decide +kernel
theorem dX12_prefers_74 : decode cX12_prefers 74 = .ok (.aload_n 0, 1) := by decide +kernel
theorem dX12_prefers_75 : decode cX12_prefers 75 = .ok (.getfield 9, 3) := by decide +kernel
theorem dX12_prefers_78 : decode cX12_prefers 78 = .ok (.bipush 7, 2) := by decide +kernel
theorem dX12_prefers_80 : decode cX12_prefers 80 = .ok (.aload_n 0, 1) := by decide +kernel
theorem dX12_prefers_81 : decode cX12_prefers 81 = .ok (.getfield 9, 3) := by decide +kernel
theorem dX12_prefers_84 : decode cX12_prefers 84 = .ok (.bipush 42, 2) := by decide +kernel
theorem dX12_prefers_86 : decode cX12_prefers 86 = .ok (.iload_n 2, 1) := by decide +kernel
theorem dX12_prefers_87 : decode cX12_prefers 87 = .ok (.iadd, 1) := by decide +kernel
theorem dX12_prefers_88 : decode cX12_prefers 88 = .ok (.iaload, 1) := by decide +kernel
theorem dX12_prefers_89 : decode cX12_prefers 89 = .ok (.iadd, 1) := by decide +kernel
theorem dX12_prefers_90 : decode cX12_prefers 90 = .ok (.iaload, 1) := by decide +kernel
theorem dX12_prefers_91 : decode cX12_prefers 91 = .ok (.aload_n 0, 1) := by decide +kernel
theorem dX12_prefers_92 : decode cX12_prefers 92 = .ok (.getfield 9, 3) := by decide +kernel
theorem dX12_prefers_95 : decode cX12_prefers 95 = .ok (.bipush 7, 2) := by decide +kernel
theorem dX12_prefers_97 : decode cX12_prefers 97 = .ok (.aload_n 0, 1) := by decide +kernel
theorem dX12_prefers_98 : decode cX12_prefers 98 = .ok (.getfield 9, 3) := by decide +kernel
theorem dX12_prefers_101 : decode cX12_prefers 101 = .ok (.bipush 42, 2) := by decide +kernel
theorem dX12_prefers_103 : decode cX12_prefers 103 = .ok (.iload_n 3, 1) := by decide +kernel
theorem dX12_prefers_104 : decode cX12_prefers 104 = .ok (.iadd, 1) := by decide +kernel
theorem dX12_prefers_105 : decode cX12_prefers 105 = .ok (.iaload, 1) := by decide +kernel
theorem dX12_prefers_106 : decode cX12_prefers 106 = .ok (.iadd, 1) := by decide +kernel
theorem dX12_prefers_107 : decode cX12_prefers 107 = .ok (.iaload, 1) := by decide +kernel
theorem dX12_prefers_108 : decode cX12_prefers 108 = .ok (.if_icmp .ge 7, 3) := by decide +kernel
theorem dX12_prefers_111 : decode cX12_prefers 111 = .ok (.iconst 1, 1) := by decide +kernel
theorem dX12_prefers_112 : decode cX12_prefers 112 = .ok (.goto 4, 3) := by decide +kernel
theorem dX12_prefers_115 : decode cX12_prefers 115 = .ok (.iconst 0, 1) := by decide +kernel
theorem dX12_prefers_116 : decode cX12_prefers 116 = .ok (.ireturn, 1) := by decide +kernel
theorem dX12_prefers_117 : decode cX12_prefers 117 = .ok (.iconst 0, 1) := by decide +kernel
theorem dX12_prefers_118 : decode cX12_prefers 118 = .ok (.ireturn, 1) := by decide +kernel
theorem dX12_build_0 : decode cX12_build 0 = .ok (.iconst 1, 1) := by decide +kernel
theorem dX12_build_1 : decode cX12_build 1 = .ok (.istore_n 3, 1) := by decide +kernel
theorem dX12_build_2 : decode cX12_build 2 = .ok (.iload_n 3, 1) := by decide +kernel
theorem dX12_build_3 : decode cX12_build 3 = .ok (.ifCond .eq 206, 3) := by decide +kernel
theorem dX12_build_6 : decode cX12_build 6 = .ok (.iconst (-1), 1) := by decide +kernel
theorem dX12_build_7 : decode cX12_build 7 = .ok (.istore 4, 2) := by decide +kernel
theorem dX12_build_9 : decode cX12_build 9 = .ok (.iconst 0, 1) := by decide +kernel
theorem dX12_build_10 : decode cX12_build 10 = .ok (.istore 5, 2) := by decide +kernel
theorem dX12_build_12 : decode cX12_build 12 = .ok (.iconst 0, 1) := by decide +kernel
theorem dX12_build_13 : decode cX12_build 13 = .ok (.istore 6, 2) := by decide +kernel
theorem dX12_build_15 : decode cX12_build 15 = .ok (.iload 6, 2) := by decide +kernel
theorem dX12_build_17 : decode cX12_build 17 = .ok (.aload_n 0, 1) := by decide +kernel
theorem dX12_build_18 : decode cX12_build 18 = .ok (.getfield 9, 3) := by decide +kernel
theorem dX12_build_21 : decode cX12_build 21 = .ok (.iconst 0, 1) := by decide +kernel
theorem dX12_build_22 : decode cX12_build 22 = .ok (.iaload, 1) := by decide +kernel
theorem dX12_build_23 : decode cX12_build 23 = .ok (.if_icmp .ge 93, 3) := by decide +kernel
theorem dX12_build_26 : decode cX12_build 26 = .ok (.aload_n 0, 1) := by decide +kernel
theorem dX12_build_27 : decode cX12_build 27 = .ok (.getfield 43, 3) := by decide +kernel
theorem dX12_build_30 : decode cX12_build 30 = .ok (.iload 6, 2) := by decide +kernel
theorem dX12_build_32 : decode cX12_build 32 = .ok (.iaload, 1) := by decide +kernel
theorem dX12_build_33 : decode cX12_build 33 = .ok (.aload_n 0, 1) := by decide +kernel
theorem dX12_build_34 : decode cX12_build 34 = .ok (.getfield 9, 3) := by decide +kernel
theorem dX12_build_37 : decode cX12_build 37 = .ok (.bipush 17, 2) := by decide +kernel
theorem dX12_build_39 : decode cX12_build 39 = .ok (.iload 6, 2) := by decide +kernel
theorem dX12_build_41 : decode cX12_build 41 = .ok (.iadd, 1) := by decide +kernel
theorem dX12_build_42 : decode cX12_build 42 = .ok (.iaload, 1) := by decide +kernel
theorem dX12_build_43 : decode cX12_build 43 = .ok (.if_icmp .ge 67, 3) := by decide +kernel
theorem dX12_build_46 : decode cX12_build 46 = .ok (.aload_n 0, 1) := by decide +kernel
theorem dX12_build_47 : decode cX12_build 47 = .ok (.iload 6, 2) := by decide +kernel
theorem dX12_build_49 : decode cX12_build 49 = .ok (.aload_n 0, 1) := by decide +kernel
theorem dX12_build_50 : decode cX12_build 50 = .ok (.getfield 43, 3) := by decide +kernel
theorem dX12_build_53 : decode cX12_build 53 = .ok (.iload 6, 2) := by decide +kernel
theorem dX12_build_55 : decode cX12_build 55 = .ok (.iaload, 1) := by decide +kernel
theorem dX12_build_56 : decode cX12_build 56 = .ok (.invokevirtual 110, 3) := by decide +kernel
theorem dX12_build_59 : decode cX12_build 59 = .ok (.istore 7, 2) := by decide +kernel
theorem dX12_build_61 : decode cX12_build 61 = .ok (.aload_n 0, 1) := by decide +kernel
theorem dX12_build_62 : decode cX12_build 62 = .ok (.iload 7, 2) := by decide +kernel
theorem dX12_build_64 : decode cX12_build 64 = .ok (.iload_n 2, 1) := by decide +kernel
theorem dX12_build_65 : decode cX12_build 65 = .ok (.invokevirtual 235, 3) := by decide +kernel
theorem dX12_build_68 : decode cX12_build 68 = .ok (.istore 8, 2) := by decide +kernel
theorem dX12_build_70 : decode cX12_build 70 = .ok (.iload 4, 2) := by decide +kernel
theorem dX12_build_72 : decode cX12_build 72 = .ok (.iconst (-1), 1) := by decide +kernel
theorem dX12_build_73 : decode cX12_build 73 = .ok (.if_icmp .eq 29, 3) := by decide +kernel
theorem dX12_build_76 : decode cX12_build 76 = .ok (.iload 8, 2) := by decide +kernel
theorem dX12_build_78 : decode cX12_build 78 = .ok (.iload 5, 2) := by decide +kernel
theorem dX12_build_80 : decode cX12_build 80 = .ok (.if_icmp .lt 22, 3) := by decide +kernel
theorem dX12_build_83 : decode cX12_build 83 = .ok (.iload 8, 2) := by decide +kernel
theorem dX12_build_85 : decode cX12_build 85 = .ok (.iload 5, 2) := by decide +kernel
theorem dX12_build_87 : decode cX12_build 87 = .ok (.if_icmp .ne 23, 3) := by decide +kernel
theorem dX12_build_90 : decode cX12_build 90 = .ok (.aload_n 0, 1) := by decide +kernel
theorem dX12_build_91 : decode cX12_build 91 = .ok (.iload_n 1, 1) := by decide +kernel
theorem dX12_build_92 : decode cX12_build 92 = .ok (.iload 7, 2) := by decide +kernel
theorem dX12_build_94 : decode cX12_build 94 = .ok (.iload 4, 2) := by decide +kernel
theorem dX12_build_96 : decode cX12_build 96 = .ok (.invokevirtual 238, 3) := by decide +kernel
theorem dX12_build_99 : decode cX12_build 99 = .ok (.ifCond .eq 11, 3) := by decide +kernel
theorem dX12_build_102 : decode cX12_build 102 = .ok (.iload 7, 2) := by decide +kernel
theorem dX12_build_104 : decode cX12_build 104 = .ok (.istore 4, 2) := by decide +kernel
theorem dX12_build_106 : decode cX12_build 106 = .ok (.iload 8, 2) := by decide +kernel
theorem dX12_build_108 : decode cX12_build 108 = .ok (.istore 5, 2) := by decide +kernel
theorem dX12_build_110 : decode cX12_build 110 = .ok (.iinc 6 1, 3) := by decide +kernel
theorem dX12_build_113 : decode cX12_build 113 = .ok (.goto (-98), 3) := by decide +kernel
theorem dX12_build_116 : decode cX12_build 116 = .ok (.iload 4, 2) := by decide +kernel
theorem dX12_build_118 : decode cX12_build 118 = .ok (.iconst (-1), 1) := by decide +kernel
theorem dX12_build_119 : decode cX12_build 119 = .ok (.if_icmp .eq 7, 3) := by decide +kernel
theorem dX12_build_122 : decode cX12_build 122 = .ok (.iconst 1, 1) := by decide +kernel
theorem dX12_build_123 : decode cX12_build 123 = .ok (.goto 4, 3) := by decide +kernel
theorem dX12_build_126 : decode cX12_build 126 = .ok (.iconst 0, 1) := by decide +kernel
theorem dX12_build_127 : decode cX12_build 127 = .ok (.istore_n 3, 1) := by decide +kernel
theorem dX12_build_128 : decode cX12_build 128 = .ok (.iload_n 3, 1) := by decide +kernel
theorem dX12_build_129 : decode cX12_build 129 = .ok (.ifCond .eq 77, 3) := by decide +kernel
theorem dX12_build_132 : decode cX12_build 132 = .ok (.aload_n 0, 1) := by decide +kernel
theorem dX12_build_133 : decode cX12_build 133 = .ok (.getfield 46, 3) := by decide +kernel
theorem dX12_build_136 : decode cX12_build 136 = .ok (.iload 4, 2) := by decide +kernel
theorem dX12_build_138 : decode cX12_build 138 = .ok (.iload 5, 2) := by decide +kernel
theorem dX12_build_140 : decode cX12_build 140 = .ok (.iastore, 1) := by decide +kernel
theorem dX12_build_141 : decode cX12_build 141 = .ok (.aload_n 0, 1) := by decide +kernel
theorem dX12_build_142 : decode cX12_build 142 = .ok (.getfield 9, 3) := by decide +kernel
theorem dX12_build_145 : decode cX12_build 145 = .ok (.bipush 62, 2) := by decide +kernel
theorem dX12_build_147 : decode cX12_build 147 = .ok (.iload 4, 2) := by decide +kernel
theorem dX12_build_149 : decode cX12_build 149 = .ok (.iadd, 1) := by decide +kernel
theorem dX12_build_150 : decode cX12_build 150 = .ok (.iaload, 1) := by decide +kernel
theorem dX12_build_151 : decode cX12_build 151 = .ok (.istore 6, 2) := by decide +kernel
theorem dX12_build_153 : decode cX12_build 153 = .ok (.aload_n 0, 1) := by decide +kernel
theorem dX12_build_154 : decode cX12_build 154 = .ok (.iload 6, 2) := by decide +kernel
theorem dX12_build_156 : decode cX12_build 156 = .ok (.aload_n 0, 1) := by decide +kernel
theorem dX12_build_157 : decode cX12_build 157 = .ok (.getfield 9, 3) := by decide +kernel
theorem dX12_build_160 : decode cX12_build 160 = .ok (.sipush 179, 3) := by decide +kernel
theorem dX12_build_163 : decode cX12_build 163 = .ok (.iload 6, 2) := by decide +kernel
theorem dX12_build_165 : decode cX12_build 165 = .ok (.iadd, 1) := by decide +kernel
theorem dX12_build_166 : decode cX12_build 166 = .ok (.iaload, 1) := by decide +kernel
theorem dX12_build_167 : decode cX12_build 167 = .ok (.iload 4, 2) := by decide +kernel
theorem dX12_build_169 : decode cX12_build 169 = .ok (.invokevirtual 114, 3) := by decide +kernel
theorem dX12_build_172 : decode cX12_build 172 = .ok (.aload_n 0, 1) := by decide +kernel
theorem dX12_build_173 : decode cX12_build 173 = .ok (.getfield 9, 3) := by decide +kernel
theorem dX12_build_176 : decode cX12_build 176 = .ok (.sipush 179, 3) := by decide +kernel
theorem dX12_build_179 : decode cX12_build 179 = .ok (.iload 6, 2) := by decide +kernel
theorem dX12_build_181 : decode cX12_build 181 = .ok (.iadd, 1) := by decide +kernel
theorem dX12_build_182 : decode cX12_build 182 = .ok (.dup2, 1) := by decide +kernel
theorem dX12_build_183 : decode cX12_build 183 = .ok (.iaload, 1) := by decide +kernel
theorem dX12_build_184 : decode cX12_build 184 = .ok (.iconst 1, 1) := by decide +kernel
theorem dX12_build_185 : decode cX12_build 185 = .ok (.iadd, 1) := by decide +kernel
theorem dX12_build_186 : decode cX12_build 186 = .ok (.iastore, 1) := by decide +kernel
theorem dX12_build_187 : decode cX12_build 187 = .ok (.aload_n 0, 1) := by decide +kernel
theorem dX12_build_188 : decode cX12_build 188 = .ok (.getfield 43, 3) := by decide +kernel
theorem dX12_build_191 : decode cX12_build 191 = .ok (.aload_n 0, 1) := by decide +kernel
theorem dX12_build_192 : decode cX12_build 192 = .ok (.getfield 9, 3) := by decide +kernel
theorem dX12_build_195 : decode cX12_build 195 = .ok (.bipush 42, 2) := by decide +kernel
theorem dX12_build_197 : decode cX12_build 197 = .ok (.iload 4, 2) := by decide +kernel
theorem dX12_build_199 : decode cX12_build 199 = .ok (.iadd, 1) := by decide +kernel
theorem dX12_build_200 : decode cX12_build 200 = .ok (.iaload, 1) := by decide +kernel
theorem dX12_build_201 : decode cX12_build 201 = .ok (.dup2, 1) := by decide +kernel
theorem dX12_build_202 : decode cX12_build 202 = .ok (.iaload, 1) := by decide +kernel
theorem dX12_build_203 : decode cX12_build 203 = .ok (.iconst 1, 1) := by decide +kernel
theorem dX12_build_204 : decode cX12_build 204 = .ok (.iadd, 1) := by decide +kernel
theorem dX12_build_205 : decode cX12_build 205 = .ok (.iastore, 1) := by decide +kernel
theorem dX12_build_206 : decode cX12_build 206 = .ok (.goto (-204), 3) := by decide +kernel
theorem dX12_build_209 : decode cX12_build 209 = .ok (.return_, 1) := by decide +kernel
theorem dX12_dispatch_0 : decode cX12_dispatch 0 = .ok (.aload_n 0, 1) := by decide +kernel
theorem dX12_dispatch_1 : decode cX12_dispatch 1 = .ok (.iload_n 1, 1) := by decide +kernel
theorem dX12_dispatch_2 : decode cX12_dispatch 2 = .ok (.i2l, 1) := by decide +kernel
theorem dX12_dispatch_3 : decode cX12_dispatch 3 = .ok (.lconst 0, 1) := by decide +kernel
theorem dX12_dispatch_4 : decode cX12_dispatch 4 = .ok (.ldc2_w 86, 3) := by decide +kernel
theorem dX12_dispatch_7 : decode cX12_dispatch 7 = .ok (.invokestatic 82, 3) := by decide +kernel
theorem dX12_dispatch_10 : decode cX12_dispatch 10 = .ok (.ifCond .eq 7, 3) := by decide +kernel
theorem dX12_dispatch_13 : decode cX12_dispatch 13 = .ok (.iconst 0, 1) := by decide +kernel
theorem dX12_dispatch_14 : decode cX12_dispatch 14 = .ok (.goto 4, 3) := by decide +kernel
theorem dX12_dispatch_17 : decode cX12_dispatch 17 = .ok (.iconst 1, 1) := by decide +kernel
theorem dX12_dispatch_18 : decode cX12_dispatch 18 = .ok (.putfield 79, 3) := by decide +kernel
theorem dX12_dispatch_21 : decode cX12_dispatch 21 = .ok (.aload_n 0, 1) := by decide +kernel
theorem dX12_dispatch_22 : decode cX12_dispatch 22 = .ok (.getfield 79, 3) := by decide +kernel
theorem dX12_dispatch_25 : decode cX12_dispatch 25 = .ok (.ifCond .le 5, 3) := by decide +kernel
theorem dX12_dispatch_28 : decode cX12_dispatch 28 = .ok (.iconst 0, 1) := by decide +kernel
theorem dX12_dispatch_29 : decode cX12_dispatch 29 = .ok (.ireturn, 1) := by decide +kernel
theorem dX12_dispatch_30 : decode cX12_dispatch 30 = .ok (.iconst 0, 1) := by decide +kernel
theorem dX12_dispatch_31 : decode cX12_dispatch 31 = .ok (.istore_n 2, 1) := by decide +kernel
theorem dX12_dispatch_32 : decode cX12_dispatch 32 = .ok (.iload_n 2, 1) := by decide +kernel
theorem dX12_dispatch_33 : decode cX12_dispatch 33 = .ok (.iconst 4, 1) := by decide +kernel
theorem dX12_dispatch_34 : decode cX12_dispatch 34 = .ok (.if_icmp .ge 20, 3) := by decide +kernel
theorem dX12_dispatch_37 : decode cX12_dispatch 37 = .ok (.aload_n 0, 1) := by decide +kernel
theorem dX12_dispatch_38 : decode cX12_dispatch 38 = .ok (.getfield 9, 3) := by decide +kernel
theorem dX12_dispatch_41 : decode cX12_dispatch 41 = .ok (.sipush 179, 3) := by decide +kernel
theorem dX12_dispatch_44 : decode cX12_dispatch 44 = .ok (.iload_n 2, 1) := by decide +kernel
theorem dX12_dispatch_45 : decode cX12_dispatch 45 = .ok (.iadd, 1) := by decide +kernel
theorem dX12_dispatch_46 : decode cX12_dispatch 46 = .ok (.iconst 0, 1) := by decide +kernel
theorem dX12_dispatch_47 : decode cX12_dispatch 47 = .ok (.iastore, 1) := by decide +kernel
theorem dX12_dispatch_48 : decode cX12_dispatch 48 = .ok (.iinc 2 1, 3) := by decide +kernel
theorem dX12_dispatch_51 : decode cX12_dispatch 51 = .ok (.goto (-19), 3) := by decide +kernel
theorem dX12_dispatch_54 : decode cX12_dispatch 54 = .ok (.iconst 0, 1) := by decide +kernel
theorem dX12_dispatch_55 : decode cX12_dispatch 55 = .ok (.istore_n 2, 1) := by decide +kernel
theorem dX12_dispatch_56 : decode cX12_dispatch 56 = .ok (.iload_n 2, 1) := by decide +kernel
theorem dX12_dispatch_57 : decode cX12_dispatch 57 = .ok (.iconst 5, 1) := by decide +kernel
theorem dX12_dispatch_58 : decode cX12_dispatch 58 = .ok (.if_icmp .ge 16, 3) := by decide +kernel
theorem dX12_dispatch_61 : decode cX12_dispatch 61 = .ok (.aload_n 0, 1) := by decide +kernel
theorem dX12_dispatch_62 : decode cX12_dispatch 62 = .ok (.getfield 43, 3) := by decide +kernel
theorem dX12_dispatch_65 : decode cX12_dispatch 65 = .ok (.iload_n 2, 1) := by decide +kernel
theorem dX12_dispatch_66 : decode cX12_dispatch 66 = .ok (.iconst 0, 1) := by decide +kernel
theorem dX12_dispatch_67 : decode cX12_dispatch 67 = .ok (.iastore, 1) := by decide +kernel
theorem dX12_dispatch_68 : decode cX12_dispatch 68 = .ok (.iinc 2 1, 3) := by decide +kernel
theorem dX12_dispatch_71 : decode cX12_dispatch 71 = .ok (.goto (-15), 3) := by decide +kernel
theorem dX12_dispatch_74 : decode cX12_dispatch 74 = .ok (.aload_n 0, 1) := by decide +kernel
theorem dX12_dispatch_75 : decode cX12_dispatch 75 = .ok (.iload_n 1, 1) := by decide +kernel
theorem dX12_dispatch_76 : decode cX12_dispatch 76 = .ok (.iconst 0, 1) := by decide +kernel
theorem dX12_dispatch_77 : decode cX12_dispatch 77 = .ok (.invokevirtual 241, 3) := by decide +kernel
theorem dX12_dispatch_80 : decode cX12_dispatch 80 = .ok (.aload_n 0, 1) := by decide +kernel
theorem dX12_dispatch_81 : decode cX12_dispatch 81 = .ok (.invokevirtual 188, 3) := by decide +kernel
theorem dX12_dispatch_84 : decode cX12_dispatch 84 = .ok (.ireturn, 1) := by decide +kernel
theorem dX12_repair_0 : decode cX12_repair 0 = .ok (.aload_n 0, 1) := by decide +kernel
theorem dX12_repair_1 : decode cX12_repair 1 = .ok (.iload_n 1, 1) := by decide +kernel
theorem dX12_repair_2 : decode cX12_repair 2 = .ok (.i2l, 1) := by decide +kernel
theorem dX12_repair_3 : decode cX12_repair 3 = .ok (.lconst 0, 1) := by decide +kernel
theorem dX12_repair_4 : decode cX12_repair 4 = .ok (.ldc2_w 244, 3) := by decide +kernel
theorem dX12_repair_7 : decode cX12_repair 7 = .ok (.invokestatic 82, 3) := by decide +kernel
theorem dX12_repair_10 : decode cX12_repair 10 = .ok (.ifCond .eq 19, 3) := by decide +kernel
theorem dX12_repair_13 : decode cX12_repair 13 = .ok (.iload_n 2, 1) := by decide +kernel
theorem dX12_repair_14 : decode cX12_repair 14 = .ok (.i2l, 1) := by decide +kernel
theorem dX12_repair_15 : decode cX12_repair 15 = .ok (.lconst 0, 1) := by decide +kernel
theorem dX12_repair_16 : decode cX12_repair 16 = .ok (.ldc2_w 86, 3) := by decide +kernel
theorem dX12_repair_19 : decode cX12_repair 19 = .ok (.invokestatic 82, 3) := by decide +kernel
theorem dX12_repair_22 : decode cX12_repair 22 = .ok (.ifCond .eq 7, 3) := by decide +kernel
theorem dX12_repair_25 : decode cX12_repair 25 = .ok (.iconst 0, 1) := by decide +kernel
theorem dX12_repair_26 : decode cX12_repair 26 = .ok (.goto 4, 3) := by decide +kernel
theorem dX12_repair_29 : decode cX12_repair 29 = .ok (.iconst 1, 1) := by decide +kernel
theorem dX12_repair_30 : decode cX12_repair 30 = .ok (.putfield 79, 3) := by decide +kernel
theorem dX12_repair_33 : decode cX12_repair 33 = .ok (.aload_n 0, 1) := by decide +kernel
theorem dX12_repair_34 : decode cX12_repair 34 = .ok (.getfield 79, 3) := by decide +kernel
theorem dX12_repair_37 : decode cX12_repair 37 = .ok (.ifCond .le 5, 3) := by decide +kernel
theorem dX12_repair_40 : decode cX12_repair 40 = .ok (.iconst 0, 1) := by decide +kernel
theorem dX12_repair_41 : decode cX12_repair 41 = .ok (.ireturn, 1) := by decide +kernel
theorem dX12_repair_42 : decode cX12_repair 42 = .ok (.aload_n 0, 1) := by decide +kernel
theorem dX12_repair_43 : decode cX12_repair 43 = .ok (.invokevirtual 181, 3) := by decide +kernel
theorem dX12_repair_46 : decode cX12_repair 46 = .ok (.istore_n 3, 1) := by decide +kernel
theorem dX12_repair_47 : decode cX12_repair 47 = .ok (.iconst 0, 1) := by decide +kernel
theorem dX12_repair_48 : decode cX12_repair 48 = .ok (.istore 4, 2) := by decide +kernel
theorem dX12_repair_50 : decode cX12_repair 50 = .ok (.iload 4, 2) := by decide +kernel
theorem dX12_repair_52 : decode cX12_repair 52 = .ok (.iconst 5, 1) := by decide +kernel
theorem dX12_repair_53 : decode cX12_repair 53 = .ok (.if_icmp .ge 17, 3) := by decide +kernel
theorem dX12_repair_56 : decode cX12_repair 56 = .ok (.aload_n 0, 1) := by decide +kernel
theorem dX12_repair_57 : decode cX12_repair 57 = .ok (.getfield 43, 3) := by decide +kernel
theorem dX12_repair_60 : decode cX12_repair 60 = .ok (.iload 4, 2) := by decide +kernel
theorem dX12_repair_62 : decode cX12_repair 62 = .ok (.iconst 0, 1) := by decide +kernel
theorem dX12_repair_63 : decode cX12_repair 63 = .ok (.iastore, 1) := by decide +kernel
theorem dX12_repair_64 : decode cX12_repair 64 = .ok (.iinc 4 1, 3) := by decide +kernel
theorem dX12_repair_67 : decode cX12_repair 67 = .ok (.goto (-17), 3) := by decide +kernel
theorem dX12_repair_70 : decode cX12_repair 70 = .ok (.iconst 0, 1) := by decide +kernel
theorem dX12_repair_71 : decode cX12_repair 71 = .ok (.istore 4, 2) := by decide +kernel
theorem dX12_repair_73 : decode cX12_repair 73 = .ok (.iload 4, 2) := by decide +kernel
theorem dX12_repair_75 : decode cX12_repair 75 = .ok (.iconst 4, 1) := by decide +kernel
theorem dX12_repair_76 : decode cX12_repair 76 = .ok (.if_icmp .ge 107, 3) := by decide +kernel
theorem dX12_repair_79 : decode cX12_repair 79 = .ok (.iconst 0, 1) := by decide +kernel
theorem dX12_repair_80 : decode cX12_repair 80 = .ok (.istore 5, 2) := by decide +kernel
theorem dX12_repair_82 : decode cX12_repair 82 = .ok (.iload 5, 2) := by decide +kernel
theorem dX12_repair_84 : decode cX12_repair 84 = .ok (.aload_n 0, 1) := by decide +kernel
theorem dX12_repair_85 : decode cX12_repair 85 = .ok (.getfield 9, 3) := by decide +kernel
theorem dX12_repair_88 : decode cX12_repair 88 = .ok (.sipush 179, 3) := by decide +kernel
theorem dX12_repair_91 : decode cX12_repair 91 = .ok (.iload 4, 2) := by decide +kernel
theorem dX12_repair_93 : decode cX12_repair 93 = .ok (.iadd, 1) := by decide +kernel
theorem dX12_repair_94 : decode cX12_repair 94 = .ok (.iaload, 1) := by decide +kernel
theorem dX12_repair_95 : decode cX12_repair 95 = .ok (.if_icmp .ge 69, 3) := by decide +kernel
theorem dX12_repair_98 : decode cX12_repair 98 = .ok (.aload_n 0, 1) := by decide +kernel
theorem dX12_repair_99 : decode cX12_repair 99 = .ok (.getfield 29, 3) := by decide +kernel
theorem dX12_repair_102 : decode cX12_repair 102 = .ok (.aload_n 0, 1) := by decide +kernel
theorem dX12_repair_103 : decode cX12_repair 103 = .ok (.iload 4, 2) := by decide +kernel
theorem dX12_repair_105 : decode cX12_repair 105 = .ok (.iload 5, 2) := by decide +kernel
theorem dX12_repair_107 : decode cX12_repair 107 = .ok (.invokevirtual 142, 3) := by decide +kernel
theorem dX12_repair_110 : decode cX12_repair 110 = .ok (.iaload, 1) := by decide +kernel
theorem dX12_repair_111 : decode cX12_repair 111 = .ok (.iload_n 1, 1) := by decide +kernel
theorem dX12_repair_112 : decode cX12_repair 112 = .ok (.if_icmp .ge 52, 3) := by decide +kernel
theorem dX12_repair_115 : decode cX12_repair 115 = .ok (.aload_n 0, 1) := by decide +kernel
theorem dX12_repair_116 : decode cX12_repair 116 = .ok (.iload 4, 2) := by decide +kernel
theorem dX12_repair_118 : decode cX12_repair 118 = .ok (.iload 5, 2) := by decide +kernel
theorem dX12_repair_120 : decode cX12_repair 120 = .ok (.invokevirtual 142, 3) := by decide +kernel
theorem dX12_repair_123 : decode cX12_repair 123 = .ok (.istore 6, 2) := by decide +kernel
theorem dX12_repair_125 : decode cX12_repair 125 = .ok (.aload_n 0, 1) := by decide +kernel
theorem dX12_repair_126 : decode cX12_repair 126 = .ok (.getfield 46, 3) := by decide +kernel
theorem dX12_repair_129 : decode cX12_repair 129 = .ok (.iload 6, 2) := by decide +kernel
theorem dX12_repair_131 : decode cX12_repair 131 = .ok (.aload_n 0, 1) := by decide +kernel
theorem dX12_repair_132 : decode cX12_repair 132 = .ok (.getfield 29, 3) := by decide +kernel
theorem dX12_repair_135 : decode cX12_repair 135 = .ok (.iload 6, 2) := by decide +kernel
theorem dX12_repair_137 : decode cX12_repair 137 = .ok (.iaload, 1) := by decide +kernel
theorem dX12_repair_138 : decode cX12_repair 138 = .ok (.iastore, 1) := by decide +kernel
theorem dX12_repair_139 : decode cX12_repair 139 = .ok (.aload_n 0, 1) := by decide +kernel
theorem dX12_repair_140 : decode cX12_repair 140 = .ok (.getfield 43, 3) := by decide +kernel
theorem dX12_repair_143 : decode cX12_repair 143 = .ok (.aload_n 0, 1) := by decide +kernel
theorem dX12_repair_144 : decode cX12_repair 144 = .ok (.getfield 9, 3) := by decide +kernel
theorem dX12_repair_147 : decode cX12_repair 147 = .ok (.bipush 42, 2) := by decide +kernel
theorem dX12_repair_149 : decode cX12_repair 149 = .ok (.iload 6, 2) := by decide +kernel
theorem dX12_repair_151 : decode cX12_repair 151 = .ok (.iadd, 1) := by decide +kernel
theorem dX12_repair_152 : decode cX12_repair 152 = .ok (.iaload, 1) := by decide +kernel
theorem dX12_repair_153 : decode cX12_repair 153 = .ok (.dup2, 1) := by decide +kernel
theorem dX12_repair_154 : decode cX12_repair 154 = .ok (.iaload, 1) := by decide +kernel
theorem dX12_repair_155 : decode cX12_repair 155 = .ok (.iconst 1, 1) := by decide +kernel
theorem dX12_repair_156 : decode cX12_repair 156 = .ok (.iadd, 1) := by decide +kernel
theorem dX12_repair_157 : decode cX12_repair 157 = .ok (.iastore, 1) := by decide +kernel
theorem dX12_repair_158 : decode cX12_repair 158 = .ok (.iinc 5 1, 3) := by decide +kernel
theorem dX12_repair_161 : decode cX12_repair 161 = .ok (.goto (-79), 3) := by decide +kernel
theorem dX12_repair_164 : decode cX12_repair 164 = .ok (.aload_n 0, 1) := by decide +kernel
theorem dX12_repair_165 : decode cX12_repair 165 = .ok (.getfield 9, 3) := by decide +kernel
theorem dX12_repair_168 : decode cX12_repair 168 = .ok (.sipush 179, 3) := by decide +kernel
theorem dX12_repair_171 : decode cX12_repair 171 = .ok (.iload 4, 2) := by decide +kernel
theorem dX12_repair_173 : decode cX12_repair 173 = .ok (.iadd, 1) := by decide +kernel
theorem dX12_repair_174 : decode cX12_repair 174 = .ok (.iload 5, 2) := by decide +kernel
theorem dX12_repair_176 : decode cX12_repair 176 = .ok (.iastore, 1) := by decide +kernel
theorem dX12_repair_177 : decode cX12_repair 177 = .ok (.iinc 4 1, 3) := by decide +kernel
theorem dX12_repair_180 : decode cX12_repair 180 = .ok (.goto (-107), 3) := by decide +kernel
theorem dX12_repair_183 : decode cX12_repair 183 = .ok (.aload_n 0, 1) := by decide +kernel
theorem dX12_repair_184 : decode cX12_repair 184 = .ok (.iload_n 2, 1) := by decide +kernel
theorem dX12_repair_185 : decode cX12_repair 185 = .ok (.iload_n 1, 1) := by decide +kernel
theorem dX12_repair_186 : decode cX12_repair 186 = .ok (.invokevirtual 241, 3) := by decide +kernel
theorem dX12_repair_189 : decode cX12_repair 189 = .ok (.aload_n 0, 1) := by decide +kernel
theorem dX12_repair_190 : decode cX12_repair 190 = .ok (.invokevirtual 188, 3) := by decide +kernel
theorem dX12_repair_193 : decode cX12_repair 193 = .ok (.ireturn, 1) := by decide +kernel
theorem dX12_tryOrders_0 : decode cX12_tryOrders 0 = .ok (.aload_n 0, 1) := by decide +kernel
theorem dX12_tryOrders_1 : decode cX12_tryOrders 1 = .ok (.getfield 9, 3) := by decide +kernel
theorem dX12_tryOrders_4 : decode cX12_tryOrders 4 = .ok (.sipush 179, 3) := by decide +kernel
theorem dX12_tryOrders_7 : decode cX12_tryOrders 7 = .ok (.iload_n 1, 1) := by decide +kernel
theorem dX12_tryOrders_8 : decode cX12_tryOrders 8 = .ok (.iadd, 1) := by decide +kernel
theorem dX12_tryOrders_9 : decode cX12_tryOrders 9 = .ok (.iaload, 1) := by decide +kernel
theorem dX12_tryOrders_10 : decode cX12_tryOrders 10 = .ok (.istore_n 3, 1) := by decide +kernel
theorem dX12_tryOrders_11 : decode cX12_tryOrders 11 = .ok (.iload_n 2, 1) := by decide +kernel
theorem dX12_tryOrders_12 : decode cX12_tryOrders 12 = .ok (.iload_n 3, 1) := by decide +kernel
theorem dX12_tryOrders_13 : decode cX12_tryOrders 13 = .ok (.if_icmp .ne 66, 3) := by decide +kernel
theorem dX12_tryOrders_16 : decode cX12_tryOrders 16 = .ok (.aload_n 0, 1) := by decide +kernel
theorem dX12_tryOrders_17 : decode cX12_tryOrders 17 = .ok (.invokevirtual 188, 3) := by decide +kernel
theorem dX12_tryOrders_20 : decode cX12_tryOrders 20 = .ok (.istore 4, 2) := by decide +kernel
theorem dX12_tryOrders_22 : decode cX12_tryOrders 22 = .ok (.iload 4, 2) := by decide +kernel
theorem dX12_tryOrders_24 : decode cX12_tryOrders 24 = .ok (.ifCond .lt 54, 3) := by decide +kernel
theorem dX12_tryOrders_27 : decode cX12_tryOrders 27 = .ok (.aload_n 0, 1) := by decide +kernel
theorem dX12_tryOrders_28 : decode cX12_tryOrders 28 = .ok (.getfield 246, 3) := by decide +kernel
theorem dX12_tryOrders_31 : decode cX12_tryOrders 31 = .ok (.ifCond .lt 12, 3) := by decide +kernel
theorem dX12_tryOrders_34 : decode cX12_tryOrders 34 = .ok (.iload 4, 2) := by decide +kernel
theorem dX12_tryOrders_36 : decode cX12_tryOrders 36 = .ok (.aload_n 0, 1) := by decide +kernel
theorem dX12_tryOrders_37 : decode cX12_tryOrders 37 = .ok (.getfield 246, 3) := by decide +kernel
theorem dX12_tryOrders_40 : decode cX12_tryOrders 40 = .ok (.if_icmp .ge 38, 3) := by decide +kernel
theorem dX12_tryOrders_43 : decode cX12_tryOrders 43 = .ok (.aload_n 0, 1) := by decide +kernel
theorem dX12_tryOrders_44 : decode cX12_tryOrders 44 = .ok (.iload 4, 2) := by decide +kernel
theorem dX12_tryOrders_46 : decode cX12_tryOrders 46 = .ok (.putfield 246, 3) := by decide +kernel
theorem dX12_tryOrders_49 : decode cX12_tryOrders 49 = .ok (.iconst 0, 1) := by decide +kernel
theorem dX12_tryOrders_50 : decode cX12_tryOrders 50 = .ok (.istore 5, 2) := by decide +kernel
theorem dX12_tryOrders_52 : decode cX12_tryOrders 52 = .ok (.iload 5, 2) := by decide +kernel
theorem dX12_tryOrders_54 : decode cX12_tryOrders 54 = .ok (.iload_n 3, 1) := by decide +kernel
theorem dX12_tryOrders_55 : decode cX12_tryOrders 55 = .ok (.if_icmp .ge 23, 3) := by decide +kernel
theorem dX12_tryOrders_58 : decode cX12_tryOrders 58 = .ok (.aload_n 0, 1) := by decide +kernel
theorem dX12_tryOrders_59 : decode cX12_tryOrders 59 = .ok (.getfield 49, 3) := by decide +kernel
theorem dX12_tryOrders_62 : decode cX12_tryOrders 62 = .ok (.iload 5, 2) := by decide +kernel
theorem dX12_tryOrders_64 : decode cX12_tryOrders 64 = .ok (.aload_n 0, 1) := by decide +kernel
theorem dX12_tryOrders_65 : decode cX12_tryOrders 65 = .ok (.iload_n 1, 1) := by decide +kernel
theorem dX12_tryOrders_66 : decode cX12_tryOrders 66 = .ok (.iload 5, 2) := by decide +kernel
theorem dX12_tryOrders_68 : decode cX12_tryOrders 68 = .ok (.invokevirtual 142, 3) := by decide +kernel
theorem dX12_tryOrders_71 : decode cX12_tryOrders 71 = .ok (.iastore, 1) := by decide +kernel
theorem dX12_tryOrders_72 : decode cX12_tryOrders 72 = .ok (.iinc 5 1, 3) := by decide +kernel
theorem dX12_tryOrders_75 : decode cX12_tryOrders 75 = .ok (.goto (-23), 3) := by decide +kernel
theorem dX12_tryOrders_78 : decode cX12_tryOrders 78 = .ok (.return_, 1) := by decide +kernel
theorem dX12_tryOrders_79 : decode cX12_tryOrders 79 = .ok (.iconst 0, 1) := by decide +kernel
theorem dX12_tryOrders_80 : decode cX12_tryOrders 80 = .ok (.istore 4, 2) := by decide +kernel
theorem dX12_tryOrders_82 : decode cX12_tryOrders 82 = .ok (.iload 4, 2) := by decide +kernel
theorem dX12_tryOrders_84 : decode cX12_tryOrders 84 = .ok (.aload_n 0, 1) := by decide +kernel
theorem dX12_tryOrders_85 : decode cX12_tryOrders 85 = .ok (.getfield 9, 3) := by decide +kernel
theorem dX12_tryOrders_88 : decode cX12_tryOrders 88 = .ok (.iconst 1, 1) := by decide +kernel
theorem dX12_tryOrders_89 : decode cX12_tryOrders 89 = .ok (.iaload, 1) := by decide +kernel
theorem dX12_tryOrders_90 : decode cX12_tryOrders 90 = .ok (.if_icmp .ge 65, 3) := by decide +kernel
theorem dX12_tryOrders_93 : decode cX12_tryOrders 93 = .ok (.aload_n 0, 1) := by decide +kernel
theorem dX12_tryOrders_94 : decode cX12_tryOrders 94 = .ok (.getfield 9, 3) := by decide +kernel
theorem dX12_tryOrders_97 : decode cX12_tryOrders 97 = .ok (.bipush 62, 2) := by decide +kernel
theorem dX12_tryOrders_99 : decode cX12_tryOrders 99 = .ok (.iload 4, 2) := by decide +kernel
theorem dX12_tryOrders_101 : decode cX12_tryOrders 101 = .ok (.iadd, 1) := by decide +kernel
theorem dX12_tryOrders_102 : decode cX12_tryOrders 102 = .ok (.iaload, 1) := by decide +kernel
theorem dX12_tryOrders_103 : decode cX12_tryOrders 103 = .ok (.iload_n 1, 1) := by decide +kernel
theorem dX12_tryOrders_104 : decode cX12_tryOrders 104 = .ok (.if_icmp .ne 45, 3) := by decide +kernel
theorem dX12_tryOrders_107 : decode cX12_tryOrders 107 = .ok (.aload_n 0, 1) := by decide +kernel
theorem dX12_tryOrders_108 : decode cX12_tryOrders 108 = .ok (.getfield 52, 3) := by decide +kernel
theorem dX12_tryOrders_111 : decode cX12_tryOrders 111 = .ok (.iload 4, 2) := by decide +kernel
theorem dX12_tryOrders_113 : decode cX12_tryOrders 113 = .ok (.baload, 1) := by decide +kernel
theorem dX12_tryOrders_114 : decode cX12_tryOrders 114 = .ok (.ifCond .ne 35, 3) := by decide +kernel
theorem dX12_tryOrders_117 : decode cX12_tryOrders 117 = .ok (.aload_n 0, 1) := by decide +kernel
theorem dX12_tryOrders_118 : decode cX12_tryOrders 118 = .ok (.getfield 52, 3) := by decide +kernel
theorem dX12_tryOrders_121 : decode cX12_tryOrders 121 = .ok (.iload 4, 2) := by decide +kernel
theorem dX12_tryOrders_123 : decode cX12_tryOrders 123 = .ok (.iconst 1, 1) := by decide +kernel
theorem dX12_tryOrders_124 : decode cX12_tryOrders 124 = .ok (.bastore, 1) := by decide +kernel
theorem dX12_tryOrders_125 : decode cX12_tryOrders 125 = .ok (.aload_n 0, 1) := by decide +kernel
theorem dX12_tryOrders_126 : decode cX12_tryOrders 126 = .ok (.iload_n 1, 1) := by decide +kernel
theorem dX12_tryOrders_127 : decode cX12_tryOrders 127 = .ok (.iload_n 2, 1) := by decide +kernel
theorem dX12_tryOrders_128 : decode cX12_tryOrders 128 = .ok (.iload 4, 2) := by decide +kernel
theorem dX12_tryOrders_130 : decode cX12_tryOrders 130 = .ok (.invokevirtual 114, 3) := by decide +kernel
theorem dX12_tryOrders_133 : decode cX12_tryOrders 133 = .ok (.aload_n 0, 1) := by decide +kernel
theorem dX12_tryOrders_134 : decode cX12_tryOrders 134 = .ok (.iload_n 1, 1) := by decide +kernel
theorem dX12_tryOrders_135 : decode cX12_tryOrders 135 = .ok (.iload_n 2, 1) := by decide +kernel
theorem dX12_tryOrders_136 : decode cX12_tryOrders 136 = .ok (.iconst 1, 1) := by decide +kernel
theorem dX12_tryOrders_137 : decode cX12_tryOrders 137 = .ok (.iadd, 1) := by decide +kernel
theorem dX12_tryOrders_138 : decode cX12_tryOrders 138 = .ok (.invokevirtual 249, 3) := by decide +kernel
theorem dX12_tryOrders_141 : decode cX12_tryOrders 141 = .ok (.aload_n 0, 1) := by decide +kernel
theorem dX12_tryOrders_142 : decode cX12_tryOrders 142 = .ok (.getfield 52, 3) := by decide +kernel
theorem dX12_tryOrders_145 : decode cX12_tryOrders 145 = .ok (.iload 4, 2) := by decide +kernel
theorem dX12_tryOrders_147 : decode cX12_tryOrders 147 = .ok (.iconst 0, 1) := by decide +kernel
theorem dX12_tryOrders_148 : decode cX12_tryOrders 148 = .ok (.bastore, 1) := by decide +kernel
theorem dX12_tryOrders_149 : decode cX12_tryOrders 149 = .ok (.iinc 4 1, 3) := by decide +kernel
theorem dX12_tryOrders_152 : decode cX12_tryOrders 152 = .ok (.goto (-70), 3) := by decide +kernel
theorem dX12_tryOrders_155 : decode cX12_tryOrders 155 = .ok (.return_, 1) := by decide +kernel
theorem dX12_findBest_0 : decode cX12_findBest 0 = .ok (.aload_n 0, 1) := by decide +kernel
theorem dX12_findBest_1 : decode cX12_findBest 1 = .ok (.getfield 9, 3) := by decide +kernel
theorem dX12_findBest_4 : decode cX12_findBest 4 = .ok (.sipush 179, 3) := by decide +kernel
theorem dX12_findBest_7 : decode cX12_findBest 7 = .ok (.iload_n 1, 1) := by decide +kernel
theorem dX12_findBest_8 : decode cX12_findBest 8 = .ok (.iadd, 1) := by decide +kernel
theorem dX12_findBest_9 : decode cX12_findBest 9 = .ok (.iaload, 1) := by decide +kernel
theorem dX12_findBest_10 : decode cX12_findBest 10 = .ok (.istore_n 2, 1) := by decide +kernel
theorem dX12_findBest_11 : decode cX12_findBest 11 = .ok (.iconst 0, 1) := by decide +kernel
theorem dX12_findBest_12 : decode cX12_findBest 12 = .ok (.istore_n 3, 1) := by decide +kernel
theorem dX12_findBest_13 : decode cX12_findBest 13 = .ok (.iload_n 3, 1) := by decide +kernel
theorem dX12_findBest_14 : decode cX12_findBest 14 = .ok (.iload_n 2, 1) := by decide +kernel
theorem dX12_findBest_15 : decode cX12_findBest 15 = .ok (.if_icmp .ge 21, 3) := by decide +kernel
theorem dX12_findBest_18 : decode cX12_findBest 18 = .ok (.aload_n 0, 1) := by decide +kernel
theorem dX12_findBest_19 : decode cX12_findBest 19 = .ok (.getfield 55, 3) := by decide +kernel
theorem dX12_findBest_22 : decode cX12_findBest 22 = .ok (.iload_n 3, 1) := by decide +kernel
theorem dX12_findBest_23 : decode cX12_findBest 23 = .ok (.aload_n 0, 1) := by decide +kernel
theorem dX12_findBest_24 : decode cX12_findBest 24 = .ok (.iload_n 1, 1) := by decide +kernel
theorem dX12_findBest_25 : decode cX12_findBest 25 = .ok (.iload_n 3, 1) := by decide +kernel
theorem dX12_findBest_26 : decode cX12_findBest 26 = .ok (.invokevirtual 142, 3) := by decide +kernel
theorem dX12_findBest_29 : decode cX12_findBest 29 = .ok (.iastore, 1) := by decide +kernel
theorem dX12_findBest_30 : decode cX12_findBest 30 = .ok (.iinc 3 1, 3) := by decide +kernel
theorem dX12_findBest_33 : decode cX12_findBest 33 = .ok (.goto (-20), 3) := by decide +kernel
theorem dX12_findBest_36 : decode cX12_findBest 36 = .ok (.aload_n 0, 1) := by decide +kernel
theorem dX12_findBest_37 : decode cX12_findBest 37 = .ok (.iconst (-1), 1) := by decide +kernel
theorem dX12_findBest_38 : decode cX12_findBest 38 = .ok (.putfield 246, 3) := by decide +kernel
theorem dX12_findBest_41 : decode cX12_findBest 41 = .ok (.aload_n 0, 1) := by decide +kernel
theorem dX12_findBest_42 : decode cX12_findBest 42 = .ok (.iload_n 1, 1) := by decide +kernel
theorem dX12_findBest_43 : decode cX12_findBest 43 = .ok (.iconst 0, 1) := by decide +kernel
theorem dX12_findBest_44 : decode cX12_findBest 44 = .ok (.invokevirtual 249, 3) := by decide +kernel
theorem dX12_findBest_47 : decode cX12_findBest 47 = .ok (.iconst 0, 1) := by decide +kernel
theorem dX12_findBest_48 : decode cX12_findBest 48 = .ok (.istore_n 3, 1) := by decide +kernel
theorem dX12_findBest_49 : decode cX12_findBest 49 = .ok (.iload_n 3, 1) := by decide +kernel
theorem dX12_findBest_50 : decode cX12_findBest 50 = .ok (.iload_n 2, 1) := by decide +kernel
theorem dX12_findBest_51 : decode cX12_findBest 51 = .ok (.if_icmp .ge 21, 3) := by decide +kernel
theorem dX12_findBest_54 : decode cX12_findBest 54 = .ok (.aload_n 0, 1) := by decide +kernel
theorem dX12_findBest_55 : decode cX12_findBest 55 = .ok (.iload_n 1, 1) := by decide +kernel
theorem dX12_findBest_56 : decode cX12_findBest 56 = .ok (.iload_n 3, 1) := by decide +kernel
theorem dX12_findBest_57 : decode cX12_findBest 57 = .ok (.aload_n 0, 1) := by decide +kernel
theorem dX12_findBest_58 : decode cX12_findBest 58 = .ok (.getfield 55, 3) := by decide +kernel
theorem dX12_findBest_61 : decode cX12_findBest 61 = .ok (.iload_n 3, 1) := by decide +kernel
theorem dX12_findBest_62 : decode cX12_findBest 62 = .ok (.iaload, 1) := by decide +kernel
theorem dX12_findBest_63 : decode cX12_findBest 63 = .ok (.invokevirtual 114, 3) := by decide +kernel
theorem dX12_findBest_66 : decode cX12_findBest 66 = .ok (.iinc 3 1, 3) := by decide +kernel
theorem dX12_findBest_69 : decode cX12_findBest 69 = .ok (.goto (-20), 3) := by decide +kernel
theorem dX12_findBest_72 : decode cX12_findBest 72 = .ok (.return_, 1) := by decide +kernel
theorem dX12_takeBest_0 : decode cX12_takeBest 0 = .ok (.iconst 0, 1) := by decide +kernel
theorem dX12_takeBest_1 : decode cX12_takeBest 1 = .ok (.istore_n 2, 1) := by decide +kernel
theorem dX12_takeBest_2 : decode cX12_takeBest 2 = .ok (.iconst 0, 1) := by decide +kernel
theorem dX12_takeBest_3 : decode cX12_takeBest 3 = .ok (.istore_n 3, 1) := by decide +kernel
theorem dX12_takeBest_4 : decode cX12_takeBest 4 = .ok (.iload_n 3, 1) := by decide +kernel
theorem dX12_takeBest_5 : decode cX12_takeBest 5 = .ok (.aload_n 0, 1) := by decide +kernel
theorem dX12_takeBest_6 : decode cX12_takeBest 6 = .ok (.getfield 9, 3) := by decide +kernel
theorem dX12_takeBest_9 : decode cX12_takeBest 9 = .ok (.sipush 179, 3) := by decide +kernel
theorem dX12_takeBest_12 : decode cX12_takeBest 12 = .ok (.iload_n 1, 1) := by decide +kernel
theorem dX12_takeBest_13 : decode cX12_takeBest 13 = .ok (.iadd, 1) := by decide +kernel
theorem dX12_takeBest_14 : decode cX12_takeBest 14 = .ok (.iaload, 1) := by decide +kernel
theorem dX12_takeBest_15 : decode cX12_takeBest 15 = .ok (.if_icmp .ge 44, 3) := by decide +kernel
theorem dX12_takeBest_18 : decode cX12_takeBest 18 = .ok (.iload_n 2, 1) := by decide +kernel
theorem dX12_takeBest_19 : decode cX12_takeBest 19 = .ok (.aload_n 0, 1) := by decide +kernel
theorem dX12_takeBest_20 : decode cX12_takeBest 20 = .ok (.iload_n 1, 1) := by decide +kernel
theorem dX12_takeBest_21 : decode cX12_takeBest 21 = .ok (.iload_n 3, 1) := by decide +kernel
theorem dX12_takeBest_22 : decode cX12_takeBest 22 = .ok (.invokevirtual 142, 3) := by decide +kernel
theorem dX12_takeBest_25 : decode cX12_takeBest 25 = .ok (.aload_n 0, 1) := by decide +kernel
theorem dX12_takeBest_26 : decode cX12_takeBest 26 = .ok (.getfield 49, 3) := by decide +kernel
theorem dX12_takeBest_29 : decode cX12_takeBest 29 = .ok (.iload_n 3, 1) := by decide +kernel
theorem dX12_takeBest_30 : decode cX12_takeBest 30 = .ok (.iaload, 1) := by decide +kernel
theorem dX12_takeBest_31 : decode cX12_takeBest 31 = .ok (.if_icmp .eq 7, 3) := by decide +kernel
theorem dX12_takeBest_34 : decode cX12_takeBest 34 = .ok (.iconst 1, 1) := by decide +kernel
theorem dX12_takeBest_35 : decode cX12_takeBest 35 = .ok (.goto 4, 3) := by decide +kernel
theorem dX12_takeBest_38 : decode cX12_takeBest 38 = .ok (.iconst 0, 1) := by decide +kernel
theorem dX12_takeBest_39 : decode cX12_takeBest 39 = .ok (.iadd, 1) := by decide +kernel
theorem dX12_takeBest_40 : decode cX12_takeBest 40 = .ok (.istore_n 2, 1) := by decide +kernel
theorem dX12_takeBest_41 : decode cX12_takeBest 41 = .ok (.aload_n 0, 1) := by decide +kernel
theorem dX12_takeBest_42 : decode cX12_takeBest 42 = .ok (.iload_n 1, 1) := by decide +kernel
theorem dX12_takeBest_43 : decode cX12_takeBest 43 = .ok (.iload_n 3, 1) := by decide +kernel
theorem dX12_takeBest_44 : decode cX12_takeBest 44 = .ok (.aload_n 0, 1) := by decide +kernel
theorem dX12_takeBest_45 : decode cX12_takeBest 45 = .ok (.getfield 49, 3) := by decide +kernel
theorem dX12_takeBest_48 : decode cX12_takeBest 48 = .ok (.iload_n 3, 1) := by decide +kernel
theorem dX12_takeBest_49 : decode cX12_takeBest 49 = .ok (.iaload, 1) := by decide +kernel
theorem dX12_takeBest_50 : decode cX12_takeBest 50 = .ok (.invokevirtual 114, 3) := by decide +kernel
theorem dX12_takeBest_53 : decode cX12_takeBest 53 = .ok (.iinc 3 1, 3) := by decide +kernel
theorem dX12_takeBest_56 : decode cX12_takeBest 56 = .ok (.goto (-52), 3) := by decide +kernel
theorem dX12_takeBest_59 : decode cX12_takeBest 59 = .ok (.iload_n 2, 1) := by decide +kernel
theorem dX12_takeBest_60 : decode cX12_takeBest 60 = .ok (.ireturn, 1) := by decide +kernel
theorem dX12_best_0 : decode cX12_best 0 = .ok (.aload_n 0, 1) := by decide +kernel
theorem dX12_best_1 : decode cX12_best 1 = .ok (.iload_n 1, 1) := by decide +kernel
theorem dX12_best_2 : decode cX12_best 2 = .ok (.invokestatic 122, 3) := by decide +kernel
theorem dX12_best_5 : decode cX12_best 5 = .ok (.ifCond .eq 7, 3) := by decide +kernel
theorem dX12_best_8 : decode cX12_best 8 = .ok (.iconst 0, 1) := by decide +kernel
theorem dX12_best_9 : decode cX12_best 9 = .ok (.goto 4, 3) := by decide +kernel
theorem dX12_best_12 : decode cX12_best 12 = .ok (.iconst 1, 1) := by decide +kernel
theorem dX12_best_13 : decode cX12_best 13 = .ok (.putfield 79, 3) := by decide +kernel
theorem dX12_best_16 : decode cX12_best 16 = .ok (.aload_n 0, 1) := by decide +kernel
theorem dX12_best_17 : decode cX12_best 17 = .ok (.getfield 79, 3) := by decide +kernel
theorem dX12_best_20 : decode cX12_best 20 = .ok (.ifCond .le 5, 3) := by decide +kernel
theorem dX12_best_23 : decode cX12_best 23 = .ok (.iconst 0, 1) := by decide +kernel
theorem dX12_best_24 : decode cX12_best 24 = .ok (.ireturn, 1) := by decide +kernel
theorem dX12_best_25 : decode cX12_best 25 = .ok (.aload_n 0, 1) := by decide +kernel
theorem dX12_best_26 : decode cX12_best 26 = .ok (.iload_n 1, 1) := by decide +kernel
theorem dX12_best_27 : decode cX12_best 27 = .ok (.invokevirtual 252, 3) := by decide +kernel
theorem dX12_best_30 : decode cX12_best 30 = .ok (.aload_n 0, 1) := by decide +kernel
theorem dX12_best_31 : decode cX12_best 31 = .ok (.getfield 246, 3) := by decide +kernel
theorem dX12_best_34 : decode cX12_best 34 = .ok (.ireturn, 1) := by decide +kernel
theorem dX12_reoptimize_0 : decode cX12_reoptimize 0 = .ok (.aload_n 0, 1) := by decide +kernel
theorem dX12_reoptimize_1 : decode cX12_reoptimize 1 = .ok (.iload_n 1, 1) := by decide +kernel
theorem dX12_reoptimize_2 : decode cX12_reoptimize 2 = .ok (.invokestatic 122, 3) := by decide +kernel
theorem dX12_reoptimize_5 : decode cX12_reoptimize 5 = .ok (.ifCond .eq 7, 3) := by decide +kernel
theorem dX12_reoptimize_8 : decode cX12_reoptimize 8 = .ok (.iconst 0, 1) := by decide +kernel
theorem dX12_reoptimize_9 : decode cX12_reoptimize 9 = .ok (.goto 4, 3) := by decide +kernel
theorem dX12_reoptimize_12 : decode cX12_reoptimize 12 = .ok (.iconst 1, 1) := by decide +kernel
theorem dX12_reoptimize_13 : decode cX12_reoptimize 13 = .ok (.putfield 79, 3) := by decide +kernel
theorem dX12_reoptimize_16 : decode cX12_reoptimize 16 = .ok (.aload_n 0, 1) := by decide +kernel
theorem dX12_reoptimize_17 : decode cX12_reoptimize 17 = .ok (.getfield 79, 3) := by decide +kernel
theorem dX12_reoptimize_20 : decode cX12_reoptimize 20 = .ok (.ifCond .le 5, 3) := by decide +kernel
theorem dX12_reoptimize_23 : decode cX12_reoptimize 23 = .ok (.iconst 0, 1) := by decide +kernel
theorem dX12_reoptimize_24 : decode cX12_reoptimize 24 = .ok (.ireturn, 1) := by decide +kernel
theorem dX12_reoptimize_25 : decode cX12_reoptimize 25 = .ok (.aload_n 0, 1) := by decide +kernel
theorem dX12_reoptimize_26 : decode cX12_reoptimize 26 = .ok (.iload_n 1, 1) := by decide +kernel
theorem dX12_reoptimize_27 : decode cX12_reoptimize 27 = .ok (.invokevirtual 252, 3) := by decide +kernel
theorem dX12_reoptimize_30 : decode cX12_reoptimize 30 = .ok (.aload_n 0, 1) := by decide +kernel
theorem dX12_reoptimize_31 : decode cX12_reoptimize 31 = .ok (.iload_n 1, 1) := by decide +kernel
theorem dX12_reoptimize_32 : decode cX12_reoptimize 32 = .ok (.invokevirtual 255, 3) := by decide +kernel
theorem dX12_reoptimize_35 : decode cX12_reoptimize 35 = .ok (.ireturn, 1) := by decide +kernel
