theorem dX12_shiftBottlenecks_0 : decode cX12_shiftBottlenecks 0 = .ok (.aload_n 0, 1) := by decide +kernel
theorem dX12_shiftBottlenecks_1 : decode cX12_shiftBottlenecks 1 = .ok (.iconst 0, 1) := by decide +kernel
theorem dX12_shiftBottlenecks_2 : decode cX12_shiftBottlenecks 2 = .ok (.putfield 79, 3) := by decide +kernel
theorem dX12_shiftBottlenecks_5 : decode cX12_shiftBottlenecks 5 = .ok (.iconst 0, 1) := by decide +kernel
theorem dX12_shiftBottlenecks_6 : decode cX12_shiftBottlenecks 6 = .ok (.istore_n 1, 1) := by decide +kernel
theorem dX12_shiftBottlenecks_7 : decode cX12_shiftBottlenecks 7 = .ok (.iload_n 1, 1) := by decide +kernel
theorem dX12_shiftBottlenecks_8 : decode cX12_shiftBottlenecks 8 = .ok (.iconst 4, 1) := by decide +kernel
theorem dX12_shiftBottlenecks_9 : decode cX12_shiftBottlenecks 9 = .ok (.if_icmp .ge 16, 3) := by decide +kernel
theorem dX12_shiftBottlenecks_12 : decode cX12_shiftBottlenecks 12 = .ok (.aload_n 0, 1) := by decide +kernel
theorem dX12_shiftBottlenecks_13 : decode cX12_shiftBottlenecks 13 = .ok (.getfield 32, 3) := by decide +kernel
theorem dX12_shiftBottlenecks_16 : decode cX12_shiftBottlenecks 16 = .ok (.iload_n 1, 1) := by decide +kernel
theorem dX12_shiftBottlenecks_17 : decode cX12_shiftBottlenecks 17 = .ok (.iconst 1, 1) := by decide +kernel
theorem dX12_shiftBottlenecks_18 : decode cX12_shiftBottlenecks 18 = .ok (.bastore, 1) := by decide +kernel
theorem dX12_shiftBottlenecks_19 : decode cX12_shiftBottlenecks 19 = .ok (.iinc 1 1, 3) := by decide +kernel
theorem dX12_shiftBottlenecks_22 : decode cX12_shiftBottlenecks 22 = .ok (.goto (-15), 3) := by decide +kernel
theorem dX12_shiftBottlenecks_25 : decode cX12_shiftBottlenecks 25 = .ok (.iconst 0, 1) := by decide +kernel
theorem dX12_shiftBottlenecks_26 : decode cX12_shiftBottlenecks 26 = .ok (.istore_n 1, 1) := by decide +kernel
theorem dX12_shiftBottlenecks_27 : decode cX12_shiftBottlenecks 27 = .ok (.iload_n 1, 1) := by decide +kernel
theorem dX12_shiftBottlenecks_28 : decode cX12_shiftBottlenecks 28 = .ok (.iconst 4, 1) := by decide +kernel
theorem dX12_shiftBottlenecks_29 : decode cX12_shiftBottlenecks 29 = .ok (.if_icmp .ge 152, 3) := by decide +kernel
theorem dX12_shiftBottlenecks_32 : decode cX12_shiftBottlenecks 32 = .ok (.iconst (-1), 1) := by decide +kernel
theorem dX12_shiftBottlenecks_33 : decode cX12_shiftBottlenecks 33 = .ok (.istore_n 2, 1) := by decide +kernel
theorem dX12_shiftBottlenecks_34 : decode cX12_shiftBottlenecks 34 = .ok (.iconst (-1), 1) := by decide +kernel
theorem dX12_shiftBottlenecks_35 : decode cX12_shiftBottlenecks 35 = .ok (.istore_n 3, 1) := by decide +kernel
theorem dX12_shiftBottlenecks_36 : decode cX12_shiftBottlenecks 36 = .ok (.iconst 0, 1) := by decide +kernel
theorem dX12_shiftBottlenecks_37 : decode cX12_shiftBottlenecks 37 = .ok (.istore 4, 2) := by decide +kernel
theorem dX12_shiftBottlenecks_39 : decode cX12_shiftBottlenecks 39 = .ok (.iload 4, 2) := by decide +kernel
theorem dX12_shiftBottlenecks_41 : decode cX12_shiftBottlenecks 41 = .ok (.iconst 4, 1) := by decide +kernel
theorem dX12_shiftBottlenecks_42 : decode cX12_shiftBottlenecks 42 = .ok (.if_icmp .ge 65, 3) := by decide +kernel
theorem dX12_shiftBottlenecks_45 : decode cX12_shiftBottlenecks 45 = .ok (.aload_n 0, 1) := by decide +kernel
theorem dX12_shiftBottlenecks_46 : decode cX12_shiftBottlenecks 46 = .ok (.getfield 32, 3) := by decide +kernel
theorem dX12_shiftBottlenecks_49 : decode cX12_shiftBottlenecks 49 = .ok (.iload 4, 2) := by decide +kernel
theorem dX12_shiftBottlenecks_51 : decode cX12_shiftBottlenecks 51 = .ok (.baload, 1) := by decide +kernel
theorem dX12_shiftBottlenecks_52 : decode cX12_shiftBottlenecks 52 = .ok (.ifCond .eq 49, 3) := by decide +kernel
theorem dX12_shiftBottlenecks_55 : decode cX12_shiftBottlenecks 55 = .ok (.aload_n 0, 1) := by decide +kernel
theorem dX12_shiftBottlenecks_56 : decode cX12_shiftBottlenecks 56 = .ok (.getfield 32, 3) := by decide +kernel
theorem dX12_shiftBottlenecks_59 : decode cX12_shiftBottlenecks 59 = .ok (.iload 4, 2) := by decide +kernel
theorem dX12_shiftBottlenecks_61 : decode cX12_shiftBottlenecks 61 = .ok (.iconst 0, 1) := by decide +kernel
theorem dX12_shiftBottlenecks_62 : decode cX12_shiftBottlenecks 62 = .ok (.bastore, 1) := by decide +kernel
theorem dX12_shiftBottlenecks_63 : decode cX12_shiftBottlenecks 63 = .ok (.aload_n 0, 1) := by decide +kernel
theorem dX12_shiftBottlenecks_64 : decode cX12_shiftBottlenecks 64 = .ok (.iload 4, 2) := by decide +kernel
theorem dX12_shiftBottlenecks_66 : decode cX12_shiftBottlenecks 66 = .ok (.invokevirtual 252, 3) := by decide +kernel
theorem dX12_shiftBottlenecks_69 : decode cX12_shiftBottlenecks 69 = .ok (.aload_n 0, 1) := by decide +kernel
theorem dX12_shiftBottlenecks_70 : decode cX12_shiftBottlenecks 70 = .ok (.getfield 32, 3) := by decide +kernel
theorem dX12_shiftBottlenecks_73 : decode cX12_shiftBottlenecks 73 = .ok (.iload 4, 2) := by decide +kernel
theorem dX12_shiftBottlenecks_75 : decode cX12_shiftBottlenecks 75 = .ok (.iconst 1, 1) := by decide +kernel
theorem dX12_shiftBottlenecks_76 : decode cX12_shiftBottlenecks 76 = .ok (.bastore, 1) := by decide +kernel
theorem dX12_shiftBottlenecks_77 : decode cX12_shiftBottlenecks 77 = .ok (.aload_n 0, 1) := by decide +kernel
theorem dX12_shiftBottlenecks_78 : decode cX12_shiftBottlenecks 78 = .ok (.getfield 246, 3) := by decide +kernel
theorem dX12_shiftBottlenecks_81 : decode cX12_shiftBottlenecks 81 = .ok (.iload_n 3, 1) := by decide +kernel
theorem dX12_shiftBottlenecks_82 : decode cX12_shiftBottlenecks 82 = .ok (.if_icmp .le 8, 3) := by decide +kernel
theorem dX12_shiftBottlenecks_85 : decode cX12_shiftBottlenecks 85 = .ok (.iload 4, 2) := by decide +kernel
theorem dX12_shiftBottlenecks_87 : decode cX12_shiftBottlenecks 87 = .ok (.goto 4, 3) := by decide +kernel
theorem dX12_shiftBottlenecks_90 : decode cX12_shiftBottlenecks 90 = .ok (.iload_n 2, 1) := by decide +kernel
theorem dX12_shiftBottlenecks_91 : decode cX12_shiftBottlenecks 91 = .ok (.istore_n 2, 1) := by decide +kernel
theorem dX12_shiftBottlenecks_92 : decode cX12_shiftBottlenecks 92 = .ok (.iload_n 3, 1) := by decide +kernel
theorem dX12_shiftBottlenecks_93 : decode cX12_shiftBottlenecks 93 = .ok (.aload_n 0, 1) := by decide +kernel
theorem dX12_shiftBottlenecks_94 : decode cX12_shiftBottlenecks 94 = .ok (.getfield 246, 3) := by decide +kernel
theorem dX12_shiftBottlenecks_97 : decode cX12_shiftBottlenecks 97 = .ok (.invokestatic 167, 3) := by decide +kernel
theorem dX12_shiftBottlenecks_100 : decode cX12_shiftBottlenecks 100 = .ok (.istore_n 3, 1) := by decide +kernel
theorem dX12_shiftBottlenecks_101 : decode cX12_shiftBottlenecks 101 = .ok (.iinc 4 1, 3) := by decide +kernel
theorem dX12_shiftBottlenecks_104 : decode cX12_shiftBottlenecks 104 = .ok (.goto (-65), 3) := by decide +kernel
theorem dX12_shiftBottlenecks_107 : decode cX12_shiftBottlenecks 107 = .ok (.aload_n 0, 1) := by decide +kernel
theorem dX12_shiftBottlenecks_108 : decode cX12_shiftBottlenecks 108 = .ok (.getfield 32, 3) := by decide +kernel
theorem dX12_shiftBottlenecks_111 : decode cX12_shiftBottlenecks 111 = .ok (.iload_n 2, 1) := by decide +kernel
theorem dX12_shiftBottlenecks_112 : decode cX12_shiftBottlenecks 112 = .ok (.iconst 0, 1) := by decide +kernel
theorem dX12_shiftBottlenecks_113 : decode cX12_shiftBottlenecks 113 = .ok (.bastore, 1) := by decide +kernel
theorem dX12_shiftBottlenecks_114 : decode cX12_shiftBottlenecks 114 = .ok (.aload_n 0, 1) := by decide +kernel
theorem dX12_shiftBottlenecks_115 : decode cX12_shiftBottlenecks 115 = .ok (.iload_n 2, 1) := by decide +kernel
theorem dX12_shiftBottlenecks_116 : decode cX12_shiftBottlenecks 116 = .ok (.invokevirtual 252, 3) := by decide +kernel
theorem dX12_shiftBottlenecks_119 : decode cX12_shiftBottlenecks 119 = .ok (.aload_n 0, 1) := by decide +kernel
theorem dX12_shiftBottlenecks_120 : decode cX12_shiftBottlenecks 120 = .ok (.iload_n 2, 1) := by decide +kernel
theorem dX12_shiftBottlenecks_121 : decode cX12_shiftBottlenecks 121 = .ok (.invokevirtual 255, 3) := by decide +kernel
theorem dX12_shiftBottlenecks_124 : decode cX12_shiftBottlenecks 124 = .ok (.istore 4, 2) := by decide +kernel
theorem dX12_shiftBottlenecks_126 : decode cX12_shiftBottlenecks 126 = .ok (.iconst 0, 1) := by decide +kernel
theorem dX12_shiftBottlenecks_127 : decode cX12_shiftBottlenecks 127 = .ok (.istore 5, 2) := by decide +kernel
theorem dX12_shiftBottlenecks_129 : decode cX12_shiftBottlenecks 129 = .ok (.iload 5, 2) := by decide +kernel
theorem dX12_shiftBottlenecks_131 : decode cX12_shiftBottlenecks 131 = .ok (.iload_n 1, 1) := by decide +kernel
theorem dX12_shiftBottlenecks_132 : decode cX12_shiftBottlenecks 132 = .ok (.if_icmp .ge 36, 3) := by decide +kernel
theorem dX12_shiftBottlenecks_135 : decode cX12_shiftBottlenecks 135 = .ok (.aload_n 0, 1) := by decide +kernel
theorem dX12_shiftBottlenecks_136 : decode cX12_shiftBottlenecks 136 = .ok (.aload_n 0, 1) := by decide +kernel
theorem dX12_shiftBottlenecks_137 : decode cX12_shiftBottlenecks 137 = .ok (.getfield 23, 3) := by decide +kernel
theorem dX12_shiftBottlenecks_140 : decode cX12_shiftBottlenecks 140 = .ok (.iload 5, 2) := by decide +kernel
theorem dX12_shiftBottlenecks_142 : decode cX12_shiftBottlenecks 142 = .ok (.iaload, 1) := by decide +kernel
theorem dX12_shiftBottlenecks_143 : decode cX12_shiftBottlenecks 143 = .ok (.invokevirtual 252, 3) := by decide +kernel
theorem dX12_shiftBottlenecks_146 : decode cX12_shiftBottlenecks 146 = .ok (.iload 4, 2) := by decide +kernel
theorem dX12_shiftBottlenecks_148 : decode cX12_shiftBottlenecks 148 = .ok (.aload_n 0, 1) := by decide +kernel
theorem dX12_shiftBottlenecks_149 : decode cX12_shiftBottlenecks 149 = .ok (.aload_n 0, 1) := by decide +kernel
theorem dX12_shiftBottlenecks_150 : decode cX12_shiftBottlenecks 150 = .ok (.getfield 23, 3) := by decide +kernel
theorem dX12_shiftBottlenecks_153 : decode cX12_shiftBottlenecks 153 = .ok (.iload 5, 2) := by decide +kernel
theorem dX12_shiftBottlenecks_155 : decode cX12_shiftBottlenecks 155 = .ok (.iaload, 1) := by decide +kernel
theorem dX12_shiftBottlenecks_156 : decode cX12_shiftBottlenecks 156 = .ok (.invokevirtual 255, 3) := by decide +kernel
theorem dX12_shiftBottlenecks_159 : decode cX12_shiftBottlenecks 159 = .ok (.iadd, 1) := by decide +kernel
theorem dX12_shiftBottlenecks_160 : decode cX12_shiftBottlenecks 160 = .ok (.istore 4, 2) := by decide +kernel
theorem dX12_shiftBottlenecks_162 : decode cX12_shiftBottlenecks 162 = .ok (.iinc 5 1, 3) := by decide +kernel
theorem dX12_shiftBottlenecks_165 : decode cX12_shiftBottlenecks 165 = .ok (.goto (-36), 3) := by decide +kernel
theorem dX12_shiftBottlenecks_168 : decode cX12_shiftBottlenecks 168 = .ok (.aload_n 0, 1) := by decide +kernel
theorem dX12_shiftBottlenecks_169 : decode cX12_shiftBottlenecks 169 = .ok (.getfield 23, 3) := by decide +kernel
theorem dX12_shiftBottlenecks_172 : decode cX12_shiftBottlenecks 172 = .ok (.iload_n 1, 1) := by decide +kernel
theorem dX12_shiftBottlenecks_173 : decode cX12_shiftBottlenecks 173 = .ok (.iload_n 2, 1) := by decide +kernel
theorem dX12_shiftBottlenecks_174 : decode cX12_shiftBottlenecks 174 = .ok (.iastore, 1) := by decide +kernel
theorem dX12_shiftBottlenecks_175 : decode cX12_shiftBottlenecks 175 = .ok (.iinc 1 1, 3) := by decide +kernel
theorem dX12_shiftBottlenecks_178 : decode cX12_shiftBottlenecks 178 = .ok (.goto (-151), 3) := by decide +kernel
theorem dX12_shiftBottlenecks_181 : decode cX12_shiftBottlenecks 181 = .ok (.aload_n 0, 1) := by decide +kernel
theorem dX12_shiftBottlenecks_182 : decode cX12_shiftBottlenecks 182 = .ok (.iconst 1, 1) := by decide +kernel
theorem dX12_shiftBottlenecks_183 : decode cX12_shiftBottlenecks 183 = .ok (.putfield 258, 3) := by decide +kernel
theorem dX12_shiftBottlenecks_186 : decode cX12_shiftBottlenecks 186 = .ok (.aload_n 0, 1) := by decide +kernel
theorem dX12_shiftBottlenecks_187 : decode cX12_shiftBottlenecks 187 = .ok (.invokevirtual 188, 3) := by decide +kernel
theorem dX12_shiftBottlenecks_190 : decode cX12_shiftBottlenecks 190 = .ok (.ireturn, 1) := by decide +kernel
theorem dX12_bottleneck_0 : decode cX12_bottleneck 0 = .ok (.aload_n 0, 1) := by decide +kernel
theorem dX12_bottleneck_1 : decode cX12_bottleneck 1 = .ok (.aload_n 0, 1) := by decide +kernel
theorem dX12_bottleneck_2 : decode cX12_bottleneck 2 = .ok (.getfield 258, 3) := by decide +kernel
theorem dX12_bottleneck_5 : decode cX12_bottleneck 5 = .ok (.ifCond .eq 19, 3) := by decide +kernel
theorem dX12_bottleneck_8 : decode cX12_bottleneck 8 = .ok (.iload_n 1, 1) := by decide +kernel
theorem dX12_bottleneck_9 : decode cX12_bottleneck 9 = .ok (.i2l, 1) := by decide +kernel
theorem dX12_bottleneck_10 : decode cX12_bottleneck 10 = .ok (.lconst 0, 1) := by decide +kernel
theorem dX12_bottleneck_11 : decode cX12_bottleneck 11 = .ok (.ldc2_w 86, 3) := by decide +kernel
theorem dX12_bottleneck_14 : decode cX12_bottleneck 14 = .ok (.invokestatic 82, 3) := by decide +kernel
theorem dX12_bottleneck_17 : decode cX12_bottleneck 17 = .ok (.ifCond .eq 7, 3) := by decide +kernel
theorem dX12_bottleneck_20 : decode cX12_bottleneck 20 = .ok (.iconst 0, 1) := by decide +kernel
theorem dX12_bottleneck_21 : decode cX12_bottleneck 21 = .ok (.goto 4, 3) := by decide +kernel
theorem dX12_bottleneck_24 : decode cX12_bottleneck 24 = .ok (.iconst 1, 1) := by decide +kernel
theorem dX12_bottleneck_25 : decode cX12_bottleneck 25 = .ok (.putfield 79, 3) := by decide +kernel
theorem dX12_bottleneck_28 : decode cX12_bottleneck 28 = .ok (.aload_n 0, 1) := by decide +kernel
theorem dX12_bottleneck_29 : decode cX12_bottleneck 29 = .ok (.getfield 79, 3) := by decide +kernel
theorem dX12_bottleneck_32 : decode cX12_bottleneck 32 = .ok (.ifCond .le 7, 3) := by decide +kernel
theorem dX12_bottleneck_35 : decode cX12_bottleneck 35 = .ok (.iconst 0, 1) := by decide +kernel
theorem dX12_bottleneck_36 : decode cX12_bottleneck 36 = .ok (.goto 9, 3) := by decide +kernel
theorem dX12_bottleneck_39 : decode cX12_bottleneck 39 = .ok (.aload_n 0, 1) := by decide +kernel
theorem dX12_bottleneck_40 : decode cX12_bottleneck 40 = .ok (.getfield 23, 3) := by decide +kernel
theorem dX12_bottleneck_43 : decode cX12_bottleneck 43 = .ok (.iload_n 1, 1) := by decide +kernel
theorem dX12_bottleneck_44 : decode cX12_bottleneck 44 = .ok (.iaload, 1) := by decide +kernel
theorem dX12_bottleneck_45 : decode cX12_bottleneck 45 = .ok (.ireturn, 1) := by decide +kernel
theorem dX12_findSwaps_0 : decode cX12_findSwaps 0 = .ok (.aload_n 0, 1) := by decide +kernel
theorem dX12_findSwaps_1 : decode cX12_findSwaps 1 = .ok (.invokevirtual 202, 3) := by decide +kernel
theorem dX12_findSwaps_4 : decode cX12_findSwaps 4 = .ok (.iconst 0, 1) := by decide +kernel
theorem dX12_findSwaps_5 : decode cX12_findSwaps 5 = .ok (.istore_n 1, 1) := by decide +kernel
theorem dX12_findSwaps_6 : decode cX12_findSwaps 6 = .ok (.iload_n 1, 1) := by decide +kernel
theorem dX12_findSwaps_7 : decode cX12_findSwaps 7 = .ok (.bipush 20, 2) := by decide +kernel
theorem dX12_findSwaps_9 : decode cX12_findSwaps 9 = .ok (.if_icmp .ge 16, 3) := by decide +kernel
theorem dX12_findSwaps_12 : decode cX12_findSwaps 12 = .ok (.aload_n 0, 1) := by decide +kernel
theorem dX12_findSwaps_13 : decode cX12_findSwaps 13 = .ok (.getfield 64, 3) := by decide +kernel
theorem dX12_findSwaps_16 : decode cX12_findSwaps 16 = .ok (.iload_n 1, 1) := by decide +kernel
theorem dX12_findSwaps_17 : decode cX12_findSwaps 17 = .ok (.iconst 0, 1) := by decide +kernel
theorem dX12_findSwaps_18 : decode cX12_findSwaps 18 = .ok (.bastore, 1) := by decide +kernel
theorem dX12_findSwaps_19 : decode cX12_findSwaps 19 = .ok (.iinc 1 1, 3) := by decide +kernel
theorem dX12_findSwaps_22 : decode cX12_findSwaps 22 = .ok (.goto (-16), 3) := by decide +kernel
theorem dX12_findSwaps_25 : decode cX12_findSwaps 25 = .ok (.iconst 1, 1) := by decide +kernel
theorem dX12_findSwaps_26 : decode cX12_findSwaps 26 = .ok (.istore_n 1, 1) := by decide +kernel
theorem dX12_findSwaps_27 : decode cX12_findSwaps 27 = .ok (.iload_n 1, 1) := by decide +kernel
theorem dX12_findSwaps_28 : decode cX12_findSwaps 28 = .ok (.aload_n 0, 1) := by decide +kernel
theorem dX12_findSwaps_29 : decode cX12_findSwaps 29 = .ok (.getfield 199, 3) := by decide +kernel
theorem dX12_findSwaps_32 : decode cX12_findSwaps 32 = .ok (.if_icmp .ge 88, 3) := by decide +kernel
theorem dX12_findSwaps_35 : decode cX12_findSwaps 35 = .ok (.aload_n 0, 1) := by decide +kernel
theorem dX12_findSwaps_36 : decode cX12_findSwaps 36 = .ok (.getfield 9, 3) := by decide +kernel
theorem dX12_findSwaps_39 : decode cX12_findSwaps 39 = .ok (.bipush 62, 2) := by decide +kernel
theorem dX12_findSwaps_41 : decode cX12_findSwaps 41 = .ok (.aload_n 0, 1) := by decide +kernel
theorem dX12_findSwaps_42 : decode cX12_findSwaps 42 = .ok (.iload_n 1, 1) := by decide +kernel
theorem dX12_findSwaps_43 : decode cX12_findSwaps 43 = .ok (.invokevirtual 205, 3) := by decide +kernel
theorem dX12_findSwaps_46 : decode cX12_findSwaps 46 = .ok (.iadd, 1) := by decide +kernel
theorem dX12_findSwaps_47 : decode cX12_findSwaps 47 = .ok (.iaload, 1) := by decide +kernel
theorem dX12_findSwaps_48 : decode cX12_findSwaps 48 = .ok (.istore_n 2, 1) := by decide +kernel
theorem dX12_findSwaps_49 : decode cX12_findSwaps 49 = .ok (.aload_n 0, 1) := by decide +kernel
theorem dX12_findSwaps_50 : decode cX12_findSwaps 50 = .ok (.getfield 9, 3) := by decide +kernel
theorem dX12_findSwaps_53 : decode cX12_findSwaps 53 = .ok (.bipush 62, 2) := by decide +kernel
theorem dX12_findSwaps_55 : decode cX12_findSwaps 55 = .ok (.aload_n 0, 1) := by decide +kernel
theorem dX12_findSwaps_56 : decode cX12_findSwaps 56 = .ok (.iload_n 1, 1) := by decide +kernel
theorem dX12_findSwaps_57 : decode cX12_findSwaps 57 = .ok (.iconst 1, 1) := by decide +kernel
theorem dX12_findSwaps_58 : decode cX12_findSwaps 58 = .ok (.isub, 1) := by decide +kernel
theorem dX12_findSwaps_59 : decode cX12_findSwaps 59 = .ok (.invokevirtual 205, 3) := by decide +kernel
theorem dX12_findSwaps_62 : decode cX12_findSwaps 62 = .ok (.iadd, 1) := by decide +kernel
theorem dX12_findSwaps_63 : decode cX12_findSwaps 63 = .ok (.iaload, 1) := by decide +kernel
theorem dX12_findSwaps_64 : decode cX12_findSwaps 64 = .ok (.iload_n 2, 1) := by decide +kernel
theorem dX12_findSwaps_65 : decode cX12_findSwaps 65 = .ok (.if_icmp .ne 49, 3) := by decide +kernel
theorem dX12_findSwaps_68 : decode cX12_findSwaps 68 = .ok (.aload_n 0, 1) := by decide +kernel
theorem dX12_findSwaps_69 : decode cX12_findSwaps 69 = .ok (.aload_n 0, 1) := by decide +kernel
theorem dX12_findSwaps_70 : decode cX12_findSwaps 70 = .ok (.iload_n 1, 1) := by decide +kernel
theorem dX12_findSwaps_71 : decode cX12_findSwaps 71 = .ok (.invokevirtual 205, 3) := by decide +kernel
theorem dX12_findSwaps_74 : decode cX12_findSwaps 74 = .ok (.invokevirtual 147, 3) := by decide +kernel
theorem dX12_findSwaps_77 : decode cX12_findSwaps 77 = .ok (.aload_n 0, 1) := by decide +kernel
theorem dX12_findSwaps_78 : decode cX12_findSwaps 78 = .ok (.aload_n 0, 1) := by decide +kernel
theorem dX12_findSwaps_79 : decode cX12_findSwaps 79 = .ok (.iload_n 1, 1) := by decide +kernel
theorem dX12_findSwaps_80 : decode cX12_findSwaps 80 = .ok (.iconst 1, 1) := by decide +kernel
theorem dX12_findSwaps_81 : decode cX12_findSwaps 81 = .ok (.isub, 1) := by decide +kernel
theorem dX12_findSwaps_82 : decode cX12_findSwaps 82 = .ok (.invokevirtual 205, 3) := by decide +kernel
theorem dX12_findSwaps_85 : decode cX12_findSwaps 85 = .ok (.invokevirtual 147, 3) := by decide +kernel
theorem dX12_findSwaps_88 : decode cX12_findSwaps 88 = .ok (.iconst 1, 1) := by decide +kernel
theorem dX12_findSwaps_89 : decode cX12_findSwaps 89 = .ok (.iadd, 1) := by decide +kernel
theorem dX12_findSwaps_90 : decode cX12_findSwaps 90 = .ok (.if_icmp .ne 24, 3) := by decide +kernel
theorem dX12_findSwaps_93 : decode cX12_findSwaps 93 = .ok (.aload_n 0, 1) := by decide +kernel
theorem dX12_findSwaps_94 : decode cX12_findSwaps 94 = .ok (.getfield 64, 3) := by decide +kernel
theorem dX12_findSwaps_97 : decode cX12_findSwaps 97 = .ok (.iconst 5, 1) := by decide +kernel
theorem dX12_findSwaps_98 : decode cX12_findSwaps 98 = .ok (.iload_n 2, 1) := by decide +kernel
theorem dX12_findSwaps_99 : decode cX12_findSwaps 99 = .ok (.imul, 1) := by decide +kernel
theorem dX12_findSwaps_100 : decode cX12_findSwaps 100 = .ok (.aload_n 0, 1) := by decide +kernel
theorem dX12_findSwaps_101 : decode cX12_findSwaps 101 = .ok (.aload_n 0, 1) := by decide +kernel
theorem dX12_findSwaps_102 : decode cX12_findSwaps 102 = .ok (.iload_n 1, 1) := by decide +kernel
theorem dX12_findSwaps_103 : decode cX12_findSwaps 103 = .ok (.iconst 1, 1) := by decide +kernel
theorem dX12_findSwaps_104 : decode cX12_findSwaps 104 = .ok (.isub, 1) := by decide +kernel
theorem dX12_findSwaps_105 : decode cX12_findSwaps 105 = .ok (.invokevirtual 205, 3) := by decide +kernel
theorem dX12_findSwaps_108 : decode cX12_findSwaps 108 = .ok (.invokevirtual 147, 3) := by decide +kernel
theorem dX12_findSwaps_111 : decode cX12_findSwaps 111 = .ok (.iadd, 1) := by decide +kernel
theorem dX12_findSwaps_112 : decode cX12_findSwaps 112 = .ok (.iconst 1, 1) := by decide +kernel
theorem dX12_findSwaps_113 : decode cX12_findSwaps 113 = .ok (.bastore, 1) := by decide +kernel
theorem dX12_findSwaps_114 : decode cX12_findSwaps 114 = .ok (.iinc 1 1, 3) := by decide +kernel
theorem dX12_findSwaps_117 : decode cX12_findSwaps 117 = .ok (.goto (-90), 3) := by decide +kernel
theorem dX12_findSwaps_120 : decode cX12_findSwaps 120 = .ok (.return_, 1) := by decide +kernel
theorem dX12_tabu_0 : decode cX12_tabu 0 = .ok (.aload_n 0, 1) := by decide +kernel
theorem dX12_tabu_1 : decode cX12_tabu 1 = .ok (.iload_n 1, 1) := by decide +kernel
theorem dX12_tabu_2 : decode cX12_tabu 2 = .ok (.i2l, 1) := by decide +kernel
theorem dX12_tabu_3 : decode cX12_tabu 3 = .ok (.lconst 0, 1) := by decide +kernel
theorem dX12_tabu_4 : decode cX12_tabu 4 = .ok (.ldc2_w 262, 3) := by decide +kernel
theorem dX12_tabu_7 : decode cX12_tabu 7 = .ok (.invokestatic 82, 3) := by decide +kernel
theorem dX12_tabu_10 : decode cX12_tabu 10 = .ok (.ifCond .eq 19, 3) := by decide +kernel
theorem dX12_tabu_13 : decode cX12_tabu 13 = .ok (.iload_n 2, 1) := by decide +kernel
theorem dX12_tabu_14 : decode cX12_tabu 14 = .ok (.i2l, 1) := by decide +kernel
theorem dX12_tabu_15 : decode cX12_tabu 15 = .ok (.lconst 0, 1) := by decide +kernel
theorem dX12_tabu_16 : decode cX12_tabu 16 = .ok (.ldc2_w 92, 3) := by decide +kernel
theorem dX12_tabu_19 : decode cX12_tabu 19 = .ok (.invokestatic 82, 3) := by decide +kernel
theorem dX12_tabu_22 : decode cX12_tabu 22 = .ok (.ifCond .eq 7, 3) := by decide +kernel
theorem dX12_tabu_25 : decode cX12_tabu 25 = .ok (.iconst 0, 1) := by decide +kernel
theorem dX12_tabu_26 : decode cX12_tabu 26 = .ok (.goto 4, 3) := by decide +kernel
theorem dX12_tabu_29 : decode cX12_tabu 29 = .ok (.iconst 1, 1) := by decide +kernel
theorem dX12_tabu_30 : decode cX12_tabu 30 = .ok (.putfield 79, 3) := by decide +kernel
theorem dX12_tabu_33 : decode cX12_tabu 33 = .ok (.aload_n 0, 1) := by decide +kernel
theorem dX12_tabu_34 : decode cX12_tabu 34 = .ok (.getfield 79, 3) := by decide +kernel
theorem dX12_tabu_37 : decode cX12_tabu 37 = .ok (.ifCond .le 5, 3) := by decide +kernel
theorem dX12_tabu_40 : decode cX12_tabu 40 = .ok (.iconst 0, 1) := by decide +kernel
theorem dX12_tabu_41 : decode cX12_tabu 41 = .ok (.ireturn, 1) := by decide +kernel
theorem dX12_tabu_42 : decode cX12_tabu 42 = .ok (.iconst 0, 1) := by decide +kernel
theorem dX12_tabu_43 : decode cX12_tabu 43 = .ok (.istore_n 3, 1) := by decide +kernel
theorem dX12_tabu_44 : decode cX12_tabu 44 = .ok (.iload_n 3, 1) := by decide +kernel
theorem dX12_tabu_45 : decode cX12_tabu 45 = .ok (.sipush 400, 3) := by decide +kernel
theorem dX12_tabu_48 : decode cX12_tabu 48 = .ok (.if_icmp .ge 16, 3) := by decide +kernel
theorem dX12_tabu_51 : decode cX12_tabu 51 = .ok (.aload_n 0, 1) := by decide +kernel
theorem dX12_tabu_52 : decode cX12_tabu 52 = .ok (.getfield 58, 3) := by decide +kernel
theorem dX12_tabu_55 : decode cX12_tabu 55 = .ok (.iload_n 3, 1) := by decide +kernel
theorem dX12_tabu_56 : decode cX12_tabu 56 = .ok (.iconst 0, 1) := by decide +kernel
theorem dX12_tabu_57 : decode cX12_tabu 57 = .ok (.iastore, 1) := by decide +kernel
theorem dX12_tabu_58 : decode cX12_tabu 58 = .ok (.iinc 3 1, 3) := by decide +kernel
theorem dX12_tabu_61 : decode cX12_tabu 61 = .ok (.goto (-17), 3) := by decide +kernel
theorem dX12_tabu_64 : decode cX12_tabu 64 = .ok (.aload_n 0, 1) := by decide +kernel
theorem dX12_tabu_65 : decode cX12_tabu 65 = .ok (.getfield 9, 3) := by decide +kernel
theorem dX12_tabu_68 : decode cX12_tabu 68 = .ok (.sipush 183, 3) := by decide +kernel
theorem dX12_tabu_71 : decode cX12_tabu 71 = .ok (.aload_n 0, 1) := by decide +kernel
theorem dX12_tabu_72 : decode cX12_tabu 72 = .ok (.getfield 61, 3) := by decide +kernel
theorem dX12_tabu_75 : decode cX12_tabu 75 = .ok (.iconst 0, 1) := by decide +kernel
theorem dX12_tabu_76 : decode cX12_tabu 76 = .ok (.bipush 20, 2) := by decide +kernel
theorem dX12_tabu_78 : decode cX12_tabu 78 = .ok (.invokestatic 264, 3) := by decide +kernel
theorem dX12_tabu_81 : decode cX12_tabu 81 = .ok (.aload_n 0, 1) := by decide +kernel
theorem dX12_tabu_82 : decode cX12_tabu 82 = .ok (.invokevirtual 188, 3) := by decide +kernel
theorem dX12_tabu_85 : decode cX12_tabu 85 = .ok (.istore_n 3, 1) := by decide +kernel
theorem dX12_tabu_86 : decode cX12_tabu 86 = .ok (.aload_n 0, 1) := by decide +kernel
theorem dX12_tabu_87 : decode cX12_tabu 87 = .ok (.iconst 0, 1) := by decide +kernel
theorem dX12_tabu_88 : decode cX12_tabu 88 = .ok (.putfield 270, 3) := by decide +kernel
theorem dX12_tabu_91 : decode cX12_tabu 91 = .ok (.iconst 1, 1) := by decide +kernel
theorem dX12_tabu_92 : decode cX12_tabu 92 = .ok (.istore 4, 2) := by decide +kernel
theorem dX12_tabu_94 : decode cX12_tabu 94 = .ok (.iload 4, 2) := by decide +kernel
theorem dX12_tabu_96 : decode cX12_tabu 96 = .ok (.ifCond .eq 278, 3) := by decide +kernel
theorem dX12_tabu_99 : decode cX12_tabu 99 = .ok (.aload_n 0, 1) := by decide +kernel
theorem dX12_tabu_100 : decode cX12_tabu 100 = .ok (.getfield 270, 3) := by decide +kernel
theorem dX12_tabu_103 : decode cX12_tabu 103 = .ok (.iload_n 1, 1) := by decide +kernel
theorem dX12_tabu_104 : decode cX12_tabu 104 = .ok (.if_icmp .ge 270, 3) := by decide +kernel
theorem dX12_tabu_107 : decode cX12_tabu 107 = .ok (.aload_n 0, 1) := by decide +kernel
theorem dX12_tabu_108 : decode cX12_tabu 108 = .ok (.getfield 270, 3) := by decide +kernel
theorem dX12_tabu_111 : decode cX12_tabu 111 = .ok (.iconst 1, 1) := by decide +kernel
theorem dX12_tabu_112 : decode cX12_tabu 112 = .ok (.iadd, 1) := by decide +kernel
theorem dX12_tabu_113 : decode cX12_tabu 113 = .ok (.istore 5, 2) := by decide +kernel
theorem dX12_tabu_115 : decode cX12_tabu 115 = .ok (.aload_n 0, 1) := by decide +kernel
theorem dX12_tabu_116 : decode cX12_tabu 116 = .ok (.invokevirtual 273, 3) := by decide +kernel
theorem dX12_tabu_119 : decode cX12_tabu 119 = .ok (.iconst (-1), 1) := by decide +kernel
theorem dX12_tabu_120 : decode cX12_tabu 120 = .ok (.istore 6, 2) := by decide +kernel
theorem dX12_tabu_122 : decode cX12_tabu 122 = .ok (.iconst 0, 1) := by decide +kernel
theorem dX12_tabu_123 : decode cX12_tabu 123 = .ok (.istore 7, 2) := by decide +kernel
theorem dX12_tabu_125 : decode cX12_tabu 125 = .ok (.iconst 0, 1) := by decide +kernel
theorem dX12_tabu_126 : decode cX12_tabu 126 = .ok (.istore 8, 2) := by decide +kernel
theorem dX12_tabu_128 : decode cX12_tabu 128 = .ok (.iload 8, 2) := by decide +kernel
theorem dX12_tabu_130 : decode cX12_tabu 130 = .ok (.bipush 20, 2) := by decide +kernel
theorem dX12_tabu_132 : decode cX12_tabu 132 = .ok (.if_icmp .ge 140, 3) := by decide +kernel
theorem dX12_tabu_135 : decode cX12_tabu 135 = .ok (.aload_n 0, 1) := by decide +kernel
theorem dX12_tabu_136 : decode cX12_tabu 136 = .ok (.getfield 64, 3) := by decide +kernel
theorem dX12_tabu_139 : decode cX12_tabu 139 = .ok (.iload 8, 2) := by decide +kernel
theorem dX12_tabu_141 : decode cX12_tabu 141 = .ok (.baload, 1) := by decide +kernel
theorem dX12_tabu_142 : decode cX12_tabu 142 = .ok (.ifCond .eq 124, 3) := by decide +kernel
theorem dX12_tabu_145 : decode cX12_tabu 145 = .ok (.iload 8, 2) := by decide +kernel
theorem dX12_tabu_147 : decode cX12_tabu 147 = .ok (.iconst 5, 1) := by decide +kernel
theorem dX12_tabu_148 : decode cX12_tabu 148 = .ok (.idiv, 1) := by decide +kernel
theorem dX12_tabu_149 : decode cX12_tabu 149 = .ok (.istore 9, 2) := by decide +kernel
theorem dX12_tabu_151 : decode cX12_tabu 151 = .ok (.iload 8, 2) := by decide +kernel
theorem dX12_tabu_153 : decode cX12_tabu 153 = .ok (.iconst 5, 1) := by decide +kernel
theorem dX12_tabu_154 : decode cX12_tabu 154 = .ok (.irem, 1) := by decide +kernel
theorem dX12_tabu_155 : decode cX12_tabu 155 = .ok (.istore 10, 2) := by decide +kernel
theorem dX12_tabu_157 : decode cX12_tabu 157 = .ok (.aload_n 0, 1) := by decide +kernel
theorem dX12_tabu_158 : decode cX12_tabu 158 = .ok (.getfield 58, 3) := by decide +kernel
theorem dX12_tabu_161 : decode cX12_tabu 161 = .ok (.bipush 20, 2) := by decide +kernel
theorem dX12_tabu_163 : decode cX12_tabu 163 = .ok (.aload_n 0, 1) := by decide +kernel
theorem dX12_tabu_164 : decode cX12_tabu 164 = .ok (.iload 9, 2) := by decide +kernel
theorem dX12_tabu_166 : decode cX12_tabu 166 = .ok (.iload 10, 2) := by decide +kernel
theorem dX12_tabu_168 : decode cX12_tabu 168 = .ok (.invokevirtual 142, 3) := by decide +kernel
theorem dX12_tabu_171 : decode cX12_tabu 171 = .ok (.imul, 1) := by decide +kernel
theorem dX12_tabu_172 : decode cX12_tabu 172 = .ok (.aload_n 0, 1) := by decide +kernel
theorem dX12_tabu_173 : decode cX12_tabu 173 = .ok (.iload 9, 2) := by decide +kernel
theorem dX12_tabu_175 : decode cX12_tabu 175 = .ok (.iload 10, 2) := by decide +kernel
theorem dX12_tabu_177 : decode cX12_tabu 177 = .ok (.iconst 1, 1) := by decide +kernel
theorem dX12_tabu_178 : decode cX12_tabu 178 = .ok (.iadd, 1) := by decide +kernel
theorem dX12_tabu_179 : decode cX12_tabu 179 = .ok (.invokevirtual 142, 3) := by decide +kernel
theorem dX12_tabu_182 : decode cX12_tabu 182 = .ok (.iadd, 1) := by decide +kernel
theorem dX12_tabu_183 : decode cX12_tabu 183 = .ok (.iaload, 1) := by decide +kernel
theorem dX12_tabu_184 : decode cX12_tabu 184 = .ok (.istore 11, 2) := by decide +kernel
theorem dX12_tabu_186 : decode cX12_tabu 186 = .ok (.aload_n 0, 1) := by decide +kernel
theorem dX12_tabu_187 : decode cX12_tabu 187 = .ok (.iload 9, 2) := by decide +kernel
theorem dX12_tabu_189 : decode cX12_tabu 189 = .ok (.iload 10, 2) := by decide +kernel
theorem dX12_tabu_191 : decode cX12_tabu 191 = .ok (.invokevirtual 221, 3) := by decide +kernel
theorem dX12_tabu_194 : decode cX12_tabu 194 = .ok (.aload_n 0, 1) := by decide +kernel
theorem dX12_tabu_195 : decode cX12_tabu 195 = .ok (.invokevirtual 188, 3) := by decide +kernel
theorem dX12_tabu_198 : decode cX12_tabu 198 = .ok (.istore 12, 2) := by decide +kernel
theorem dX12_tabu_200 : decode cX12_tabu 200 = .ok (.aload_n 0, 1) := by decide +kernel
theorem dX12_tabu_201 : decode cX12_tabu 201 = .ok (.iload 9, 2) := by decide +kernel
theorem dX12_tabu_203 : decode cX12_tabu 203 = .ok (.iload 10, 2) := by decide +kernel
theorem dX12_tabu_205 : decode cX12_tabu 205 = .ok (.invokevirtual 221, 3) := by decide +kernel
theorem dX12_tabu_208 : decode cX12_tabu 208 = .ok (.iload 11, 2) := by decide +kernel
theorem dX12_tabu_210 : decode cX12_tabu 210 = .ok (.ifCond .le 22, 3) := by decide +kernel
theorem dX12_tabu_213 : decode cX12_tabu 213 = .ok (.iload 11, 2) := by decide +kernel
theorem dX12_tabu_215 : decode cX12_tabu 215 = .ok (.iload 5, 2) := by decide +kernel
theorem dX12_tabu_217 : decode cX12_tabu 217 = .ok (.iload_n 2, 1) := by decide +kernel
theorem dX12_tabu_218 : decode cX12_tabu 218 = .ok (.isub, 1) := by decide +kernel
theorem dX12_tabu_219 : decode cX12_tabu 219 = .ok (.if_icmp .lt 13, 3) := by decide +kernel
theorem dX12_tabu_222 : decode cX12_tabu 222 = .ok (.iload 12, 2) := by decide +kernel
theorem dX12_tabu_224 : decode cX12_tabu 224 = .ok (.iload_n 3, 1) := by decide +kernel
theorem dX12_tabu_225 : decode cX12_tabu 225 = .ok (.if_icmp .lt 7, 3) := by decide +kernel
theorem dX12_tabu_228 : decode cX12_tabu 228 = .ok (.iconst 1, 1) := by decide +kernel
theorem dX12_tabu_229 : decode cX12_tabu 229 = .ok (.goto 4, 3) := by decide +kernel
theorem dX12_tabu_232 : decode cX12_tabu 232 = .ok (.iconst 0, 1) := by decide +kernel
theorem dX12_tabu_233 : decode cX12_tabu 233 = .ok (.istore 13, 2) := by decide +kernel
theorem dX12_tabu_235 : decode cX12_tabu 235 = .ok (.iload 12, 2) := by decide +kernel
theorem dX12_tabu_237 : decode cX12_tabu 237 = .ok (.ifCond .lt 29, 3) := by decide +kernel
theorem dX12_tabu_240 : decode cX12_tabu 240 = .ok (.iload 13, 2) := by decide +kernel
theorem dX12_tabu_242 : decode cX12_tabu 242 = .ok (.ifCond .ne 24, 3) := by decide +kernel
theorem dX12_tabu_245 : decode cX12_tabu 245 = .ok (.iload 6, 2) := by decide +kernel
theorem dX12_tabu_247 : decode cX12_tabu 247 = .ok (.iconst (-1), 1) := by decide +kernel
theorem dX12_tabu_248 : decode cX12_tabu 248 = .ok (.if_icmp .eq 10, 3) := by decide +kernel
theorem dX12_tabu_251 : decode cX12_tabu 251 = .ok (.iload 12, 2) := by decide +kernel
theorem dX12_tabu_253 : decode cX12_tabu 253 = .ok (.iload 7, 2) := by decide +kernel
theorem dX12_tabu_255 : decode cX12_tabu 255 = .ok (.if_icmp .ge 11, 3) := by decide +kernel
theorem dX12_tabu_258 : decode cX12_tabu 258 = .ok (.iload 8, 2) := by decide +kernel
theorem dX12_tabu_260 : decode cX12_tabu 260 = .ok (.istore 6, 2) := by decide +kernel
theorem dX12_tabu_262 : decode cX12_tabu 262 = .ok (.iload 12, 2) := by decide +kernel
theorem dX12_tabu_264 : decode cX12_tabu 264 = .ok (.istore 7, 2) := by decide +kernel
theorem dX12_tabu_266 : decode cX12_tabu 266 = .ok (.iinc 8 1, 3) := by decide +kernel
theorem dX12_tabu_269 : decode cX12_tabu 269 = .ok (.goto (-141), 3) := by decide +kernel
theorem dX12_tabu_272 : decode cX12_tabu 272 = .ok (.iload 6, 2) := by decide +kernel
theorem dX12_tabu_274 : decode cX12_tabu 274 = .ok (.iconst (-1), 1) := by decide +kernel
theorem dX12_tabu_275 : decode cX12_tabu 275 = .ok (.if_icmp .eq 7, 3) := by decide +kernel
theorem dX12_tabu_278 : decode cX12_tabu 278 = .ok (.iconst 1, 1) := by decide +kernel
theorem dX12_tabu_279 : decode cX12_tabu 279 = .ok (.goto 4, 3) := by decide +kernel
theorem dX12_tabu_282 : decode cX12_tabu 282 = .ok (.iconst 0, 1) := by decide +kernel
theorem dX12_tabu_283 : decode cX12_tabu 283 = .ok (.istore 4, 2) := by decide +kernel
theorem dX12_tabu_285 : decode cX12_tabu 285 = .ok (.iload 4, 2) := by decide +kernel
theorem dX12_tabu_287 : decode cX12_tabu 287 = .ok (.ifCond .eq 84, 3) := by decide +kernel
theorem dX12_tabu_290 : decode cX12_tabu 290 = .ok (.iload 6, 2) := by decide +kernel
theorem dX12_tabu_292 : decode cX12_tabu 292 = .ok (.iconst 5, 1) := by decide +kernel
theorem dX12_tabu_293 : decode cX12_tabu 293 = .ok (.idiv, 1) := by decide +kernel
theorem dX12_tabu_294 : decode cX12_tabu 294 = .ok (.istore 8, 2) := by decide +kernel
theorem dX12_tabu_296 : decode cX12_tabu 296 = .ok (.iload 6, 2) := by decide +kernel
theorem dX12_tabu_298 : decode cX12_tabu 298 = .ok (.iconst 5, 1) := by decide +kernel
theorem dX12_tabu_299 : decode cX12_tabu 299 = .ok (.irem, 1) := by decide +kernel
theorem dX12_tabu_300 : decode cX12_tabu 300 = .ok (.istore 9, 2) := by decide +kernel
theorem dX12_tabu_302 : decode cX12_tabu 302 = .ok (.aload_n 0, 1) := by decide +kernel
theorem dX12_tabu_303 : decode cX12_tabu 303 = .ok (.iload 8, 2) := by decide +kernel
theorem dX12_tabu_305 : decode cX12_tabu 305 = .ok (.iload 9, 2) := by decide +kernel
theorem dX12_tabu_307 : decode cX12_tabu 307 = .ok (.invokevirtual 221, 3) := by decide +kernel
theorem dX12_tabu_310 : decode cX12_tabu 310 = .ok (.aload_n 0, 1) := by decide +kernel
theorem dX12_tabu_311 : decode cX12_tabu 311 = .ok (.getfield 58, 3) := by decide +kernel
theorem dX12_tabu_314 : decode cX12_tabu 314 = .ok (.bipush 20, 2) := by decide +kernel
theorem dX12_tabu_316 : decode cX12_tabu 316 = .ok (.aload_n 0, 1) := by decide +kernel
theorem dX12_tabu_317 : decode cX12_tabu 317 = .ok (.iload 8, 2) := by decide +kernel
theorem dX12_tabu_319 : decode cX12_tabu 319 = .ok (.iload 9, 2) := by decide +kernel
theorem dX12_tabu_321 : decode cX12_tabu 321 = .ok (.invokevirtual 142, 3) := by decide +kernel
theorem dX12_tabu_324 : decode cX12_tabu 324 = .ok (.imul, 1) := by decide +kernel
theorem dX12_tabu_325 : decode cX12_tabu 325 = .ok (.aload_n 0, 1) := by decide +kernel
theorem dX12_tabu_326 : decode cX12_tabu 326 = .ok (.iload 8, 2) := by decide +kernel
theorem dX12_tabu_328 : decode cX12_tabu 328 = .ok (.iload 9, 2) := by decide +kernel
theorem dX12_tabu_330 : decode cX12_tabu 330 = .ok (.iconst 1, 1) := by decide +kernel
theorem dX12_tabu_331 : decode cX12_tabu 331 = .ok (.iadd, 1) := by decide +kernel
theorem dX12_tabu_332 : decode cX12_tabu 332 = .ok (.invokevirtual 142, 3) := by decide +kernel
theorem dX12_tabu_335 : decode cX12_tabu 335 = .ok (.iadd, 1) := by decide +kernel
theorem dX12_tabu_336 : decode cX12_tabu 336 = .ok (.iload 5, 2) := by decide +kernel
theorem dX12_tabu_338 : decode cX12_tabu 338 = .ok (.iastore, 1) := by decide +kernel
theorem dX12_tabu_339 : decode cX12_tabu 339 = .ok (.aload_n 0, 1) := by decide +kernel
theorem dX12_tabu_340 : decode cX12_tabu 340 = .ok (.iload 5, 2) := by decide +kernel
theorem dX12_tabu_342 : decode cX12_tabu 342 = .ok (.putfield 270, 3) := by decide +kernel
theorem dX12_tabu_345 : decode cX12_tabu 345 = .ok (.iload 7, 2) := by decide +kernel
theorem dX12_tabu_347 : decode cX12_tabu 347 = .ok (.iload_n 3, 1) := by decide +kernel
theorem dX12_tabu_348 : decode cX12_tabu 348 = .ok (.if_icmp .ge 23, 3) := by decide +kernel
theorem dX12_tabu_351 : decode cX12_tabu 351 = .ok (.iload 7, 2) := by decide +kernel
theorem dX12_tabu_353 : decode cX12_tabu 353 = .ok (.istore_n 3, 1) := by decide +kernel
theorem dX12_tabu_354 : decode cX12_tabu 354 = .ok (.aload_n 0, 1) := by decide +kernel
theorem dX12_tabu_355 : decode cX12_tabu 355 = .ok (.getfield 9, 3) := by decide +kernel
theorem dX12_tabu_358 : decode cX12_tabu 358 = .ok (.sipush 183, 3) := by decide +kernel
theorem dX12_tabu_361 : decode cX12_tabu 361 = .ok (.aload_n 0, 1) := by decide +kernel
theorem dX12_tabu_362 : decode cX12_tabu 362 = .ok (.getfield 61, 3) := by decide +kernel
theorem dX12_tabu_365 : decode cX12_tabu 365 = .ok (.iconst 0, 1) := by decide +kernel
theorem dX12_tabu_366 : decode cX12_tabu 366 = .ok (.bipush 20, 2) := by decide +kernel
theorem dX12_tabu_368 : decode cX12_tabu 368 = .ok (.invokestatic 264, 3) := by decide +kernel
theorem dX12_tabu_371 : decode cX12_tabu 371 = .ok (.goto (-277), 3) := by decide +kernel
theorem dX12_tabu_374 : decode cX12_tabu 374 = .ok (.aload_n 0, 1) := by decide +kernel
theorem dX12_tabu_375 : decode cX12_tabu 375 = .ok (.getfield 61, 3) := by decide +kernel
theorem dX12_tabu_378 : decode cX12_tabu 378 = .ok (.iconst 0, 1) := by decide +kernel
theorem dX12_tabu_379 : decode cX12_tabu 379 = .ok (.aload_n 0, 1) := by decide +kernel
theorem dX12_tabu_380 : decode cX12_tabu 380 = .ok (.getfield 9, 3) := by decide +kernel
theorem dX12_tabu_383 : decode cX12_tabu 383 = .ok (.sipush 183, 3) := by decide +kernel
theorem dX12_tabu_386 : decode cX12_tabu 386 = .ok (.bipush 20, 2) := by decide +kernel
theorem dX12_tabu_388 : decode cX12_tabu 388 = .ok (.invokestatic 264, 3) := by decide +kernel
theorem dX12_tabu_391 : decode cX12_tabu 391 = .ok (.aload_n 0, 1) := by decide +kernel
theorem dX12_tabu_392 : decode cX12_tabu 392 = .ok (.invokevirtual 188, 3) := by decide +kernel
theorem dX12_tabu_395 : decode cX12_tabu 395 = .ok (.ireturn, 1) := by decide +kernel
theorem dX12_tabuSteps_0 : decode cX12_tabuSteps 0 = .ok (.aload_n 0, 1) := by decide +kernel
theorem dX12_tabuSteps_1 : decode cX12_tabuSteps 1 = .ok (.iconst 0, 1) := by decide +kernel
theorem dX12_tabuSteps_2 : decode cX12_tabuSteps 2 = .ok (.putfield 79, 3) := by decide +kernel
theorem dX12_tabuSteps_5 : decode cX12_tabuSteps 5 = .ok (.aload_n 0, 1) := by decide +kernel
theorem dX12_tabuSteps_6 : decode cX12_tabuSteps 6 = .ok (.getfield 270, 3) := by decide +kernel
theorem dX12_tabuSteps_9 : decode cX12_tabuSteps 9 = .ok (.ireturn, 1) := by decide +kernel
theorem dX12_boundOf_0 : decode cX12_boundOf 0 = .ok (.iconst 0, 1) := by decide +kernel
theorem dX12_boundOf_1 : decode cX12_boundOf 1 = .ok (.istore_n 2, 1) := by decide +kernel
theorem dX12_boundOf_2 : decode cX12_boundOf 2 = .ok (.iconst 0, 1) := by decide +kernel
theorem dX12_boundOf_3 : decode cX12_boundOf 3 = .ok (.istore_n 3, 1) := by decide +kernel
theorem dX12_boundOf_4 : decode cX12_boundOf 4 = .ok (.iload_n 3, 1) := by decide +kernel
theorem dX12_boundOf_5 : decode cX12_boundOf 5 = .ok (.aload_n 0, 1) := by decide +kernel
theorem dX12_boundOf_6 : decode cX12_boundOf 6 = .ok (.getfield 9, 3) := by decide +kernel
theorem dX12_boundOf_9 : decode cX12_boundOf 9 = .ok (.sipush 179, 3) := by decide +kernel
theorem dX12_boundOf_12 : decode cX12_boundOf 12 = .ok (.iload_n 1, 1) := by decide +kernel
theorem dX12_boundOf_13 : decode cX12_boundOf 13 = .ok (.iadd, 1) := by decide +kernel
theorem dX12_boundOf_14 : decode cX12_boundOf 14 = .ok (.iaload, 1) := by decide +kernel
theorem dX12_boundOf_15 : decode cX12_boundOf 15 = .ok (.if_icmp .ge 139, 3) := by decide +kernel
theorem dX12_boundOf_18 : decode cX12_boundOf 18 = .ok (.aload_n 0, 1) := by decide +kernel
theorem dX12_boundOf_19 : decode cX12_boundOf 19 = .ok (.iload_n 1, 1) := by decide +kernel
theorem dX12_boundOf_20 : decode cX12_boundOf 20 = .ok (.iload_n 3, 1) := by decide +kernel
theorem dX12_boundOf_21 : decode cX12_boundOf 21 = .ok (.invokevirtual 142, 3) := by decide +kernel
theorem dX12_boundOf_24 : decode cX12_boundOf 24 = .ok (.istore 4, 2) := by decide +kernel
theorem dX12_boundOf_26 : decode cX12_boundOf 26 = .ok (.aload_n 0, 1) := by decide +kernel
theorem dX12_boundOf_27 : decode cX12_boundOf 27 = .ok (.getfield 9, 3) := by decide +kernel
theorem dX12_boundOf_30 : decode cX12_boundOf 30 = .ok (.bipush 42, 2) := by decide +kernel
theorem dX12_boundOf_32 : decode cX12_boundOf 32 = .ok (.iload 4, 2) := by decide +kernel
theorem dX12_boundOf_34 : decode cX12_boundOf 34 = .ok (.iadd, 1) := by decide +kernel
theorem dX12_boundOf_35 : decode cX12_boundOf 35 = .ok (.iaload, 1) := by decide +kernel
theorem dX12_boundOf_36 : decode cX12_boundOf 36 = .ok (.istore 5, 2) := by decide +kernel
theorem dX12_boundOf_38 : decode cX12_boundOf 38 = .ok (.aload_n 0, 1) := by decide +kernel
theorem dX12_boundOf_39 : decode cX12_boundOf 39 = .ok (.getfield 67, 3) := by decide +kernel
theorem dX12_boundOf_42 : decode cX12_boundOf 42 = .ok (.iload 4, 2) := by decide +kernel
theorem dX12_boundOf_44 : decode cX12_boundOf 44 = .ok (.aload_n 0, 1) := by decide +kernel
theorem dX12_boundOf_45 : decode cX12_boundOf 45 = .ok (.getfield 9, 3) := by decide +kernel
theorem dX12_boundOf_48 : decode cX12_boundOf 48 = .ok (.iconst 2, 1) := by decide +kernel
theorem dX12_boundOf_49 : decode cX12_boundOf 49 = .ok (.iload 5, 2) := by decide +kernel
theorem dX12_boundOf_51 : decode cX12_boundOf 51 = .ok (.iadd, 1) := by decide +kernel
theorem dX12_boundOf_52 : decode cX12_boundOf 52 = .ok (.iaload, 1) := by decide +kernel
theorem dX12_boundOf_53 : decode cX12_boundOf 53 = .ok (.iastore, 1) := by decide +kernel
theorem dX12_boundOf_54 : decode cX12_boundOf 54 = .ok (.aload_n 0, 1) := by decide +kernel
theorem dX12_boundOf_55 : decode cX12_boundOf 55 = .ok (.getfield 70, 3) := by decide +kernel
theorem dX12_boundOf_58 : decode cX12_boundOf 58 = .ok (.iload 4, 2) := by decide +kernel
theorem dX12_boundOf_60 : decode cX12_boundOf 60 = .ok (.aload_n 0, 1) := by decide +kernel
theorem dX12_boundOf_61 : decode cX12_boundOf 61 = .ok (.iload 4, 2) := by decide +kernel
theorem dX12_boundOf_63 : decode cX12_boundOf 63 = .ok (.invokevirtual 232, 3) := by decide +kernel
theorem dX12_boundOf_66 : decode cX12_boundOf 66 = .ok (.aload_n 0, 1) := by decide +kernel
theorem dX12_boundOf_67 : decode cX12_boundOf 67 = .ok (.getfield 9, 3) := by decide +kernel
theorem dX12_boundOf_70 : decode cX12_boundOf 70 = .ok (.bipush 82, 2) := by decide +kernel
theorem dX12_boundOf_72 : decode cX12_boundOf 72 = .ok (.iload 4, 2) := by decide +kernel
theorem dX12_boundOf_74 : decode cX12_boundOf 74 = .ok (.iadd, 1) := by decide +kernel
theorem dX12_boundOf_75 : decode cX12_boundOf 75 = .ok (.iaload, 1) := by decide +kernel
theorem dX12_boundOf_76 : decode cX12_boundOf 76 = .ok (.isub, 1) := by decide +kernel
theorem dX12_boundOf_77 : decode cX12_boundOf 77 = .ok (.iastore, 1) := by decide +kernel
theorem dX12_boundOf_78 : decode cX12_boundOf 78 = .ok (.iconst 0, 1) := by decide +kernel
theorem dX12_boundOf_79 : decode cX12_boundOf 79 = .ok (.istore 6, 2) := by decide +kernel
theorem dX12_boundOf_81 : decode cX12_boundOf 81 = .ok (.iload 6, 2) := by decide +kernel
theorem dX12_boundOf_83 : decode cX12_boundOf 83 = .ok (.aload_n 0, 1) := by decide +kernel
theorem dX12_boundOf_84 : decode cX12_boundOf 84 = .ok (.getfield 9, 3) := by decide +kernel
theorem dX12_boundOf_87 : decode cX12_boundOf 87 = .ok (.bipush 122, 2) := by decide +kernel
theorem dX12_boundOf_89 : decode cX12_boundOf 89 = .ok (.iload 4, 2) := by decide +kernel
theorem dX12_boundOf_91 : decode cX12_boundOf 91 = .ok (.iadd, 1) := by decide +kernel
theorem dX12_boundOf_92 : decode cX12_boundOf 92 = .ok (.iaload, 1) := by decide +kernel
theorem dX12_boundOf_93 : decode cX12_boundOf 93 = .ok (.if_icmp .ge 35, 3) := by decide +kernel
theorem dX12_boundOf_96 : decode cX12_boundOf 96 = .ok (.aload_n 0, 1) := by decide +kernel
theorem dX12_boundOf_97 : decode cX12_boundOf 97 = .ok (.getfield 67, 3) := by decide +kernel
theorem dX12_boundOf_100 : decode cX12_boundOf 100 = .ok (.iload 4, 2) := by decide +kernel
theorem dX12_boundOf_102 : decode cX12_boundOf 102 = .ok (.dup2, 1) := by decide +kernel
theorem dX12_boundOf_103 : decode cX12_boundOf 103 = .ok (.iaload, 1) := by decide +kernel
theorem dX12_boundOf_104 : decode cX12_boundOf 104 = .ok (.aload_n 0, 1) := by decide +kernel
theorem dX12_boundOf_105 : decode cX12_boundOf 105 = .ok (.getfield 9, 3) := by decide +kernel
theorem dX12_boundOf_108 : decode cX12_boundOf 108 = .ok (.bipush 82, 2) := by decide +kernel
theorem dX12_boundOf_110 : decode cX12_boundOf 110 = .ok (.aload_n 0, 1) := by decide +kernel
theorem dX12_boundOf_111 : decode cX12_boundOf 111 = .ok (.iload 5, 2) := by decide +kernel
theorem dX12_boundOf_113 : decode cX12_boundOf 113 = .ok (.iload 6, 2) := by decide +kernel
theorem dX12_boundOf_115 : decode cX12_boundOf 115 = .ok (.invokevirtual 110, 3) := by decide +kernel
theorem dX12_boundOf_118 : decode cX12_boundOf 118 = .ok (.iadd, 1) := by decide +kernel
theorem dX12_boundOf_119 : decode cX12_boundOf 119 = .ok (.iaload, 1) := by decide +kernel
theorem dX12_boundOf_120 : decode cX12_boundOf 120 = .ok (.iadd, 1) := by decide +kernel
theorem dX12_boundOf_121 : decode cX12_boundOf 121 = .ok (.iastore, 1) := by decide +kernel
theorem dX12_boundOf_122 : decode cX12_boundOf 122 = .ok (.iinc 6 1, 3) := by decide +kernel
theorem dX12_boundOf_125 : decode cX12_boundOf 125 = .ok (.goto (-44), 3) := by decide +kernel
theorem dX12_boundOf_128 : decode cX12_boundOf 128 = .ok (.aload_n 0, 1) := by decide +kernel
theorem dX12_boundOf_129 : decode cX12_boundOf 129 = .ok (.getfield 73, 3) := by decide +kernel
theorem dX12_boundOf_132 : decode cX12_boundOf 132 = .ok (.iload 4, 2) := by decide +kernel
theorem dX12_boundOf_134 : decode cX12_boundOf 134 = .ok (.aload_n 0, 1) := by decide +kernel
theorem dX12_boundOf_135 : decode cX12_boundOf 135 = .ok (.getfield 9, 3) := by decide +kernel
theorem dX12_boundOf_138 : decode cX12_boundOf 138 = .ok (.bipush 82, 2) := by decide +kernel
theorem dX12_boundOf_140 : decode cX12_boundOf 140 = .ok (.iload 4, 2) := by decide +kernel
theorem dX12_boundOf_142 : decode cX12_boundOf 142 = .ok (.iadd, 1) := by decide +kernel
theorem dX12_boundOf_143 : decode cX12_boundOf 143 = .ok (.iaload, 1) := by decide +kernel
theorem dX12_boundOf_144 : decode cX12_boundOf 144 = .ok (.iastore, 1) := by decide +kernel
theorem dX12_boundOf_145 : decode cX12_boundOf 145 = .ok (.iinc 2 1, 3) := by decide +kernel
theorem dX12_boundOf_148 : decode cX12_boundOf 148 = .ok (.iinc 3 1, 3) := by decide +kernel
theorem dX12_boundOf_151 : decode cX12_boundOf 151 = .ok (.goto (-147), 3) := by decide +kernel
theorem dX12_boundOf_154 : decode cX12_boundOf 154 = .ok (.iconst 0, 1) := by decide +kernel
theorem dX12_boundOf_155 : decode cX12_boundOf 155 = .ok (.istore_n 3, 1) := by decide +kernel
theorem dX12_boundOf_156 : decode cX12_boundOf 156 = .ok (.iconst 0, 1) := by decide +kernel
theorem dX12_boundOf_157 : decode cX12_boundOf 157 = .ok (.istore 4, 2) := by decide +kernel
theorem dX12_boundOf_159 : decode cX12_boundOf 159 = .ok (.iload_n 2, 1) := by decide +kernel
theorem dX12_boundOf_160 : decode cX12_boundOf 160 = .ok (.ifCond .le 159, 3) := by decide +kernel
theorem dX12_boundOf_163 : decode cX12_boundOf 163 = .ok (.iconst (-1), 1) := by decide +kernel
theorem dX12_boundOf_164 : decode cX12_boundOf 164 = .ok (.istore 5, 2) := by decide +kernel
theorem dX12_boundOf_166 : decode cX12_boundOf 166 = .ok (.iconst 0, 1) := by decide +kernel
theorem dX12_boundOf_167 : decode cX12_boundOf 167 = .ok (.istore 6, 2) := by decide +kernel
theorem dX12_boundOf_169 : decode cX12_boundOf 169 = .ok (.iload 6, 2) := by decide +kernel
theorem dX12_boundOf_171 : decode cX12_boundOf 171 = .ok (.aload_n 0, 1) := by decide +kernel
theorem dX12_boundOf_172 : decode cX12_boundOf 172 = .ok (.getfield 9, 3) := by decide +kernel
theorem dX12_boundOf_175 : decode cX12_boundOf 175 = .ok (.iconst 1, 1) := by decide +kernel
theorem dX12_boundOf_176 : decode cX12_boundOf 176 = .ok (.iaload, 1) := by decide +kernel
theorem dX12_boundOf_177 : decode cX12_boundOf 177 = .ok (.if_icmp .ge 89, 3) := by decide +kernel
theorem dX12_boundOf_180 : decode cX12_boundOf 180 = .ok (.aload_n 0, 1) := by decide +kernel
theorem dX12_boundOf_181 : decode cX12_boundOf 181 = .ok (.getfield 9, 3) := by decide +kernel
theorem dX12_boundOf_184 : decode cX12_boundOf 184 = .ok (.bipush 62, 2) := by decide +kernel
theorem dX12_boundOf_186 : decode cX12_boundOf 186 = .ok (.iload 6, 2) := by decide +kernel
theorem dX12_boundOf_188 : decode cX12_boundOf 188 = .ok (.iadd, 1) := by decide +kernel
theorem dX12_boundOf_189 : decode cX12_boundOf 189 = .ok (.iaload, 1) := by decide +kernel
theorem dX12_boundOf_190 : decode cX12_boundOf 190 = .ok (.iload_n 1, 1) := by decide +kernel
theorem dX12_boundOf_191 : decode cX12_boundOf 191 = .ok (.if_icmp .ne 29, 3) := by decide +kernel
theorem dX12_boundOf_194 : decode cX12_boundOf 194 = .ok (.aload_n 0, 1) := by decide +kernel
theorem dX12_boundOf_195 : decode cX12_boundOf 195 = .ok (.getfield 73, 3) := by decide +kernel
theorem dX12_boundOf_198 : decode cX12_boundOf 198 = .ok (.iload 6, 2) := by decide +kernel
theorem dX12_boundOf_200 : decode cX12_boundOf 200 = .ok (.iaload, 1) := by decide +kernel
theorem dX12_boundOf_201 : decode cX12_boundOf 201 = .ok (.ifCond .le 19, 3) := by decide +kernel
theorem dX12_boundOf_204 : decode cX12_boundOf 204 = .ok (.aload_n 0, 1) := by decide +kernel
theorem dX12_boundOf_205 : decode cX12_boundOf 205 = .ok (.getfield 67, 3) := by decide +kernel
theorem dX12_boundOf_208 : decode cX12_boundOf 208 = .ok (.iload 6, 2) := by decide +kernel
theorem dX12_boundOf_210 : decode cX12_boundOf 210 = .ok (.iaload, 1) := by decide +kernel
theorem dX12_boundOf_211 : decode cX12_boundOf 211 = .ok (.iload 4, 2) := by decide +kernel
theorem dX12_boundOf_213 : decode cX12_boundOf 213 = .ok (.if_icmp .gt 7, 3) := by decide +kernel
theorem dX12_boundOf_216 : decode cX12_boundOf 216 = .ok (.iconst 1, 1) := by decide +kernel
theorem dX12_boundOf_217 : decode cX12_boundOf 217 = .ok (.goto 4, 3) := by decide +kernel
theorem dX12_boundOf_220 : decode cX12_boundOf 220 = .ok (.iconst 0, 1) := by decide +kernel
theorem dX12_boundOf_221 : decode cX12_boundOf 221 = .ok (.istore 7, 2) := by decide +kernel
theorem dX12_boundOf_223 : decode cX12_boundOf 223 = .ok (.iload 7, 2) := by decide +kernel
theorem dX12_boundOf_225 : decode cX12_boundOf 225 = .ok (.ifCond .eq 31, 3) := by decide +kernel
theorem dX12_boundOf_228 : decode cX12_boundOf 228 = .ok (.iload 5, 2) := by decide +kernel
theorem dX12_boundOf_230 : decode cX12_boundOf 230 = .ok (.iconst (-1), 1) := by decide +kernel
theorem dX12_boundOf_231 : decode cX12_boundOf 231 = .ok (.if_icmp .eq 20, 3) := by decide +kernel
theorem dX12_boundOf_234 : decode cX12_boundOf 234 = .ok (.aload_n 0, 1) := by decide +kernel
theorem dX12_boundOf_235 : decode cX12_boundOf 235 = .ok (.getfield 70, 3) := by decide +kernel
theorem dX12_boundOf_238 : decode cX12_boundOf 238 = .ok (.iload 6, 2) := by decide +kernel
theorem dX12_boundOf_240 : decode cX12_boundOf 240 = .ok (.iaload, 1) := by decide +kernel
theorem dX12_boundOf_241 : decode cX12_boundOf 241 = .ok (.aload_n 0, 1) := by decide +kernel
theorem dX12_boundOf_242 : decode cX12_boundOf 242 = .ok (.getfield 70, 3) := by decide +kernel
theorem dX12_boundOf_245 : decode cX12_boundOf 245 = .ok (.iload 5, 2) := by decide +kernel
theorem dX12_boundOf_247 : decode cX12_boundOf 247 = .ok (.iaload, 1) := by decide +kernel
theorem dX12_boundOf_248 : decode cX12_boundOf 248 = .ok (.if_icmp .le 8, 3) := by decide +kernel
theorem dX12_boundOf_251 : decode cX12_boundOf 251 = .ok (.iload 6, 2) := by decide +kernel
theorem dX12_boundOf_253 : decode cX12_boundOf 253 = .ok (.goto 5, 3) := by decide +kernel
theorem dX12_boundOf_256 : decode cX12_boundOf 256 = .ok (.iload 5, 2) := by decide +kernel
theorem dX12_boundOf_258 : decode cX12_boundOf 258 = .ok (.istore 5, 2) := by decide +kernel
theorem dX12_boundOf_260 : decode cX12_boundOf 260 = .ok (.iinc 6 1, 3) := by decide +kernel
theorem dX12_boundOf_263 : decode cX12_boundOf 263 = .ok (.goto (-94), 3) := by decide +kernel
theorem dX12_boundOf_266 : decode cX12_boundOf 266 = .ok (.iload 5, 2) := by decide +kernel
theorem dX12_boundOf_268 : decode cX12_boundOf 268 = .ok (.iconst (-1), 1) := by decide +kernel
theorem dX12_boundOf_269 : decode cX12_boundOf 269 = .ok (.if_icmp .eq 44, 3) := by decide +kernel
theorem dX12_boundOf_272 : decode cX12_boundOf 272 = .ok (.aload_n 0, 1) := by decide +kernel
theorem dX12_boundOf_273 : decode cX12_boundOf 273 = .ok (.getfield 73, 3) := by decide +kernel
theorem dX12_boundOf_276 : decode cX12_boundOf 276 = .ok (.iload 5, 2) := by decide +kernel
theorem dX12_boundOf_278 : decode cX12_boundOf 278 = .ok (.dup2, 1) := by decide +kernel
theorem dX12_boundOf_279 : decode cX12_boundOf 279 = .ok (.iaload, 1) := by decide +kernel
theorem dX12_boundOf_280 : decode cX12_boundOf 280 = .ok (.iconst 1, 1) := by decide +kernel
theorem dX12_boundOf_281 : decode cX12_boundOf 281 = .ok (.isub, 1) := by decide +kernel
theorem dX12_boundOf_282 : decode cX12_boundOf 282 = .ok (.iastore, 1) := by decide +kernel
theorem dX12_boundOf_283 : decode cX12_boundOf 283 = .ok (.aload_n 0, 1) := by decide +kernel
theorem dX12_boundOf_284 : decode cX12_boundOf 284 = .ok (.getfield 73, 3) := by decide +kernel
theorem dX12_boundOf_287 : decode cX12_boundOf 287 = .ok (.iload 5, 2) := by decide +kernel
theorem dX12_boundOf_289 : decode cX12_boundOf 289 = .ok (.iaload, 1) := by decide +kernel
theorem dX12_boundOf_290 : decode cX12_boundOf 290 = .ok (.ifCond .ne 23, 3) := by decide +kernel
theorem dX12_boundOf_293 : decode cX12_boundOf 293 = .ok (.iinc 2 (-1), 3) := by decide +kernel
theorem dX12_boundOf_296 : decode cX12_boundOf 296 = .ok (.iload_n 3, 1) := by decide +kernel
theorem dX12_boundOf_297 : decode cX12_boundOf 297 = .ok (.iload 4, 2) := by decide +kernel
theorem dX12_boundOf_299 : decode cX12_boundOf 299 = .ok (.iconst 1, 1) := by decide +kernel
theorem dX12_boundOf_300 : decode cX12_boundOf 300 = .ok (.iadd, 1) := by decide +kernel
theorem dX12_boundOf_301 : decode cX12_boundOf 301 = .ok (.aload_n 0, 1) := by decide +kernel
theorem dX12_boundOf_302 : decode cX12_boundOf 302 = .ok (.getfield 70, 3) := by decide +kernel
theorem dX12_boundOf_305 : decode cX12_boundOf 305 = .ok (.iload 5, 2) := by decide +kernel
theorem dX12_boundOf_307 : decode cX12_boundOf 307 = .ok (.iaload, 1) := by decide +kernel
theorem dX12_boundOf_308 : decode cX12_boundOf 308 = .ok (.iadd, 1) := by decide +kernel
theorem dX12_boundOf_309 : decode cX12_boundOf 309 = .ok (.invokestatic 167, 3) := by decide +kernel
theorem dX12_boundOf_312 : decode cX12_boundOf 312 = .ok (.istore_n 3, 1) := by decide +kernel
theorem dX12_boundOf_313 : decode cX12_boundOf 313 = .ok (.iinc 4 1, 3) := by decide +kernel
theorem dX12_boundOf_316 : decode cX12_boundOf 316 = .ok (.goto (-157), 3) := by decide +kernel
theorem dX12_boundOf_319 : decode cX12_boundOf 319 = .ok (.iload_n 3, 1) := by decide +kernel
theorem dX12_boundOf_320 : decode cX12_boundOf 320 = .ok (.ireturn, 1) := by decide +kernel
theorem dX12_bound_0 : decode cX12_bound 0 = .ok (.aload_n 0, 1) := by decide +kernel
theorem dX12_bound_1 : decode cX12_bound 1 = .ok (.iload_n 1, 1) := by decide +kernel
theorem dX12_bound_2 : decode cX12_bound 2 = .ok (.invokestatic 122, 3) := by decide +kernel
theorem dX12_bound_5 : decode cX12_bound 5 = .ok (.ifCond .eq 7, 3) := by decide +kernel
theorem dX12_bound_8 : decode cX12_bound 8 = .ok (.iconst 0, 1) := by decide +kernel
theorem dX12_bound_9 : decode cX12_bound 9 = .ok (.goto 4, 3) := by decide +kernel
theorem dX12_bound_12 : decode cX12_bound 12 = .ok (.iconst 1, 1) := by decide +kernel
theorem dX12_bound_13 : decode cX12_bound 13 = .ok (.putfield 79, 3) := by decide +kernel
theorem dX12_bound_16 : decode cX12_bound 16 = .ok (.aload_n 0, 1) := by decide +kernel
theorem dX12_bound_17 : decode cX12_bound 17 = .ok (.getfield 79, 3) := by decide +kernel
theorem dX12_bound_20 : decode cX12_bound 20 = .ok (.ifCond .le 7, 3) := by decide +kernel
theorem dX12_bound_23 : decode cX12_bound 23 = .ok (.iconst 0, 1) := by decide +kernel
theorem dX12_bound_24 : decode cX12_bound 24 = .ok (.goto 8, 3) := by decide +kernel
theorem dX12_bound_27 : decode cX12_bound 27 = .ok (.aload_n 0, 1) := by decide +kernel
theorem dX12_bound_28 : decode cX12_bound 28 = .ok (.iload_n 1, 1) := by decide +kernel
theorem dX12_bound_29 : decode cX12_bound 29 = .ok (.invokevirtual 276, 3) := by decide +kernel
theorem dX12_bound_32 : decode cX12_bound 32 = .ok (.ireturn, 1) := by decide +kernel
theorem dX12_lowerBound_0 : decode cX12_lowerBound 0 = .ok (.aload_n 0, 1) := by decide +kernel
theorem dX12_lowerBound_1 : decode cX12_lowerBound 1 = .ok (.iconst 0, 1) := by decide +kernel
theorem dX12_lowerBound_2 : decode cX12_lowerBound 2 = .ok (.putfield 79, 3) := by decide +kernel
theorem dX12_lowerBound_5 : decode cX12_lowerBound 5 = .ok (.iconst 0, 1) := by decide +kernel
theorem dX12_lowerBound_6 : decode cX12_lowerBound 6 = .ok (.istore_n 1, 1) := by decide +kernel
theorem dX12_lowerBound_7 : decode cX12_lowerBound 7 = .ok (.iconst 0, 1) := by decide +kernel
theorem dX12_lowerBound_8 : decode cX12_lowerBound 8 = .ok (.istore_n 2, 1) := by decide +kernel
theorem dX12_lowerBound_9 : decode cX12_lowerBound 9 = .ok (.iload_n 2, 1) := by decide +kernel
theorem dX12_lowerBound_10 : decode cX12_lowerBound 10 = .ok (.iconst 4, 1) := by decide +kernel
theorem dX12_lowerBound_11 : decode cX12_lowerBound 11 = .ok (.if_icmp .ge 19, 3) := by decide +kernel
theorem dX12_lowerBound_14 : decode cX12_lowerBound 14 = .ok (.iload_n 1, 1) := by decide +kernel
theorem dX12_lowerBound_15 : decode cX12_lowerBound 15 = .ok (.aload_n 0, 1) := by decide +kernel
theorem dX12_lowerBound_16 : decode cX12_lowerBound 16 = .ok (.iload_n 2, 1) := by decide +kernel
theorem dX12_lowerBound_17 : decode cX12_lowerBound 17 = .ok (.invokevirtual 276, 3) := by decide +kernel
theorem dX12_lowerBound_20 : decode cX12_lowerBound 20 = .ok (.invokestatic 167, 3) := by decide +kernel
theorem dX12_lowerBound_23 : decode cX12_lowerBound 23 = .ok (.istore_n 1, 1) := by decide +kernel
theorem dX12_lowerBound_24 : decode cX12_lowerBound 24 = .ok (.iinc 2 1, 3) := by decide +kernel
theorem dX12_lowerBound_27 : decode cX12_lowerBound 27 = .ok (.goto (-18), 3) := by decide +kernel
theorem dX12_lowerBound_30 : decode cX12_lowerBound 30 = .ok (.iconst 0, 1) := by decide +kernel
theorem dX12_lowerBound_31 : decode cX12_lowerBound 31 = .ok (.istore_n 2, 1) := by decide +kernel
theorem dX12_lowerBound_32 : decode cX12_lowerBound 32 = .ok (.iload_n 2, 1) := by decide +kernel
theorem dX12_lowerBound_33 : decode cX12_lowerBound 33 = .ok (.aload_n 0, 1) := by decide +kernel
theorem dX12_lowerBound_34 : decode cX12_lowerBound 34 = .ok (.getfield 9, 3) := by decide +kernel
theorem dX12_lowerBound_37 : decode cX12_lowerBound 37 = .ok (.iconst 0, 1) := by decide +kernel
theorem dX12_lowerBound_38 : decode cX12_lowerBound 38 = .ok (.iaload, 1) := by decide +kernel
theorem dX12_lowerBound_39 : decode cX12_lowerBound 39 = .ok (.if_icmp .ge 45, 3) := by decide +kernel
theorem dX12_lowerBound_42 : decode cX12_lowerBound 42 = .ok (.aload_n 0, 1) := by decide +kernel
theorem dX12_lowerBound_43 : decode cX12_lowerBound 43 = .ok (.getfield 9, 3) := by decide +kernel
theorem dX12_lowerBound_46 : decode cX12_lowerBound 46 = .ok (.bipush 17, 2) := by decide +kernel
theorem dX12_lowerBound_48 : decode cX12_lowerBound 48 = .ok (.iload_n 2, 1) := by decide +kernel
theorem dX12_lowerBound_49 : decode cX12_lowerBound 49 = .ok (.iadd, 1) := by decide +kernel
theorem dX12_lowerBound_50 : decode cX12_lowerBound 50 = .ok (.iaload, 1) := by decide +kernel
theorem dX12_lowerBound_51 : decode cX12_lowerBound 51 = .ok (.ifCond .le 27, 3) := by decide +kernel
theorem dX12_lowerBound_54 : decode cX12_lowerBound 54 = .ok (.iload_n 1, 1) := by decide +kernel
theorem dX12_lowerBound_55 : decode cX12_lowerBound 55 = .ok (.aload_n 0, 1) := by decide +kernel
theorem dX12_lowerBound_56 : decode cX12_lowerBound 56 = .ok (.getfield 9, 3) := by decide +kernel
theorem dX12_lowerBound_59 : decode cX12_lowerBound 59 = .ok (.iconst 2, 1) := by decide +kernel
theorem dX12_lowerBound_60 : decode cX12_lowerBound 60 = .ok (.iload_n 2, 1) := by decide +kernel
theorem dX12_lowerBound_61 : decode cX12_lowerBound 61 = .ok (.iadd, 1) := by decide +kernel
theorem dX12_lowerBound_62 : decode cX12_lowerBound 62 = .ok (.iaload, 1) := by decide +kernel
theorem dX12_lowerBound_63 : decode cX12_lowerBound 63 = .ok (.aload_n 0, 1) := by decide +kernel
theorem dX12_lowerBound_64 : decode cX12_lowerBound 64 = .ok (.aload_n 0, 1) := by decide +kernel
theorem dX12_lowerBound_65 : decode cX12_lowerBound 65 = .ok (.iload_n 2, 1) := by decide +kernel
theorem dX12_lowerBound_66 : decode cX12_lowerBound 66 = .ok (.iconst 0, 1) := by decide +kernel
theorem dX12_lowerBound_67 : decode cX12_lowerBound 67 = .ok (.invokevirtual 110, 3) := by decide +kernel
theorem dX12_lowerBound_70 : decode cX12_lowerBound 70 = .ok (.invokevirtual 232, 3) := by decide +kernel
theorem dX12_lowerBound_73 : decode cX12_lowerBound 73 = .ok (.iadd, 1) := by decide +kernel
theorem dX12_lowerBound_74 : decode cX12_lowerBound 74 = .ok (.invokestatic 167, 3) := by decide +kernel
theorem dX12_lowerBound_77 : decode cX12_lowerBound 77 = .ok (.istore_n 1, 1) := by decide +kernel
theorem dX12_lowerBound_78 : decode cX12_lowerBound 78 = .ok (.iinc 2 1, 3) := by decide +kernel
theorem dX12_lowerBound_81 : decode cX12_lowerBound 81 = .ok (.goto (-49), 3) := by decide +kernel
theorem dX12_lowerBound_84 : decode cX12_lowerBound 84 = .ok (.iload_n 1, 1) := by decide +kernel
theorem dX12_lowerBound_85 : decode cX12_lowerBound 85 = .ok (.ireturn, 1) := by decide +kernel
theorem dX12_append_0 : decode cX12_append 0 = .ok (.aload_n 0, 1) := by decide +kernel
theorem dX12_append_1 : decode cX12_append 1 = .ok (.aload_n 0, 1) := by decide +kernel
theorem dX12_append_2 : decode cX12_append 2 = .ok (.getfield 279, 3) := by decide +kernel
theorem dX12_append_5 : decode cX12_append 5 = .ok (.bipush 80, 2) := by decide +kernel
theorem dX12_append_7 : decode cX12_append 7 = .ok (.if_icmp .ne 7, 3) := by decide +kernel
theorem dX12_append_10 : decode cX12_append 10 = .ok (.iconst 1, 1) := by decide +kernel
theorem dX12_append_11 : decode cX12_append 11 = .ok (.goto 4, 3) := by decide +kernel
theorem dX12_append_14 : decode cX12_append 14 = .ok (.iconst 0, 1) := by decide +kernel
theorem dX12_append_15 : decode cX12_append 15 = .ok (.putfield 79, 3) := by decide +kernel
theorem dX12_append_18 : decode cX12_append 18 = .ok (.aload_n 0, 1) := by decide +kernel
theorem dX12_append_19 : decode cX12_append 19 = .ok (.getfield 79, 3) := by decide +kernel
theorem dX12_append_22 : decode cX12_append 22 = .ok (.ifCond .ne 23, 3) := by decide +kernel
theorem dX12_append_25 : decode cX12_append 25 = .ok (.aload_n 0, 1) := by decide +kernel
theorem dX12_append_26 : decode cX12_append 26 = .ok (.getfield 16, 3) := by decide +kernel
theorem dX12_append_29 : decode cX12_append 29 = .ok (.aload_n 0, 1) := by decide +kernel
theorem dX12_append_30 : decode cX12_append 30 = .ok (.getfield 279, 3) := by decide +kernel
theorem dX12_append_33 : decode cX12_append 33 = .ok (.iload_n 1, 1) := by decide +kernel
theorem dX12_append_34 : decode cX12_append 34 = .ok (.castore, 1) := by decide +kernel
theorem dX12_append_35 : decode cX12_append 35 = .ok (.aload_n 0, 1) := by decide +kernel
theorem dX12_append_36 : decode cX12_append 36 = .ok (.dup, 1) := by decide +kernel
theorem dX12_append_37 : decode cX12_append 37 = .ok (.getfield 279, 3) := by decide +kernel
theorem dX12_append_40 : decode cX12_append 40 = .ok (.iconst 1, 1) := by decide +kernel
theorem dX12_append_41 : decode cX12_append 41 = .ok (.iadd, 1) := by decide +kernel
theorem dX12_append_42 : decode cX12_append 42 = .ok (.putfield 279, 3) := by decide +kernel
theorem dX12_append_45 : decode cX12_append 45 = .ok (.return_, 1) := by decide +kernel
theorem dX12_isDigit_0 : decode cX12_isDigit 0 = .ok (.aload_n 0, 1) := by decide +kernel
theorem dX12_isDigit_1 : decode cX12_isDigit 1 = .ok (.getfield 282, 3) := by decide +kernel
theorem dX12_isDigit_4 : decode cX12_isDigit 4 = .ok (.aload_n 0, 1) := by decide +kernel
theorem dX12_isDigit_5 : decode cX12_isDigit 5 = .ok (.getfield 279, 3) := by decide +kernel
theorem dX12_isDigit_8 : decode cX12_isDigit 8 = .ok (.if_icmp .ge 29, 3) := by decide +kernel
theorem dX12_isDigit_11 : decode cX12_isDigit 11 = .ok (.aload_n 0, 1) := by decide +kernel
theorem dX12_isDigit_12 : decode cX12_isDigit 12 = .ok (.getfield 16, 3) := by decide +kernel
theorem dX12_isDigit_15 : decode cX12_isDigit 15 = .ok (.aload_n 0, 1) := by decide +kernel
theorem dX12_isDigit_16 : decode cX12_isDigit 16 = .ok (.getfield 282, 3) := by decide +kernel
theorem dX12_isDigit_19 : decode cX12_isDigit 19 = .ok (.caload, 1) := by decide +kernel
theorem dX12_isDigit_20 : decode cX12_isDigit 20 = .ok (.i2l, 1) := by decide +kernel
theorem dX12_isDigit_21 : decode cX12_isDigit 21 = .ok (.ldc2_w 285, 3) := by decide +kernel
theorem dX12_isDigit_24 : decode cX12_isDigit 24 = .ok (.ldc2_w 287, 3) := by decide +kernel
theorem dX12_isDigit_27 : decode cX12_isDigit 27 = .ok (.invokestatic 82, 3) := by decide +kernel
theorem dX12_isDigit_30 : decode cX12_isDigit 30 = .ok (.ifCond .eq 7, 3) := by decide +kernel
theorem dX12_isDigit_33 : decode cX12_isDigit 33 = .ok (.iconst 1, 1) := by decide +kernel
theorem dX12_isDigit_34 : decode cX12_isDigit 34 = .ok (.goto 4, 3) := by decide +kernel
theorem dX12_isDigit_37 : decode cX12_isDigit 37 = .ok (.iconst 0, 1) := by decide +kernel
theorem dX12_isDigit_38 : decode cX12_isDigit 38 = .ok (.ireturn, 1) := by decide +kernel
theorem dX12_readNumber_0 : decode cX12_readNumber 0 = .ok (.aload_n 0, 1) := by decide +kernel
theorem dX12_readNumber_1 : decode cX12_readNumber 1 = .ok (.iconst 0, 1) := by decide +kernel
theorem dX12_readNumber_2 : decode cX12_readNumber 2 = .ok (.putfield 289, 3) := by decide +kernel
theorem dX12_readNumber_5 : decode cX12_readNumber 5 = .ok (.aload_n 0, 1) := by decide +kernel
theorem dX12_readNumber_6 : decode cX12_readNumber 6 = .ok (.getfield 282, 3) := by decide +kernel
theorem dX12_readNumber_9 : decode cX12_readNumber 9 = .ok (.istore_n 2, 1) := by decide +kernel
theorem dX12_readNumber_10 : decode cX12_readNumber 10 = .ok (.aload_n 0, 1) := by decide +kernel
theorem dX12_readNumber_11 : decode cX12_readNumber 11 = .ok (.getfield 292, 3) := by decide +kernel
theorem dX12_readNumber_14 : decode cX12_readNumber 14 = .ok (.ifCond .ge 7, 3) := by decide +kernel
theorem dX12_readNumber_17 : decode cX12_readNumber 17 = .ok (.iconst 1, 1) := by decide +kernel
theorem dX12_readNumber_18 : decode cX12_readNumber 18 = .ok (.goto 4, 3) := by decide +kernel
theorem dX12_readNumber_21 : decode cX12_readNumber 21 = .ok (.iconst 0, 1) := by decide +kernel
theorem dX12_readNumber_22 : decode cX12_readNumber 22 = .ok (.istore_n 3, 1) := by decide +kernel
theorem dX12_readNumber_23 : decode cX12_readNumber 23 = .ok (.iload_n 3, 1) := by decide +kernel
theorem dX12_readNumber_24 : decode cX12_readNumber 24 = .ok (.ifCond .eq 70, 3) := by decide +kernel
theorem dX12_readNumber_27 : decode cX12_readNumber 27 = .ok (.aload_n 0, 1) := by decide +kernel
theorem dX12_readNumber_28 : decode cX12_readNumber 28 = .ok (.invokevirtual 295, 3) := by decide +kernel
theorem dX12_readNumber_31 : decode cX12_readNumber 31 = .ok (.ifCond .eq 63, 3) := by decide +kernel
theorem dX12_readNumber_34 : decode cX12_readNumber 34 = .ok (.aload_n 0, 1) := by decide +kernel
theorem dX12_readNumber_35 : decode cX12_readNumber 35 = .ok (.getfield 282, 3) := by decide +kernel
theorem dX12_readNumber_38 : decode cX12_readNumber 38 = .ok (.iload_n 2, 1) := by decide +kernel
theorem dX12_readNumber_39 : decode cX12_readNumber 39 = .ok (.iload_n 1, 1) := by decide +kernel
theorem dX12_readNumber_40 : decode cX12_readNumber 40 = .ok (.iadd, 1) := by decide +kernel
theorem dX12_readNumber_41 : decode cX12_readNumber 41 = .ok (.if_icmp .ge 53, 3) := by decide +kernel
theorem dX12_readNumber_44 : decode cX12_readNumber 44 = .ok (.aload_n 0, 1) := by decide +kernel
theorem dX12_readNumber_45 : decode cX12_readNumber 45 = .ok (.bipush 10, 2) := by decide +kernel
theorem dX12_readNumber_47 : decode cX12_readNumber 47 = .ok (.aload_n 0, 1) := by decide +kernel
theorem dX12_readNumber_48 : decode cX12_readNumber 48 = .ok (.getfield 289, 3) := by decide +kernel
theorem dX12_readNumber_51 : decode cX12_readNumber 51 = .ok (.imul, 1) := by decide +kernel
theorem dX12_readNumber_52 : decode cX12_readNumber 52 = .ok (.aload_n 0, 1) := by decide +kernel
theorem dX12_readNumber_53 : decode cX12_readNumber 53 = .ok (.getfield 16, 3) := by decide +kernel
theorem dX12_readNumber_56 : decode cX12_readNumber 56 = .ok (.aload_n 0, 1) := by decide +kernel
theorem dX12_readNumber_57 : decode cX12_readNumber 57 = .ok (.getfield 282, 3) := by decide +kernel
theorem dX12_readNumber_60 : decode cX12_readNumber 60 = .ok (.caload, 1) := by decide +kernel
theorem dX12_readNumber_61 : decode cX12_readNumber 61 = .ok (.iadd, 1) := by decide +kernel
theorem dX12_readNumber_62 : decode cX12_readNumber 62 = .ok (.bipush 48, 2) := by decide +kernel
theorem dX12_readNumber_64 : decode cX12_readNumber 64 = .ok (.isub, 1) := by decide +kernel
theorem dX12_readNumber_65 : decode cX12_readNumber 65 = .ok (.putfield 289, 3) := by decide +kernel
theorem dX12_readNumber_68 : decode cX12_readNumber 68 = .ok (.aload_n 0, 1) := by decide +kernel
theorem dX12_readNumber_69 : decode cX12_readNumber 69 = .ok (.dup, 1) := by decide +kernel
theorem dX12_readNumber_70 : decode cX12_readNumber 70 = .ok (.getfield 282, 3) := by decide +kernel
theorem dX12_readNumber_73 : decode cX12_readNumber 73 = .ok (.iconst 1, 1) := by decide +kernel
theorem dX12_readNumber_74 : decode cX12_readNumber 74 = .ok (.iadd, 1) := by decide +kernel
theorem dX12_readNumber_75 : decode cX12_readNumber 75 = .ok (.putfield 282, 3) := by decide +kernel
theorem dX12_readNumber_78 : decode cX12_readNumber 78 = .ok (.aload_n 0, 1) := by decide +kernel
theorem dX12_readNumber_79 : decode cX12_readNumber 79 = .ok (.getfield 289, 3) := by decide +kernel
theorem dX12_readNumber_82 : decode cX12_readNumber 82 = .ok (.ifCond .le 7, 3) := by decide +kernel
theorem dX12_readNumber_85 : decode cX12_readNumber 85 = .ok (.iconst 1, 1) := by decide +kernel
theorem dX12_readNumber_86 : decode cX12_readNumber 86 = .ok (.goto 4, 3) := by decide +kernel
theorem dX12_readNumber_89 : decode cX12_readNumber 89 = .ok (.iconst 0, 1) := by decide +kernel
theorem dX12_readNumber_90 : decode cX12_readNumber 90 = .ok (.istore_n 3, 1) := by decide +kernel
theorem dX12_readNumber_91 : decode cX12_readNumber 91 = .ok (.goto (-68), 3) := by decide +kernel
theorem dX12_readNumber_94 : decode cX12_readNumber 94 = .ok (.aload_n 0, 1) := by decide +kernel
theorem dX12_readNumber_95 : decode cX12_readNumber 95 = .ok (.getfield 292, 3) := by decide +kernel
theorem dX12_readNumber_98 : decode cX12_readNumber 98 = .ok (.ifCond .ge 19, 3) := by decide +kernel
theorem dX12_readNumber_101 : decode cX12_readNumber 101 = .ok (.aload_n 0, 1) := by decide +kernel
theorem dX12_readNumber_102 : decode cX12_readNumber 102 = .ok (.getfield 282, 3) := by decide +kernel
theorem dX12_readNumber_105 : decode cX12_readNumber 105 = .ok (.iload_n 2, 1) := by decide +kernel
theorem dX12_readNumber_106 : decode cX12_readNumber 106 = .ok (.if_icmp .ne 11, 3) := by decide +kernel
theorem dX12_readNumber_109 : decode cX12_readNumber 109 = .ok (.aload_n 0, 1) := by decide +kernel
theorem dX12_readNumber_110 : decode cX12_readNumber 110 = .ok (.aload_n 0, 1) := by decide +kernel
theorem dX12_readNumber_111 : decode cX12_readNumber 111 = .ok (.getfield 282, 3) := by decide +kernel
theorem dX12_readNumber_114 : decode cX12_readNumber 114 = .ok (.putfield 292, 3) := by decide +kernel
theorem dX12_readNumber_117 : decode cX12_readNumber 117 = .ok (.return_, 1) := by decide +kernel
theorem dX12_takes_0 : decode cX12_takes 0 = .ok (.aload_n 0, 1) := by decide +kernel
theorem dX12_takes_1 : decode cX12_takes 1 = .ok (.getfield 292, 3) := by decide +kernel
theorem dX12_takes_4 : decode cX12_takes 4 = .ok (.ifCond .ge 31, 3) := by decide +kernel
theorem dX12_takes_7 : decode cX12_takes 7 = .ok (.aload_n 0, 1) := by decide +kernel
theorem dX12_takes_8 : decode cX12_takes 8 = .ok (.getfield 282, 3) := by decide +kernel
theorem dX12_takes_11 : decode cX12_takes 11 = .ok (.aload_n 0, 1) := by decide +kernel
theorem dX12_takes_12 : decode cX12_takes 12 = .ok (.getfield 279, 3) := by decide +kernel
theorem dX12_takes_15 : decode cX12_takes 15 = .ok (.if_icmp .ge 20, 3) := by decide +kernel
theorem dX12_takes_18 : decode cX12_takes 18 = .ok (.aload_n 0, 1) := by decide +kernel
theorem dX12_takes_19 : decode cX12_takes 19 = .ok (.getfield 16, 3) := by decide +kernel
theorem dX12_takes_22 : decode cX12_takes 22 = .ok (.aload_n 0, 1) := by decide +kernel
theorem dX12_takes_23 : decode cX12_takes 23 = .ok (.getfield 282, 3) := by decide +kernel
theorem dX12_takes_26 : decode cX12_takes 26 = .ok (.caload, 1) := by decide +kernel
theorem dX12_takes_27 : decode cX12_takes 27 = .ok (.iload_n 1, 1) := by decide +kernel
theorem dX12_takes_28 : decode cX12_takes 28 = .ok (.if_icmp .ne 7, 3) := by decide +kernel
theorem dX12_takes_31 : decode cX12_takes 31 = .ok (.iconst 1, 1) := by decide +kernel
theorem dX12_takes_32 : decode cX12_takes 32 = .ok (.goto 4, 3) := by decide +kernel
theorem dX12_takes_35 : decode cX12_takes 35 = .ok (.iconst 0, 1) := by decide +kernel
theorem dX12_takes_36 : decode cX12_takes 36 = .ok (.istore_n 2, 1) := by decide +kernel
theorem dX12_takes_37 : decode cX12_takes 37 = .ok (.aload_n 0, 1) := by decide +kernel
theorem dX12_takes_38 : decode cX12_takes 38 = .ok (.dup, 1) := by decide +kernel
theorem dX12_takes_39 : decode cX12_takes 39 = .ok (.getfield 282, 3) := by decide +kernel
theorem dX12_takes_42 : decode cX12_takes 42 = .ok (.iload_n 2, 1) := by decide +kernel
theorem dX12_takes_43 : decode cX12_takes 43 = .ok (.ifCond .eq 7, 3) := by decide +kernel
theorem dX12_takes_46 : decode cX12_takes 46 = .ok (.iconst 1, 1) := by decide +kernel
theorem dX12_takes_47 : decode cX12_takes 47 = .ok (.goto 4, 3) := by decide +kernel
theorem dX12_takes_50 : decode cX12_takes 50 = .ok (.iconst 0, 1) := by decide +kernel
theorem dX12_takes_51 : decode cX12_takes 51 = .ok (.iadd, 1) := by decide +kernel
theorem dX12_takes_52 : decode cX12_takes 52 = .ok (.putfield 282, 3) := by decide +kernel
theorem dX12_takes_55 : decode cX12_takes 55 = .ok (.iload_n 2, 1) := by decide +kernel
theorem dX12_takes_56 : decode cX12_takes 56 = .ok (.ireturn, 1) := by decide +kernel
theorem dX12_wants_0 : decode cX12_wants 0 = .ok (.aload_n 0, 1) := by decide +kernel
theorem dX12_wants_1 : decode cX12_wants 1 = .ok (.iload_n 1, 1) := by decide +kernel
theorem dX12_wants_2 : decode cX12_wants 2 = .ok (.invokevirtual 298, 3) := by decide +kernel
theorem dX12_wants_5 : decode cX12_wants 5 = .ok (.ifCond .ne 18, 3) := by decide +kernel
theorem dX12_wants_8 : decode cX12_wants 8 = .ok (.aload_n 0, 1) := by decide +kernel
theorem dX12_wants_9 : decode cX12_wants 9 = .ok (.getfield 292, 3) := by decide +kernel
theorem dX12_wants_12 : decode cX12_wants 12 = .ok (.ifCond .ge 11, 3) := by decide +kernel
theorem dX12_wants_15 : decode cX12_wants 15 = .ok (.aload_n 0, 1) := by decide +kernel
theorem dX12_wants_16 : decode cX12_wants 16 = .ok (.aload_n 0, 1) := by decide +kernel
theorem dX12_wants_17 : decode cX12_wants 17 = .ok (.getfield 282, 3) := by decide +kernel
theorem dX12_wants_20 : decode cX12_wants 20 = .ok (.putfield 292, 3) := by decide +kernel
theorem dX12_wants_23 : decode cX12_wants 23 = .ok (.return_, 1) := by decide +kernel
theorem dX12_cannot_0 : decode cX12_cannot 0 = .ok (.aload_n 0, 1) := by decide +kernel
theorem dX12_cannot_1 : decode cX12_cannot 1 = .ok (.getfield 302, 3) := by decide +kernel
theorem dX12_cannot_4 : decode cX12_cannot 4 = .ok (.iconst (-1), 1) := by decide +kernel
theorem dX12_cannot_5 : decode cX12_cannot 5 = .ok (.if_icmp .ne 18, 3) := by decide +kernel
theorem dX12_cannot_8 : decode cX12_cannot 8 = .ok (.aload_n 0, 1) := by decide +kernel
theorem dX12_cannot_9 : decode cX12_cannot 9 = .ok (.iload_n 1, 1) := by decide +kernel
theorem dX12_cannot_10 : decode cX12_cannot 10 = .ok (.putfield 302, 3) := by decide +kernel
theorem dX12_cannot_13 : decode cX12_cannot 13 = .ok (.aload_n 0, 1) := by decide +kernel
theorem dX12_cannot_14 : decode cX12_cannot 14 = .ok (.iload_n 2, 1) := by decide +kernel
theorem dX12_cannot_15 : decode cX12_cannot 15 = .ok (.putfield 305, 3) := by decide +kernel
theorem dX12_cannot_18 : decode cX12_cannot 18 = .ok (.aload_n 0, 1) := by decide +kernel
theorem dX12_cannot_19 : decode cX12_cannot 19 = .ok (.iload_n 3, 1) := by decide +kernel
theorem dX12_cannot_20 : decode cX12_cannot 20 = .ok (.putfield 308, 3) := by decide +kernel
theorem dX12_cannot_23 : decode cX12_cannot 23 = .ok (.return_, 1) := by decide +kernel
theorem dX12_readOperation_0 : decode cX12_readOperation 0 = .ok (.aload_n 0, 1) := by decide +kernel
theorem dX12_readOperation_1 : decode cX12_readOperation 1 = .ok (.iconst 1, 1) := by decide +kernel
theorem dX12_readOperation_2 : decode cX12_readOperation 2 = .ok (.invokevirtual 311, 3) := by decide +kernel
theorem dX12_readOperation_5 : decode cX12_readOperation 5 = .ok (.aload_n 0, 1) := by decide +kernel
theorem dX12_readOperation_6 : decode cX12_readOperation 6 = .ok (.getfield 289, 3) := by decide +kernel
theorem dX12_readOperation_9 : decode cX12_readOperation 9 = .ok (.istore 4, 2) := by decide +kernel
theorem dX12_readOperation_11 : decode cX12_readOperation 11 = .ok (.aload_n 0, 1) := by decide +kernel
theorem dX12_readOperation_12 : decode cX12_readOperation 12 = .ok (.bipush 46, 2) := by decide +kernel
theorem dX12_readOperation_14 : decode cX12_readOperation 14 = .ok (.invokevirtual 314, 3) := by decide +kernel
theorem dX12_readOperation_17 : decode cX12_readOperation 17 = .ok (.aload_n 0, 1) := by decide +kernel
theorem dX12_readOperation_18 : decode cX12_readOperation 18 = .ok (.iconst 3, 1) := by decide +kernel
theorem dX12_readOperation_19 : decode cX12_readOperation 19 = .ok (.invokevirtual 311, 3) := by decide +kernel
theorem dX12_readOperation_22 : decode cX12_readOperation 22 = .ok (.aload_n 0, 1) := by decide +kernel
theorem dX12_readOperation_23 : decode cX12_readOperation 23 = .ok (.getfield 289, 3) := by decide +kernel
theorem dX12_readOperation_26 : decode cX12_readOperation 26 = .ok (.istore 5, 2) := by decide +kernel
theorem dX12_readOperation_28 : decode cX12_readOperation 28 = .ok (.aload_n 0, 1) := by decide +kernel
theorem dX12_readOperation_29 : decode cX12_readOperation 29 = .ok (.bipush 46, 2) := by decide +kernel
theorem dX12_readOperation_31 : decode cX12_readOperation 31 = .ok (.invokevirtual 314, 3) := by decide +kernel
theorem dX12_readOperation_34 : decode cX12_readOperation 34 = .ok (.aload_n 0, 1) := by decide +kernel
theorem dX12_readOperation_35 : decode cX12_readOperation 35 = .ok (.iconst 1, 1) := by decide +kernel
theorem dX12_readOperation_36 : decode cX12_readOperation 36 = .ok (.invokevirtual 311, 3) := by decide +kernel
theorem dX12_readOperation_39 : decode cX12_readOperation 39 = .ok (.aload_n 0, 1) := by decide +kernel
theorem dX12_readOperation_40 : decode cX12_readOperation 40 = .ok (.getfield 292, 3) := by decide +kernel
theorem dX12_readOperation_43 : decode cX12_readOperation 43 = .ok (.ifCond .ge 11, 3) := by decide +kernel
theorem dX12_readOperation_46 : decode cX12_readOperation 46 = .ok (.aload_n 0, 1) := by decide +kernel
theorem dX12_readOperation_47 : decode cX12_readOperation 47 = .ok (.getfield 302, 3) := by decide +kernel
theorem dX12_readOperation_50 : decode cX12_readOperation 50 = .ok (.iconst (-1), 1) := by decide +kernel
theorem dX12_readOperation_51 : decode cX12_readOperation 51 = .ok (.if_icmp .eq 4, 3) := by decide +kernel
theorem dX12_readOperation_54 : decode cX12_readOperation 54 = .ok (.return_, 1) := by decide +kernel
theorem dX12_readOperation_55 : decode cX12_readOperation 55 = .ok (.iload 4, 2) := by decide +kernel
theorem dX12_readOperation_57 : decode cX12_readOperation 57 = .ok (.invokestatic 122, 3) := by decide +kernel
theorem dX12_readOperation_60 : decode cX12_readOperation 60 = .ok (.ifCond .eq 38, 3) := by decide +kernel
theorem dX12_readOperation_63 : decode cX12_readOperation 63 = .ok (.iload 5, 2) := by decide +kernel
theorem dX12_readOperation_65 : decode cX12_readOperation 65 = .ok (.aload_n 0, 1) := by decide +kernel
theorem dX12_readOperation_66 : decode cX12_readOperation 66 = .ok (.getfield 289, 3) := by decide +kernel
theorem dX12_readOperation_69 : decode cX12_readOperation 69 = .ok (.invokestatic 125, 3) := by decide +kernel
theorem dX12_readOperation_72 : decode cX12_readOperation 72 = .ok (.ifCond .eq 26, 3) := by decide +kernel
theorem dX12_readOperation_75 : decode cX12_readOperation 75 = .ok (.aload_n 0, 1) := by decide +kernel
theorem dX12_readOperation_76 : decode cX12_readOperation 76 = .ok (.getfield 9, 3) := by decide +kernel
theorem dX12_readOperation_79 : decode cX12_readOperation 79 = .ok (.bipush 17, 2) := by decide +kernel
theorem dX12_readOperation_81 : decode cX12_readOperation 81 = .ok (.iload_n 3, 1) := by decide +kernel
theorem dX12_readOperation_82 : decode cX12_readOperation 82 = .ok (.iadd, 1) := by decide +kernel
theorem dX12_readOperation_83 : decode cX12_readOperation 83 = .ok (.iaload, 1) := by decide +kernel
theorem dX12_readOperation_84 : decode cX12_readOperation 84 = .ok (.iconst 4, 1) := by decide +kernel
theorem dX12_readOperation_85 : decode cX12_readOperation 85 = .ok (.if_icmp .eq 13, 3) := by decide +kernel
theorem dX12_readOperation_88 : decode cX12_readOperation 88 = .ok (.aload_n 0, 1) := by decide +kernel
theorem dX12_readOperation_89 : decode cX12_readOperation 89 = .ok (.iload_n 3, 1) := by decide +kernel
theorem dX12_readOperation_90 : decode cX12_readOperation 90 = .ok (.iload 4, 2) := by decide +kernel
theorem dX12_readOperation_92 : decode cX12_readOperation 92 = .ok (.invokevirtual 128, 3) := by decide +kernel
theorem dX12_readOperation_95 : decode cX12_readOperation 95 = .ok (.ifCond .eq 13, 3) := by decide +kernel
theorem dX12_readOperation_98 : decode cX12_readOperation 98 = .ok (.aload_n 0, 1) := by decide +kernel
theorem dX12_readOperation_99 : decode cX12_readOperation 99 = .ok (.iload_n 1, 1) := by decide +kernel
theorem dX12_readOperation_100 : decode cX12_readOperation 100 = .ok (.iconst 3, 1) := by decide +kernel
theorem dX12_readOperation_101 : decode cX12_readOperation 101 = .ok (.iload_n 2, 1) := by decide +kernel
theorem dX12_readOperation_102 : decode cX12_readOperation 102 = .ok (.invokevirtual 318, 3) := by decide +kernel
theorem dX12_readOperation_105 : decode cX12_readOperation 105 = .ok (.goto 18, 3) := by decide +kernel
theorem dX12_readOperation_108 : decode cX12_readOperation 108 = .ok (.aload_n 0, 1) := by decide +kernel
theorem dX12_readOperation_109 : decode cX12_readOperation 109 = .ok (.iload_n 3, 1) := by decide +kernel
theorem dX12_readOperation_110 : decode cX12_readOperation 110 = .ok (.iload 4, 2) := by decide +kernel
theorem dX12_readOperation_112 : decode cX12_readOperation 112 = .ok (.iload 5, 2) := by decide +kernel
theorem dX12_readOperation_114 : decode cX12_readOperation 114 = .ok (.aload_n 0, 1) := by decide +kernel
theorem dX12_readOperation_115 : decode cX12_readOperation 115 = .ok (.getfield 289, 3) := by decide +kernel
theorem dX12_readOperation_118 : decode cX12_readOperation 118 = .ok (.invokevirtual 131, 3) := by decide +kernel
theorem dX12_readOperation_121 : decode cX12_readOperation 121 = .ok (.istore 6, 2) := by decide +kernel
theorem dX12_readOperation_123 : decode cX12_readOperation 123 = .ok (.return_, 1) := by decide +kernel
theorem dX12_readJob_0 : decode cX12_readJob 0 = .ok (.aload_n 0, 1) := by decide +kernel
theorem dX12_readJob_1 : decode cX12_readJob 1 = .ok (.iconst 3, 1) := by decide +kernel
theorem dX12_readJob_2 : decode cX12_readJob 2 = .ok (.invokevirtual 311, 3) := by decide +kernel
theorem dX12_readJob_5 : decode cX12_readJob 5 = .ok (.aload_n 0, 1) := by decide +kernel
theorem dX12_readJob_6 : decode cX12_readJob 6 = .ok (.getfield 289, 3) := by decide +kernel
theorem dX12_readJob_9 : decode cX12_readJob 9 = .ok (.istore_n 2, 1) := by decide +kernel
theorem dX12_readJob_10 : decode cX12_readJob 10 = .ok (.aload_n 0, 1) := by decide +kernel
theorem dX12_readJob_11 : decode cX12_readJob 11 = .ok (.bipush 44, 2) := by decide +kernel
theorem dX12_readJob_13 : decode cX12_readJob 13 = .ok (.invokevirtual 314, 3) := by decide +kernel
theorem dX12_readJob_16 : decode cX12_readJob 16 = .ok (.aload_n 0, 1) := by decide +kernel
theorem dX12_readJob_17 : decode cX12_readJob 17 = .ok (.iconst 3, 1) := by decide +kernel
theorem dX12_readJob_18 : decode cX12_readJob 18 = .ok (.invokevirtual 311, 3) := by decide +kernel
theorem dX12_readJob_21 : decode cX12_readJob 21 = .ok (.aload_n 0, 1) := by decide +kernel
theorem dX12_readJob_22 : decode cX12_readJob 22 = .ok (.getfield 289, 3) := by decide +kernel
theorem dX12_readJob_25 : decode cX12_readJob 25 = .ok (.istore_n 3, 1) := by decide +kernel
theorem dX12_readJob_26 : decode cX12_readJob 26 = .ok (.aload_n 0, 1) := by decide +kernel
theorem dX12_readJob_27 : decode cX12_readJob 27 = .ok (.bipush 44, 2) := by decide +kernel
theorem dX12_readJob_29 : decode cX12_readJob 29 = .ok (.invokevirtual 314, 3) := by decide +kernel
theorem dX12_readJob_32 : decode cX12_readJob 32 = .ok (.aload_n 0, 1) := by decide +kernel
theorem dX12_readJob_33 : decode cX12_readJob 33 = .ok (.iconst 3, 1) := by decide +kernel
theorem dX12_readJob_34 : decode cX12_readJob 34 = .ok (.invokevirtual 311, 3) := by decide +kernel
theorem dX12_readJob_37 : decode cX12_readJob 37 = .ok (.aload_n 0, 1) := by decide +kernel
theorem dX12_readJob_38 : decode cX12_readJob 38 = .ok (.getfield 289, 3) := by decide +kernel
theorem dX12_readJob_41 : decode cX12_readJob 41 = .ok (.istore 4, 2) := by decide +kernel
theorem dX12_readJob_43 : decode cX12_readJob 43 = .ok (.aload_n 0, 1) := by decide +kernel
theorem dX12_readJob_44 : decode cX12_readJob 44 = .ok (.bipush 58, 2) := by decide +kernel
theorem dX12_readJob_46 : decode cX12_readJob 46 = .ok (.invokevirtual 314, 3) := by decide +kernel
theorem dX12_readJob_49 : decode cX12_readJob 49 = .ok (.aload_n 0, 1) := by decide +kernel
theorem dX12_readJob_50 : decode cX12_readJob 50 = .ok (.getfield 9, 3) := by decide +kernel
theorem dX12_readJob_53 : decode cX12_readJob 53 = .ok (.iconst 0, 1) := by decide +kernel
theorem dX12_readJob_54 : decode cX12_readJob 54 = .ok (.iaload, 1) := by decide +kernel
theorem dX12_readJob_55 : decode cX12_readJob 55 = .ok (.iconst 5, 1) := by decide +kernel
theorem dX12_readJob_56 : decode cX12_readJob 56 = .ok (.if_icmp .ne 13, 3) := by decide +kernel
theorem dX12_readJob_59 : decode cX12_readJob 59 = .ok (.aload_n 0, 1) := by decide +kernel
theorem dX12_readJob_60 : decode cX12_readJob 60 = .ok (.iload_n 1, 1) := by decide +kernel
theorem dX12_readJob_61 : decode cX12_readJob 61 = .ok (.iconst 1, 1) := by decide +kernel
theorem dX12_readJob_62 : decode cX12_readJob 62 = .ok (.iconst 0, 1) := by decide +kernel
theorem dX12_readJob_63 : decode cX12_readJob 63 = .ok (.invokevirtual 318, 3) := by decide +kernel
theorem dX12_readJob_66 : decode cX12_readJob 66 = .ok (.goto 20, 3) := by decide +kernel
theorem dX12_readJob_69 : decode cX12_readJob 69 = .ok (.iload_n 2, 1) := by decide +kernel
theorem dX12_readJob_70 : decode cX12_readJob 70 = .ok (.iload_n 3, 1) := by decide +kernel
theorem dX12_readJob_71 : decode cX12_readJob 71 = .ok (.iload 4, 2) := by decide +kernel
theorem dX12_readJob_73 : decode cX12_readJob 73 = .ok (.invokestatic 98, 3) := by decide +kernel
theorem dX12_readJob_76 : decode cX12_readJob 76 = .ok (.ifCond .ne 10, 3) := by decide +kernel
theorem dX12_readJob_79 : decode cX12_readJob 79 = .ok (.aload_n 0, 1) := by decide +kernel
theorem dX12_readJob_80 : decode cX12_readJob 80 = .ok (.iload_n 1, 1) := by decide +kernel
theorem dX12_readJob_81 : decode cX12_readJob 81 = .ok (.iconst 2, 1) := by decide +kernel
theorem dX12_readJob_82 : decode cX12_readJob 82 = .ok (.iconst 0, 1) := by decide +kernel
theorem dX12_readJob_83 : decode cX12_readJob 83 = .ok (.invokevirtual 318, 3) := by decide +kernel
theorem dX12_readJob_86 : decode cX12_readJob 86 = .ok (.aload_n 0, 1) := by decide +kernel
theorem dX12_readJob_87 : decode cX12_readJob 87 = .ok (.getfield 302, 3) := by decide +kernel
theorem dX12_readJob_90 : decode cX12_readJob 90 = .ok (.iconst (-1), 1) := by decide +kernel
theorem dX12_readJob_91 : decode cX12_readJob 91 = .ok (.if_icmp .ne 21, 3) := by decide +kernel
theorem dX12_readJob_94 : decode cX12_readJob 94 = .ok (.aload_n 0, 1) := by decide +kernel
theorem dX12_readJob_95 : decode cX12_readJob 95 = .ok (.getfield 292, 3) := by decide +kernel
theorem dX12_readJob_98 : decode cX12_readJob 98 = .ok (.ifCond .ge 14, 3) := by decide +kernel
theorem dX12_readJob_101 : decode cX12_readJob 101 = .ok (.aload_n 0, 1) := by decide +kernel
theorem dX12_readJob_102 : decode cX12_readJob 102 = .ok (.iload_n 2, 1) := by decide +kernel
theorem dX12_readJob_103 : decode cX12_readJob 103 = .ok (.iload_n 3, 1) := by decide +kernel
theorem dX12_readJob_104 : decode cX12_readJob 104 = .ok (.iload 4, 2) := by decide +kernel
theorem dX12_readJob_106 : decode cX12_readJob 106 = .ok (.invokevirtual 102, 3) := by decide +kernel
theorem dX12_readJob_109 : decode cX12_readJob 109 = .ok (.goto 4, 3) := by decide +kernel
theorem dX12_readJob_112 : decode cX12_readJob 112 = .ok (.iconst 0, 1) := by decide +kernel
theorem dX12_readJob_113 : decode cX12_readJob 113 = .ok (.istore 5, 2) := by decide +kernel
theorem dX12_readJob_115 : decode cX12_readJob 115 = .ok (.iconst 0, 1) := by decide +kernel
theorem dX12_readJob_116 : decode cX12_readJob 116 = .ok (.istore 6, 2) := by decide +kernel
theorem dX12_readJob_118 : decode cX12_readJob 118 = .ok (.iconst 1, 1) := by decide +kernel
theorem dX12_readJob_119 : decode cX12_readJob 119 = .ok (.istore 7, 2) := by decide +kernel
theorem dX12_readJob_121 : decode cX12_readJob 121 = .ok (.iload 7, 2) := by decide +kernel
theorem dX12_readJob_123 : decode cX12_readJob 123 = .ok (.ifCond .eq 33, 3) := by decide +kernel
theorem dX12_readJob_126 : decode cX12_readJob 126 = .ok (.aload_n 0, 1) := by decide +kernel
theorem dX12_readJob_127 : decode cX12_readJob 127 = .ok (.getfield 292, 3) := by decide +kernel
theorem dX12_readJob_130 : decode cX12_readJob 130 = .ok (.ifCond .ge 26, 3) := by decide +kernel
theorem dX12_readJob_133 : decode cX12_readJob 133 = .ok (.aload_n 0, 1) := by decide +kernel
theorem dX12_readJob_134 : decode cX12_readJob 134 = .ok (.iload_n 1, 1) := by decide +kernel
theorem dX12_readJob_135 : decode cX12_readJob 135 = .ok (.iload 6, 2) := by decide +kernel
theorem dX12_readJob_137 : decode cX12_readJob 137 = .ok (.iload 5, 2) := by decide +kernel
theorem dX12_readJob_139 : decode cX12_readJob 139 = .ok (.invokevirtual 321, 3) := by decide +kernel
theorem dX12_readJob_142 : decode cX12_readJob 142 = .ok (.iinc 6 1, 3) := by decide +kernel
theorem dX12_readJob_145 : decode cX12_readJob 145 = .ok (.aload_n 0, 1) := by decide +kernel
theorem dX12_readJob_146 : decode cX12_readJob 146 = .ok (.bipush 47, 2) := by decide +kernel
theorem dX12_readJob_148 : decode cX12_readJob 148 = .ok (.invokevirtual 298, 3) := by decide +kernel
theorem dX12_readJob_151 : decode cX12_readJob 151 = .ok (.istore 7, 2) := by decide +kernel
theorem dX12_readJob_153 : decode cX12_readJob 153 = .ok (.goto (-32), 3) := by decide +kernel
theorem dX12_readJob_156 : decode cX12_readJob 156 = .ok (.return_, 1) := by decide +kernel
theorem dX12_read_0 : decode cX12_read 0 = .ok (.aload_n 0, 1) := by decide +kernel
theorem dX12_read_1 : decode cX12_read 1 = .ok (.getfield 9, 3) := by decide +kernel
theorem dX12_read_4 : decode cX12_read 4 = .ok (.iconst 0, 1) := by decide +kernel
theorem dX12_read_5 : decode cX12_read 5 = .ok (.aload_n 0, 1) := by decide +kernel
theorem dX12_read_6 : decode cX12_read 6 = .ok (.getfield 76, 3) := by decide +kernel
theorem dX12_read_9 : decode cX12_read 9 = .ok (.iconst 0, 1) := by decide +kernel
theorem dX12_read_10 : decode cX12_read 10 = .ok (.sipush 203, 3) := by decide +kernel
theorem dX12_read_13 : decode cX12_read 13 = .ok (.invokestatic 264, 3) := by decide +kernel
theorem dX12_read_16 : decode cX12_read 16 = .ok (.aload_n 0, 1) := by decide +kernel
theorem dX12_read_17 : decode cX12_read 17 = .ok (.iconst 0, 1) := by decide +kernel
theorem dX12_read_18 : decode cX12_read 18 = .ok (.putfield 282, 3) := by decide +kernel
theorem dX12_read_21 : decode cX12_read 21 = .ok (.aload_n 0, 1) := by decide +kernel
theorem dX12_read_22 : decode cX12_read 22 = .ok (.iconst (-1), 1) := by decide +kernel
theorem dX12_read_23 : decode cX12_read 23 = .ok (.putfield 292, 3) := by decide +kernel
theorem dX12_read_26 : decode cX12_read 26 = .ok (.aload_n 0, 1) := by decide +kernel
theorem dX12_read_27 : decode cX12_read 27 = .ok (.iconst (-1), 1) := by decide +kernel
theorem dX12_read_28 : decode cX12_read 28 = .ok (.putfield 302, 3) := by decide +kernel
theorem dX12_read_31 : decode cX12_read 31 = .ok (.iconst 0, 1) := by decide +kernel
theorem dX12_read_32 : decode cX12_read 32 = .ok (.istore_n 1, 1) := by decide +kernel
theorem dX12_read_33 : decode cX12_read 33 = .ok (.iconst 1, 1) := by decide +kernel
theorem dX12_read_34 : decode cX12_read 34 = .ok (.istore_n 2, 1) := by decide +kernel
theorem dX12_read_35 : decode cX12_read 35 = .ok (.iload_n 2, 1) := by decide +kernel
theorem dX12_read_36 : decode cX12_read 36 = .ok (.ifCond .eq 28, 3) := by decide +kernel
theorem dX12_read_39 : decode cX12_read 39 = .ok (.aload_n 0, 1) := by decide +kernel
theorem dX12_read_40 : decode cX12_read 40 = .ok (.getfield 292, 3) := by decide +kernel
theorem dX12_read_43 : decode cX12_read 43 = .ok (.ifCond .ge 21, 3) := by decide +kernel
theorem dX12_read_46 : decode cX12_read 46 = .ok (.aload_n 0, 1) := by decide +kernel
theorem dX12_read_47 : decode cX12_read 47 = .ok (.iload_n 1, 1) := by decide +kernel
theorem dX12_read_48 : decode cX12_read 48 = .ok (.invokevirtual 324, 3) := by decide +kernel
theorem dX12_read_51 : decode cX12_read 51 = .ok (.iinc 1 1, 3) := by decide +kernel
theorem dX12_read_54 : decode cX12_read 54 = .ok (.aload_n 0, 1) := by decide +kernel
theorem dX12_read_55 : decode cX12_read 55 = .ok (.bipush 59, 2) := by decide +kernel
theorem dX12_read_57 : decode cX12_read 57 = .ok (.invokevirtual 298, 3) := by decide +kernel
theorem dX12_read_60 : decode cX12_read 60 = .ok (.istore_n 2, 1) := by decide +kernel
theorem dX12_read_61 : decode cX12_read 61 = .ok (.goto (-26), 3) := by decide +kernel
theorem dX12_read_64 : decode cX12_read 64 = .ok (.aload_n 0, 1) := by decide +kernel
theorem dX12_read_65 : decode cX12_read 65 = .ok (.getfield 292, 3) := by decide +kernel
theorem dX12_read_68 : decode cX12_read 68 = .ok (.ifCond .ge 22, 3) := by decide +kernel
theorem dX12_read_71 : decode cX12_read 71 = .ok (.aload_n 0, 1) := by decide +kernel
theorem dX12_read_72 : decode cX12_read 72 = .ok (.getfield 282, 3) := by decide +kernel
theorem dX12_read_75 : decode cX12_read 75 = .ok (.aload_n 0, 1) := by decide +kernel
theorem dX12_read_76 : decode cX12_read 76 = .ok (.getfield 279, 3) := by decide +kernel
theorem dX12_read_79 : decode cX12_read 79 = .ok (.if_icmp .ge 11, 3) := by decide +kernel
theorem dX12_read_82 : decode cX12_read 82 = .ok (.aload_n 0, 1) := by decide +kernel
theorem dX12_read_83 : decode cX12_read 83 = .ok (.aload_n 0, 1) := by decide +kernel
theorem dX12_read_84 : decode cX12_read 84 = .ok (.getfield 282, 3) := by decide +kernel
theorem dX12_read_87 : decode cX12_read 87 = .ok (.putfield 292, 3) := by decide +kernel
theorem dX12_read_90 : decode cX12_read 90 = .ok (.aload_n 0, 1) := by decide +kernel
theorem dX12_read_91 : decode cX12_read 91 = .ok (.iconst 0, 1) := by decide +kernel
theorem dX12_read_92 : decode cX12_read 92 = .ok (.putfield 279, 3) := by decide +kernel
theorem dX12_read_95 : decode cX12_read 95 = .ok (.aload_n 0, 1) := by decide +kernel
theorem dX12_read_96 : decode cX12_read 96 = .ok (.aload_n 0, 1) := by decide +kernel
theorem dX12_read_97 : decode cX12_read 97 = .ok (.getfield 292, 3) := by decide +kernel
theorem dX12_read_100 : decode cX12_read 100 = .ok (.ifCond .lt 7, 3) := by decide +kernel
theorem dX12_read_103 : decode cX12_read 103 = .ok (.iconst 1, 1) := by decide +kernel
theorem dX12_read_104 : decode cX12_read 104 = .ok (.goto 16, 3) := by decide +kernel
theorem dX12_read_107 : decode cX12_read 107 = .ok (.aload_n 0, 1) := by decide +kernel
theorem dX12_read_108 : decode cX12_read 108 = .ok (.getfield 302, 3) := by decide +kernel
theorem dX12_read_111 : decode cX12_read 111 = .ok (.iconst (-1), 1) := by decide +kernel
theorem dX12_read_112 : decode cX12_read 112 = .ok (.if_icmp .eq 7, 3) := by decide +kernel
theorem dX12_read_115 : decode cX12_read 115 = .ok (.iconst 2, 1) := by decide +kernel
theorem dX12_read_116 : decode cX12_read 116 = .ok (.goto 4, 3) := by decide +kernel
theorem dX12_read_119 : decode cX12_read 119 = .ok (.iconst 0, 1) := by decide +kernel
theorem dX12_read_120 : decode cX12_read 120 = .ok (.putfield 79, 3) := by decide +kernel
theorem dX12_read_123 : decode cX12_read 123 = .ok (.aload_n 0, 1) := by decide +kernel
theorem dX12_read_124 : decode cX12_read 124 = .ok (.getfield 79, 3) := by decide +kernel
theorem dX12_read_127 : decode cX12_read 127 = .ok (.ifCond .ne 5, 3) := by decide +kernel
theorem dX12_read_130 : decode cX12_read 130 = .ok (.iload_n 1, 1) := by decide +kernel
theorem dX12_read_131 : decode cX12_read 131 = .ok (.ireturn, 1) := by decide +kernel
theorem dX12_read_132 : decode cX12_read 132 = .ok (.aload_n 0, 1) := by decide +kernel
theorem dX12_read_133 : decode cX12_read 133 = .ok (.getfield 76, 3) := by decide +kernel
theorem dX12_read_136 : decode cX12_read 136 = .ok (.iconst 0, 1) := by decide +kernel
theorem dX12_read_137 : decode cX12_read 137 = .ok (.aload_n 0, 1) := by decide +kernel
theorem dX12_read_138 : decode cX12_read 138 = .ok (.getfield 9, 3) := by decide +kernel
theorem dX12_read_141 : decode cX12_read 141 = .ok (.iconst 0, 1) := by decide +kernel
theorem dX12_read_142 : decode cX12_read 142 = .ok (.sipush 203, 3) := by decide +kernel
theorem dX12_read_145 : decode cX12_read 145 = .ok (.invokestatic 264, 3) := by decide +kernel
theorem dX12_read_148 : decode cX12_read 148 = .ok (.aload_n 0, 1) := by decide +kernel
theorem dX12_read_149 : decode cX12_read 149 = .ok (.getfield 79, 3) := by decide +kernel
theorem dX12_read_152 : decode cX12_read 152 = .ok (.iconst 1, 1) := by decide +kernel
theorem dX12_read_153 : decode cX12_read 153 = .ok (.if_icmp .ne 21, 3) := by decide +kernel
theorem dX12_read_156 : decode cX12_read 156 = .ok (.aload_n 0, 1) := by decide +kernel
theorem dX12_read_157 : decode cX12_read 157 = .ok (.iconst 2, 1) := by decide +kernel
theorem dX12_read_158 : decode cX12_read 158 = .ok (.iconst 2, 1) := by decide +kernel
theorem dX12_read_159 : decode cX12_read 159 = .ok (.bipush 100, 2) := by decide +kernel
theorem dX12_read_161 : decode cX12_read 161 = .ok (.aload_n 0, 1) := by decide +kernel
theorem dX12_read_162 : decode cX12_read 162 = .ok (.getfield 292, 3) := by decide +kernel
theorem dX12_read_165 : decode cX12_read 165 = .ok (.iadd, 1) := by decide +kernel
theorem dX12_read_166 : decode cX12_read 166 = .ok (.iconst 0, 1) := by decide +kernel
theorem dX12_read_167 : decode cX12_read 167 = .ok (.iconst 0, 1) := by decide +kernel
theorem dX12_read_168 : decode cX12_read 168 = .ok (.invokevirtual 217, 3) := by decide +kernel
theorem dX12_read_171 : decode cX12_read 171 = .ok (.goto 39, 3) := by decide +kernel
theorem dX12_read_174 : decode cX12_read 174 = .ok (.aload_n 0, 1) := by decide +kernel
theorem dX12_read_175 : decode cX12_read 175 = .ok (.aload_n 0, 1) := by decide +kernel
theorem dX12_read_176 : decode cX12_read 176 = .ok (.getfield 305, 3) := by decide +kernel
theorem dX12_read_179 : decode cX12_read 179 = .ok (.iconst 3, 1) := by decide +kernel
theorem dX12_read_180 : decode cX12_read 180 = .ok (.if_icmp .ne 7, 3) := by decide +kernel
theorem dX12_read_183 : decode cX12_read 183 = .ok (.iconst 4, 1) := by decide +kernel
theorem dX12_read_184 : decode cX12_read 184 = .ok (.goto 4, 3) := by decide +kernel
theorem dX12_read_187 : decode cX12_read 187 = .ok (.iconst 3, 1) := by decide +kernel
theorem dX12_read_188 : decode cX12_read 188 = .ok (.iconst 3, 1) := by decide +kernel
theorem dX12_read_189 : decode cX12_read 189 = .ok (.bipush 100, 2) := by decide +kernel
theorem dX12_read_191 : decode cX12_read 191 = .ok (.aload_n 0, 1) := by decide +kernel
theorem dX12_read_192 : decode cX12_read 192 = .ok (.getfield 302, 3) := by decide +kernel
theorem dX12_read_195 : decode cX12_read 195 = .ok (.iadd, 1) := by decide +kernel
theorem dX12_read_196 : decode cX12_read 196 = .ok (.aload_n 0, 1) := by decide +kernel
theorem dX12_read_197 : decode cX12_read 197 = .ok (.getfield 305, 3) := by decide +kernel
theorem dX12_read_200 : decode cX12_read 200 = .ok (.bipush 100, 2) := by decide +kernel
theorem dX12_read_202 : decode cX12_read 202 = .ok (.aload_n 0, 1) := by decide +kernel
theorem dX12_read_203 : decode cX12_read 203 = .ok (.getfield 308, 3) := by decide +kernel
theorem dX12_read_206 : decode cX12_read 206 = .ok (.iadd, 1) := by decide +kernel
theorem dX12_read_207 : decode cX12_read 207 = .ok (.invokevirtual 217, 3) := by decide +kernel
theorem dX12_read_210 : decode cX12_read 210 = .ok (.iconst 0, 1) := by decide +kernel
theorem dX12_read_211 : decode cX12_read 211 = .ok (.ireturn, 1) := by decide +kernel
theorem dX12_save_0 : decode cX12_save 0 = .ok (.aload_n 0, 1) := by decide +kernel
theorem dX12_save_1 : decode cX12_save 1 = .ok (.iconst 0, 1) := by decide +kernel
theorem dX12_save_2 : decode cX12_save 2 = .ok (.putfield 79, 3) := by decide +kernel
theorem dX12_save_5 : decode cX12_save 5 = .ok (.aload_n 0, 1) := by decide +kernel
theorem dX12_save_6 : decode cX12_save 6 = .ok (.getfield 9, 3) := by decide +kernel
theorem dX12_save_9 : decode cX12_save 9 = .ok (.iconst 0, 1) := by decide +kernel
theorem dX12_save_10 : decode cX12_save 10 = .ok (.aload_n 0, 1) := by decide +kernel
theorem dX12_save_11 : decode cX12_save 11 = .ok (.getfield 13, 3) := by decide +kernel
theorem dX12_save_14 : decode cX12_save 14 = .ok (.iconst 0, 1) := by decide +kernel
theorem dX12_save_15 : decode cX12_save 15 = .ok (.sipush 203, 3) := by decide +kernel
theorem dX12_save_18 : decode cX12_save 18 = .ok (.invokestatic 264, 3) := by decide +kernel
theorem dX12_save_21 : decode cX12_save 21 = .ok (.aload_n 0, 1) := by decide +kernel
theorem dX12_save_22 : decode cX12_save 22 = .ok (.iconst 1, 1) := by decide +kernel
theorem dX12_save_23 : decode cX12_save 23 = .ok (.putfield 327, 3) := by decide +kernel
theorem dX12_save_26 : decode cX12_save 26 = .ok (.return_, 1) := by decide +kernel
theorem dX12_restore_0 : decode cX12_restore 0 = .ok (.aload_n 0, 1) := by decide +kernel
theorem dX12_restore_1 : decode cX12_restore 1 = .ok (.aload_n 0, 1) := by decide +kernel
theorem dX12_restore_2 : decode cX12_restore 2 = .ok (.getfield 327, 3) := by decide +kernel
theorem dX12_restore_5 : decode cX12_restore 5 = .ok (.ifCond .eq 7, 3) := by decide +kernel
theorem dX12_restore_8 : decode cX12_restore 8 = .ok (.iconst 0, 1) := by decide +kernel
theorem dX12_restore_9 : decode cX12_restore 9 = .ok (.goto 4, 3) := by decide +kernel
theorem dX12_restore_12 : decode cX12_restore 12 = .ok (.iconst 1, 1) := by decide +kernel
theorem dX12_restore_13 : decode cX12_restore 13 = .ok (.putfield 79, 3) := by decide +kernel
theorem dX12_restore_16 : decode cX12_restore 16 = .ok (.aload_n 0, 1) := by decide +kernel
theorem dX12_restore_17 : decode cX12_restore 17 = .ok (.getfield 79, 3) := by decide +kernel
theorem dX12_restore_20 : decode cX12_restore 20 = .ok (.ifCond .ne 19, 3) := by decide +kernel
theorem dX12_restore_23 : decode cX12_restore 23 = .ok (.aload_n 0, 1) := by decide +kernel
theorem dX12_restore_24 : decode cX12_restore 24 = .ok (.getfield 13, 3) := by decide +kernel
theorem dX12_restore_27 : decode cX12_restore 27 = .ok (.iconst 0, 1) := by decide +kernel
theorem dX12_restore_28 : decode cX12_restore 28 = .ok (.aload_n 0, 1) := by decide +kernel
theorem dX12_restore_29 : decode cX12_restore 29 = .ok (.getfield 9, 3) := by decide +kernel
theorem dX12_restore_32 : decode cX12_restore 32 = .ok (.iconst 0, 1) := by decide +kernel
theorem dX12_restore_33 : decode cX12_restore 33 = .ok (.sipush 203, 3) := by decide +kernel
theorem dX12_restore_36 : decode cX12_restore 36 = .ok (.invokestatic 264, 3) := by decide +kernel
theorem dX12_restore_39 : decode cX12_restore 39 = .ok (.return_, 1) := by decide +kernel
