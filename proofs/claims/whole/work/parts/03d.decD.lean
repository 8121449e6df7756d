theorem dX11_init_0 : decode cX11_init 0 = .ok (.aload_n 0, 1) := by decide +kernel
theorem dX11_init_1 : decode cX11_init 1 = .ok (.invokespecial 1, 3) := by decide +kernel
theorem dX11_init_4 : decode cX11_init 4 = .ok (.aload_n 0, 1) := by decide +kernel
theorem dX11_init_5 : decode cX11_init 5 = .ok (.new 7, 3) := by decide +kernel
theorem dX11_init_8 : decode cX11_init 8 = .ok (.dup, 1) := by decide +kernel
theorem dX11_init_9 : decode cX11_init 9 = .ok (.invokespecial 9, 3) := by decide +kernel
theorem dX11_init_12 : decode cX11_init 12 = .ok (.putfield 10, 3) := by decide +kernel
theorem dX11_init_15 : decode cX11_init 15 = .ok (.aload_n 0, 1) := by decide +kernel
theorem dX11_init_16 : decode cX11_init 16 = .ok (.new 7, 3) := by decide +kernel
theorem dX11_init_19 : decode cX11_init 19 = .ok (.dup, 1) := by decide +kernel
theorem dX11_init_20 : decode cX11_init 20 = .ok (.invokespecial 9, 3) := by decide +kernel
theorem dX11_init_23 : decode cX11_init 23 = .ok (.putfield 16, 3) := by decide +kernel
theorem dX11_init_26 : decode cX11_init 26 = .ok (.aload_n 0, 1) := by decide +kernel
theorem dX11_init_27 : decode cX11_init 27 = .ok (.new 7, 3) := by decide +kernel
theorem dX11_init_30 : decode cX11_init 30 = .ok (.dup, 1) := by decide +kernel
theorem dX11_init_31 : decode cX11_init 31 = .ok (.invokespecial 9, 3) := by decide +kernel
theorem dX11_init_34 : decode cX11_init 34 = .ok (.putfield 19, 3) := by decide +kernel
theorem dX11_init_37 : decode cX11_init 37 = .ok (.aload_n 0, 1) := by decide +kernel
theorem dX11_init_38 : decode cX11_init 38 = .ok (.new 22, 3) := by decide +kernel
theorem dX11_init_41 : decode cX11_init 41 = .ok (.dup, 1) := by decide +kernel
theorem dX11_init_42 : decode cX11_init 42 = .ok (.invokespecial 24, 3) := by decide +kernel
theorem dX11_init_45 : decode cX11_init 45 = .ok (.putfield 25, 3) := by decide +kernel
theorem dX11_init_48 : decode cX11_init 48 = .ok (.aload_n 0, 1) := by decide +kernel
theorem dX11_init_49 : decode cX11_init 49 = .ok (.new 22, 3) := by decide +kernel
theorem dX11_init_52 : decode cX11_init 52 = .ok (.dup, 1) := by decide +kernel
theorem dX11_init_53 : decode cX11_init 53 = .ok (.invokespecial 24, 3) := by decide +kernel
theorem dX11_init_56 : decode cX11_init 56 = .ok (.putfield 29, 3) := by decide +kernel
theorem dX11_init_59 : decode cX11_init 59 = .ok (.aload_n 0, 1) := by decide +kernel
theorem dX11_init_60 : decode cX11_init 60 = .ok (.new 32, 3) := by decide +kernel
theorem dX11_init_63 : decode cX11_init 63 = .ok (.dup, 1) := by decide +kernel
theorem dX11_init_64 : decode cX11_init 64 = .ok (.invokespecial 34, 3) := by decide +kernel
theorem dX11_init_67 : decode cX11_init 67 = .ok (.putfield 35, 3) := by decide +kernel
theorem dX11_init_70 : decode cX11_init 70 = .ok (.aload_n 0, 1) := by decide +kernel
theorem dX11_init_71 : decode cX11_init 71 = .ok (.new 39, 3) := by decide +kernel
theorem dX11_init_74 : decode cX11_init 74 = .ok (.dup, 1) := by decide +kernel
theorem dX11_init_75 : decode cX11_init 75 = .ok (.invokespecial 41, 3) := by decide +kernel
theorem dX11_init_78 : decode cX11_init 78 = .ok (.putfield 42, 3) := by decide +kernel
theorem dX11_init_81 : decode cX11_init 81 = .ok (.aload_n 0, 1) := by decide +kernel
theorem dX11_init_82 : decode cX11_init 82 = .ok (.new 46, 3) := by decide +kernel
theorem dX11_init_85 : decode cX11_init 85 = .ok (.dup, 1) := by decide +kernel
theorem dX11_init_86 : decode cX11_init 86 = .ok (.invokespecial 48, 3) := by decide +kernel
theorem dX11_init_89 : decode cX11_init 89 = .ok (.putfield 49, 3) := by decide +kernel
theorem dX11_init_92 : decode cX11_init 92 = .ok (.aload_n 0, 1) := by decide +kernel
theorem dX11_init_93 : decode cX11_init 93 = .ok (.new 53, 3) := by decide +kernel
theorem dX11_init_96 : decode cX11_init 96 = .ok (.dup, 1) := by decide +kernel
theorem dX11_init_97 : decode cX11_init 97 = .ok (.invokespecial 55, 3) := by decide +kernel
theorem dX11_init_100 : decode cX11_init 100 = .ok (.putfield 56, 3) := by decide +kernel
theorem dX11_init_103 : decode cX11_init 103 = .ok (.aload_n 0, 1) := by decide +kernel
theorem dX11_init_104 : decode cX11_init 104 = .ok (.new 60, 3) := by decide +kernel
theorem dX11_init_107 : decode cX11_init 107 = .ok (.dup, 1) := by decide +kernel
theorem dX11_init_108 : decode cX11_init 108 = .ok (.invokespecial 62, 3) := by decide +kernel
theorem dX11_init_111 : decode cX11_init 111 = .ok (.putfield 63, 3) := by decide +kernel
theorem dX11_init_114 : decode cX11_init 114 = .ok (.aload_n 0, 1) := by decide +kernel
theorem dX11_init_115 : decode cX11_init 115 = .ok (.new 67, 3) := by decide +kernel
theorem dX11_init_118 : decode cX11_init 118 = .ok (.dup, 1) := by decide +kernel
theorem dX11_init_119 : decode cX11_init 119 = .ok (.invokespecial 69, 3) := by decide +kernel
theorem dX11_init_122 : decode cX11_init 122 = .ok (.putfield 70, 3) := by decide +kernel
theorem dX11_init_125 : decode cX11_init 125 = .ok (.aload_n 0, 1) := by decide +kernel
theorem dX11_init_126 : decode cX11_init 126 = .ok (.new 74, 3) := by decide +kernel
theorem dX11_init_129 : decode cX11_init 129 = .ok (.dup, 1) := by decide +kernel
theorem dX11_init_130 : decode cX11_init 130 = .ok (.invokespecial 76, 3) := by decide +kernel
theorem dX11_init_133 : decode cX11_init 133 = .ok (.putfield 77, 3) := by decide +kernel
theorem dX11_init_136 : decode cX11_init 136 = .ok (.aload_n 0, 1) := by decide +kernel
theorem dX11_init_137 : decode cX11_init 137 = .ok (.new 81, 3) := by decide +kernel
theorem dX11_init_140 : decode cX11_init 140 = .ok (.dup, 1) := by decide +kernel
theorem dX11_init_141 : decode cX11_init 141 = .ok (.invokespecial 83, 3) := by decide +kernel
theorem dX11_init_144 : decode cX11_init 144 = .ok (.putfield 84, 3) := by decide +kernel
theorem dX11_init_147 : decode cX11_init 147 = .ok (.return_, 1) := by decide +kernel
theorem dX11_addJob_0 : decode cX11_addJob 0 = .ok (.iload_n 1, 1) := by decide +kernel
theorem dX11_addJob_1 : decode cX11_addJob 1 = .ok (.iload_n 2, 1) := by decide +kernel
theorem dX11_addJob_2 : decode cX11_addJob 2 = .ok (.iload_n 3, 1) := by decide +kernel
theorem dX11_addJob_3 : decode cX11_addJob 3 = .ok (.invokestatic 88, 3) := by decide +kernel
theorem dX11_addJob_6 : decode cX11_addJob 6 = .ok (.ifCond .ne 13, 3) := by decide +kernel
theorem dX11_addJob_9 : decode cX11_addJob 9 = .ok (.new 92, 3) := by decide +kernel
theorem dX11_addJob_12 : decode cX11_addJob 12 = .ok (.dup, 1) := by decide +kernel
theorem dX11_addJob_13 : decode cX11_addJob 13 = .ok (.ldc 94, 2) := by decide +kernel
theorem dX11_addJob_15 : decode cX11_addJob 15 = .ok (.invokespecial 96, 3) := by decide +kernel
theorem dX11_addJob_18 : decode cX11_addJob 18 = .ok (.athrow, 1) := by decide +kernel
theorem dX11_addJob_19 : decode cX11_addJob 19 = .ok (.aload_n 0, 1) := by decide +kernel
theorem dX11_addJob_20 : decode cX11_addJob 20 = .ok (.getfield 10, 3) := by decide +kernel
theorem dX11_addJob_23 : decode cX11_addJob 23 = .ok (.getfield 99, 3) := by decide +kernel
theorem dX11_addJob_26 : decode cX11_addJob 26 = .ok (.iconst 5, 1) := by decide +kernel
theorem dX11_addJob_27 : decode cX11_addJob 27 = .ok (.if_icmp .lt 13, 3) := by decide +kernel
theorem dX11_addJob_30 : decode cX11_addJob 30 = .ok (.new 103, 3) := by decide +kernel
theorem dX11_addJob_33 : decode cX11_addJob 33 = .ok (.dup, 1) := by decide +kernel
theorem dX11_addJob_34 : decode cX11_addJob 34 = .ok (.ldc 105, 2) := by decide +kernel
theorem dX11_addJob_36 : decode cX11_addJob 36 = .ok (.invokespecial 107, 3) := by decide +kernel
theorem dX11_addJob_39 : decode cX11_addJob 39 = .ok (.athrow, 1) := by decide +kernel
theorem dX11_addJob_40 : decode cX11_addJob 40 = .ok (.aload_n 0, 1) := by decide +kernel
theorem dX11_addJob_41 : decode cX11_addJob 41 = .ok (.getfield 10, 3) := by decide +kernel
theorem dX11_addJob_44 : decode cX11_addJob 44 = .ok (.iload_n 1, 1) := by decide +kernel
theorem dX11_addJob_45 : decode cX11_addJob 45 = .ok (.iload_n 2, 1) := by decide +kernel
theorem dX11_addJob_46 : decode cX11_addJob 46 = .ok (.iload_n 3, 1) := by decide +kernel
theorem dX11_addJob_47 : decode cX11_addJob 47 = .ok (.invokevirtual 108, 3) := by decide +kernel
theorem dX11_addJob_50 : decode cX11_addJob 50 = .ok (.ireturn, 1) := by decide +kernel
theorem dX11_addOperation_0 : decode cX11_addOperation 0 = .ok (.aload_n 0, 1) := by decide +kernel
theorem dX11_addOperation_1 : decode cX11_addOperation 1 = .ok (.iload_n 1, 1) := by decide +kernel
theorem dX11_addOperation_2 : decode cX11_addOperation 2 = .ok (.invokevirtual 112, 3) := by decide +kernel
theorem dX11_addOperation_5 : decode cX11_addOperation 5 = .ok (.iload_n 2, 1) := by decide +kernel
theorem dX11_addOperation_6 : decode cX11_addOperation 6 = .ok (.invokestatic 116, 3) := by decide +kernel
theorem dX11_addOperation_9 : decode cX11_addOperation 9 = .ok (.iload_n 3, 1) := by decide +kernel
theorem dX11_addOperation_10 : decode cX11_addOperation 10 = .ok (.invokestatic 119, 3) := by decide +kernel
theorem dX11_addOperation_13 : decode cX11_addOperation 13 = .ok (.ifCond .eq 11, 3) := by decide +kernel
theorem dX11_addOperation_16 : decode cX11_addOperation 16 = .ok (.iload 4, 2) := by decide +kernel
theorem dX11_addOperation_18 : decode cX11_addOperation 18 = .ok (.invokestatic 123, 3) := by decide +kernel
theorem dX11_addOperation_21 : decode cX11_addOperation 21 = .ok (.ifCond .ne 13, 3) := by decide +kernel
theorem dX11_addOperation_24 : decode cX11_addOperation 24 = .ok (.new 92, 3) := by decide +kernel
theorem dX11_addOperation_27 : decode cX11_addOperation 27 = .ok (.dup, 1) := by decide +kernel
theorem dX11_addOperation_28 : decode cX11_addOperation 28 = .ok (.ldc 126, 2) := by decide +kernel
theorem dX11_addOperation_30 : decode cX11_addOperation 30 = .ok (.invokespecial 96, 3) := by decide +kernel
theorem dX11_addOperation_33 : decode cX11_addOperation 33 = .ok (.athrow, 1) := by decide +kernel
theorem dX11_addOperation_34 : decode cX11_addOperation 34 = .ok (.aload_n 0, 1) := by decide +kernel
theorem dX11_addOperation_35 : decode cX11_addOperation 35 = .ok (.getfield 10, 3) := by decide +kernel
theorem dX11_addOperation_38 : decode cX11_addOperation 38 = .ok (.iload_n 1, 1) := by decide +kernel
theorem dX11_addOperation_39 : decode cX11_addOperation 39 = .ok (.iload_n 2, 1) := by decide +kernel
theorem dX11_addOperation_40 : decode cX11_addOperation 40 = .ok (.invokevirtual 128, 3) := by decide +kernel
theorem dX11_addOperation_43 : decode cX11_addOperation 43 = .ok (.ifCond .ne 13, 3) := by decide +kernel
theorem dX11_addOperation_46 : decode cX11_addOperation 46 = .ok (.new 103, 3) := by decide +kernel
theorem dX11_addOperation_49 : decode cX11_addOperation 49 = .ok (.dup, 1) := by decide +kernel
theorem dX11_addOperation_50 : decode cX11_addOperation 50 = .ok (.ldc 132, 2) := by decide +kernel
theorem dX11_addOperation_52 : decode cX11_addOperation 52 = .ok (.invokespecial 107, 3) := by decide +kernel
theorem dX11_addOperation_55 : decode cX11_addOperation 55 = .ok (.athrow, 1) := by decide +kernel
theorem dX11_addOperation_56 : decode cX11_addOperation 56 = .ok (.aload_n 0, 1) := by decide +kernel
theorem dX11_addOperation_57 : decode cX11_addOperation 57 = .ok (.getfield 10, 3) := by decide +kernel
theorem dX11_addOperation_60 : decode cX11_addOperation 60 = .ok (.iload_n 1, 1) := by decide +kernel
theorem dX11_addOperation_61 : decode cX11_addOperation 61 = .ok (.iload_n 2, 1) := by decide +kernel
theorem dX11_addOperation_62 : decode cX11_addOperation 62 = .ok (.iload_n 3, 1) := by decide +kernel
theorem dX11_addOperation_63 : decode cX11_addOperation 63 = .ok (.iload 4, 2) := by decide +kernel
theorem dX11_addOperation_65 : decode cX11_addOperation 65 = .ok (.invokevirtual 134, 3) := by decide +kernel
theorem dX11_addOperation_68 : decode cX11_addOperation 68 = .ok (.ireturn, 1) := by decide +kernel
theorem dX11_setJob_0 : decode cX11_setJob 0 = .ok (.aload_n 0, 1) := by decide +kernel
theorem dX11_setJob_1 : decode cX11_setJob 1 = .ok (.iload_n 1, 1) := by decide +kernel
theorem dX11_setJob_2 : decode cX11_setJob 2 = .ok (.invokevirtual 112, 3) := by decide +kernel
theorem dX11_setJob_5 : decode cX11_setJob 5 = .ok (.iload_n 2, 1) := by decide +kernel
theorem dX11_setJob_6 : decode cX11_setJob 6 = .ok (.iconst 2, 1) := by decide +kernel
theorem dX11_setJob_7 : decode cX11_setJob 7 = .ok (.invokestatic 138, 3) := by decide +kernel
theorem dX11_setJob_10 : decode cX11_setJob 10 = .ok (.ifCond .eq 15, 3) := by decide +kernel
theorem dX11_setJob_13 : decode cX11_setJob 13 = .ok (.iload_n 3, 1) := by decide +kernel
theorem dX11_setJob_14 : decode cX11_setJob 14 = .ok (.getstatic 141, 3) := by decide +kernel
theorem dX11_setJob_17 : decode cX11_setJob 17 = .ok (.iload_n 2, 1) := by decide +kernel
theorem dX11_setJob_18 : decode cX11_setJob 18 = .ok (.iaload, 1) := by decide +kernel
theorem dX11_setJob_19 : decode cX11_setJob 19 = .ok (.invokestatic 138, 3) := by decide +kernel
theorem dX11_setJob_22 : decode cX11_setJob 22 = .ok (.ifCond .ne 13, 3) := by decide +kernel
theorem dX11_setJob_25 : decode cX11_setJob 25 = .ok (.new 92, 3) := by decide +kernel
theorem dX11_setJob_28 : decode cX11_setJob 28 = .ok (.dup, 1) := by decide +kernel
theorem dX11_setJob_29 : decode cX11_setJob 29 = .ok (.ldc 145, 2) := by decide +kernel
theorem dX11_setJob_31 : decode cX11_setJob 31 = .ok (.invokespecial 96, 3) := by decide +kernel
theorem dX11_setJob_34 : decode cX11_setJob 34 = .ok (.athrow, 1) := by decide +kernel
theorem dX11_setJob_35 : decode cX11_setJob 35 = .ok (.aload_n 0, 1) := by decide +kernel
theorem dX11_setJob_36 : decode cX11_setJob 36 = .ok (.getfield 10, 3) := by decide +kernel
theorem dX11_setJob_39 : decode cX11_setJob 39 = .ok (.getfield 147, 3) := by decide +kernel
theorem dX11_setJob_42 : decode cX11_setJob 42 = .ok (.iload_n 1, 1) := by decide +kernel
theorem dX11_setJob_43 : decode cX11_setJob 43 = .ok (.aaload, 1) := by decide +kernel
theorem dX11_setJob_44 : decode cX11_setJob 44 = .ok (.iload_n 2, 1) := by decide +kernel
theorem dX11_setJob_45 : decode cX11_setJob 45 = .ok (.iaload, 1) := by decide +kernel
theorem dX11_setJob_46 : decode cX11_setJob 46 = .ok (.istore 4, 2) := by decide +kernel
theorem dX11_setJob_48 : decode cX11_setJob 48 = .ok (.aload_n 0, 1) := by decide +kernel
theorem dX11_setJob_49 : decode cX11_setJob 49 = .ok (.getfield 10, 3) := by decide +kernel
theorem dX11_setJob_52 : decode cX11_setJob 52 = .ok (.getfield 147, 3) := by decide +kernel
theorem dX11_setJob_55 : decode cX11_setJob 55 = .ok (.iload_n 1, 1) := by decide +kernel
theorem dX11_setJob_56 : decode cX11_setJob 56 = .ok (.aaload, 1) := by decide +kernel
theorem dX11_setJob_57 : decode cX11_setJob 57 = .ok (.iload_n 2, 1) := by decide +kernel
theorem dX11_setJob_58 : decode cX11_setJob 58 = .ok (.iload_n 3, 1) := by decide +kernel
theorem dX11_setJob_59 : decode cX11_setJob 59 = .ok (.iastore, 1) := by decide +kernel
theorem dX11_setJob_60 : decode cX11_setJob 60 = .ok (.iload 4, 2) := by decide +kernel
theorem dX11_setJob_62 : decode cX11_setJob 62 = .ok (.ireturn, 1) := by decide +kernel
theorem dX11_setDuration_0 : decode cX11_setDuration 0 = .ok (.aload_n 0, 1) := by decide +kernel
theorem dX11_setDuration_1 : decode cX11_setDuration 1 = .ok (.iload_n 1, 1) := by decide +kernel
theorem dX11_setDuration_2 : decode cX11_setDuration 2 = .ok (.invokevirtual 151, 3) := by decide +kernel
theorem dX11_setDuration_5 : decode cX11_setDuration 5 = .ok (.iload_n 2, 1) := by decide +kernel
theorem dX11_setDuration_6 : decode cX11_setDuration 6 = .ok (.invokestatic 119, 3) := by decide +kernel
theorem dX11_setDuration_9 : decode cX11_setDuration 9 = .ok (.ifCond .ne 13, 3) := by decide +kernel
theorem dX11_setDuration_12 : decode cX11_setDuration 12 = .ok (.new 92, 3) := by decide +kernel
theorem dX11_setDuration_15 : decode cX11_setDuration 15 = .ok (.dup, 1) := by decide +kernel
theorem dX11_setDuration_16 : decode cX11_setDuration 16 = .ok (.ldc 154, 2) := by decide +kernel
theorem dX11_setDuration_18 : decode cX11_setDuration 18 = .ok (.invokespecial 96, 3) := by decide +kernel
theorem dX11_setDuration_21 : decode cX11_setDuration 21 = .ok (.athrow, 1) := by decide +kernel
theorem dX11_setDuration_22 : decode cX11_setDuration 22 = .ok (.aload_n 0, 1) := by decide +kernel
theorem dX11_setDuration_23 : decode cX11_setDuration 23 = .ok (.getfield 10, 3) := by decide +kernel
theorem dX11_setDuration_26 : decode cX11_setDuration 26 = .ok (.getfield 156, 3) := by decide +kernel
theorem dX11_setDuration_29 : decode cX11_setDuration 29 = .ok (.iload_n 1, 1) := by decide +kernel
theorem dX11_setDuration_30 : decode cX11_setDuration 30 = .ok (.iaload, 1) := by decide +kernel
theorem dX11_setDuration_31 : decode cX11_setDuration 31 = .ok (.istore_n 3, 1) := by decide +kernel
theorem dX11_setDuration_32 : decode cX11_setDuration 32 = .ok (.aload_n 0, 1) := by decide +kernel
theorem dX11_setDuration_33 : decode cX11_setDuration 33 = .ok (.getfield 10, 3) := by decide +kernel
theorem dX11_setDuration_36 : decode cX11_setDuration 36 = .ok (.getfield 156, 3) := by decide +kernel
theorem dX11_setDuration_39 : decode cX11_setDuration 39 = .ok (.iload_n 1, 1) := by decide +kernel
theorem dX11_setDuration_40 : decode cX11_setDuration 40 = .ok (.iload_n 2, 1) := by decide +kernel
theorem dX11_setDuration_41 : decode cX11_setDuration 41 = .ok (.iastore, 1) := by decide +kernel
theorem dX11_setDuration_42 : decode cX11_setDuration 42 = .ok (.iload_n 3, 1) := by decide +kernel
theorem dX11_setDuration_43 : decode cX11_setDuration 43 = .ok (.ireturn, 1) := by decide +kernel
theorem dX11_setSetup_0 : decode cX11_setSetup 0 = .ok (.iload_n 1, 1) := by decide +kernel
theorem dX11_setSetup_1 : decode cX11_setSetup 1 = .ok (.invokestatic 123, 3) := by decide +kernel
theorem dX11_setSetup_4 : decode cX11_setSetup 4 = .ok (.ifCond .eq 10, 3) := by decide +kernel
theorem dX11_setSetup_7 : decode cX11_setSetup 7 = .ok (.iload_n 2, 1) := by decide +kernel
theorem dX11_setSetup_8 : decode cX11_setSetup 8 = .ok (.invokestatic 123, 3) := by decide +kernel
theorem dX11_setSetup_11 : decode cX11_setSetup 11 = .ok (.ifCond .ne 13, 3) := by decide +kernel
theorem dX11_setSetup_14 : decode cX11_setSetup 14 = .ok (.new 159, 3) := by decide +kernel
theorem dX11_setSetup_17 : decode cX11_setSetup 17 = .ok (.dup, 1) := by decide +kernel
theorem dX11_setSetup_18 : decode cX11_setSetup 18 = .ok (.ldc 161, 2) := by decide +kernel
theorem dX11_setSetup_20 : decode cX11_setSetup 20 = .ok (.invokespecial 163, 3) := by decide +kernel
theorem dX11_setSetup_23 : decode cX11_setSetup 23 = .ok (.athrow, 1) := by decide +kernel
theorem dX11_setSetup_24 : decode cX11_setSetup 24 = .ok (.iload_n 3, 1) := by decide +kernel
theorem dX11_setSetup_25 : decode cX11_setSetup 25 = .ok (.bipush 9, 2) := by decide +kernel
theorem dX11_setSetup_27 : decode cX11_setSetup 27 = .ok (.invokestatic 138, 3) := by decide +kernel
theorem dX11_setSetup_30 : decode cX11_setSetup 30 = .ok (.ifCond .ne 13, 3) := by decide +kernel
theorem dX11_setSetup_33 : decode cX11_setSetup 33 = .ok (.new 92, 3) := by decide +kernel
theorem dX11_setSetup_36 : decode cX11_setSetup 36 = .ok (.dup, 1) := by decide +kernel
theorem dX11_setSetup_37 : decode cX11_setSetup 37 = .ok (.ldc 164, 2) := by decide +kernel
theorem dX11_setSetup_39 : decode cX11_setSetup 39 = .ok (.invokespecial 96, 3) := by decide +kernel
theorem dX11_setSetup_42 : decode cX11_setSetup 42 = .ok (.athrow, 1) := by decide +kernel
theorem dX11_setSetup_43 : decode cX11_setSetup 43 = .ok (.aload_n 0, 1) := by decide +kernel
theorem dX11_setSetup_44 : decode cX11_setSetup 44 = .ok (.getfield 10, 3) := by decide +kernel
theorem dX11_setSetup_47 : decode cX11_setSetup 47 = .ok (.getfield 166, 3) := by decide +kernel
theorem dX11_setSetup_50 : decode cX11_setSetup 50 = .ok (.iload_n 1, 1) := by decide +kernel
theorem dX11_setSetup_51 : decode cX11_setSetup 51 = .ok (.aaload, 1) := by decide +kernel
theorem dX11_setSetup_52 : decode cX11_setSetup 52 = .ok (.iload_n 2, 1) := by decide +kernel
theorem dX11_setSetup_53 : decode cX11_setSetup 53 = .ok (.iaload, 1) := by decide +kernel
theorem dX11_setSetup_54 : decode cX11_setSetup 54 = .ok (.istore 4, 2) := by decide +kernel
theorem dX11_setSetup_56 : decode cX11_setSetup 56 = .ok (.aload_n 0, 1) := by decide +kernel
theorem dX11_setSetup_57 : decode cX11_setSetup 57 = .ok (.getfield 10, 3) := by decide +kernel
theorem dX11_setSetup_60 : decode cX11_setSetup 60 = .ok (.getfield 166, 3) := by decide +kernel
theorem dX11_setSetup_63 : decode cX11_setSetup 63 = .ok (.iload_n 1, 1) := by decide +kernel
theorem dX11_setSetup_64 : decode cX11_setSetup 64 = .ok (.aaload, 1) := by decide +kernel
theorem dX11_setSetup_65 : decode cX11_setSetup 65 = .ok (.iload_n 2, 1) := by decide +kernel
theorem dX11_setSetup_66 : decode cX11_setSetup 66 = .ok (.iload_n 3, 1) := by decide +kernel
theorem dX11_setSetup_67 : decode cX11_setSetup 67 = .ok (.iastore, 1) := by decide +kernel
theorem dX11_setSetup_68 : decode cX11_setSetup 68 = .ok (.iload 4, 2) := by decide +kernel
theorem dX11_setSetup_70 : decode cX11_setSetup 70 = .ok (.ireturn, 1) := by decide +kernel
theorem dX11_addBreakdown_0 : decode cX11_addBreakdown 0 = .ok (.iload_n 1, 1) := by decide +kernel
theorem dX11_addBreakdown_1 : decode cX11_addBreakdown 1 = .ok (.invokestatic 116, 3) := by decide +kernel
theorem dX11_addBreakdown_4 : decode cX11_addBreakdown 4 = .ok (.iload_n 2, 1) := by decide +kernel
theorem dX11_addBreakdown_5 : decode cX11_addBreakdown 5 = .ok (.sipush 400, 3) := by decide +kernel
theorem dX11_addBreakdown_8 : decode cX11_addBreakdown 8 = .ok (.invokestatic 138, 3) := by decide +kernel
theorem dX11_addBreakdown_11 : decode cX11_addBreakdown 11 = .ok (.ifCond .eq 14, 3) := by decide +kernel
theorem dX11_addBreakdown_14 : decode cX11_addBreakdown 14 = .ok (.iload_n 3, 1) := by decide +kernel
theorem dX11_addBreakdown_15 : decode cX11_addBreakdown 15 = .ok (.iconst 1, 1) := by decide +kernel
theorem dX11_addBreakdown_16 : decode cX11_addBreakdown 16 = .ok (.if_icmp .lt 9, 3) := by decide +kernel
theorem dX11_addBreakdown_19 : decode cX11_addBreakdown 19 = .ok (.iload_n 3, 1) := by decide +kernel
theorem dX11_addBreakdown_20 : decode cX11_addBreakdown 20 = .ok (.bipush 60, 2) := by decide +kernel
theorem dX11_addBreakdown_22 : decode cX11_addBreakdown 22 = .ok (.if_icmp .le 13, 3) := by decide +kernel
theorem dX11_addBreakdown_25 : decode cX11_addBreakdown 25 = .ok (.new 92, 3) := by decide +kernel
theorem dX11_addBreakdown_28 : decode cX11_addBreakdown 28 = .ok (.dup, 1) := by decide +kernel
theorem dX11_addBreakdown_29 : decode cX11_addBreakdown 29 = .ok (.ldc 169, 2) := by decide +kernel
theorem dX11_addBreakdown_31 : decode cX11_addBreakdown 31 = .ok (.invokespecial 96, 3) := by decide +kernel
theorem dX11_addBreakdown_34 : decode cX11_addBreakdown 34 = .ok (.athrow, 1) := by decide +kernel
theorem dX11_addBreakdown_35 : decode cX11_addBreakdown 35 = .ok (.aload_n 0, 1) := by decide +kernel
theorem dX11_addBreakdown_36 : decode cX11_addBreakdown 36 = .ok (.getfield 10, 3) := by decide +kernel
theorem dX11_addBreakdown_39 : decode cX11_addBreakdown 39 = .ok (.getfield 171, 3) := by decide +kernel
theorem dX11_addBreakdown_42 : decode cX11_addBreakdown 42 = .ok (.iload_n 1, 1) := by decide +kernel
theorem dX11_addBreakdown_43 : decode cX11_addBreakdown 43 = .ok (.iaload, 1) := by decide +kernel
theorem dX11_addBreakdown_44 : decode cX11_addBreakdown 44 = .ok (.iconst 3, 1) := by decide +kernel
theorem dX11_addBreakdown_45 : decode cX11_addBreakdown 45 = .ok (.if_icmp .lt 13, 3) := by decide +kernel
theorem dX11_addBreakdown_48 : decode cX11_addBreakdown 48 = .ok (.new 103, 3) := by decide +kernel
theorem dX11_addBreakdown_51 : decode cX11_addBreakdown 51 = .ok (.dup, 1) := by decide +kernel
theorem dX11_addBreakdown_52 : decode cX11_addBreakdown 52 = .ok (.ldc 174, 2) := by decide +kernel
theorem dX11_addBreakdown_54 : decode cX11_addBreakdown 54 = .ok (.invokespecial 107, 3) := by decide +kernel
theorem dX11_addBreakdown_57 : decode cX11_addBreakdown 57 = .ok (.athrow, 1) := by decide +kernel
theorem dX11_addBreakdown_58 : decode cX11_addBreakdown 58 = .ok (.aload_n 0, 1) := by decide +kernel
theorem dX11_addBreakdown_59 : decode cX11_addBreakdown 59 = .ok (.getfield 10, 3) := by decide +kernel
theorem dX11_addBreakdown_62 : decode cX11_addBreakdown 62 = .ok (.iload_n 1, 1) := by decide +kernel
theorem dX11_addBreakdown_63 : decode cX11_addBreakdown 63 = .ok (.iload_n 2, 1) := by decide +kernel
theorem dX11_addBreakdown_64 : decode cX11_addBreakdown 64 = .ok (.iload_n 3, 1) := by decide +kernel
theorem dX11_addBreakdown_65 : decode cX11_addBreakdown 65 = .ok (.invokevirtual 176, 3) := by decide +kernel
theorem dX11_addBreakdown_68 : decode cX11_addBreakdown 68 = .ok (.ireturn, 1) := by decide +kernel
theorem dX11_clearBreakdowns_0 : decode cX11_clearBreakdowns 0 = .ok (.iload_n 1, 1) := by decide +kernel
theorem dX11_clearBreakdowns_1 : decode cX11_clearBreakdowns 1 = .ok (.invokestatic 116, 3) := by decide +kernel
theorem dX11_clearBreakdowns_4 : decode cX11_clearBreakdowns 4 = .ok (.aload_n 0, 1) := by decide +kernel
theorem dX11_clearBreakdowns_5 : decode cX11_clearBreakdowns 5 = .ok (.getfield 10, 3) := by decide +kernel
theorem dX11_clearBreakdowns_8 : decode cX11_clearBreakdowns 8 = .ok (.getfield 171, 3) := by decide +kernel
theorem dX11_clearBreakdowns_11 : decode cX11_clearBreakdowns 11 = .ok (.iload_n 1, 1) := by decide +kernel
theorem dX11_clearBreakdowns_12 : decode cX11_clearBreakdowns 12 = .ok (.iaload, 1) := by decide +kernel
theorem dX11_clearBreakdowns_13 : decode cX11_clearBreakdowns 13 = .ok (.istore_n 2, 1) := by decide +kernel
theorem dX11_clearBreakdowns_14 : decode cX11_clearBreakdowns 14 = .ok (.aload_n 0, 1) := by decide +kernel
theorem dX11_clearBreakdowns_15 : decode cX11_clearBreakdowns 15 = .ok (.getfield 10, 3) := by decide +kernel
theorem dX11_clearBreakdowns_18 : decode cX11_clearBreakdowns 18 = .ok (.getfield 171, 3) := by decide +kernel
theorem dX11_clearBreakdowns_21 : decode cX11_clearBreakdowns 21 = .ok (.iload_n 1, 1) := by decide +kernel
theorem dX11_clearBreakdowns_22 : decode cX11_clearBreakdowns 22 = .ok (.iconst 0, 1) := by decide +kernel
theorem dX11_clearBreakdowns_23 : decode cX11_clearBreakdowns 23 = .ok (.iastore, 1) := by decide +kernel
theorem dX11_clearBreakdowns_24 : decode cX11_clearBreakdowns 24 = .ok (.iload_n 2, 1) := by decide +kernel
theorem dX11_clearBreakdowns_25 : decode cX11_clearBreakdowns 25 = .ok (.ireturn, 1) := by decide +kernel
theorem dX11_count_0 : decode cX11_count 0 = .ok (.iload_n 1, 1) := by decide +kernel
theorem dX11_count_1 : decode cX11_count 1 = .ok (.iconst 1, 1) := by decide +kernel
theorem dX11_count_2 : decode cX11_count 2 = .ok (.invokestatic 138, 3) := by decide +kernel
theorem dX11_count_5 : decode cX11_count 5 = .ok (.ifCond .ne 13, 3) := by decide +kernel
theorem dX11_count_8 : decode cX11_count 8 = .ok (.new 92, 3) := by decide +kernel
theorem dX11_count_11 : decode cX11_count 11 = .ok (.dup, 1) := by decide +kernel
theorem dX11_count_12 : decode cX11_count 12 = .ok (.ldc 179, 2) := by decide +kernel
theorem dX11_count_14 : decode cX11_count 14 = .ok (.invokespecial 96, 3) := by decide +kernel
theorem dX11_count_17 : decode cX11_count 17 = .ok (.athrow, 1) := by decide +kernel
theorem dX11_count_18 : decode cX11_count 18 = .ok (.iload_n 1, 1) := by decide +kernel
theorem dX11_count_19 : decode cX11_count 19 = .ok (.ifCond .ne 13, 3) := by decide +kernel
theorem dX11_count_22 : decode cX11_count 22 = .ok (.aload_n 0, 1) := by decide +kernel
theorem dX11_count_23 : decode cX11_count 23 = .ok (.getfield 10, 3) := by decide +kernel
theorem dX11_count_26 : decode cX11_count 26 = .ok (.getfield 99, 3) := by decide +kernel
theorem dX11_count_29 : decode cX11_count 29 = .ok (.goto 10, 3) := by decide +kernel
theorem dX11_count_32 : decode cX11_count 32 = .ok (.aload_n 0, 1) := by decide +kernel
theorem dX11_count_33 : decode cX11_count 33 = .ok (.getfield 10, 3) := by decide +kernel
theorem dX11_count_36 : decode cX11_count 36 = .ok (.getfield 181, 3) := by decide +kernel
theorem dX11_count_39 : decode cX11_count 39 = .ok (.ireturn, 1) := by decide +kernel
theorem dX11_property_0 : decode cX11_property 0 = .ok (.aload_n 0, 1) := by decide +kernel
theorem dX11_property_1 : decode cX11_property 1 = .ok (.iload_n 1, 1) := by decide +kernel
theorem dX11_property_2 : decode cX11_property 2 = .ok (.invokevirtual 151, 3) := by decide +kernel
theorem dX11_property_5 : decode cX11_property 5 = .ok (.iload_n 2, 1) := by decide +kernel
theorem dX11_property_6 : decode cX11_property 6 = .ok (.tableswitch 109 0 5 #[38, 48, 58, 68, 78, 88], 38) := by decide +kernel
theorem dX11_property_44 : decode cX11_property 44 = .ok (.aload_n 0, 1) := by decide +kernel
theorem dX11_property_45 : decode cX11_property 45 = .ok (.getfield 10, 3) := by decide +kernel
theorem dX11_property_48 : decode cX11_property 48 = .ok (.getfield 184, 3) := by decide +kernel
theorem dX11_property_51 : decode cX11_property 51 = .ok (.iload_n 1, 1) := by decide +kernel
theorem dX11_property_52 : decode cX11_property 52 = .ok (.iaload, 1) := by decide +kernel
theorem dX11_property_53 : decode cX11_property 53 = .ok (.ireturn, 1) := by decide +kernel
theorem dX11_property_54 : decode cX11_property 54 = .ok (.aload_n 0, 1) := by decide +kernel
theorem dX11_property_55 : decode cX11_property 55 = .ok (.getfield 10, 3) := by decide +kernel
theorem dX11_property_58 : decode cX11_property 58 = .ok (.getfield 187, 3) := by decide +kernel
theorem dX11_property_61 : decode cX11_property 61 = .ok (.iload_n 1, 1) := by decide +kernel
theorem dX11_property_62 : decode cX11_property 62 = .ok (.iaload, 1) := by decide +kernel
theorem dX11_property_63 : decode cX11_property 63 = .ok (.ireturn, 1) := by decide +kernel
theorem dX11_property_64 : decode cX11_property 64 = .ok (.aload_n 0, 1) := by decide +kernel
theorem dX11_property_65 : decode cX11_property 65 = .ok (.getfield 10, 3) := by decide +kernel
theorem dX11_property_68 : decode cX11_property 68 = .ok (.getfield 156, 3) := by decide +kernel
theorem dX11_property_71 : decode cX11_property 71 = .ok (.iload_n 1, 1) := by decide +kernel
theorem dX11_property_72 : decode cX11_property 72 = .ok (.iaload, 1) := by decide +kernel
theorem dX11_property_73 : decode cX11_property 73 = .ok (.ireturn, 1) := by decide +kernel
theorem dX11_property_74 : decode cX11_property 74 = .ok (.aload_n 0, 1) := by decide +kernel
theorem dX11_property_75 : decode cX11_property 75 = .ok (.getfield 10, 3) := by decide +kernel
theorem dX11_property_78 : decode cX11_property 78 = .ok (.getfield 190, 3) := by decide +kernel
theorem dX11_property_81 : decode cX11_property 81 = .ok (.iload_n 1, 1) := by decide +kernel
theorem dX11_property_82 : decode cX11_property 82 = .ok (.iaload, 1) := by decide +kernel
theorem dX11_property_83 : decode cX11_property 83 = .ok (.ireturn, 1) := by decide +kernel
theorem dX11_property_84 : decode cX11_property 84 = .ok (.aload_n 0, 1) := by decide +kernel
theorem dX11_property_85 : decode cX11_property 85 = .ok (.getfield 10, 3) := by decide +kernel
theorem dX11_property_88 : decode cX11_property 88 = .ok (.getfield 193, 3) := by decide +kernel
theorem dX11_property_91 : decode cX11_property 91 = .ok (.iload_n 1, 1) := by decide +kernel
theorem dX11_property_92 : decode cX11_property 92 = .ok (.iaload, 1) := by decide +kernel
theorem dX11_property_93 : decode cX11_property 93 = .ok (.ireturn, 1) := by decide +kernel
theorem dX11_property_94 : decode cX11_property 94 = .ok (.aload_n 0, 1) := by decide +kernel
theorem dX11_property_95 : decode cX11_property 95 = .ok (.getfield 10, 3) := by decide +kernel
theorem dX11_property_98 : decode cX11_property 98 = .ok (.getfield 196, 3) := by decide +kernel
theorem dX11_property_101 : decode cX11_property 101 = .ok (.aload_n 0, 1) := by decide +kernel
theorem dX11_property_102 : decode cX11_property 102 = .ok (.getfield 10, 3) := by decide +kernel
theorem dX11_property_105 : decode cX11_property 105 = .ok (.getfield 187, 3) := by decide +kernel
theorem dX11_property_108 : decode cX11_property 108 = .ok (.iload_n 1, 1) := by decide +kernel
theorem dX11_property_109 : decode cX11_property 109 = .ok (.iaload, 1) := by decide +kernel
theorem dX11_property_110 : decode cX11_property 110 = .ok (.iload_n 1, 1) := by decide +kernel
theorem dX11_property_111 : decode cX11_property 111 = .ok (.invokevirtual 200, 3) := by decide +kernel
theorem dX11_property_114 : decode cX11_property 114 = .ok (.ireturn, 1) := by decide +kernel
theorem dX11_property_115 : decode cX11_property 115 = .ok (.new 92, 3) := by decide +kernel
theorem dX11_property_118 : decode cX11_property 118 = .ok (.dup, 1) := by decide +kernel
theorem dX11_property_119 : decode cX11_property 119 = .ok (.ldc 206, 2) := by decide +kernel
theorem dX11_property_121 : decode cX11_property 121 = .ok (.invokespecial 96, 3) := by decide +kernel
theorem dX11_property_124 : decode cX11_property 124 = .ok (.athrow, 1) := by decide +kernel
theorem dX11_order_0 : decode cX11_order 0 = .ok (.iload_n 1, 1) := by decide +kernel
theorem dX11_order_1 : decode cX11_order 1 = .ok (.invokestatic 116, 3) := by decide +kernel
theorem dX11_order_4 : decode cX11_order 4 = .ok (.aload_n 0, 1) := by decide +kernel
theorem dX11_order_5 : decode cX11_order 5 = .ok (.getfield 10, 3) := by decide +kernel
theorem dX11_order_8 : decode cX11_order 8 = .ok (.getfield 196, 3) := by decide +kernel
theorem dX11_order_11 : decode cX11_order 11 = .ok (.iload_n 1, 1) := by decide +kernel
theorem dX11_order_12 : decode cX11_order 12 = .ok (.iload_n 2, 1) := by decide +kernel
theorem dX11_order_13 : decode cX11_order 13 = .ok (.invokevirtual 208, 3) := by decide +kernel
theorem dX11_order_16 : decode cX11_order 16 = .ok (.ifCond .ne 13, 3) := by decide +kernel
theorem dX11_order_19 : decode cX11_order 19 = .ok (.new 211, 3) := by decide +kernel
theorem dX11_order_22 : decode cX11_order 22 = .ok (.dup, 1) := by decide +kernel
theorem dX11_order_23 : decode cX11_order 23 = .ok (.ldc 213, 2) := by decide +kernel
theorem dX11_order_25 : decode cX11_order 25 = .ok (.invokespecial 215, 3) := by decide +kernel
theorem dX11_order_28 : decode cX11_order 28 = .ok (.athrow, 1) := by decide +kernel
theorem dX11_order_29 : decode cX11_order 29 = .ok (.aload_n 0, 1) := by decide +kernel
theorem dX11_order_30 : decode cX11_order 30 = .ok (.getfield 10, 3) := by decide +kernel
theorem dX11_order_33 : decode cX11_order 33 = .ok (.getfield 196, 3) := by decide +kernel
theorem dX11_order_36 : decode cX11_order 36 = .ok (.getfield 216, 3) := by decide +kernel
theorem dX11_order_39 : decode cX11_order 39 = .ok (.iload_n 1, 1) := by decide +kernel
theorem dX11_order_40 : decode cX11_order 40 = .ok (.aaload, 1) := by decide +kernel
theorem dX11_order_41 : decode cX11_order 41 = .ok (.iload_n 2, 1) := by decide +kernel
theorem dX11_order_42 : decode cX11_order 42 = .ok (.iaload, 1) := by decide +kernel
theorem dX11_order_43 : decode cX11_order 43 = .ok (.ireturn, 1) := by decide +kernel
theorem dX11_time_0 : decode cX11_time 0 = .ok (.aload_n 0, 1) := by decide +kernel
theorem dX11_time_1 : decode cX11_time 1 = .ok (.iload_n 1, 1) := by decide +kernel
theorem dX11_time_2 : decode cX11_time 2 = .ok (.invokevirtual 151, 3) := by decide +kernel
theorem dX11_time_5 : decode cX11_time 5 = .ok (.iload_n 2, 1) := by decide +kernel
theorem dX11_time_6 : decode cX11_time 6 = .ok (.iconst 2, 1) := by decide +kernel
theorem dX11_time_7 : decode cX11_time 7 = .ok (.invokestatic 138, 3) := by decide +kernel
theorem dX11_time_10 : decode cX11_time 10 = .ok (.ifCond .ne 13, 3) := by decide +kernel
theorem dX11_time_13 : decode cX11_time 13 = .ok (.new 92, 3) := by decide +kernel
theorem dX11_time_16 : decode cX11_time 16 = .ok (.dup, 1) := by decide +kernel
theorem dX11_time_17 : decode cX11_time 17 = .ok (.ldc 219, 2) := by decide +kernel
theorem dX11_time_19 : decode cX11_time 19 = .ok (.invokespecial 96, 3) := by decide +kernel
theorem dX11_time_22 : decode cX11_time 22 = .ok (.athrow, 1) := by decide +kernel
theorem dX11_time_23 : decode cX11_time 23 = .ok (.aload_n 0, 1) := by decide +kernel
theorem dX11_time_24 : decode cX11_time 24 = .ok (.getfield 25, 3) := by decide +kernel
theorem dX11_time_27 : decode cX11_time 27 = .ok (.aload_n 0, 1) := by decide +kernel
theorem dX11_time_28 : decode cX11_time 28 = .ok (.getfield 10, 3) := by decide +kernel
theorem dX11_time_31 : decode cX11_time 31 = .ok (.invokevirtual 221, 3) := by decide +kernel
theorem dX11_time_34 : decode cX11_time 34 = .ok (.pop, 1) := by decide +kernel
theorem dX11_time_35 : decode cX11_time 35 = .ok (.iload_n 2, 1) := by decide +kernel
theorem dX11_time_36 : decode cX11_time 36 = .ok (.ifCond .ne 13, 3) := by decide +kernel
theorem dX11_time_39 : decode cX11_time 39 = .ok (.aload_n 0, 1) := by decide +kernel
theorem dX11_time_40 : decode cX11_time 40 = .ok (.getfield 25, 3) := by decide +kernel
theorem dX11_time_43 : decode cX11_time 43 = .ok (.getfield 225, 3) := by decide +kernel
theorem dX11_time_46 : decode cX11_time 46 = .ok (.iload_n 1, 1) := by decide +kernel
theorem dX11_time_47 : decode cX11_time 47 = .ok (.iaload, 1) := by decide +kernel
theorem dX11_time_48 : decode cX11_time 48 = .ok (.ireturn, 1) := by decide +kernel
theorem dX11_time_49 : decode cX11_time 49 = .ok (.iload_n 2, 1) := by decide +kernel
theorem dX11_time_50 : decode cX11_time 50 = .ok (.iconst 1, 1) := by decide +kernel
theorem dX11_time_51 : decode cX11_time 51 = .ok (.if_icmp .ne 15, 3) := by decide +kernel
theorem dX11_time_54 : decode cX11_time 54 = .ok (.aload_n 0, 1) := by decide +kernel
theorem dX11_time_55 : decode cX11_time 55 = .ok (.getfield 25, 3) := by decide +kernel
theorem dX11_time_58 : decode cX11_time 58 = .ok (.getfield 228, 3) := by decide +kernel
theorem dX11_time_61 : decode cX11_time 61 = .ok (.iload_n 1, 1) := by decide +kernel
theorem dX11_time_62 : decode cX11_time 62 = .ok (.iaload, 1) := by decide +kernel
theorem dX11_time_63 : decode cX11_time 63 = .ok (.goto 12, 3) := by decide +kernel
theorem dX11_time_66 : decode cX11_time 66 = .ok (.aload_n 0, 1) := by decide +kernel
theorem dX11_time_67 : decode cX11_time 67 = .ok (.getfield 25, 3) := by decide +kernel
theorem dX11_time_70 : decode cX11_time 70 = .ok (.getfield 231, 3) := by decide +kernel
theorem dX11_time_73 : decode cX11_time 73 = .ok (.iload_n 1, 1) := by decide +kernel
theorem dX11_time_74 : decode cX11_time 74 = .ok (.iaload, 1) := by decide +kernel
theorem dX11_time_75 : decode cX11_time 75 = .ok (.ireturn, 1) := by decide +kernel
theorem dX11_makespan_0 : decode cX11_makespan 0 = .ok (.aload_n 0, 1) := by decide +kernel
theorem dX11_makespan_1 : decode cX11_makespan 1 = .ok (.invokevirtual 234, 3) := by decide +kernel
theorem dX11_makespan_4 : decode cX11_makespan 4 = .ok (.ireturn, 1) := by decide +kernel
theorem dX11_slack_0 : decode cX11_slack 0 = .ok (.aload_n 0, 1) := by decide +kernel
theorem dX11_slack_1 : decode cX11_slack 1 = .ok (.iload_n 1, 1) := by decide +kernel
theorem dX11_slack_2 : decode cX11_slack 2 = .ok (.invokevirtual 151, 3) := by decide +kernel
theorem dX11_slack_5 : decode cX11_slack 5 = .ok (.aload_n 0, 1) := by decide +kernel
theorem dX11_slack_6 : decode cX11_slack 6 = .ok (.invokevirtual 234, 3) := by decide +kernel
theorem dX11_slack_9 : decode cX11_slack 9 = .ok (.istore_n 2, 1) := by decide +kernel
theorem dX11_slack_10 : decode cX11_slack 10 = .ok (.aload_n 0, 1) := by decide +kernel
theorem dX11_slack_11 : decode cX11_slack 11 = .ok (.getfield 25, 3) := by decide +kernel
theorem dX11_slack_14 : decode cX11_slack 14 = .ok (.getfield 228, 3) := by decide +kernel
theorem dX11_slack_17 : decode cX11_slack 17 = .ok (.iload_n 1, 1) := by decide +kernel
theorem dX11_slack_18 : decode cX11_slack 18 = .ok (.iaload, 1) := by decide +kernel
theorem dX11_slack_19 : decode cX11_slack 19 = .ok (.istore_n 3, 1) := by decide +kernel
theorem dX11_slack_20 : decode cX11_slack 20 = .ok (.iconst 1, 1) := by decide +kernel
theorem dX11_slack_21 : decode cX11_slack 21 = .ok (.istore 4, 2) := by decide +kernel
theorem dX11_slack_23 : decode cX11_slack 23 = .ok (.iload 4, 2) := by decide +kernel
theorem dX11_slack_25 : decode cX11_slack 25 = .ok (.bipush 60, 2) := by decide +kernel
theorem dX11_slack_27 : decode cX11_slack 27 = .ok (.if_icmp .gt 41, 3) := by decide +kernel
theorem dX11_slack_30 : decode cX11_slack 30 = .ok (.aload_n 0, 1) := by decide +kernel
theorem dX11_slack_31 : decode cX11_slack 31 = .ok (.getfield 29, 3) := by decide +kernel
theorem dX11_slack_34 : decode cX11_slack 34 = .ok (.aload_n 0, 1) := by decide +kernel
theorem dX11_slack_35 : decode cX11_slack 35 = .ok (.getfield 10, 3) := by decide +kernel
theorem dX11_slack_38 : decode cX11_slack 38 = .ok (.iload_n 1, 1) := by decide +kernel
theorem dX11_slack_39 : decode cX11_slack 39 = .ok (.iload_n 3, 1) := by decide +kernel
theorem dX11_slack_40 : decode cX11_slack 40 = .ok (.iload 4, 2) := by decide +kernel
theorem dX11_slack_42 : decode cX11_slack 42 = .ok (.iadd, 1) := by decide +kernel
theorem dX11_slack_43 : decode cX11_slack 43 = .ok (.invokevirtual 238, 3) := by decide +kernel
theorem dX11_slack_46 : decode cX11_slack 46 = .ok (.aload_n 0, 1) := by decide +kernel
theorem dX11_slack_47 : decode cX11_slack 47 = .ok (.getfield 29, 3) := by decide +kernel
theorem dX11_slack_50 : decode cX11_slack 50 = .ok (.getfield 242, 3) := by decide +kernel
theorem dX11_slack_53 : decode cX11_slack 53 = .ok (.iload_n 2, 1) := by decide +kernel
theorem dX11_slack_54 : decode cX11_slack 54 = .ok (.if_icmp .eq 8, 3) := by decide +kernel
theorem dX11_slack_57 : decode cX11_slack 57 = .ok (.iload 4, 2) := by decide +kernel
theorem dX11_slack_59 : decode cX11_slack 59 = .ok (.iconst 1, 1) := by decide +kernel
theorem dX11_slack_60 : decode cX11_slack 60 = .ok (.isub, 1) := by decide +kernel
theorem dX11_slack_61 : decode cX11_slack 61 = .ok (.ireturn, 1) := by decide +kernel
theorem dX11_slack_62 : decode cX11_slack 62 = .ok (.iinc 4 1, 3) := by decide +kernel
theorem dX11_slack_65 : decode cX11_slack 65 = .ok (.goto (-42), 3) := by decide +kernel
theorem dX11_slack_68 : decode cX11_slack 68 = .ok (.bipush 60, 2) := by decide +kernel
theorem dX11_slack_70 : decode cX11_slack 70 = .ok (.ireturn, 1) := by decide +kernel
theorem dX11_completion_0 : decode cX11_completion 0 = .ok (.aload_n 0, 1) := by decide +kernel
theorem dX11_completion_1 : decode cX11_completion 1 = .ok (.iload_n 1, 1) := by decide +kernel
theorem dX11_completion_2 : decode cX11_completion 2 = .ok (.invokevirtual 112, 3) := by decide +kernel
theorem dX11_completion_5 : decode cX11_completion 5 = .ok (.aload_n 0, 1) := by decide +kernel
theorem dX11_completion_6 : decode cX11_completion 6 = .ok (.getfield 25, 3) := by decide +kernel
theorem dX11_completion_9 : decode cX11_completion 9 = .ok (.aload_n 0, 1) := by decide +kernel
theorem dX11_completion_10 : decode cX11_completion 10 = .ok (.getfield 10, 3) := by decide +kernel
theorem dX11_completion_13 : decode cX11_completion 13 = .ok (.invokevirtual 221, 3) := by decide +kernel
theorem dX11_completion_16 : decode cX11_completion 16 = .ok (.pop, 1) := by decide +kernel
theorem dX11_completion_17 : decode cX11_completion 17 = .ok (.aload_n 0, 1) := by decide +kernel
theorem dX11_completion_18 : decode cX11_completion 18 = .ok (.getfield 25, 3) := by decide +kernel
theorem dX11_completion_21 : decode cX11_completion 21 = .ok (.aload_n 0, 1) := by decide +kernel
theorem dX11_completion_22 : decode cX11_completion 22 = .ok (.getfield 10, 3) := by decide +kernel
theorem dX11_completion_25 : decode cX11_completion 25 = .ok (.iload_n 1, 1) := by decide +kernel
theorem dX11_completion_26 : decode cX11_completion 26 = .ok (.invokevirtual 245, 3) := by decide +kernel
theorem dX11_completion_29 : decode cX11_completion 29 = .ok (.ireturn, 1) := by decide +kernel
theorem dX11_objective_0 : decode cX11_objective 0 = .ok (.aload_n 0, 1) := by decide +kernel
theorem dX11_objective_1 : decode cX11_objective 1 = .ok (.getfield 25, 3) := by decide +kernel
theorem dX11_objective_4 : decode cX11_objective 4 = .ok (.aload_n 0, 1) := by decide +kernel
theorem dX11_objective_5 : decode cX11_objective 5 = .ok (.getfield 10, 3) := by decide +kernel
theorem dX11_objective_8 : decode cX11_objective 8 = .ok (.invokevirtual 221, 3) := by decide +kernel
theorem dX11_objective_11 : decode cX11_objective 11 = .ok (.pop, 1) := by decide +kernel
theorem dX11_objective_12 : decode cX11_objective 12 = .ok (.iload_n 1, 1) := by decide +kernel
theorem dX11_objective_13 : decode cX11_objective 13 = .ok (.tableswitch 60 0 4 #[35, 40, 45, 50, 55], 35) := by decide +kernel
theorem dX11_objective_48 : decode cX11_objective 48 = .ok (.aload_n 0, 1) := by decide +kernel
theorem dX11_objective_49 : decode cX11_objective 49 = .ok (.invokevirtual 249, 3) := by decide +kernel
theorem dX11_objective_52 : decode cX11_objective 52 = .ok (.ireturn, 1) := by decide +kernel
theorem dX11_objective_53 : decode cX11_objective 53 = .ok (.aload_n 0, 1) := by decide +kernel
theorem dX11_objective_54 : decode cX11_objective 54 = .ok (.invokevirtual 252, 3) := by decide +kernel
theorem dX11_objective_57 : decode cX11_objective 57 = .ok (.ireturn, 1) := by decide +kernel
theorem dX11_objective_58 : decode cX11_objective 58 = .ok (.aload_n 0, 1) := by decide +kernel
theorem dX11_objective_59 : decode cX11_objective 59 = .ok (.invokevirtual 255, 3) := by decide +kernel
theorem dX11_objective_62 : decode cX11_objective 62 = .ok (.ireturn, 1) := by decide +kernel
theorem dX11_objective_63 : decode cX11_objective 63 = .ok (.aload_n 0, 1) := by decide +kernel
theorem dX11_objective_64 : decode cX11_objective 64 = .ok (.invokevirtual 258, 3) := by decide +kernel
theorem dX11_objective_67 : decode cX11_objective 67 = .ok (.ireturn, 1) := by decide +kernel
theorem dX11_objective_68 : decode cX11_objective 68 = .ok (.aload_n 0, 1) := by decide +kernel
theorem dX11_objective_69 : decode cX11_objective 69 = .ok (.invokevirtual 261, 3) := by decide +kernel
theorem dX11_objective_72 : decode cX11_objective 72 = .ok (.ireturn, 1) := by decide +kernel
theorem dX11_objective_73 : decode cX11_objective 73 = .ok (.new 92, 3) := by decide +kernel
theorem dX11_objective_76 : decode cX11_objective 76 = .ok (.dup, 1) := by decide +kernel
theorem dX11_objective_77 : decode cX11_objective 77 = .ok (.ldc_w 264, 3) := by decide +kernel
theorem dX11_objective_80 : decode cX11_objective 80 = .ok (.invokespecial 96, 3) := by decide +kernel
theorem dX11_objective_83 : decode cX11_objective 83 = .ok (.athrow, 1) := by decide +kernel
theorem dX11_utilization_0 : decode cX11_utilization 0 = .ok (.iload_n 1, 1) := by decide +kernel
theorem dX11_utilization_1 : decode cX11_utilization 1 = .ok (.invokestatic 116, 3) := by decide +kernel
theorem dX11_utilization_4 : decode cX11_utilization 4 = .ok (.aload_n 0, 1) := by decide +kernel
theorem dX11_utilization_5 : decode cX11_utilization 5 = .ok (.invokevirtual 234, 3) := by decide +kernel
theorem dX11_utilization_8 : decode cX11_utilization 8 = .ok (.istore_n 2, 1) := by decide +kernel
theorem dX11_utilization_9 : decode cX11_utilization 9 = .ok (.iload_n 2, 1) := by decide +kernel
theorem dX11_utilization_10 : decode cX11_utilization 10 = .ok (.ifCond .gt 5, 3) := by decide +kernel
theorem dX11_utilization_13 : decode cX11_utilization 13 = .ok (.dconst 0, 1) := by decide +kernel
theorem dX11_utilization_14 : decode cX11_utilization 14 = .ok (.dreturn, 1) := by decide +kernel
theorem dX11_utilization_15 : decode cX11_utilization 15 = .ok (.iconst 0, 1) := by decide +kernel
theorem dX11_utilization_16 : decode cX11_utilization 16 = .ok (.istore_n 3, 1) := by decide +kernel
theorem dX11_utilization_17 : decode cX11_utilization 17 = .ok (.iconst 0, 1) := by decide +kernel
theorem dX11_utilization_18 : decode cX11_utilization 18 = .ok (.istore 4, 2) := by decide +kernel
theorem dX11_utilization_20 : decode cX11_utilization 20 = .ok (.iload 4, 2) := by decide +kernel
theorem dX11_utilization_22 : decode cX11_utilization 22 = .ok (.aload_n 0, 1) := by decide +kernel
theorem dX11_utilization_23 : decode cX11_utilization 23 = .ok (.getfield 10, 3) := by decide +kernel
theorem dX11_utilization_26 : decode cX11_utilization 26 = .ok (.getfield 196, 3) := by decide +kernel
theorem dX11_utilization_29 : decode cX11_utilization 29 = .ok (.getfield 266, 3) := by decide +kernel
theorem dX11_utilization_32 : decode cX11_utilization 32 = .ok (.iload_n 1, 1) := by decide +kernel
theorem dX11_utilization_33 : decode cX11_utilization 33 = .ok (.iaload, 1) := by decide +kernel
theorem dX11_utilization_34 : decode cX11_utilization 34 = .ok (.if_icmp .ge 35, 3) := by decide +kernel
theorem dX11_utilization_37 : decode cX11_utilization 37 = .ok (.iload_n 3, 1) := by decide +kernel
theorem dX11_utilization_38 : decode cX11_utilization 38 = .ok (.aload_n 0, 1) := by decide +kernel
theorem dX11_utilization_39 : decode cX11_utilization 39 = .ok (.getfield 10, 3) := by decide +kernel
theorem dX11_utilization_42 : decode cX11_utilization 42 = .ok (.getfield 156, 3) := by decide +kernel
theorem dX11_utilization_45 : decode cX11_utilization 45 = .ok (.aload_n 0, 1) := by decide +kernel
theorem dX11_utilization_46 : decode cX11_utilization 46 = .ok (.getfield 10, 3) := by decide +kernel
theorem dX11_utilization_49 : decode cX11_utilization 49 = .ok (.getfield 196, 3) := by decide +kernel
theorem dX11_utilization_52 : decode cX11_utilization 52 = .ok (.getfield 216, 3) := by decide +kernel
theorem dX11_utilization_55 : decode cX11_utilization 55 = .ok (.iload_n 1, 1) := by decide +kernel
theorem dX11_utilization_56 : decode cX11_utilization 56 = .ok (.aaload, 1) := by decide +kernel
theorem dX11_utilization_57 : decode cX11_utilization 57 = .ok (.iload 4, 2) := by decide +kernel
theorem dX11_utilization_59 : decode cX11_utilization 59 = .ok (.iaload, 1) := by decide +kernel
theorem dX11_utilization_60 : decode cX11_utilization 60 = .ok (.iaload, 1) := by decide +kernel
theorem dX11_utilization_61 : decode cX11_utilization 61 = .ok (.iadd, 1) := by decide +kernel
theorem dX11_utilization_62 : decode cX11_utilization 62 = .ok (.istore_n 3, 1) := by decide +kernel
theorem dX11_utilization_63 : decode cX11_utilization 63 = .ok (.iinc 4 1, 3) := by decide +kernel
theorem dX11_utilization_66 : decode cX11_utilization 66 = .ok (.goto (-46), 3) := by decide +kernel
theorem dX11_utilization_69 : decode cX11_utilization 69 = .ok (.iload_n 3, 1) := by decide +kernel
theorem dX11_utilization_70 : decode cX11_utilization 70 = .ok (.i2d, 1) := by decide +kernel
theorem dX11_utilization_71 : decode cX11_utilization 71 = .ok (.iload_n 2, 1) := by decide +kernel
theorem dX11_utilization_72 : decode cX11_utilization 72 = .ok (.i2d, 1) := by decide +kernel
theorem dX11_utilization_73 : decode cX11_utilization 73 = .ok (.ddiv, 1) := by decide +kernel
theorem dX11_utilization_74 : decode cX11_utilization 74 = .ok (.dreturn, 1) := by decide +kernel
theorem dX11_pathLength_0 : decode cX11_pathLength 0 = .ok (.aload_n 0, 1) := by decide +kernel
theorem dX11_pathLength_1 : decode cX11_pathLength 1 = .ok (.invokevirtual 269, 3) := by decide +kernel
theorem dX11_pathLength_4 : decode cX11_pathLength 4 = .ok (.aload_n 0, 1) := by decide +kernel
theorem dX11_pathLength_5 : decode cX11_pathLength 5 = .ok (.getfield 35, 3) := by decide +kernel
theorem dX11_pathLength_8 : decode cX11_pathLength 8 = .ok (.getfield 272, 3) := by decide +kernel
theorem dX11_pathLength_11 : decode cX11_pathLength 11 = .ok (.ireturn, 1) := by decide +kernel
theorem dX11_path_0 : decode cX11_path 0 = .ok (.aload_n 0, 1) := by decide +kernel
theorem dX11_path_1 : decode cX11_path 1 = .ok (.invokevirtual 269, 3) := by decide +kernel
theorem dX11_path_4 : decode cX11_path 4 = .ok (.iload_n 1, 1) := by decide +kernel
theorem dX11_path_5 : decode cX11_path 5 = .ok (.ifCond .lt 14, 3) := by decide +kernel
theorem dX11_path_8 : decode cX11_path 8 = .ok (.iload_n 1, 1) := by decide +kernel
theorem dX11_path_9 : decode cX11_path 9 = .ok (.aload_n 0, 1) := by decide +kernel
theorem dX11_path_10 : decode cX11_path 10 = .ok (.getfield 35, 3) := by decide +kernel
theorem dX11_path_13 : decode cX11_path 13 = .ok (.getfield 272, 3) := by decide +kernel
theorem dX11_path_16 : decode cX11_path 16 = .ok (.if_icmp .lt 14, 3) := by decide +kernel
theorem dX11_path_19 : decode cX11_path 19 = .ok (.new 211, 3) := by decide +kernel
theorem dX11_path_22 : decode cX11_path 22 = .ok (.dup, 1) := by decide +kernel
theorem dX11_path_23 : decode cX11_path 23 = .ok (.ldc_w 275, 3) := by decide +kernel
theorem dX11_path_26 : decode cX11_path 26 = .ok (.invokespecial 215, 3) := by decide +kernel
theorem dX11_path_29 : decode cX11_path 29 = .ok (.athrow, 1) := by decide +kernel
theorem dX11_path_30 : decode cX11_path 30 = .ok (.aload_n 0, 1) := by decide +kernel
theorem dX11_path_31 : decode cX11_path 31 = .ok (.getfield 35, 3) := by decide +kernel
theorem dX11_path_34 : decode cX11_path 34 = .ok (.getfield 277, 3) := by decide +kernel
theorem dX11_path_37 : decode cX11_path 37 = .ok (.iload_n 1, 1) := by decide +kernel
theorem dX11_path_38 : decode cX11_path 38 = .ok (.iaload, 1) := by decide +kernel
theorem dX11_path_39 : decode cX11_path 39 = .ok (.ireturn, 1) := by decide +kernel
theorem dX11_blocks_0 : decode cX11_blocks 0 = .ok (.aload_n 0, 1) := by decide +kernel
theorem dX11_blocks_1 : decode cX11_blocks 1 = .ok (.invokevirtual 269, 3) := by decide +kernel
theorem dX11_blocks_4 : decode cX11_blocks 4 = .ok (.aload_n 0, 1) := by decide +kernel
theorem dX11_blocks_5 : decode cX11_blocks 5 = .ok (.getfield 35, 3) := by decide +kernel
theorem dX11_blocks_8 : decode cX11_blocks 8 = .ok (.getfield 279, 3) := by decide +kernel
theorem dX11_blocks_11 : decode cX11_blocks 11 = .ok (.ireturn, 1) := by decide +kernel
theorem dX11_blockLength_0 : decode cX11_blockLength 0 = .ok (.aload_n 0, 1) := by decide +kernel
theorem dX11_blockLength_1 : decode cX11_blockLength 1 = .ok (.invokevirtual 269, 3) := by decide +kernel
theorem dX11_blockLength_4 : decode cX11_blockLength 4 = .ok (.iload_n 1, 1) := by decide +kernel
theorem dX11_blockLength_5 : decode cX11_blockLength 5 = .ok (.ifCond .lt 14, 3) := by decide +kernel
theorem dX11_blockLength_8 : decode cX11_blockLength 8 = .ok (.iload_n 1, 1) := by decide +kernel
theorem dX11_blockLength_9 : decode cX11_blockLength 9 = .ok (.aload_n 0, 1) := by decide +kernel
theorem dX11_blockLength_10 : decode cX11_blockLength 10 = .ok (.getfield 35, 3) := by decide +kernel
theorem dX11_blockLength_13 : decode cX11_blockLength 13 = .ok (.getfield 279, 3) := by decide +kernel
theorem dX11_blockLength_16 : decode cX11_blockLength 16 = .ok (.if_icmp .lt 14, 3) := by decide +kernel
theorem dX11_blockLength_19 : decode cX11_blockLength 19 = .ok (.new 211, 3) := by decide +kernel
theorem dX11_blockLength_22 : decode cX11_blockLength 22 = .ok (.dup, 1) := by decide +kernel
theorem dX11_blockLength_23 : decode cX11_blockLength 23 = .ok (.ldc_w 282, 3) := by decide +kernel
theorem dX11_blockLength_26 : decode cX11_blockLength 26 = .ok (.invokespecial 215, 3) := by decide +kernel
theorem dX11_blockLength_29 : decode cX11_blockLength 29 = .ok (.athrow, 1) := by decide +kernel
theorem dX11_blockLength_30 : decode cX11_blockLength 30 = .ok (.aload_n 0, 1) := by decide +kernel
theorem dX11_blockLength_31 : decode cX11_blockLength 31 = .ok (.getfield 35, 3) := by decide +kernel
theorem dX11_blockLength_34 : decode cX11_blockLength 34 = .ok (.getfield 284, 3) := by decide +kernel
theorem dX11_blockLength_37 : decode cX11_blockLength 37 = .ok (.iload_n 1, 1) := by decide +kernel
theorem dX11_blockLength_38 : decode cX11_blockLength 38 = .ok (.iaload, 1) := by decide +kernel
theorem dX11_blockLength_39 : decode cX11_blockLength 39 = .ok (.ireturn, 1) := by decide +kernel
theorem dX11_swap_0 : decode cX11_swap 0 = .ok (.iload_n 1, 1) := by decide +kernel
theorem dX11_swap_1 : decode cX11_swap 1 = .ok (.invokestatic 116, 3) := by decide +kernel
theorem dX11_swap_4 : decode cX11_swap 4 = .ok (.iload_n 2, 1) := by decide +kernel
theorem dX11_swap_5 : decode cX11_swap 5 = .ok (.ifCond .lt 21, 3) := by decide +kernel
theorem dX11_swap_8 : decode cX11_swap 8 = .ok (.iload_n 2, 1) := by decide +kernel
theorem dX11_swap_9 : decode cX11_swap 9 = .ok (.aload_n 0, 1) := by decide +kernel
theorem dX11_swap_10 : decode cX11_swap 10 = .ok (.getfield 10, 3) := by decide +kernel
theorem dX11_swap_13 : decode cX11_swap 13 = .ok (.getfield 196, 3) := by decide +kernel
theorem dX11_swap_16 : decode cX11_swap 16 = .ok (.getfield 266, 3) := by decide +kernel
theorem dX11_swap_19 : decode cX11_swap 19 = .ok (.iload_n 1, 1) := by decide +kernel
theorem dX11_swap_20 : decode cX11_swap 20 = .ok (.iaload, 1) := by decide +kernel
theorem dX11_swap_21 : decode cX11_swap 21 = .ok (.iconst 1, 1) := by decide +kernel
theorem dX11_swap_22 : decode cX11_swap 22 = .ok (.isub, 1) := by decide +kernel
theorem dX11_swap_23 : decode cX11_swap 23 = .ok (.if_icmp .lt 14, 3) := by decide +kernel
theorem dX11_swap_26 : decode cX11_swap 26 = .ok (.new 211, 3) := by decide +kernel
theorem dX11_swap_29 : decode cX11_swap 29 = .ok (.dup, 1) := by decide +kernel
theorem dX11_swap_30 : decode cX11_swap 30 = .ok (.ldc_w 287, 3) := by decide +kernel
theorem dX11_swap_33 : decode cX11_swap 33 = .ok (.invokespecial 215, 3) := by decide +kernel
theorem dX11_swap_36 : decode cX11_swap 36 = .ok (.athrow, 1) := by decide +kernel
theorem dX11_swap_37 : decode cX11_swap 37 = .ok (.aload_n 0, 1) := by decide +kernel
theorem dX11_swap_38 : decode cX11_swap 38 = .ok (.getfield 10, 3) := by decide +kernel
theorem dX11_swap_41 : decode cX11_swap 41 = .ok (.getfield 196, 3) := by decide +kernel
theorem dX11_swap_44 : decode cX11_swap 44 = .ok (.iload_n 1, 1) := by decide +kernel
theorem dX11_swap_45 : decode cX11_swap 45 = .ok (.iload_n 2, 1) := by decide +kernel
theorem dX11_swap_46 : decode cX11_swap 46 = .ok (.invokevirtual 289, 3) := by decide +kernel
theorem dX11_swap_49 : decode cX11_swap 49 = .ok (.aload_n 0, 1) := by decide +kernel
theorem dX11_swap_50 : decode cX11_swap 50 = .ok (.getfield 25, 3) := by decide +kernel
theorem dX11_swap_53 : decode cX11_swap 53 = .ok (.aload_n 0, 1) := by decide +kernel
theorem dX11_swap_54 : decode cX11_swap 54 = .ok (.getfield 10, 3) := by decide +kernel
theorem dX11_swap_57 : decode cX11_swap 57 = .ok (.invokevirtual 221, 3) := by decide +kernel
theorem dX11_swap_60 : decode cX11_swap 60 = .ok (.ifCond .ne 30, 3) := by decide +kernel
theorem dX11_swap_63 : decode cX11_swap 63 = .ok (.aload_n 0, 1) := by decide +kernel
theorem dX11_swap_64 : decode cX11_swap 64 = .ok (.getfield 10, 3) := by decide +kernel
theorem dX11_swap_67 : decode cX11_swap 67 = .ok (.getfield 196, 3) := by decide +kernel
theorem dX11_swap_70 : decode cX11_swap 70 = .ok (.iload_n 1, 1) := by decide +kernel
theorem dX11_swap_71 : decode cX11_swap 71 = .ok (.iload_n 2, 1) := by decide +kernel
theorem dX11_swap_72 : decode cX11_swap 72 = .ok (.invokevirtual 289, 3) := by decide +kernel
theorem dX11_swap_75 : decode cX11_swap 75 = .ok (.aload_n 0, 1) := by decide +kernel
theorem dX11_swap_76 : decode cX11_swap 76 = .ok (.invokevirtual 293, 3) := by decide +kernel
theorem dX11_swap_79 : decode cX11_swap 79 = .ok (.new 103, 3) := by decide +kernel
theorem dX11_swap_82 : decode cX11_swap 82 = .ok (.dup, 1) := by decide +kernel
theorem dX11_swap_83 : decode cX11_swap 83 = .ok (.ldc_w 296, 3) := by decide +kernel
theorem dX11_swap_86 : decode cX11_swap 86 = .ok (.invokespecial 107, 3) := by decide +kernel
theorem dX11_swap_89 : decode cX11_swap 89 = .ok (.athrow, 1) := by decide +kernel
theorem dX11_swap_90 : decode cX11_swap 90 = .ok (.aload_n 0, 1) := by decide +kernel
theorem dX11_swap_91 : decode cX11_swap 91 = .ok (.getfield 25, 3) := by decide +kernel
theorem dX11_swap_94 : decode cX11_swap 94 = .ok (.getfield 242, 3) := by decide +kernel
theorem dX11_swap_97 : decode cX11_swap 97 = .ok (.ireturn, 1) := by decide +kernel
theorem dX11_move_0 : decode cX11_move 0 = .ok (.aload_n 0, 1) := by decide +kernel
theorem dX11_move_1 : decode cX11_move 1 = .ok (.iload_n 1, 1) := by decide +kernel
theorem dX11_move_2 : decode cX11_move 2 = .ok (.invokevirtual 151, 3) := by decide +kernel
theorem dX11_move_5 : decode cX11_move 5 = .ok (.aload_n 0, 1) := by decide +kernel
theorem dX11_move_6 : decode cX11_move 6 = .ok (.getfield 10, 3) := by decide +kernel
theorem dX11_move_9 : decode cX11_move 9 = .ok (.getfield 187, 3) := by decide +kernel
theorem dX11_move_12 : decode cX11_move 12 = .ok (.iload_n 1, 1) := by decide +kernel
theorem dX11_move_13 : decode cX11_move 13 = .ok (.iaload, 1) := by decide +kernel
theorem dX11_move_14 : decode cX11_move 14 = .ok (.istore_n 3, 1) := by decide +kernel
theorem dX11_move_15 : decode cX11_move 15 = .ok (.aload_n 0, 1) := by decide +kernel
theorem dX11_move_16 : decode cX11_move 16 = .ok (.getfield 10, 3) := by decide +kernel
theorem dX11_move_19 : decode cX11_move 19 = .ok (.getfield 196, 3) := by decide +kernel
theorem dX11_move_22 : decode cX11_move 22 = .ok (.iload_n 3, 1) := by decide +kernel
theorem dX11_move_23 : decode cX11_move 23 = .ok (.iload_n 2, 1) := by decide +kernel
theorem dX11_move_24 : decode cX11_move 24 = .ok (.invokevirtual 208, 3) := by decide +kernel
theorem dX11_move_27 : decode cX11_move 27 = .ok (.ifCond .ne 13, 3) := by decide +kernel
theorem dX11_move_30 : decode cX11_move 30 = .ok (.new 92, 3) := by decide +kernel
theorem dX11_move_33 : decode cX11_move 33 = .ok (.dup, 1) := by decide +kernel
theorem dX11_move_34 : decode cX11_move 34 = .ok (.ldc 213, 2) := by decide +kernel
theorem dX11_move_36 : decode cX11_move 36 = .ok (.invokespecial 96, 3) := by decide +kernel
theorem dX11_move_39 : decode cX11_move 39 = .ok (.athrow, 1) := by decide +kernel
theorem dX11_move_40 : decode cX11_move 40 = .ok (.aload_n 0, 1) := by decide +kernel
theorem dX11_move_41 : decode cX11_move 41 = .ok (.getfield 10, 3) := by decide +kernel
theorem dX11_move_44 : decode cX11_move 44 = .ok (.getfield 196, 3) := by decide +kernel
theorem dX11_move_47 : decode cX11_move 47 = .ok (.iload_n 3, 1) := by decide +kernel
theorem dX11_move_48 : decode cX11_move 48 = .ok (.iload_n 1, 1) := by decide +kernel
theorem dX11_move_49 : decode cX11_move 49 = .ok (.invokevirtual 200, 3) := by decide +kernel
theorem dX11_move_52 : decode cX11_move 52 = .ok (.istore 4, 2) := by decide +kernel
theorem dX11_move_54 : decode cX11_move 54 = .ok (.aload_n 0, 1) := by decide +kernel
theorem dX11_move_55 : decode cX11_move 55 = .ok (.getfield 10, 3) := by decide +kernel
theorem dX11_move_58 : decode cX11_move 58 = .ok (.getfield 196, 3) := by decide +kernel
theorem dX11_move_61 : decode cX11_move 61 = .ok (.iload_n 3, 1) := by decide +kernel
theorem dX11_move_62 : decode cX11_move 62 = .ok (.iload 4, 2) := by decide +kernel
theorem dX11_move_64 : decode cX11_move 64 = .ok (.iload_n 2, 1) := by decide +kernel
theorem dX11_move_65 : decode cX11_move 65 = .ok (.invokevirtual 298, 3) := by decide +kernel
theorem dX11_move_68 : decode cX11_move 68 = .ok (.aload_n 0, 1) := by decide +kernel
theorem dX11_move_69 : decode cX11_move 69 = .ok (.getfield 25, 3) := by decide +kernel
theorem dX11_move_72 : decode cX11_move 72 = .ok (.aload_n 0, 1) := by decide +kernel
theorem dX11_move_73 : decode cX11_move 73 = .ok (.getfield 10, 3) := by decide +kernel
theorem dX11_move_76 : decode cX11_move 76 = .ok (.invokevirtual 221, 3) := by decide +kernel
theorem dX11_move_79 : decode cX11_move 79 = .ok (.ifCond .ne 32, 3) := by decide +kernel
theorem dX11_move_82 : decode cX11_move 82 = .ok (.aload_n 0, 1) := by decide +kernel
theorem dX11_move_83 : decode cX11_move 83 = .ok (.getfield 10, 3) := by decide +kernel
theorem dX11_move_86 : decode cX11_move 86 = .ok (.getfield 196, 3) := by decide +kernel
theorem dX11_move_89 : decode cX11_move 89 = .ok (.iload_n 3, 1) := by decide +kernel
theorem dX11_move_90 : decode cX11_move 90 = .ok (.iload_n 2, 1) := by decide +kernel
theorem dX11_move_91 : decode cX11_move 91 = .ok (.iload 4, 2) := by decide +kernel
theorem dX11_move_93 : decode cX11_move 93 = .ok (.invokevirtual 298, 3) := by decide +kernel
theorem dX11_move_96 : decode cX11_move 96 = .ok (.aload_n 0, 1) := by decide +kernel
theorem dX11_move_97 : decode cX11_move 97 = .ok (.invokevirtual 293, 3) := by decide +kernel
theorem dX11_move_100 : decode cX11_move 100 = .ok (.new 103, 3) := by decide +kernel
theorem dX11_move_103 : decode cX11_move 103 = .ok (.dup, 1) := by decide +kernel
theorem dX11_move_104 : decode cX11_move 104 = .ok (.ldc_w 296, 3) := by decide +kernel
theorem dX11_move_107 : decode cX11_move 107 = .ok (.invokespecial 107, 3) := by decide +kernel
theorem dX11_move_110 : decode cX11_move 110 = .ok (.athrow, 1) := by decide +kernel
theorem dX11_move_111 : decode cX11_move 111 = .ok (.aload_n 0, 1) := by decide +kernel
theorem dX11_move_112 : decode cX11_move 112 = .ok (.getfield 25, 3) := by decide +kernel
theorem dX11_move_115 : decode cX11_move 115 = .ok (.getfield 242, 3) := by decide +kernel
theorem dX11_move_118 : decode cX11_move 118 = .ok (.ireturn, 1) := by decide +kernel
theorem dX11_dispatch_0 : decode cX11_dispatch 0 = .ok (.iload_n 1, 1) := by decide +kernel
theorem dX11_dispatch_1 : decode cX11_dispatch 1 = .ok (.invokestatic 302, 3) := by decide +kernel
theorem dX11_dispatch_4 : decode cX11_dispatch 4 = .ok (.aload_n 0, 1) := by decide +kernel
theorem dX11_dispatch_5 : decode cX11_dispatch 5 = .ok (.iconst 0, 1) := by decide +kernel
theorem dX11_dispatch_6 : decode cX11_dispatch 6 = .ok (.iload_n 1, 1) := by decide +kernel
theorem dX11_dispatch_7 : decode cX11_dispatch 7 = .ok (.invokevirtual 305, 3) := by decide +kernel
theorem dX11_dispatch_10 : decode cX11_dispatch 10 = .ok (.ireturn, 1) := by decide +kernel
theorem dX11_repair_0 : decode cX11_repair 0 = .ok (.iload_n 1, 1) := by decide +kernel
theorem dX11_repair_1 : decode cX11_repair 1 = .ok (.sipush 999, 3) := by decide +kernel
theorem dX11_repair_4 : decode cX11_repair 4 = .ok (.invokestatic 138, 3) := by decide +kernel
theorem dX11_repair_7 : decode cX11_repair 7 = .ok (.ifCond .ne 14, 3) := by decide +kernel
theorem dX11_repair_10 : decode cX11_repair 10 = .ok (.new 92, 3) := by decide +kernel
theorem dX11_repair_13 : decode cX11_repair 13 = .ok (.dup, 1) := by decide +kernel
theorem dX11_repair_14 : decode cX11_repair 14 = .ok (.ldc_w 308, 3) := by decide +kernel
theorem dX11_repair_17 : decode cX11_repair 17 = .ok (.invokespecial 96, 3) := by decide +kernel
theorem dX11_repair_20 : decode cX11_repair 20 = .ok (.athrow, 1) := by decide +kernel
theorem dX11_repair_21 : decode cX11_repair 21 = .ok (.iload_n 2, 1) := by decide +kernel
theorem dX11_repair_22 : decode cX11_repair 22 = .ok (.invokestatic 302, 3) := by decide +kernel
theorem dX11_repair_25 : decode cX11_repair 25 = .ok (.aload_n 0, 1) := by decide +kernel
theorem dX11_repair_26 : decode cX11_repair 26 = .ok (.iload_n 1, 1) := by decide +kernel
theorem dX11_repair_27 : decode cX11_repair 27 = .ok (.iload_n 2, 1) := by decide +kernel
theorem dX11_repair_28 : decode cX11_repair 28 = .ok (.invokevirtual 305, 3) := by decide +kernel
theorem dX11_repair_31 : decode cX11_repair 31 = .ok (.ireturn, 1) := by decide +kernel
theorem dX11_best_0 : decode cX11_best 0 = .ok (.iload_n 1, 1) := by decide +kernel
theorem dX11_best_1 : decode cX11_best 1 = .ok (.invokestatic 116, 3) := by decide +kernel
theorem dX11_best_4 : decode cX11_best 4 = .ok (.aload_n 0, 1) := by decide +kernel
theorem dX11_best_5 : decode cX11_best 5 = .ok (.getfield 49, 3) := by decide +kernel
theorem dX11_best_8 : decode cX11_best 8 = .ok (.aload_n 0, 1) := by decide +kernel
theorem dX11_best_9 : decode cX11_best 9 = .ok (.getfield 10, 3) := by decide +kernel
theorem dX11_best_12 : decode cX11_best 12 = .ok (.aload_n 0, 1) := by decide +kernel
theorem dX11_best_13 : decode cX11_best 13 = .ok (.getfield 29, 3) := by decide +kernel
theorem dX11_best_16 : decode cX11_best 16 = .ok (.iload_n 1, 1) := by decide +kernel
theorem dX11_best_17 : decode cX11_best 17 = .ok (.invokevirtual 310, 3) := by decide +kernel
theorem dX11_best_20 : decode cX11_best 20 = .ok (.aload_n 0, 1) := by decide +kernel
theorem dX11_best_21 : decode cX11_best 21 = .ok (.getfield 49, 3) := by decide +kernel
theorem dX11_best_24 : decode cX11_best 24 = .ok (.getfield 314, 3) := by decide +kernel
theorem dX11_best_27 : decode cX11_best 27 = .ok (.ireturn, 1) := by decide +kernel
theorem dX11_reoptimize_0 : decode cX11_reoptimize 0 = .ok (.iload_n 1, 1) := by decide +kernel
theorem dX11_reoptimize_1 : decode cX11_reoptimize 1 = .ok (.invokestatic 116, 3) := by decide +kernel
theorem dX11_reoptimize_4 : decode cX11_reoptimize 4 = .ok (.aload_n 0, 1) := by decide +kernel
theorem dX11_reoptimize_5 : decode cX11_reoptimize 5 = .ok (.getfield 49, 3) := by decide +kernel
theorem dX11_reoptimize_8 : decode cX11_reoptimize 8 = .ok (.aload_n 0, 1) := by decide +kernel
theorem dX11_reoptimize_9 : decode cX11_reoptimize 9 = .ok (.getfield 10, 3) := by decide +kernel
theorem dX11_reoptimize_12 : decode cX11_reoptimize 12 = .ok (.aload_n 0, 1) := by decide +kernel
theorem dX11_reoptimize_13 : decode cX11_reoptimize 13 = .ok (.getfield 29, 3) := by decide +kernel
theorem dX11_reoptimize_16 : decode cX11_reoptimize 16 = .ok (.iload_n 1, 1) := by decide +kernel
theorem dX11_reoptimize_17 : decode cX11_reoptimize 17 = .ok (.invokevirtual 310, 3) := by decide +kernel
theorem dX11_reoptimize_20 : decode cX11_reoptimize 20 = .ok (.aload_n 0, 1) := by decide +kernel
theorem dX11_reoptimize_21 : decode cX11_reoptimize 21 = .ok (.getfield 49, 3) := by decide +kernel
theorem dX11_reoptimize_24 : decode cX11_reoptimize 24 = .ok (.aload_n 0, 1) := by decide +kernel
theorem dX11_reoptimize_25 : decode cX11_reoptimize 25 = .ok (.getfield 10, 3) := by decide +kernel
theorem dX11_reoptimize_28 : decode cX11_reoptimize 28 = .ok (.getfield 196, 3) := by decide +kernel
theorem dX11_reoptimize_31 : decode cX11_reoptimize 31 = .ok (.iload_n 1, 1) := by decide +kernel
theorem dX11_reoptimize_32 : decode cX11_reoptimize 32 = .ok (.invokevirtual 317, 3) := by decide +kernel
theorem dX11_reoptimize_35 : decode cX11_reoptimize 35 = .ok (.ireturn, 1) := by decide +kernel
theorem dX11_shiftBottlenecks_0 : decode cX11_shiftBottlenecks 0 = .ok (.aload_n 0, 1) := by decide +kernel
theorem dX11_shiftBottlenecks_1 : decode cX11_shiftBottlenecks 1 = .ok (.getfield 56, 3) := by decide +kernel
theorem dX11_shiftBottlenecks_4 : decode cX11_shiftBottlenecks 4 = .ok (.aload_n 0, 1) := by decide +kernel
theorem dX11_shiftBottlenecks_5 : decode cX11_shiftBottlenecks 5 = .ok (.getfield 10, 3) := by decide +kernel
theorem dX11_shiftBottlenecks_8 : decode cX11_shiftBottlenecks 8 = .ok (.aload_n 0, 1) := by decide +kernel
theorem dX11_shiftBottlenecks_9 : decode cX11_shiftBottlenecks 9 = .ok (.getfield 49, 3) := by decide +kernel
theorem dX11_shiftBottlenecks_12 : decode cX11_shiftBottlenecks 12 = .ok (.invokevirtual 321, 3) := by decide +kernel
theorem dX11_shiftBottlenecks_15 : decode cX11_shiftBottlenecks 15 = .ok (.aload_n 0, 1) := by decide +kernel
theorem dX11_shiftBottlenecks_16 : decode cX11_shiftBottlenecks 16 = .ok (.invokevirtual 234, 3) := by decide +kernel
theorem dX11_shiftBottlenecks_19 : decode cX11_shiftBottlenecks 19 = .ok (.ireturn, 1) := by decide +kernel
theorem dX11_bottleneck_0 : decode cX11_bottleneck 0 = .ok (.iload_n 1, 1) := by decide +kernel
theorem dX11_bottleneck_1 : decode cX11_bottleneck 1 = .ok (.ifCond .lt 14, 3) := by decide +kernel
theorem dX11_bottleneck_4 : decode cX11_bottleneck 4 = .ok (.iload_n 1, 1) := by decide +kernel
theorem dX11_bottleneck_5 : decode cX11_bottleneck 5 = .ok (.aload_n 0, 1) := by decide +kernel
theorem dX11_bottleneck_6 : decode cX11_bottleneck 6 = .ok (.getfield 56, 3) := by decide +kernel
theorem dX11_bottleneck_9 : decode cX11_bottleneck 9 = .ok (.getfield 325, 3) := by decide +kernel
theorem dX11_bottleneck_12 : decode cX11_bottleneck 12 = .ok (.if_icmp .lt 14, 3) := by decide +kernel
theorem dX11_bottleneck_15 : decode cX11_bottleneck 15 = .ok (.new 211, 3) := by decide +kernel
theorem dX11_bottleneck_18 : decode cX11_bottleneck 18 = .ok (.dup, 1) := by decide +kernel
theorem dX11_bottleneck_19 : decode cX11_bottleneck 19 = .ok (.ldc_w 328, 3) := by decide +kernel
theorem dX11_bottleneck_22 : decode cX11_bottleneck 22 = .ok (.invokespecial 215, 3) := by decide +kernel
theorem dX11_bottleneck_25 : decode cX11_bottleneck 25 = .ok (.athrow, 1) := by decide +kernel
theorem dX11_bottleneck_26 : decode cX11_bottleneck 26 = .ok (.aload_n 0, 1) := by decide +kernel
theorem dX11_bottleneck_27 : decode cX11_bottleneck 27 = .ok (.getfield 56, 3) := by decide +kernel
theorem dX11_bottleneck_30 : decode cX11_bottleneck 30 = .ok (.getfield 330, 3) := by decide +kernel
theorem dX11_bottleneck_33 : decode cX11_bottleneck 33 = .ok (.iload_n 1, 1) := by decide +kernel
theorem dX11_bottleneck_34 : decode cX11_bottleneck 34 = .ok (.iaload, 1) := by decide +kernel
theorem dX11_bottleneck_35 : decode cX11_bottleneck 35 = .ok (.ireturn, 1) := by decide +kernel
theorem dX11_tabu_0 : decode cX11_tabu 0 = .ok (.iload_n 1, 1) := by decide +kernel
theorem dX11_tabu_1 : decode cX11_tabu 1 = .ok (.bipush 20, 2) := by decide +kernel
theorem dX11_tabu_3 : decode cX11_tabu 3 = .ok (.invokestatic 138, 3) := by decide +kernel
theorem dX11_tabu_6 : decode cX11_tabu 6 = .ok (.ifCond .eq 12, 3) := by decide +kernel
theorem dX11_tabu_9 : decode cX11_tabu 9 = .ok (.iload_n 2, 1) := by decide +kernel
theorem dX11_tabu_10 : decode cX11_tabu 10 = .ok (.bipush 9, 2) := by decide +kernel
theorem dX11_tabu_12 : decode cX11_tabu 12 = .ok (.invokestatic 138, 3) := by decide +kernel
theorem dX11_tabu_15 : decode cX11_tabu 15 = .ok (.ifCond .ne 14, 3) := by decide +kernel
theorem dX11_tabu_18 : decode cX11_tabu 18 = .ok (.new 92, 3) := by decide +kernel
theorem dX11_tabu_21 : decode cX11_tabu 21 = .ok (.dup, 1) := by decide +kernel
theorem dX11_tabu_22 : decode cX11_tabu 22 = .ok (.ldc_w 333, 3) := by decide +kernel
theorem dX11_tabu_25 : decode cX11_tabu 25 = .ok (.invokespecial 96, 3) := by decide +kernel
theorem dX11_tabu_28 : decode cX11_tabu 28 = .ok (.athrow, 1) := by decide +kernel
theorem dX11_tabu_29 : decode cX11_tabu 29 = .ok (.aload_n 0, 1) := by decide +kernel
theorem dX11_tabu_30 : decode cX11_tabu 30 = .ok (.getfield 63, 3) := by decide +kernel
theorem dX11_tabu_33 : decode cX11_tabu 33 = .ok (.aload_n 0, 1) := by decide +kernel
theorem dX11_tabu_34 : decode cX11_tabu 34 = .ok (.getfield 10, 3) := by decide +kernel
theorem dX11_tabu_37 : decode cX11_tabu 37 = .ok (.iload_n 1, 1) := by decide +kernel
theorem dX11_tabu_38 : decode cX11_tabu 38 = .ok (.iload_n 2, 1) := by decide +kernel
theorem dX11_tabu_39 : decode cX11_tabu 39 = .ok (.invokevirtual 335, 3) := by decide +kernel
theorem dX11_tabu_42 : decode cX11_tabu 42 = .ok (.ireturn, 1) := by decide +kernel
theorem dX11_tabuSteps_0 : decode cX11_tabuSteps 0 = .ok (.aload_n 0, 1) := by decide +kernel
theorem dX11_tabuSteps_1 : decode cX11_tabuSteps 1 = .ok (.getfield 63, 3) := by decide +kernel
theorem dX11_tabuSteps_4 : decode cX11_tabuSteps 4 = .ok (.getfield 339, 3) := by decide +kernel
theorem dX11_tabuSteps_7 : decode cX11_tabuSteps 7 = .ok (.ireturn, 1) := by decide +kernel
theorem dX11_bound_0 : decode cX11_bound 0 = .ok (.iload_n 1, 1) := by decide +kernel
theorem dX11_bound_1 : decode cX11_bound 1 = .ok (.invokestatic 116, 3) := by decide +kernel
theorem dX11_bound_4 : decode cX11_bound 4 = .ok (.aload_n 0, 1) := by decide +kernel
theorem dX11_bound_5 : decode cX11_bound 5 = .ok (.getfield 70, 3) := by decide +kernel
theorem dX11_bound_8 : decode cX11_bound 8 = .ok (.aload_n 0, 1) := by decide +kernel
theorem dX11_bound_9 : decode cX11_bound 9 = .ok (.getfield 10, 3) := by decide +kernel
theorem dX11_bound_12 : decode cX11_bound 12 = .ok (.iload_n 1, 1) := by decide +kernel
theorem dX11_bound_13 : decode cX11_bound 13 = .ok (.invokevirtual 342, 3) := by decide +kernel
theorem dX11_bound_16 : decode cX11_bound 16 = .ok (.ireturn, 1) := by decide +kernel
theorem dX11_lowerBound_0 : decode cX11_lowerBound 0 = .ok (.aload_n 0, 1) := by decide +kernel
theorem dX11_lowerBound_1 : decode cX11_lowerBound 1 = .ok (.getfield 70, 3) := by decide +kernel
theorem dX11_lowerBound_4 : decode cX11_lowerBound 4 = .ok (.aload_n 0, 1) := by decide +kernel
theorem dX11_lowerBound_5 : decode cX11_lowerBound 5 = .ok (.getfield 10, 3) := by decide +kernel
theorem dX11_lowerBound_8 : decode cX11_lowerBound 8 = .ok (.invokevirtual 345, 3) := by decide +kernel
theorem dX11_lowerBound_11 : decode cX11_lowerBound 11 = .ok (.ireturn, 1) := by decide +kernel
theorem dX11_append_0 : decode cX11_append 0 = .ok (.aload_n 0, 1) := by decide +kernel
theorem dX11_append_1 : decode cX11_append 1 = .ok (.getfield 77, 3) := by decide +kernel
theorem dX11_append_4 : decode cX11_append 4 = .ok (.getfield 349, 3) := by decide +kernel
theorem dX11_append_7 : decode cX11_append 7 = .ok (.bipush 80, 2) := by decide +kernel
theorem dX11_append_9 : decode cX11_append 9 = .ok (.if_icmp .lt 14, 3) := by decide +kernel
theorem dX11_append_12 : decode cX11_append 12 = .ok (.new 103, 3) := by decide +kernel
theorem dX11_append_15 : decode cX11_append 15 = .ok (.dup, 1) := by decide +kernel
theorem dX11_append_16 : decode cX11_append 16 = .ok (.ldc_w 352, 3) := by decide +kernel
theorem dX11_append_19 : decode cX11_append 19 = .ok (.invokespecial 107, 3) := by decide +kernel
theorem dX11_append_22 : decode cX11_append 22 = .ok (.athrow, 1) := by decide +kernel
theorem dX11_append_23 : decode cX11_append 23 = .ok (.aload_n 0, 1) := by decide +kernel
theorem dX11_append_24 : decode cX11_append 24 = .ok (.getfield 77, 3) := by decide +kernel
theorem dX11_append_27 : decode cX11_append 27 = .ok (.iload_n 1, 1) := by decide +kernel
theorem dX11_append_28 : decode cX11_append 28 = .ok (.invokevirtual 354, 3) := by decide +kernel
theorem dX11_append_31 : decode cX11_append 31 = .ok (.return_, 1) := by decide +kernel
theorem dX11_read_0 : decode cX11_read 0 = .ok (.aload_n 0, 1) := by decide +kernel
theorem dX11_read_1 : decode cX11_read 1 = .ok (.getfield 77, 3) := by decide +kernel
theorem dX11_read_4 : decode cX11_read 4 = .ok (.invokevirtual 358, 3) := by decide +kernel
theorem dX11_read_7 : decode cX11_read 7 = .ok (.istore_n 1, 1) := by decide +kernel
theorem dX11_read_8 : decode cX11_read 8 = .ok (.aload_n 0, 1) := by decide +kernel
theorem dX11_read_9 : decode cX11_read 9 = .ok (.getfield 77, 3) := by decide +kernel
theorem dX11_read_12 : decode cX11_read 12 = .ok (.iconst 0, 1) := by decide +kernel
theorem dX11_read_13 : decode cX11_read 13 = .ok (.putfield 349, 3) := by decide +kernel
theorem dX11_read_16 : decode cX11_read 16 = .ok (.iload_n 1, 1) := by decide +kernel
theorem dX11_read_17 : decode cX11_read 17 = .ok (.iconst (-1), 1) := by decide +kernel
theorem dX11_read_18 : decode cX11_read 18 = .ok (.if_icmp .eq 33, 3) := by decide +kernel
theorem dX11_read_21 : decode cX11_read 21 = .ok (.aload_n 0, 1) := by decide +kernel
theorem dX11_read_22 : decode cX11_read 22 = .ok (.getfield 84, 3) := by decide +kernel
theorem dX11_read_25 : decode cX11_read 25 = .ok (.iconst 2, 1) := by decide +kernel
theorem dX11_read_26 : decode cX11_read 26 = .ok (.invokevirtual 361, 3) := by decide +kernel
theorem dX11_read_29 : decode cX11_read 29 = .ok (.aload_n 0, 1) := by decide +kernel
theorem dX11_read_30 : decode cX11_read 30 = .ok (.getfield 84, 3) := by decide +kernel
theorem dX11_read_33 : decode cX11_read 33 = .ok (.bipush 100, 2) := by decide +kernel
theorem dX11_read_35 : decode cX11_read 35 = .ok (.iload_n 1, 1) := by decide +kernel
theorem dX11_read_36 : decode cX11_read 36 = .ok (.iadd, 1) := by decide +kernel
theorem dX11_read_37 : decode cX11_read 37 = .ok (.invokevirtual 364, 3) := by decide +kernel
theorem dX11_read_40 : decode cX11_read 40 = .ok (.new 92, 3) := by decide +kernel
theorem dX11_read_43 : decode cX11_read 43 = .ok (.dup, 1) := by decide +kernel
theorem dX11_read_44 : decode cX11_read 44 = .ok (.ldc_w 367, 3) := by decide +kernel
theorem dX11_read_47 : decode cX11_read 47 = .ok (.invokespecial 96, 3) := by decide +kernel
theorem dX11_read_50 : decode cX11_read 50 = .ok (.athrow, 1) := by decide +kernel
theorem dX11_read_51 : decode cX11_read 51 = .ok (.aload_n 0, 1) := by decide +kernel
theorem dX11_read_52 : decode cX11_read 52 = .ok (.getfield 19, 3) := by decide +kernel
theorem dX11_read_55 : decode cX11_read 55 = .ok (.aload_n 0, 1) := by decide +kernel
theorem dX11_read_56 : decode cX11_read 56 = .ok (.getfield 10, 3) := by decide +kernel
theorem dX11_read_59 : decode cX11_read 59 = .ok (.invokevirtual 369, 3) := by decide +kernel
theorem dX11_read_62 : decode cX11_read 62 = .ok (.aload_n 0, 1) := by decide +kernel
theorem dX11_read_63 : decode cX11_read 63 = .ok (.getfield 77, 3) := by decide +kernel
theorem dX11_read_66 : decode cX11_read 66 = .ok (.aload_n 0, 1) := by decide +kernel
theorem dX11_read_67 : decode cX11_read 67 = .ok (.getfield 19, 3) := by decide +kernel
theorem dX11_read_70 : decode cX11_read 70 = .ok (.aload_n 0, 1) := by decide +kernel
theorem dX11_read_71 : decode cX11_read 71 = .ok (.getfield 84, 3) := by decide +kernel
theorem dX11_read_74 : decode cX11_read 74 = .ok (.invokevirtual 373, 3) := by decide +kernel
theorem dX11_read_77 : decode cX11_read 77 = .ok (.ifCond .ne 14, 3) := by decide +kernel
theorem dX11_read_80 : decode cX11_read 80 = .ok (.new 103, 3) := by decide +kernel
theorem dX11_read_83 : decode cX11_read 83 = .ok (.dup, 1) := by decide +kernel
theorem dX11_read_84 : decode cX11_read 84 = .ok (.ldc_w 377, 3) := by decide +kernel
theorem dX11_read_87 : decode cX11_read 87 = .ok (.invokespecial 107, 3) := by decide +kernel
theorem dX11_read_90 : decode cX11_read 90 = .ok (.athrow, 1) := by decide +kernel
theorem dX11_read_91 : decode cX11_read 91 = .ok (.aload_n 0, 1) := by decide +kernel
theorem dX11_read_92 : decode cX11_read 92 = .ok (.getfield 19, 3) := by decide +kernel
theorem dX11_read_95 : decode cX11_read 95 = .ok (.getfield 99, 3) := by decide +kernel
theorem dX11_read_98 : decode cX11_read 98 = .ok (.aload_n 0, 1) := by decide +kernel
theorem dX11_read_99 : decode cX11_read 99 = .ok (.getfield 10, 3) := by decide +kernel
theorem dX11_read_102 : decode cX11_read 102 = .ok (.getfield 99, 3) := by decide +kernel
theorem dX11_read_105 : decode cX11_read 105 = .ok (.isub, 1) := by decide +kernel
theorem dX11_read_106 : decode cX11_read 106 = .ok (.istore_n 2, 1) := by decide +kernel
theorem dX11_read_107 : decode cX11_read 107 = .ok (.aload_n 0, 1) := by decide +kernel
theorem dX11_read_108 : decode cX11_read 108 = .ok (.getfield 10, 3) := by decide +kernel
theorem dX11_read_111 : decode cX11_read 111 = .ok (.aload_n 0, 1) := by decide +kernel
theorem dX11_read_112 : decode cX11_read 112 = .ok (.getfield 19, 3) := by decide +kernel
theorem dX11_read_115 : decode cX11_read 115 = .ok (.invokevirtual 369, 3) := by decide +kernel
theorem dX11_read_118 : decode cX11_read 118 = .ok (.iload_n 2, 1) := by decide +kernel
theorem dX11_read_119 : decode cX11_read 119 = .ok (.ireturn, 1) := by decide +kernel
theorem dX11_failure_0 : decode cX11_failure 0 = .ok (.iload_n 1, 1) := by decide +kernel
theorem dX11_failure_1 : decode cX11_failure 1 = .ok (.ifCond .ge 14, 3) := by decide +kernel
theorem dX11_failure_4 : decode cX11_failure 4 = .ok (.new 92, 3) := by decide +kernel
theorem dX11_failure_7 : decode cX11_failure 7 = .ok (.dup, 1) := by decide +kernel
theorem dX11_failure_8 : decode cX11_failure 8 = .ok (.ldc_w 379, 3) := by decide +kernel
theorem dX11_failure_11 : decode cX11_failure 11 = .ok (.invokespecial 96, 3) := by decide +kernel
theorem dX11_failure_14 : decode cX11_failure 14 = .ok (.athrow, 1) := by decide +kernel
theorem dX11_failure_15 : decode cX11_failure 15 = .ok (.aload_n 0, 1) := by decide +kernel
theorem dX11_failure_16 : decode cX11_failure 16 = .ok (.getfield 84, 3) := by decide +kernel
theorem dX11_failure_19 : decode cX11_failure 19 = .ok (.iload_n 1, 1) := by decide +kernel
theorem dX11_failure_20 : decode cX11_failure 20 = .ok (.invokevirtual 381, 3) := by decide +kernel
theorem dX11_failure_23 : decode cX11_failure 23 = .ok (.ireturn, 1) := by decide +kernel
theorem dX11_save_0 : decode cX11_save 0 = .ok (.aload_n 0, 1) := by decide +kernel
theorem dX11_save_1 : decode cX11_save 1 = .ok (.getfield 16, 3) := by decide +kernel
theorem dX11_save_4 : decode cX11_save 4 = .ok (.aload_n 0, 1) := by decide +kernel
theorem dX11_save_5 : decode cX11_save 5 = .ok (.getfield 10, 3) := by decide +kernel
theorem dX11_save_8 : decode cX11_save 8 = .ok (.invokevirtual 369, 3) := by decide +kernel
theorem dX11_save_11 : decode cX11_save 11 = .ok (.aload_n 0, 1) := by decide +kernel
theorem dX11_save_12 : decode cX11_save 12 = .ok (.iconst 1, 1) := by decide +kernel
theorem dX11_save_13 : decode cX11_save 13 = .ok (.putfield 385, 3) := by decide +kernel
theorem dX11_save_16 : decode cX11_save 16 = .ok (.return_, 1) := by decide +kernel
theorem dX11_restore_0 : decode cX11_restore 0 = .ok (.aload_n 0, 1) := by decide +kernel
theorem dX11_restore_1 : decode cX11_restore 1 = .ok (.getfield 385, 3) := by decide +kernel
theorem dX11_restore_4 : decode cX11_restore 4 = .ok (.ifCond .ne 14, 3) := by decide +kernel
theorem dX11_restore_7 : decode cX11_restore 7 = .ok (.new 103, 3) := by decide +kernel
theorem dX11_restore_10 : decode cX11_restore 10 = .ok (.dup, 1) := by decide +kernel
theorem dX11_restore_11 : decode cX11_restore 11 = .ok (.ldc_w 389, 3) := by decide +kernel
theorem dX11_restore_14 : decode cX11_restore 14 = .ok (.invokespecial 107, 3) := by decide +kernel
theorem dX11_restore_17 : decode cX11_restore 17 = .ok (.athrow, 1) := by decide +kernel
theorem dX11_restore_18 : decode cX11_restore 18 = .ok (.aload_n 0, 1) := by decide +kernel
theorem dX11_restore_19 : decode cX11_restore 19 = .ok (.getfield 10, 3) := by decide +kernel
theorem dX11_restore_22 : decode cX11_restore 22 = .ok (.aload_n 0, 1) := by decide +kernel
theorem dX11_restore_23 : decode cX11_restore 23 = .ok (.getfield 16, 3) := by decide +kernel
theorem dX11_restore_26 : decode cX11_restore 26 = .ok (.invokevirtual 369, 3) := by decide +kernel
theorem dX11_restore_29 : decode cX11_restore 29 = .ok (.return_, 1) := by decide +kernel
theorem dX11_within_0 : decode cX11_within 0 = .ok (.iload_n 0, 1) := by decide +kernel
theorem dX11_within_1 : decode cX11_within 1 = .ok (.ifCond .lt 12, 3) := by decide +kernel
theorem dX11_within_4 : decode cX11_within 4 = .ok (.iload_n 0, 1) := by decide +kernel
theorem dX11_within_5 : decode cX11_within 5 = .ok (.iload_n 1, 1) := by decide +kernel
theorem dX11_within_6 : decode cX11_within 6 = .ok (.if_icmp .gt 7, 3) := by decide +kernel
theorem dX11_within_9 : decode cX11_within 9 = .ok (.iconst 1, 1) := by decide +kernel
theorem dX11_within_10 : decode cX11_within 10 = .ok (.goto 4, 3) := by decide +kernel
theorem dX11_within_13 : decode cX11_within 13 = .ok (.iconst 0, 1) := by decide +kernel
theorem dX11_within_14 : decode cX11_within 14 = .ok (.ireturn, 1) := by decide +kernel
theorem dX11_jobFits_0 : decode cX11_jobFits 0 = .ok (.iload_n 0, 1) := by decide +kernel
theorem dX11_jobFits_1 : decode cX11_jobFits 1 = .ok (.getstatic 141, 3) := by decide +kernel
theorem dX11_jobFits_4 : decode cX11_jobFits 4 = .ok (.iconst 0, 1) := by decide +kernel
theorem dX11_jobFits_5 : decode cX11_jobFits 5 = .ok (.iaload, 1) := by decide +kernel
theorem dX11_jobFits_6 : decode cX11_jobFits 6 = .ok (.invokestatic 138, 3) := by decide +kernel
theorem dX11_jobFits_9 : decode cX11_jobFits 9 = .ok (.ifCond .eq 31, 3) := by decide +kernel
theorem dX11_jobFits_12 : decode cX11_jobFits 12 = .ok (.iload_n 1, 1) := by decide +kernel
theorem dX11_jobFits_13 : decode cX11_jobFits 13 = .ok (.getstatic 141, 3) := by decide +kernel
theorem dX11_jobFits_16 : decode cX11_jobFits 16 = .ok (.iconst 1, 1) := by decide +kernel
theorem dX11_jobFits_17 : decode cX11_jobFits 17 = .ok (.iaload, 1) := by decide +kernel
theorem dX11_jobFits_18 : decode cX11_jobFits 18 = .ok (.invokestatic 138, 3) := by decide +kernel
theorem dX11_jobFits_21 : decode cX11_jobFits 21 = .ok (.ifCond .eq 19, 3) := by decide +kernel
theorem dX11_jobFits_24 : decode cX11_jobFits 24 = .ok (.iload_n 2, 1) := by decide +kernel
theorem dX11_jobFits_25 : decode cX11_jobFits 25 = .ok (.getstatic 141, 3) := by decide +kernel
theorem dX11_jobFits_28 : decode cX11_jobFits 28 = .ok (.iconst 2, 1) := by decide +kernel
theorem dX11_jobFits_29 : decode cX11_jobFits 29 = .ok (.iaload, 1) := by decide +kernel
theorem dX11_jobFits_30 : decode cX11_jobFits 30 = .ok (.invokestatic 138, 3) := by decide +kernel
theorem dX11_jobFits_33 : decode cX11_jobFits 33 = .ok (.ifCond .eq 7, 3) := by decide +kernel
theorem dX11_jobFits_36 : decode cX11_jobFits 36 = .ok (.iconst 1, 1) := by decide +kernel
theorem dX11_jobFits_37 : decode cX11_jobFits 37 = .ok (.goto 4, 3) := by decide +kernel
theorem dX11_jobFits_40 : decode cX11_jobFits 40 = .ok (.iconst 0, 1) := by decide +kernel
theorem dX11_jobFits_41 : decode cX11_jobFits 41 = .ok (.ireturn, 1) := by decide +kernel
theorem dX11_isMachine_0 : decode cX11_isMachine 0 = .ok (.iload_n 0, 1) := by decide +kernel
theorem dX11_isMachine_1 : decode cX11_isMachine 1 = .ok (.ifCond .lt 12, 3) := by decide +kernel
theorem dX11_isMachine_4 : decode cX11_isMachine 4 = .ok (.iload_n 0, 1) := by decide +kernel
theorem dX11_isMachine_5 : decode cX11_isMachine 5 = .ok (.iconst 4, 1) := by decide +kernel
theorem dX11_isMachine_6 : decode cX11_isMachine 6 = .ok (.if_icmp .ge 7, 3) := by decide +kernel
theorem dX11_isMachine_9 : decode cX11_isMachine 9 = .ok (.iconst 1, 1) := by decide +kernel
theorem dX11_isMachine_10 : decode cX11_isMachine 10 = .ok (.goto 4, 3) := by decide +kernel
theorem dX11_isMachine_13 : decode cX11_isMachine 13 = .ok (.iconst 0, 1) := by decide +kernel
theorem dX11_isMachine_14 : decode cX11_isMachine 14 = .ok (.ireturn, 1) := by decide +kernel
theorem dX11_isFamily_0 : decode cX11_isFamily 0 = .ok (.iload_n 0, 1) := by decide +kernel
theorem dX11_isFamily_1 : decode cX11_isFamily 1 = .ok (.ifCond .lt 12, 3) := by decide +kernel
theorem dX11_isFamily_4 : decode cX11_isFamily 4 = .ok (.iload_n 0, 1) := by decide +kernel
theorem dX11_isFamily_5 : decode cX11_isFamily 5 = .ok (.iconst 3, 1) := by decide +kernel
theorem dX11_isFamily_6 : decode cX11_isFamily 6 = .ok (.if_icmp .ge 7, 3) := by decide +kernel
theorem dX11_isFamily_9 : decode cX11_isFamily 9 = .ok (.iconst 1, 1) := by decide +kernel
theorem dX11_isFamily_10 : decode cX11_isFamily 10 = .ok (.goto 4, 3) := by decide +kernel
theorem dX11_isFamily_13 : decode cX11_isFamily 13 = .ok (.iconst 0, 1) := by decide +kernel
theorem dX11_isFamily_14 : decode cX11_isFamily 14 = .ok (.ireturn, 1) := by decide +kernel
theorem dX11_durationFits_0 : decode cX11_durationFits 0 = .ok (.iload_n 0, 1) := by decide +kernel
theorem dX11_durationFits_1 : decode cX11_durationFits 1 = .ok (.iconst 1, 1) := by decide +kernel
theorem dX11_durationFits_2 : decode cX11_durationFits 2 = .ok (.if_icmp .lt 13, 3) := by decide +kernel
theorem dX11_durationFits_5 : decode cX11_durationFits 5 = .ok (.iload_n 0, 1) := by decide +kernel
theorem dX11_durationFits_6 : decode cX11_durationFits 6 = .ok (.bipush 30, 2) := by decide +kernel
theorem dX11_durationFits_8 : decode cX11_durationFits 8 = .ok (.if_icmp .gt 7, 3) := by decide +kernel
theorem dX11_durationFits_11 : decode cX11_durationFits 11 = .ok (.iconst 1, 1) := by decide +kernel
theorem dX11_durationFits_12 : decode cX11_durationFits 12 = .ok (.goto 4, 3) := by decide +kernel
theorem dX11_durationFits_15 : decode cX11_durationFits 15 = .ok (.iconst 0, 1) := by decide +kernel
theorem dX11_durationFits_16 : decode cX11_durationFits 16 = .ok (.ireturn, 1) := by decide +kernel
theorem dX11_requireMachine_0 : decode cX11_requireMachine 0 = .ok (.iload_n 0, 1) := by decide +kernel
theorem dX11_requireMachine_1 : decode cX11_requireMachine 1 = .ok (.invokestatic 391, 3) := by decide +kernel
theorem dX11_requireMachine_4 : decode cX11_requireMachine 4 = .ok (.ifCond .ne 14, 3) := by decide +kernel
theorem dX11_requireMachine_7 : decode cX11_requireMachine 7 = .ok (.new 159, 3) := by decide +kernel
theorem dX11_requireMachine_10 : decode cX11_requireMachine 10 = .ok (.dup, 1) := by decide +kernel
theorem dX11_requireMachine_11 : decode cX11_requireMachine 11 = .ok (.ldc_w 394, 3) := by decide +kernel
theorem dX11_requireMachine_14 : decode cX11_requireMachine 14 = .ok (.invokespecial 163, 3) := by decide +kernel
theorem dX11_requireMachine_17 : decode cX11_requireMachine 17 = .ok (.athrow, 1) := by decide +kernel
theorem dX11_requireMachine_18 : decode cX11_requireMachine 18 = .ok (.return_, 1) := by decide +kernel
theorem dX11_requireRule_0 : decode cX11_requireRule 0 = .ok (.iload_n 0, 1) := by decide +kernel
theorem dX11_requireRule_1 : decode cX11_requireRule 1 = .ok (.iconst 3, 1) := by decide +kernel
theorem dX11_requireRule_2 : decode cX11_requireRule 2 = .ok (.invokestatic 138, 3) := by decide +kernel
theorem dX11_requireRule_5 : decode cX11_requireRule 5 = .ok (.ifCond .ne 14, 3) := by decide +kernel
theorem dX11_requireRule_8 : decode cX11_requireRule 8 = .ok (.new 92, 3) := by decide +kernel
theorem dX11_requireRule_11 : decode cX11_requireRule 11 = .ok (.dup, 1) := by decide +kernel
theorem dX11_requireRule_12 : decode cX11_requireRule 12 = .ok (.ldc_w 396, 3) := by decide +kernel
theorem dX11_requireRule_15 : decode cX11_requireRule 15 = .ok (.invokespecial 96, 3) := by decide +kernel
theorem dX11_requireRule_18 : decode cX11_requireRule 18 = .ok (.athrow, 1) := by decide +kernel
theorem dX11_requireRule_19 : decode cX11_requireRule 19 = .ok (.return_, 1) := by decide +kernel
theorem dX11_requireJob_0 : decode cX11_requireJob 0 = .ok (.iload_n 1, 1) := by decide +kernel
theorem dX11_requireJob_1 : decode cX11_requireJob 1 = .ok (.ifCond .lt 14, 3) := by decide +kernel
theorem dX11_requireJob_4 : decode cX11_requireJob 4 = .ok (.iload_n 1, 1) := by decide +kernel
theorem dX11_requireJob_5 : decode cX11_requireJob 5 = .ok (.aload_n 0, 1) := by decide +kernel
theorem dX11_requireJob_6 : decode cX11_requireJob 6 = .ok (.getfield 10, 3) := by decide +kernel
theorem dX11_requireJob_9 : decode cX11_requireJob 9 = .ok (.getfield 99, 3) := by decide +kernel
theorem dX11_requireJob_12 : decode cX11_requireJob 12 = .ok (.if_icmp .lt 14, 3) := by decide +kernel
theorem dX11_requireJob_15 : decode cX11_requireJob 15 = .ok (.new 159, 3) := by decide +kernel
theorem dX11_requireJob_18 : decode cX11_requireJob 18 = .ok (.dup, 1) := by decide +kernel
theorem dX11_requireJob_19 : decode cX11_requireJob 19 = .ok (.ldc_w 398, 3) := by decide +kernel
theorem dX11_requireJob_22 : decode cX11_requireJob 22 = .ok (.invokespecial 163, 3) := by decide +kernel
theorem dX11_requireJob_25 : decode cX11_requireJob 25 = .ok (.athrow, 1) := by decide +kernel
theorem dX11_requireJob_26 : decode cX11_requireJob 26 = .ok (.return_, 1) := by decide +kernel
theorem dX11_requireOperation_0 : decode cX11_requireOperation 0 = .ok (.iload_n 1, 1) := by decide +kernel
theorem dX11_requireOperation_1 : decode cX11_requireOperation 1 = .ok (.ifCond .lt 14, 3) := by decide +kernel
theorem dX11_requireOperation_4 : decode cX11_requireOperation 4 = .ok (.iload_n 1, 1) := by decide +kernel
theorem dX11_requireOperation_5 : decode cX11_requireOperation 5 = .ok (.aload_n 0, 1) := by decide +kernel
theorem dX11_requireOperation_6 : decode cX11_requireOperation 6 = .ok (.getfield 10, 3) := by decide +kernel
theorem dX11_requireOperation_9 : decode cX11_requireOperation 9 = .ok (.getfield 181, 3) := by decide +kernel
theorem dX11_requireOperation_12 : decode cX11_requireOperation 12 = .ok (.if_icmp .lt 14, 3) := by decide +kernel
theorem dX11_requireOperation_15 : decode cX11_requireOperation 15 = .ok (.new 159, 3) := by decide +kernel
theorem dX11_requireOperation_18 : decode cX11_requireOperation 18 = .ok (.dup, 1) := by decide +kernel
theorem dX11_requireOperation_19 : decode cX11_requireOperation 19 = .ok (.ldc_w 400, 3) := by decide +kernel
theorem dX11_requireOperation_22 : decode cX11_requireOperation 22 = .ok (.invokespecial 163, 3) := by decide +kernel
theorem dX11_requireOperation_25 : decode cX11_requireOperation 25 = .ok (.athrow, 1) := by decide +kernel
theorem dX11_requireOperation_26 : decode cX11_requireOperation 26 = .ok (.return_, 1) := by decide +kernel
theorem dX11_presentSpan_0 : decode cX11_presentSpan 0 = .ok (.aload_n 0, 1) := by decide +kernel
theorem dX11_presentSpan_1 : decode cX11_presentSpan 1 = .ok (.getfield 25, 3) := by decide +kernel
theorem dX11_presentSpan_4 : decode cX11_presentSpan 4 = .ok (.aload_n 0, 1) := by decide +kernel
theorem dX11_presentSpan_5 : decode cX11_presentSpan 5 = .ok (.getfield 10, 3) := by decide +kernel
theorem dX11_presentSpan_8 : decode cX11_presentSpan 8 = .ok (.invokevirtual 221, 3) := by decide +kernel
theorem dX11_presentSpan_11 : decode cX11_presentSpan 11 = .ok (.pop, 1) := by decide +kernel
theorem dX11_presentSpan_12 : decode cX11_presentSpan 12 = .ok (.aload_n 0, 1) := by decide +kernel
theorem dX11_presentSpan_13 : decode cX11_presentSpan 13 = .ok (.getfield 25, 3) := by decide +kernel
theorem dX11_presentSpan_16 : decode cX11_presentSpan 16 = .ok (.getfield 242, 3) := by decide +kernel
theorem dX11_presentSpan_19 : decode cX11_presentSpan 19 = .ok (.ireturn, 1) := by decide +kernel
theorem dX11_traceCritical_0 : decode cX11_traceCritical 0 = .ok (.aload_n 0, 1) := by decide +kernel
theorem dX11_traceCritical_1 : decode cX11_traceCritical 1 = .ok (.getfield 25, 3) := by decide +kernel
theorem dX11_traceCritical_4 : decode cX11_traceCritical 4 = .ok (.aload_n 0, 1) := by decide +kernel
theorem dX11_traceCritical_5 : decode cX11_traceCritical 5 = .ok (.getfield 10, 3) := by decide +kernel
theorem dX11_traceCritical_8 : decode cX11_traceCritical 8 = .ok (.invokevirtual 221, 3) := by decide +kernel
theorem dX11_traceCritical_11 : decode cX11_traceCritical 11 = .ok (.pop, 1) := by decide +kernel
theorem dX11_traceCritical_12 : decode cX11_traceCritical 12 = .ok (.aload_n 0, 1) := by decide +kernel
theorem dX11_traceCritical_13 : decode cX11_traceCritical 13 = .ok (.getfield 35, 3) := by decide +kernel
theorem dX11_traceCritical_16 : decode cX11_traceCritical 16 = .ok (.aload_n 0, 1) := by decide +kernel
theorem dX11_traceCritical_17 : decode cX11_traceCritical 17 = .ok (.getfield 10, 3) := by decide +kernel
theorem dX11_traceCritical_20 : decode cX11_traceCritical 20 = .ok (.aload_n 0, 1) := by decide +kernel
theorem dX11_traceCritical_21 : decode cX11_traceCritical 21 = .ok (.getfield 25, 3) := by decide +kernel
theorem dX11_traceCritical_24 : decode cX11_traceCritical 24 = .ok (.invokevirtual 402, 3) := by decide +kernel
theorem dX11_traceCritical_27 : decode cX11_traceCritical 27 = .ok (.return_, 1) := by decide +kernel
theorem dX11_dispatchFrom_0 : decode cX11_dispatchFrom 0 = .ok (.aload_n 0, 1) := by decide +kernel
theorem dX11_dispatchFrom_1 : decode cX11_dispatchFrom 1 = .ok (.getfield 25, 3) := by decide +kernel
theorem dX11_dispatchFrom_4 : decode cX11_dispatchFrom 4 = .ok (.aload_n 0, 1) := by decide +kernel
theorem dX11_dispatchFrom_5 : decode cX11_dispatchFrom 5 = .ok (.getfield 10, 3) := by decide +kernel
theorem dX11_dispatchFrom_8 : decode cX11_dispatchFrom 8 = .ok (.invokevirtual 221, 3) := by decide +kernel
theorem dX11_dispatchFrom_11 : decode cX11_dispatchFrom 11 = .ok (.pop, 1) := by decide +kernel
theorem dX11_dispatchFrom_12 : decode cX11_dispatchFrom 12 = .ok (.aload_n 0, 1) := by decide +kernel
theorem dX11_dispatchFrom_13 : decode cX11_dispatchFrom 13 = .ok (.getfield 42, 3) := by decide +kernel
theorem dX11_dispatchFrom_16 : decode cX11_dispatchFrom 16 = .ok (.aload_n 0, 1) := by decide +kernel
theorem dX11_dispatchFrom_17 : decode cX11_dispatchFrom 17 = .ok (.getfield 10, 3) := by decide +kernel
theorem dX11_dispatchFrom_20 : decode cX11_dispatchFrom 20 = .ok (.aload_n 0, 1) := by decide +kernel
theorem dX11_dispatchFrom_21 : decode cX11_dispatchFrom 21 = .ok (.getfield 25, 3) := by decide +kernel
theorem dX11_dispatchFrom_24 : decode cX11_dispatchFrom 24 = .ok (.iload_n 1, 1) := by decide +kernel
theorem dX11_dispatchFrom_25 : decode cX11_dispatchFrom 25 = .ok (.iload_n 2, 1) := by decide +kernel
theorem dX11_dispatchFrom_26 : decode cX11_dispatchFrom 26 = .ok (.invokevirtual 406, 3) := by decide +kernel
theorem dX11_dispatchFrom_29 : decode cX11_dispatchFrom 29 = .ok (.aload_n 0, 1) := by decide +kernel
theorem dX11_dispatchFrom_30 : decode cX11_dispatchFrom 30 = .ok (.invokevirtual 234, 3) := by decide +kernel
theorem dX11_dispatchFrom_33 : decode cX11_dispatchFrom 33 = .ok (.ireturn, 1) := by decide +kernel
theorem dX11_noteCycle_0 : decode cX11_noteCycle 0 = .ok (.aload_n 0, 1) := by decide +kernel
theorem dX11_noteCycle_1 : decode cX11_noteCycle 1 = .ok (.getfield 84, 3) := by decide +kernel
theorem dX11_noteCycle_4 : decode cX11_noteCycle 4 = .ok (.iconst 1, 1) := by decide +kernel
theorem dX11_noteCycle_5 : decode cX11_noteCycle 5 = .ok (.invokevirtual 361, 3) := by decide +kernel
theorem dX11_noteCycle_8 : decode cX11_noteCycle 8 = .ok (.aload_n 0, 1) := by decide +kernel
theorem dX11_noteCycle_9 : decode cX11_noteCycle 9 = .ok (.getfield 84, 3) := by decide +kernel
theorem dX11_noteCycle_12 : decode cX11_noteCycle 12 = .ok (.bipush 100, 2) := by decide +kernel
theorem dX11_noteCycle_14 : decode cX11_noteCycle 14 = .ok (.aload_n 0, 1) := by decide +kernel
theorem dX11_noteCycle_15 : decode cX11_noteCycle 15 = .ok (.getfield 25, 3) := by decide +kernel
theorem dX11_noteCycle_18 : decode cX11_noteCycle 18 = .ok (.aload_n 0, 1) := by decide +kernel
theorem dX11_noteCycle_19 : decode cX11_noteCycle 19 = .ok (.getfield 10, 3) := by decide +kernel
theorem dX11_noteCycle_22 : decode cX11_noteCycle 22 = .ok (.invokevirtual 409, 3) := by decide +kernel
theorem dX11_noteCycle_25 : decode cX11_noteCycle 25 = .ok (.iadd, 1) := by decide +kernel
theorem dX11_noteCycle_26 : decode cX11_noteCycle 26 = .ok (.invokevirtual 364, 3) := by decide +kernel
theorem dX11_noteCycle_29 : decode cX11_noteCycle 29 = .ok (.aload_n 0, 1) := by decide +kernel
theorem dX11_noteCycle_30 : decode cX11_noteCycle 30 = .ok (.getfield 84, 3) := by decide +kernel
theorem dX11_noteCycle_33 : decode cX11_noteCycle 33 = .ok (.aload_n 0, 1) := by decide +kernel
theorem dX11_noteCycle_34 : decode cX11_noteCycle 34 = .ok (.getfield 10, 3) := by decide +kernel
theorem dX11_noteCycle_37 : decode cX11_noteCycle 37 = .ok (.getfield 181, 3) := by decide +kernel
theorem dX11_noteCycle_40 : decode cX11_noteCycle 40 = .ok (.aload_n 0, 1) := by decide +kernel
theorem dX11_noteCycle_41 : decode cX11_noteCycle 41 = .ok (.getfield 25, 3) := by decide +kernel
theorem dX11_noteCycle_44 : decode cX11_noteCycle 44 = .ok (.getfield 412, 3) := by decide +kernel
theorem dX11_noteCycle_47 : decode cX11_noteCycle 47 = .ok (.isub, 1) := by decide +kernel
theorem dX11_noteCycle_48 : decode cX11_noteCycle 48 = .ok (.invokevirtual 364, 3) := by decide +kernel
theorem dX11_noteCycle_51 : decode cX11_noteCycle 51 = .ok (.return_, 1) := by decide +kernel
theorem dX11_sumOfCompletions_0 : decode cX11_sumOfCompletions 0 = .ok (.iconst 0, 1) := by decide +kernel
theorem dX11_sumOfCompletions_1 : decode cX11_sumOfCompletions 1 = .ok (.istore_n 1, 1) := by decide +kernel
theorem dX11_sumOfCompletions_2 : decode cX11_sumOfCompletions 2 = .ok (.iconst 0, 1) := by decide +kernel
theorem dX11_sumOfCompletions_3 : decode cX11_sumOfCompletions 3 = .ok (.istore_n 2, 1) := by decide +kernel
theorem dX11_sumOfCompletions_4 : decode cX11_sumOfCompletions 4 = .ok (.iload_n 2, 1) := by decide +kernel
theorem dX11_sumOfCompletions_5 : decode cX11_sumOfCompletions 5 = .ok (.aload_n 0, 1) := by decide +kernel
theorem dX11_sumOfCompletions_6 : decode cX11_sumOfCompletions 6 = .ok (.getfield 10, 3) := by decide +kernel
theorem dX11_sumOfCompletions_9 : decode cX11_sumOfCompletions 9 = .ok (.getfield 99, 3) := by decide +kernel
theorem dX11_sumOfCompletions_12 : decode cX11_sumOfCompletions 12 = .ok (.if_icmp .ge 24, 3) := by decide +kernel
theorem dX11_sumOfCompletions_15 : decode cX11_sumOfCompletions 15 = .ok (.iload_n 1, 1) := by decide +kernel
theorem dX11_sumOfCompletions_16 : decode cX11_sumOfCompletions 16 = .ok (.aload_n 0, 1) := by decide +kernel
theorem dX11_sumOfCompletions_17 : decode cX11_sumOfCompletions 17 = .ok (.getfield 25, 3) := by decide +kernel
theorem dX11_sumOfCompletions_20 : decode cX11_sumOfCompletions 20 = .ok (.aload_n 0, 1) := by decide +kernel
theorem dX11_sumOfCompletions_21 : decode cX11_sumOfCompletions 21 = .ok (.getfield 10, 3) := by decide +kernel
theorem dX11_sumOfCompletions_24 : decode cX11_sumOfCompletions 24 = .ok (.iload_n 2, 1) := by decide +kernel
theorem dX11_sumOfCompletions_25 : decode cX11_sumOfCompletions 25 = .ok (.invokevirtual 245, 3) := by decide +kernel
theorem dX11_sumOfCompletions_28 : decode cX11_sumOfCompletions 28 = .ok (.iadd, 1) := by decide +kernel
theorem dX11_sumOfCompletions_29 : decode cX11_sumOfCompletions 29 = .ok (.istore_n 1, 1) := by decide +kernel
theorem dX11_sumOfCompletions_30 : decode cX11_sumOfCompletions 30 = .ok (.iinc 2 1, 3) := by decide +kernel
theorem dX11_sumOfCompletions_33 : decode cX11_sumOfCompletions 33 = .ok (.goto (-29), 3) := by decide +kernel
theorem dX11_sumOfCompletions_36 : decode cX11_sumOfCompletions 36 = .ok (.iload_n 1, 1) := by decide +kernel
theorem dX11_sumOfCompletions_37 : decode cX11_sumOfCompletions 37 = .ok (.ireturn, 1) := by decide +kernel
theorem dX11_tardinessOf_0 : decode cX11_tardinessOf 0 = .ok (.iconst 0, 1) := by decide +kernel
theorem dX11_tardinessOf_1 : decode cX11_tardinessOf 1 = .ok (.aload_n 0, 1) := by decide +kernel
theorem dX11_tardinessOf_2 : decode cX11_tardinessOf 2 = .ok (.getfield 25, 3) := by decide +kernel
theorem dX11_tardinessOf_5 : decode cX11_tardinessOf 5 = .ok (.aload_n 0, 1) := by decide +kernel
theorem dX11_tardinessOf_6 : decode cX11_tardinessOf 6 = .ok (.getfield 10, 3) := by decide +kernel
theorem dX11_tardinessOf_9 : decode cX11_tardinessOf 9 = .ok (.iload_n 1, 1) := by decide +kernel
theorem dX11_tardinessOf_10 : decode cX11_tardinessOf 10 = .ok (.invokevirtual 245, 3) := by decide +kernel
theorem dX11_tardinessOf_13 : decode cX11_tardinessOf 13 = .ok (.aload_n 0, 1) := by decide +kernel
theorem dX11_tardinessOf_14 : decode cX11_tardinessOf 14 = .ok (.getfield 10, 3) := by decide +kernel
theorem dX11_tardinessOf_17 : decode cX11_tardinessOf 17 = .ok (.getfield 147, 3) := by decide +kernel
theorem dX11_tardinessOf_20 : decode cX11_tardinessOf 20 = .ok (.iload_n 1, 1) := by decide +kernel
theorem dX11_tardinessOf_21 : decode cX11_tardinessOf 21 = .ok (.aaload, 1) := by decide +kernel
theorem dX11_tardinessOf_22 : decode cX11_tardinessOf 22 = .ok (.iconst 1, 1) := by decide +kernel
theorem dX11_tardinessOf_23 : decode cX11_tardinessOf 23 = .ok (.iaload, 1) := by decide +kernel
theorem dX11_tardinessOf_24 : decode cX11_tardinessOf 24 = .ok (.isub, 1) := by decide +kernel
theorem dX11_tardinessOf_25 : decode cX11_tardinessOf 25 = .ok (.invokestatic 415, 3) := by decide +kernel
theorem dX11_tardinessOf_28 : decode cX11_tardinessOf 28 = .ok (.ireturn, 1) := by decide +kernel
theorem dX11_weightedTardiness_0 : decode cX11_weightedTardiness 0 = .ok (.iconst 0, 1) := by decide +kernel
theorem dX11_weightedTardiness_1 : decode cX11_weightedTardiness 1 = .ok (.istore_n 1, 1) := by decide +kernel
theorem dX11_weightedTardiness_2 : decode cX11_weightedTardiness 2 = .ok (.iconst 0, 1) := by decide +kernel
theorem dX11_weightedTardiness_3 : decode cX11_weightedTardiness 3 = .ok (.istore_n 2, 1) := by decide +kernel
theorem dX11_weightedTardiness_4 : decode cX11_weightedTardiness 4 = .ok (.iload_n 2, 1) := by decide +kernel
theorem dX11_weightedTardiness_5 : decode cX11_weightedTardiness 5 = .ok (.aload_n 0, 1) := by decide +kernel
theorem dX11_weightedTardiness_6 : decode cX11_weightedTardiness 6 = .ok (.getfield 10, 3) := by decide +kernel
theorem dX11_weightedTardiness_9 : decode cX11_weightedTardiness 9 = .ok (.getfield 99, 3) := by decide +kernel
theorem dX11_weightedTardiness_12 : decode cX11_weightedTardiness 12 = .ok (.if_icmp .ge 29, 3) := by decide +kernel
theorem dX11_weightedTardiness_15 : decode cX11_weightedTardiness 15 = .ok (.iload_n 1, 1) := by decide +kernel
theorem dX11_weightedTardiness_16 : decode cX11_weightedTardiness 16 = .ok (.aload_n 0, 1) := by decide +kernel
theorem dX11_weightedTardiness_17 : decode cX11_weightedTardiness 17 = .ok (.getfield 10, 3) := by decide +kernel
theorem dX11_weightedTardiness_20 : decode cX11_weightedTardiness 20 = .ok (.getfield 147, 3) := by decide +kernel
theorem dX11_weightedTardiness_23 : decode cX11_weightedTardiness 23 = .ok (.iload_n 2, 1) := by decide +kernel
theorem dX11_weightedTardiness_24 : decode cX11_weightedTardiness 24 = .ok (.aaload, 1) := by decide +kernel
theorem dX11_weightedTardiness_25 : decode cX11_weightedTardiness 25 = .ok (.iconst 2, 1) := by decide +kernel
theorem dX11_weightedTardiness_26 : decode cX11_weightedTardiness 26 = .ok (.iaload, 1) := by decide +kernel
theorem dX11_weightedTardiness_27 : decode cX11_weightedTardiness 27 = .ok (.aload_n 0, 1) := by decide +kernel
theorem dX11_weightedTardiness_28 : decode cX11_weightedTardiness 28 = .ok (.iload_n 2, 1) := by decide +kernel
theorem dX11_weightedTardiness_29 : decode cX11_weightedTardiness 29 = .ok (.invokevirtual 420, 3) := by decide +kernel
theorem dX11_weightedTardiness_32 : decode cX11_weightedTardiness 32 = .ok (.imul, 1) := by decide +kernel
theorem dX11_weightedTardiness_33 : decode cX11_weightedTardiness 33 = .ok (.iadd, 1) := by decide +kernel
theorem dX11_weightedTardiness_34 : decode cX11_weightedTardiness 34 = .ok (.istore_n 1, 1) := by decide +kernel
theorem dX11_weightedTardiness_35 : decode cX11_weightedTardiness 35 = .ok (.iinc 2 1, 3) := by decide +kernel
theorem dX11_weightedTardiness_38 : decode cX11_weightedTardiness 38 = .ok (.goto (-34), 3) := by decide +kernel
theorem dX11_weightedTardiness_41 : decode cX11_weightedTardiness 41 = .ok (.iload_n 1, 1) := by decide +kernel
theorem dX11_weightedTardiness_42 : decode cX11_weightedTardiness 42 = .ok (.ireturn, 1) := by decide +kernel
theorem dX11_tardyJobs_0 : decode cX11_tardyJobs 0 = .ok (.iconst 0, 1) := by decide +kernel
theorem dX11_tardyJobs_1 : decode cX11_tardyJobs 1 = .ok (.istore_n 1, 1) := by decide +kernel
theorem dX11_tardyJobs_2 : decode cX11_tardyJobs 2 = .ok (.iconst 0, 1) := by decide +kernel
theorem dX11_tardyJobs_3 : decode cX11_tardyJobs 3 = .ok (.istore_n 2, 1) := by decide +kernel
theorem dX11_tardyJobs_4 : decode cX11_tardyJobs 4 = .ok (.iload_n 2, 1) := by decide +kernel
theorem dX11_tardyJobs_5 : decode cX11_tardyJobs 5 = .ok (.aload_n 0, 1) := by decide +kernel
theorem dX11_tardyJobs_6 : decode cX11_tardyJobs 6 = .ok (.getfield 10, 3) := by decide +kernel
theorem dX11_tardyJobs_9 : decode cX11_tardyJobs 9 = .ok (.getfield 99, 3) := by decide +kernel
theorem dX11_tardyJobs_12 : decode cX11_tardyJobs 12 = .ok (.if_icmp .ge 20, 3) := by decide +kernel
theorem dX11_tardyJobs_15 : decode cX11_tardyJobs 15 = .ok (.aload_n 0, 1) := by decide +kernel
theorem dX11_tardyJobs_16 : decode cX11_tardyJobs 16 = .ok (.iload_n 2, 1) := by decide +kernel
theorem dX11_tardyJobs_17 : decode cX11_tardyJobs 17 = .ok (.invokevirtual 420, 3) := by decide +kernel
theorem dX11_tardyJobs_20 : decode cX11_tardyJobs 20 = .ok (.ifCond .le 6, 3) := by decide +kernel
theorem dX11_tardyJobs_23 : decode cX11_tardyJobs 23 = .ok (.iinc 1 1, 3) := by decide +kernel
theorem dX11_tardyJobs_26 : decode cX11_tardyJobs 26 = .ok (.iinc 2 1, 3) := by decide +kernel
theorem dX11_tardyJobs_29 : decode cX11_tardyJobs 29 = .ok (.goto (-25), 3) := by decide +kernel
theorem dX11_tardyJobs_32 : decode cX11_tardyJobs 32 = .ok (.iload_n 1, 1) := by decide +kernel
theorem dX11_tardyJobs_33 : decode cX11_tardyJobs 33 = .ok (.ireturn, 1) := by decide +kernel
theorem dX11_sumOfSetups_0 : decode cX11_sumOfSetups 0 = .ok (.iconst 0, 1) := by decide +kernel
theorem dX11_sumOfSetups_1 : decode cX11_sumOfSetups 1 = .ok (.istore_n 1, 1) := by decide +kernel
theorem dX11_sumOfSetups_2 : decode cX11_sumOfSetups 2 = .ok (.iconst 0, 1) := by decide +kernel
theorem dX11_sumOfSetups_3 : decode cX11_sumOfSetups 3 = .ok (.istore_n 2, 1) := by decide +kernel
theorem dX11_sumOfSetups_4 : decode cX11_sumOfSetups 4 = .ok (.iload_n 2, 1) := by decide +kernel
theorem dX11_sumOfSetups_5 : decode cX11_sumOfSetups 5 = .ok (.iconst 4, 1) := by decide +kernel
theorem dX11_sumOfSetups_6 : decode cX11_sumOfSetups 6 = .ok (.if_icmp .ge 68, 3) := by decide +kernel
theorem dX11_sumOfSetups_9 : decode cX11_sumOfSetups 9 = .ok (.aload_n 0, 1) := by decide +kernel
theorem dX11_sumOfSetups_10 : decode cX11_sumOfSetups 10 = .ok (.getfield 10, 3) := by decide +kernel
theorem dX11_sumOfSetups_13 : decode cX11_sumOfSetups 13 = .ok (.getfield 196, 3) := by decide +kernel
theorem dX11_sumOfSetups_16 : decode cX11_sumOfSetups 16 = .ok (.getfield 216, 3) := by decide +kernel
theorem dX11_sumOfSetups_19 : decode cX11_sumOfSetups 19 = .ok (.iload_n 2, 1) := by decide +kernel
theorem dX11_sumOfSetups_20 : decode cX11_sumOfSetups 20 = .ok (.aaload, 1) := by decide +kernel
theorem dX11_sumOfSetups_21 : decode cX11_sumOfSetups 21 = .ok (.astore_n 3, 1) := by decide +kernel
theorem dX11_sumOfSetups_22 : decode cX11_sumOfSetups 22 = .ok (.iconst 1, 1) := by decide +kernel
theorem dX11_sumOfSetups_23 : decode cX11_sumOfSetups 23 = .ok (.istore 4, 2) := by decide +kernel
theorem dX11_sumOfSetups_25 : decode cX11_sumOfSetups 25 = .ok (.iload 4, 2) := by decide +kernel
theorem dX11_sumOfSetups_27 : decode cX11_sumOfSetups 27 = .ok (.aload_n 0, 1) := by decide +kernel
theorem dX11_sumOfSetups_28 : decode cX11_sumOfSetups 28 = .ok (.getfield 10, 3) := by decide +kernel
theorem dX11_sumOfSetups_31 : decode cX11_sumOfSetups 31 = .ok (.getfield 196, 3) := by decide +kernel
theorem dX11_sumOfSetups_34 : decode cX11_sumOfSetups 34 = .ok (.getfield 266, 3) := by decide +kernel
theorem dX11_sumOfSetups_37 : decode cX11_sumOfSetups 37 = .ok (.iload_n 2, 1) := by decide +kernel
theorem dX11_sumOfSetups_38 : decode cX11_sumOfSetups 38 = .ok (.iaload, 1) := by decide +kernel
theorem dX11_sumOfSetups_39 : decode cX11_sumOfSetups 39 = .ok (.if_icmp .ge 29, 3) := by decide +kernel
theorem dX11_sumOfSetups_42 : decode cX11_sumOfSetups 42 = .ok (.iload_n 1, 1) := by decide +kernel
theorem dX11_sumOfSetups_43 : decode cX11_sumOfSetups 43 = .ok (.aload_n 0, 1) := by decide +kernel
theorem dX11_sumOfSetups_44 : decode cX11_sumOfSetups 44 = .ok (.getfield 10, 3) := by decide +kernel
theorem dX11_sumOfSetups_47 : decode cX11_sumOfSetups 47 = .ok (.aload_n 3, 1) := by decide +kernel
theorem dX11_sumOfSetups_48 : decode cX11_sumOfSetups 48 = .ok (.iload 4, 2) := by decide +kernel
theorem dX11_sumOfSetups_50 : decode cX11_sumOfSetups 50 = .ok (.iconst 1, 1) := by decide +kernel
theorem dX11_sumOfSetups_51 : decode cX11_sumOfSetups 51 = .ok (.isub, 1) := by decide +kernel
theorem dX11_sumOfSetups_52 : decode cX11_sumOfSetups 52 = .ok (.iaload, 1) := by decide +kernel
theorem dX11_sumOfSetups_53 : decode cX11_sumOfSetups 53 = .ok (.aload_n 3, 1) := by decide +kernel
theorem dX11_sumOfSetups_54 : decode cX11_sumOfSetups 54 = .ok (.iload 4, 2) := by decide +kernel
theorem dX11_sumOfSetups_56 : decode cX11_sumOfSetups 56 = .ok (.iaload, 1) := by decide +kernel
theorem dX11_sumOfSetups_57 : decode cX11_sumOfSetups 57 = .ok (.invokevirtual 423, 3) := by decide +kernel
theorem dX11_sumOfSetups_60 : decode cX11_sumOfSetups 60 = .ok (.iadd, 1) := by decide +kernel
theorem dX11_sumOfSetups_61 : decode cX11_sumOfSetups 61 = .ok (.istore_n 1, 1) := by decide +kernel
theorem dX11_sumOfSetups_62 : decode cX11_sumOfSetups 62 = .ok (.iinc 4 1, 3) := by decide +kernel
theorem dX11_sumOfSetups_65 : decode cX11_sumOfSetups 65 = .ok (.goto (-40), 3) := by decide +kernel
theorem dX11_sumOfSetups_68 : decode cX11_sumOfSetups 68 = .ok (.iinc 2 1, 3) := by decide +kernel
theorem dX11_sumOfSetups_71 : decode cX11_sumOfSetups 71 = .ok (.goto (-67), 3) := by decide +kernel
theorem dX11_sumOfSetups_74 : decode cX11_sumOfSetups 74 = .ok (.iload_n 1, 1) := by decide +kernel
theorem dX11_sumOfSetups_75 : decode cX11_sumOfSetups 75 = .ok (.ireturn, 1) := by decide +kernel
theorem dX11_sumOfWaits_0 : decode cX11_sumOfWaits 0 = .ok (.iconst 0, 1) := by decide +kernel
theorem dX11_sumOfWaits_1 : decode cX11_sumOfWaits 1 = .ok (.istore_n 1, 1) := by decide +kernel
theorem dX11_sumOfWaits_2 : decode cX11_sumOfWaits 2 = .ok (.iconst 0, 1) := by decide +kernel
theorem dX11_sumOfWaits_3 : decode cX11_sumOfWaits 3 = .ok (.istore_n 2, 1) := by decide +kernel
theorem dX11_sumOfWaits_4 : decode cX11_sumOfWaits 4 = .ok (.iload_n 2, 1) := by decide +kernel
theorem dX11_sumOfWaits_5 : decode cX11_sumOfWaits 5 = .ok (.aload_n 0, 1) := by decide +kernel
theorem dX11_sumOfWaits_6 : decode cX11_sumOfWaits 6 = .ok (.getfield 10, 3) := by decide +kernel
theorem dX11_sumOfWaits_9 : decode cX11_sumOfWaits 9 = .ok (.getfield 181, 3) := by decide +kernel
theorem dX11_sumOfWaits_12 : decode cX11_sumOfWaits 12 = .ok (.if_icmp .ge 31, 3) := by decide +kernel
theorem dX11_sumOfWaits_15 : decode cX11_sumOfWaits 15 = .ok (.iload_n 1, 1) := by decide +kernel
theorem dX11_sumOfWaits_16 : decode cX11_sumOfWaits 16 = .ok (.aload_n 0, 1) := by decide +kernel
theorem dX11_sumOfWaits_17 : decode cX11_sumOfWaits 17 = .ok (.getfield 25, 3) := by decide +kernel
theorem dX11_sumOfWaits_20 : decode cX11_sumOfWaits 20 = .ok (.getfield 228, 3) := by decide +kernel
theorem dX11_sumOfWaits_23 : decode cX11_sumOfWaits 23 = .ok (.iload_n 2, 1) := by decide +kernel
theorem dX11_sumOfWaits_24 : decode cX11_sumOfWaits 24 = .ok (.iaload, 1) := by decide +kernel
theorem dX11_sumOfWaits_25 : decode cX11_sumOfWaits 25 = .ok (.aload_n 0, 1) := by decide +kernel
theorem dX11_sumOfWaits_26 : decode cX11_sumOfWaits 26 = .ok (.getfield 25, 3) := by decide +kernel
theorem dX11_sumOfWaits_29 : decode cX11_sumOfWaits 29 = .ok (.getfield 225, 3) := by decide +kernel
theorem dX11_sumOfWaits_32 : decode cX11_sumOfWaits 32 = .ok (.iload_n 2, 1) := by decide +kernel
theorem dX11_sumOfWaits_33 : decode cX11_sumOfWaits 33 = .ok (.iaload, 1) := by decide +kernel
theorem dX11_sumOfWaits_34 : decode cX11_sumOfWaits 34 = .ok (.isub, 1) := by decide +kernel
theorem dX11_sumOfWaits_35 : decode cX11_sumOfWaits 35 = .ok (.iadd, 1) := by decide +kernel
theorem dX11_sumOfWaits_36 : decode cX11_sumOfWaits 36 = .ok (.istore_n 1, 1) := by decide +kernel
theorem dX11_sumOfWaits_37 : decode cX11_sumOfWaits 37 = .ok (.iinc 2 1, 3) := by decide +kernel
theorem dX11_sumOfWaits_40 : decode cX11_sumOfWaits 40 = .ok (.goto (-36), 3) := by decide +kernel
theorem dX11_sumOfWaits_43 : decode cX11_sumOfWaits 43 = .ok (.iload_n 1, 1) := by decide +kernel
theorem dX11_sumOfWaits_44 : decode cX11_sumOfWaits 44 = .ok (.ireturn, 1) := by decide +kernel
theorem dX11_copyRow_0 : decode cX11_copyRow 0 = .ok (.aload_n 0, 1) := by decide +kernel
theorem dX11_copyRow_1 : decode cX11_copyRow 1 = .ok (.iconst 0, 1) := by decide +kernel
theorem dX11_copyRow_2 : decode cX11_copyRow 2 = .ok (.aload_n 1, 1) := by decide +kernel
theorem dX11_copyRow_3 : decode cX11_copyRow 3 = .ok (.iconst 0, 1) := by decide +kernel
theorem dX11_copyRow_4 : decode cX11_copyRow 4 = .ok (.aload_n 0, 1) := by decide +kernel
theorem dX11_copyRow_5 : decode cX11_copyRow 5 = .ok (.arraylength, 1) := by decide +kernel
theorem dX11_copyRow_6 : decode cX11_copyRow 6 = .ok (.aload_n 1, 1) := by decide +kernel
theorem dX11_copyRow_7 : decode cX11_copyRow 7 = .ok (.arraylength, 1) := by decide +kernel
theorem dX11_copyRow_8 : decode cX11_copyRow 8 = .ok (.invokestatic 426, 3) := by decide +kernel
theorem dX11_copyRow_11 : decode cX11_copyRow 11 = .ok (.invokestatic 429, 3) := by decide +kernel
theorem dX11_copyRow_14 : decode cX11_copyRow 14 = .ok (.return_, 1) := by decide +kernel
theorem dX11_copyRows_0 : decode cX11_copyRows 0 = .ok (.aload_n 0, 1) := by decide +kernel
theorem dX11_copyRows_1 : decode cX11_copyRows 1 = .ok (.arraylength, 1) := by decide +kernel
theorem dX11_copyRows_2 : decode cX11_copyRows 2 = .ok (.aload_n 1, 1) := by decide +kernel
theorem dX11_copyRows_3 : decode cX11_copyRows 3 = .ok (.arraylength, 1) := by decide +kernel
theorem dX11_copyRows_4 : decode cX11_copyRows 4 = .ok (.invokestatic 426, 3) := by decide +kernel
theorem dX11_copyRows_7 : decode cX11_copyRows 7 = .ok (.istore_n 2, 1) := by decide +kernel
theorem dX11_copyRows_8 : decode cX11_copyRows 8 = .ok (.iconst 0, 1) := by decide +kernel
theorem dX11_copyRows_9 : decode cX11_copyRows 9 = .ok (.istore_n 3, 1) := by decide +kernel
theorem dX11_copyRows_10 : decode cX11_copyRows 10 = .ok (.iload_n 3, 1) := by decide +kernel
theorem dX11_copyRows_11 : decode cX11_copyRows 11 = .ok (.iload_n 2, 1) := by decide +kernel
theorem dX11_copyRows_12 : decode cX11_copyRows 12 = .ok (.if_icmp .ge 18, 3) := by decide +kernel
theorem dX11_copyRows_15 : decode cX11_copyRows 15 = .ok (.aload_n 0, 1) := by decide +kernel
theorem dX11_copyRows_16 : decode cX11_copyRows 16 = .ok (.iload_n 3, 1) := by decide +kernel
theorem dX11_copyRows_17 : decode cX11_copyRows 17 = .ok (.aaload, 1) := by decide +kernel
theorem dX11_copyRows_18 : decode cX11_copyRows 18 = .ok (.aload_n 1, 1) := by decide +kernel
theorem dX11_copyRows_19 : decode cX11_copyRows 19 = .ok (.iload_n 3, 1) := by decide +kernel
theorem dX11_copyRows_20 : decode cX11_copyRows 20 = .ok (.aaload, 1) := by decide +kernel
theorem dX11_copyRows_21 : decode cX11_copyRows 21 = .ok (.invokestatic 435, 3) := by decide +kernel
theorem dX11_copyRows_24 : decode cX11_copyRows 24 = .ok (.iinc 3 1, 3) := by decide +kernel
theorem dX11_copyRows_27 : decode cX11_copyRows 27 = .ok (.goto (-17), 3) := by decide +kernel
theorem dX11_copyRows_30 : decode cX11_copyRows 30 = .ok (.return_, 1) := by decide +kernel
