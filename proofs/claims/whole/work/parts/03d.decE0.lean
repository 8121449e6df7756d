theorem dX12_init_0 : decode cX12_init 0 = .ok (.aload_n 0, 1) := by decide +kernel
theorem dX12_init_1 : decode cX12_init 1 = .ok (.invokespecial 3, 3) := by decide +kernel
theorem dX12_init_4 : decode cX12_init 4 = .ok (.aload_n 0, 1) := by decide +kernel
theorem dX12_init_5 : decode cX12_init 5 = .ok (.sipush 203, 3) := by decide +kernel
theorem dX12_init_8 : decode cX12_init 8 = .ok (.newarray .int, 2) := by decide +kernel
theorem dX12_init_10 : decode cX12_init 10 = .ok (.putfield 9, 3) := by decide +kernel
theorem dX12_init_13 : decode cX12_init 13 = .ok (.aload_n 0, 1) := by decide +kernel
theorem dX12_init_14 : decode cX12_init 14 = .ok (.sipush 203, 3) := by decide +kernel
theorem dX12_init_17 : decode cX12_init 17 = .ok (.newarray .int, 2) := by decide +kernel
theorem dX12_init_19 : decode cX12_init 19 = .ok (.putfield 13, 3) := by decide +kernel
theorem dX12_init_22 : decode cX12_init 22 = .ok (.aload_n 0, 1) := by decide +kernel
theorem dX12_init_23 : decode cX12_init 23 = .ok (.bipush 80, 2) := by decide +kernel
theorem dX12_init_25 : decode cX12_init 25 = .ok (.newarray .char, 2) := by decide +kernel
theorem dX12_init_27 : decode cX12_init 27 = .ok (.putfield 16, 3) := by decide +kernel
theorem dX12_init_30 : decode cX12_init 30 = .ok (.aload_n 0, 1) := by decide +kernel
theorem dX12_init_31 : decode cX12_init 31 = .ok (.iconst 5, 1) := by decide +kernel
theorem dX12_init_32 : decode cX12_init 32 = .ok (.newarray .int, 2) := by decide +kernel
theorem dX12_init_34 : decode cX12_init 34 = .ok (.putfield 20, 3) := by decide +kernel
theorem dX12_init_37 : decode cX12_init 37 = .ok (.aload_n 0, 1) := by decide +kernel
theorem dX12_init_38 : decode cX12_init 38 = .ok (.iconst 4, 1) := by decide +kernel
theorem dX12_init_39 : decode cX12_init 39 = .ok (.newarray .int, 2) := by decide +kernel
theorem dX12_init_41 : decode cX12_init 41 = .ok (.putfield 23, 3) := by decide +kernel
theorem dX12_init_44 : decode cX12_init 44 = .ok (.aload_n 0, 1) := by decide +kernel
theorem dX12_init_45 : decode cX12_init 45 = .ok (.bipush 20, 2) := by decide +kernel
theorem dX12_init_47 : decode cX12_init 47 = .ok (.newarray .int, 2) := by decide +kernel
theorem dX12_init_49 : decode cX12_init 49 = .ok (.putfield 26, 3) := by decide +kernel
theorem dX12_init_52 : decode cX12_init 52 = .ok (.aload_n 0, 1) := by decide +kernel
theorem dX12_init_53 : decode cX12_init 53 = .ok (.bipush 20, 2) := by decide +kernel
theorem dX12_init_55 : decode cX12_init 55 = .ok (.newarray .int, 2) := by decide +kernel
theorem dX12_init_57 : decode cX12_init 57 = .ok (.putfield 29, 3) := by decide +kernel
theorem dX12_init_60 : decode cX12_init 60 = .ok (.aload_n 0, 1) := by decide +kernel
theorem dX12_init_61 : decode cX12_init 61 = .ok (.iconst 4, 1) := by decide +kernel
theorem dX12_init_62 : decode cX12_init 62 = .ok (.newarray .boolean, 2) := by decide +kernel
theorem dX12_init_64 : decode cX12_init 64 = .ok (.putfield 32, 3) := by decide +kernel
theorem dX12_init_67 : decode cX12_init 67 = .ok (.aload_n 0, 1) := by decide +kernel
theorem dX12_init_68 : decode cX12_init 68 = .ok (.iconst (-1), 1) := by decide +kernel
theorem dX12_init_69 : decode cX12_init 69 = .ok (.putfield 36, 3) := by decide +kernel
theorem dX12_init_72 : decode cX12_init 72 = .ok (.aload_n 0, 1) := by decide +kernel
theorem dX12_init_73 : decode cX12_init 73 = .ok (.bipush 20, 2) := by decide +kernel
theorem dX12_init_75 : decode cX12_init 75 = .ok (.newarray .int, 2) := by decide +kernel
theorem dX12_init_77 : decode cX12_init 77 = .ok (.putfield 40, 3) := by decide +kernel
theorem dX12_init_80 : decode cX12_init 80 = .ok (.aload_n 0, 1) := by decide +kernel
theorem dX12_init_81 : decode cX12_init 81 = .ok (.iconst 5, 1) := by decide +kernel
theorem dX12_init_82 : decode cX12_init 82 = .ok (.newarray .int, 2) := by decide +kernel
theorem dX12_init_84 : decode cX12_init 84 = .ok (.putfield 43, 3) := by decide +kernel
theorem dX12_init_87 : decode cX12_init 87 = .ok (.aload_n 0, 1) := by decide +kernel
theorem dX12_init_88 : decode cX12_init 88 = .ok (.bipush 20, 2) := by decide +kernel
theorem dX12_init_90 : decode cX12_init 90 = .ok (.newarray .int, 2) := by decide +kernel
theorem dX12_init_92 : decode cX12_init 92 = .ok (.putfield 46, 3) := by decide +kernel
theorem dX12_init_95 : decode cX12_init 95 = .ok (.aload_n 0, 1) := by decide +kernel
theorem dX12_init_96 : decode cX12_init 96 = .ok (.iconst 5, 1) := by decide +kernel
theorem dX12_init_97 : decode cX12_init 97 = .ok (.newarray .int, 2) := by decide +kernel
theorem dX12_init_99 : decode cX12_init 99 = .ok (.putfield 49, 3) := by decide +kernel
theorem dX12_init_102 : decode cX12_init 102 = .ok (.aload_n 0, 1) := by decide +kernel
theorem dX12_init_103 : decode cX12_init 103 = .ok (.bipush 20, 2) := by decide +kernel
theorem dX12_init_105 : decode cX12_init 105 = .ok (.newarray .boolean, 2) := by decide +kernel
theorem dX12_init_107 : decode cX12_init 107 = .ok (.putfield 52, 3) := by decide +kernel
theorem dX12_init_110 : decode cX12_init 110 = .ok (.aload_n 0, 1) := by decide +kernel
theorem dX12_init_111 : decode cX12_init 111 = .ok (.iconst 5, 1) := by decide +kernel
theorem dX12_init_112 : decode cX12_init 112 = .ok (.newarray .int, 2) := by decide +kernel
theorem dX12_init_114 : decode cX12_init 114 = .ok (.putfield 55, 3) := by decide +kernel
theorem dX12_init_117 : decode cX12_init 117 = .ok (.aload_n 0, 1) := by decide +kernel
theorem dX12_init_118 : decode cX12_init 118 = .ok (.sipush 400, 3) := by decide +kernel
theorem dX12_init_121 : decode cX12_init 121 = .ok (.newarray .int, 2) := by decide +kernel
theorem dX12_init_123 : decode cX12_init 123 = .ok (.putfield 58, 3) := by decide +kernel
theorem dX12_init_126 : decode cX12_init 126 = .ok (.aload_n 0, 1) := by decide +kernel
theorem dX12_init_127 : decode cX12_init 127 = .ok (.bipush 20, 2) := by decide +kernel
theorem dX12_init_129 : decode cX12_init 129 = .ok (.newarray .int, 2) := by decide +kernel
theorem dX12_init_131 : decode cX12_init 131 = .ok (.putfield 61, 3) := by decide +kernel
theorem dX12_init_134 : decode cX12_init 134 = .ok (.aload_n 0, 1) := by decide +kernel
theorem dX12_init_135 : decode cX12_init 135 = .ok (.bipush 20, 2) := by decide +kernel
theorem dX12_init_137 : decode cX12_init 137 = .ok (.newarray .boolean, 2) := by decide +kernel
theorem dX12_init_139 : decode cX12_init 139 = .ok (.putfield 64, 3) := by decide +kernel
theorem dX12_init_142 : decode cX12_init 142 = .ok (.aload_n 0, 1) := by decide +kernel
theorem dX12_init_143 : decode cX12_init 143 = .ok (.bipush 20, 2) := by decide +kernel
theorem dX12_init_145 : decode cX12_init 145 = .ok (.newarray .int, 2) := by decide +kernel
theorem dX12_init_147 : decode cX12_init 147 = .ok (.putfield 67, 3) := by decide +kernel
theorem dX12_init_150 : decode cX12_init 150 = .ok (.aload_n 0, 1) := by decide +kernel
theorem dX12_init_151 : decode cX12_init 151 = .ok (.bipush 20, 2) := by decide +kernel
theorem dX12_init_153 : decode cX12_init 153 = .ok (.newarray .int, 2) := by decide +kernel
theorem dX12_init_155 : decode cX12_init 155 = .ok (.putfield 70, 3) := by decide +kernel
theorem dX12_init_158 : decode cX12_init 158 = .ok (.aload_n 0, 1) := by decide +kernel
theorem dX12_init_159 : decode cX12_init 159 = .ok (.bipush 20, 2) := by decide +kernel
theorem dX12_init_161 : decode cX12_init 161 = .ok (.newarray .int, 2) := by decide +kernel
theorem dX12_init_163 : decode cX12_init 163 = .ok (.putfield 73, 3) := by decide +kernel
theorem dX12_init_166 : decode cX12_init 166 = .ok (.aload_n 0, 1) := by decide +kernel
theorem dX12_init_167 : decode cX12_init 167 = .ok (.sipush 203, 3) := by decide +kernel
theorem dX12_init_170 : decode cX12_init 170 = .ok (.newarray .int, 2) := by decide +kernel
theorem dX12_init_172 : decode cX12_init 172 = .ok (.putfield 76, 3) := by decide +kernel
theorem dX12_init_175 : decode cX12_init 175 = .ok (.return_, 1) := by decide +kernel
theorem dX12_thrown_0 : decode cX12_thrown 0 = .ok (.aload_n 0, 1) := by decide +kernel
theorem dX12_thrown_1 : decode cX12_thrown 1 = .ok (.getfield 79, 3) := by decide +kernel
theorem dX12_thrown_4 : decode cX12_thrown 4 = .ok (.ireturn, 1) := by decide +kernel
theorem dX12_in_0 : decode cX12_in 0 = .ok (.lload_n 0, 1) := by decide +kernel
theorem dX12_in_1 : decode cX12_in 1 = .ok (.lload_n 2, 1) := by decide +kernel
theorem dX12_in_2 : decode cX12_in 2 = .ok (.lcmp, 1) := by decide +kernel
theorem dX12_in_3 : decode cX12_in 3 = .ok (.ifCond .lt 14, 3) := by decide +kernel
theorem dX12_in_6 : decode cX12_in 6 = .ok (.lload_n 0, 1) := by decide +kernel
theorem dX12_in_7 : decode cX12_in 7 = .ok (.lload 4, 2) := by decide +kernel
theorem dX12_in_9 : decode cX12_in 9 = .ok (.lcmp, 1) := by decide +kernel
theorem dX12_in_10 : decode cX12_in 10 = .ok (.ifCond .gt 7, 3) := by decide +kernel
theorem dX12_in_13 : decode cX12_in 13 = .ok (.iconst 1, 1) := by decide +kernel
theorem dX12_in_14 : decode cX12_in 14 = .ok (.goto 4, 3) := by decide +kernel
theorem dX12_in_17 : decode cX12_in 17 = .ok (.iconst 0, 1) := by decide +kernel
theorem dX12_in_18 : decode cX12_in 18 = .ok (.ireturn, 1) := by decide +kernel
theorem dX12_isJob_0 : decode cX12_isJob 0 = .ok (.iload_n 1, 1) := by decide +kernel
theorem dX12_isJob_1 : decode cX12_isJob 1 = .ok (.i2l, 1) := by decide +kernel
theorem dX12_isJob_2 : decode cX12_isJob 2 = .ok (.lconst 0, 1) := by decide +kernel
theorem dX12_isJob_3 : decode cX12_isJob 3 = .ok (.aload_n 0, 1) := by decide +kernel
theorem dX12_isJob_4 : decode cX12_isJob 4 = .ok (.getfield 9, 3) := by decide +kernel
theorem dX12_isJob_7 : decode cX12_isJob 7 = .ok (.iconst 0, 1) := by decide +kernel
theorem dX12_isJob_8 : decode cX12_isJob 8 = .ok (.iaload, 1) := by decide +kernel
theorem dX12_isJob_9 : decode cX12_isJob 9 = .ok (.iconst 1, 1) := by decide +kernel
theorem dX12_isJob_10 : decode cX12_isJob 10 = .ok (.isub, 1) := by decide +kernel
theorem dX12_isJob_11 : decode cX12_isJob 11 = .ok (.i2l, 1) := by decide +kernel
theorem dX12_isJob_12 : decode cX12_isJob 12 = .ok (.invokestatic 82, 3) := by decide +kernel
theorem dX12_isJob_15 : decode cX12_isJob 15 = .ok (.ireturn, 1) := by decide +kernel
theorem dX12_isOperation_0 : decode cX12_isOperation 0 = .ok (.iload_n 1, 1) := by decide +kernel
theorem dX12_isOperation_1 : decode cX12_isOperation 1 = .ok (.i2l, 1) := by decide +kernel
theorem dX12_isOperation_2 : decode cX12_isOperation 2 = .ok (.lconst 0, 1) := by decide +kernel
theorem dX12_isOperation_3 : decode cX12_isOperation 3 = .ok (.aload_n 0, 1) := by decide +kernel
theorem dX12_isOperation_4 : decode cX12_isOperation 4 = .ok (.getfield 9, 3) := by decide +kernel
theorem dX12_isOperation_7 : decode cX12_isOperation 7 = .ok (.iconst 1, 1) := by decide +kernel
theorem dX12_isOperation_8 : decode cX12_isOperation 8 = .ok (.iaload, 1) := by decide +kernel
theorem dX12_isOperation_9 : decode cX12_isOperation 9 = .ok (.iconst 1, 1) := by decide +kernel
theorem dX12_isOperation_10 : decode cX12_isOperation 10 = .ok (.isub, 1) := by decide +kernel
theorem dX12_isOperation_11 : decode cX12_isOperation 11 = .ok (.i2l, 1) := by decide +kernel
theorem dX12_isOperation_12 : decode cX12_isOperation 12 = .ok (.invokestatic 82, 3) := by decide +kernel
theorem dX12_isOperation_15 : decode cX12_isOperation 15 = .ok (.ireturn, 1) := by decide +kernel
theorem dX12_isMachine_0 : decode cX12_isMachine 0 = .ok (.iload_n 0, 1) := by decide +kernel
theorem dX12_isMachine_1 : decode cX12_isMachine 1 = .ok (.i2l, 1) := by decide +kernel
theorem dX12_isMachine_2 : decode cX12_isMachine 2 = .ok (.lconst 0, 1) := by decide +kernel
theorem dX12_isMachine_3 : decode cX12_isMachine 3 = .ok (.ldc2_w 86, 3) := by decide +kernel
theorem dX12_isMachine_6 : decode cX12_isMachine 6 = .ok (.invokestatic 82, 3) := by decide +kernel
theorem dX12_isMachine_9 : decode cX12_isMachine 9 = .ok (.ireturn, 1) := by decide +kernel
theorem dX12_ordered_0 : decode cX12_ordered 0 = .ok (.aload_n 0, 1) := by decide +kernel
theorem dX12_ordered_1 : decode cX12_ordered 1 = .ok (.getfield 9, 3) := by decide +kernel
theorem dX12_ordered_4 : decode cX12_ordered 4 = .ok (.sipush 183, 3) := by decide +kernel
theorem dX12_ordered_7 : decode cX12_ordered 7 = .ok (.iconst 5, 1) := by decide +kernel
theorem dX12_ordered_8 : decode cX12_ordered 8 = .ok (.iload_n 1, 1) := by decide +kernel
theorem dX12_ordered_9 : decode cX12_ordered 9 = .ok (.imul, 1) := by decide +kernel
theorem dX12_ordered_10 : decode cX12_ordered 10 = .ok (.iadd, 1) := by decide +kernel
theorem dX12_ordered_11 : decode cX12_ordered 11 = .ok (.iload_n 2, 1) := by decide +kernel
theorem dX12_ordered_12 : decode cX12_ordered 12 = .ok (.iadd, 1) := by decide +kernel
theorem dX12_ordered_13 : decode cX12_ordered 13 = .ok (.iaload, 1) := by decide +kernel
theorem dX12_ordered_14 : decode cX12_ordered 14 = .ok (.ireturn, 1) := by decide +kernel
theorem dX12_setOrdered_0 : decode cX12_setOrdered 0 = .ok (.aload_n 0, 1) := by decide +kernel
theorem dX12_setOrdered_1 : decode cX12_setOrdered 1 = .ok (.getfield 9, 3) := by decide +kernel
theorem dX12_setOrdered_4 : decode cX12_setOrdered 4 = .ok (.sipush 183, 3) := by decide +kernel
theorem dX12_setOrdered_7 : decode cX12_setOrdered 7 = .ok (.iconst 5, 1) := by decide +kernel
theorem dX12_setOrdered_8 : decode cX12_setOrdered 8 = .ok (.iload_n 1, 1) := by decide +kernel
theorem dX12_setOrdered_9 : decode cX12_setOrdered 9 = .ok (.imul, 1) := by decide +kernel
theorem dX12_setOrdered_10 : decode cX12_setOrdered 10 = .ok (.iadd, 1) := by decide +kernel
theorem dX12_setOrdered_11 : decode cX12_setOrdered 11 = .ok (.iload_n 2, 1) := by decide +kernel
theorem dX12_setOrdered_12 : decode cX12_setOrdered 12 = .ok (.iadd, 1) := by decide +kernel
theorem dX12_setOrdered_13 : decode cX12_setOrdered 13 = .ok (.iload_n 3, 1) := by decide +kernel
theorem dX12_setOrdered_14 : decode cX12_setOrdered 14 = .ok (.iastore, 1) := by decide +kernel
theorem dX12_setOrdered_15 : decode cX12_setOrdered 15 = .ok (.return_, 1) := by decide +kernel
theorem dX12_sequence_0 : decode cX12_sequence 0 = .ok (.aload_n 0, 1) := by decide +kernel
theorem dX12_sequence_1 : decode cX12_sequence 1 = .ok (.getfield 9, 3) := by decide +kernel
theorem dX12_sequence_4 : decode cX12_sequence 4 = .ok (.bipush 22, 2) := by decide +kernel
theorem dX12_sequence_6 : decode cX12_sequence 6 = .ok (.iconst 4, 1) := by decide +kernel
theorem dX12_sequence_7 : decode cX12_sequence 7 = .ok (.iload_n 1, 1) := by decide +kernel
theorem dX12_sequence_8 : decode cX12_sequence 8 = .ok (.imul, 1) := by decide +kernel
theorem dX12_sequence_9 : decode cX12_sequence 9 = .ok (.iadd, 1) := by decide +kernel
theorem dX12_sequence_10 : decode cX12_sequence 10 = .ok (.iload_n 2, 1) := by decide +kernel
theorem dX12_sequence_11 : decode cX12_sequence 11 = .ok (.iadd, 1) := by decide +kernel
theorem dX12_sequence_12 : decode cX12_sequence 12 = .ok (.iaload, 1) := by decide +kernel
theorem dX12_sequence_13 : decode cX12_sequence 13 = .ok (.ireturn, 1) := by decide +kernel
theorem dX12_setup_0 : decode cX12_setup 0 = .ok (.aload_n 0, 1) := by decide +kernel
theorem dX12_setup_1 : decode cX12_setup 1 = .ok (.getfield 9, 3) := by decide +kernel
theorem dX12_setup_4 : decode cX12_setup 4 = .ok (.sipush 142, 3) := by decide +kernel
theorem dX12_setup_7 : decode cX12_setup 7 = .ok (.iconst 3, 1) := by decide +kernel
theorem dX12_setup_8 : decode cX12_setup 8 = .ok (.aload_n 0, 1) := by decide +kernel
theorem dX12_setup_9 : decode cX12_setup 9 = .ok (.getfield 9, 3) := by decide +kernel
theorem dX12_setup_12 : decode cX12_setup 12 = .ok (.bipush 102, 2) := by decide +kernel
theorem dX12_setup_14 : decode cX12_setup 14 = .ok (.iload_n 1, 1) := by decide +kernel
theorem dX12_setup_15 : decode cX12_setup 15 = .ok (.iadd, 1) := by decide +kernel
theorem dX12_setup_16 : decode cX12_setup 16 = .ok (.iaload, 1) := by decide +kernel
theorem dX12_setup_17 : decode cX12_setup 17 = .ok (.imul, 1) := by decide +kernel
theorem dX12_setup_18 : decode cX12_setup 18 = .ok (.iadd, 1) := by decide +kernel
theorem dX12_setup_19 : decode cX12_setup 19 = .ok (.aload_n 0, 1) := by decide +kernel
theorem dX12_setup_20 : decode cX12_setup 20 = .ok (.getfield 9, 3) := by decide +kernel
theorem dX12_setup_23 : decode cX12_setup 23 = .ok (.bipush 102, 2) := by decide +kernel
theorem dX12_setup_25 : decode cX12_setup 25 = .ok (.iload_n 2, 1) := by decide +kernel
theorem dX12_setup_26 : decode cX12_setup 26 = .ok (.iadd, 1) := by decide +kernel
theorem dX12_setup_27 : decode cX12_setup 27 = .ok (.iaload, 1) := by decide +kernel
theorem dX12_setup_28 : decode cX12_setup 28 = .ok (.iadd, 1) := by decide +kernel
theorem dX12_setup_29 : decode cX12_setup 29 = .ok (.iaload, 1) := by decide +kernel
theorem dX12_setup_30 : decode cX12_setup 30 = .ok (.ireturn, 1) := by decide +kernel
theorem dX12_isJobProperty_0 : decode cX12_isJobProperty 0 = .ok (.iload_n 0, 1) := by decide +kernel
theorem dX12_isJobProperty_1 : decode cX12_isJobProperty 1 = .ok (.ifCond .ne 15, 3) := by decide +kernel
theorem dX12_isJobProperty_4 : decode cX12_isJobProperty 4 = .ok (.iload_n 1, 1) := by decide +kernel
theorem dX12_isJobProperty_5 : decode cX12_isJobProperty 5 = .ok (.i2l, 1) := by decide +kernel
theorem dX12_isJobProperty_6 : decode cX12_isJobProperty 6 = .ok (.lconst 0, 1) := by decide +kernel
theorem dX12_isJobProperty_7 : decode cX12_isJobProperty 7 = .ok (.ldc2_w 88, 3) := by decide +kernel
theorem dX12_isJobProperty_10 : decode cX12_isJobProperty 10 = .ok (.invokestatic 82, 3) := by decide +kernel
theorem dX12_isJobProperty_13 : decode cX12_isJobProperty 13 = .ok (.goto 29, 3) := by decide +kernel
theorem dX12_isJobProperty_16 : decode cX12_isJobProperty 16 = .ok (.iload_n 0, 1) := by decide +kernel
theorem dX12_isJobProperty_17 : decode cX12_isJobProperty 17 = .ok (.iconst 1, 1) := by decide +kernel
theorem dX12_isJobProperty_18 : decode cX12_isJobProperty 18 = .ok (.if_icmp .ne 15, 3) := by decide +kernel
theorem dX12_isJobProperty_21 : decode cX12_isJobProperty 21 = .ok (.iload_n 1, 1) := by decide +kernel
theorem dX12_isJobProperty_22 : decode cX12_isJobProperty 22 = .ok (.i2l, 1) := by decide +kernel
theorem dX12_isJobProperty_23 : decode cX12_isJobProperty 23 = .ok (.lconst 0, 1) := by decide +kernel
theorem dX12_isJobProperty_24 : decode cX12_isJobProperty 24 = .ok (.ldc2_w 90, 3) := by decide +kernel
theorem dX12_isJobProperty_27 : decode cX12_isJobProperty 27 = .ok (.invokestatic 82, 3) := by decide +kernel
theorem dX12_isJobProperty_30 : decode cX12_isJobProperty 30 = .ok (.goto 12, 3) := by decide +kernel
theorem dX12_isJobProperty_33 : decode cX12_isJobProperty 33 = .ok (.iload_n 1, 1) := by decide +kernel
theorem dX12_isJobProperty_34 : decode cX12_isJobProperty 34 = .ok (.i2l, 1) := by decide +kernel
theorem dX12_isJobProperty_35 : decode cX12_isJobProperty 35 = .ok (.lconst 0, 1) := by decide +kernel
theorem dX12_isJobProperty_36 : decode cX12_isJobProperty 36 = .ok (.ldc2_w 92, 3) := by decide +kernel
theorem dX12_isJobProperty_39 : decode cX12_isJobProperty 39 = .ok (.invokestatic 82, 3) := by decide +kernel
theorem dX12_isJobProperty_42 : decode cX12_isJobProperty 42 = .ok (.ireturn, 1) := by decide +kernel
theorem dX12_areJobProperties_0 : decode cX12_areJobProperties 0 = .ok (.iconst 0, 1) := by decide +kernel
theorem dX12_areJobProperties_1 : decode cX12_areJobProperties 1 = .ok (.iload_n 0, 1) := by decide +kernel
theorem dX12_areJobProperties_2 : decode cX12_areJobProperties 2 = .ok (.invokestatic 94, 3) := by decide +kernel
theorem dX12_areJobProperties_5 : decode cX12_areJobProperties 5 = .ok (.ifCond .eq 23, 3) := by decide +kernel
theorem dX12_areJobProperties_8 : decode cX12_areJobProperties 8 = .ok (.iconst 1, 1) := by decide +kernel
theorem dX12_areJobProperties_9 : decode cX12_areJobProperties 9 = .ok (.iload_n 1, 1) := by decide +kernel
theorem dX12_areJobProperties_10 : decode cX12_areJobProperties 10 = .ok (.invokestatic 94, 3) := by decide +kernel
theorem dX12_areJobProperties_13 : decode cX12_areJobProperties 13 = .ok (.ifCond .eq 15, 3) := by decide +kernel
theorem dX12_areJobProperties_16 : decode cX12_areJobProperties 16 = .ok (.iconst 2, 1) := by decide +kernel
theorem dX12_areJobProperties_17 : decode cX12_areJobProperties 17 = .ok (.iload_n 2, 1) := by decide +kernel
theorem dX12_areJobProperties_18 : decode cX12_areJobProperties 18 = .ok (.invokestatic 94, 3) := by decide +kernel
theorem dX12_areJobProperties_21 : decode cX12_areJobProperties 21 = .ok (.ifCond .eq 7, 3) := by decide +kernel
theorem dX12_areJobProperties_24 : decode cX12_areJobProperties 24 = .ok (.iconst 1, 1) := by decide +kernel
theorem dX12_areJobProperties_25 : decode cX12_areJobProperties 25 = .ok (.goto 4, 3) := by decide +kernel
theorem dX12_areJobProperties_28 : decode cX12_areJobProperties 28 = .ok (.iconst 0, 1) := by decide +kernel
theorem dX12_areJobProperties_29 : decode cX12_areJobProperties 29 = .ok (.ireturn, 1) := by decide +kernel
theorem dX12_createJob_0 : decode cX12_createJob 0 = .ok (.aload_n 0, 1) := by decide +kernel
theorem dX12_createJob_1 : decode cX12_createJob 1 = .ok (.getfield 9, 3) := by decide +kernel
theorem dX12_createJob_4 : decode cX12_createJob 4 = .ok (.iconst 0, 1) := by decide +kernel
theorem dX12_createJob_5 : decode cX12_createJob 5 = .ok (.iaload, 1) := by decide +kernel
theorem dX12_createJob_6 : decode cX12_createJob 6 = .ok (.istore 4, 2) := by decide +kernel
theorem dX12_createJob_8 : decode cX12_createJob 8 = .ok (.aload_n 0, 1) := by decide +kernel
theorem dX12_createJob_9 : decode cX12_createJob 9 = .ok (.getfield 9, 3) := by decide +kernel
theorem dX12_createJob_12 : decode cX12_createJob 12 = .ok (.iconst 2, 1) := by decide +kernel
theorem dX12_createJob_13 : decode cX12_createJob 13 = .ok (.iload 4, 2) := by decide +kernel
theorem dX12_createJob_15 : decode cX12_createJob 15 = .ok (.iadd, 1) := by decide +kernel
theorem dX12_createJob_16 : decode cX12_createJob 16 = .ok (.iload_n 1, 1) := by decide +kernel
theorem dX12_createJob_17 : decode cX12_createJob 17 = .ok (.iastore, 1) := by decide +kernel
theorem dX12_createJob_18 : decode cX12_createJob 18 = .ok (.aload_n 0, 1) := by decide +kernel
theorem dX12_createJob_19 : decode cX12_createJob 19 = .ok (.getfield 9, 3) := by decide +kernel
theorem dX12_createJob_22 : decode cX12_createJob 22 = .ok (.bipush 7, 2) := by decide +kernel
theorem dX12_createJob_24 : decode cX12_createJob 24 = .ok (.iload 4, 2) := by decide +kernel
theorem dX12_createJob_26 : decode cX12_createJob 26 = .ok (.iadd, 1) := by decide +kernel
theorem dX12_createJob_27 : decode cX12_createJob 27 = .ok (.iload_n 2, 1) := by decide +kernel
theorem dX12_createJob_28 : decode cX12_createJob 28 = .ok (.iastore, 1) := by decide +kernel
theorem dX12_createJob_29 : decode cX12_createJob 29 = .ok (.aload_n 0, 1) := by decide +kernel
theorem dX12_createJob_30 : decode cX12_createJob 30 = .ok (.getfield 9, 3) := by decide +kernel
theorem dX12_createJob_33 : decode cX12_createJob 33 = .ok (.bipush 12, 2) := by decide +kernel
theorem dX12_createJob_35 : decode cX12_createJob 35 = .ok (.iload 4, 2) := by decide +kernel
theorem dX12_createJob_37 : decode cX12_createJob 37 = .ok (.iadd, 1) := by decide +kernel
theorem dX12_createJob_38 : decode cX12_createJob 38 = .ok (.iload_n 3, 1) := by decide +kernel
theorem dX12_createJob_39 : decode cX12_createJob 39 = .ok (.iastore, 1) := by decide +kernel
theorem dX12_createJob_40 : decode cX12_createJob 40 = .ok (.aload_n 0, 1) := by decide +kernel
theorem dX12_createJob_41 : decode cX12_createJob 41 = .ok (.getfield 9, 3) := by decide +kernel
theorem dX12_createJob_44 : decode cX12_createJob 44 = .ok (.bipush 17, 2) := by decide +kernel
theorem dX12_createJob_46 : decode cX12_createJob 46 = .ok (.iload 4, 2) := by decide +kernel
theorem dX12_createJob_48 : decode cX12_createJob 48 = .ok (.iadd, 1) := by decide +kernel
theorem dX12_createJob_49 : decode cX12_createJob 49 = .ok (.iconst 0, 1) := by decide +kernel
theorem dX12_createJob_50 : decode cX12_createJob 50 = .ok (.iastore, 1) := by decide +kernel
theorem dX12_createJob_51 : decode cX12_createJob 51 = .ok (.aload_n 0, 1) := by decide +kernel
theorem dX12_createJob_52 : decode cX12_createJob 52 = .ok (.getfield 9, 3) := by decide +kernel
theorem dX12_createJob_55 : decode cX12_createJob 55 = .ok (.iconst 0, 1) := by decide +kernel
theorem dX12_createJob_56 : decode cX12_createJob 56 = .ok (.dup2, 1) := by decide +kernel
theorem dX12_createJob_57 : decode cX12_createJob 57 = .ok (.iaload, 1) := by decide +kernel
theorem dX12_createJob_58 : decode cX12_createJob 58 = .ok (.iconst 1, 1) := by decide +kernel
theorem dX12_createJob_59 : decode cX12_createJob 59 = .ok (.iadd, 1) := by decide +kernel
theorem dX12_createJob_60 : decode cX12_createJob 60 = .ok (.iastore, 1) := by decide +kernel
theorem dX12_createJob_61 : decode cX12_createJob 61 = .ok (.iload 4, 2) := by decide +kernel
theorem dX12_createJob_63 : decode cX12_createJob 63 = .ok (.ireturn, 1) := by decide +kernel
theorem dX12_addJob_0 : decode cX12_addJob 0 = .ok (.aload_n 0, 1) := by decide +kernel
theorem dX12_addJob_1 : decode cX12_addJob 1 = .ok (.iload_n 1, 1) := by decide +kernel
theorem dX12_addJob_2 : decode cX12_addJob 2 = .ok (.iload_n 2, 1) := by decide +kernel
theorem dX12_addJob_3 : decode cX12_addJob 3 = .ok (.iload_n 3, 1) := by decide +kernel
theorem dX12_addJob_4 : decode cX12_addJob 4 = .ok (.invokestatic 98, 3) := by decide +kernel
theorem dX12_addJob_7 : decode cX12_addJob 7 = .ok (.ifCond .ne 7, 3) := by decide +kernel
theorem dX12_addJob_10 : decode cX12_addJob 10 = .ok (.iconst 1, 1) := by decide +kernel
theorem dX12_addJob_11 : decode cX12_addJob 11 = .ok (.goto 18, 3) := by decide +kernel
theorem dX12_addJob_14 : decode cX12_addJob 14 = .ok (.aload_n 0, 1) := by decide +kernel
theorem dX12_addJob_15 : decode cX12_addJob 15 = .ok (.getfield 9, 3) := by decide +kernel
theorem dX12_addJob_18 : decode cX12_addJob 18 = .ok (.iconst 0, 1) := by decide +kernel
theorem dX12_addJob_19 : decode cX12_addJob 19 = .ok (.iaload, 1) := by decide +kernel
theorem dX12_addJob_20 : decode cX12_addJob 20 = .ok (.iconst 5, 1) := by decide +kernel
theorem dX12_addJob_21 : decode cX12_addJob 21 = .ok (.if_icmp .ne 7, 3) := by decide +kernel
theorem dX12_addJob_24 : decode cX12_addJob 24 = .ok (.iconst 2, 1) := by decide +kernel
theorem dX12_addJob_25 : decode cX12_addJob 25 = .ok (.goto 4, 3) := by decide +kernel
theorem dX12_addJob_28 : decode cX12_addJob 28 = .ok (.iconst 0, 1) := by decide +kernel
theorem dX12_addJob_29 : decode cX12_addJob 29 = .ok (.putfield 79, 3) := by decide +kernel
theorem dX12_addJob_32 : decode cX12_addJob 32 = .ok (.aload_n 0, 1) := by decide +kernel
theorem dX12_addJob_33 : decode cX12_addJob 33 = .ok (.getfield 79, 3) := by decide +kernel
theorem dX12_addJob_36 : decode cX12_addJob 36 = .ok (.ifCond .le 7, 3) := by decide +kernel
theorem dX12_addJob_39 : decode cX12_addJob 39 = .ok (.iconst 0, 1) := by decide +kernel
theorem dX12_addJob_40 : decode cX12_addJob 40 = .ok (.goto 10, 3) := by decide +kernel
theorem dX12_addJob_43 : decode cX12_addJob 43 = .ok (.aload_n 0, 1) := by decide +kernel
theorem dX12_addJob_44 : decode cX12_addJob 44 = .ok (.iload_n 1, 1) := by decide +kernel
theorem dX12_addJob_45 : decode cX12_addJob 45 = .ok (.iload_n 2, 1) := by decide +kernel
theorem dX12_addJob_46 : decode cX12_addJob 46 = .ok (.iload_n 3, 1) := by decide +kernel
theorem dX12_addJob_47 : decode cX12_addJob 47 = .ok (.invokevirtual 102, 3) := by decide +kernel
theorem dX12_addJob_50 : decode cX12_addJob 50 = .ok (.ireturn, 1) := by decide +kernel
theorem dX12_areProperties_0 : decode cX12_areProperties 0 = .ok (.iload_n 0, 1) := by decide +kernel
theorem dX12_areProperties_1 : decode cX12_areProperties 1 = .ok (.i2l, 1) := by decide +kernel
theorem dX12_areProperties_2 : decode cX12_areProperties 2 = .ok (.lconst 1, 1) := by decide +kernel
theorem dX12_areProperties_3 : decode cX12_areProperties 3 = .ok (.ldc2_w 106, 3) := by decide +kernel
theorem dX12_areProperties_6 : decode cX12_areProperties 6 = .ok (.invokestatic 82, 3) := by decide +kernel
theorem dX12_areProperties_9 : decode cX12_areProperties 9 = .ok (.ifCond .eq 19, 3) := by decide +kernel
theorem dX12_areProperties_12 : decode cX12_areProperties 12 = .ok (.iload_n 1, 1) := by decide +kernel
theorem dX12_areProperties_13 : decode cX12_areProperties 13 = .ok (.i2l, 1) := by decide +kernel
theorem dX12_areProperties_14 : decode cX12_areProperties 14 = .ok (.lconst 0, 1) := by decide +kernel
theorem dX12_areProperties_15 : decode cX12_areProperties 15 = .ok (.ldc2_w 108, 3) := by decide +kernel
theorem dX12_areProperties_18 : decode cX12_areProperties 18 = .ok (.invokestatic 82, 3) := by decide +kernel
theorem dX12_areProperties_21 : decode cX12_areProperties 21 = .ok (.ifCond .eq 7, 3) := by decide +kernel
theorem dX12_areProperties_24 : decode cX12_areProperties 24 = .ok (.iconst 1, 1) := by decide +kernel
theorem dX12_areProperties_25 : decode cX12_areProperties 25 = .ok (.goto 4, 3) := by decide +kernel
theorem dX12_areProperties_28 : decode cX12_areProperties 28 = .ok (.iconst 0, 1) := by decide +kernel
theorem dX12_areProperties_29 : decode cX12_areProperties 29 = .ok (.ireturn, 1) := by decide +kernel
theorem dX12_hasMachine_0 : decode cX12_hasMachine 0 = .ok (.iconst 0, 1) := by decide +kernel
theorem dX12_hasMachine_1 : decode cX12_hasMachine 1 = .ok (.istore_n 3, 1) := by decide +kernel
theorem dX12_hasMachine_2 : decode cX12_hasMachine 2 = .ok (.iconst 0, 1) := by decide +kernel
theorem dX12_hasMachine_3 : decode cX12_hasMachine 3 = .ok (.istore 4, 2) := by decide +kernel
theorem dX12_hasMachine_5 : decode cX12_hasMachine 5 = .ok (.iload 4, 2) := by decide +kernel
theorem dX12_hasMachine_7 : decode cX12_hasMachine 7 = .ok (.aload_n 0, 1) := by decide +kernel
theorem dX12_hasMachine_8 : decode cX12_hasMachine 8 = .ok (.getfield 9, 3) := by decide +kernel
theorem dX12_hasMachine_11 : decode cX12_hasMachine 11 = .ok (.bipush 17, 2) := by decide +kernel
theorem dX12_hasMachine_13 : decode cX12_hasMachine 13 = .ok (.iload_n 1, 1) := by decide +kernel
theorem dX12_hasMachine_14 : decode cX12_hasMachine 14 = .ok (.iadd, 1) := by decide +kernel
theorem dX12_hasMachine_15 : decode cX12_hasMachine 15 = .ok (.iaload, 1) := by decide +kernel
theorem dX12_hasMachine_16 : decode cX12_hasMachine 16 = .ok (.if_icmp .ge 38, 3) := by decide +kernel
theorem dX12_hasMachine_19 : decode cX12_hasMachine 19 = .ok (.iload_n 3, 1) := by decide +kernel
theorem dX12_hasMachine_20 : decode cX12_hasMachine 20 = .ok (.ifCond .ne 22, 3) := by decide +kernel
theorem dX12_hasMachine_23 : decode cX12_hasMachine 23 = .ok (.aload_n 0, 1) := by decide +kernel
theorem dX12_hasMachine_24 : decode cX12_hasMachine 24 = .ok (.getfield 9, 3) := by decide +kernel
theorem dX12_hasMachine_27 : decode cX12_hasMachine 27 = .ok (.bipush 62, 2) := by decide +kernel
theorem dX12_hasMachine_29 : decode cX12_hasMachine 29 = .ok (.aload_n 0, 1) := by decide +kernel
theorem dX12_hasMachine_30 : decode cX12_hasMachine 30 = .ok (.iload_n 1, 1) := by decide +kernel
theorem dX12_hasMachine_31 : decode cX12_hasMachine 31 = .ok (.iload 4, 2) := by decide +kernel
theorem dX12_hasMachine_33 : decode cX12_hasMachine 33 = .ok (.invokevirtual 110, 3) := by decide +kernel
theorem dX12_hasMachine_36 : decode cX12_hasMachine 36 = .ok (.iadd, 1) := by decide +kernel
theorem dX12_hasMachine_37 : decode cX12_hasMachine 37 = .ok (.iaload, 1) := by decide +kernel
theorem dX12_hasMachine_38 : decode cX12_hasMachine 38 = .ok (.iload_n 2, 1) := by decide +kernel
theorem dX12_hasMachine_39 : decode cX12_hasMachine 39 = .ok (.if_icmp .ne 7, 3) := by decide +kernel
theorem dX12_hasMachine_42 : decode cX12_hasMachine 42 = .ok (.iconst 1, 1) := by decide +kernel
theorem dX12_hasMachine_43 : decode cX12_hasMachine 43 = .ok (.goto 4, 3) := by decide +kernel
theorem dX12_hasMachine_46 : decode cX12_hasMachine 46 = .ok (.iconst 0, 1) := by decide +kernel
theorem dX12_hasMachine_47 : decode cX12_hasMachine 47 = .ok (.istore_n 3, 1) := by decide +kernel
theorem dX12_hasMachine_48 : decode cX12_hasMachine 48 = .ok (.iinc 4 1, 3) := by decide +kernel
theorem dX12_hasMachine_51 : decode cX12_hasMachine 51 = .ok (.goto (-46), 3) := by decide +kernel
theorem dX12_hasMachine_54 : decode cX12_hasMachine 54 = .ok (.iload_n 3, 1) := by decide +kernel
theorem dX12_hasMachine_55 : decode cX12_hasMachine 55 = .ok (.ireturn, 1) := by decide +kernel
theorem dX12_createOperation_0 : decode cX12_createOperation 0 = .ok (.aload_n 0, 1) := by decide +kernel
theorem dX12_createOperation_1 : decode cX12_createOperation 1 = .ok (.getfield 9, 3) := by decide +kernel
theorem dX12_createOperation_4 : decode cX12_createOperation 4 = .ok (.iconst 1, 1) := by decide +kernel
theorem dX12_createOperation_5 : decode cX12_createOperation 5 = .ok (.iaload, 1) := by decide +kernel
theorem dX12_createOperation_6 : decode cX12_createOperation 6 = .ok (.istore 5, 2) := by decide +kernel
theorem dX12_createOperation_8 : decode cX12_createOperation 8 = .ok (.aload_n 0, 1) := by decide +kernel
theorem dX12_createOperation_9 : decode cX12_createOperation 9 = .ok (.getfield 9, 3) := by decide +kernel
theorem dX12_createOperation_12 : decode cX12_createOperation 12 = .ok (.bipush 42, 2) := by decide +kernel
theorem dX12_createOperation_14 : decode cX12_createOperation 14 = .ok (.iload 5, 2) := by decide +kernel
theorem dX12_createOperation_16 : decode cX12_createOperation 16 = .ok (.iadd, 1) := by decide +kernel
theorem dX12_createOperation_17 : decode cX12_createOperation 17 = .ok (.iload_n 1, 1) := by decide +kernel
theorem dX12_createOperation_18 : decode cX12_createOperation 18 = .ok (.iastore, 1) := by decide +kernel
theorem dX12_createOperation_19 : decode cX12_createOperation 19 = .ok (.aload_n 0, 1) := by decide +kernel
theorem dX12_createOperation_20 : decode cX12_createOperation 20 = .ok (.getfield 9, 3) := by decide +kernel
theorem dX12_createOperation_23 : decode cX12_createOperation 23 = .ok (.bipush 62, 2) := by decide +kernel
theorem dX12_createOperation_25 : decode cX12_createOperation 25 = .ok (.iload 5, 2) := by decide +kernel
theorem dX12_createOperation_27 : decode cX12_createOperation 27 = .ok (.iadd, 1) := by decide +kernel
theorem dX12_createOperation_28 : decode cX12_createOperation 28 = .ok (.iload_n 2, 1) := by decide +kernel
theorem dX12_createOperation_29 : decode cX12_createOperation 29 = .ok (.iastore, 1) := by decide +kernel
theorem dX12_createOperation_30 : decode cX12_createOperation 30 = .ok (.aload_n 0, 1) := by decide +kernel
theorem dX12_createOperation_31 : decode cX12_createOperation 31 = .ok (.getfield 9, 3) := by decide +kernel
theorem dX12_createOperation_34 : decode cX12_createOperation 34 = .ok (.bipush 82, 2) := by decide +kernel
theorem dX12_createOperation_36 : decode cX12_createOperation 36 = .ok (.iload 5, 2) := by decide +kernel
theorem dX12_createOperation_38 : decode cX12_createOperation 38 = .ok (.iadd, 1) := by decide +kernel
theorem dX12_createOperation_39 : decode cX12_createOperation 39 = .ok (.iload_n 3, 1) := by decide +kernel
theorem dX12_createOperation_40 : decode cX12_createOperation 40 = .ok (.iastore, 1) := by decide +kernel
theorem dX12_createOperation_41 : decode cX12_createOperation 41 = .ok (.aload_n 0, 1) := by decide +kernel
theorem dX12_createOperation_42 : decode cX12_createOperation 42 = .ok (.getfield 9, 3) := by decide +kernel
theorem dX12_createOperation_45 : decode cX12_createOperation 45 = .ok (.bipush 102, 2) := by decide +kernel
theorem dX12_createOperation_47 : decode cX12_createOperation 47 = .ok (.iload 5, 2) := by decide +kernel
theorem dX12_createOperation_49 : decode cX12_createOperation 49 = .ok (.iadd, 1) := by decide +kernel
theorem dX12_createOperation_50 : decode cX12_createOperation 50 = .ok (.iload 4, 2) := by decide +kernel
theorem dX12_createOperation_52 : decode cX12_createOperation 52 = .ok (.iastore, 1) := by decide +kernel
theorem dX12_createOperation_53 : decode cX12_createOperation 53 = .ok (.aload_n 0, 1) := by decide +kernel
theorem dX12_createOperation_54 : decode cX12_createOperation 54 = .ok (.getfield 9, 3) := by decide +kernel
theorem dX12_createOperation_57 : decode cX12_createOperation 57 = .ok (.bipush 122, 2) := by decide +kernel
theorem dX12_createOperation_59 : decode cX12_createOperation 59 = .ok (.iload 5, 2) := by decide +kernel
theorem dX12_createOperation_61 : decode cX12_createOperation 61 = .ok (.iadd, 1) := by decide +kernel
theorem dX12_createOperation_62 : decode cX12_createOperation 62 = .ok (.aload_n 0, 1) := by decide +kernel
theorem dX12_createOperation_63 : decode cX12_createOperation 63 = .ok (.getfield 9, 3) := by decide +kernel
theorem dX12_createOperation_66 : decode cX12_createOperation 66 = .ok (.bipush 17, 2) := by decide +kernel
theorem dX12_createOperation_68 : decode cX12_createOperation 68 = .ok (.iload_n 1, 1) := by decide +kernel
theorem dX12_createOperation_69 : decode cX12_createOperation 69 = .ok (.iadd, 1) := by decide +kernel
theorem dX12_createOperation_70 : decode cX12_createOperation 70 = .ok (.iaload, 1) := by decide +kernel
theorem dX12_createOperation_71 : decode cX12_createOperation 71 = .ok (.iastore, 1) := by decide +kernel
theorem dX12_createOperation_72 : decode cX12_createOperation 72 = .ok (.aload_n 0, 1) := by decide +kernel
theorem dX12_createOperation_73 : decode cX12_createOperation 73 = .ok (.getfield 9, 3) := by decide +kernel
theorem dX12_createOperation_76 : decode cX12_createOperation 76 = .ok (.bipush 22, 2) := by decide +kernel
theorem dX12_createOperation_78 : decode cX12_createOperation 78 = .ok (.iconst 4, 1) := by decide +kernel
theorem dX12_createOperation_79 : decode cX12_createOperation 79 = .ok (.iload_n 1, 1) := by decide +kernel
theorem dX12_createOperation_80 : decode cX12_createOperation 80 = .ok (.imul, 1) := by decide +kernel
theorem dX12_createOperation_81 : decode cX12_createOperation 81 = .ok (.iadd, 1) := by decide +kernel
theorem dX12_createOperation_82 : decode cX12_createOperation 82 = .ok (.aload_n 0, 1) := by decide +kernel
theorem dX12_createOperation_83 : decode cX12_createOperation 83 = .ok (.getfield 9, 3) := by decide +kernel
theorem dX12_createOperation_86 : decode cX12_createOperation 86 = .ok (.bipush 17, 2) := by decide +kernel
theorem dX12_createOperation_88 : decode cX12_createOperation 88 = .ok (.iload_n 1, 1) := by decide +kernel
theorem dX12_createOperation_89 : decode cX12_createOperation 89 = .ok (.iadd, 1) := by decide +kernel
theorem dX12_createOperation_90 : decode cX12_createOperation 90 = .ok (.iaload, 1) := by decide +kernel
theorem dX12_createOperation_91 : decode cX12_createOperation 91 = .ok (.iadd, 1) := by decide +kernel
theorem dX12_createOperation_92 : decode cX12_createOperation 92 = .ok (.iload 5, 2) := by decide +kernel
theorem dX12_createOperation_94 : decode cX12_createOperation 94 = .ok (.iastore, 1) := by decide +kernel
theorem dX12_createOperation_95 : decode cX12_createOperation 95 = .ok (.aload_n 0, 1) := by decide +kernel
theorem dX12_createOperation_96 : decode cX12_createOperation 96 = .ok (.getfield 9, 3) := by decide +kernel
theorem dX12_createOperation_99 : decode cX12_createOperation 99 = .ok (.bipush 17, 2) := by decide +kernel
theorem dX12_createOperation_101 : decode cX12_createOperation 101 = .ok (.iload_n 1, 1) := by decide +kernel
theorem dX12_createOperation_102 : decode cX12_createOperation 102 = .ok (.iadd, 1) := by decide +kernel
theorem dX12_createOperation_103 : decode cX12_createOperation 103 = .ok (.dup2, 1) := by decide +kernel
theorem dX12_createOperation_104 : decode cX12_createOperation 104 = .ok (.iaload, 1) := by decide +kernel
theorem dX12_createOperation_105 : decode cX12_createOperation 105 = .ok (.iconst 1, 1) := by decide +kernel
theorem dX12_createOperation_106 : decode cX12_createOperation 106 = .ok (.iadd, 1) := by decide +kernel
theorem dX12_createOperation_107 : decode cX12_createOperation 107 = .ok (.iastore, 1) := by decide +kernel
theorem dX12_createOperation_108 : decode cX12_createOperation 108 = .ok (.aload_n 0, 1) := by decide +kernel
theorem dX12_createOperation_109 : decode cX12_createOperation 109 = .ok (.iload_n 2, 1) := by decide +kernel
theorem dX12_createOperation_110 : decode cX12_createOperation 110 = .ok (.aload_n 0, 1) := by decide +kernel
theorem dX12_createOperation_111 : decode cX12_createOperation 111 = .ok (.getfield 9, 3) := by decide +kernel
theorem dX12_createOperation_114 : decode cX12_createOperation 114 = .ok (.sipush 179, 3) := by decide +kernel
theorem dX12_createOperation_117 : decode cX12_createOperation 117 = .ok (.iload_n 2, 1) := by decide +kernel
theorem dX12_createOperation_118 : decode cX12_createOperation 118 = .ok (.iadd, 1) := by decide +kernel
theorem dX12_createOperation_119 : decode cX12_createOperation 119 = .ok (.iaload, 1) := by decide +kernel
theorem dX12_createOperation_120 : decode cX12_createOperation 120 = .ok (.iload 5, 2) := by decide +kernel
theorem dX12_createOperation_122 : decode cX12_createOperation 122 = .ok (.invokevirtual 114, 3) := by decide +kernel
theorem dX12_createOperation_125 : decode cX12_createOperation 125 = .ok (.aload_n 0, 1) := by decide +kernel
theorem dX12_createOperation_126 : decode cX12_createOperation 126 = .ok (.getfield 9, 3) := by decide +kernel
theorem dX12_createOperation_129 : decode cX12_createOperation 129 = .ok (.sipush 179, 3) := by decide +kernel
theorem dX12_createOperation_132 : decode cX12_createOperation 132 = .ok (.iload_n 2, 1) := by decide +kernel
theorem dX12_createOperation_133 : decode cX12_createOperation 133 = .ok (.iadd, 1) := by decide +kernel
theorem dX12_createOperation_134 : decode cX12_createOperation 134 = .ok (.dup2, 1) := by decide +kernel
theorem dX12_createOperation_135 : decode cX12_createOperation 135 = .ok (.iaload, 1) := by decide +kernel
theorem dX12_createOperation_136 : decode cX12_createOperation 136 = .ok (.iconst 1, 1) := by decide +kernel
theorem dX12_createOperation_137 : decode cX12_createOperation 137 = .ok (.iadd, 1) := by decide +kernel
theorem dX12_createOperation_138 : decode cX12_createOperation 138 = .ok (.iastore, 1) := by decide +kernel
theorem dX12_createOperation_139 : decode cX12_createOperation 139 = .ok (.aload_n 0, 1) := by decide +kernel
theorem dX12_createOperation_140 : decode cX12_createOperation 140 = .ok (.getfield 9, 3) := by decide +kernel
theorem dX12_createOperation_143 : decode cX12_createOperation 143 = .ok (.iconst 1, 1) := by decide +kernel
theorem dX12_createOperation_144 : decode cX12_createOperation 144 = .ok (.dup2, 1) := by decide +kernel
theorem dX12_createOperation_145 : decode cX12_createOperation 145 = .ok (.iaload, 1) := by decide +kernel
theorem dX12_createOperation_146 : decode cX12_createOperation 146 = .ok (.iconst 1, 1) := by decide +kernel
theorem dX12_createOperation_147 : decode cX12_createOperation 147 = .ok (.iadd, 1) := by decide +kernel
theorem dX12_createOperation_148 : decode cX12_createOperation 148 = .ok (.iastore, 1) := by decide +kernel
theorem dX12_createOperation_149 : decode cX12_createOperation 149 = .ok (.iload 5, 2) := by decide +kernel
theorem dX12_createOperation_151 : decode cX12_createOperation 151 = .ok (.ireturn, 1) := by decide +kernel
theorem dX12_addOperation_0 : decode cX12_addOperation 0 = .ok (.aload_n 0, 1) := by decide +kernel
theorem dX12_addOperation_1 : decode cX12_addOperation 1 = .ok (.aload_n 0, 1) := by decide +kernel
theorem dX12_addOperation_2 : decode cX12_addOperation 2 = .ok (.iload_n 1, 1) := by decide +kernel
theorem dX12_addOperation_3 : decode cX12_addOperation 3 = .ok (.invokevirtual 118, 3) := by decide +kernel
theorem dX12_addOperation_6 : decode cX12_addOperation 6 = .ok (.ifCond .eq 10, 3) := by decide +kernel
theorem dX12_addOperation_9 : decode cX12_addOperation 9 = .ok (.iload_n 2, 1) := by decide +kernel
theorem dX12_addOperation_10 : decode cX12_addOperation 10 = .ok (.invokestatic 122, 3) := by decide +kernel
theorem dX12_addOperation_13 : decode cX12_addOperation 13 = .ok (.ifCond .ne 7, 3) := by decide +kernel
theorem dX12_addOperation_16 : decode cX12_addOperation 16 = .ok (.iconst 1, 1) := by decide +kernel
theorem dX12_addOperation_17 : decode cX12_addOperation 17 = .ok (.goto 43, 3) := by decide +kernel
theorem dX12_addOperation_20 : decode cX12_addOperation 20 = .ok (.iload_n 3, 1) := by decide +kernel
theorem dX12_addOperation_21 : decode cX12_addOperation 21 = .ok (.iload 4, 2) := by decide +kernel
theorem dX12_addOperation_23 : decode cX12_addOperation 23 = .ok (.invokestatic 125, 3) := by decide +kernel
theorem dX12_addOperation_26 : decode cX12_addOperation 26 = .ok (.ifCond .ne 7, 3) := by decide +kernel
theorem dX12_addOperation_29 : decode cX12_addOperation 29 = .ok (.iconst 2, 1) := by decide +kernel
theorem dX12_addOperation_30 : decode cX12_addOperation 30 = .ok (.goto 30, 3) := by decide +kernel
theorem dX12_addOperation_33 : decode cX12_addOperation 33 = .ok (.aload_n 0, 1) := by decide +kernel
theorem dX12_addOperation_34 : decode cX12_addOperation 34 = .ok (.getfield 9, 3) := by decide +kernel
theorem dX12_addOperation_37 : decode cX12_addOperation 37 = .ok (.bipush 17, 2) := by decide +kernel
theorem dX12_addOperation_39 : decode cX12_addOperation 39 = .ok (.iload_n 1, 1) := by decide +kernel
theorem dX12_addOperation_40 : decode cX12_addOperation 40 = .ok (.iadd, 1) := by decide +kernel
theorem dX12_addOperation_41 : decode cX12_addOperation 41 = .ok (.iaload, 1) := by decide +kernel
theorem dX12_addOperation_42 : decode cX12_addOperation 42 = .ok (.iconst 4, 1) := by decide +kernel
theorem dX12_addOperation_43 : decode cX12_addOperation 43 = .ok (.if_icmp .eq 12, 3) := by decide +kernel
theorem dX12_addOperation_46 : decode cX12_addOperation 46 = .ok (.aload_n 0, 1) := by decide +kernel
theorem dX12_addOperation_47 : decode cX12_addOperation 47 = .ok (.iload_n 1, 1) := by decide +kernel
theorem dX12_addOperation_48 : decode cX12_addOperation 48 = .ok (.iload_n 2, 1) := by decide +kernel
theorem dX12_addOperation_49 : decode cX12_addOperation 49 = .ok (.invokevirtual 128, 3) := by decide +kernel
theorem dX12_addOperation_52 : decode cX12_addOperation 52 = .ok (.ifCond .eq 7, 3) := by decide +kernel
theorem dX12_addOperation_55 : decode cX12_addOperation 55 = .ok (.iconst 3, 1) := by decide +kernel
theorem dX12_addOperation_56 : decode cX12_addOperation 56 = .ok (.goto 4, 3) := by decide +kernel
theorem dX12_addOperation_59 : decode cX12_addOperation 59 = .ok (.iconst 0, 1) := by decide +kernel
theorem dX12_addOperation_60 : decode cX12_addOperation 60 = .ok (.putfield 79, 3) := by decide +kernel
theorem dX12_addOperation_63 : decode cX12_addOperation 63 = .ok (.aload_n 0, 1) := by decide +kernel
theorem dX12_addOperation_64 : decode cX12_addOperation 64 = .ok (.getfield 79, 3) := by decide +kernel
theorem dX12_addOperation_67 : decode cX12_addOperation 67 = .ok (.ifCond .le 7, 3) := by decide +kernel
theorem dX12_addOperation_70 : decode cX12_addOperation 70 = .ok (.iconst 0, 1) := by decide +kernel
theorem dX12_addOperation_71 : decode cX12_addOperation 71 = .ok (.goto 12, 3) := by decide +kernel
theorem dX12_addOperation_74 : decode cX12_addOperation 74 = .ok (.aload_n 0, 1) := by decide +kernel
theorem dX12_addOperation_75 : decode cX12_addOperation 75 = .ok (.iload_n 1, 1) := by decide +kernel
theorem dX12_addOperation_76 : decode cX12_addOperation 76 = .ok (.iload_n 2, 1) := by decide +kernel
theorem dX12_addOperation_77 : decode cX12_addOperation 77 = .ok (.iload_n 3, 1) := by decide +kernel
theorem dX12_addOperation_78 : decode cX12_addOperation 78 = .ok (.iload 4, 2) := by decide +kernel
theorem dX12_addOperation_80 : decode cX12_addOperation 80 = .ok (.invokevirtual 131, 3) := by decide +kernel
theorem dX12_addOperation_83 : decode cX12_addOperation 83 = .ok (.ireturn, 1) := by decide +kernel
theorem dX12_setJob_0 : decode cX12_setJob 0 = .ok (.aload_n 0, 1) := by decide +kernel
theorem dX12_setJob_1 : decode cX12_setJob 1 = .ok (.aload_n 0, 1) := by decide +kernel
theorem dX12_setJob_2 : decode cX12_setJob 2 = .ok (.iload_n 1, 1) := by decide +kernel
theorem dX12_setJob_3 : decode cX12_setJob 3 = .ok (.invokevirtual 118, 3) := by decide +kernel
theorem dX12_setJob_6 : decode cX12_setJob 6 = .ok (.ifCond .ne 7, 3) := by decide +kernel
theorem dX12_setJob_9 : decode cX12_setJob 9 = .ok (.iconst 1, 1) := by decide +kernel
theorem dX12_setJob_10 : decode cX12_setJob 10 = .ok (.goto 28, 3) := by decide +kernel
theorem dX12_setJob_13 : decode cX12_setJob 13 = .ok (.iload_n 2, 1) := by decide +kernel
theorem dX12_setJob_14 : decode cX12_setJob 14 = .ok (.i2l, 1) := by decide +kernel
theorem dX12_setJob_15 : decode cX12_setJob 15 = .ok (.lconst 0, 1) := by decide +kernel
theorem dX12_setJob_16 : decode cX12_setJob 16 = .ok (.ldc2_w 108, 3) := by decide +kernel
theorem dX12_setJob_19 : decode cX12_setJob 19 = .ok (.invokestatic 82, 3) := by decide +kernel
theorem dX12_setJob_22 : decode cX12_setJob 22 = .ok (.ifCond .eq 11, 3) := by decide +kernel
theorem dX12_setJob_25 : decode cX12_setJob 25 = .ok (.iload_n 2, 1) := by decide +kernel
theorem dX12_setJob_26 : decode cX12_setJob 26 = .ok (.iload_n 3, 1) := by decide +kernel
theorem dX12_setJob_27 : decode cX12_setJob 27 = .ok (.invokestatic 94, 3) := by decide +kernel
theorem dX12_setJob_30 : decode cX12_setJob 30 = .ok (.ifCond .ne 7, 3) := by decide +kernel
theorem dX12_setJob_33 : decode cX12_setJob 33 = .ok (.iconst 2, 1) := by decide +kernel
theorem dX12_setJob_34 : decode cX12_setJob 34 = .ok (.goto 4, 3) := by decide +kernel
theorem dX12_setJob_37 : decode cX12_setJob 37 = .ok (.iconst 0, 1) := by decide +kernel
theorem dX12_setJob_38 : decode cX12_setJob 38 = .ok (.putfield 79, 3) := by decide +kernel
theorem dX12_setJob_41 : decode cX12_setJob 41 = .ok (.aload_n 0, 1) := by decide +kernel
theorem dX12_setJob_42 : decode cX12_setJob 42 = .ok (.getfield 79, 3) := by decide +kernel
theorem dX12_setJob_45 : decode cX12_setJob 45 = .ok (.ifCond .le 5, 3) := by decide +kernel
theorem dX12_setJob_48 : decode cX12_setJob 48 = .ok (.iconst 0, 1) := by decide +kernel
theorem dX12_setJob_49 : decode cX12_setJob 49 = .ok (.ireturn, 1) := by decide +kernel
theorem dX12_setJob_50 : decode cX12_setJob 50 = .ok (.iconst 2, 1) := by decide +kernel
theorem dX12_setJob_51 : decode cX12_setJob 51 = .ok (.iconst 5, 1) := by decide +kernel
theorem dX12_setJob_52 : decode cX12_setJob 52 = .ok (.iload_n 2, 1) := by decide +kernel
theorem dX12_setJob_53 : decode cX12_setJob 53 = .ok (.imul, 1) := by decide +kernel
theorem dX12_setJob_54 : decode cX12_setJob 54 = .ok (.iadd, 1) := by decide +kernel
theorem dX12_setJob_55 : decode cX12_setJob 55 = .ok (.iload_n 1, 1) := by decide +kernel
theorem dX12_setJob_56 : decode cX12_setJob 56 = .ok (.iadd, 1) := by decide +kernel
theorem dX12_setJob_57 : decode cX12_setJob 57 = .ok (.istore 4, 2) := by decide +kernel
theorem dX12_setJob_59 : decode cX12_setJob 59 = .ok (.aload_n 0, 1) := by decide +kernel
theorem dX12_setJob_60 : decode cX12_setJob 60 = .ok (.getfield 9, 3) := by decide +kernel
theorem dX12_setJob_63 : decode cX12_setJob 63 = .ok (.iload 4, 2) := by decide +kernel
theorem dX12_setJob_65 : decode cX12_setJob 65 = .ok (.iaload, 1) := by decide +kernel
theorem dX12_setJob_66 : decode cX12_setJob 66 = .ok (.istore 5, 2) := by decide +kernel
theorem dX12_setJob_68 : decode cX12_setJob 68 = .ok (.aload_n 0, 1) := by decide +kernel
theorem dX12_setJob_69 : decode cX12_setJob 69 = .ok (.getfield 9, 3) := by decide +kernel
theorem dX12_setJob_72 : decode cX12_setJob 72 = .ok (.iload 4, 2) := by decide +kernel
theorem dX12_setJob_74 : decode cX12_setJob 74 = .ok (.iload_n 3, 1) := by decide +kernel
theorem dX12_setJob_75 : decode cX12_setJob 75 = .ok (.iastore, 1) := by decide +kernel
theorem dX12_setJob_76 : decode cX12_setJob 76 = .ok (.iload 5, 2) := by decide +kernel
theorem dX12_setJob_78 : decode cX12_setJob 78 = .ok (.ireturn, 1) := by decide +kernel
theorem dX12_setDuration_0 : decode cX12_setDuration 0 = .ok (.aload_n 0, 1) := by decide +kernel
theorem dX12_setDuration_1 : decode cX12_setDuration 1 = .ok (.aload_n 0, 1) := by decide +kernel
theorem dX12_setDuration_2 : decode cX12_setDuration 2 = .ok (.iload_n 1, 1) := by decide +kernel
theorem dX12_setDuration_3 : decode cX12_setDuration 3 = .ok (.invokevirtual 135, 3) := by decide +kernel
theorem dX12_setDuration_6 : decode cX12_setDuration 6 = .ok (.ifCond .ne 7, 3) := by decide +kernel
theorem dX12_setDuration_9 : decode cX12_setDuration 9 = .ok (.iconst 1, 1) := by decide +kernel
theorem dX12_setDuration_10 : decode cX12_setDuration 10 = .ok (.goto 20, 3) := by decide +kernel
theorem dX12_setDuration_13 : decode cX12_setDuration 13 = .ok (.iload_n 2, 1) := by decide +kernel
theorem dX12_setDuration_14 : decode cX12_setDuration 14 = .ok (.i2l, 1) := by decide +kernel
theorem dX12_setDuration_15 : decode cX12_setDuration 15 = .ok (.lconst 1, 1) := by decide +kernel
theorem dX12_setDuration_16 : decode cX12_setDuration 16 = .ok (.ldc2_w 106, 3) := by decide +kernel
theorem dX12_setDuration_19 : decode cX12_setDuration 19 = .ok (.invokestatic 82, 3) := by decide +kernel
theorem dX12_setDuration_22 : decode cX12_setDuration 22 = .ok (.ifCond .ne 7, 3) := by decide +kernel
theorem dX12_setDuration_25 : decode cX12_setDuration 25 = .ok (.iconst 2, 1) := by decide +kernel
theorem dX12_setDuration_26 : decode cX12_setDuration 26 = .ok (.goto 4, 3) := by decide +kernel
theorem dX12_setDuration_29 : decode cX12_setDuration 29 = .ok (.iconst 0, 1) := by decide +kernel
theorem dX12_setDuration_30 : decode cX12_setDuration 30 = .ok (.putfield 79, 3) := by decide +kernel
theorem dX12_setDuration_33 : decode cX12_setDuration 33 = .ok (.aload_n 0, 1) := by decide +kernel
theorem dX12_setDuration_34 : decode cX12_setDuration 34 = .ok (.getfield 79, 3) := by decide +kernel
theorem dX12_setDuration_37 : decode cX12_setDuration 37 = .ok (.ifCond .le 5, 3) := by decide +kernel
theorem dX12_setDuration_40 : decode cX12_setDuration 40 = .ok (.iconst 0, 1) := by decide +kernel
theorem dX12_setDuration_41 : decode cX12_setDuration 41 = .ok (.ireturn, 1) := by decide +kernel
theorem dX12_setDuration_42 : decode cX12_setDuration 42 = .ok (.aload_n 0, 1) := by decide +kernel
theorem dX12_setDuration_43 : decode cX12_setDuration 43 = .ok (.getfield 9, 3) := by decide +kernel
theorem dX12_setDuration_46 : decode cX12_setDuration 46 = .ok (.bipush 82, 2) := by decide +kernel
theorem dX12_setDuration_48 : decode cX12_setDuration 48 = .ok (.iload_n 1, 1) := by decide +kernel
theorem dX12_setDuration_49 : decode cX12_setDuration 49 = .ok (.iadd, 1) := by decide +kernel
theorem dX12_setDuration_50 : decode cX12_setDuration 50 = .ok (.iaload, 1) := by decide +kernel
theorem dX12_setDuration_51 : decode cX12_setDuration 51 = .ok (.istore_n 3, 1) := by decide +kernel
theorem dX12_setDuration_52 : decode cX12_setDuration 52 = .ok (.aload_n 0, 1) := by decide +kernel
theorem dX12_setDuration_53 : decode cX12_setDuration 53 = .ok (.getfield 9, 3) := by decide +kernel
theorem dX12_setDuration_56 : decode cX12_setDuration 56 = .ok (.bipush 82, 2) := by decide +kernel
theorem dX12_setDuration_58 : decode cX12_setDuration 58 = .ok (.iload_n 1, 1) := by decide +kernel
theorem dX12_setDuration_59 : decode cX12_setDuration 59 = .ok (.iadd, 1) := by decide +kernel
theorem dX12_setDuration_60 : decode cX12_setDuration 60 = .ok (.iload_n 2, 1) := by decide +kernel
theorem dX12_setDuration_61 : decode cX12_setDuration 61 = .ok (.iastore, 1) := by decide +kernel
theorem dX12_setDuration_62 : decode cX12_setDuration 62 = .ok (.iload_n 3, 1) := by decide +kernel
theorem dX12_setDuration_63 : decode cX12_setDuration 63 = .ok (.ireturn, 1) := by decide +kernel
theorem dX12_setSetup_0 : decode cX12_setSetup 0 = .ok (.aload_n 0, 1) := by decide +kernel
theorem dX12_setSetup_1 : decode cX12_setSetup 1 = .ok (.iload_n 1, 1) := by decide +kernel
theorem dX12_setSetup_2 : decode cX12_setSetup 2 = .ok (.i2l, 1) := by decide +kernel
theorem dX12_setSetup_3 : decode cX12_setSetup 3 = .ok (.lconst 0, 1) := by decide +kernel
theorem dX12_setSetup_4 : decode cX12_setSetup 4 = .ok (.ldc2_w 108, 3) := by decide +kernel
theorem dX12_setSetup_7 : decode cX12_setSetup 7 = .ok (.invokestatic 82, 3) := by decide +kernel
theorem dX12_setSetup_10 : decode cX12_setSetup 10 = .ok (.ifCond .eq 15, 3) := by decide +kernel
theorem dX12_setSetup_13 : decode cX12_setSetup 13 = .ok (.iload_n 2, 1) := by decide +kernel
theorem dX12_setSetup_14 : decode cX12_setSetup 14 = .ok (.i2l, 1) := by decide +kernel
theorem dX12_setSetup_15 : decode cX12_setSetup 15 = .ok (.lconst 0, 1) := by decide +kernel
theorem dX12_setSetup_16 : decode cX12_setSetup 16 = .ok (.ldc2_w 108, 3) := by decide +kernel
theorem dX12_setSetup_19 : decode cX12_setSetup 19 = .ok (.invokestatic 82, 3) := by decide +kernel
theorem dX12_setSetup_22 : decode cX12_setSetup 22 = .ok (.ifCond .ne 7, 3) := by decide +kernel
theorem dX12_setSetup_25 : decode cX12_setSetup 25 = .ok (.iconst 1, 1) := by decide +kernel
theorem dX12_setSetup_26 : decode cX12_setSetup 26 = .ok (.goto 20, 3) := by decide +kernel
theorem dX12_setSetup_29 : decode cX12_setSetup 29 = .ok (.iload_n 3, 1) := by decide +kernel
theorem dX12_setSetup_30 : decode cX12_setSetup 30 = .ok (.i2l, 1) := by decide +kernel
theorem dX12_setSetup_31 : decode cX12_setSetup 31 = .ok (.lconst 0, 1) := by decide +kernel
theorem dX12_setSetup_32 : decode cX12_setSetup 32 = .ok (.ldc2_w 92, 3) := by decide +kernel
theorem dX12_setSetup_35 : decode cX12_setSetup 35 = .ok (.invokestatic 82, 3) := by decide +kernel
theorem dX12_setSetup_38 : decode cX12_setSetup 38 = .ok (.ifCond .ne 7, 3) := by decide +kernel
theorem dX12_setSetup_41 : decode cX12_setSetup 41 = .ok (.iconst 2, 1) := by decide +kernel
theorem dX12_setSetup_42 : decode cX12_setSetup 42 = .ok (.goto 4, 3) := by decide +kernel
theorem dX12_setSetup_45 : decode cX12_setSetup 45 = .ok (.iconst 0, 1) := by decide +kernel
theorem dX12_setSetup_46 : decode cX12_setSetup 46 = .ok (.putfield 79, 3) := by decide +kernel
theorem dX12_setSetup_49 : decode cX12_setSetup 49 = .ok (.aload_n 0, 1) := by decide +kernel
theorem dX12_setSetup_50 : decode cX12_setSetup 50 = .ok (.getfield 79, 3) := by decide +kernel
theorem dX12_setSetup_53 : decode cX12_setSetup 53 = .ok (.ifCond .le 5, 3) := by decide +kernel
theorem dX12_setSetup_56 : decode cX12_setSetup 56 = .ok (.iconst 0, 1) := by decide +kernel
theorem dX12_setSetup_57 : decode cX12_setSetup 57 = .ok (.ireturn, 1) := by decide +kernel
theorem dX12_setSetup_58 : decode cX12_setSetup 58 = .ok (.sipush 142, 3) := by decide +kernel
theorem dX12_setSetup_61 : decode cX12_setSetup 61 = .ok (.iconst 3, 1) := by decide +kernel
theorem dX12_setSetup_62 : decode cX12_setSetup 62 = .ok (.iload_n 1, 1) := by decide +kernel
theorem dX12_setSetup_63 : decode cX12_setSetup 63 = .ok (.imul, 1) := by decide +kernel
theorem dX12_setSetup_64 : decode cX12_setSetup 64 = .ok (.iadd, 1) := by decide +kernel
theorem dX12_setSetup_65 : decode cX12_setSetup 65 = .ok (.iload_n 2, 1) := by decide +kernel
theorem dX12_setSetup_66 : decode cX12_setSetup 66 = .ok (.iadd, 1) := by decide +kernel
theorem dX12_setSetup_67 : decode cX12_setSetup 67 = .ok (.istore 4, 2) := by decide +kernel
theorem dX12_setSetup_69 : decode cX12_setSetup 69 = .ok (.aload_n 0, 1) := by decide +kernel
theorem dX12_setSetup_70 : decode cX12_setSetup 70 = .ok (.getfield 9, 3) := by decide +kernel
theorem dX12_setSetup_73 : decode cX12_setSetup 73 = .ok (.iload 4, 2) := by decide +kernel
theorem dX12_setSetup_75 : decode cX12_setSetup 75 = .ok (.iaload, 1) := by decide +kernel
theorem dX12_setSetup_76 : decode cX12_setSetup 76 = .ok (.istore 5, 2) := by decide +kernel
theorem dX12_setSetup_78 : decode cX12_setSetup 78 = .ok (.aload_n 0, 1) := by decide +kernel
theorem dX12_setSetup_79 : decode cX12_setSetup 79 = .ok (.getfield 9, 3) := by decide +kernel
theorem dX12_setSetup_82 : decode cX12_setSetup 82 = .ok (.iload 4, 2) := by decide +kernel
theorem dX12_setSetup_84 : decode cX12_setSetup 84 = .ok (.iload_n 3, 1) := by decide +kernel
theorem dX12_setSetup_85 : decode cX12_setSetup 85 = .ok (.iastore, 1) := by decide +kernel
theorem dX12_setSetup_86 : decode cX12_setSetup 86 = .ok (.iload 5, 2) := by decide +kernel
theorem dX12_setSetup_88 : decode cX12_setSetup 88 = .ok (.ireturn, 1) := by decide +kernel
theorem dX12_addBreakdown_0 : decode cX12_addBreakdown 0 = .ok (.aload_n 0, 1) := by decide +kernel
theorem dX12_addBreakdown_1 : decode cX12_addBreakdown 1 = .ok (.iload_n 1, 1) := by decide +kernel
theorem dX12_addBreakdown_2 : decode cX12_addBreakdown 2 = .ok (.invokestatic 122, 3) := by decide +kernel
theorem dX12_addBreakdown_5 : decode cX12_addBreakdown 5 = .ok (.ifCond .ne 7, 3) := by decide +kernel
theorem dX12_addBreakdown_8 : decode cX12_addBreakdown 8 = .ok (.iconst 1, 1) := by decide +kernel
theorem dX12_addBreakdown_9 : decode cX12_addBreakdown 9 = .ok (.goto 50, 3) := by decide +kernel
theorem dX12_addBreakdown_12 : decode cX12_addBreakdown 12 = .ok (.iload_n 2, 1) := by decide +kernel
theorem dX12_addBreakdown_13 : decode cX12_addBreakdown 13 = .ok (.i2l, 1) := by decide +kernel
theorem dX12_addBreakdown_14 : decode cX12_addBreakdown 14 = .ok (.lconst 0, 1) := by decide +kernel
theorem dX12_addBreakdown_15 : decode cX12_addBreakdown 15 = .ok (.ldc2_w 138, 3) := by decide +kernel
theorem dX12_addBreakdown_18 : decode cX12_addBreakdown 18 = .ok (.invokestatic 82, 3) := by decide +kernel
theorem dX12_addBreakdown_21 : decode cX12_addBreakdown 21 = .ok (.ifCond .eq 15, 3) := by decide +kernel
theorem dX12_addBreakdown_24 : decode cX12_addBreakdown 24 = .ok (.iload_n 3, 1) := by decide +kernel
theorem dX12_addBreakdown_25 : decode cX12_addBreakdown 25 = .ok (.i2l, 1) := by decide +kernel
theorem dX12_addBreakdown_26 : decode cX12_addBreakdown 26 = .ok (.lconst 1, 1) := by decide +kernel
theorem dX12_addBreakdown_27 : decode cX12_addBreakdown 27 = .ok (.ldc2_w 140, 3) := by decide +kernel
theorem dX12_addBreakdown_30 : decode cX12_addBreakdown 30 = .ok (.invokestatic 82, 3) := by decide +kernel
theorem dX12_addBreakdown_33 : decode cX12_addBreakdown 33 = .ok (.ifCond .ne 7, 3) := by decide +kernel
theorem dX12_addBreakdown_36 : decode cX12_addBreakdown 36 = .ok (.iconst 2, 1) := by decide +kernel
theorem dX12_addBreakdown_37 : decode cX12_addBreakdown 37 = .ok (.goto 22, 3) := by decide +kernel
theorem dX12_addBreakdown_40 : decode cX12_addBreakdown 40 = .ok (.aload_n 0, 1) := by decide +kernel
theorem dX12_addBreakdown_41 : decode cX12_addBreakdown 41 = .ok (.getfield 9, 3) := by decide +kernel
theorem dX12_addBreakdown_44 : decode cX12_addBreakdown 44 = .ok (.sipush 151, 3) := by decide +kernel
theorem dX12_addBreakdown_47 : decode cX12_addBreakdown 47 = .ok (.iload_n 1, 1) := by decide +kernel
theorem dX12_addBreakdown_48 : decode cX12_addBreakdown 48 = .ok (.iadd, 1) := by decide +kernel
theorem dX12_addBreakdown_49 : decode cX12_addBreakdown 49 = .ok (.iaload, 1) := by decide +kernel
theorem dX12_addBreakdown_50 : decode cX12_addBreakdown 50 = .ok (.iconst 3, 1) := by decide +kernel
theorem dX12_addBreakdown_51 : decode cX12_addBreakdown 51 = .ok (.if_icmp .ne 7, 3) := by decide +kernel
theorem dX12_addBreakdown_54 : decode cX12_addBreakdown 54 = .ok (.iconst 3, 1) := by decide +kernel
theorem dX12_addBreakdown_55 : decode cX12_addBreakdown 55 = .ok (.goto 4, 3) := by decide +kernel
theorem dX12_addBreakdown_58 : decode cX12_addBreakdown 58 = .ok (.iconst 0, 1) := by decide +kernel
theorem dX12_addBreakdown_59 : decode cX12_addBreakdown 59 = .ok (.putfield 79, 3) := by decide +kernel
theorem dX12_addBreakdown_62 : decode cX12_addBreakdown 62 = .ok (.aload_n 0, 1) := by decide +kernel
theorem dX12_addBreakdown_63 : decode cX12_addBreakdown 63 = .ok (.getfield 79, 3) := by decide +kernel
theorem dX12_addBreakdown_66 : decode cX12_addBreakdown 66 = .ok (.ifCond .le 5, 3) := by decide +kernel
theorem dX12_addBreakdown_69 : decode cX12_addBreakdown 69 = .ok (.iconst 0, 1) := by decide +kernel
theorem dX12_addBreakdown_70 : decode cX12_addBreakdown 70 = .ok (.ireturn, 1) := by decide +kernel
theorem dX12_addBreakdown_71 : decode cX12_addBreakdown 71 = .ok (.iconst 3, 1) := by decide +kernel
theorem dX12_addBreakdown_72 : decode cX12_addBreakdown 72 = .ok (.iload_n 1, 1) := by decide +kernel
theorem dX12_addBreakdown_73 : decode cX12_addBreakdown 73 = .ok (.imul, 1) := by decide +kernel
theorem dX12_addBreakdown_74 : decode cX12_addBreakdown 74 = .ok (.aload_n 0, 1) := by decide +kernel
theorem dX12_addBreakdown_75 : decode cX12_addBreakdown 75 = .ok (.getfield 9, 3) := by decide +kernel
theorem dX12_addBreakdown_78 : decode cX12_addBreakdown 78 = .ok (.sipush 151, 3) := by decide +kernel
theorem dX12_addBreakdown_81 : decode cX12_addBreakdown 81 = .ok (.iload_n 1, 1) := by decide +kernel
theorem dX12_addBreakdown_82 : decode cX12_addBreakdown 82 = .ok (.iadd, 1) := by decide +kernel
theorem dX12_addBreakdown_83 : decode cX12_addBreakdown 83 = .ok (.iaload, 1) := by decide +kernel
theorem dX12_addBreakdown_84 : decode cX12_addBreakdown 84 = .ok (.iadd, 1) := by decide +kernel
theorem dX12_addBreakdown_85 : decode cX12_addBreakdown 85 = .ok (.istore 4, 2) := by decide +kernel
theorem dX12_addBreakdown_87 : decode cX12_addBreakdown 87 = .ok (.aload_n 0, 1) := by decide +kernel
theorem dX12_addBreakdown_88 : decode cX12_addBreakdown 88 = .ok (.getfield 9, 3) := by decide +kernel
theorem dX12_addBreakdown_91 : decode cX12_addBreakdown 91 = .ok (.sipush 155, 3) := by decide +kernel
theorem dX12_addBreakdown_94 : decode cX12_addBreakdown 94 = .ok (.iload 4, 2) := by decide +kernel
theorem dX12_addBreakdown_96 : decode cX12_addBreakdown 96 = .ok (.iadd, 1) := by decide +kernel
theorem dX12_addBreakdown_97 : decode cX12_addBreakdown 97 = .ok (.iload_n 2, 1) := by decide +kernel
theorem dX12_addBreakdown_98 : decode cX12_addBreakdown 98 = .ok (.iastore, 1) := by decide +kernel
theorem dX12_addBreakdown_99 : decode cX12_addBreakdown 99 = .ok (.aload_n 0, 1) := by decide +kernel
theorem dX12_addBreakdown_100 : decode cX12_addBreakdown 100 = .ok (.getfield 9, 3) := by decide +kernel
theorem dX12_addBreakdown_103 : decode cX12_addBreakdown 103 = .ok (.sipush 167, 3) := by decide +kernel
theorem dX12_addBreakdown_106 : decode cX12_addBreakdown 106 = .ok (.iload 4, 2) := by decide +kernel
theorem dX12_addBreakdown_108 : decode cX12_addBreakdown 108 = .ok (.iadd, 1) := by decide +kernel
theorem dX12_addBreakdown_109 : decode cX12_addBreakdown 109 = .ok (.iload_n 3, 1) := by decide +kernel
theorem dX12_addBreakdown_110 : decode cX12_addBreakdown 110 = .ok (.iastore, 1) := by decide +kernel
theorem dX12_addBreakdown_111 : decode cX12_addBreakdown 111 = .ok (.aload_n 0, 1) := by decide +kernel
theorem dX12_addBreakdown_112 : decode cX12_addBreakdown 112 = .ok (.getfield 9, 3) := by decide +kernel
theorem dX12_addBreakdown_115 : decode cX12_addBreakdown 115 = .ok (.sipush 151, 3) := by decide +kernel
theorem dX12_addBreakdown_118 : decode cX12_addBreakdown 118 = .ok (.iload_n 1, 1) := by decide +kernel
theorem dX12_addBreakdown_119 : decode cX12_addBreakdown 119 = .ok (.iadd, 1) := by decide +kernel
theorem dX12_addBreakdown_120 : decode cX12_addBreakdown 120 = .ok (.dup2, 1) := by decide +kernel
theorem dX12_addBreakdown_121 : decode cX12_addBreakdown 121 = .ok (.iaload, 1) := by decide +kernel
theorem dX12_addBreakdown_122 : decode cX12_addBreakdown 122 = .ok (.iconst 1, 1) := by decide +kernel
theorem dX12_addBreakdown_123 : decode cX12_addBreakdown 123 = .ok (.iadd, 1) := by decide +kernel
theorem dX12_addBreakdown_124 : decode cX12_addBreakdown 124 = .ok (.iastore, 1) := by decide +kernel
theorem dX12_addBreakdown_125 : decode cX12_addBreakdown 125 = .ok (.aload_n 0, 1) := by decide +kernel
theorem dX12_addBreakdown_126 : decode cX12_addBreakdown 126 = .ok (.getfield 9, 3) := by decide +kernel
theorem dX12_addBreakdown_129 : decode cX12_addBreakdown 129 = .ok (.sipush 151, 3) := by decide +kernel
theorem dX12_addBreakdown_132 : decode cX12_addBreakdown 132 = .ok (.iload_n 1, 1) := by decide +kernel
theorem dX12_addBreakdown_133 : decode cX12_addBreakdown 133 = .ok (.iadd, 1) := by decide +kernel
theorem dX12_addBreakdown_134 : decode cX12_addBreakdown 134 = .ok (.iaload, 1) := by decide +kernel
theorem dX12_addBreakdown_135 : decode cX12_addBreakdown 135 = .ok (.ireturn, 1) := by decide +kernel
theorem dX12_clearBreakdowns_0 : decode cX12_clearBreakdowns 0 = .ok (.aload_n 0, 1) := by decide +kernel
theorem dX12_clearBreakdowns_1 : decode cX12_clearBreakdowns 1 = .ok (.iload_n 1, 1) := by decide +kernel
theorem dX12_clearBreakdowns_2 : decode cX12_clearBreakdowns 2 = .ok (.invokestatic 122, 3) := by decide +kernel
theorem dX12_clearBreakdowns_5 : decode cX12_clearBreakdowns 5 = .ok (.ifCond .eq 7, 3) := by decide +kernel
theorem dX12_clearBreakdowns_8 : decode cX12_clearBreakdowns 8 = .ok (.iconst 0, 1) := by decide +kernel
theorem dX12_clearBreakdowns_9 : decode cX12_clearBreakdowns 9 = .ok (.goto 4, 3) := by decide +kernel
theorem dX12_clearBreakdowns_12 : decode cX12_clearBreakdowns 12 = .ok (.iconst 1, 1) := by decide +kernel
theorem dX12_clearBreakdowns_13 : decode cX12_clearBreakdowns 13 = .ok (.putfield 79, 3) := by decide +kernel
theorem dX12_clearBreakdowns_16 : decode cX12_clearBreakdowns 16 = .ok (.aload_n 0, 1) := by decide +kernel
theorem dX12_clearBreakdowns_17 : decode cX12_clearBreakdowns 17 = .ok (.getfield 79, 3) := by decide +kernel
theorem dX12_clearBreakdowns_20 : decode cX12_clearBreakdowns 20 = .ok (.ifCond .le 5, 3) := by decide +kernel
theorem dX12_clearBreakdowns_23 : decode cX12_clearBreakdowns 23 = .ok (.iconst 0, 1) := by decide +kernel
theorem dX12_clearBreakdowns_24 : decode cX12_clearBreakdowns 24 = .ok (.ireturn, 1) := by decide +kernel
theorem dX12_clearBreakdowns_25 : decode cX12_clearBreakdowns 25 = .ok (.aload_n 0, 1) := by decide +kernel
theorem dX12_clearBreakdowns_26 : decode cX12_clearBreakdowns 26 = .ok (.getfield 9, 3) := by decide +kernel
theorem dX12_clearBreakdowns_29 : decode cX12_clearBreakdowns 29 = .ok (.sipush 151, 3) := by decide +kernel
theorem dX12_clearBreakdowns_32 : decode cX12_clearBreakdowns 32 = .ok (.iload_n 1, 1) := by decide +kernel
theorem dX12_clearBreakdowns_33 : decode cX12_clearBreakdowns 33 = .ok (.iadd, 1) := by decide +kernel
theorem dX12_clearBreakdowns_34 : decode cX12_clearBreakdowns 34 = .ok (.iaload, 1) := by decide +kernel
theorem dX12_clearBreakdowns_35 : decode cX12_clearBreakdowns 35 = .ok (.istore_n 2, 1) := by decide +kernel
theorem dX12_clearBreakdowns_36 : decode cX12_clearBreakdowns 36 = .ok (.aload_n 0, 1) := by decide +kernel
theorem dX12_clearBreakdowns_37 : decode cX12_clearBreakdowns 37 = .ok (.getfield 9, 3) := by decide +kernel
theorem dX12_clearBreakdowns_40 : decode cX12_clearBreakdowns 40 = .ok (.sipush 151, 3) := by decide +kernel
theorem dX12_clearBreakdowns_43 : decode cX12_clearBreakdowns 43 = .ok (.iload_n 1, 1) := by decide +kernel
theorem dX12_clearBreakdowns_44 : decode cX12_clearBreakdowns 44 = .ok (.iadd, 1) := by decide +kernel
theorem dX12_clearBreakdowns_45 : decode cX12_clearBreakdowns 45 = .ok (.iconst 0, 1) := by decide +kernel
theorem dX12_clearBreakdowns_46 : decode cX12_clearBreakdowns 46 = .ok (.iastore, 1) := by decide +kernel
theorem dX12_clearBreakdowns_47 : decode cX12_clearBreakdowns 47 = .ok (.iload_n 2, 1) := by decide +kernel
theorem dX12_clearBreakdowns_48 : decode cX12_clearBreakdowns 48 = .ok (.ireturn, 1) := by decide +kernel
theorem dX12_count_0 : decode cX12_count 0 = .ok (.aload_n 0, 1) := by decide +kernel
theorem dX12_count_1 : decode cX12_count 1 = .ok (.iload_n 1, 1) := by decide +kernel
theorem dX12_count_2 : decode cX12_count 2 = .ok (.i2l, 1) := by decide +kernel
theorem dX12_count_3 : decode cX12_count 3 = .ok (.lconst 0, 1) := by decide +kernel
theorem dX12_count_4 : decode cX12_count 4 = .ok (.lconst 1, 1) := by decide +kernel
theorem dX12_count_5 : decode cX12_count 5 = .ok (.invokestatic 82, 3) := by decide +kernel
theorem dX12_count_8 : decode cX12_count 8 = .ok (.ifCond .eq 7, 3) := by decide +kernel
theorem dX12_count_11 : decode cX12_count 11 = .ok (.iconst 0, 1) := by decide +kernel
theorem dX12_count_12 : decode cX12_count 12 = .ok (.goto 4, 3) := by decide +kernel
theorem dX12_count_15 : decode cX12_count 15 = .ok (.iconst 1, 1) := by decide +kernel
theorem dX12_count_16 : decode cX12_count 16 = .ok (.putfield 79, 3) := by decide +kernel
theorem dX12_count_19 : decode cX12_count 19 = .ok (.aload_n 0, 1) := by decide +kernel
theorem dX12_count_20 : decode cX12_count 20 = .ok (.getfield 79, 3) := by decide +kernel
theorem dX12_count_23 : decode cX12_count 23 = .ok (.ifCond .le 7, 3) := by decide +kernel
theorem dX12_count_26 : decode cX12_count 26 = .ok (.iconst 0, 1) := by decide +kernel
theorem dX12_count_27 : decode cX12_count 27 = .ok (.goto 9, 3) := by decide +kernel
theorem dX12_count_30 : decode cX12_count 30 = .ok (.aload_n 0, 1) := by decide +kernel
theorem dX12_count_31 : decode cX12_count 31 = .ok (.getfield 9, 3) := by decide +kernel
theorem dX12_count_34 : decode cX12_count 34 = .ok (.iload_n 1, 1) := by decide +kernel
theorem dX12_count_35 : decode cX12_count 35 = .ok (.iaload, 1) := by decide +kernel
theorem dX12_count_36 : decode cX12_count 36 = .ok (.ireturn, 1) := by decide +kernel
theorem dX12_positionOf_0 : decode cX12_positionOf 0 = .ok (.aload_n 0, 1) := by decide +kernel
theorem dX12_positionOf_1 : decode cX12_positionOf 1 = .ok (.getfield 9, 3) := by decide +kernel
theorem dX12_positionOf_4 : decode cX12_positionOf 4 = .ok (.bipush 62, 2) := by decide +kernel
theorem dX12_positionOf_6 : decode cX12_positionOf 6 = .ok (.iload_n 1, 1) := by decide +kernel
theorem dX12_positionOf_7 : decode cX12_positionOf 7 = .ok (.iadd, 1) := by decide +kernel
theorem dX12_positionOf_8 : decode cX12_positionOf 8 = .ok (.iaload, 1) := by decide +kernel
theorem dX12_positionOf_9 : decode cX12_positionOf 9 = .ok (.istore_n 2, 1) := by decide +kernel
theorem dX12_positionOf_10 : decode cX12_positionOf 10 = .ok (.iconst 0, 1) := by decide +kernel
theorem dX12_positionOf_11 : decode cX12_positionOf 11 = .ok (.istore_n 3, 1) := by decide +kernel
theorem dX12_positionOf_12 : decode cX12_positionOf 12 = .ok (.aload_n 0, 1) := by decide +kernel
theorem dX12_positionOf_13 : decode cX12_positionOf 13 = .ok (.iload_n 2, 1) := by decide +kernel
theorem dX12_positionOf_14 : decode cX12_positionOf 14 = .ok (.iload_n 3, 1) := by decide +kernel
theorem dX12_positionOf_15 : decode cX12_positionOf 15 = .ok (.invokevirtual 142, 3) := by decide +kernel
theorem dX12_positionOf_18 : decode cX12_positionOf 18 = .ok (.iload_n 1, 1) := by decide +kernel
theorem dX12_positionOf_19 : decode cX12_positionOf 19 = .ok (.if_icmp .eq 9, 3) := by decide +kernel
theorem dX12_positionOf_22 : decode cX12_positionOf 22 = .ok (.iinc 3 1, 3) := by decide +kernel
theorem dX12_positionOf_25 : decode cX12_positionOf 25 = .ok (.goto (-13), 3) := by decide +kernel
theorem dX12_positionOf_28 : decode cX12_positionOf 28 = .ok (.iload_n 3, 1) := by decide +kernel
theorem dX12_positionOf_29 : decode cX12_positionOf 29 = .ok (.ireturn, 1) := by decide +kernel
theorem dX12_property_0 : decode cX12_property 0 = .ok (.aload_n 0, 1) := by decide +kernel
theorem dX12_property_1 : decode cX12_property 1 = .ok (.aload_n 0, 1) := by decide +kernel
theorem dX12_property_2 : decode cX12_property 2 = .ok (.iload_n 1, 1) := by decide +kernel
theorem dX12_property_3 : decode cX12_property 3 = .ok (.invokevirtual 135, 3) := by decide +kernel
theorem dX12_property_6 : decode cX12_property 6 = .ok (.ifCond .ne 7, 3) := by decide +kernel
theorem dX12_property_9 : decode cX12_property 9 = .ok (.iconst 1, 1) := by decide +kernel
theorem dX12_property_10 : decode cX12_property 10 = .ok (.goto 20, 3) := by decide +kernel
theorem dX12_property_13 : decode cX12_property 13 = .ok (.iload_n 2, 1) := by decide +kernel
theorem dX12_property_14 : decode cX12_property 14 = .ok (.i2l, 1) := by decide +kernel
theorem dX12_property_15 : decode cX12_property 15 = .ok (.lconst 0, 1) := by decide +kernel
theorem dX12_property_16 : decode cX12_property 16 = .ok (.ldc2_w 145, 3) := by decide +kernel
theorem dX12_property_19 : decode cX12_property 19 = .ok (.invokestatic 82, 3) := by decide +kernel
theorem dX12_property_22 : decode cX12_property 22 = .ok (.ifCond .ne 7, 3) := by decide +kernel
theorem dX12_property_25 : decode cX12_property 25 = .ok (.iconst 2, 1) := by decide +kernel
theorem dX12_property_26 : decode cX12_property 26 = .ok (.goto 4, 3) := by decide +kernel
theorem dX12_property_29 : decode cX12_property 29 = .ok (.iconst 0, 1) := by decide +kernel
theorem dX12_property_30 : decode cX12_property 30 = .ok (.putfield 79, 3) := by decide +kernel
theorem dX12_property_33 : decode cX12_property 33 = .ok (.aload_n 0, 1) := by decide +kernel
theorem dX12_property_34 : decode cX12_property 34 = .ok (.getfield 79, 3) := by decide +kernel
theorem dX12_property_37 : decode cX12_property 37 = .ok (.ifCond .le 5, 3) := by decide +kernel
theorem dX12_property_40 : decode cX12_property 40 = .ok (.iconst 0, 1) := by decide +kernel
theorem dX12_property_41 : decode cX12_property 41 = .ok (.ireturn, 1) := by decide +kernel
theorem dX12_property_42 : decode cX12_property 42 = .ok (.iload_n 2, 1) := by decide +kernel
theorem dX12_property_43 : decode cX12_property 43 = .ok (.iconst 5, 1) := by decide +kernel
theorem dX12_property_44 : decode cX12_property 44 = .ok (.if_icmp .ne 11, 3) := by decide +kernel
theorem dX12_property_47 : decode cX12_property 47 = .ok (.aload_n 0, 1) := by decide +kernel
theorem dX12_property_48 : decode cX12_property 48 = .ok (.iload_n 1, 1) := by decide +kernel
theorem dX12_property_49 : decode cX12_property 49 = .ok (.invokevirtual 147, 3) := by decide +kernel
theorem dX12_property_52 : decode cX12_property 52 = .ok (.goto 17, 3) := by decide +kernel
theorem dX12_property_55 : decode cX12_property 55 = .ok (.aload_n 0, 1) := by decide +kernel
theorem dX12_property_56 : decode cX12_property 56 = .ok (.getfield 9, 3) := by decide +kernel
theorem dX12_property_59 : decode cX12_property 59 = .ok (.bipush 42, 2) := by decide +kernel
theorem dX12_property_61 : decode cX12_property 61 = .ok (.bipush 20, 2) := by decide +kernel
theorem dX12_property_63 : decode cX12_property 63 = .ok (.iload_n 2, 1) := by decide +kernel
theorem dX12_property_64 : decode cX12_property 64 = .ok (.imul, 1) := by decide +kernel
theorem dX12_property_65 : decode cX12_property 65 = .ok (.iadd, 1) := by decide +kernel
theorem dX12_property_66 : decode cX12_property 66 = .ok (.iload_n 1, 1) := by decide +kernel
theorem dX12_property_67 : decode cX12_property 67 = .ok (.iadd, 1) := by decide +kernel
theorem dX12_property_68 : decode cX12_property 68 = .ok (.iaload, 1) := by decide +kernel
theorem dX12_property_69 : decode cX12_property 69 = .ok (.ireturn, 1) := by decide +kernel
theorem dX12_order_0 : decode cX12_order 0 = .ok (.aload_n 0, 1) := by decide +kernel
theorem dX12_order_1 : decode cX12_order 1 = .ok (.iload_n 1, 1) := by decide +kernel
theorem dX12_order_2 : decode cX12_order 2 = .ok (.invokestatic 122, 3) := by decide +kernel
theorem dX12_order_5 : decode cX12_order 5 = .ok (.ifCond .ne 7, 3) := by decide +kernel
theorem dX12_order_8 : decode cX12_order 8 = .ok (.iconst 1, 1) := by decide +kernel
theorem dX12_order_9 : decode cX12_order 9 = .ok (.goto 30, 3) := by decide +kernel
theorem dX12_order_12 : decode cX12_order 12 = .ok (.iload_n 2, 1) := by decide +kernel
theorem dX12_order_13 : decode cX12_order 13 = .ok (.i2l, 1) := by decide +kernel
theorem dX12_order_14 : decode cX12_order 14 = .ok (.lconst 0, 1) := by decide +kernel
theorem dX12_order_15 : decode cX12_order 15 = .ok (.aload_n 0, 1) := by decide +kernel
theorem dX12_order_16 : decode cX12_order 16 = .ok (.getfield 9, 3) := by decide +kernel
theorem dX12_order_19 : decode cX12_order 19 = .ok (.sipush 179, 3) := by decide +kernel
theorem dX12_order_22 : decode cX12_order 22 = .ok (.iload_n 1, 1) := by decide +kernel
theorem dX12_order_23 : decode cX12_order 23 = .ok (.iadd, 1) := by decide +kernel
theorem dX12_order_24 : decode cX12_order 24 = .ok (.iaload, 1) := by decide +kernel
theorem dX12_order_25 : decode cX12_order 25 = .ok (.iconst 1, 1) := by decide +kernel
theorem dX12_order_26 : decode cX12_order 26 = .ok (.isub, 1) := by decide +kernel
theorem dX12_order_27 : decode cX12_order 27 = .ok (.i2l, 1) := by decide +kernel
theorem dX12_order_28 : decode cX12_order 28 = .ok (.invokestatic 82, 3) := by decide +kernel
theorem dX12_order_31 : decode cX12_order 31 = .ok (.ifCond .ne 7, 3) := by decide +kernel
theorem dX12_order_34 : decode cX12_order 34 = .ok (.iconst 2, 1) := by decide +kernel
theorem dX12_order_35 : decode cX12_order 35 = .ok (.goto 4, 3) := by decide +kernel
theorem dX12_order_38 : decode cX12_order 38 = .ok (.iconst 0, 1) := by decide +kernel
theorem dX12_order_39 : decode cX12_order 39 = .ok (.putfield 79, 3) := by decide +kernel
theorem dX12_order_42 : decode cX12_order 42 = .ok (.aload_n 0, 1) := by decide +kernel
theorem dX12_order_43 : decode cX12_order 43 = .ok (.getfield 79, 3) := by decide +kernel
theorem dX12_order_46 : decode cX12_order 46 = .ok (.ifCond .le 7, 3) := by decide +kernel
theorem dX12_order_49 : decode cX12_order 49 = .ok (.iconst 0, 1) := by decide +kernel
theorem dX12_order_50 : decode cX12_order 50 = .ok (.goto 9, 3) := by decide +kernel
theorem dX12_order_53 : decode cX12_order 53 = .ok (.aload_n 0, 1) := by decide +kernel
theorem dX12_order_54 : decode cX12_order 54 = .ok (.iload_n 1, 1) := by decide +kernel
theorem dX12_order_55 : decode cX12_order 55 = .ok (.iload_n 2, 1) := by decide +kernel
theorem dX12_order_56 : decode cX12_order 56 = .ok (.invokevirtual 142, 3) := by decide +kernel
theorem dX12_order_59 : decode cX12_order 59 = .ok (.ireturn, 1) := by decide +kernel
theorem dX12_endOf_0 : decode cX12_endOf 0 = .ok (.aload_n 0, 1) := by decide +kernel
theorem dX12_endOf_1 : decode cX12_endOf 1 = .ok (.getfield 29, 3) := by decide +kernel
theorem dX12_endOf_4 : decode cX12_endOf 4 = .ok (.iload_n 1, 1) := by decide +kernel
theorem dX12_endOf_5 : decode cX12_endOf 5 = .ok (.iaload, 1) := by decide +kernel
theorem dX12_endOf_6 : decode cX12_endOf 6 = .ok (.aload_n 0, 1) := by decide +kernel
theorem dX12_endOf_7 : decode cX12_endOf 7 = .ok (.getfield 9, 3) := by decide +kernel
theorem dX12_endOf_10 : decode cX12_endOf 10 = .ok (.bipush 82, 2) := by decide +kernel
theorem dX12_endOf_12 : decode cX12_endOf 12 = .ok (.iload_n 1, 1) := by decide +kernel
theorem dX12_endOf_13 : decode cX12_endOf 13 = .ok (.iadd, 1) := by decide +kernel
theorem dX12_endOf_14 : decode cX12_endOf 14 = .ok (.iaload, 1) := by decide +kernel
theorem dX12_endOf_15 : decode cX12_endOf 15 = .ok (.iadd, 1) := by decide +kernel
theorem dX12_endOf_16 : decode cX12_endOf 16 = .ok (.ireturn, 1) := by decide +kernel
theorem dX12_free_0 : decode cX12_free 0 = .ok (.iload_n 2, 1) := by decide +kernel
theorem dX12_free_1 : decode cX12_free 1 = .ok (.istore 4, 2) := by decide +kernel
theorem dX12_free_3 : decode cX12_free 3 = .ok (.iconst 1, 1) := by decide +kernel
theorem dX12_free_4 : decode cX12_free 4 = .ok (.istore 5, 2) := by decide +kernel
theorem dX12_free_6 : decode cX12_free 6 = .ok (.iload 5, 2) := by decide +kernel
theorem dX12_free_8 : decode cX12_free 8 = .ok (.ifCond .eq 93, 3) := by decide +kernel
theorem dX12_free_11 : decode cX12_free 11 = .ok (.iconst 0, 1) := by decide +kernel
theorem dX12_free_12 : decode cX12_free 12 = .ok (.istore 5, 2) := by decide +kernel
theorem dX12_free_14 : decode cX12_free 14 = .ok (.iconst 0, 1) := by decide +kernel
theorem dX12_free_15 : decode cX12_free 15 = .ok (.istore 6, 2) := by decide +kernel
theorem dX12_free_17 : decode cX12_free 17 = .ok (.iload 6, 2) := by decide +kernel
theorem dX12_free_19 : decode cX12_free 19 = .ok (.aload_n 0, 1) := by decide +kernel
theorem dX12_free_20 : decode cX12_free 20 = .ok (.getfield 9, 3) := by decide +kernel
theorem dX12_free_23 : decode cX12_free 23 = .ok (.sipush 151, 3) := by decide +kernel
theorem dX12_free_26 : decode cX12_free 26 = .ok (.iload_n 1, 1) := by decide +kernel
theorem dX12_free_27 : decode cX12_free 27 = .ok (.iadd, 1) := by decide +kernel
theorem dX12_free_28 : decode cX12_free 28 = .ok (.iaload, 1) := by decide +kernel
theorem dX12_free_29 : decode cX12_free 29 = .ok (.if_icmp .ge 69, 3) := by decide +kernel
theorem dX12_free_32 : decode cX12_free 32 = .ok (.aload_n 0, 1) := by decide +kernel
theorem dX12_free_33 : decode cX12_free 33 = .ok (.getfield 9, 3) := by decide +kernel
theorem dX12_free_36 : decode cX12_free 36 = .ok (.sipush 155, 3) := by decide +kernel
theorem dX12_free_39 : decode cX12_free 39 = .ok (.iconst 3, 1) := by decide +kernel
theorem dX12_free_40 : decode cX12_free 40 = .ok (.iload_n 1, 1) := by decide +kernel
theorem dX12_free_41 : decode cX12_free 41 = .ok (.imul, 1) := by decide +kernel
theorem dX12_free_42 : decode cX12_free 42 = .ok (.iadd, 1) := by decide +kernel
theorem dX12_free_43 : decode cX12_free 43 = .ok (.iload 6, 2) := by decide +kernel
theorem dX12_free_45 : decode cX12_free 45 = .ok (.iadd, 1) := by decide +kernel
theorem dX12_free_46 : decode cX12_free 46 = .ok (.iaload, 1) := by decide +kernel
theorem dX12_free_47 : decode cX12_free 47 = .ok (.istore 7, 2) := by decide +kernel
theorem dX12_free_49 : decode cX12_free 49 = .ok (.iload 7, 2) := by decide +kernel
theorem dX12_free_51 : decode cX12_free 51 = .ok (.aload_n 0, 1) := by decide +kernel
theorem dX12_free_52 : decode cX12_free 52 = .ok (.getfield 9, 3) := by decide +kernel
theorem dX12_free_55 : decode cX12_free 55 = .ok (.sipush 167, 3) := by decide +kernel
theorem dX12_free_58 : decode cX12_free 58 = .ok (.iconst 3, 1) := by decide +kernel
theorem dX12_free_59 : decode cX12_free 59 = .ok (.iload_n 1, 1) := by decide +kernel
theorem dX12_free_60 : decode cX12_free 60 = .ok (.imul, 1) := by decide +kernel
theorem dX12_free_61 : decode cX12_free 61 = .ok (.iadd, 1) := by decide +kernel
theorem dX12_free_62 : decode cX12_free 62 = .ok (.iload 6, 2) := by decide +kernel
theorem dX12_free_64 : decode cX12_free 64 = .ok (.iadd, 1) := by decide +kernel
theorem dX12_free_65 : decode cX12_free 65 = .ok (.iaload, 1) := by decide +kernel
theorem dX12_free_66 : decode cX12_free 66 = .ok (.iadd, 1) := by decide +kernel
theorem dX12_free_67 : decode cX12_free 67 = .ok (.istore 8, 2) := by decide +kernel
theorem dX12_free_69 : decode cX12_free 69 = .ok (.iload 7, 2) := by decide +kernel
theorem dX12_free_71 : decode cX12_free 71 = .ok (.iload 4, 2) := by decide +kernel
theorem dX12_free_73 : decode cX12_free 73 = .ok (.iload_n 3, 1) := by decide +kernel
theorem dX12_free_74 : decode cX12_free 74 = .ok (.iadd, 1) := by decide +kernel
theorem dX12_free_75 : decode cX12_free 75 = .ok (.if_icmp .ge 17, 3) := by decide +kernel
theorem dX12_free_78 : decode cX12_free 78 = .ok (.iload 4, 2) := by decide +kernel
theorem dX12_free_80 : decode cX12_free 80 = .ok (.iload 8, 2) := by decide +kernel
theorem dX12_free_82 : decode cX12_free 82 = .ok (.if_icmp .ge 10, 3) := by decide +kernel
theorem dX12_free_85 : decode cX12_free 85 = .ok (.iload 8, 2) := by decide +kernel
theorem dX12_free_87 : decode cX12_free 87 = .ok (.istore 4, 2) := by decide +kernel
theorem dX12_free_89 : decode cX12_free 89 = .ok (.iconst 1, 1) := by decide +kernel
theorem dX12_free_90 : decode cX12_free 90 = .ok (.istore 5, 2) := by decide +kernel
theorem dX12_free_92 : decode cX12_free 92 = .ok (.iinc 6 1, 3) := by decide +kernel
theorem dX12_free_95 : decode cX12_free 95 = .ok (.goto (-78), 3) := by decide +kernel
theorem dX12_free_98 : decode cX12_free 98 = .ok (.goto (-92), 3) := by decide +kernel
theorem dX12_free_101 : decode cX12_free 101 = .ok (.iload 4, 2) := by decide +kernel
theorem dX12_free_103 : decode cX12_free 103 = .ok (.ireturn, 1) := by decide +kernel
theorem dX12_before_0 : decode cX12_before 0 = .ok (.aload_n 0, 1) := by decide +kernel
theorem dX12_before_1 : decode cX12_before 1 = .ok (.getfield 9, 3) := by decide +kernel
theorem dX12_before_4 : decode cX12_before 4 = .ok (.bipush 122, 2) := by decide +kernel
theorem dX12_before_6 : decode cX12_before 6 = .ok (.iload_n 1, 1) := by decide +kernel
theorem dX12_before_7 : decode cX12_before 7 = .ok (.iadd, 1) := by decide +kernel
theorem dX12_before_8 : decode cX12_before 8 = .ok (.iaload, 1) := by decide +kernel
theorem dX12_before_9 : decode cX12_before 9 = .ok (.istore_n 2, 1) := by decide +kernel
theorem dX12_before_10 : decode cX12_before 10 = .ok (.iload_n 2, 1) := by decide +kernel
theorem dX12_before_11 : decode cX12_before 11 = .ok (.ifCond .ne 7, 3) := by decide +kernel
theorem dX12_before_14 : decode cX12_before 14 = .ok (.iconst (-1), 1) := by decide +kernel
theorem dX12_before_15 : decode cX12_before 15 = .ok (.goto 19, 3) := by decide +kernel
theorem dX12_before_18 : decode cX12_before 18 = .ok (.aload_n 0, 1) := by decide +kernel
theorem dX12_before_19 : decode cX12_before 19 = .ok (.aload_n 0, 1) := by decide +kernel
theorem dX12_before_20 : decode cX12_before 20 = .ok (.getfield 9, 3) := by decide +kernel
theorem dX12_before_23 : decode cX12_before 23 = .ok (.bipush 42, 2) := by decide +kernel
theorem dX12_before_25 : decode cX12_before 25 = .ok (.iload_n 1, 1) := by decide +kernel
theorem dX12_before_26 : decode cX12_before 26 = .ok (.iadd, 1) := by decide +kernel
theorem dX12_before_27 : decode cX12_before 27 = .ok (.iaload, 1) := by decide +kernel
theorem dX12_before_28 : decode cX12_before 28 = .ok (.iload_n 2, 1) := by decide +kernel
theorem dX12_before_29 : decode cX12_before 29 = .ok (.iconst 1, 1) := by decide +kernel
theorem dX12_before_30 : decode cX12_before 30 = .ok (.isub, 1) := by decide +kernel
theorem dX12_before_31 : decode cX12_before 31 = .ok (.invokevirtual 110, 3) := by decide +kernel
theorem dX12_before_34 : decode cX12_before 34 = .ok (.ireturn, 1) := by decide +kernel
theorem dX12_ahead_0 : decode cX12_ahead 0 = .ok (.aload_n 0, 1) := by decide +kernel
theorem dX12_ahead_1 : decode cX12_ahead 1 = .ok (.getfield 9, 3) := by decide +kernel
theorem dX12_ahead_4 : decode cX12_ahead 4 = .ok (.bipush 62, 2) := by decide +kernel
theorem dX12_ahead_6 : decode cX12_ahead 6 = .ok (.iload_n 1, 1) := by decide +kernel
theorem dX12_ahead_7 : decode cX12_ahead 7 = .ok (.iadd, 1) := by decide +kernel
theorem dX12_ahead_8 : decode cX12_ahead 8 = .ok (.iaload, 1) := by decide +kernel
theorem dX12_ahead_9 : decode cX12_ahead 9 = .ok (.istore_n 2, 1) := by decide +kernel
theorem dX12_ahead_10 : decode cX12_ahead 10 = .ok (.aload_n 0, 1) := by decide +kernel
theorem dX12_ahead_11 : decode cX12_ahead 11 = .ok (.getfield 32, 3) := by decide +kernel
theorem dX12_ahead_14 : decode cX12_ahead 14 = .ok (.iload_n 2, 1) := by decide +kernel
theorem dX12_ahead_15 : decode cX12_ahead 15 = .ok (.baload, 1) := by decide +kernel
theorem dX12_ahead_16 : decode cX12_ahead 16 = .ok (.ifCond .eq 7, 3) := by decide +kernel
theorem dX12_ahead_19 : decode cX12_ahead 19 = .ok (.iconst 0, 1) := by decide +kernel
theorem dX12_ahead_20 : decode cX12_ahead 20 = .ok (.goto 8, 3) := by decide +kernel
theorem dX12_ahead_23 : decode cX12_ahead 23 = .ok (.aload_n 0, 1) := by decide +kernel
theorem dX12_ahead_24 : decode cX12_ahead 24 = .ok (.iload_n 1, 1) := by decide +kernel
theorem dX12_ahead_25 : decode cX12_ahead 25 = .ok (.invokevirtual 147, 3) := by decide +kernel
theorem dX12_ahead_28 : decode cX12_ahead 28 = .ok (.istore_n 3, 1) := by decide +kernel
theorem dX12_ahead_29 : decode cX12_ahead 29 = .ok (.iload_n 3, 1) := by decide +kernel
theorem dX12_ahead_30 : decode cX12_ahead 30 = .ok (.ifCond .ne 7, 3) := by decide +kernel
theorem dX12_ahead_33 : decode cX12_ahead 33 = .ok (.iconst (-1), 1) := by decide +kernel
theorem dX12_ahead_34 : decode cX12_ahead 34 = .ok (.goto 11, 3) := by decide +kernel
theorem dX12_ahead_37 : decode cX12_ahead 37 = .ok (.aload_n 0, 1) := by decide +kernel
theorem dX12_ahead_38 : decode cX12_ahead 38 = .ok (.iload_n 2, 1) := by decide +kernel
theorem dX12_ahead_39 : decode cX12_ahead 39 = .ok (.iload_n 3, 1) := by decide +kernel
theorem dX12_ahead_40 : decode cX12_ahead 40 = .ok (.iconst 1, 1) := by decide +kernel
theorem dX12_ahead_41 : decode cX12_ahead 41 = .ok (.isub, 1) := by decide +kernel
theorem dX12_ahead_42 : decode cX12_ahead 42 = .ok (.invokevirtual 142, 3) := by decide +kernel
theorem dX12_ahead_45 : decode cX12_ahead 45 = .ok (.ireturn, 1) := by decide +kernel
theorem dX12_isKnown_0 : decode cX12_isKnown 0 = .ok (.iload_n 1, 1) := by decide +kernel
theorem dX12_isKnown_1 : decode cX12_isKnown 1 = .ok (.iconst (-1), 1) := by decide +kernel
theorem dX12_isKnown_2 : decode cX12_isKnown 2 = .ok (.if_icmp .eq 12, 3) := by decide +kernel
theorem dX12_isKnown_5 : decode cX12_isKnown 5 = .ok (.aload_n 0, 1) := by decide +kernel
theorem dX12_isKnown_6 : decode cX12_isKnown 6 = .ok (.getfield 29, 3) := by decide +kernel
theorem dX12_isKnown_9 : decode cX12_isKnown 9 = .ok (.iload_n 1, 1) := by decide +kernel
theorem dX12_isKnown_10 : decode cX12_isKnown 10 = .ok (.iaload, 1) := by decide +kernel
theorem dX12_isKnown_11 : decode cX12_isKnown 11 = .ok (.ifCond .lt 7, 3) := by decide +kernel
theorem dX12_isKnown_14 : decode cX12_isKnown 14 = .ok (.iconst 1, 1) := by decide +kernel
theorem dX12_isKnown_15 : decode cX12_isKnown 15 = .ok (.goto 4, 3) := by decide +kernel
theorem dX12_isKnown_18 : decode cX12_isKnown 18 = .ok (.iconst 0, 1) := by decide +kernel
theorem dX12_isKnown_19 : decode cX12_isKnown 19 = .ok (.ireturn, 1) := by decide +kernel
theorem dX12_findTimes_0 : decode cX12_findTimes 0 = .ok (.aload_n 0, 1) := by decide +kernel
theorem dX12_findTimes_1 : decode cX12_findTimes 1 = .ok (.getfield 9, 3) := by decide +kernel
theorem dX12_findTimes_4 : decode cX12_findTimes 4 = .ok (.iconst 1, 1) := by decide +kernel
theorem dX12_findTimes_5 : decode cX12_findTimes 5 = .ok (.iaload, 1) := by decide +kernel
theorem dX12_findTimes_6 : decode cX12_findTimes 6 = .ok (.istore_n 1, 1) := by decide +kernel
theorem dX12_findTimes_7 : decode cX12_findTimes 7 = .ok (.iconst 0, 1) := by decide +kernel
theorem dX12_findTimes_8 : decode cX12_findTimes 8 = .ok (.istore_n 2, 1) := by decide +kernel
theorem dX12_findTimes_9 : decode cX12_findTimes 9 = .ok (.iload_n 2, 1) := by decide +kernel
theorem dX12_findTimes_10 : decode cX12_findTimes 10 = .ok (.iload_n 1, 1) := by decide +kernel
theorem dX12_findTimes_11 : decode cX12_findTimes 11 = .ok (.if_icmp .ge 16, 3) := by decide +kernel
theorem dX12_findTimes_14 : decode cX12_findTimes 14 = .ok (.aload_n 0, 1) := by decide +kernel
theorem dX12_findTimes_15 : decode cX12_findTimes 15 = .ok (.getfield 29, 3) := by decide +kernel
theorem dX12_findTimes_18 : decode cX12_findTimes 18 = .ok (.iload_n 2, 1) := by decide +kernel
theorem dX12_findTimes_19 : decode cX12_findTimes 19 = .ok (.iconst (-1), 1) := by decide +kernel
theorem dX12_findTimes_20 : decode cX12_findTimes 20 = .ok (.iastore, 1) := by decide +kernel
theorem dX12_findTimes_21 : decode cX12_findTimes 21 = .ok (.iinc 2 1, 3) := by decide +kernel
theorem dX12_findTimes_24 : decode cX12_findTimes 24 = .ok (.goto (-15), 3) := by decide +kernel
theorem dX12_findTimes_27 : decode cX12_findTimes 27 = .ok (.iload_n 1, 1) := by decide +kernel
theorem dX12_findTimes_28 : decode cX12_findTimes 28 = .ok (.istore_n 2, 1) := by decide +kernel
theorem dX12_findTimes_29 : decode cX12_findTimes 29 = .ok (.iconst 1, 1) := by decide +kernel
theorem dX12_findTimes_30 : decode cX12_findTimes 30 = .ok (.istore_n 3, 1) := by decide +kernel
theorem dX12_findTimes_31 : decode cX12_findTimes 31 = .ok (.iload_n 3, 1) := by decide +kernel
theorem dX12_findTimes_32 : decode cX12_findTimes 32 = .ok (.ifCond .eq 70, 3) := by decide +kernel
theorem dX12_findTimes_35 : decode cX12_findTimes 35 = .ok (.iconst 0, 1) := by decide +kernel
theorem dX12_findTimes_36 : decode cX12_findTimes 36 = .ok (.istore_n 3, 1) := by decide +kernel
theorem dX12_findTimes_37 : decode cX12_findTimes 37 = .ok (.iconst 0, 1) := by decide +kernel
theorem dX12_findTimes_38 : decode cX12_findTimes 38 = .ok (.istore 4, 2) := by decide +kernel
theorem dX12_findTimes_40 : decode cX12_findTimes 40 = .ok (.iload 4, 2) := by decide +kernel
theorem dX12_findTimes_42 : decode cX12_findTimes 42 = .ok (.iload_n 1, 1) := by decide +kernel
theorem dX12_findTimes_43 : decode cX12_findTimes 43 = .ok (.if_icmp .ge 56, 3) := by decide +kernel
theorem dX12_findTimes_46 : decode cX12_findTimes 46 = .ok (.aload_n 0, 1) := by decide +kernel
theorem dX12_findTimes_47 : decode cX12_findTimes 47 = .ok (.getfield 29, 3) := by decide +kernel
theorem dX12_findTimes_50 : decode cX12_findTimes 50 = .ok (.iload 4, 2) := by decide +kernel
theorem dX12_findTimes_52 : decode cX12_findTimes 52 = .ok (.iaload, 1) := by decide +kernel
theorem dX12_findTimes_53 : decode cX12_findTimes 53 = .ok (.ifCond .ge 40, 3) := by decide +kernel
theorem dX12_findTimes_56 : decode cX12_findTimes 56 = .ok (.aload_n 0, 1) := by decide +kernel
theorem dX12_findTimes_57 : decode cX12_findTimes 57 = .ok (.aload_n 0, 1) := by decide +kernel
theorem dX12_findTimes_58 : decode cX12_findTimes 58 = .ok (.iload 4, 2) := by decide +kernel
theorem dX12_findTimes_60 : decode cX12_findTimes 60 = .ok (.invokevirtual 151, 3) := by decide +kernel
theorem dX12_findTimes_63 : decode cX12_findTimes 63 = .ok (.invokevirtual 154, 3) := by decide +kernel
theorem dX12_findTimes_66 : decode cX12_findTimes 66 = .ok (.ifCond .eq 27, 3) := by decide +kernel
theorem dX12_findTimes_69 : decode cX12_findTimes 69 = .ok (.aload_n 0, 1) := by decide +kernel
theorem dX12_findTimes_70 : decode cX12_findTimes 70 = .ok (.aload_n 0, 1) := by decide +kernel
theorem dX12_findTimes_71 : decode cX12_findTimes 71 = .ok (.iload 4, 2) := by decide +kernel
theorem dX12_findTimes_73 : decode cX12_findTimes 73 = .ok (.invokevirtual 157, 3) := by decide +kernel
theorem dX12_findTimes_76 : decode cX12_findTimes 76 = .ok (.invokevirtual 154, 3) := by decide +kernel
theorem dX12_findTimes_79 : decode cX12_findTimes 79 = .ok (.ifCond .eq 14, 3) := by decide +kernel
theorem dX12_findTimes_82 : decode cX12_findTimes 82 = .ok (.aload_n 0, 1) := by decide +kernel
theorem dX12_findTimes_83 : decode cX12_findTimes 83 = .ok (.iload 4, 2) := by decide +kernel
theorem dX12_findTimes_85 : decode cX12_findTimes 85 = .ok (.invokevirtual 160, 3) := by decide +kernel
theorem dX12_findTimes_88 : decode cX12_findTimes 88 = .ok (.iinc 2 (-1), 3) := by decide +kernel
theorem dX12_findTimes_91 : decode cX12_findTimes 91 = .ok (.iconst 1, 1) := by decide +kernel
theorem dX12_findTimes_92 : decode cX12_findTimes 92 = .ok (.istore_n 3, 1) := by decide +kernel
theorem dX12_findTimes_93 : decode cX12_findTimes 93 = .ok (.iinc 4 1, 3) := by decide +kernel
theorem dX12_findTimes_96 : decode cX12_findTimes 96 = .ok (.goto (-56), 3) := by decide +kernel
theorem dX12_findTimes_99 : decode cX12_findTimes 99 = .ok (.goto (-68), 3) := by decide +kernel
theorem dX12_findTimes_102 : decode cX12_findTimes 102 = .ok (.iload_n 2, 1) := by decide +kernel
theorem dX12_findTimes_103 : decode cX12_findTimes 103 = .ok (.ireturn, 1) := by decide +kernel
theorem dX12_findTime_0 : decode cX12_findTime 0 = .ok (.aload_n 0, 1) := by decide +kernel
theorem dX12_findTime_1 : decode cX12_findTime 1 = .ok (.getfield 9, 3) := by decide +kernel
theorem dX12_findTime_4 : decode cX12_findTime 4 = .ok (.iconst 2, 1) := by decide +kernel
theorem dX12_findTime_5 : decode cX12_findTime 5 = .ok (.aload_n 0, 1) := by decide +kernel
theorem dX12_findTime_6 : decode cX12_findTime 6 = .ok (.getfield 9, 3) := by decide +kernel
theorem dX12_findTime_9 : decode cX12_findTime 9 = .ok (.bipush 42, 2) := by decide +kernel
theorem dX12_findTime_11 : decode cX12_findTime 11 = .ok (.iload_n 1, 1) := by decide +kernel
theorem dX12_findTime_12 : decode cX12_findTime 12 = .ok (.iadd, 1) := by decide +kernel
theorem dX12_findTime_13 : decode cX12_findTime 13 = .ok (.iaload, 1) := by decide +kernel
theorem dX12_findTime_14 : decode cX12_findTime 14 = .ok (.iadd, 1) := by decide +kernel
theorem dX12_findTime_15 : decode cX12_findTime 15 = .ok (.iaload, 1) := by decide +kernel
theorem dX12_findTime_16 : decode cX12_findTime 16 = .ok (.istore_n 2, 1) := by decide +kernel
theorem dX12_findTime_17 : decode cX12_findTime 17 = .ok (.aload_n 0, 1) := by decide +kernel
theorem dX12_findTime_18 : decode cX12_findTime 18 = .ok (.iload_n 1, 1) := by decide +kernel
theorem dX12_findTime_19 : decode cX12_findTime 19 = .ok (.invokevirtual 151, 3) := by decide +kernel
theorem dX12_findTime_22 : decode cX12_findTime 22 = .ok (.istore_n 3, 1) := by decide +kernel
theorem dX12_findTime_23 : decode cX12_findTime 23 = .ok (.aload_n 0, 1) := by decide +kernel
theorem dX12_findTime_24 : decode cX12_findTime 24 = .ok (.iload_n 1, 1) := by decide +kernel
theorem dX12_findTime_25 : decode cX12_findTime 25 = .ok (.invokevirtual 157, 3) := by decide +kernel
theorem dX12_findTime_28 : decode cX12_findTime 28 = .ok (.istore 4, 2) := by decide +kernel
theorem dX12_findTime_30 : decode cX12_findTime 30 = .ok (.iload_n 3, 1) := by decide +kernel
theorem dX12_findTime_31 : decode cX12_findTime 31 = .ok (.iconst (-1), 1) := by decide +kernel
theorem dX12_findTime_32 : decode cX12_findTime 32 = .ok (.if_icmp .ne 7, 3) := by decide +kernel
theorem dX12_findTime_35 : decode cX12_findTime 35 = .ok (.iload_n 2, 1) := by decide +kernel
theorem dX12_findTime_36 : decode cX12_findTime 36 = .ok (.goto 12, 3) := by decide +kernel
theorem dX12_findTime_39 : decode cX12_findTime 39 = .ok (.iload_n 2, 1) := by decide +kernel
theorem dX12_findTime_40 : decode cX12_findTime 40 = .ok (.aload_n 0, 1) := by decide +kernel
theorem dX12_findTime_41 : decode cX12_findTime 41 = .ok (.iload_n 3, 1) := by decide +kernel
theorem dX12_findTime_42 : decode cX12_findTime 42 = .ok (.invokevirtual 164, 3) := by decide +kernel
theorem dX12_findTime_45 : decode cX12_findTime 45 = .ok (.invokestatic 167, 3) := by decide +kernel
theorem dX12_findTime_48 : decode cX12_findTime 48 = .ok (.istore_n 2, 1) := by decide +kernel
theorem dX12_findTime_49 : decode cX12_findTime 49 = .ok (.iload 4, 2) := by decide +kernel
theorem dX12_findTime_51 : decode cX12_findTime 51 = .ok (.iconst (-1), 1) := by decide +kernel
theorem dX12_findTime_52 : decode cX12_findTime 52 = .ok (.if_icmp .ne 7, 3) := by decide +kernel
theorem dX12_findTime_55 : decode cX12_findTime 55 = .ok (.iload_n 2, 1) := by decide +kernel
theorem dX12_findTime_56 : decode cX12_findTime 56 = .ok (.goto 21, 3) := by decide +kernel
theorem dX12_findTime_59 : decode cX12_findTime 59 = .ok (.iload_n 2, 1) := by decide +kernel
theorem dX12_findTime_60 : decode cX12_findTime 60 = .ok (.aload_n 0, 1) := by decide +kernel
theorem dX12_findTime_61 : decode cX12_findTime 61 = .ok (.iload 4, 2) := by decide +kernel
theorem dX12_findTime_63 : decode cX12_findTime 63 = .ok (.invokevirtual 164, 3) := by decide +kernel
theorem dX12_findTime_66 : decode cX12_findTime 66 = .ok (.aload_n 0, 1) := by decide +kernel
theorem dX12_findTime_67 : decode cX12_findTime 67 = .ok (.iload 4, 2) := by decide +kernel
theorem dX12_findTime_69 : decode cX12_findTime 69 = .ok (.iload_n 1, 1) := by decide +kernel
theorem dX12_findTime_70 : decode cX12_findTime 70 = .ok (.invokevirtual 172, 3) := by decide +kernel
theorem dX12_findTime_73 : decode cX12_findTime 73 = .ok (.iadd, 1) := by decide +kernel
theorem dX12_findTime_74 : decode cX12_findTime 74 = .ok (.invokestatic 167, 3) := by decide +kernel
theorem dX12_findTime_77 : decode cX12_findTime 77 = .ok (.istore_n 2, 1) := by decide +kernel
theorem dX12_findTime_78 : decode cX12_findTime 78 = .ok (.aload_n 0, 1) := by decide +kernel
theorem dX12_findTime_79 : decode cX12_findTime 79 = .ok (.getfield 26, 3) := by decide +kernel
theorem dX12_findTime_82 : decode cX12_findTime 82 = .ok (.iload_n 1, 1) := by decide +kernel
theorem dX12_findTime_83 : decode cX12_findTime 83 = .ok (.iload_n 2, 1) := by decide +kernel
theorem dX12_findTime_84 : decode cX12_findTime 84 = .ok (.iastore, 1) := by decide +kernel
theorem dX12_findTime_85 : decode cX12_findTime 85 = .ok (.iload_n 1, 1) := by decide +kernel
theorem dX12_findTime_86 : decode cX12_findTime 86 = .ok (.aload_n 0, 1) := by decide +kernel
theorem dX12_findTime_87 : decode cX12_findTime 87 = .ok (.getfield 36, 3) := by decide +kernel
theorem dX12_findTime_90 : decode cX12_findTime 90 = .ok (.if_icmp .ne 14, 3) := by decide +kernel
theorem dX12_findTime_93 : decode cX12_findTime 93 = .ok (.iload_n 2, 1) := by decide +kernel
theorem dX12_findTime_94 : decode cX12_findTime 94 = .ok (.aload_n 0, 1) := by decide +kernel
theorem dX12_findTime_95 : decode cX12_findTime 95 = .ok (.getfield 175, 3) := by decide +kernel
theorem dX12_findTime_98 : decode cX12_findTime 98 = .ok (.invokestatic 167, 3) := by decide +kernel
theorem dX12_findTime_101 : decode cX12_findTime 101 = .ok (.goto 4, 3) := by decide +kernel
theorem dX12_findTime_104 : decode cX12_findTime 104 = .ok (.iload_n 2, 1) := by decide +kernel
theorem dX12_findTime_105 : decode cX12_findTime 105 = .ok (.istore_n 2, 1) := by decide +kernel
theorem dX12_findTime_106 : decode cX12_findTime 106 = .ok (.aload_n 0, 1) := by decide +kernel
theorem dX12_findTime_107 : decode cX12_findTime 107 = .ok (.getfield 29, 3) := by decide +kernel
theorem dX12_findTime_110 : decode cX12_findTime 110 = .ok (.iload_n 1, 1) := by decide +kernel
theorem dX12_findTime_111 : decode cX12_findTime 111 = .ok (.aload_n 0, 1) := by decide +kernel
theorem dX12_findTime_112 : decode cX12_findTime 112 = .ok (.aload_n 0, 1) := by decide +kernel
theorem dX12_findTime_113 : decode cX12_findTime 113 = .ok (.getfield 9, 3) := by decide +kernel
theorem dX12_findTime_116 : decode cX12_findTime 116 = .ok (.bipush 62, 2) := by decide +kernel
theorem dX12_findTime_118 : decode cX12_findTime 118 = .ok (.iload_n 1, 1) := by decide +kernel
theorem dX12_findTime_119 : decode cX12_findTime 119 = .ok (.iadd, 1) := by decide +kernel
theorem dX12_findTime_120 : decode cX12_findTime 120 = .ok (.iaload, 1) := by decide +kernel
theorem dX12_findTime_121 : decode cX12_findTime 121 = .ok (.iload_n 2, 1) := by decide +kernel
theorem dX12_findTime_122 : decode cX12_findTime 122 = .ok (.aload_n 0, 1) := by decide +kernel
theorem dX12_findTime_123 : decode cX12_findTime 123 = .ok (.getfield 9, 3) := by decide +kernel
theorem dX12_findTime_126 : decode cX12_findTime 126 = .ok (.bipush 82, 2) := by decide +kernel
theorem dX12_findTime_128 : decode cX12_findTime 128 = .ok (.iload_n 1, 1) := by decide +kernel
theorem dX12_findTime_129 : decode cX12_findTime 129 = .ok (.iadd, 1) := by decide +kernel
theorem dX12_findTime_130 : decode cX12_findTime 130 = .ok (.iaload, 1) := by decide +kernel
theorem dX12_findTime_131 : decode cX12_findTime 131 = .ok (.invokevirtual 178, 3) := by decide +kernel
theorem dX12_findTime_134 : decode cX12_findTime 134 = .ok (.iastore, 1) := by decide +kernel
theorem dX12_findTime_135 : decode cX12_findTime 135 = .ok (.return_, 1) := by decide +kernel
theorem dX12_greatestEnd_0 : decode cX12_greatestEnd 0 = .ok (.iconst 0, 1) := by decide +kernel
theorem dX12_greatestEnd_1 : decode cX12_greatestEnd 1 = .ok (.istore_n 1, 1) := by decide +kernel
theorem dX12_greatestEnd_2 : decode cX12_greatestEnd 2 = .ok (.iconst 0, 1) := by decide +kernel
theorem dX12_greatestEnd_3 : decode cX12_greatestEnd 3 = .ok (.istore_n 2, 1) := by decide +kernel
theorem dX12_greatestEnd_4 : decode cX12_greatestEnd 4 = .ok (.iload_n 2, 1) := by decide +kernel
theorem dX12_greatestEnd_5 : decode cX12_greatestEnd 5 = .ok (.aload_n 0, 1) := by decide +kernel
theorem dX12_greatestEnd_6 : decode cX12_greatestEnd 6 = .ok (.getfield 9, 3) := by decide +kernel
theorem dX12_greatestEnd_9 : decode cX12_greatestEnd 9 = .ok (.iconst 1, 1) := by decide +kernel
theorem dX12_greatestEnd_10 : decode cX12_greatestEnd 10 = .ok (.iaload, 1) := by decide +kernel
theorem dX12_greatestEnd_11 : decode cX12_greatestEnd 11 = .ok (.if_icmp .ge 19, 3) := by decide +kernel
theorem dX12_greatestEnd_14 : decode cX12_greatestEnd 14 = .ok (.iload_n 1, 1) := by decide +kernel
theorem dX12_greatestEnd_15 : decode cX12_greatestEnd 15 = .ok (.aload_n 0, 1) := by decide +kernel
theorem dX12_greatestEnd_16 : decode cX12_greatestEnd 16 = .ok (.iload_n 2, 1) := by decide +kernel
theorem dX12_greatestEnd_17 : decode cX12_greatestEnd 17 = .ok (.invokevirtual 164, 3) := by decide +kernel
theorem dX12_greatestEnd_20 : decode cX12_greatestEnd 20 = .ok (.invokestatic 167, 3) := by decide +kernel
theorem dX12_greatestEnd_23 : decode cX12_greatestEnd 23 = .ok (.istore_n 1, 1) := by decide +kernel
theorem dX12_greatestEnd_24 : decode cX12_greatestEnd 24 = .ok (.iinc 2 1, 3) := by decide +kernel
theorem dX12_greatestEnd_27 : decode cX12_greatestEnd 27 = .ok (.goto (-23), 3) := by decide +kernel
theorem dX12_greatestEnd_30 : decode cX12_greatestEnd 30 = .ok (.iload_n 1, 1) := by decide +kernel
theorem dX12_greatestEnd_31 : decode cX12_greatestEnd 31 = .ok (.ireturn, 1) := by decide +kernel
theorem dX12_makespanNow_0 : decode cX12_makespanNow 0 = .ok (.aload_n 0, 1) := by decide +kernel
theorem dX12_makespanNow_1 : decode cX12_makespanNow 1 = .ok (.invokevirtual 181, 3) := by decide +kernel
theorem dX12_makespanNow_4 : decode cX12_makespanNow 4 = .ok (.ifCond .le 7, 3) := by decide +kernel
theorem dX12_makespanNow_7 : decode cX12_makespanNow 7 = .ok (.iconst (-1), 1) := by decide +kernel
theorem dX12_makespanNow_8 : decode cX12_makespanNow 8 = .ok (.goto 7, 3) := by decide +kernel
theorem dX12_makespanNow_11 : decode cX12_makespanNow 11 = .ok (.aload_n 0, 1) := by decide +kernel
theorem dX12_makespanNow_12 : decode cX12_makespanNow 12 = .ok (.invokevirtual 185, 3) := by decide +kernel
theorem dX12_makespanNow_15 : decode cX12_makespanNow 15 = .ok (.ireturn, 1) := by decide +kernel
theorem dX12_time_0 : decode cX12_time 0 = .ok (.aload_n 0, 1) := by decide +kernel
theorem dX12_time_1 : decode cX12_time 1 = .ok (.aload_n 0, 1) := by decide +kernel
theorem dX12_time_2 : decode cX12_time 2 = .ok (.iload_n 1, 1) := by decide +kernel
theorem dX12_time_3 : decode cX12_time 3 = .ok (.invokevirtual 135, 3) := by decide +kernel
theorem dX12_time_6 : decode cX12_time 6 = .ok (.ifCond .ne 7, 3) := by decide +kernel
theorem dX12_time_9 : decode cX12_time 9 = .ok (.iconst 1, 1) := by decide +kernel
theorem dX12_time_10 : decode cX12_time 10 = .ok (.goto 20, 3) := by decide +kernel
theorem dX12_time_13 : decode cX12_time 13 = .ok (.iload_n 2, 1) := by decide +kernel
theorem dX12_time_14 : decode cX12_time 14 = .ok (.i2l, 1) := by decide +kernel
theorem dX12_time_15 : decode cX12_time 15 = .ok (.lconst 0, 1) := by decide +kernel
theorem dX12_time_16 : decode cX12_time 16 = .ok (.ldc2_w 108, 3) := by decide +kernel
theorem dX12_time_19 : decode cX12_time 19 = .ok (.invokestatic 82, 3) := by decide +kernel
theorem dX12_time_22 : decode cX12_time 22 = .ok (.ifCond .ne 7, 3) := by decide +kernel
theorem dX12_time_25 : decode cX12_time 25 = .ok (.iconst 2, 1) := by decide +kernel
theorem dX12_time_26 : decode cX12_time 26 = .ok (.goto 4, 3) := by decide +kernel
theorem dX12_time_29 : decode cX12_time 29 = .ok (.iconst 0, 1) := by decide +kernel
theorem dX12_time_30 : decode cX12_time 30 = .ok (.putfield 79, 3) := by decide +kernel
theorem dX12_time_33 : decode cX12_time 33 = .ok (.aload_n 0, 1) := by decide +kernel
theorem dX12_time_34 : decode cX12_time 34 = .ok (.getfield 79, 3) := by decide +kernel
theorem dX12_time_37 : decode cX12_time 37 = .ok (.ifCond .le 5, 3) := by decide +kernel
theorem dX12_time_40 : decode cX12_time 40 = .ok (.iconst 0, 1) := by decide +kernel
theorem dX12_time_41 : decode cX12_time 41 = .ok (.ireturn, 1) := by decide +kernel
theorem dX12_time_42 : decode cX12_time 42 = .ok (.aload_n 0, 1) := by decide +kernel
theorem dX12_time_43 : decode cX12_time 43 = .ok (.invokevirtual 181, 3) := by decide +kernel
theorem dX12_time_46 : decode cX12_time 46 = .ok (.istore_n 3, 1) := by decide +kernel
theorem dX12_time_47 : decode cX12_time 47 = .ok (.iload_n 2, 1) := by decide +kernel
theorem dX12_time_48 : decode cX12_time 48 = .ok (.ifCond .ne 12, 3) := by decide +kernel
theorem dX12_time_51 : decode cX12_time 51 = .ok (.aload_n 0, 1) := by decide +kernel
theorem dX12_time_52 : decode cX12_time 52 = .ok (.getfield 26, 3) := by decide +kernel
theorem dX12_time_55 : decode cX12_time 55 = .ok (.iload_n 1, 1) := by decide +kernel
theorem dX12_time_56 : decode cX12_time 56 = .ok (.iaload, 1) := by decide +kernel
theorem dX12_time_57 : decode cX12_time 57 = .ok (.goto 22, 3) := by decide +kernel
theorem dX12_time_60 : decode cX12_time 60 = .ok (.iload_n 2, 1) := by decide +kernel
theorem dX12_time_61 : decode cX12_time 61 = .ok (.iconst 1, 1) := by decide +kernel
theorem dX12_time_62 : decode cX12_time 62 = .ok (.if_icmp .ne 12, 3) := by decide +kernel
theorem dX12_time_65 : decode cX12_time 65 = .ok (.aload_n 0, 1) := by decide +kernel
theorem dX12_time_66 : decode cX12_time 66 = .ok (.getfield 29, 3) := by decide +kernel
theorem dX12_time_69 : decode cX12_time 69 = .ok (.iload_n 1, 1) := by decide +kernel
theorem dX12_time_70 : decode cX12_time 70 = .ok (.iaload, 1) := by decide +kernel
theorem dX12_time_71 : decode cX12_time 71 = .ok (.goto 8, 3) := by decide +kernel
theorem dX12_time_74 : decode cX12_time 74 = .ok (.aload_n 0, 1) := by decide +kernel
theorem dX12_time_75 : decode cX12_time 75 = .ok (.iload_n 1, 1) := by decide +kernel
theorem dX12_time_76 : decode cX12_time 76 = .ok (.invokevirtual 164, 3) := by decide +kernel
theorem dX12_time_79 : decode cX12_time 79 = .ok (.ireturn, 1) := by decide +kernel
theorem dX12_makespan_0 : decode cX12_makespan 0 = .ok (.aload_n 0, 1) := by decide +kernel
theorem dX12_makespan_1 : decode cX12_makespan 1 = .ok (.iconst 0, 1) := by decide +kernel
theorem dX12_makespan_2 : decode cX12_makespan 2 = .ok (.putfield 79, 3) := by decide +kernel
theorem dX12_makespan_5 : decode cX12_makespan 5 = .ok (.aload_n 0, 1) := by decide +kernel
theorem dX12_makespan_6 : decode cX12_makespan 6 = .ok (.invokevirtual 188, 3) := by decide +kernel
theorem dX12_makespan_9 : decode cX12_makespan 9 = .ok (.ireturn, 1) := by decide +kernel
theorem dX12_slack_0 : decode cX12_slack 0 = .ok (.aload_n 0, 1) := by decide +kernel
theorem dX12_slack_1 : decode cX12_slack 1 = .ok (.aload_n 0, 1) := by decide +kernel
theorem dX12_slack_2 : decode cX12_slack 2 = .ok (.iload_n 1, 1) := by decide +kernel
theorem dX12_slack_3 : decode cX12_slack 3 = .ok (.invokevirtual 135, 3) := by decide +kernel
theorem dX12_slack_6 : decode cX12_slack 6 = .ok (.ifCond .eq 7, 3) := by decide +kernel
theorem dX12_slack_9 : decode cX12_slack 9 = .ok (.iconst 0, 1) := by decide +kernel
theorem dX12_slack_10 : decode cX12_slack 10 = .ok (.goto 4, 3) := by decide +kernel
theorem dX12_slack_13 : decode cX12_slack 13 = .ok (.iconst 1, 1) := by decide +kernel
theorem dX12_slack_14 : decode cX12_slack 14 = .ok (.putfield 79, 3) := by decide +kernel
theorem dX12_slack_17 : decode cX12_slack 17 = .ok (.aload_n 0, 1) := by decide +kernel
theorem dX12_slack_18 : decode cX12_slack 18 = .ok (.getfield 79, 3) := by decide +kernel
theorem dX12_slack_21 : decode cX12_slack 21 = .ok (.ifCond .le 5, 3) := by decide +kernel
theorem dX12_slack_24 : decode cX12_slack 24 = .ok (.iconst 0, 1) := by decide +kernel
theorem dX12_slack_25 : decode cX12_slack 25 = .ok (.ireturn, 1) := by decide +kernel
theorem dX12_slack_26 : decode cX12_slack 26 = .ok (.aload_n 0, 1) := by decide +kernel
theorem dX12_slack_27 : decode cX12_slack 27 = .ok (.invokevirtual 188, 3) := by decide +kernel
theorem dX12_slack_30 : decode cX12_slack 30 = .ok (.istore_n 2, 1) := by decide +kernel
theorem dX12_slack_31 : decode cX12_slack 31 = .ok (.aload_n 0, 1) := by decide +kernel
theorem dX12_slack_32 : decode cX12_slack 32 = .ok (.getfield 29, 3) := by decide +kernel
theorem dX12_slack_35 : decode cX12_slack 35 = .ok (.iload_n 1, 1) := by decide +kernel
theorem dX12_slack_36 : decode cX12_slack 36 = .ok (.iaload, 1) := by decide +kernel
theorem dX12_slack_37 : decode cX12_slack 37 = .ok (.istore_n 3, 1) := by decide +kernel
theorem dX12_slack_38 : decode cX12_slack 38 = .ok (.bipush 61, 2) := by decide +kernel
theorem dX12_slack_40 : decode cX12_slack 40 = .ok (.istore 4, 2) := by decide +kernel
theorem dX12_slack_42 : decode cX12_slack 42 = .ok (.iconst (-1), 1) := by decide +kernel
theorem dX12_slack_43 : decode cX12_slack 43 = .ok (.istore 5, 2) := by decide +kernel
theorem dX12_slack_45 : decode cX12_slack 45 = .ok (.aload_n 0, 1) := by decide +kernel
theorem dX12_slack_46 : decode cX12_slack 46 = .ok (.iload_n 1, 1) := by decide +kernel
theorem dX12_slack_47 : decode cX12_slack 47 = .ok (.putfield 36, 3) := by decide +kernel
theorem dX12_slack_50 : decode cX12_slack 50 = .ok (.iload 5, 2) := by decide +kernel
theorem dX12_slack_52 : decode cX12_slack 52 = .ok (.iload_n 2, 1) := by decide +kernel
theorem dX12_slack_53 : decode cX12_slack 53 = .ok (.if_icmp .eq 23, 3) := by decide +kernel
theorem dX12_slack_56 : decode cX12_slack 56 = .ok (.iinc 4 (-1), 3) := by decide +kernel
theorem dX12_slack_59 : decode cX12_slack 59 = .ok (.aload_n 0, 1) := by decide +kernel
theorem dX12_slack_60 : decode cX12_slack 60 = .ok (.iload_n 3, 1) := by decide +kernel
theorem dX12_slack_61 : decode cX12_slack 61 = .ok (.iload 4, 2) := by decide +kernel
theorem dX12_slack_63 : decode cX12_slack 63 = .ok (.iadd, 1) := by decide +kernel
theorem dX12_slack_64 : decode cX12_slack 64 = .ok (.putfield 175, 3) := by decide +kernel
theorem dX12_slack_67 : decode cX12_slack 67 = .ok (.aload_n 0, 1) := by decide +kernel
theorem dX12_slack_68 : decode cX12_slack 68 = .ok (.invokevirtual 188, 3) := by decide +kernel
theorem dX12_slack_71 : decode cX12_slack 71 = .ok (.istore 5, 2) := by decide +kernel
theorem dX12_slack_73 : decode cX12_slack 73 = .ok (.goto (-23), 3) := by decide +kernel
theorem dX12_slack_76 : decode cX12_slack 76 = .ok (.aload_n 0, 1) := by decide +kernel
theorem dX12_slack_77 : decode cX12_slack 77 = .ok (.iconst (-1), 1) := by decide +kernel
theorem dX12_slack_78 : decode cX12_slack 78 = .ok (.putfield 36, 3) := by decide +kernel
theorem dX12_slack_81 : decode cX12_slack 81 = .ok (.iload 4, 2) := by decide +kernel
theorem dX12_slack_83 : decode cX12_slack 83 = .ok (.ireturn, 1) := by decide +kernel
theorem dX12_completionOf_0 : decode cX12_completionOf 0 = .ok (.aload_n 0, 1) := by decide +kernel
theorem dX12_completionOf_1 : decode cX12_completionOf 1 = .ok (.getfield 9, 3) := by decide +kernel
theorem dX12_completionOf_4 : decode cX12_completionOf 4 = .ok (.bipush 17, 2) := by decide +kernel
theorem dX12_completionOf_6 : decode cX12_completionOf 6 = .ok (.iload_n 1, 1) := by decide +kernel
theorem dX12_completionOf_7 : decode cX12_completionOf 7 = .ok (.iadd, 1) := by decide +kernel
theorem dX12_completionOf_8 : decode cX12_completionOf 8 = .ok (.iaload, 1) := by decide +kernel
theorem dX12_completionOf_9 : decode cX12_completionOf 9 = .ok (.istore_n 2, 1) := by decide +kernel
theorem dX12_completionOf_10 : decode cX12_completionOf 10 = .ok (.iload_n 2, 1) := by decide +kernel
theorem dX12_completionOf_11 : decode cX12_completionOf 11 = .ok (.ifCond .ne 14, 3) := by decide +kernel
theorem dX12_completionOf_14 : decode cX12_completionOf 14 = .ok (.aload_n 0, 1) := by decide +kernel
theorem dX12_completionOf_15 : decode cX12_completionOf 15 = .ok (.getfield 9, 3) := by decide +kernel
theorem dX12_completionOf_18 : decode cX12_completionOf 18 = .ok (.iconst 2, 1) := by decide +kernel
theorem dX12_completionOf_19 : decode cX12_completionOf 19 = .ok (.iload_n 1, 1) := by decide +kernel
theorem dX12_completionOf_20 : decode cX12_completionOf 20 = .ok (.iadd, 1) := by decide +kernel
theorem dX12_completionOf_21 : decode cX12_completionOf 21 = .ok (.iaload, 1) := by decide +kernel
theorem dX12_completionOf_22 : decode cX12_completionOf 22 = .ok (.goto 15, 3) := by decide +kernel
theorem dX12_completionOf_25 : decode cX12_completionOf 25 = .ok (.aload_n 0, 1) := by decide +kernel
theorem dX12_completionOf_26 : decode cX12_completionOf 26 = .ok (.aload_n 0, 1) := by decide +kernel
theorem dX12_completionOf_27 : decode cX12_completionOf 27 = .ok (.iload_n 1, 1) := by decide +kernel
theorem dX12_completionOf_28 : decode cX12_completionOf 28 = .ok (.iload_n 2, 1) := by decide +kernel
theorem dX12_completionOf_29 : decode cX12_completionOf 29 = .ok (.iconst 1, 1) := by decide +kernel
theorem dX12_completionOf_30 : decode cX12_completionOf 30 = .ok (.isub, 1) := by decide +kernel
theorem dX12_completionOf_31 : decode cX12_completionOf 31 = .ok (.invokevirtual 110, 3) := by decide +kernel
theorem dX12_completionOf_34 : decode cX12_completionOf 34 = .ok (.invokevirtual 164, 3) := by decide +kernel
theorem dX12_completionOf_37 : decode cX12_completionOf 37 = .ok (.ireturn, 1) := by decide +kernel
theorem dX12_completion_0 : decode cX12_completion 0 = .ok (.aload_n 0, 1) := by decide +kernel
theorem dX12_completion_1 : decode cX12_completion 1 = .ok (.aload_n 0, 1) := by decide +kernel
theorem dX12_completion_2 : decode cX12_completion 2 = .ok (.iload_n 1, 1) := by decide +kernel
theorem dX12_completion_3 : decode cX12_completion 3 = .ok (.invokevirtual 118, 3) := by decide +kernel
theorem dX12_completion_6 : decode cX12_completion 6 = .ok (.ifCond .eq 7, 3) := by decide +kernel
theorem dX12_completion_9 : decode cX12_completion 9 = .ok (.iconst 0, 1) := by decide +kernel
theorem dX12_completion_10 : decode cX12_completion 10 = .ok (.goto 4, 3) := by decide +kernel
theorem dX12_completion_13 : decode cX12_completion 13 = .ok (.iconst 1, 1) := by decide +kernel
theorem dX12_completion_14 : decode cX12_completion 14 = .ok (.putfield 79, 3) := by decide +kernel
theorem dX12_completion_17 : decode cX12_completion 17 = .ok (.aload_n 0, 1) := by decide +kernel
theorem dX12_completion_18 : decode cX12_completion 18 = .ok (.getfield 79, 3) := by decide +kernel
theorem dX12_completion_21 : decode cX12_completion 21 = .ok (.ifCond .le 5, 3) := by decide +kernel
theorem dX12_completion_24 : decode cX12_completion 24 = .ok (.iconst 0, 1) := by decide +kernel
theorem dX12_completion_25 : decode cX12_completion 25 = .ok (.ireturn, 1) := by decide +kernel
theorem dX12_completion_26 : decode cX12_completion 26 = .ok (.aload_n 0, 1) := by decide +kernel
theorem dX12_completion_27 : decode cX12_completion 27 = .ok (.invokevirtual 181, 3) := by decide +kernel
theorem dX12_completion_30 : decode cX12_completion 30 = .ok (.istore_n 2, 1) := by decide +kernel
theorem dX12_completion_31 : decode cX12_completion 31 = .ok (.aload_n 0, 1) := by decide +kernel
theorem dX12_completion_32 : decode cX12_completion 32 = .ok (.iload_n 1, 1) := by decide +kernel
theorem dX12_completion_33 : decode cX12_completion 33 = .ok (.invokevirtual 191, 3) := by decide +kernel
theorem dX12_completion_36 : decode cX12_completion 36 = .ok (.ireturn, 1) := by decide +kernel
theorem dX12_setupSum_0 : decode cX12_setupSum 0 = .ok (.iconst 0, 1) := by decide +kernel
theorem dX12_setupSum_1 : decode cX12_setupSum 1 = .ok (.istore_n 1, 1) := by decide +kernel
theorem dX12_setupSum_2 : decode cX12_setupSum 2 = .ok (.iconst 0, 1) := by decide +kernel
theorem dX12_setupSum_3 : decode cX12_setupSum 3 = .ok (.istore_n 2, 1) := by decide +kernel
theorem dX12_setupSum_4 : decode cX12_setupSum 4 = .ok (.iload_n 2, 1) := by decide +kernel
theorem dX12_setupSum_5 : decode cX12_setupSum 5 = .ok (.iconst 4, 1) := by decide +kernel
theorem dX12_setupSum_6 : decode cX12_setupSum 6 = .ok (.if_icmp .ge 52, 3) := by decide +kernel
theorem dX12_setupSum_9 : decode cX12_setupSum 9 = .ok (.iconst 1, 1) := by decide +kernel
theorem dX12_setupSum_10 : decode cX12_setupSum 10 = .ok (.istore_n 3, 1) := by decide +kernel
theorem dX12_setupSum_11 : decode cX12_setupSum 11 = .ok (.iload_n 3, 1) := by decide +kernel
theorem dX12_setupSum_12 : decode cX12_setupSum 12 = .ok (.aload_n 0, 1) := by decide +kernel
theorem dX12_setupSum_13 : decode cX12_setupSum 13 = .ok (.getfield 9, 3) := by decide +kernel
theorem dX12_setupSum_16 : decode cX12_setupSum 16 = .ok (.sipush 179, 3) := by decide +kernel
theorem dX12_setupSum_19 : decode cX12_setupSum 19 = .ok (.iload_n 2, 1) := by decide +kernel
theorem dX12_setupSum_20 : decode cX12_setupSum 20 = .ok (.iadd, 1) := by decide +kernel
theorem dX12_setupSum_21 : decode cX12_setupSum 21 = .ok (.iaload, 1) := by decide +kernel
theorem dX12_setupSum_22 : decode cX12_setupSum 22 = .ok (.if_icmp .ge 30, 3) := by decide +kernel
theorem dX12_setupSum_25 : decode cX12_setupSum 25 = .ok (.iload_n 1, 1) := by decide +kernel
theorem dX12_setupSum_26 : decode cX12_setupSum 26 = .ok (.aload_n 0, 1) := by decide +kernel
theorem dX12_setupSum_27 : decode cX12_setupSum 27 = .ok (.aload_n 0, 1) := by decide +kernel
theorem dX12_setupSum_28 : decode cX12_setupSum 28 = .ok (.iload_n 2, 1) := by decide +kernel
theorem dX12_setupSum_29 : decode cX12_setupSum 29 = .ok (.iload_n 3, 1) := by decide +kernel
theorem dX12_setupSum_30 : decode cX12_setupSum 30 = .ok (.iconst 1, 1) := by decide +kernel
theorem dX12_setupSum_31 : decode cX12_setupSum 31 = .ok (.isub, 1) := by decide +kernel
theorem dX12_setupSum_32 : decode cX12_setupSum 32 = .ok (.invokevirtual 142, 3) := by decide +kernel
theorem dX12_setupSum_35 : decode cX12_setupSum 35 = .ok (.aload_n 0, 1) := by decide +kernel
theorem dX12_setupSum_36 : decode cX12_setupSum 36 = .ok (.iload_n 2, 1) := by decide +kernel
theorem dX12_setupSum_37 : decode cX12_setupSum 37 = .ok (.iload_n 3, 1) := by decide +kernel
theorem dX12_setupSum_38 : decode cX12_setupSum 38 = .ok (.invokevirtual 142, 3) := by decide +kernel
theorem dX12_setupSum_41 : decode cX12_setupSum 41 = .ok (.invokevirtual 172, 3) := by decide +kernel
theorem dX12_setupSum_44 : decode cX12_setupSum 44 = .ok (.iadd, 1) := by decide +kernel
theorem dX12_setupSum_45 : decode cX12_setupSum 45 = .ok (.istore_n 1, 1) := by decide +kernel
theorem dX12_setupSum_46 : decode cX12_setupSum 46 = .ok (.iinc 3 1, 3) := by decide +kernel
theorem dX12_setupSum_49 : decode cX12_setupSum 49 = .ok (.goto (-38), 3) := by decide +kernel
theorem dX12_setupSum_52 : decode cX12_setupSum 52 = .ok (.iinc 2 1, 3) := by decide +kernel
theorem dX12_setupSum_55 : decode cX12_setupSum 55 = .ok (.goto (-51), 3) := by decide +kernel
theorem dX12_setupSum_58 : decode cX12_setupSum 58 = .ok (.iload_n 1, 1) := by decide +kernel
theorem dX12_setupSum_59 : decode cX12_setupSum 59 = .ok (.ireturn, 1) := by decide +kernel
