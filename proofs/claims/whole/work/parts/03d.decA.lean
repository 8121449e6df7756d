theorem dX0_init_0 : decode cX0_init 0 = .ok (.aload_n 0, 1) := by decide +kernel
theorem dX0_init_1 : decode cX0_init 1 = .ok (.invokespecial 3, 3) := by decide +kernel
theorem dX0_init_4 : decode cX0_init 4 = .ok (.aload_n 0, 1) := by decide +kernel
theorem dX0_init_5 : decode cX0_init 5 = .ok (.iconst 4, 1) := by decide +kernel
theorem dX0_init_6 : decode cX0_init 6 = .ok (.newarray .int, 2) := by decide +kernel
theorem dX0_init_8 : decode cX0_init 8 = .ok (.putfield 9, 3) := by decide +kernel
theorem dX0_init_11 : decode cX0_init 11 = .ok (.aload_n 0, 1) := by decide +kernel
theorem dX0_init_12 : decode cX0_init 12 = .ok (.new 15, 3) := by decide +kernel
theorem dX0_init_15 : decode cX0_init 15 = .ok (.dup, 1) := by decide +kernel
theorem dX0_init_16 : decode cX0_init 16 = .ok (.invokespecial 17, 3) := by decide +kernel
theorem dX0_init_19 : decode cX0_init 19 = .ok (.putfield 18, 3) := by decide +kernel
theorem dX0_init_22 : decode cX0_init 22 = .ok (.aload_n 0, 1) := by decide +kernel
theorem dX0_init_23 : decode cX0_init 23 = .ok (.iconst 5, 1) := by decide +kernel
theorem dX0_init_24 : decode cX0_init 24 = .ok (.newarray .int, 2) := by decide +kernel
theorem dX0_init_26 : decode cX0_init 26 = .ok (.putfield 22, 3) := by decide +kernel
theorem dX0_init_29 : decode cX0_init 29 = .ok (.return_, 1) := by decide +kernel
theorem dX0_build_0 : decode cX0_build 0 = .ok (.iconst 0, 1) := by decide +kernel
theorem dX0_build_1 : decode cX0_build 1 = .ok (.istore_n 3, 1) := by decide +kernel
theorem dX0_build_2 : decode cX0_build 2 = .ok (.iload_n 3, 1) := by decide +kernel
theorem dX0_build_3 : decode cX0_build 3 = .ok (.iconst 4, 1) := by decide +kernel
theorem dX0_build_4 : decode cX0_build 4 = .ok (.if_icmp .ge 19, 3) := by decide +kernel
theorem dX0_build_7 : decode cX0_build 7 = .ok (.aload_n 0, 1) := by decide +kernel
theorem dX0_build_8 : decode cX0_build 8 = .ok (.getfield 18, 3) := by decide +kernel
theorem dX0_build_11 : decode cX0_build 11 = .ok (.getfield 25, 3) := by decide +kernel
theorem dX0_build_14 : decode cX0_build 14 = .ok (.iload_n 3, 1) := by decide +kernel
theorem dX0_build_15 : decode cX0_build 15 = .ok (.iconst 1, 1) := by decide +kernel
theorem dX0_build_16 : decode cX0_build 16 = .ok (.bastore, 1) := by decide +kernel
theorem dX0_build_17 : decode cX0_build 17 = .ok (.iinc 3 1, 3) := by decide +kernel
theorem dX0_build_20 : decode cX0_build 20 = .ok (.goto (-18), 3) := by decide +kernel
theorem dX0_build_23 : decode cX0_build 23 = .ok (.iconst 0, 1) := by decide +kernel
theorem dX0_build_24 : decode cX0_build 24 = .ok (.istore_n 3, 1) := by decide +kernel
theorem dX0_build_25 : decode cX0_build 25 = .ok (.iload_n 3, 1) := by decide +kernel
theorem dX0_build_26 : decode cX0_build 26 = .ok (.iconst 4, 1) := by decide +kernel
theorem dX0_build_27 : decode cX0_build 27 = .ok (.if_icmp .ge 63, 3) := by decide +kernel
theorem dX0_build_30 : decode cX0_build 30 = .ok (.aload_n 0, 1) := by decide +kernel
theorem dX0_build_31 : decode cX0_build 31 = .ok (.aload_n 1, 1) := by decide +kernel
theorem dX0_build_32 : decode cX0_build 32 = .ok (.aload_n 2, 1) := by decide +kernel
theorem dX0_build_33 : decode cX0_build 33 = .ok (.iload_n 3, 1) := by decide +kernel
theorem dX0_build_34 : decode cX0_build 34 = .ok (.invokevirtual 29, 3) := by decide +kernel
theorem dX0_build_37 : decode cX0_build 37 = .ok (.iconst 0, 1) := by decide +kernel
theorem dX0_build_38 : decode cX0_build 38 = .ok (.istore 4, 2) := by decide +kernel
theorem dX0_build_40 : decode cX0_build 40 = .ok (.iload 4, 2) := by decide +kernel
theorem dX0_build_42 : decode cX0_build 42 = .ok (.iload_n 3, 1) := by decide +kernel
theorem dX0_build_43 : decode cX0_build 43 = .ok (.if_icmp .ge 41, 3) := by decide +kernel
theorem dX0_build_46 : decode cX0_build 46 = .ok (.aload_n 2, 1) := by decide +kernel
theorem dX0_build_47 : decode cX0_build 47 = .ok (.aload_n 1, 1) := by decide +kernel
theorem dX0_build_48 : decode cX0_build 48 = .ok (.aload_n 0, 1) := by decide +kernel
theorem dX0_build_49 : decode cX0_build 49 = .ok (.getfield 18, 3) := by decide +kernel
theorem dX0_build_52 : decode cX0_build 52 = .ok (.aload_n 0, 1) := by decide +kernel
theorem dX0_build_53 : decode cX0_build 53 = .ok (.getfield 9, 3) := by decide +kernel
theorem dX0_build_56 : decode cX0_build 56 = .ok (.iload 4, 2) := by decide +kernel
theorem dX0_build_58 : decode cX0_build 58 = .ok (.iaload, 1) := by decide +kernel
theorem dX0_build_59 : decode cX0_build 59 = .ok (.invokevirtual 33, 3) := by decide +kernel
theorem dX0_build_62 : decode cX0_build 62 = .ok (.aload_n 2, 1) := by decide +kernel
theorem dX0_build_63 : decode cX0_build 63 = .ok (.aload_n 1, 1) := by decide +kernel
theorem dX0_build_64 : decode cX0_build 64 = .ok (.getfield 39, 3) := by decide +kernel
theorem dX0_build_67 : decode cX0_build 67 = .ok (.aload_n 0, 1) := by decide +kernel
theorem dX0_build_68 : decode cX0_build 68 = .ok (.getfield 9, 3) := by decide +kernel
theorem dX0_build_71 : decode cX0_build 71 = .ok (.iload 4, 2) := by decide +kernel
theorem dX0_build_73 : decode cX0_build 73 = .ok (.iaload, 1) := by decide +kernel
theorem dX0_build_74 : decode cX0_build 74 = .ok (.invokevirtual 45, 3) := by decide +kernel
theorem dX0_build_77 : decode cX0_build 77 = .ok (.pop, 1) := by decide +kernel
theorem dX0_build_78 : decode cX0_build 78 = .ok (.iinc 4 1, 3) := by decide +kernel
theorem dX0_build_81 : decode cX0_build 81 = .ok (.goto (-41), 3) := by decide +kernel
theorem dX0_build_84 : decode cX0_build 84 = .ok (.iinc 3 1, 3) := by decide +kernel
theorem dX0_build_87 : decode cX0_build 87 = .ok (.goto (-62), 3) := by decide +kernel
theorem dX0_build_90 : decode cX0_build 90 = .ok (.aload_n 0, 1) := by decide +kernel
theorem dX0_build_91 : decode cX0_build 91 = .ok (.iconst 4, 1) := by decide +kernel
theorem dX0_build_92 : decode cX0_build 92 = .ok (.putfield 49, 3) := by decide +kernel
theorem dX0_build_95 : decode cX0_build 95 = .ok (.return_, 1) := by decide +kernel
theorem dX0_closeNext_0 : decode cX0_closeNext 0 = .ok (.iconst (-1), 1) := by decide +kernel
theorem dX0_closeNext_1 : decode cX0_closeNext 1 = .ok (.istore 4, 2) := by decide +kernel
theorem dX0_closeNext_3 : decode cX0_closeNext 3 = .ok (.iconst 0, 1) := by decide +kernel
theorem dX0_closeNext_4 : decode cX0_closeNext 4 = .ok (.istore 5, 2) := by decide +kernel
theorem dX0_closeNext_6 : decode cX0_closeNext 6 = .ok (.iconst 0, 1) := by decide +kernel
theorem dX0_closeNext_7 : decode cX0_closeNext 7 = .ok (.istore 6, 2) := by decide +kernel
theorem dX0_closeNext_9 : decode cX0_closeNext 9 = .ok (.iload 6, 2) := by decide +kernel
theorem dX0_closeNext_11 : decode cX0_closeNext 11 = .ok (.iconst 4, 1) := by decide +kernel
theorem dX0_closeNext_12 : decode cX0_closeNext 12 = .ok (.if_icmp .ge 80, 3) := by decide +kernel
theorem dX0_closeNext_15 : decode cX0_closeNext 15 = .ok (.aload_n 0, 1) := by decide +kernel
theorem dX0_closeNext_16 : decode cX0_closeNext 16 = .ok (.getfield 18, 3) := by decide +kernel
theorem dX0_closeNext_19 : decode cX0_closeNext 19 = .ok (.getfield 25, 3) := by decide +kernel
theorem dX0_closeNext_22 : decode cX0_closeNext 22 = .ok (.iload 6, 2) := by decide +kernel
theorem dX0_closeNext_24 : decode cX0_closeNext 24 = .ok (.baload, 1) := by decide +kernel
theorem dX0_closeNext_25 : decode cX0_closeNext 25 = .ok (.ifCond .eq 61, 3) := by decide +kernel
theorem dX0_closeNext_28 : decode cX0_closeNext 28 = .ok (.aload_n 2, 1) := by decide +kernel
theorem dX0_closeNext_29 : decode cX0_closeNext 29 = .ok (.aload_n 1, 1) := by decide +kernel
theorem dX0_closeNext_30 : decode cX0_closeNext 30 = .ok (.aload_n 0, 1) := by decide +kernel
theorem dX0_closeNext_31 : decode cX0_closeNext 31 = .ok (.getfield 18, 3) := by decide +kernel
theorem dX0_closeNext_34 : decode cX0_closeNext 34 = .ok (.iload 6, 2) := by decide +kernel
theorem dX0_closeNext_36 : decode cX0_closeNext 36 = .ok (.invokevirtual 33, 3) := by decide +kernel
theorem dX0_closeNext_39 : decode cX0_closeNext 39 = .ok (.aload_n 0, 1) := by decide +kernel
theorem dX0_closeNext_40 : decode cX0_closeNext 40 = .ok (.getfield 18, 3) := by decide +kernel
theorem dX0_closeNext_43 : decode cX0_closeNext 43 = .ok (.getfield 25, 3) := by decide +kernel
theorem dX0_closeNext_46 : decode cX0_closeNext 46 = .ok (.iload 6, 2) := by decide +kernel
theorem dX0_closeNext_48 : decode cX0_closeNext 48 = .ok (.iconst 1, 1) := by decide +kernel
theorem dX0_closeNext_49 : decode cX0_closeNext 49 = .ok (.bastore, 1) := by decide +kernel
theorem dX0_closeNext_50 : decode cX0_closeNext 50 = .ok (.iload 4, 2) := by decide +kernel
theorem dX0_closeNext_52 : decode cX0_closeNext 52 = .ok (.iconst (-1), 1) := by decide +kernel
theorem dX0_closeNext_53 : decode cX0_closeNext 53 = .ok (.if_icmp .eq 12, 3) := by decide +kernel
theorem dX0_closeNext_56 : decode cX0_closeNext 56 = .ok (.aload_n 2, 1) := by decide +kernel
theorem dX0_closeNext_57 : decode cX0_closeNext 57 = .ok (.getfield 53, 3) := by decide +kernel
theorem dX0_closeNext_60 : decode cX0_closeNext 60 = .ok (.iload 5, 2) := by decide +kernel
theorem dX0_closeNext_62 : decode cX0_closeNext 62 = .ok (.if_icmp .le 24, 3) := by decide +kernel
theorem dX0_closeNext_65 : decode cX0_closeNext 65 = .ok (.iload 6, 2) := by decide +kernel
theorem dX0_closeNext_67 : decode cX0_closeNext 67 = .ok (.istore 4, 2) := by decide +kernel
theorem dX0_closeNext_69 : decode cX0_closeNext 69 = .ok (.aload_n 2, 1) := by decide +kernel
theorem dX0_closeNext_70 : decode cX0_closeNext 70 = .ok (.getfield 53, 3) := by decide +kernel
theorem dX0_closeNext_73 : decode cX0_closeNext 73 = .ok (.istore 5, 2) := by decide +kernel
theorem dX0_closeNext_75 : decode cX0_closeNext 75 = .ok (.aload_n 2, 1) := by decide +kernel
theorem dX0_closeNext_76 : decode cX0_closeNext 76 = .ok (.getfield 56, 3) := by decide +kernel
theorem dX0_closeNext_79 : decode cX0_closeNext 79 = .ok (.aload_n 0, 1) := by decide +kernel
theorem dX0_closeNext_80 : decode cX0_closeNext 80 = .ok (.getfield 22, 3) := by decide +kernel
theorem dX0_closeNext_83 : decode cX0_closeNext 83 = .ok (.invokestatic 59, 3) := by decide +kernel
theorem dX0_closeNext_86 : decode cX0_closeNext 86 = .ok (.iinc 6 1, 3) := by decide +kernel
theorem dX0_closeNext_89 : decode cX0_closeNext 89 = .ok (.goto (-80), 3) := by decide +kernel
theorem dX0_closeNext_92 : decode cX0_closeNext 92 = .ok (.iload 4, 2) := by decide +kernel
theorem dX0_closeNext_94 : decode cX0_closeNext 94 = .ok (.iconst (-1), 1) := by decide +kernel
theorem dX0_closeNext_95 : decode cX0_closeNext 95 = .ok (.if_icmp .eq 39, 3) := by decide +kernel
theorem dX0_closeNext_98 : decode cX0_closeNext 98 = .ok (.aload_n 0, 1) := by decide +kernel
theorem dX0_closeNext_99 : decode cX0_closeNext 99 = .ok (.getfield 18, 3) := by decide +kernel
theorem dX0_closeNext_102 : decode cX0_closeNext 102 = .ok (.getfield 25, 3) := by decide +kernel
theorem dX0_closeNext_105 : decode cX0_closeNext 105 = .ok (.iload 4, 2) := by decide +kernel
theorem dX0_closeNext_107 : decode cX0_closeNext 107 = .ok (.iconst 0, 1) := by decide +kernel
theorem dX0_closeNext_108 : decode cX0_closeNext 108 = .ok (.bastore, 1) := by decide +kernel
theorem dX0_closeNext_109 : decode cX0_closeNext 109 = .ok (.aload_n 0, 1) := by decide +kernel
theorem dX0_closeNext_110 : decode cX0_closeNext 110 = .ok (.getfield 22, 3) := by decide +kernel
theorem dX0_closeNext_113 : decode cX0_closeNext 113 = .ok (.aload_n 1, 1) := by decide +kernel
theorem dX0_closeNext_114 : decode cX0_closeNext 114 = .ok (.getfield 39, 3) := by decide +kernel
theorem dX0_closeNext_117 : decode cX0_closeNext 117 = .ok (.getfield 63, 3) := by decide +kernel
theorem dX0_closeNext_120 : decode cX0_closeNext 120 = .ok (.iload 4, 2) := by decide +kernel
theorem dX0_closeNext_122 : decode cX0_closeNext 122 = .ok (.aaload, 1) := by decide +kernel
theorem dX0_closeNext_123 : decode cX0_closeNext 123 = .ok (.invokestatic 59, 3) := by decide +kernel
theorem dX0_closeNext_126 : decode cX0_closeNext 126 = .ok (.aload_n 0, 1) := by decide +kernel
theorem dX0_closeNext_127 : decode cX0_closeNext 127 = .ok (.getfield 9, 3) := by decide +kernel
theorem dX0_closeNext_130 : decode cX0_closeNext 130 = .ok (.iload_n 3, 1) := by decide +kernel
theorem dX0_closeNext_131 : decode cX0_closeNext 131 = .ok (.iload 4, 2) := by decide +kernel
theorem dX0_closeNext_133 : decode cX0_closeNext 133 = .ok (.iastore, 1) := by decide +kernel
theorem dX0_closeNext_134 : decode cX0_closeNext 134 = .ok (.return_, 1) := by decide +kernel
theorem dX1_init_0 : decode cX1_init 0 = .ok (.aload_n 0, 1) := by decide +kernel
theorem dX1_init_1 : decode cX1_init 1 = .ok (.invokespecial 3, 3) := by decide +kernel
theorem dX1_init_4 : decode cX1_init 4 = .ok (.aload_n 0, 1) := by decide +kernel
theorem dX1_init_5 : decode cX1_init 5 = .ok (.iconst 5, 1) := by decide +kernel
theorem dX1_init_6 : decode cX1_init 6 = .ok (.newarray .int, 2) := by decide +kernel
theorem dX1_init_8 : decode cX1_init 8 = .ok (.putfield 9, 3) := by decide +kernel
theorem dX1_init_11 : decode cX1_init 11 = .ok (.aload_n 0, 1) := by decide +kernel
theorem dX1_init_12 : decode cX1_init 12 = .ok (.iconst 5, 1) := by decide +kernel
theorem dX1_init_13 : decode cX1_init 13 = .ok (.newarray .int, 2) := by decide +kernel
theorem dX1_init_15 : decode cX1_init 15 = .ok (.putfield 15, 3) := by decide +kernel
theorem dX1_init_18 : decode cX1_init 18 = .ok (.aload_n 0, 1) := by decide +kernel
theorem dX1_init_19 : decode cX1_init 19 = .ok (.iconst 5, 1) := by decide +kernel
theorem dX1_init_20 : decode cX1_init 20 = .ok (.newarray .int, 2) := by decide +kernel
theorem dX1_init_22 : decode cX1_init 22 = .ok (.putfield 18, 3) := by decide +kernel
theorem dX1_init_25 : decode cX1_init 25 = .ok (.return_, 1) := by decide +kernel
theorem dX1_ofShop_0 : decode cX1_ofShop 0 = .ok (.iconst 0, 1) := by decide +kernel
theorem dX1_ofShop_1 : decode cX1_ofShop 1 = .ok (.istore_n 2, 1) := by decide +kernel
theorem dX1_ofShop_2 : decode cX1_ofShop 2 = .ok (.iconst 0, 1) := by decide +kernel
theorem dX1_ofShop_3 : decode cX1_ofShop 3 = .ok (.istore_n 3, 1) := by decide +kernel
theorem dX1_ofShop_4 : decode cX1_ofShop 4 = .ok (.iload_n 3, 1) := by decide +kernel
theorem dX1_ofShop_5 : decode cX1_ofShop 5 = .ok (.iconst 4, 1) := by decide +kernel
theorem dX1_ofShop_6 : decode cX1_ofShop 6 = .ok (.if_icmp .ge 20, 3) := by decide +kernel
theorem dX1_ofShop_9 : decode cX1_ofShop 9 = .ok (.iload_n 2, 1) := by decide +kernel
theorem dX1_ofShop_10 : decode cX1_ofShop 10 = .ok (.aload_n 0, 1) := by decide +kernel
theorem dX1_ofShop_11 : decode cX1_ofShop 11 = .ok (.aload_n 1, 1) := by decide +kernel
theorem dX1_ofShop_12 : decode cX1_ofShop 12 = .ok (.iload_n 3, 1) := by decide +kernel
theorem dX1_ofShop_13 : decode cX1_ofShop 13 = .ok (.invokevirtual 21, 3) := by decide +kernel
theorem dX1_ofShop_16 : decode cX1_ofShop 16 = .ok (.invokestatic 25, 3) := by decide +kernel
theorem dX1_ofShop_19 : decode cX1_ofShop 19 = .ok (.istore_n 2, 1) := by decide +kernel
theorem dX1_ofShop_20 : decode cX1_ofShop 20 = .ok (.iinc 3 1, 3) := by decide +kernel
theorem dX1_ofShop_23 : decode cX1_ofShop 23 = .ok (.goto (-19), 3) := by decide +kernel
theorem dX1_ofShop_26 : decode cX1_ofShop 26 = .ok (.iconst 0, 1) := by decide +kernel
theorem dX1_ofShop_27 : decode cX1_ofShop 27 = .ok (.istore_n 3, 1) := by decide +kernel
theorem dX1_ofShop_28 : decode cX1_ofShop 28 = .ok (.iload_n 3, 1) := by decide +kernel
theorem dX1_ofShop_29 : decode cX1_ofShop 29 = .ok (.aload_n 1, 1) := by decide +kernel
theorem dX1_ofShop_30 : decode cX1_ofShop 30 = .ok (.getfield 31, 3) := by decide +kernel
theorem dX1_ofShop_33 : decode cX1_ofShop 33 = .ok (.if_icmp .ge 44, 3) := by decide +kernel
theorem dX1_ofShop_36 : decode cX1_ofShop 36 = .ok (.aload_n 1, 1) := by decide +kernel
theorem dX1_ofShop_37 : decode cX1_ofShop 37 = .ok (.getfield 37, 3) := by decide +kernel
theorem dX1_ofShop_40 : decode cX1_ofShop 40 = .ok (.iload_n 3, 1) := by decide +kernel
theorem dX1_ofShop_41 : decode cX1_ofShop 41 = .ok (.iaload, 1) := by decide +kernel
theorem dX1_ofShop_42 : decode cX1_ofShop 42 = .ok (.ifCond .le 29, 3) := by decide +kernel
theorem dX1_ofShop_45 : decode cX1_ofShop 45 = .ok (.iload_n 2, 1) := by decide +kernel
theorem dX1_ofShop_46 : decode cX1_ofShop 46 = .ok (.aload_n 1, 1) := by decide +kernel
theorem dX1_ofShop_47 : decode cX1_ofShop 47 = .ok (.getfield 40, 3) := by decide +kernel
theorem dX1_ofShop_50 : decode cX1_ofShop 50 = .ok (.iload_n 3, 1) := by decide +kernel
theorem dX1_ofShop_51 : decode cX1_ofShop 51 = .ok (.aaload, 1) := by decide +kernel
theorem dX1_ofShop_52 : decode cX1_ofShop 52 = .ok (.iconst 0, 1) := by decide +kernel
theorem dX1_ofShop_53 : decode cX1_ofShop 53 = .ok (.iaload, 1) := by decide +kernel
theorem dX1_ofShop_54 : decode cX1_ofShop 54 = .ok (.aload_n 1, 1) := by decide +kernel
theorem dX1_ofShop_55 : decode cX1_ofShop 55 = .ok (.iload_n 3, 1) := by decide +kernel
theorem dX1_ofShop_56 : decode cX1_ofShop 56 = .ok (.iconst 0, 1) := by decide +kernel
theorem dX1_ofShop_57 : decode cX1_ofShop 57 = .ok (.aload_n 1, 1) := by decide +kernel
theorem dX1_ofShop_58 : decode cX1_ofShop 58 = .ok (.getfield 37, 3) := by decide +kernel
theorem dX1_ofShop_61 : decode cX1_ofShop 61 = .ok (.iload_n 3, 1) := by decide +kernel
theorem dX1_ofShop_62 : decode cX1_ofShop 62 = .ok (.iaload, 1) := by decide +kernel
theorem dX1_ofShop_63 : decode cX1_ofShop 63 = .ok (.invokestatic 44, 3) := by decide +kernel
theorem dX1_ofShop_66 : decode cX1_ofShop 66 = .ok (.iadd, 1) := by decide +kernel
theorem dX1_ofShop_67 : decode cX1_ofShop 67 = .ok (.invokestatic 25, 3) := by decide +kernel
theorem dX1_ofShop_70 : decode cX1_ofShop 70 = .ok (.istore_n 2, 1) := by decide +kernel
theorem dX1_ofShop_71 : decode cX1_ofShop 71 = .ok (.iinc 3 1, 3) := by decide +kernel
theorem dX1_ofShop_74 : decode cX1_ofShop 74 = .ok (.goto (-46), 3) := by decide +kernel
theorem dX1_ofShop_77 : decode cX1_ofShop 77 = .ok (.iload_n 2, 1) := by decide +kernel
theorem dX1_ofShop_78 : decode cX1_ofShop 78 = .ok (.ireturn, 1) := by decide +kernel
theorem dX1_ofMachine_0 : decode cX1_ofMachine 0 = .ok (.aload_n 0, 1) := by decide +kernel
theorem dX1_ofMachine_1 : decode cX1_ofMachine 1 = .ok (.aload_n 1, 1) := by decide +kernel
theorem dX1_ofMachine_2 : decode cX1_ofMachine 2 = .ok (.iload_n 2, 1) := by decide +kernel
theorem dX1_ofMachine_3 : decode cX1_ofMachine 3 = .ok (.invokevirtual 48, 3) := by decide +kernel
theorem dX1_ofMachine_6 : decode cX1_ofMachine 6 = .ok (.aload_n 0, 1) := by decide +kernel
theorem dX1_ofMachine_7 : decode cX1_ofMachine 7 = .ok (.getfield 52, 3) := by decide +kernel
theorem dX1_ofMachine_10 : decode cX1_ofMachine 10 = .ok (.istore_n 3, 1) := by decide +kernel
theorem dX1_ofMachine_11 : decode cX1_ofMachine 11 = .ok (.iconst 0, 1) := by decide +kernel
theorem dX1_ofMachine_12 : decode cX1_ofMachine 12 = .ok (.istore 4, 2) := by decide +kernel
theorem dX1_ofMachine_14 : decode cX1_ofMachine 14 = .ok (.iconst 0, 1) := by decide +kernel
theorem dX1_ofMachine_15 : decode cX1_ofMachine 15 = .ok (.istore 5, 2) := by decide +kernel
theorem dX1_ofMachine_17 : decode cX1_ofMachine 17 = .ok (.iload 5, 2) := by decide +kernel
theorem dX1_ofMachine_19 : decode cX1_ofMachine 19 = .ok (.sipush 1000, 3) := by decide +kernel
theorem dX1_ofMachine_22 : decode cX1_ofMachine 22 = .ok (.if_icmp .ge 70, 3) := by decide +kernel
theorem dX1_ofMachine_25 : decode cX1_ofMachine 25 = .ok (.iload_n 3, 1) := by decide +kernel
theorem dX1_ofMachine_26 : decode cX1_ofMachine 26 = .ok (.ifCond .le 66, 3) := by decide +kernel
theorem dX1_ofMachine_29 : decode cX1_ofMachine 29 = .ok (.aload_n 0, 1) := by decide +kernel
theorem dX1_ofMachine_30 : decode cX1_ofMachine 30 = .ok (.iload 5, 2) := by decide +kernel
theorem dX1_ofMachine_32 : decode cX1_ofMachine 32 = .ok (.invokevirtual 55, 3) := by decide +kernel
theorem dX1_ofMachine_35 : decode cX1_ofMachine 35 = .ok (.istore 6, 2) := by decide +kernel
theorem dX1_ofMachine_37 : decode cX1_ofMachine 37 = .ok (.iload 6, 2) := by decide +kernel
theorem dX1_ofMachine_39 : decode cX1_ofMachine 39 = .ok (.iconst (-1), 1) := by decide +kernel
theorem dX1_ofMachine_40 : decode cX1_ofMachine 40 = .ok (.if_icmp .eq 46, 3) := by decide +kernel
theorem dX1_ofMachine_43 : decode cX1_ofMachine 43 = .ok (.aload_n 0, 1) := by decide +kernel
theorem dX1_ofMachine_44 : decode cX1_ofMachine 44 = .ok (.getfield 18, 3) := by decide +kernel
theorem dX1_ofMachine_47 : decode cX1_ofMachine 47 = .ok (.iload 6, 2) := by decide +kernel
theorem dX1_ofMachine_49 : decode cX1_ofMachine 49 = .ok (.dup2, 1) := by decide +kernel
theorem dX1_ofMachine_50 : decode cX1_ofMachine 50 = .ok (.iaload, 1) := by decide +kernel
theorem dX1_ofMachine_51 : decode cX1_ofMachine 51 = .ok (.iconst 1, 1) := by decide +kernel
theorem dX1_ofMachine_52 : decode cX1_ofMachine 52 = .ok (.isub, 1) := by decide +kernel
theorem dX1_ofMachine_53 : decode cX1_ofMachine 53 = .ok (.iastore, 1) := by decide +kernel
theorem dX1_ofMachine_54 : decode cX1_ofMachine 54 = .ok (.aload_n 0, 1) := by decide +kernel
theorem dX1_ofMachine_55 : decode cX1_ofMachine 55 = .ok (.getfield 18, 3) := by decide +kernel
theorem dX1_ofMachine_58 : decode cX1_ofMachine 58 = .ok (.iload 6, 2) := by decide +kernel
theorem dX1_ofMachine_60 : decode cX1_ofMachine 60 = .ok (.iaload, 1) := by decide +kernel
theorem dX1_ofMachine_61 : decode cX1_ofMachine 61 = .ok (.ifCond .ne 25, 3) := by decide +kernel
theorem dX1_ofMachine_64 : decode cX1_ofMachine 64 = .ok (.iinc 3 (-1), 3) := by decide +kernel
theorem dX1_ofMachine_67 : decode cX1_ofMachine 67 = .ok (.iload 4, 2) := by decide +kernel
theorem dX1_ofMachine_69 : decode cX1_ofMachine 69 = .ok (.iload 5, 2) := by decide +kernel
theorem dX1_ofMachine_71 : decode cX1_ofMachine 71 = .ok (.iconst 1, 1) := by decide +kernel
theorem dX1_ofMachine_72 : decode cX1_ofMachine 72 = .ok (.iadd, 1) := by decide +kernel
theorem dX1_ofMachine_73 : decode cX1_ofMachine 73 = .ok (.aload_n 0, 1) := by decide +kernel
theorem dX1_ofMachine_74 : decode cX1_ofMachine 74 = .ok (.getfield 15, 3) := by decide +kernel
theorem dX1_ofMachine_77 : decode cX1_ofMachine 77 = .ok (.iload 6, 2) := by decide +kernel
theorem dX1_ofMachine_79 : decode cX1_ofMachine 79 = .ok (.iaload, 1) := by decide +kernel
theorem dX1_ofMachine_80 : decode cX1_ofMachine 80 = .ok (.iadd, 1) := by decide +kernel
theorem dX1_ofMachine_81 : decode cX1_ofMachine 81 = .ok (.invokestatic 25, 3) := by decide +kernel
theorem dX1_ofMachine_84 : decode cX1_ofMachine 84 = .ok (.istore 4, 2) := by decide +kernel
theorem dX1_ofMachine_86 : decode cX1_ofMachine 86 = .ok (.iinc 5 1, 3) := by decide +kernel
theorem dX1_ofMachine_89 : decode cX1_ofMachine 89 = .ok (.goto (-72), 3) := by decide +kernel
theorem dX1_ofMachine_92 : decode cX1_ofMachine 92 = .ok (.iload 4, 2) := by decide +kernel
theorem dX1_ofMachine_94 : decode cX1_ofMachine 94 = .ok (.ireturn, 1) := by decide +kernel
theorem dX1_collect_0 : decode cX1_collect 0 = .ok (.aload_n 0, 1) := by decide +kernel
theorem dX1_collect_1 : decode cX1_collect 1 = .ok (.iconst 0, 1) := by decide +kernel
theorem dX1_collect_2 : decode cX1_collect 2 = .ok (.putfield 52, 3) := by decide +kernel
theorem dX1_collect_5 : decode cX1_collect 5 = .ok (.iconst 0, 1) := by decide +kernel
theorem dX1_collect_6 : decode cX1_collect 6 = .ok (.istore_n 3, 1) := by decide +kernel
theorem dX1_collect_7 : decode cX1_collect 7 = .ok (.iload_n 3, 1) := by decide +kernel
theorem dX1_collect_8 : decode cX1_collect 8 = .ok (.aload_n 1, 1) := by decide +kernel
theorem dX1_collect_9 : decode cX1_collect 9 = .ok (.getfield 59, 3) := by decide +kernel
theorem dX1_collect_12 : decode cX1_collect 12 = .ok (.if_icmp .ge 122, 3) := by decide +kernel
theorem dX1_collect_15 : decode cX1_collect 15 = .ok (.aload_n 1, 1) := by decide +kernel
theorem dX1_collect_16 : decode cX1_collect 16 = .ok (.getfield 62, 3) := by decide +kernel
theorem dX1_collect_19 : decode cX1_collect 19 = .ok (.iload_n 3, 1) := by decide +kernel
theorem dX1_collect_20 : decode cX1_collect 20 = .ok (.iaload, 1) := by decide +kernel
theorem dX1_collect_21 : decode cX1_collect 21 = .ok (.iload_n 2, 1) := by decide +kernel
theorem dX1_collect_22 : decode cX1_collect 22 = .ok (.if_icmp .ne 106, 3) := by decide +kernel
theorem dX1_collect_25 : decode cX1_collect 25 = .ok (.aload_n 0, 1) := by decide +kernel
theorem dX1_collect_26 : decode cX1_collect 26 = .ok (.getfield 52, 3) := by decide +kernel
theorem dX1_collect_29 : decode cX1_collect 29 = .ok (.iconst 5, 1) := by decide +kernel
theorem dX1_collect_30 : decode cX1_collect 30 = .ok (.if_icmp .ge 98, 3) := by decide +kernel
theorem dX1_collect_33 : decode cX1_collect 33 = .ok (.aload_n 1, 1) := by decide +kernel
theorem dX1_collect_34 : decode cX1_collect 34 = .ok (.getfield 65, 3) := by decide +kernel
theorem dX1_collect_37 : decode cX1_collect 37 = .ok (.iload_n 3, 1) := by decide +kernel
theorem dX1_collect_38 : decode cX1_collect 38 = .ok (.iaload, 1) := by decide +kernel
theorem dX1_collect_39 : decode cX1_collect 39 = .ok (.istore 4, 2) := by decide +kernel
theorem dX1_collect_41 : decode cX1_collect 41 = .ok (.aload_n 1, 1) := by decide +kernel
theorem dX1_collect_42 : decode cX1_collect 42 = .ok (.getfield 68, 3) := by decide +kernel
theorem dX1_collect_45 : decode cX1_collect 45 = .ok (.iload_n 3, 1) := by decide +kernel
theorem dX1_collect_46 : decode cX1_collect 46 = .ok (.iaload, 1) := by decide +kernel
theorem dX1_collect_47 : decode cX1_collect 47 = .ok (.istore 5, 2) := by decide +kernel
theorem dX1_collect_49 : decode cX1_collect 49 = .ok (.aload_n 0, 1) := by decide +kernel
theorem dX1_collect_50 : decode cX1_collect 50 = .ok (.getfield 9, 3) := by decide +kernel
theorem dX1_collect_53 : decode cX1_collect 53 = .ok (.aload_n 0, 1) := by decide +kernel
theorem dX1_collect_54 : decode cX1_collect 54 = .ok (.getfield 52, 3) := by decide +kernel
theorem dX1_collect_57 : decode cX1_collect 57 = .ok (.aload_n 1, 1) := by decide +kernel
theorem dX1_collect_58 : decode cX1_collect 58 = .ok (.getfield 40, 3) := by decide +kernel
theorem dX1_collect_61 : decode cX1_collect 61 = .ok (.iload 4, 2) := by decide +kernel
theorem dX1_collect_63 : decode cX1_collect 63 = .ok (.aaload, 1) := by decide +kernel
theorem dX1_collect_64 : decode cX1_collect 64 = .ok (.iconst 0, 1) := by decide +kernel
theorem dX1_collect_65 : decode cX1_collect 65 = .ok (.iaload, 1) := by decide +kernel
theorem dX1_collect_66 : decode cX1_collect 66 = .ok (.aload_n 1, 1) := by decide +kernel
theorem dX1_collect_67 : decode cX1_collect 67 = .ok (.iload 4, 2) := by decide +kernel
theorem dX1_collect_69 : decode cX1_collect 69 = .ok (.iconst 0, 1) := by decide +kernel
theorem dX1_collect_70 : decode cX1_collect 70 = .ok (.iload 5, 2) := by decide +kernel
theorem dX1_collect_72 : decode cX1_collect 72 = .ok (.invokestatic 44, 3) := by decide +kernel
theorem dX1_collect_75 : decode cX1_collect 75 = .ok (.iadd, 1) := by decide +kernel
theorem dX1_collect_76 : decode cX1_collect 76 = .ok (.iastore, 1) := by decide +kernel
theorem dX1_collect_77 : decode cX1_collect 77 = .ok (.aload_n 0, 1) := by decide +kernel
theorem dX1_collect_78 : decode cX1_collect 78 = .ok (.getfield 15, 3) := by decide +kernel
theorem dX1_collect_81 : decode cX1_collect 81 = .ok (.aload_n 0, 1) := by decide +kernel
theorem dX1_collect_82 : decode cX1_collect 82 = .ok (.getfield 52, 3) := by decide +kernel
theorem dX1_collect_85 : decode cX1_collect 85 = .ok (.aload_n 1, 1) := by decide +kernel
theorem dX1_collect_86 : decode cX1_collect 86 = .ok (.iload 4, 2) := by decide +kernel
theorem dX1_collect_88 : decode cX1_collect 88 = .ok (.iload 5, 2) := by decide +kernel
theorem dX1_collect_90 : decode cX1_collect 90 = .ok (.iconst 1, 1) := by decide +kernel
theorem dX1_collect_91 : decode cX1_collect 91 = .ok (.iadd, 1) := by decide +kernel
theorem dX1_collect_92 : decode cX1_collect 92 = .ok (.aload_n 1, 1) := by decide +kernel
theorem dX1_collect_93 : decode cX1_collect 93 = .ok (.getfield 37, 3) := by decide +kernel
theorem dX1_collect_96 : decode cX1_collect 96 = .ok (.iload 4, 2) := by decide +kernel
theorem dX1_collect_98 : decode cX1_collect 98 = .ok (.iaload, 1) := by decide +kernel
theorem dX1_collect_99 : decode cX1_collect 99 = .ok (.invokestatic 44, 3) := by decide +kernel
theorem dX1_collect_102 : decode cX1_collect 102 = .ok (.iastore, 1) := by decide +kernel
theorem dX1_collect_103 : decode cX1_collect 103 = .ok (.aload_n 0, 1) := by decide +kernel
theorem dX1_collect_104 : decode cX1_collect 104 = .ok (.getfield 18, 3) := by decide +kernel
theorem dX1_collect_107 : decode cX1_collect 107 = .ok (.aload_n 0, 1) := by decide +kernel
theorem dX1_collect_108 : decode cX1_collect 108 = .ok (.getfield 52, 3) := by decide +kernel
theorem dX1_collect_111 : decode cX1_collect 111 = .ok (.aload_n 1, 1) := by decide +kernel
theorem dX1_collect_112 : decode cX1_collect 112 = .ok (.getfield 71, 3) := by decide +kernel
theorem dX1_collect_115 : decode cX1_collect 115 = .ok (.iload_n 3, 1) := by decide +kernel
theorem dX1_collect_116 : decode cX1_collect 116 = .ok (.iaload, 1) := by decide +kernel
theorem dX1_collect_117 : decode cX1_collect 117 = .ok (.iastore, 1) := by decide +kernel
theorem dX1_collect_118 : decode cX1_collect 118 = .ok (.aload_n 0, 1) := by decide +kernel
theorem dX1_collect_119 : decode cX1_collect 119 = .ok (.dup, 1) := by decide +kernel
theorem dX1_collect_120 : decode cX1_collect 120 = .ok (.getfield 52, 3) := by decide +kernel
theorem dX1_collect_123 : decode cX1_collect 123 = .ok (.iconst 1, 1) := by decide +kernel
theorem dX1_collect_124 : decode cX1_collect 124 = .ok (.iadd, 1) := by decide +kernel
theorem dX1_collect_125 : decode cX1_collect 125 = .ok (.putfield 52, 3) := by decide +kernel
theorem dX1_collect_128 : decode cX1_collect 128 = .ok (.iinc 3 1, 3) := by decide +kernel
theorem dX1_collect_131 : decode cX1_collect 131 = .ok (.goto (-124), 3) := by decide +kernel
theorem dX1_collect_134 : decode cX1_collect 134 = .ok (.return_, 1) := by decide +kernel
theorem dX1_choose_0 : decode cX1_choose 0 = .ok (.iconst (-1), 1) := by decide +kernel
theorem dX1_choose_1 : decode cX1_choose 1 = .ok (.istore_n 2, 1) := by decide +kernel
theorem dX1_choose_2 : decode cX1_choose 2 = .ok (.iconst 0, 1) := by decide +kernel
theorem dX1_choose_3 : decode cX1_choose 3 = .ok (.istore_n 3, 1) := by decide +kernel
theorem dX1_choose_4 : decode cX1_choose 4 = .ok (.iload_n 3, 1) := by decide +kernel
theorem dX1_choose_5 : decode cX1_choose 5 = .ok (.aload_n 0, 1) := by decide +kernel
theorem dX1_choose_6 : decode cX1_choose 6 = .ok (.getfield 52, 3) := by decide +kernel
theorem dX1_choose_9 : decode cX1_choose 9 = .ok (.if_icmp .ge 62, 3) := by decide +kernel
theorem dX1_choose_12 : decode cX1_choose 12 = .ok (.aload_n 0, 1) := by decide +kernel
theorem dX1_choose_13 : decode cX1_choose 13 = .ok (.getfield 9, 3) := by decide +kernel
theorem dX1_choose_16 : decode cX1_choose 16 = .ok (.iload_n 3, 1) := by decide +kernel
theorem dX1_choose_17 : decode cX1_choose 17 = .ok (.iaload, 1) := by decide +kernel
theorem dX1_choose_18 : decode cX1_choose 18 = .ok (.iload_n 1, 1) := by decide +kernel
theorem dX1_choose_19 : decode cX1_choose 19 = .ok (.if_icmp .gt 16, 3) := by decide +kernel
theorem dX1_choose_22 : decode cX1_choose 22 = .ok (.aload_n 0, 1) := by decide +kernel
theorem dX1_choose_23 : decode cX1_choose 23 = .ok (.getfield 18, 3) := by decide +kernel
theorem dX1_choose_26 : decode cX1_choose 26 = .ok (.iload_n 3, 1) := by decide +kernel
theorem dX1_choose_27 : decode cX1_choose 27 = .ok (.iaload, 1) := by decide +kernel
theorem dX1_choose_28 : decode cX1_choose 28 = .ok (.ifCond .le 7, 3) := by decide +kernel
theorem dX1_choose_31 : decode cX1_choose 31 = .ok (.iconst 1, 1) := by decide +kernel
theorem dX1_choose_32 : decode cX1_choose 32 = .ok (.goto 4, 3) := by decide +kernel
theorem dX1_choose_35 : decode cX1_choose 35 = .ok (.iconst 0, 1) := by decide +kernel
theorem dX1_choose_36 : decode cX1_choose 36 = .ok (.istore 4, 2) := by decide +kernel
theorem dX1_choose_38 : decode cX1_choose 38 = .ok (.iload 4, 2) := by decide +kernel
theorem dX1_choose_40 : decode cX1_choose 40 = .ok (.ifCond .eq 25, 3) := by decide +kernel
theorem dX1_choose_43 : decode cX1_choose 43 = .ok (.iload_n 2, 1) := by decide +kernel
theorem dX1_choose_44 : decode cX1_choose 44 = .ok (.iconst (-1), 1) := by decide +kernel
theorem dX1_choose_45 : decode cX1_choose 45 = .ok (.if_icmp .eq 18, 3) := by decide +kernel
theorem dX1_choose_48 : decode cX1_choose 48 = .ok (.aload_n 0, 1) := by decide +kernel
theorem dX1_choose_49 : decode cX1_choose 49 = .ok (.getfield 15, 3) := by decide +kernel
theorem dX1_choose_52 : decode cX1_choose 52 = .ok (.iload_n 3, 1) := by decide +kernel
theorem dX1_choose_53 : decode cX1_choose 53 = .ok (.iaload, 1) := by decide +kernel
theorem dX1_choose_54 : decode cX1_choose 54 = .ok (.aload_n 0, 1) := by decide +kernel
theorem dX1_choose_55 : decode cX1_choose 55 = .ok (.getfield 15, 3) := by decide +kernel
theorem dX1_choose_58 : decode cX1_choose 58 = .ok (.iload_n 2, 1) := by decide +kernel
theorem dX1_choose_59 : decode cX1_choose 59 = .ok (.iaload, 1) := by decide +kernel
theorem dX1_choose_60 : decode cX1_choose 60 = .ok (.if_icmp .le 5, 3) := by decide +kernel
theorem dX1_choose_63 : decode cX1_choose 63 = .ok (.iload_n 3, 1) := by decide +kernel
theorem dX1_choose_64 : decode cX1_choose 64 = .ok (.istore_n 2, 1) := by decide +kernel
theorem dX1_choose_65 : decode cX1_choose 65 = .ok (.iinc 3 1, 3) := by decide +kernel
theorem dX1_choose_68 : decode cX1_choose 68 = .ok (.goto (-64), 3) := by decide +kernel
theorem dX1_choose_71 : decode cX1_choose 71 = .ok (.iload_n 2, 1) := by decide +kernel
theorem dX1_choose_72 : decode cX1_choose 72 = .ok (.ireturn, 1) := by decide +kernel
theorem dX1_work_0 : decode cX1_work 0 = .ok (.iconst 0, 1) := by decide +kernel
theorem dX1_work_1 : decode cX1_work 1 = .ok (.istore 4, 2) := by decide +kernel
theorem dX1_work_3 : decode cX1_work 3 = .ok (.iload_n 2, 1) := by decide +kernel
theorem dX1_work_4 : decode cX1_work 4 = .ok (.istore 5, 2) := by decide +kernel
theorem dX1_work_6 : decode cX1_work 6 = .ok (.iload 5, 2) := by decide +kernel
theorem dX1_work_8 : decode cX1_work 8 = .ok (.iload_n 3, 1) := by decide +kernel
theorem dX1_work_9 : decode cX1_work 9 = .ok (.if_icmp .ge 28, 3) := by decide +kernel
theorem dX1_work_12 : decode cX1_work 12 = .ok (.iload 4, 2) := by decide +kernel
theorem dX1_work_14 : decode cX1_work 14 = .ok (.aload_n 0, 1) := by decide +kernel
theorem dX1_work_15 : decode cX1_work 15 = .ok (.getfield 71, 3) := by decide +kernel
theorem dX1_work_18 : decode cX1_work 18 = .ok (.aload_n 0, 1) := by decide +kernel
theorem dX1_work_19 : decode cX1_work 19 = .ok (.getfield 74, 3) := by decide +kernel
theorem dX1_work_22 : decode cX1_work 22 = .ok (.iload_n 1, 1) := by decide +kernel
theorem dX1_work_23 : decode cX1_work 23 = .ok (.aaload, 1) := by decide +kernel
theorem dX1_work_24 : decode cX1_work 24 = .ok (.iload 5, 2) := by decide +kernel
theorem dX1_work_26 : decode cX1_work 26 = .ok (.iaload, 1) := by decide +kernel
theorem dX1_work_27 : decode cX1_work 27 = .ok (.iaload, 1) := by decide +kernel
theorem dX1_work_28 : decode cX1_work 28 = .ok (.iadd, 1) := by decide +kernel
theorem dX1_work_29 : decode cX1_work 29 = .ok (.istore 4, 2) := by decide +kernel
theorem dX1_work_31 : decode cX1_work 31 = .ok (.iinc 5 1, 3) := by decide +kernel
theorem dX1_work_34 : decode cX1_work 34 = .ok (.goto (-28), 3) := by decide +kernel
theorem dX1_work_37 : decode cX1_work 37 = .ok (.iload 4, 2) := by decide +kernel
theorem dX1_work_39 : decode cX1_work 39 = .ok (.ireturn, 1) := by decide +kernel
theorem dX2_init_0 : decode cX2_init 0 = .ok (.aload_n 0, 1) := by decide +kernel
theorem dX2_init_1 : decode cX2_init 1 = .ok (.invokespecial 3, 3) := by decide +kernel
theorem dX2_init_4 : decode cX2_init 4 = .ok (.aload_n 0, 1) := by decide +kernel
theorem dX2_init_5 : decode cX2_init 5 = .ok (.bipush 20, 2) := by decide +kernel
theorem dX2_init_7 : decode cX2_init 7 = .ok (.newarray .int, 2) := by decide +kernel
theorem dX2_init_9 : decode cX2_init 9 = .ok (.putfield 9, 3) := by decide +kernel
theorem dX2_init_12 : decode cX2_init 12 = .ok (.aload_n 0, 1) := by decide +kernel
theorem dX2_init_13 : decode cX2_init 13 = .ok (.bipush 20, 2) := by decide +kernel
theorem dX2_init_15 : decode cX2_init 15 = .ok (.newarray .int, 2) := by decide +kernel
theorem dX2_init_17 : decode cX2_init 17 = .ok (.putfield 15, 3) := by decide +kernel
theorem dX2_init_20 : decode cX2_init 20 = .ok (.aload_n 0, 1) := by decide +kernel
theorem dX2_init_21 : decode cX2_init 21 = .ok (.bipush 20, 2) := by decide +kernel
theorem dX2_init_23 : decode cX2_init 23 = .ok (.newarray .int, 2) := by decide +kernel
theorem dX2_init_25 : decode cX2_init 25 = .ok (.putfield 18, 3) := by decide +kernel
theorem dX2_init_28 : decode cX2_init 28 = .ok (.return_, 1) := by decide +kernel
theorem dX2_trace_0 : decode cX2_trace 0 = .ok (.aload_n 0, 1) := by decide +kernel
theorem dX2_trace_1 : decode cX2_trace 1 = .ok (.aload_n 1, 1) := by decide +kernel
theorem dX2_trace_2 : decode cX2_trace 2 = .ok (.aload_n 2, 1) := by decide +kernel
theorem dX2_trace_3 : decode cX2_trace 3 = .ok (.invokevirtual 21, 3) := by decide +kernel
theorem dX2_trace_6 : decode cX2_trace 6 = .ok (.aload_n 0, 1) := by decide +kernel
theorem dX2_trace_7 : decode cX2_trace 7 = .ok (.invokevirtual 25, 3) := by decide +kernel
theorem dX2_trace_10 : decode cX2_trace 10 = .ok (.aload_n 0, 1) := by decide +kernel
theorem dX2_trace_11 : decode cX2_trace 11 = .ok (.aload_n 1, 1) := by decide +kernel
theorem dX2_trace_12 : decode cX2_trace 12 = .ok (.invokevirtual 28, 3) := by decide +kernel
theorem dX2_trace_15 : decode cX2_trace 15 = .ok (.return_, 1) := by decide +kernel
theorem dX2_follows_0 : decode cX2_follows 0 = .ok (.aload_n 0, 1) := by decide +kernel
theorem dX2_follows_1 : decode cX2_follows 1 = .ok (.getfield 18, 3) := by decide +kernel
theorem dX2_follows_4 : decode cX2_follows 4 = .ok (.iload_n 2, 1) := by decide +kernel
theorem dX2_follows_5 : decode cX2_follows 5 = .ok (.iaload, 1) := by decide +kernel
theorem dX2_follows_6 : decode cX2_follows 6 = .ok (.iconst (-1), 1) := by decide +kernel
theorem dX2_follows_7 : decode cX2_follows 7 = .ok (.if_icmp .eq 24, 3) := by decide +kernel
theorem dX2_follows_10 : decode cX2_follows 10 = .ok (.aload_n 0, 1) := by decide +kernel
theorem dX2_follows_11 : decode cX2_follows 11 = .ok (.getfield 18, 3) := by decide +kernel
theorem dX2_follows_14 : decode cX2_follows 14 = .ok (.iload_n 1, 1) := by decide +kernel
theorem dX2_follows_15 : decode cX2_follows 15 = .ok (.iaload, 1) := by decide +kernel
theorem dX2_follows_16 : decode cX2_follows 16 = .ok (.aload_n 0, 1) := by decide +kernel
theorem dX2_follows_17 : decode cX2_follows 17 = .ok (.getfield 18, 3) := by decide +kernel
theorem dX2_follows_20 : decode cX2_follows 20 = .ok (.iload_n 2, 1) := by decide +kernel
theorem dX2_follows_21 : decode cX2_follows 21 = .ok (.iaload, 1) := by decide +kernel
theorem dX2_follows_22 : decode cX2_follows 22 = .ok (.iconst 1, 1) := by decide +kernel
theorem dX2_follows_23 : decode cX2_follows 23 = .ok (.iadd, 1) := by decide +kernel
theorem dX2_follows_24 : decode cX2_follows 24 = .ok (.if_icmp .ne 7, 3) := by decide +kernel
theorem dX2_follows_27 : decode cX2_follows 27 = .ok (.iconst 1, 1) := by decide +kernel
theorem dX2_follows_28 : decode cX2_follows 28 = .ok (.goto 4, 3) := by decide +kernel
theorem dX2_follows_31 : decode cX2_follows 31 = .ok (.iconst 0, 1) := by decide +kernel
theorem dX2_follows_32 : decode cX2_follows 32 = .ok (.ireturn, 1) := by decide +kernel
theorem dX2_collectBackwards_0 : decode cX2_collectBackwards 0 = .ok (.aload_n 0, 1) := by decide +kernel
theorem dX2_collectBackwards_1 : decode cX2_collectBackwards 1 = .ok (.iconst 0, 1) := by decide +kernel
theorem dX2_collectBackwards_2 : decode cX2_collectBackwards 2 = .ok (.putfield 32, 3) := by decide +kernel
theorem dX2_collectBackwards_5 : decode cX2_collectBackwards 5 = .ok (.aload_n 1, 1) := by decide +kernel
theorem dX2_collectBackwards_6 : decode cX2_collectBackwards 6 = .ok (.aload_n 2, 1) := by decide +kernel
theorem dX2_collectBackwards_7 : decode cX2_collectBackwards 7 = .ok (.invokestatic 36, 3) := by decide +kernel
theorem dX2_collectBackwards_10 : decode cX2_collectBackwards 10 = .ok (.istore_n 3, 1) := by decide +kernel
theorem dX2_collectBackwards_11 : decode cX2_collectBackwards 11 = .ok (.iconst 0, 1) := by decide +kernel
theorem dX2_collectBackwards_12 : decode cX2_collectBackwards 12 = .ok (.istore 4, 2) := by decide +kernel
theorem dX2_collectBackwards_14 : decode cX2_collectBackwards 14 = .ok (.iload 4, 2) := by decide +kernel
theorem dX2_collectBackwards_16 : decode cX2_collectBackwards 16 = .ok (.bipush 20, 2) := by decide +kernel
theorem dX2_collectBackwards_18 : decode cX2_collectBackwards 18 = .ok (.if_icmp .ge 41, 3) := by decide +kernel
theorem dX2_collectBackwards_21 : decode cX2_collectBackwards 21 = .ok (.iload_n 3, 1) := by decide +kernel
theorem dX2_collectBackwards_22 : decode cX2_collectBackwards 22 = .ok (.iconst (-1), 1) := by decide +kernel
theorem dX2_collectBackwards_23 : decode cX2_collectBackwards 23 = .ok (.if_icmp .eq 36, 3) := by decide +kernel
theorem dX2_collectBackwards_26 : decode cX2_collectBackwards 26 = .ok (.aload_n 0, 1) := by decide +kernel
theorem dX2_collectBackwards_27 : decode cX2_collectBackwards 27 = .ok (.getfield 9, 3) := by decide +kernel
theorem dX2_collectBackwards_30 : decode cX2_collectBackwards 30 = .ok (.aload_n 0, 1) := by decide +kernel
theorem dX2_collectBackwards_31 : decode cX2_collectBackwards 31 = .ok (.getfield 32, 3) := by decide +kernel
theorem dX2_collectBackwards_34 : decode cX2_collectBackwards 34 = .ok (.iload_n 3, 1) := by decide +kernel
theorem dX2_collectBackwards_35 : decode cX2_collectBackwards 35 = .ok (.iastore, 1) := by decide +kernel
theorem dX2_collectBackwards_36 : decode cX2_collectBackwards 36 = .ok (.aload_n 0, 1) := by decide +kernel
theorem dX2_collectBackwards_37 : decode cX2_collectBackwards 37 = .ok (.dup, 1) := by decide +kernel
theorem dX2_collectBackwards_38 : decode cX2_collectBackwards 38 = .ok (.getfield 32, 3) := by decide +kernel
theorem dX2_collectBackwards_41 : decode cX2_collectBackwards 41 = .ok (.iconst 1, 1) := by decide +kernel
theorem dX2_collectBackwards_42 : decode cX2_collectBackwards 42 = .ok (.iadd, 1) := by decide +kernel
theorem dX2_collectBackwards_43 : decode cX2_collectBackwards 43 = .ok (.putfield 32, 3) := by decide +kernel
theorem dX2_collectBackwards_46 : decode cX2_collectBackwards 46 = .ok (.aload_n 1, 1) := by decide +kernel
theorem dX2_collectBackwards_47 : decode cX2_collectBackwards 47 = .ok (.aload_n 2, 1) := by decide +kernel
theorem dX2_collectBackwards_48 : decode cX2_collectBackwards 48 = .ok (.iload_n 3, 1) := by decide +kernel
theorem dX2_collectBackwards_49 : decode cX2_collectBackwards 49 = .ok (.invokestatic 40, 3) := by decide +kernel
theorem dX2_collectBackwards_52 : decode cX2_collectBackwards 52 = .ok (.istore_n 3, 1) := by decide +kernel
theorem dX2_collectBackwards_53 : decode cX2_collectBackwards 53 = .ok (.iinc 4 1, 3) := by decide +kernel
theorem dX2_collectBackwards_56 : decode cX2_collectBackwards 56 = .ok (.goto (-42), 3) := by decide +kernel
theorem dX2_collectBackwards_59 : decode cX2_collectBackwards 59 = .ok (.return_, 1) := by decide +kernel
theorem dX2_lastOf_0 : decode cX2_lastOf 0 = .ok (.iconst (-1), 1) := by decide +kernel
theorem dX2_lastOf_1 : decode cX2_lastOf 1 = .ok (.istore_n 2, 1) := by decide +kernel
theorem dX2_lastOf_2 : decode cX2_lastOf 2 = .ok (.iconst 0, 1) := by decide +kernel
theorem dX2_lastOf_3 : decode cX2_lastOf 3 = .ok (.istore_n 3, 1) := by decide +kernel
theorem dX2_lastOf_4 : decode cX2_lastOf 4 = .ok (.iload_n 3, 1) := by decide +kernel
theorem dX2_lastOf_5 : decode cX2_lastOf 5 = .ok (.aload_n 0, 1) := by decide +kernel
theorem dX2_lastOf_6 : decode cX2_lastOf 6 = .ok (.getfield 44, 3) := by decide +kernel
theorem dX2_lastOf_9 : decode cX2_lastOf 9 = .ok (.if_icmp .ge 31, 3) := by decide +kernel
theorem dX2_lastOf_12 : decode cX2_lastOf 12 = .ok (.iload_n 2, 1) := by decide +kernel
theorem dX2_lastOf_13 : decode cX2_lastOf 13 = .ok (.iconst (-1), 1) := by decide +kernel
theorem dX2_lastOf_14 : decode cX2_lastOf 14 = .ok (.if_icmp .eq 18, 3) := by decide +kernel
theorem dX2_lastOf_17 : decode cX2_lastOf 17 = .ok (.aload_n 1, 1) := by decide +kernel
theorem dX2_lastOf_18 : decode cX2_lastOf 18 = .ok (.getfield 48, 3) := by decide +kernel
theorem dX2_lastOf_21 : decode cX2_lastOf 21 = .ok (.iload_n 3, 1) := by decide +kernel
theorem dX2_lastOf_22 : decode cX2_lastOf 22 = .ok (.iaload, 1) := by decide +kernel
theorem dX2_lastOf_23 : decode cX2_lastOf 23 = .ok (.aload_n 1, 1) := by decide +kernel
theorem dX2_lastOf_24 : decode cX2_lastOf 24 = .ok (.getfield 48, 3) := by decide +kernel
theorem dX2_lastOf_27 : decode cX2_lastOf 27 = .ok (.iload_n 2, 1) := by decide +kernel
theorem dX2_lastOf_28 : decode cX2_lastOf 28 = .ok (.iaload, 1) := by decide +kernel
theorem dX2_lastOf_29 : decode cX2_lastOf 29 = .ok (.if_icmp .le 5, 3) := by decide +kernel
theorem dX2_lastOf_32 : decode cX2_lastOf 32 = .ok (.iload_n 3, 1) := by decide +kernel
theorem dX2_lastOf_33 : decode cX2_lastOf 33 = .ok (.istore_n 2, 1) := by decide +kernel
theorem dX2_lastOf_34 : decode cX2_lastOf 34 = .ok (.iinc 3 1, 3) := by decide +kernel
theorem dX2_lastOf_37 : decode cX2_lastOf 37 = .ok (.goto (-33), 3) := by decide +kernel
theorem dX2_lastOf_40 : decode cX2_lastOf 40 = .ok (.iload_n 2, 1) := by decide +kernel
theorem dX2_lastOf_41 : decode cX2_lastOf 41 = .ok (.ireturn, 1) := by decide +kernel
theorem dX2_before_0 : decode cX2_before 0 = .ok (.aload_n 1, 1) := by decide +kernel
theorem dX2_before_1 : decode cX2_before 1 = .ok (.getfield 53, 3) := by decide +kernel
theorem dX2_before_4 : decode cX2_before 4 = .ok (.iload_n 2, 1) := by decide +kernel
theorem dX2_before_5 : decode cX2_before 5 = .ok (.iaload, 1) := by decide +kernel
theorem dX2_before_6 : decode cX2_before 6 = .ok (.istore_n 3, 1) := by decide +kernel
theorem dX2_before_7 : decode cX2_before 7 = .ok (.aload_n 0, 1) := by decide +kernel
theorem dX2_before_8 : decode cX2_before 8 = .ok (.iload_n 2, 1) := by decide +kernel
theorem dX2_before_9 : decode cX2_before 9 = .ok (.invokevirtual 56, 3) := by decide +kernel
theorem dX2_before_12 : decode cX2_before 12 = .ok (.istore 4, 2) := by decide +kernel
theorem dX2_before_14 : decode cX2_before 14 = .ok (.iload 4, 2) := by decide +kernel
theorem dX2_before_16 : decode cX2_before 16 = .ok (.iconst (-1), 1) := by decide +kernel
theorem dX2_before_17 : decode cX2_before 17 = .ok (.if_icmp .eq 17, 3) := by decide +kernel
theorem dX2_before_20 : decode cX2_before 20 = .ok (.aload_n 1, 1) := by decide +kernel
theorem dX2_before_21 : decode cX2_before 21 = .ok (.getfield 48, 3) := by decide +kernel
theorem dX2_before_24 : decode cX2_before 24 = .ok (.iload 4, 2) := by decide +kernel
theorem dX2_before_26 : decode cX2_before 26 = .ok (.iaload, 1) := by decide +kernel
theorem dX2_before_27 : decode cX2_before 27 = .ok (.iload_n 3, 1) := by decide +kernel
theorem dX2_before_28 : decode cX2_before 28 = .ok (.if_icmp .ne 6, 3) := by decide +kernel
theorem dX2_before_31 : decode cX2_before 31 = .ok (.iload 4, 2) := by decide +kernel
theorem dX2_before_33 : decode cX2_before 33 = .ok (.ireturn, 1) := by decide +kernel
theorem dX2_before_34 : decode cX2_before 34 = .ok (.aload_n 1, 1) := by decide +kernel
theorem dX2_before_35 : decode cX2_before 35 = .ok (.getfield 60, 3) := by decide +kernel
theorem dX2_before_38 : decode cX2_before 38 = .ok (.iload_n 2, 1) := by decide +kernel
theorem dX2_before_39 : decode cX2_before 39 = .ok (.iaload, 1) := by decide +kernel
theorem dX2_before_40 : decode cX2_before 40 = .ok (.istore 5, 2) := by decide +kernel
theorem dX2_before_42 : decode cX2_before 42 = .ok (.iload 5, 2) := by decide +kernel
theorem dX2_before_44 : decode cX2_before 44 = .ok (.iconst (-1), 1) := by decide +kernel
theorem dX2_before_45 : decode cX2_before 45 = .ok (.if_icmp .eq 25, 3) := by decide +kernel
theorem dX2_before_48 : decode cX2_before 48 = .ok (.aload_n 1, 1) := by decide +kernel
theorem dX2_before_49 : decode cX2_before 49 = .ok (.getfield 48, 3) := by decide +kernel
theorem dX2_before_52 : decode cX2_before 52 = .ok (.iload 5, 2) := by decide +kernel
theorem dX2_before_54 : decode cX2_before 54 = .ok (.iaload, 1) := by decide +kernel
theorem dX2_before_55 : decode cX2_before 55 = .ok (.aload_n 0, 1) := by decide +kernel
theorem dX2_before_56 : decode cX2_before 56 = .ok (.iload 5, 2) := by decide +kernel
theorem dX2_before_58 : decode cX2_before 58 = .ok (.iload_n 2, 1) := by decide +kernel
theorem dX2_before_59 : decode cX2_before 59 = .ok (.invokevirtual 63, 3) := by decide +kernel
theorem dX2_before_62 : decode cX2_before 62 = .ok (.iadd, 1) := by decide +kernel
theorem dX2_before_63 : decode cX2_before 63 = .ok (.iload_n 3, 1) := by decide +kernel
theorem dX2_before_64 : decode cX2_before 64 = .ok (.if_icmp .ne 6, 3) := by decide +kernel
theorem dX2_before_67 : decode cX2_before 67 = .ok (.iload 5, 2) := by decide +kernel
theorem dX2_before_69 : decode cX2_before 69 = .ok (.ireturn, 1) := by decide +kernel
theorem dX2_before_70 : decode cX2_before 70 = .ok (.iconst (-1), 1) := by decide +kernel
theorem dX2_before_71 : decode cX2_before 71 = .ok (.ireturn, 1) := by decide +kernel
theorem dX2_turnRound_0 : decode cX2_turnRound 0 = .ok (.iconst 0, 1) := by decide +kernel
theorem dX2_turnRound_1 : decode cX2_turnRound 1 = .ok (.istore_n 1, 1) := by decide +kernel
theorem dX2_turnRound_2 : decode cX2_turnRound 2 = .ok (.iload_n 1, 1) := by decide +kernel
theorem dX2_turnRound_3 : decode cX2_turnRound 3 = .ok (.aload_n 0, 1) := by decide +kernel
theorem dX2_turnRound_4 : decode cX2_turnRound 4 = .ok (.getfield 32, 3) := by decide +kernel
theorem dX2_turnRound_7 : decode cX2_turnRound 7 = .ok (.iconst 2, 1) := by decide +kernel
theorem dX2_turnRound_8 : decode cX2_turnRound 8 = .ok (.idiv, 1) := by decide +kernel
theorem dX2_turnRound_9 : decode cX2_turnRound 9 = .ok (.if_icmp .ge 44, 3) := by decide +kernel
theorem dX2_turnRound_12 : decode cX2_turnRound 12 = .ok (.aload_n 0, 1) := by decide +kernel
theorem dX2_turnRound_13 : decode cX2_turnRound 13 = .ok (.getfield 32, 3) := by decide +kernel
theorem dX2_turnRound_16 : decode cX2_turnRound 16 = .ok (.iconst 1, 1) := by decide +kernel
theorem dX2_turnRound_17 : decode cX2_turnRound 17 = .ok (.isub, 1) := by decide +kernel
theorem dX2_turnRound_18 : decode cX2_turnRound 18 = .ok (.iload_n 1, 1) := by decide +kernel
theorem dX2_turnRound_19 : decode cX2_turnRound 19 = .ok (.isub, 1) := by decide +kernel
theorem dX2_turnRound_20 : decode cX2_turnRound 20 = .ok (.istore_n 2, 1) := by decide +kernel
theorem dX2_turnRound_21 : decode cX2_turnRound 21 = .ok (.aload_n 0, 1) := by decide +kernel
theorem dX2_turnRound_22 : decode cX2_turnRound 22 = .ok (.getfield 9, 3) := by decide +kernel
theorem dX2_turnRound_25 : decode cX2_turnRound 25 = .ok (.iload_n 1, 1) := by decide +kernel
theorem dX2_turnRound_26 : decode cX2_turnRound 26 = .ok (.iaload, 1) := by decide +kernel
theorem dX2_turnRound_27 : decode cX2_turnRound 27 = .ok (.istore_n 3, 1) := by decide +kernel
theorem dX2_turnRound_28 : decode cX2_turnRound 28 = .ok (.aload_n 0, 1) := by decide +kernel
theorem dX2_turnRound_29 : decode cX2_turnRound 29 = .ok (.getfield 9, 3) := by decide +kernel
theorem dX2_turnRound_32 : decode cX2_turnRound 32 = .ok (.iload_n 1, 1) := by decide +kernel
theorem dX2_turnRound_33 : decode cX2_turnRound 33 = .ok (.aload_n 0, 1) := by decide +kernel
theorem dX2_turnRound_34 : decode cX2_turnRound 34 = .ok (.getfield 9, 3) := by decide +kernel
theorem dX2_turnRound_37 : decode cX2_turnRound 37 = .ok (.iload_n 2, 1) := by decide +kernel
theorem dX2_turnRound_38 : decode cX2_turnRound 38 = .ok (.iaload, 1) := by decide +kernel
theorem dX2_turnRound_39 : decode cX2_turnRound 39 = .ok (.iastore, 1) := by decide +kernel
theorem dX2_turnRound_40 : decode cX2_turnRound 40 = .ok (.aload_n 0, 1) := by decide +kernel
theorem dX2_turnRound_41 : decode cX2_turnRound 41 = .ok (.getfield 9, 3) := by decide +kernel
theorem dX2_turnRound_44 : decode cX2_turnRound 44 = .ok (.iload_n 2, 1) := by decide +kernel
theorem dX2_turnRound_45 : decode cX2_turnRound 45 = .ok (.iload_n 3, 1) := by decide +kernel
theorem dX2_turnRound_46 : decode cX2_turnRound 46 = .ok (.iastore, 1) := by decide +kernel
theorem dX2_turnRound_47 : decode cX2_turnRound 47 = .ok (.iinc 1 1, 3) := by decide +kernel
theorem dX2_turnRound_50 : decode cX2_turnRound 50 = .ok (.goto (-48), 3) := by decide +kernel
theorem dX2_turnRound_53 : decode cX2_turnRound 53 = .ok (.iconst 0, 1) := by decide +kernel
theorem dX2_turnRound_54 : decode cX2_turnRound 54 = .ok (.istore_n 1, 1) := by decide +kernel
theorem dX2_turnRound_55 : decode cX2_turnRound 55 = .ok (.iload_n 1, 1) := by decide +kernel
theorem dX2_turnRound_56 : decode cX2_turnRound 56 = .ok (.bipush 20, 2) := by decide +kernel
theorem dX2_turnRound_58 : decode cX2_turnRound 58 = .ok (.if_icmp .ge 16, 3) := by decide +kernel
theorem dX2_turnRound_61 : decode cX2_turnRound 61 = .ok (.aload_n 0, 1) := by decide +kernel
theorem dX2_turnRound_62 : decode cX2_turnRound 62 = .ok (.getfield 18, 3) := by decide +kernel
theorem dX2_turnRound_65 : decode cX2_turnRound 65 = .ok (.iload_n 1, 1) := by decide +kernel
theorem dX2_turnRound_66 : decode cX2_turnRound 66 = .ok (.iconst (-1), 1) := by decide +kernel
theorem dX2_turnRound_67 : decode cX2_turnRound 67 = .ok (.iastore, 1) := by decide +kernel
theorem dX2_turnRound_68 : decode cX2_turnRound 68 = .ok (.iinc 1 1, 3) := by decide +kernel
theorem dX2_turnRound_71 : decode cX2_turnRound 71 = .ok (.goto (-16), 3) := by decide +kernel
theorem dX2_turnRound_74 : decode cX2_turnRound 74 = .ok (.iconst 0, 1) := by decide +kernel
theorem dX2_turnRound_75 : decode cX2_turnRound 75 = .ok (.istore_n 1, 1) := by decide +kernel
theorem dX2_turnRound_76 : decode cX2_turnRound 76 = .ok (.iload_n 1, 1) := by decide +kernel
theorem dX2_turnRound_77 : decode cX2_turnRound 77 = .ok (.aload_n 0, 1) := by decide +kernel
theorem dX2_turnRound_78 : decode cX2_turnRound 78 = .ok (.getfield 32, 3) := by decide +kernel
theorem dX2_turnRound_81 : decode cX2_turnRound 81 = .ok (.if_icmp .ge 21, 3) := by decide +kernel
theorem dX2_turnRound_84 : decode cX2_turnRound 84 = .ok (.aload_n 0, 1) := by decide +kernel
theorem dX2_turnRound_85 : decode cX2_turnRound 85 = .ok (.getfield 18, 3) := by decide +kernel
theorem dX2_turnRound_88 : decode cX2_turnRound 88 = .ok (.aload_n 0, 1) := by decide +kernel
theorem dX2_turnRound_89 : decode cX2_turnRound 89 = .ok (.getfield 9, 3) := by decide +kernel
theorem dX2_turnRound_92 : decode cX2_turnRound 92 = .ok (.iload_n 1, 1) := by decide +kernel
theorem dX2_turnRound_93 : decode cX2_turnRound 93 = .ok (.iaload, 1) := by decide +kernel
theorem dX2_turnRound_94 : decode cX2_turnRound 94 = .ok (.iload_n 1, 1) := by decide +kernel
theorem dX2_turnRound_95 : decode cX2_turnRound 95 = .ok (.iastore, 1) := by decide +kernel
theorem dX2_turnRound_96 : decode cX2_turnRound 96 = .ok (.iinc 1 1, 3) := by decide +kernel
theorem dX2_turnRound_99 : decode cX2_turnRound 99 = .ok (.goto (-23), 3) := by decide +kernel
theorem dX2_turnRound_102 : decode cX2_turnRound 102 = .ok (.return_, 1) := by decide +kernel
theorem dX2_countBlocks_0 : decode cX2_countBlocks 0 = .ok (.aload_n 0, 1) := by decide +kernel
theorem dX2_countBlocks_1 : decode cX2_countBlocks 1 = .ok (.iconst 0, 1) := by decide +kernel
theorem dX2_countBlocks_2 : decode cX2_countBlocks 2 = .ok (.putfield 67, 3) := by decide +kernel
theorem dX2_countBlocks_5 : decode cX2_countBlocks 5 = .ok (.iconst (-1), 1) := by decide +kernel
theorem dX2_countBlocks_6 : decode cX2_countBlocks 6 = .ok (.istore_n 2, 1) := by decide +kernel
theorem dX2_countBlocks_7 : decode cX2_countBlocks 7 = .ok (.iconst 0, 1) := by decide +kernel
theorem dX2_countBlocks_8 : decode cX2_countBlocks 8 = .ok (.istore_n 3, 1) := by decide +kernel
theorem dX2_countBlocks_9 : decode cX2_countBlocks 9 = .ok (.iload_n 3, 1) := by decide +kernel
theorem dX2_countBlocks_10 : decode cX2_countBlocks 10 = .ok (.aload_n 0, 1) := by decide +kernel
theorem dX2_countBlocks_11 : decode cX2_countBlocks 11 = .ok (.getfield 32, 3) := by decide +kernel
theorem dX2_countBlocks_14 : decode cX2_countBlocks 14 = .ok (.if_icmp .ge 66, 3) := by decide +kernel
theorem dX2_countBlocks_17 : decode cX2_countBlocks 17 = .ok (.aload_n 1, 1) := by decide +kernel
theorem dX2_countBlocks_18 : decode cX2_countBlocks 18 = .ok (.getfield 70, 3) := by decide +kernel
theorem dX2_countBlocks_21 : decode cX2_countBlocks 21 = .ok (.aload_n 0, 1) := by decide +kernel
theorem dX2_countBlocks_22 : decode cX2_countBlocks 22 = .ok (.getfield 9, 3) := by decide +kernel
theorem dX2_countBlocks_25 : decode cX2_countBlocks 25 = .ok (.iload_n 3, 1) := by decide +kernel
theorem dX2_countBlocks_26 : decode cX2_countBlocks 26 = .ok (.iaload, 1) := by decide +kernel
theorem dX2_countBlocks_27 : decode cX2_countBlocks 27 = .ok (.iaload, 1) := by decide +kernel
theorem dX2_countBlocks_28 : decode cX2_countBlocks 28 = .ok (.istore 4, 2) := by decide +kernel
theorem dX2_countBlocks_30 : decode cX2_countBlocks 30 = .ok (.iload 4, 2) := by decide +kernel
theorem dX2_countBlocks_32 : decode cX2_countBlocks 32 = .ok (.iload_n 2, 1) := by decide +kernel
theorem dX2_countBlocks_33 : decode cX2_countBlocks 33 = .ok (.if_icmp .eq 26, 3) := by decide +kernel
theorem dX2_countBlocks_36 : decode cX2_countBlocks 36 = .ok (.iload 4, 2) := by decide +kernel
theorem dX2_countBlocks_38 : decode cX2_countBlocks 38 = .ok (.istore_n 2, 1) := by decide +kernel
theorem dX2_countBlocks_39 : decode cX2_countBlocks 39 = .ok (.aload_n 0, 1) := by decide +kernel
theorem dX2_countBlocks_40 : decode cX2_countBlocks 40 = .ok (.getfield 15, 3) := by decide +kernel
theorem dX2_countBlocks_43 : decode cX2_countBlocks 43 = .ok (.aload_n 0, 1) := by decide +kernel
theorem dX2_countBlocks_44 : decode cX2_countBlocks 44 = .ok (.getfield 67, 3) := by decide +kernel
theorem dX2_countBlocks_47 : decode cX2_countBlocks 47 = .ok (.iconst 0, 1) := by decide +kernel
theorem dX2_countBlocks_48 : decode cX2_countBlocks 48 = .ok (.iastore, 1) := by decide +kernel
theorem dX2_countBlocks_49 : decode cX2_countBlocks 49 = .ok (.aload_n 0, 1) := by decide +kernel
theorem dX2_countBlocks_50 : decode cX2_countBlocks 50 = .ok (.dup, 1) := by decide +kernel
theorem dX2_countBlocks_51 : decode cX2_countBlocks 51 = .ok (.getfield 67, 3) := by decide +kernel
theorem dX2_countBlocks_54 : decode cX2_countBlocks 54 = .ok (.iconst 1, 1) := by decide +kernel
theorem dX2_countBlocks_55 : decode cX2_countBlocks 55 = .ok (.iadd, 1) := by decide +kernel
theorem dX2_countBlocks_56 : decode cX2_countBlocks 56 = .ok (.putfield 67, 3) := by decide +kernel
theorem dX2_countBlocks_59 : decode cX2_countBlocks 59 = .ok (.aload_n 0, 1) := by decide +kernel
theorem dX2_countBlocks_60 : decode cX2_countBlocks 60 = .ok (.getfield 15, 3) := by decide +kernel
theorem dX2_countBlocks_63 : decode cX2_countBlocks 63 = .ok (.aload_n 0, 1) := by decide +kernel
theorem dX2_countBlocks_64 : decode cX2_countBlocks 64 = .ok (.getfield 67, 3) := by decide +kernel
theorem dX2_countBlocks_67 : decode cX2_countBlocks 67 = .ok (.iconst 1, 1) := by decide +kernel
theorem dX2_countBlocks_68 : decode cX2_countBlocks 68 = .ok (.isub, 1) := by decide +kernel
theorem dX2_countBlocks_69 : decode cX2_countBlocks 69 = .ok (.dup2, 1) := by decide +kernel
theorem dX2_countBlocks_70 : decode cX2_countBlocks 70 = .ok (.iaload, 1) := by decide +kernel
theorem dX2_countBlocks_71 : decode cX2_countBlocks 71 = .ok (.iconst 1, 1) := by decide +kernel
theorem dX2_countBlocks_72 : decode cX2_countBlocks 72 = .ok (.iadd, 1) := by decide +kernel
theorem dX2_countBlocks_73 : decode cX2_countBlocks 73 = .ok (.iastore, 1) := by decide +kernel
theorem dX2_countBlocks_74 : decode cX2_countBlocks 74 = .ok (.iinc 3 1, 3) := by decide +kernel
theorem dX2_countBlocks_77 : decode cX2_countBlocks 77 = .ok (.goto (-68), 3) := by decide +kernel
theorem dX2_countBlocks_80 : decode cX2_countBlocks 80 = .ok (.return_, 1) := by decide +kernel
theorem dX3_init_0 : decode cX3_init 0 = .ok (.aload_n 0, 1) := by decide +kernel
theorem dX3_init_1 : decode cX3_init 1 = .ok (.invokespecial 3, 3) := by decide +kernel
theorem dX3_init_4 : decode cX3_init 4 = .ok (.aload_n 0, 1) := by decide +kernel
theorem dX3_init_5 : decode cX3_init 5 = .ok (.bipush 20, 2) := by decide +kernel
theorem dX3_init_7 : decode cX3_init 7 = .ok (.newarray .int, 2) := by decide +kernel
theorem dX3_init_9 : decode cX3_init 9 = .ok (.putfield 9, 3) := by decide +kernel
theorem dX3_init_12 : decode cX3_init 12 = .ok (.aload_n 0, 1) := by decide +kernel
theorem dX3_init_13 : decode cX3_init 13 = .ok (.iconst 5, 1) := by decide +kernel
theorem dX3_init_14 : decode cX3_init 14 = .ok (.newarray .int, 2) := by decide +kernel
theorem dX3_init_16 : decode cX3_init 16 = .ok (.putfield 15, 3) := by decide +kernel
theorem dX3_init_19 : decode cX3_init 19 = .ok (.return_, 1) := by decide +kernel
theorem dX3_build_0 : decode cX3_build 0 = .ok (.aload_n 0, 1) := by decide +kernel
theorem dX3_build_1 : decode cX3_build 1 = .ok (.aload_n 1, 1) := by decide +kernel
theorem dX3_build_2 : decode cX3_build 2 = .ok (.aload_n 2, 1) := by decide +kernel
theorem dX3_build_3 : decode cX3_build 3 = .ok (.iload_n 3, 1) := by decide +kernel
theorem dX3_build_4 : decode cX3_build 4 = .ok (.invokevirtual 18, 3) := by decide +kernel
theorem dX3_build_7 : decode cX3_build 7 = .ok (.istore 5, 2) := by decide +kernel
theorem dX3_build_9 : decode cX3_build 9 = .ok (.iload 5, 2) := by decide +kernel
theorem dX3_build_11 : decode cX3_build 11 = .ok (.istore 6, 2) := by decide +kernel
theorem dX3_build_13 : decode cX3_build 13 = .ok (.iload 6, 2) := by decide +kernel
theorem dX3_build_15 : decode cX3_build 15 = .ok (.aload_n 1, 1) := by decide +kernel
theorem dX3_build_16 : decode cX3_build 16 = .ok (.getfield 22, 3) := by decide +kernel
theorem dX3_build_19 : decode cX3_build 19 = .ok (.if_icmp .ge 87, 3) := by decide +kernel
theorem dX3_build_22 : decode cX3_build 22 = .ok (.aload_n 0, 1) := by decide +kernel
theorem dX3_build_23 : decode cX3_build 23 = .ok (.aload_n 1, 1) := by decide +kernel
theorem dX3_build_24 : decode cX3_build 24 = .ok (.iload_n 3, 1) := by decide +kernel
theorem dX3_build_25 : decode cX3_build 25 = .ok (.iload 4, 2) := by decide +kernel
theorem dX3_build_27 : decode cX3_build 27 = .ok (.invokevirtual 28, 3) := by decide +kernel
theorem dX3_build_30 : decode cX3_build 30 = .ok (.aload_n 0, 1) := by decide +kernel
theorem dX3_build_31 : decode cX3_build 31 = .ok (.getfield 32, 3) := by decide +kernel
theorem dX3_build_34 : decode cX3_build 34 = .ok (.iconst (-1), 1) := by decide +kernel
theorem dX3_build_35 : decode cX3_build 35 = .ok (.if_icmp .ne 4, 3) := by decide +kernel
theorem dX3_build_38 : decode cX3_build 38 = .ok (.return_, 1) := by decide +kernel
theorem dX3_build_39 : decode cX3_build 39 = .ok (.aload_n 1, 1) := by decide +kernel
theorem dX3_build_40 : decode cX3_build 40 = .ok (.getfield 35, 3) := by decide +kernel
theorem dX3_build_43 : decode cX3_build 43 = .ok (.aload_n 1, 1) := by decide +kernel
theorem dX3_build_44 : decode cX3_build 44 = .ok (.getfield 39, 3) := by decide +kernel
theorem dX3_build_47 : decode cX3_build 47 = .ok (.aload_n 0, 1) := by decide +kernel
theorem dX3_build_48 : decode cX3_build 48 = .ok (.getfield 32, 3) := by decide +kernel
theorem dX3_build_51 : decode cX3_build 51 = .ok (.iaload, 1) := by decide +kernel
theorem dX3_build_52 : decode cX3_build 52 = .ok (.aload_n 0, 1) := by decide +kernel
theorem dX3_build_53 : decode cX3_build 53 = .ok (.getfield 32, 3) := by decide +kernel
theorem dX3_build_56 : decode cX3_build 56 = .ok (.invokevirtual 42, 3) := by decide +kernel
theorem dX3_build_59 : decode cX3_build 59 = .ok (.aload_n 0, 1) := by decide +kernel
theorem dX3_build_60 : decode cX3_build 60 = .ok (.getfield 9, 3) := by decide +kernel
theorem dX3_build_63 : decode cX3_build 63 = .ok (.aload_n 0, 1) := by decide +kernel
theorem dX3_build_64 : decode cX3_build 64 = .ok (.getfield 32, 3) := by decide +kernel
theorem dX3_build_67 : decode cX3_build 67 = .ok (.aload_n 0, 1) := by decide +kernel
theorem dX3_build_68 : decode cX3_build 68 = .ok (.getfield 48, 3) := by decide +kernel
theorem dX3_build_71 : decode cX3_build 71 = .ok (.aload_n 1, 1) := by decide +kernel
theorem dX3_build_72 : decode cX3_build 72 = .ok (.getfield 51, 3) := by decide +kernel
theorem dX3_build_75 : decode cX3_build 75 = .ok (.aload_n 0, 1) := by decide +kernel
theorem dX3_build_76 : decode cX3_build 76 = .ok (.getfield 32, 3) := by decide +kernel
theorem dX3_build_79 : decode cX3_build 79 = .ok (.iaload, 1) := by decide +kernel
theorem dX3_build_80 : decode cX3_build 80 = .ok (.iadd, 1) := by decide +kernel
theorem dX3_build_81 : decode cX3_build 81 = .ok (.iastore, 1) := by decide +kernel
theorem dX3_build_82 : decode cX3_build 82 = .ok (.aload_n 0, 1) := by decide +kernel
theorem dX3_build_83 : decode cX3_build 83 = .ok (.getfield 15, 3) := by decide +kernel
theorem dX3_build_86 : decode cX3_build 86 = .ok (.aload_n 1, 1) := by decide +kernel
theorem dX3_build_87 : decode cX3_build 87 = .ok (.getfield 54, 3) := by decide +kernel
theorem dX3_build_90 : decode cX3_build 90 = .ok (.aload_n 0, 1) := by decide +kernel
theorem dX3_build_91 : decode cX3_build 91 = .ok (.getfield 32, 3) := by decide +kernel
theorem dX3_build_94 : decode cX3_build 94 = .ok (.iaload, 1) := by decide +kernel
theorem dX3_build_95 : decode cX3_build 95 = .ok (.dup2, 1) := by decide +kernel
theorem dX3_build_96 : decode cX3_build 96 = .ok (.iaload, 1) := by decide +kernel
theorem dX3_build_97 : decode cX3_build 97 = .ok (.iconst 1, 1) := by decide +kernel
theorem dX3_build_98 : decode cX3_build 98 = .ok (.iadd, 1) := by decide +kernel
theorem dX3_build_99 : decode cX3_build 99 = .ok (.iastore, 1) := by decide +kernel
theorem dX3_build_100 : decode cX3_build 100 = .ok (.iinc 6 1, 3) := by decide +kernel
theorem dX3_build_103 : decode cX3_build 103 = .ok (.goto (-90), 3) := by decide +kernel
theorem dX3_build_106 : decode cX3_build 106 = .ok (.return_, 1) := by decide +kernel
theorem dX3_keepBeginnings_0 : decode cX3_keepBeginnings 0 = .ok (.iconst 0, 1) := by decide +kernel
theorem dX3_keepBeginnings_1 : decode cX3_keepBeginnings 1 = .ok (.istore 4, 2) := by decide +kernel
theorem dX3_keepBeginnings_3 : decode cX3_keepBeginnings 3 = .ok (.iload 4, 2) := by decide +kernel
theorem dX3_keepBeginnings_5 : decode cX3_keepBeginnings 5 = .ok (.iconst 5, 1) := by decide +kernel
theorem dX3_keepBeginnings_6 : decode cX3_keepBeginnings 6 = .ok (.if_icmp .ge 17, 3) := by decide +kernel
theorem dX3_keepBeginnings_9 : decode cX3_keepBeginnings 9 = .ok (.aload_n 0, 1) := by decide +kernel
theorem dX3_keepBeginnings_10 : decode cX3_keepBeginnings 10 = .ok (.getfield 15, 3) := by decide +kernel
theorem dX3_keepBeginnings_13 : decode cX3_keepBeginnings 13 = .ok (.iload 4, 2) := by decide +kernel
theorem dX3_keepBeginnings_15 : decode cX3_keepBeginnings 15 = .ok (.iconst 0, 1) := by decide +kernel
theorem dX3_keepBeginnings_16 : decode cX3_keepBeginnings 16 = .ok (.iastore, 1) := by decide +kernel
theorem dX3_keepBeginnings_17 : decode cX3_keepBeginnings 17 = .ok (.iinc 4 1, 3) := by decide +kernel
theorem dX3_keepBeginnings_20 : decode cX3_keepBeginnings 20 = .ok (.goto (-17), 3) := by decide +kernel
theorem dX3_keepBeginnings_23 : decode cX3_keepBeginnings 23 = .ok (.iconst 0, 1) := by decide +kernel
theorem dX3_keepBeginnings_24 : decode cX3_keepBeginnings 24 = .ok (.istore 4, 2) := by decide +kernel
theorem dX3_keepBeginnings_26 : decode cX3_keepBeginnings 26 = .ok (.iload 4, 2) := by decide +kernel
theorem dX3_keepBeginnings_28 : decode cX3_keepBeginnings 28 = .ok (.iconst 4, 1) := by decide +kernel
theorem dX3_keepBeginnings_29 : decode cX3_keepBeginnings 29 = .ok (.if_icmp .ge 27, 3) := by decide +kernel
theorem dX3_keepBeginnings_32 : decode cX3_keepBeginnings 32 = .ok (.aload_n 1, 1) := by decide +kernel
theorem dX3_keepBeginnings_33 : decode cX3_keepBeginnings 33 = .ok (.getfield 35, 3) := by decide +kernel
theorem dX3_keepBeginnings_36 : decode cX3_keepBeginnings 36 = .ok (.getfield 57, 3) := by decide +kernel
theorem dX3_keepBeginnings_39 : decode cX3_keepBeginnings 39 = .ok (.iload 4, 2) := by decide +kernel
theorem dX3_keepBeginnings_41 : decode cX3_keepBeginnings 41 = .ok (.aload_n 1, 1) := by decide +kernel
theorem dX3_keepBeginnings_42 : decode cX3_keepBeginnings 42 = .ok (.aload_n 2, 1) := by decide +kernel
theorem dX3_keepBeginnings_43 : decode cX3_keepBeginnings 43 = .ok (.iload 4, 2) := by decide +kernel
theorem dX3_keepBeginnings_45 : decode cX3_keepBeginnings 45 = .ok (.iload_n 3, 1) := by decide +kernel
theorem dX3_keepBeginnings_46 : decode cX3_keepBeginnings 46 = .ok (.invokestatic 60, 3) := by decide +kernel
theorem dX3_keepBeginnings_49 : decode cX3_keepBeginnings 49 = .ok (.iastore, 1) := by decide +kernel
theorem dX3_keepBeginnings_50 : decode cX3_keepBeginnings 50 = .ok (.iinc 4 1, 3) := by decide +kernel
theorem dX3_keepBeginnings_53 : decode cX3_keepBeginnings 53 = .ok (.goto (-27), 3) := by decide +kernel
theorem dX3_keepBeginnings_56 : decode cX3_keepBeginnings 56 = .ok (.iconst 0, 1) := by decide +kernel
theorem dX3_keepBeginnings_57 : decode cX3_keepBeginnings 57 = .ok (.istore 4, 2) := by decide +kernel
theorem dX3_keepBeginnings_59 : decode cX3_keepBeginnings 59 = .ok (.iconst 0, 1) := by decide +kernel
theorem dX3_keepBeginnings_60 : decode cX3_keepBeginnings 60 = .ok (.istore 5, 2) := by decide +kernel
theorem dX3_keepBeginnings_62 : decode cX3_keepBeginnings 62 = .ok (.iload 5, 2) := by decide +kernel
theorem dX3_keepBeginnings_64 : decode cX3_keepBeginnings 64 = .ok (.aload_n 1, 1) := by decide +kernel
theorem dX3_keepBeginnings_65 : decode cX3_keepBeginnings 65 = .ok (.getfield 22, 3) := by decide +kernel
theorem dX3_keepBeginnings_68 : decode cX3_keepBeginnings 68 = .ok (.if_icmp .ge 53, 3) := by decide +kernel
theorem dX3_keepBeginnings_71 : decode cX3_keepBeginnings 71 = .ok (.aload_n 2, 1) := by decide +kernel
theorem dX3_keepBeginnings_72 : decode cX3_keepBeginnings 72 = .ok (.getfield 64, 3) := by decide +kernel
theorem dX3_keepBeginnings_75 : decode cX3_keepBeginnings 75 = .ok (.iload 5, 2) := by decide +kernel
theorem dX3_keepBeginnings_77 : decode cX3_keepBeginnings 77 = .ok (.iaload, 1) := by decide +kernel
theorem dX3_keepBeginnings_78 : decode cX3_keepBeginnings 78 = .ok (.iload_n 3, 1) := by decide +kernel
theorem dX3_keepBeginnings_79 : decode cX3_keepBeginnings 79 = .ok (.if_icmp .ge 36, 3) := by decide +kernel
theorem dX3_keepBeginnings_82 : decode cX3_keepBeginnings 82 = .ok (.aload_n 0, 1) := by decide +kernel
theorem dX3_keepBeginnings_83 : decode cX3_keepBeginnings 83 = .ok (.getfield 9, 3) := by decide +kernel
theorem dX3_keepBeginnings_86 : decode cX3_keepBeginnings 86 = .ok (.iload 5, 2) := by decide +kernel
theorem dX3_keepBeginnings_88 : decode cX3_keepBeginnings 88 = .ok (.aload_n 2, 1) := by decide +kernel
theorem dX3_keepBeginnings_89 : decode cX3_keepBeginnings 89 = .ok (.getfield 69, 3) := by decide +kernel
theorem dX3_keepBeginnings_92 : decode cX3_keepBeginnings 92 = .ok (.iload 5, 2) := by decide +kernel
theorem dX3_keepBeginnings_94 : decode cX3_keepBeginnings 94 = .ok (.iaload, 1) := by decide +kernel
theorem dX3_keepBeginnings_95 : decode cX3_keepBeginnings 95 = .ok (.iastore, 1) := by decide +kernel
theorem dX3_keepBeginnings_96 : decode cX3_keepBeginnings 96 = .ok (.aload_n 0, 1) := by decide +kernel
theorem dX3_keepBeginnings_97 : decode cX3_keepBeginnings 97 = .ok (.getfield 15, 3) := by decide +kernel
theorem dX3_keepBeginnings_100 : decode cX3_keepBeginnings 100 = .ok (.aload_n 1, 1) := by decide +kernel
theorem dX3_keepBeginnings_101 : decode cX3_keepBeginnings 101 = .ok (.getfield 54, 3) := by decide +kernel
theorem dX3_keepBeginnings_104 : decode cX3_keepBeginnings 104 = .ok (.iload 5, 2) := by decide +kernel
theorem dX3_keepBeginnings_106 : decode cX3_keepBeginnings 106 = .ok (.iaload, 1) := by decide +kernel
theorem dX3_keepBeginnings_107 : decode cX3_keepBeginnings 107 = .ok (.dup2, 1) := by decide +kernel
theorem dX3_keepBeginnings_108 : decode cX3_keepBeginnings 108 = .ok (.iaload, 1) := by decide +kernel
theorem dX3_keepBeginnings_109 : decode cX3_keepBeginnings 109 = .ok (.iconst 1, 1) := by decide +kernel
theorem dX3_keepBeginnings_110 : decode cX3_keepBeginnings 110 = .ok (.iadd, 1) := by decide +kernel
theorem dX3_keepBeginnings_111 : decode cX3_keepBeginnings 111 = .ok (.iastore, 1) := by decide +kernel
theorem dX3_keepBeginnings_112 : decode cX3_keepBeginnings 112 = .ok (.iinc 4 1, 3) := by decide +kernel
theorem dX3_keepBeginnings_115 : decode cX3_keepBeginnings 115 = .ok (.iinc 5 1, 3) := by decide +kernel
theorem dX3_keepBeginnings_118 : decode cX3_keepBeginnings 118 = .ok (.goto (-56), 3) := by decide +kernel
theorem dX3_keepBeginnings_121 : decode cX3_keepBeginnings 121 = .ok (.iload 4, 2) := by decide +kernel
theorem dX3_keepBeginnings_123 : decode cX3_keepBeginnings 123 = .ok (.ireturn, 1) := by decide +kernel
theorem dX3_startsBefore_0 : decode cX3_startsBefore 0 = .ok (.aload_n 0, 1) := by decide +kernel
theorem dX3_startsBefore_1 : decode cX3_startsBefore 1 = .ok (.getfield 35, 3) := by decide +kernel
theorem dX3_startsBefore_4 : decode cX3_startsBefore 4 = .ok (.getfield 57, 3) := by decide +kernel
theorem dX3_startsBefore_7 : decode cX3_startsBefore 7 = .ok (.iload_n 2, 1) := by decide +kernel
theorem dX3_startsBefore_8 : decode cX3_startsBefore 8 = .ok (.iaload, 1) := by decide +kernel
theorem dX3_startsBefore_9 : decode cX3_startsBefore 9 = .ok (.istore 4, 2) := by decide +kernel
theorem dX3_startsBefore_11 : decode cX3_startsBefore 11 = .ok (.iconst 0, 1) := by decide +kernel
theorem dX3_startsBefore_12 : decode cX3_startsBefore 12 = .ok (.istore 5, 2) := by decide +kernel
theorem dX3_startsBefore_14 : decode cX3_startsBefore 14 = .ok (.iload 5, 2) := by decide +kernel
theorem dX3_startsBefore_16 : decode cX3_startsBefore 16 = .ok (.iload 4, 2) := by decide +kernel
theorem dX3_startsBefore_18 : decode cX3_startsBefore 18 = .ok (.if_icmp .ge 33, 3) := by decide +kernel
theorem dX3_startsBefore_21 : decode cX3_startsBefore 21 = .ok (.aload_n 1, 1) := by decide +kernel
theorem dX3_startsBefore_22 : decode cX3_startsBefore 22 = .ok (.getfield 64, 3) := by decide +kernel
theorem dX3_startsBefore_25 : decode cX3_startsBefore 25 = .ok (.aload_n 0, 1) := by decide +kernel
theorem dX3_startsBefore_26 : decode cX3_startsBefore 26 = .ok (.getfield 35, 3) := by decide +kernel
theorem dX3_startsBefore_29 : decode cX3_startsBefore 29 = .ok (.getfield 70, 3) := by decide +kernel
theorem dX3_startsBefore_32 : decode cX3_startsBefore 32 = .ok (.iload_n 2, 1) := by decide +kernel
theorem dX3_startsBefore_33 : decode cX3_startsBefore 33 = .ok (.aaload, 1) := by decide +kernel
theorem dX3_startsBefore_34 : decode cX3_startsBefore 34 = .ok (.iload 5, 2) := by decide +kernel
theorem dX3_startsBefore_36 : decode cX3_startsBefore 36 = .ok (.iaload, 1) := by decide +kernel
theorem dX3_startsBefore_37 : decode cX3_startsBefore 37 = .ok (.iaload, 1) := by decide +kernel
theorem dX3_startsBefore_38 : decode cX3_startsBefore 38 = .ok (.iload_n 3, 1) := by decide +kernel
theorem dX3_startsBefore_39 : decode cX3_startsBefore 39 = .ok (.if_icmp .lt 6, 3) := by decide +kernel
theorem dX3_startsBefore_42 : decode cX3_startsBefore 42 = .ok (.iload 5, 2) := by decide +kernel
theorem dX3_startsBefore_44 : decode cX3_startsBefore 44 = .ok (.ireturn, 1) := by decide +kernel
theorem dX3_startsBefore_45 : decode cX3_startsBefore 45 = .ok (.iinc 5 1, 3) := by decide +kernel
theorem dX3_startsBefore_48 : decode cX3_startsBefore 48 = .ok (.goto (-34), 3) := by decide +kernel
theorem dX3_startsBefore_51 : decode cX3_startsBefore 51 = .ok (.iload 4, 2) := by decide +kernel
theorem dX3_startsBefore_53 : decode cX3_startsBefore 53 = .ok (.ireturn, 1) := by decide +kernel
theorem dX3_choose_0 : decode cX3_choose 0 = .ok (.aload_n 0, 1) := by decide +kernel
theorem dX3_choose_1 : decode cX3_choose 1 = .ok (.iconst (-1), 1) := by decide +kernel
theorem dX3_choose_2 : decode cX3_choose 2 = .ok (.putfield 32, 3) := by decide +kernel
theorem dX3_choose_5 : decode cX3_choose 5 = .ok (.iconst 0, 1) := by decide +kernel
theorem dX3_choose_6 : decode cX3_choose 6 = .ok (.istore 4, 2) := by decide +kernel
theorem dX3_choose_8 : decode cX3_choose 8 = .ok (.iload 4, 2) := by decide +kernel
theorem dX3_choose_10 : decode cX3_choose 10 = .ok (.aload_n 1, 1) := by decide +kernel
theorem dX3_choose_11 : decode cX3_choose 11 = .ok (.getfield 74, 3) := by decide +kernel
theorem dX3_choose_14 : decode cX3_choose 14 = .ok (.if_icmp .ge 130, 3) := by decide +kernel
theorem dX3_choose_17 : decode cX3_choose 17 = .ok (.aload_n 0, 1) := by decide +kernel
theorem dX3_choose_18 : decode cX3_choose 18 = .ok (.getfield 15, 3) := by decide +kernel
theorem dX3_choose_21 : decode cX3_choose 21 = .ok (.iload 4, 2) := by decide +kernel
theorem dX3_choose_23 : decode cX3_choose 23 = .ok (.iaload, 1) := by decide +kernel
theorem dX3_choose_24 : decode cX3_choose 24 = .ok (.aload_n 1, 1) := by decide +kernel
theorem dX3_choose_25 : decode cX3_choose 25 = .ok (.getfield 77, 3) := by decide +kernel
theorem dX3_choose_28 : decode cX3_choose 28 = .ok (.iload 4, 2) := by decide +kernel
theorem dX3_choose_30 : decode cX3_choose 30 = .ok (.iaload, 1) := by decide +kernel
theorem dX3_choose_31 : decode cX3_choose 31 = .ok (.if_icmp .ge 107, 3) := by decide +kernel
theorem dX3_choose_34 : decode cX3_choose 34 = .ok (.aload_n 1, 1) := by decide +kernel
theorem dX3_choose_35 : decode cX3_choose 35 = .ok (.getfield 80, 3) := by decide +kernel
theorem dX3_choose_38 : decode cX3_choose 38 = .ok (.iload 4, 2) := by decide +kernel
theorem dX3_choose_40 : decode cX3_choose 40 = .ok (.aaload, 1) := by decide +kernel
theorem dX3_choose_41 : decode cX3_choose 41 = .ok (.aload_n 0, 1) := by decide +kernel
theorem dX3_choose_42 : decode cX3_choose 42 = .ok (.getfield 15, 3) := by decide +kernel
theorem dX3_choose_45 : decode cX3_choose 45 = .ok (.iload 4, 2) := by decide +kernel
theorem dX3_choose_47 : decode cX3_choose 47 = .ok (.iaload, 1) := by decide +kernel
theorem dX3_choose_48 : decode cX3_choose 48 = .ok (.iaload, 1) := by decide +kernel
theorem dX3_choose_49 : decode cX3_choose 49 = .ok (.istore 5, 2) := by decide +kernel
theorem dX3_choose_51 : decode cX3_choose 51 = .ok (.aload_n 0, 1) := by decide +kernel
theorem dX3_choose_52 : decode cX3_choose 52 = .ok (.aload_n 1, 1) := by decide +kernel
theorem dX3_choose_53 : decode cX3_choose 53 = .ok (.iload 5, 2) := by decide +kernel
theorem dX3_choose_55 : decode cX3_choose 55 = .ok (.iload_n 2, 1) := by decide +kernel
theorem dX3_choose_56 : decode cX3_choose 56 = .ok (.invokevirtual 83, 3) := by decide +kernel
theorem dX3_choose_59 : decode cX3_choose 59 = .ok (.istore 6, 2) := by decide +kernel
theorem dX3_choose_61 : decode cX3_choose 61 = .ok (.aload_n 0, 1) := by decide +kernel
theorem dX3_choose_62 : decode cX3_choose 62 = .ok (.getfield 32, 3) := by decide +kernel
theorem dX3_choose_65 : decode cX3_choose 65 = .ok (.iconst (-1), 1) := by decide +kernel
theorem dX3_choose_66 : decode cX3_choose 66 = .ok (.if_icmp .eq 16, 3) := by decide +kernel
theorem dX3_choose_69 : decode cX3_choose 69 = .ok (.iload 6, 2) := by decide +kernel
theorem dX3_choose_71 : decode cX3_choose 71 = .ok (.aload_n 0, 1) := by decide +kernel
theorem dX3_choose_72 : decode cX3_choose 72 = .ok (.getfield 48, 3) := by decide +kernel
theorem dX3_choose_75 : decode cX3_choose 75 = .ok (.if_icmp .ne 7, 3) := by decide +kernel
theorem dX3_choose_78 : decode cX3_choose 78 = .ok (.iconst 1, 1) := by decide +kernel
theorem dX3_choose_79 : decode cX3_choose 79 = .ok (.goto 4, 3) := by decide +kernel
theorem dX3_choose_82 : decode cX3_choose 82 = .ok (.iconst 0, 1) := by decide +kernel
theorem dX3_choose_83 : decode cX3_choose 83 = .ok (.istore 7, 2) := by decide +kernel
theorem dX3_choose_85 : decode cX3_choose 85 = .ok (.aload_n 0, 1) := by decide +kernel
theorem dX3_choose_86 : decode cX3_choose 86 = .ok (.getfield 32, 3) := by decide +kernel
theorem dX3_choose_89 : decode cX3_choose 89 = .ok (.iconst (-1), 1) := by decide +kernel
theorem dX3_choose_90 : decode cX3_choose 90 = .ok (.if_icmp .eq 36, 3) := by decide +kernel
theorem dX3_choose_93 : decode cX3_choose 93 = .ok (.iload 6, 2) := by decide +kernel
theorem dX3_choose_95 : decode cX3_choose 95 = .ok (.aload_n 0, 1) := by decide +kernel
theorem dX3_choose_96 : decode cX3_choose 96 = .ok (.getfield 48, 3) := by decide +kernel
theorem dX3_choose_99 : decode cX3_choose 99 = .ok (.if_icmp .lt 27, 3) := by decide +kernel
theorem dX3_choose_102 : decode cX3_choose 102 = .ok (.iload 7, 2) := by decide +kernel
theorem dX3_choose_104 : decode cX3_choose 104 = .ok (.ifCond .eq 34, 3) := by decide +kernel
theorem dX3_choose_107 : decode cX3_choose 107 = .ok (.aload_n 1, 1) := by decide +kernel
theorem dX3_choose_108 : decode cX3_choose 108 = .ok (.iload 5, 2) := by decide +kernel
theorem dX3_choose_110 : decode cX3_choose 110 = .ok (.iload_n 3, 1) := by decide +kernel
theorem dX3_choose_111 : decode cX3_choose 111 = .ok (.invokestatic 87, 3) := by decide +kernel
theorem dX3_choose_114 : decode cX3_choose 114 = .ok (.aload_n 1, 1) := by decide +kernel
theorem dX3_choose_115 : decode cX3_choose 115 = .ok (.aload_n 0, 1) := by decide +kernel
theorem dX3_choose_116 : decode cX3_choose 116 = .ok (.getfield 32, 3) := by decide +kernel
theorem dX3_choose_119 : decode cX3_choose 119 = .ok (.iload_n 3, 1) := by decide +kernel
theorem dX3_choose_120 : decode cX3_choose 120 = .ok (.invokestatic 87, 3) := by decide +kernel
theorem dX3_choose_123 : decode cX3_choose 123 = .ok (.if_icmp .ge 15, 3) := by decide +kernel
theorem dX3_choose_126 : decode cX3_choose 126 = .ok (.aload_n 0, 1) := by decide +kernel
theorem dX3_choose_127 : decode cX3_choose 127 = .ok (.iload 5, 2) := by decide +kernel
theorem dX3_choose_129 : decode cX3_choose 129 = .ok (.putfield 32, 3) := by decide +kernel
theorem dX3_choose_132 : decode cX3_choose 132 = .ok (.aload_n 0, 1) := by decide +kernel
theorem dX3_choose_133 : decode cX3_choose 133 = .ok (.iload 6, 2) := by decide +kernel
theorem dX3_choose_135 : decode cX3_choose 135 = .ok (.putfield 48, 3) := by decide +kernel
theorem dX3_choose_138 : decode cX3_choose 138 = .ok (.iinc 4 1, 3) := by decide +kernel
theorem dX3_choose_141 : decode cX3_choose 141 = .ok (.goto (-133), 3) := by decide +kernel
theorem dX3_choose_144 : decode cX3_choose 144 = .ok (.return_, 1) := by decide +kernel
theorem dX3_startOf_0 : decode cX3_startOf 0 = .ok (.aload_n 1, 1) := by decide +kernel
theorem dX3_startOf_1 : decode cX3_startOf 1 = .ok (.getfield 39, 3) := by decide +kernel
theorem dX3_startOf_4 : decode cX3_startOf 4 = .ok (.iload_n 2, 1) := by decide +kernel
theorem dX3_startOf_5 : decode cX3_startOf 5 = .ok (.iaload, 1) := by decide +kernel
theorem dX3_startOf_6 : decode cX3_startOf 6 = .ok (.istore 4, 2) := by decide +kernel
theorem dX3_startOf_8 : decode cX3_startOf 8 = .ok (.aload_n 1, 1) := by decide +kernel
theorem dX3_startOf_9 : decode cX3_startOf 9 = .ok (.getfield 35, 3) := by decide +kernel
theorem dX3_startOf_12 : decode cX3_startOf 12 = .ok (.getfield 57, 3) := by decide +kernel
theorem dX3_startOf_15 : decode cX3_startOf 15 = .ok (.iload 4, 2) := by decide +kernel
theorem dX3_startOf_17 : decode cX3_startOf 17 = .ok (.iaload, 1) := by decide +kernel
theorem dX3_startOf_18 : decode cX3_startOf 18 = .ok (.istore 5, 2) := by decide +kernel
theorem dX3_startOf_20 : decode cX3_startOf 20 = .ok (.iload 5, 2) := by decide +kernel
theorem dX3_startOf_22 : decode cX3_startOf 22 = .ok (.ifCond .le 21, 3) := by decide +kernel
theorem dX3_startOf_25 : decode cX3_startOf 25 = .ok (.aload_n 1, 1) := by decide +kernel
theorem dX3_startOf_26 : decode cX3_startOf 26 = .ok (.getfield 35, 3) := by decide +kernel
theorem dX3_startOf_29 : decode cX3_startOf 29 = .ok (.getfield 70, 3) := by decide +kernel
theorem dX3_startOf_32 : decode cX3_startOf 32 = .ok (.iload 4, 2) := by decide +kernel
theorem dX3_startOf_34 : decode cX3_startOf 34 = .ok (.aaload, 1) := by decide +kernel
theorem dX3_startOf_35 : decode cX3_startOf 35 = .ok (.iload 5, 2) := by decide +kernel
theorem dX3_startOf_37 : decode cX3_startOf 37 = .ok (.iconst 1, 1) := by decide +kernel
theorem dX3_startOf_38 : decode cX3_startOf 38 = .ok (.isub, 1) := by decide +kernel
theorem dX3_startOf_39 : decode cX3_startOf 39 = .ok (.iaload, 1) := by decide +kernel
theorem dX3_startOf_40 : decode cX3_startOf 40 = .ok (.goto 4, 3) := by decide +kernel
theorem dX3_startOf_43 : decode cX3_startOf 43 = .ok (.iconst (-1), 1) := by decide +kernel
theorem dX3_startOf_44 : decode cX3_startOf 44 = .ok (.istore 6, 2) := by decide +kernel
theorem dX3_startOf_46 : decode cX3_startOf 46 = .ok (.aload_n 1, 1) := by decide +kernel
theorem dX3_startOf_47 : decode cX3_startOf 47 = .ok (.iload_n 2, 1) := by decide +kernel
theorem dX3_startOf_48 : decode cX3_startOf 48 = .ok (.iload 6, 2) := by decide +kernel
theorem dX3_startOf_50 : decode cX3_startOf 50 = .ok (.aload_n 0, 1) := by decide +kernel
theorem dX3_startOf_51 : decode cX3_startOf 51 = .ok (.getfield 9, 3) := by decide +kernel
theorem dX3_startOf_54 : decode cX3_startOf 54 = .ok (.invokevirtual 90, 3) := by decide +kernel
theorem dX3_startOf_57 : decode cX3_startOf 57 = .ok (.istore 7, 2) := by decide +kernel
theorem dX3_startOf_59 : decode cX3_startOf 59 = .ok (.aload_n 1, 1) := by decide +kernel
theorem dX3_startOf_60 : decode cX3_startOf 60 = .ok (.iload_n 2, 1) := by decide +kernel
theorem dX3_startOf_61 : decode cX3_startOf 61 = .ok (.iload 7, 2) := by decide +kernel
theorem dX3_startOf_63 : decode cX3_startOf 63 = .ok (.iload_n 3, 1) := by decide +kernel
theorem dX3_startOf_64 : decode cX3_startOf 64 = .ok (.invokestatic 94, 3) := by decide +kernel
theorem dX3_startOf_67 : decode cX3_startOf 67 = .ok (.invokevirtual 100, 3) := by decide +kernel
theorem dX3_startOf_70 : decode cX3_startOf 70 = .ok (.ireturn, 1) := by decide +kernel
theorem dX3_rank_0 : decode cX3_rank 0 = .ok (.iload_n 2, 1) := by decide +kernel
theorem dX3_rank_1 : decode cX3_rank 1 = .ok (.tableswitch 55 0 2 #[27, 34, 41], 27) := by decide +kernel
theorem dX3_rank_28 : decode cX3_rank 28 = .ok (.aload_n 0, 1) := by decide +kernel
theorem dX3_rank_29 : decode cX3_rank 29 = .ok (.getfield 51, 3) := by decide +kernel
theorem dX3_rank_32 : decode cX3_rank 32 = .ok (.iload_n 1, 1) := by decide +kernel
theorem dX3_rank_33 : decode cX3_rank 33 = .ok (.iaload, 1) := by decide +kernel
theorem dX3_rank_34 : decode cX3_rank 34 = .ok (.ireturn, 1) := by decide +kernel
theorem dX3_rank_35 : decode cX3_rank 35 = .ok (.aload_n 0, 1) := by decide +kernel
theorem dX3_rank_36 : decode cX3_rank 36 = .ok (.iload_n 1, 1) := by decide +kernel
theorem dX3_rank_37 : decode cX3_rank 37 = .ok (.invokestatic 103, 3) := by decide +kernel
theorem dX3_rank_40 : decode cX3_rank 40 = .ok (.ineg, 1) := by decide +kernel
theorem dX3_rank_41 : decode cX3_rank 41 = .ok (.ireturn, 1) := by decide +kernel
theorem dX3_rank_42 : decode cX3_rank 42 = .ok (.aload_n 0, 1) := by decide +kernel
theorem dX3_rank_43 : decode cX3_rank 43 = .ok (.getfield 107, 3) := by decide +kernel
theorem dX3_rank_46 : decode cX3_rank 46 = .ok (.aload_n 0, 1) := by decide +kernel
theorem dX3_rank_47 : decode cX3_rank 47 = .ok (.getfield 54, 3) := by decide +kernel
theorem dX3_rank_50 : decode cX3_rank 50 = .ok (.iload_n 1, 1) := by decide +kernel
theorem dX3_rank_51 : decode cX3_rank 51 = .ok (.iaload, 1) := by decide +kernel
theorem dX3_rank_52 : decode cX3_rank 52 = .ok (.aaload, 1) := by decide +kernel
theorem dX3_rank_53 : decode cX3_rank 53 = .ok (.iconst 1, 1) := by decide +kernel
theorem dX3_rank_54 : decode cX3_rank 54 = .ok (.iaload, 1) := by decide +kernel
theorem dX3_rank_55 : decode cX3_rank 55 = .ok (.ireturn, 1) := by decide +kernel
theorem dX3_rank_56 : decode cX3_rank 56 = .ok (.iconst 0, 1) := by decide +kernel
theorem dX3_rank_57 : decode cX3_rank 57 = .ok (.ireturn, 1) := by decide +kernel
theorem dX3_workFrom_0 : decode cX3_workFrom 0 = .ok (.aload_n 0, 1) := by decide +kernel
theorem dX3_workFrom_1 : decode cX3_workFrom 1 = .ok (.getfield 54, 3) := by decide +kernel
theorem dX3_workFrom_4 : decode cX3_workFrom 4 = .ok (.iload_n 1, 1) := by decide +kernel
theorem dX3_workFrom_5 : decode cX3_workFrom 5 = .ok (.iaload, 1) := by decide +kernel
theorem dX3_workFrom_6 : decode cX3_workFrom 6 = .ok (.istore_n 2, 1) := by decide +kernel
theorem dX3_workFrom_7 : decode cX3_workFrom 7 = .ok (.iconst 0, 1) := by decide +kernel
theorem dX3_workFrom_8 : decode cX3_workFrom 8 = .ok (.istore_n 3, 1) := by decide +kernel
theorem dX3_workFrom_9 : decode cX3_workFrom 9 = .ok (.aload_n 0, 1) := by decide +kernel
theorem dX3_workFrom_10 : decode cX3_workFrom 10 = .ok (.getfield 110, 3) := by decide +kernel
theorem dX3_workFrom_13 : decode cX3_workFrom 13 = .ok (.iload_n 1, 1) := by decide +kernel
theorem dX3_workFrom_14 : decode cX3_workFrom 14 = .ok (.iaload, 1) := by decide +kernel
theorem dX3_workFrom_15 : decode cX3_workFrom 15 = .ok (.istore 4, 2) := by decide +kernel
theorem dX3_workFrom_17 : decode cX3_workFrom 17 = .ok (.iload 4, 2) := by decide +kernel
theorem dX3_workFrom_19 : decode cX3_workFrom 19 = .ok (.aload_n 0, 1) := by decide +kernel
theorem dX3_workFrom_20 : decode cX3_workFrom 20 = .ok (.getfield 77, 3) := by decide +kernel
theorem dX3_workFrom_23 : decode cX3_workFrom 23 = .ok (.iload_n 2, 1) := by decide +kernel
theorem dX3_workFrom_24 : decode cX3_workFrom 24 = .ok (.iaload, 1) := by decide +kernel
theorem dX3_workFrom_25 : decode cX3_workFrom 25 = .ok (.if_icmp .ge 26, 3) := by decide +kernel
theorem dX3_workFrom_28 : decode cX3_workFrom 28 = .ok (.iload_n 3, 1) := by decide +kernel
theorem dX3_workFrom_29 : decode cX3_workFrom 29 = .ok (.aload_n 0, 1) := by decide +kernel
theorem dX3_workFrom_30 : decode cX3_workFrom 30 = .ok (.getfield 51, 3) := by decide +kernel
theorem dX3_workFrom_33 : decode cX3_workFrom 33 = .ok (.aload_n 0, 1) := by decide +kernel
theorem dX3_workFrom_34 : decode cX3_workFrom 34 = .ok (.getfield 80, 3) := by decide +kernel
theorem dX3_workFrom_37 : decode cX3_workFrom 37 = .ok (.iload_n 2, 1) := by decide +kernel
theorem dX3_workFrom_38 : decode cX3_workFrom 38 = .ok (.aaload, 1) := by decide +kernel
theorem dX3_workFrom_39 : decode cX3_workFrom 39 = .ok (.iload 4, 2) := by decide +kernel
theorem dX3_workFrom_41 : decode cX3_workFrom 41 = .ok (.iaload, 1) := by decide +kernel
theorem dX3_workFrom_42 : decode cX3_workFrom 42 = .ok (.iaload, 1) := by decide +kernel
theorem dX3_workFrom_43 : decode cX3_workFrom 43 = .ok (.iadd, 1) := by decide +kernel
theorem dX3_workFrom_44 : decode cX3_workFrom 44 = .ok (.istore_n 3, 1) := by decide +kernel
theorem dX3_workFrom_45 : decode cX3_workFrom 45 = .ok (.iinc 4 1, 3) := by decide +kernel
theorem dX3_workFrom_48 : decode cX3_workFrom 48 = .ok (.goto (-31), 3) := by decide +kernel
theorem dX3_workFrom_51 : decode cX3_workFrom 51 = .ok (.iload_n 3, 1) := by decide +kernel
theorem dX3_workFrom_52 : decode cX3_workFrom 52 = .ok (.ireturn, 1) := by decide +kernel
theorem dX4_init_0 : decode cX4_init 0 = .ok (.aload_n 0, 1) := by decide +kernel
theorem dX4_init_1 : decode cX4_init 1 = .ok (.invokespecial 3, 3) := by decide +kernel
theorem dX4_init_4 : decode cX4_init 4 = .ok (.aload_n 0, 1) := by decide +kernel
theorem dX4_init_5 : decode cX4_init 5 = .ok (.iconst 4, 1) := by decide +kernel
theorem dX4_init_6 : decode cX4_init 6 = .ok (.newarray .int, 2) := by decide +kernel
theorem dX4_init_8 : decode cX4_init 8 = .ok (.putfield 9, 3) := by decide +kernel
theorem dX4_init_11 : decode cX4_init 11 = .ok (.return_, 1) := by decide +kernel
theorem dX4_begin_0 : decode cX4_begin 0 = .ok (.aload_n 0, 1) := by decide +kernel
theorem dX4_begin_1 : decode cX4_begin 1 = .ok (.getfield 9, 3) := by decide +kernel
theorem dX4_begin_4 : decode cX4_begin 4 = .ok (.iconst 0, 1) := by decide +kernel
theorem dX4_begin_5 : decode cX4_begin 5 = .ok (.iload_n 1, 1) := by decide +kernel
theorem dX4_begin_6 : decode cX4_begin 6 = .ok (.iastore, 1) := by decide +kernel
theorem dX4_begin_7 : decode cX4_begin 7 = .ok (.aload_n 0, 1) := by decide +kernel
theorem dX4_begin_8 : decode cX4_begin 8 = .ok (.iconst 1, 1) := by decide +kernel
theorem dX4_begin_9 : decode cX4_begin 9 = .ok (.putfield 15, 3) := by decide +kernel
theorem dX4_begin_12 : decode cX4_begin 12 = .ok (.return_, 1) := by decide +kernel
theorem dX4_because_0 : decode cX4_because 0 = .ok (.aload_n 0, 1) := by decide +kernel
theorem dX4_because_1 : decode cX4_because 1 = .ok (.getfield 15, 3) := by decide +kernel
theorem dX4_because_4 : decode cX4_because 4 = .ok (.aload_n 0, 1) := by decide +kernel
theorem dX4_because_5 : decode cX4_because 5 = .ok (.getfield 9, 3) := by decide +kernel
theorem dX4_because_8 : decode cX4_because 8 = .ok (.arraylength, 1) := by decide +kernel
theorem dX4_because_9 : decode cX4_because 9 = .ok (.if_icmp .ge 23, 3) := by decide +kernel
theorem dX4_because_12 : decode cX4_because 12 = .ok (.aload_n 0, 1) := by decide +kernel
theorem dX4_because_13 : decode cX4_because 13 = .ok (.getfield 9, 3) := by decide +kernel
theorem dX4_because_16 : decode cX4_because 16 = .ok (.aload_n 0, 1) := by decide +kernel
theorem dX4_because_17 : decode cX4_because 17 = .ok (.getfield 15, 3) := by decide +kernel
theorem dX4_because_20 : decode cX4_because 20 = .ok (.iload_n 1, 1) := by decide +kernel
theorem dX4_because_21 : decode cX4_because 21 = .ok (.iastore, 1) := by decide +kernel
theorem dX4_because_22 : decode cX4_because 22 = .ok (.aload_n 0, 1) := by decide +kernel
theorem dX4_because_23 : decode cX4_because 23 = .ok (.dup, 1) := by decide +kernel
theorem dX4_because_24 : decode cX4_because 24 = .ok (.getfield 15, 3) := by decide +kernel
theorem dX4_because_27 : decode cX4_because 27 = .ok (.iconst 1, 1) := by decide +kernel
theorem dX4_because_28 : decode cX4_because 28 = .ok (.iadd, 1) := by decide +kernel
theorem dX4_because_29 : decode cX4_because 29 = .ok (.putfield 15, 3) := by decide +kernel
theorem dX4_because_32 : decode cX4_because 32 = .ok (.return_, 1) := by decide +kernel
theorem dX4_codeAt_0 : decode cX4_codeAt 0 = .ok (.iload_n 1, 1) := by decide +kernel
theorem dX4_codeAt_1 : decode cX4_codeAt 1 = .ok (.aload_n 0, 1) := by decide +kernel
theorem dX4_codeAt_2 : decode cX4_codeAt 2 = .ok (.getfield 15, 3) := by decide +kernel
theorem dX4_codeAt_5 : decode cX4_codeAt 5 = .ok (.if_icmp .ge 10, 3) := by decide +kernel
theorem dX4_codeAt_8 : decode cX4_codeAt 8 = .ok (.aload_n 0, 1) := by decide +kernel
theorem dX4_codeAt_9 : decode cX4_codeAt 9 = .ok (.getfield 9, 3) := by decide +kernel
theorem dX4_codeAt_12 : decode cX4_codeAt 12 = .ok (.iload_n 1, 1) := by decide +kernel
theorem dX4_codeAt_13 : decode cX4_codeAt 13 = .ok (.iaload, 1) := by decide +kernel
theorem dX4_codeAt_14 : decode cX4_codeAt 14 = .ok (.ireturn, 1) := by decide +kernel
theorem dX4_codeAt_15 : decode cX4_codeAt 15 = .ok (.iload_n 1, 1) := by decide +kernel
theorem dX4_codeAt_16 : decode cX4_codeAt 16 = .ok (.ifCond .ne 7, 3) := by decide +kernel
theorem dX4_codeAt_19 : decode cX4_codeAt 19 = .ok (.iconst 0, 1) := by decide +kernel
theorem dX4_codeAt_20 : decode cX4_codeAt 20 = .ok (.goto 4, 3) := by decide +kernel
theorem dX4_codeAt_23 : decode cX4_codeAt 23 = .ok (.iconst (-1), 1) := by decide +kernel
theorem dX4_codeAt_24 : decode cX4_codeAt 24 = .ok (.ireturn, 1) := by decide +kernel
theorem dX5_init_0 : decode cX5_init 0 = .ok (.aload_n 0, 1) := by decide +kernel
theorem dX5_init_1 : decode cX5_init 1 = .ok (.invokespecial 3, 3) := by decide +kernel
theorem dX5_init_4 : decode cX5_init 4 = .ok (.aload_n 0, 1) := by decide +kernel
theorem dX5_init_5 : decode cX5_init 5 = .ok (.iconst 4, 1) := by decide +kernel
theorem dX5_init_6 : decode cX5_init 6 = .ok (.newarray .int, 2) := by decide +kernel
theorem dX5_init_8 : decode cX5_init 8 = .ok (.putfield 9, 3) := by decide +kernel
theorem dX5_init_11 : decode cX5_init 11 = .ok (.aload_n 0, 1) := by decide +kernel
theorem dX5_init_12 : decode cX5_init 12 = .ok (.iconst 4, 1) := by decide +kernel
theorem dX5_init_13 : decode cX5_init 13 = .ok (.iconst 5, 1) := by decide +kernel
theorem dX5_init_14 : decode cX5_init 14 = .ok (.multianewarray 15 2, 4) := by decide +kernel
theorem dX5_init_18 : decode cX5_init 18 = .ok (.putfield 17, 3) := by decide +kernel
theorem dX5_init_21 : decode cX5_init 21 = .ok (.return_, 1) := by decide +kernel
theorem dX5_copyFrom_0 : decode cX5_copyFrom 0 = .ok (.aload_n 1, 1) := by decide +kernel
theorem dX5_copyFrom_1 : decode cX5_copyFrom 1 = .ok (.getfield 9, 3) := by decide +kernel
theorem dX5_copyFrom_4 : decode cX5_copyFrom 4 = .ok (.aload_n 0, 1) := by decide +kernel
theorem dX5_copyFrom_5 : decode cX5_copyFrom 5 = .ok (.getfield 9, 3) := by decide +kernel
theorem dX5_copyFrom_8 : decode cX5_copyFrom 8 = .ok (.invokestatic 20, 3) := by decide +kernel
theorem dX5_copyFrom_11 : decode cX5_copyFrom 11 = .ok (.aload_n 1, 1) := by decide +kernel
theorem dX5_copyFrom_12 : decode cX5_copyFrom 12 = .ok (.getfield 17, 3) := by decide +kernel
theorem dX5_copyFrom_15 : decode cX5_copyFrom 15 = .ok (.aload_n 0, 1) := by decide +kernel
theorem dX5_copyFrom_16 : decode cX5_copyFrom 16 = .ok (.getfield 17, 3) := by decide +kernel
theorem dX5_copyFrom_19 : decode cX5_copyFrom 19 = .ok (.invokestatic 24, 3) := by decide +kernel
theorem dX5_copyFrom_22 : decode cX5_copyFrom 22 = .ok (.return_, 1) := by decide +kernel
theorem dX5_addLast_0 : decode cX5_addLast 0 = .ok (.aload_n 0, 1) := by decide +kernel
theorem dX5_addLast_1 : decode cX5_addLast 1 = .ok (.getfield 9, 3) := by decide +kernel
theorem dX5_addLast_4 : decode cX5_addLast 4 = .ok (.iload_n 1, 1) := by decide +kernel
theorem dX5_addLast_5 : decode cX5_addLast 5 = .ok (.iaload, 1) := by decide +kernel
theorem dX5_addLast_6 : decode cX5_addLast 6 = .ok (.istore_n 3, 1) := by decide +kernel
theorem dX5_addLast_7 : decode cX5_addLast 7 = .ok (.iload_n 3, 1) := by decide +kernel
theorem dX5_addLast_8 : decode cX5_addLast 8 = .ok (.iconst 5, 1) := by decide +kernel
theorem dX5_addLast_9 : decode cX5_addLast 9 = .ok (.if_icmp .ge 21, 3) := by decide +kernel
theorem dX5_addLast_12 : decode cX5_addLast 12 = .ok (.aload_n 0, 1) := by decide +kernel
theorem dX5_addLast_13 : decode cX5_addLast 13 = .ok (.getfield 17, 3) := by decide +kernel
theorem dX5_addLast_16 : decode cX5_addLast 16 = .ok (.iload_n 1, 1) := by decide +kernel
theorem dX5_addLast_17 : decode cX5_addLast 17 = .ok (.aaload, 1) := by decide +kernel
theorem dX5_addLast_18 : decode cX5_addLast 18 = .ok (.iload_n 3, 1) := by decide +kernel
theorem dX5_addLast_19 : decode cX5_addLast 19 = .ok (.iload_n 2, 1) := by decide +kernel
theorem dX5_addLast_20 : decode cX5_addLast 20 = .ok (.iastore, 1) := by decide +kernel
theorem dX5_addLast_21 : decode cX5_addLast 21 = .ok (.aload_n 0, 1) := by decide +kernel
theorem dX5_addLast_22 : decode cX5_addLast 22 = .ok (.getfield 9, 3) := by decide +kernel
theorem dX5_addLast_25 : decode cX5_addLast 25 = .ok (.iload_n 1, 1) := by decide +kernel
theorem dX5_addLast_26 : decode cX5_addLast 26 = .ok (.iload_n 3, 1) := by decide +kernel
theorem dX5_addLast_27 : decode cX5_addLast 27 = .ok (.iconst 1, 1) := by decide +kernel
theorem dX5_addLast_28 : decode cX5_addLast 28 = .ok (.iadd, 1) := by decide +kernel
theorem dX5_addLast_29 : decode cX5_addLast 29 = .ok (.iastore, 1) := by decide +kernel
theorem dX5_addLast_30 : decode cX5_addLast 30 = .ok (.return_, 1) := by decide +kernel
theorem dX5_contains_0 : decode cX5_contains 0 = .ok (.iload_n 2, 1) := by decide +kernel
theorem dX5_contains_1 : decode cX5_contains 1 = .ok (.ifCond .lt 17, 3) := by decide +kernel
theorem dX5_contains_4 : decode cX5_contains 4 = .ok (.iload_n 2, 1) := by decide +kernel
theorem dX5_contains_5 : decode cX5_contains 5 = .ok (.aload_n 0, 1) := by decide +kernel
theorem dX5_contains_6 : decode cX5_contains 6 = .ok (.getfield 9, 3) := by decide +kernel
theorem dX5_contains_9 : decode cX5_contains 9 = .ok (.iload_n 1, 1) := by decide +kernel
theorem dX5_contains_10 : decode cX5_contains 10 = .ok (.iaload, 1) := by decide +kernel
theorem dX5_contains_11 : decode cX5_contains 11 = .ok (.if_icmp .ge 7, 3) := by decide +kernel
theorem dX5_contains_14 : decode cX5_contains 14 = .ok (.iconst 1, 1) := by decide +kernel
theorem dX5_contains_15 : decode cX5_contains 15 = .ok (.goto 4, 3) := by decide +kernel
theorem dX5_contains_18 : decode cX5_contains 18 = .ok (.iconst 0, 1) := by decide +kernel
theorem dX5_contains_19 : decode cX5_contains 19 = .ok (.ireturn, 1) := by decide +kernel
theorem dX5_positionOf_0 : decode cX5_positionOf 0 = .ok (.iconst 0, 1) := by decide +kernel
theorem dX5_positionOf_1 : decode cX5_positionOf 1 = .ok (.istore_n 3, 1) := by decide +kernel
theorem dX5_positionOf_2 : decode cX5_positionOf 2 = .ok (.iload_n 3, 1) := by decide +kernel
theorem dX5_positionOf_3 : decode cX5_positionOf 3 = .ok (.aload_n 0, 1) := by decide +kernel
theorem dX5_positionOf_4 : decode cX5_positionOf 4 = .ok (.getfield 9, 3) := by decide +kernel
theorem dX5_positionOf_7 : decode cX5_positionOf 7 = .ok (.iload_n 1, 1) := by decide +kernel
theorem dX5_positionOf_8 : decode cX5_positionOf 8 = .ok (.iaload, 1) := by decide +kernel
theorem dX5_positionOf_9 : decode cX5_positionOf 9 = .ok (.if_icmp .ge 23, 3) := by decide +kernel
theorem dX5_positionOf_12 : decode cX5_positionOf 12 = .ok (.aload_n 0, 1) := by decide +kernel
theorem dX5_positionOf_13 : decode cX5_positionOf 13 = .ok (.getfield 17, 3) := by decide +kernel
theorem dX5_positionOf_16 : decode cX5_positionOf 16 = .ok (.iload_n 1, 1) := by decide +kernel
theorem dX5_positionOf_17 : decode cX5_positionOf 17 = .ok (.aaload, 1) := by decide +kernel
theorem dX5_positionOf_18 : decode cX5_positionOf 18 = .ok (.iload_n 3, 1) := by decide +kernel
theorem dX5_positionOf_19 : decode cX5_positionOf 19 = .ok (.iaload, 1) := by decide +kernel
theorem dX5_positionOf_20 : decode cX5_positionOf 20 = .ok (.iload_n 2, 1) := by decide +kernel
theorem dX5_positionOf_21 : decode cX5_positionOf 21 = .ok (.if_icmp .ne 5, 3) := by decide +kernel
theorem dX5_positionOf_24 : decode cX5_positionOf 24 = .ok (.iload_n 3, 1) := by decide +kernel
theorem dX5_positionOf_25 : decode cX5_positionOf 25 = .ok (.ireturn, 1) := by decide +kernel
theorem dX5_positionOf_26 : decode cX5_positionOf 26 = .ok (.iinc 3 1, 3) := by decide +kernel
theorem dX5_positionOf_29 : decode cX5_positionOf 29 = .ok (.goto (-27), 3) := by decide +kernel
theorem dX5_positionOf_32 : decode cX5_positionOf 32 = .ok (.iconst 0, 1) := by decide +kernel
theorem dX5_positionOf_33 : decode cX5_positionOf 33 = .ok (.ireturn, 1) := by decide +kernel
theorem dX5_exchange_0 : decode cX5_exchange 0 = .ok (.aload_n 0, 1) := by decide +kernel
theorem dX5_exchange_1 : decode cX5_exchange 1 = .ok (.getfield 17, 3) := by decide +kernel
theorem dX5_exchange_4 : decode cX5_exchange 4 = .ok (.iload_n 1, 1) := by decide +kernel
theorem dX5_exchange_5 : decode cX5_exchange 5 = .ok (.aaload, 1) := by decide +kernel
theorem dX5_exchange_6 : decode cX5_exchange 6 = .ok (.astore_n 3, 1) := by decide +kernel
theorem dX5_exchange_7 : decode cX5_exchange 7 = .ok (.aload_n 3, 1) := by decide +kernel
theorem dX5_exchange_8 : decode cX5_exchange 8 = .ok (.iload_n 2, 1) := by decide +kernel
theorem dX5_exchange_9 : decode cX5_exchange 9 = .ok (.iaload, 1) := by decide +kernel
theorem dX5_exchange_10 : decode cX5_exchange 10 = .ok (.istore 4, 2) := by decide +kernel
theorem dX5_exchange_12 : decode cX5_exchange 12 = .ok (.aload_n 3, 1) := by decide +kernel
theorem dX5_exchange_13 : decode cX5_exchange 13 = .ok (.iload_n 2, 1) := by decide +kernel
theorem dX5_exchange_14 : decode cX5_exchange 14 = .ok (.aload_n 3, 1) := by decide +kernel
theorem dX5_exchange_15 : decode cX5_exchange 15 = .ok (.iload_n 2, 1) := by decide +kernel
theorem dX5_exchange_16 : decode cX5_exchange 16 = .ok (.iconst 1, 1) := by decide +kernel
theorem dX5_exchange_17 : decode cX5_exchange 17 = .ok (.iadd, 1) := by decide +kernel
theorem dX5_exchange_18 : decode cX5_exchange 18 = .ok (.iaload, 1) := by decide +kernel
theorem dX5_exchange_19 : decode cX5_exchange 19 = .ok (.iastore, 1) := by decide +kernel
theorem dX5_exchange_20 : decode cX5_exchange 20 = .ok (.aload_n 3, 1) := by decide +kernel
theorem dX5_exchange_21 : decode cX5_exchange 21 = .ok (.iload_n 2, 1) := by decide +kernel
theorem dX5_exchange_22 : decode cX5_exchange 22 = .ok (.iconst 1, 1) := by decide +kernel
theorem dX5_exchange_23 : decode cX5_exchange 23 = .ok (.iadd, 1) := by decide +kernel
theorem dX5_exchange_24 : decode cX5_exchange 24 = .ok (.iload 4, 2) := by decide +kernel
theorem dX5_exchange_26 : decode cX5_exchange 26 = .ok (.iastore, 1) := by decide +kernel
theorem dX5_exchange_27 : decode cX5_exchange 27 = .ok (.return_, 1) := by decide +kernel
theorem dX5_shift_0 : decode cX5_shift 0 = .ok (.iload_n 2, 1) := by decide +kernel
theorem dX5_shift_1 : decode cX5_shift 1 = .ok (.iload_n 3, 1) := by decide +kernel
theorem dX5_shift_2 : decode cX5_shift 2 = .ok (.if_icmp .ge 7, 3) := by decide +kernel
theorem dX5_shift_5 : decode cX5_shift 5 = .ok (.iconst 1, 1) := by decide +kernel
theorem dX5_shift_6 : decode cX5_shift 6 = .ok (.goto 4, 3) := by decide +kernel
theorem dX5_shift_9 : decode cX5_shift 9 = .ok (.iconst (-1), 1) := by decide +kernel
theorem dX5_shift_10 : decode cX5_shift 10 = .ok (.istore 4, 2) := by decide +kernel
theorem dX5_shift_12 : decode cX5_shift 12 = .ok (.iload_n 3, 1) := by decide +kernel
theorem dX5_shift_13 : decode cX5_shift 13 = .ok (.iload_n 2, 1) := by decide +kernel
theorem dX5_shift_14 : decode cX5_shift 14 = .ok (.isub, 1) := by decide +kernel
theorem dX5_shift_15 : decode cX5_shift 15 = .ok (.invokestatic 28, 3) := by decide +kernel
theorem dX5_shift_18 : decode cX5_shift 18 = .ok (.istore 5, 2) := by decide +kernel
theorem dX5_shift_20 : decode cX5_shift 20 = .ok (.aload_n 0, 1) := by decide +kernel
theorem dX5_shift_21 : decode cX5_shift 21 = .ok (.getfield 17, 3) := by decide +kernel
theorem dX5_shift_24 : decode cX5_shift 24 = .ok (.iload_n 1, 1) := by decide +kernel
theorem dX5_shift_25 : decode cX5_shift 25 = .ok (.aaload, 1) := by decide +kernel
theorem dX5_shift_26 : decode cX5_shift 26 = .ok (.astore 6, 2) := by decide +kernel
theorem dX5_shift_28 : decode cX5_shift 28 = .ok (.aload 6, 2) := by decide +kernel
theorem dX5_shift_30 : decode cX5_shift 30 = .ok (.iload_n 2, 1) := by decide +kernel
theorem dX5_shift_31 : decode cX5_shift 31 = .ok (.iaload, 1) := by decide +kernel
theorem dX5_shift_32 : decode cX5_shift 32 = .ok (.istore 7, 2) := by decide +kernel
theorem dX5_shift_34 : decode cX5_shift 34 = .ok (.iload_n 2, 1) := by decide +kernel
theorem dX5_shift_35 : decode cX5_shift 35 = .ok (.istore 8, 2) := by decide +kernel
theorem dX5_shift_37 : decode cX5_shift 37 = .ok (.iconst 0, 1) := by decide +kernel
theorem dX5_shift_38 : decode cX5_shift 38 = .ok (.istore 9, 2) := by decide +kernel
theorem dX5_shift_40 : decode cX5_shift 40 = .ok (.iload 9, 2) := by decide +kernel
theorem dX5_shift_42 : decode cX5_shift 42 = .ok (.iload 5, 2) := by decide +kernel
theorem dX5_shift_44 : decode cX5_shift 44 = .ok (.if_icmp .ge 29, 3) := by decide +kernel
theorem dX5_shift_47 : decode cX5_shift 47 = .ok (.aload 6, 2) := by decide +kernel
theorem dX5_shift_49 : decode cX5_shift 49 = .ok (.iload 8, 2) := by decide +kernel
theorem dX5_shift_51 : decode cX5_shift 51 = .ok (.aload 6, 2) := by decide +kernel
theorem dX5_shift_53 : decode cX5_shift 53 = .ok (.iload 8, 2) := by decide +kernel
theorem dX5_shift_55 : decode cX5_shift 55 = .ok (.iload 4, 2) := by decide +kernel
theorem dX5_shift_57 : decode cX5_shift 57 = .ok (.iadd, 1) := by decide +kernel
theorem dX5_shift_58 : decode cX5_shift 58 = .ok (.iaload, 1) := by decide +kernel
theorem dX5_shift_59 : decode cX5_shift 59 = .ok (.iastore, 1) := by decide +kernel
theorem dX5_shift_60 : decode cX5_shift 60 = .ok (.iload 8, 2) := by decide +kernel
theorem dX5_shift_62 : decode cX5_shift 62 = .ok (.iload 4, 2) := by decide +kernel
theorem dX5_shift_64 : decode cX5_shift 64 = .ok (.iadd, 1) := by decide +kernel
theorem dX5_shift_65 : decode cX5_shift 65 = .ok (.istore 8, 2) := by decide +kernel
theorem dX5_shift_67 : decode cX5_shift 67 = .ok (.iinc 9 1, 3) := by decide +kernel
theorem dX5_shift_70 : decode cX5_shift 70 = .ok (.goto (-30), 3) := by decide +kernel
theorem dX5_shift_73 : decode cX5_shift 73 = .ok (.aload 6, 2) := by decide +kernel
theorem dX5_shift_75 : decode cX5_shift 75 = .ok (.iload_n 3, 1) := by decide +kernel
theorem dX5_shift_76 : decode cX5_shift 76 = .ok (.iload 7, 2) := by decide +kernel
theorem dX5_shift_78 : decode cX5_shift 78 = .ok (.iastore, 1) := by decide +kernel
theorem dX5_shift_79 : decode cX5_shift 79 = .ok (.return_, 1) := by decide +kernel
