theorem dL_there_0 : decode cL_there 0 = .ok (.aload_n 0, 1) := by decide +kernel
theorem dL_there_1 : decode cL_there 1 = .ok (.iload_n 2, 1) := by decide +kernel
theorem dL_there_2 : decode cL_there 2 = .ok (.invokestatic 72, 3) := by decide +kernel
theorem dL_there_5 : decode cL_there 5 = .ok (.istore_n 3, 1) := by decide +kernel
theorem dL_there_6 : decode cL_there 6 = .ok (.iconst 0, 1) := by decide +kernel
theorem dL_there_7 : decode cL_there 7 = .ok (.istore 4, 2) := by decide +kernel
theorem dL_there_9 : decode cL_there 9 = .ok (.iconst 0, 1) := by decide +kernel
theorem dL_there_10 : decode cL_there 10 = .ok (.istore 5, 2) := by decide +kernel
theorem dL_there_12 : decode cL_there 12 = .ok (.iload 5, 2) := by decide +kernel
theorem dL_there_14 : decode cL_there 14 = .ok (.iconst 4, 1) := by decide +kernel
theorem dL_there_15 : decode cL_there 15 = .ok (.iload_n 3, 1) := by decide +kernel
theorem dL_there_16 : decode cL_there 16 = .ok (.imul, 1) := by decide +kernel
theorem dL_there_17 : decode cL_there 17 = .ok (.if_icmp .ge 121, 3) := by decide +kernel
theorem dL_there_20 : decode cL_there 20 = .ok (.aload_n 0, 1) := by decide +kernel
theorem dL_there_21 : decode cL_there 21 = .ok (.iload_n 2, 1) := by decide +kernel
theorem dL_there_22 : decode cL_there 22 = .ok (.iload 5, 2) := by decide +kernel
theorem dL_there_24 : decode cL_there 24 = .ok (.iconst 4, 1) := by decide +kernel
theorem dL_there_25 : decode cL_there 25 = .ok (.idiv, 1) := by decide +kernel
theorem dL_there_26 : decode cL_there 26 = .ok (.invokestatic 77, 3) := by decide +kernel
theorem dL_there_29 : decode cL_there 29 = .ok (.istore 6, 2) := by decide +kernel
theorem dL_there_31 : decode cL_there 31 = .ok (.aload_n 0, 1) := by decide +kernel
theorem dL_there_32 : decode cL_there 32 = .ok (.iload 6, 2) := by decide +kernel
theorem dL_there_34 : decode cL_there 34 = .ok (.iload 5, 2) := by decide +kernel
theorem dL_there_36 : decode cL_there 36 = .ok (.iconst 4, 1) := by decide +kernel
theorem dL_there_37 : decode cL_there 37 = .ok (.irem, 1) := by decide +kernel
theorem dL_there_38 : decode cL_there 38 = .ok (.invokestatic 80, 3) := by decide +kernel
theorem dL_there_41 : decode cL_there 41 = .ok (.istore 7, 2) := by decide +kernel
theorem dL_there_43 : decode cL_there 43 = .ok (.iload 5, 2) := by decide +kernel
theorem dL_there_45 : decode cL_there 45 = .ok (.ifCond .ne 9, 3) := by decide +kernel
theorem dL_there_48 : decode cL_there 48 = .ok (.sipush 255, 3) := by decide +kernel
theorem dL_there_51 : decode cL_there 51 = .ok (.goto 34, 3) := by decide +kernel
theorem dL_there_54 : decode cL_there 54 = .ok (.iload 5, 2) := by decide +kernel
theorem dL_there_56 : decode cL_there 56 = .ok (.iconst 4, 1) := by decide +kernel
theorem dL_there_57 : decode cL_there 57 = .ok (.iload_n 3, 1) := by decide +kernel
theorem dL_there_58 : decode cL_there 58 = .ok (.imul, 1) := by decide +kernel
theorem dL_there_59 : decode cL_there 59 = .ok (.iconst 1, 1) := by decide +kernel
theorem dL_there_60 : decode cL_there 60 = .ok (.isub, 1) := by decide +kernel
theorem dL_there_61 : decode cL_there 61 = .ok (.if_icmp .ne 9, 3) := by decide +kernel
theorem dL_there_64 : decode cL_there 64 = .ok (.sipush 254, 3) := by decide +kernel
theorem dL_there_67 : decode cL_there 67 = .ok (.goto 18, 3) := by decide +kernel
theorem dL_there_70 : decode cL_there 70 = .ok (.aload_n 1, 1) := by decide +kernel
theorem dL_there_71 : decode cL_there 71 = .ok (.iconst 3, 1) := by decide +kernel
theorem dL_there_72 : decode cL_there 72 = .ok (.iload_n 2, 1) := by decide +kernel
theorem dL_there_73 : decode cL_there 73 = .ok (.imul, 1) := by decide +kernel
theorem dL_there_74 : decode cL_there 74 = .ok (.iaload, 1) := by decide +kernel
theorem dL_there_75 : decode cL_there 75 = .ok (.bipush 37, 2) := by decide +kernel
theorem dL_there_77 : decode cL_there 77 = .ok (.iload 5, 2) := by decide +kernel
theorem dL_there_79 : decode cL_there 79 = .ok (.imul, 1) := by decide +kernel
theorem dL_there_80 : decode cL_there 80 = .ok (.iadd, 1) := by decide +kernel
theorem dL_there_81 : decode cL_there 81 = .ok (.sipush 250, 3) := by decide +kernel
theorem dL_there_84 : decode cL_there 84 = .ok (.irem, 1) := by decide +kernel
theorem dL_there_85 : decode cL_there 85 = .ok (.istore 8, 2) := by decide +kernel
theorem dL_there_87 : decode cL_there 87 = .ok (.aload_n 0, 1) := by decide +kernel
theorem dL_there_88 : decode cL_there 88 = .ok (.iload 6, 2) := by decide +kernel
theorem dL_there_90 : decode cL_there 90 = .ok (.invokestatic 82, 3) := by decide +kernel
theorem dL_there_93 : decode cL_there 93 = .ok (.iload_n 2, 1) := by decide +kernel
theorem dL_there_94 : decode cL_there 94 = .ok (.if_icmp .ne 20, 3) := by decide +kernel
theorem dL_there_97 : decode cL_there 97 = .ok (.iload 7, 2) := by decide +kernel
theorem dL_there_99 : decode cL_there 99 = .ok (.iload 8, 2) := by decide +kernel
theorem dL_there_101 : decode cL_there 101 = .ok (.if_icmp .ne 13, 3) := by decide +kernel
theorem dL_there_104 : decode cL_there 104 = .ok (.aload_n 0, 1) := by decide +kernel
theorem dL_there_105 : decode cL_there 105 = .ok (.iload 6, 2) := by decide +kernel
theorem dL_there_107 : decode cL_there 107 = .ok (.invokestatic 84, 3) := by decide +kernel
theorem dL_there_110 : decode cL_there 110 = .ok (.iconst (-1), 1) := by decide +kernel
theorem dL_there_111 : decode cL_there 111 = .ok (.if_icmp .eq 5, 3) := by decide +kernel
theorem dL_there_114 : decode cL_there 114 = .ok (.iconst 0, 1) := by decide +kernel
theorem dL_there_115 : decode cL_there 115 = .ok (.ireturn, 1) := by decide +kernel
theorem dL_there_116 : decode cL_there 116 = .ok (.iload 4, 2) := by decide +kernel
theorem dL_there_118 : decode cL_there 118 = .ok (.iload 7, 2) := by decide +kernel
theorem dL_there_120 : decode cL_there 120 = .ok (.iload 5, 2) := by decide +kernel
theorem dL_there_122 : decode cL_there 122 = .ok (.iconst 1, 1) := by decide +kernel
theorem dL_there_123 : decode cL_there 123 = .ok (.iadd, 1) := by decide +kernel
