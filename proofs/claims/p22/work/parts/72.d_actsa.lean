theorem dL_acts_0 : decode cL_acts 0 = .ok (.iload_n 3, 1) := by decide +kernel
theorem dL_acts_1 : decode cL_acts 1 = .ok (.bipush 20, 2) := by decide +kernel
theorem dL_acts_3 : decode cL_acts 3 = .ok (.invokestatic 116, 3) := by decide +kernel
theorem dL_acts_6 : decode cL_acts 6 = .ok (.istore 5, 2) := by decide +kernel
theorem dL_acts_8 : decode cL_acts 8 = .ok (.iload 5, 2) := by decide +kernel
theorem dL_acts_10 : decode cL_acts 10 = .ok (.bipush 7, 2) := by decide +kernel
theorem dL_acts_12 : decode cL_acts 12 = .ok (.if_icmp .ge 11, 3) := by decide +kernel
theorem dL_acts_15 : decode cL_acts 15 = .ok (.aload_n 2, 1) := by decide +kernel
theorem dL_acts_16 : decode cL_acts 16 = .ok (.iconst 0, 1) := by decide +kernel
theorem dL_acts_17 : decode cL_acts 17 = .ok (.iaload, 1) := by decide +kernel
theorem dL_acts_18 : decode cL_acts 18 = .ok (.bipush 20, 2) := by decide +kernel
theorem dL_acts_20 : decode cL_acts 20 = .ok (.if_icmp .lt 9, 3) := by decide +kernel
theorem dL_acts_23 : decode cL_acts 23 = .ok (.aload_n 2, 1) := by decide +kernel
theorem dL_acts_24 : decode cL_acts 24 = .ok (.iconst 0, 1) := by decide +kernel
theorem dL_acts_25 : decode cL_acts 25 = .ok (.iaload, 1) := by decide +kernel
theorem dL_acts_26 : decode cL_acts 26 = .ok (.ifCond .ne 190, 3) := by decide +kernel
theorem dL_acts_29 : decode cL_acts 29 = .ok (.iconst 1, 1) := by decide +kernel
theorem dL_acts_30 : decode cL_acts 30 = .ok (.iload 4, 2) := by decide +kernel
theorem dL_acts_32 : decode cL_acts 32 = .ok (.bipush 8, 2) := by decide +kernel
theorem dL_acts_34 : decode cL_acts 34 = .ok (.invokestatic 116, 3) := by decide +kernel
theorem dL_acts_37 : decode cL_acts 37 = .ok (.iadd, 1) := by decide +kernel
theorem dL_acts_38 : decode cL_acts 38 = .ok (.istore 6, 2) := by decide +kernel
theorem dL_acts_40 : decode cL_acts 40 = .ok (.iload 4, 2) := by decide +kernel
theorem dL_acts_42 : decode cL_acts 42 = .ok (.iconst 3, 1) := by decide +kernel
theorem dL_acts_43 : decode cL_acts 43 = .ok (.ishr, 1) := by decide +kernel
theorem dL_acts_44 : decode cL_acts 44 = .ok (.sipush 10001, 3) := by decide +kernel
theorem dL_acts_47 : decode cL_acts 47 = .ok (.invokestatic 116, 3) := by decide +kernel
theorem dL_acts_50 : decode cL_acts 50 = .ok (.istore 7, 2) := by decide +kernel
theorem dL_acts_52 : decode cL_acts 52 = .ok (.aload_n 0, 1) := by decide +kernel
theorem dL_acts_53 : decode cL_acts 53 = .ok (.invokevirtual 106, 3) := by decide +kernel
theorem dL_acts_56 : decode cL_acts 56 = .ok (.istore 8, 2) := by decide +kernel
theorem dL_acts_58 : decode cL_acts 58 = .ok (.iload 6, 2) := by decide +kernel
theorem dL_acts_60 : decode cL_acts 60 = .ok (.iload 8, 2) := by decide +kernel
theorem dL_acts_62 : decode cL_acts 62 = .ok (.if_icmp .gt 9, 3) := by decide +kernel
theorem dL_acts_65 : decode cL_acts 65 = .ok (.aload_n 2, 1) := by decide +kernel
theorem dL_acts_66 : decode cL_acts 66 = .ok (.iconst 0, 1) := by decide +kernel
theorem dL_acts_67 : decode cL_acts 67 = .ok (.iaload, 1) := by decide +kernel
theorem dL_acts_68 : decode cL_acts 68 = .ok (.goto 5, 3) := by decide +kernel
theorem dL_acts_71 : decode cL_acts 71 = .ok (.ldc 21, 2) := by decide +kernel
theorem dL_acts_73 : decode cL_acts 73 = .ok (.istore 9, 2) := by decide +kernel
theorem dL_acts_75 : decode cL_acts 75 = .ok (.iconst 0, 1) := by decide +kernel
theorem dL_acts_76 : decode cL_acts 76 = .ok (.istore 10, 2) := by decide +kernel
theorem dL_acts_78 : decode cL_acts 78 = .ok (.iload 10, 2) := by decide +kernel
theorem dL_acts_80 : decode cL_acts 80 = .ok (.bipush 40, 2) := by decide +kernel
theorem dL_acts_82 : decode cL_acts 82 = .ok (.if_icmp .ge 19, 3) := by decide +kernel
theorem dL_acts_85 : decode cL_acts 85 = .ok (.aload_n 0, 1) := by decide +kernel
theorem dL_acts_86 : decode cL_acts 86 = .ok (.iload 10, 2) := by decide +kernel
theorem dL_acts_88 : decode cL_acts 88 = .ok (.invokestatic 82, 3) := by decide +kernel
theorem dL_acts_91 : decode cL_acts 91 = .ok (.iconst (-1), 1) := by decide +kernel
theorem dL_acts_92 : decode cL_acts 92 = .ok (.if_icmp .eq 9, 3) := by decide +kernel
theorem dL_acts_95 : decode cL_acts 95 = .ok (.iinc 10 1, 3) := by decide +kernel
theorem dL_acts_98 : decode cL_acts 98 = .ok (.goto (-20), 3) := by decide +kernel
theorem dL_acts_101 : decode cL_acts 101 = .ok (.iload 9, 2) := by decide +kernel
theorem dL_acts_103 : decode cL_acts 103 = .ok (.ifCond .lt 27, 3) := by decide +kernel
theorem dL_acts_106 : decode cL_acts 106 = .ok (.aload_n 1, 1) := by decide +kernel
theorem dL_acts_107 : decode cL_acts 107 = .ok (.iconst 3, 1) := by decide +kernel
theorem dL_acts_108 : decode cL_acts 108 = .ok (.iload 9, 2) := by decide +kernel
theorem dL_acts_110 : decode cL_acts 110 = .ok (.imul, 1) := by decide +kernel
theorem dL_acts_111 : decode cL_acts 111 = .ok (.iload 7, 2) := by decide +kernel
theorem dL_acts_113 : decode cL_acts 113 = .ok (.iastore, 1) := by decide +kernel
theorem dL_acts_114 : decode cL_acts 114 = .ok (.aload_n 1, 1) := by decide +kernel
theorem dL_acts_115 : decode cL_acts 115 = .ok (.iconst 3, 1) := by decide +kernel
theorem dL_acts_116 : decode cL_acts 116 = .ok (.iload 9, 2) := by decide +kernel
theorem dL_acts_118 : decode cL_acts 118 = .ok (.imul, 1) := by decide +kernel
theorem dL_acts_119 : decode cL_acts 119 = .ok (.iconst 1, 1) := by decide +kernel
theorem dL_acts_120 : decode cL_acts 120 = .ok (.iadd, 1) := by decide +kernel
theorem dL_acts_121 : decode cL_acts 121 = .ok (.iconst 0, 1) := by decide +kernel
theorem dL_acts_122 : decode cL_acts 122 = .ok (.iastore, 1) := by decide +kernel
theorem dL_acts_123 : decode cL_acts 123 = .ok (.aload_n 2, 1) := by decide +kernel
theorem dL_acts_124 : decode cL_acts 124 = .ok (.iconst 0, 1) := by decide +kernel
theorem dL_acts_125 : decode cL_acts 125 = .ok (.dup2, 1) := by decide +kernel
theorem dL_acts_126 : decode cL_acts 126 = .ok (.iaload, 1) := by decide +kernel
theorem dL_acts_127 : decode cL_acts 127 = .ok (.iconst 1, 1) := by decide +kernel
theorem dL_acts_128 : decode cL_acts 128 = .ok (.iadd, 1) := by decide +kernel
theorem dL_acts_129 : decode cL_acts 129 = .ok (.iastore, 1) := by decide +kernel
theorem dL_acts_130 : decode cL_acts 130 = .ok (.aload_n 0, 1) := by decide +kernel
theorem dL_acts_131 : decode cL_acts 131 = .ok (.iload 6, 2) := by decide +kernel
theorem dL_acts_133 : decode cL_acts 133 = .ok (.iload 7, 2) := by decide +kernel
