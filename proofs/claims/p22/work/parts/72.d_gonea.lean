theorem dL_gone_0 : decode cL_gone 0 = .ok (.aload_n 0, 1) := by decide +kernel
theorem dL_gone_1 : decode cL_gone 1 = .ok (.iload_n 2, 1) := by decide +kernel
theorem dL_gone_2 : decode cL_gone 2 = .ok (.invokestatic 72, 3) := by decide +kernel
theorem dL_gone_5 : decode cL_gone 5 = .ok (.istore_n 3, 1) := by decide +kernel
theorem dL_gone_6 : decode cL_gone 6 = .ok (.aload_n 1, 1) := by decide +kernel
theorem dL_gone_7 : decode cL_gone 7 = .ok (.iconst 3, 1) := by decide +kernel
theorem dL_gone_8 : decode cL_gone 8 = .ok (.iload_n 2, 1) := by decide +kernel
theorem dL_gone_9 : decode cL_gone 9 = .ok (.imul, 1) := by decide +kernel
theorem dL_gone_10 : decode cL_gone 10 = .ok (.iconst 2, 1) := by decide +kernel
theorem dL_gone_11 : decode cL_gone 11 = .ok (.iadd, 1) := by decide +kernel
theorem dL_gone_12 : decode cL_gone 12 = .ok (.iaload, 1) := by decide +kernel
theorem dL_gone_13 : decode cL_gone 13 = .ok (.istore 4, 2) := by decide +kernel
theorem dL_gone_15 : decode cL_gone 15 = .ok (.aload_n 0, 1) := by decide +kernel
theorem dL_gone_16 : decode cL_gone 16 = .ok (.iload_n 2, 1) := by decide +kernel
theorem dL_gone_17 : decode cL_gone 17 = .ok (.invokestatic 88, 3) := by decide +kernel
theorem dL_gone_20 : decode cL_gone 20 = .ok (.istore 5, 2) := by decide +kernel
theorem dL_gone_22 : decode cL_gone 22 = .ok (.iload 4, 2) := by decide +kernel
theorem dL_gone_24 : decode cL_gone 24 = .ok (.istore 6, 2) := by decide +kernel
theorem dL_gone_26 : decode cL_gone 26 = .ok (.iconst 0, 1) := by decide +kernel
theorem dL_gone_27 : decode cL_gone 27 = .ok (.istore 7, 2) := by decide +kernel
theorem dL_gone_29 : decode cL_gone 29 = .ok (.iconst 0, 1) := by decide +kernel
theorem dL_gone_30 : decode cL_gone 30 = .ok (.istore 8, 2) := by decide +kernel
theorem dL_gone_32 : decode cL_gone 32 = .ok (.iload 8, 2) := by decide +kernel
theorem dL_gone_34 : decode cL_gone 34 = .ok (.iload 5, 2) := by decide +kernel
theorem dL_gone_36 : decode cL_gone 36 = .ok (.if_icmp .ge 107, 3) := by decide +kernel
theorem dL_gone_39 : decode cL_gone 39 = .ok (.aload_n 0, 1) := by decide +kernel
theorem dL_gone_40 : decode cL_gone 40 = .ok (.iload_n 2, 1) := by decide +kernel
theorem dL_gone_41 : decode cL_gone 41 = .ok (.iload 8, 2) := by decide +kernel
theorem dL_gone_43 : decode cL_gone 43 = .ok (.invokestatic 98, 3) := by decide +kernel
theorem dL_gone_46 : decode cL_gone 46 = .ok (.istore 9, 2) := by decide +kernel
theorem dL_gone_48 : decode cL_gone 48 = .ok (.iload 6, 2) := by decide +kernel
theorem dL_gone_50 : decode cL_gone 50 = .ok (.bipush 40, 2) := by decide +kernel
theorem dL_gone_52 : decode cL_gone 52 = .ok (.if_icmp .ge 19, 3) := by decide +kernel
theorem dL_gone_55 : decode cL_gone 55 = .ok (.aload_n 0, 1) := by decide +kernel
theorem dL_gone_56 : decode cL_gone 56 = .ok (.iload 6, 2) := by decide +kernel
theorem dL_gone_58 : decode cL_gone 58 = .ok (.invokestatic 82, 3) := by decide +kernel
theorem dL_gone_61 : decode cL_gone 61 = .ok (.iconst (-1), 1) := by decide +kernel
theorem dL_gone_62 : decode cL_gone 62 = .ok (.if_icmp .eq 9, 3) := by decide +kernel
theorem dL_gone_65 : decode cL_gone 65 = .ok (.iinc 6 1, 3) := by decide +kernel
theorem dL_gone_68 : decode cL_gone 68 = .ok (.goto (-20), 3) := by decide +kernel
theorem dL_gone_71 : decode cL_gone 71 = .ok (.iload 9, 2) := by decide +kernel
theorem dL_gone_73 : decode cL_gone 73 = .ok (.iload 6, 2) := by decide +kernel
theorem dL_gone_75 : decode cL_gone 75 = .ok (.if_icmp .ne 15, 3) := by decide +kernel
theorem dL_gone_78 : decode cL_gone 78 = .ok (.iload 8, 2) := by decide +kernel
theorem dL_gone_80 : decode cL_gone 80 = .ok (.ifCond .ne 12, 3) := by decide +kernel
theorem dL_gone_83 : decode cL_gone 83 = .ok (.iload 9, 2) := by decide +kernel
theorem dL_gone_85 : decode cL_gone 85 = .ok (.iload 4, 2) := by decide +kernel
theorem dL_gone_87 : decode cL_gone 87 = .ok (.if_icmp .eq 5, 3) := by decide +kernel
theorem dL_gone_90 : decode cL_gone 90 = .ok (.iconst 0, 1) := by decide +kernel
theorem dL_gone_91 : decode cL_gone 91 = .ok (.ireturn, 1) := by decide +kernel
theorem dL_gone_92 : decode cL_gone 92 = .ok (.iinc 6 1, 3) := by decide +kernel
theorem dL_gone_95 : decode cL_gone 95 = .ok (.iconst 0, 1) := by decide +kernel
theorem dL_gone_96 : decode cL_gone 96 = .ok (.istore 10, 2) := by decide +kernel
theorem dL_gone_98 : decode cL_gone 98 = .ok (.iload 10, 2) := by decide +kernel
theorem dL_gone_100 : decode cL_gone 100 = .ok (.iconst 4, 1) := by decide +kernel
theorem dL_gone_101 : decode cL_gone 101 = .ok (.if_icmp .ge 36, 3) := by decide +kernel
theorem dL_gone_104 : decode cL_gone 104 = .ok (.iload 7, 2) := by decide +kernel
theorem dL_gone_106 : decode cL_gone 106 = .ok (.aload_n 0, 1) := by decide +kernel
theorem dL_gone_107 : decode cL_gone 107 = .ok (.iload 9, 2) := by decide +kernel
theorem dL_gone_109 : decode cL_gone 109 = .ok (.iload 10, 2) := by decide +kernel
theorem dL_gone_111 : decode cL_gone 111 = .ok (.invokestatic 80, 3) := by decide +kernel
theorem dL_gone_114 : decode cL_gone 114 = .ok (.iconst 4, 1) := by decide +kernel
theorem dL_gone_115 : decode cL_gone 115 = .ok (.iload 8, 2) := by decide +kernel
theorem dL_gone_117 : decode cL_gone 117 = .ok (.imul, 1) := by decide +kernel
theorem dL_gone_118 : decode cL_gone 118 = .ok (.iload 10, 2) := by decide +kernel
theorem dL_gone_120 : decode cL_gone 120 = .ok (.iadd, 1) := by decide +kernel
theorem dL_gone_121 : decode cL_gone 121 = .ok (.iconst 1, 1) := by decide +kernel
theorem dL_gone_122 : decode cL_gone 122 = .ok (.iadd, 1) := by decide +kernel
theorem dL_gone_123 : decode cL_gone 123 = .ok (.imul, 1) := by decide +kernel
theorem dL_gone_124 : decode cL_gone 124 = .ok (.iadd, 1) := by decide +kernel
theorem dL_gone_125 : decode cL_gone 125 = .ok (.sipush 9973, 3) := by decide +kernel
theorem dL_gone_128 : decode cL_gone 128 = .ok (.irem, 1) := by decide +kernel
theorem dL_gone_129 : decode cL_gone 129 = .ok (.istore 7, 2) := by decide +kernel
theorem dL_gone_131 : decode cL_gone 131 = .ok (.iinc 10 1, 3) := by decide +kernel
theorem dL_gone_134 : decode cL_gone 134 = .ok (.goto (-36), 3) := by decide +kernel
theorem dL_gone_137 : decode cL_gone 137 = .ok (.iinc 8 1, 3) := by decide +kernel
