theorem dL_join_0 : decode cL_join 0 = .ok (.aload_n 0, 1) := by decide +kernel
theorem dL_join_1 : decode cL_join 1 = .ok (.iload_n 2, 1) := by decide +kernel
theorem dL_join_2 : decode cL_join 2 = .ok (.invokestatic 72, 3) := by decide +kernel
theorem dL_join_5 : decode cL_join 5 = .ok (.istore_n 3, 1) := by decide +kernel
theorem dL_join_6 : decode cL_join 6 = .ok (.aload_n 0, 1) := by decide +kernel
theorem dL_join_7 : decode cL_join 7 = .ok (.iload_n 2, 1) := by decide +kernel
theorem dL_join_8 : decode cL_join 8 = .ok (.invokestatic 94, 3) := by decide +kernel
theorem dL_join_11 : decode cL_join 11 = .ok (.istore 4, 2) := by decide +kernel
theorem dL_join_13 : decode cL_join 13 = .ok (.iload 4, 2) := by decide +kernel
theorem dL_join_15 : decode cL_join 15 = .ok (.iconst 1, 1) := by decide +kernel
theorem dL_join_16 : decode cL_join 16 = .ok (.if_icmp .eq 81, 3) := by decide +kernel
theorem dL_join_19 : decode cL_join 19 = .ok (.iload_n 3, 1) := by decide +kernel
theorem dL_join_20 : decode cL_join 20 = .ok (.iconst 5, 1) := by decide +kernel
theorem dL_join_21 : decode cL_join 21 = .ok (.if_icmp .ge 35, 3) := by decide +kernel
theorem dL_join_24 : decode cL_join 24 = .ok (.aload_n 0, 1) := by decide +kernel
theorem dL_join_25 : decode cL_join 25 = .ok (.iload_n 2, 1) := by decide +kernel
theorem dL_join_26 : decode cL_join 26 = .ok (.invokestatic 90, 3) := by decide +kernel
theorem dL_join_29 : decode cL_join 29 = .ok (.iconst 3, 1) := by decide +kernel
theorem dL_join_30 : decode cL_join 30 = .ok (.if_icmp .ne 26, 3) := by decide +kernel
theorem dL_join_33 : decode cL_join 33 = .ok (.aload_n 0, 1) := by decide +kernel
theorem dL_join_34 : decode cL_join 34 = .ok (.aload_n 0, 1) := by decide +kernel
theorem dL_join_35 : decode cL_join 35 = .ok (.iload_n 2, 1) := by decide +kernel
theorem dL_join_36 : decode cL_join 36 = .ok (.iload_n 3, 1) := by decide +kernel
theorem dL_join_37 : decode cL_join 37 = .ok (.iconst 1, 1) := by decide +kernel
theorem dL_join_38 : decode cL_join 38 = .ok (.isub, 1) := by decide +kernel
theorem dL_join_39 : decode cL_join 39 = .ok (.invokestatic 98, 3) := by decide +kernel
theorem dL_join_42 : decode cL_join 42 = .ok (.iconst 3, 1) := by decide +kernel
theorem dL_join_43 : decode cL_join 43 = .ok (.invokestatic 80, 3) := by decide +kernel
theorem dL_join_46 : decode cL_join 46 = .ok (.sipush 254, 3) := by decide +kernel
theorem dL_join_49 : decode cL_join 49 = .ok (.if_icmp .ne 7, 3) := by decide +kernel
theorem dL_join_52 : decode cL_join 52 = .ok (.iconst 1, 1) := by decide +kernel
theorem dL_join_53 : decode cL_join 53 = .ok (.goto 4, 3) := by decide +kernel
theorem dL_join_56 : decode cL_join 56 = .ok (.iconst 0, 1) := by decide +kernel
theorem dL_join_57 : decode cL_join 57 = .ok (.istore 5, 2) := by decide +kernel
theorem dL_join_59 : decode cL_join 59 = .ok (.iload 4, 2) := by decide +kernel
theorem dL_join_61 : decode cL_join 61 = .ok (.ifCond .ne 34, 3) := by decide +kernel
theorem dL_join_64 : decode cL_join 64 = .ok (.iload 5, 2) := by decide +kernel
theorem dL_join_66 : decode cL_join 66 = .ok (.ifCond .ne 29, 3) := by decide +kernel
theorem dL_join_69 : decode cL_join 69 = .ok (.aload_n 0, 1) := by decide +kernel
theorem dL_join_70 : decode cL_join 70 = .ok (.iload_n 2, 1) := by decide +kernel
theorem dL_join_71 : decode cL_join 71 = .ok (.iconst 0, 1) := by decide +kernel
theorem dL_join_72 : decode cL_join 72 = .ok (.invokestatic 96, 3) := by decide +kernel
theorem dL_join_75 : decode cL_join 75 = .ok (.ldc 21, 2) := by decide +kernel
theorem dL_join_77 : decode cL_join 77 = .ok (.if_icmp .ne 18, 3) := by decide +kernel
theorem dL_join_80 : decode cL_join 80 = .ok (.aload_n 0, 1) := by decide +kernel
theorem dL_join_81 : decode cL_join 81 = .ok (.iload_n 2, 1) := by decide +kernel
theorem dL_join_82 : decode cL_join 82 = .ok (.iload_n 3, 1) := by decide +kernel
theorem dL_join_83 : decode cL_join 83 = .ok (.invokestatic 96, 3) := by decide +kernel
theorem dL_join_86 : decode cL_join 86 = .ok (.ldc 18, 2) := by decide +kernel
theorem dL_join_88 : decode cL_join 88 = .ok (.if_icmp .ne 7, 3) := by decide +kernel
theorem dL_join_91 : decode cL_join 91 = .ok (.iconst 1, 1) := by decide +kernel
theorem dL_join_92 : decode cL_join 92 = .ok (.goto 4, 3) := by decide +kernel
theorem dL_join_95 : decode cL_join 95 = .ok (.iconst 0, 1) := by decide +kernel
theorem dL_join_96 : decode cL_join 96 = .ok (.ireturn, 1) := by decide +kernel
theorem dL_join_97 : decode cL_join 97 = .ok (.iconst 0, 1) := by decide +kernel
theorem dL_join_98 : decode cL_join 98 = .ok (.istore 5, 2) := by decide +kernel
theorem dL_join_100 : decode cL_join 100 = .ok (.iconst 0, 1) := by decide +kernel
theorem dL_join_101 : decode cL_join 101 = .ok (.istore 6, 2) := by decide +kernel
theorem dL_join_103 : decode cL_join 103 = .ok (.iconst 0, 1) := by decide +kernel
theorem dL_join_104 : decode cL_join 104 = .ok (.istore 7, 2) := by decide +kernel
theorem dL_join_106 : decode cL_join 106 = .ok (.iconst 0, 1) := by decide +kernel
theorem dL_join_107 : decode cL_join 107 = .ok (.istore 8, 2) := by decide +kernel
theorem dL_join_109 : decode cL_join 109 = .ok (.iload 8, 2) := by decide +kernel
theorem dL_join_111 : decode cL_join 111 = .ok (.iload_n 3, 1) := by decide +kernel
theorem dL_join_112 : decode cL_join 112 = .ok (.if_icmp .ge 148, 3) := by decide +kernel
theorem dL_join_115 : decode cL_join 115 = .ok (.aload_n 0, 1) := by decide +kernel
theorem dL_join_116 : decode cL_join 116 = .ok (.iload_n 2, 1) := by decide +kernel
theorem dL_join_117 : decode cL_join 117 = .ok (.iload 8, 2) := by decide +kernel
theorem dL_join_119 : decode cL_join 119 = .ok (.invokestatic 96, 3) := by decide +kernel
theorem dL_join_122 : decode cL_join 122 = .ok (.istore 9, 2) := by decide +kernel
theorem dL_join_124 : decode cL_join 124 = .ok (.iload 9, 2) := by decide +kernel
theorem dL_join_126 : decode cL_join 126 = .ok (.ifCond .lt 37, 3) := by decide +kernel
theorem dL_join_129 : decode cL_join 129 = .ok (.iload 9, 2) := by decide +kernel
theorem dL_join_131 : decode cL_join 131 = .ok (.bipush 39, 2) := by decide +kernel
theorem dL_join_133 : decode cL_join 133 = .ok (.if_icmp .gt 30, 3) := by decide +kernel
theorem dL_join_136 : decode cL_join 136 = .ok (.aload_n 0, 1) := by decide +kernel
theorem dL_join_137 : decode cL_join 137 = .ok (.iload 9, 2) := by decide +kernel
theorem dL_join_139 : decode cL_join 139 = .ok (.invokestatic 82, 3) := by decide +kernel
theorem dL_join_142 : decode cL_join 142 = .ok (.iconst (-1), 1) := by decide +kernel
theorem dL_join_143 : decode cL_join 143 = .ok (.if_icmp .ne 20, 3) := by decide +kernel
theorem dL_join_146 : decode cL_join 146 = .ok (.iload 8, 2) := by decide +kernel
theorem dL_join_148 : decode cL_join 148 = .ok (.ifCond .ne 17, 3) := by decide +kernel
theorem dL_join_151 : decode cL_join 151 = .ok (.iload 9, 2) := by decide +kernel
