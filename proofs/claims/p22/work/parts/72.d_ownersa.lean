theorem dL_owners_0 : decode cL_owners 0 = .ok (.bipush 20, 2) := by decide +kernel
theorem dL_owners_2 : decode cL_owners 2 = .ok (.newarray .int, 2) := by decide +kernel
theorem dL_owners_4 : decode cL_owners 4 = .ok (.astore_n 3, 1) := by decide +kernel
theorem dL_owners_5 : decode cL_owners 5 = .ok (.iconst 0, 1) := by decide +kernel
theorem dL_owners_6 : decode cL_owners 6 = .ok (.istore 4, 2) := by decide +kernel
theorem dL_owners_8 : decode cL_owners 8 = .ok (.iconst 0, 1) := by decide +kernel
theorem dL_owners_9 : decode cL_owners 9 = .ok (.istore 5, 2) := by decide +kernel
theorem dL_owners_11 : decode cL_owners 11 = .ok (.iload 5, 2) := by decide +kernel
theorem dL_owners_13 : decode cL_owners 13 = .ok (.bipush 40, 2) := by decide +kernel
theorem dL_owners_15 : decode cL_owners 15 = .ok (.if_icmp .ge 259, 3) := by decide +kernel
theorem dL_owners_18 : decode cL_owners 18 = .ok (.iconst (-1), 1) := by decide +kernel
theorem dL_owners_19 : decode cL_owners 19 = .ok (.istore 6, 2) := by decide +kernel
theorem dL_owners_21 : decode cL_owners 21 = .ok (.aload_n 0, 1) := by decide +kernel
theorem dL_owners_22 : decode cL_owners 22 = .ok (.iload 5, 2) := by decide +kernel
theorem dL_owners_24 : decode cL_owners 24 = .ok (.invokestatic 82, 3) := by decide +kernel
theorem dL_owners_27 : decode cL_owners 27 = .ok (.istore 7, 2) := by decide +kernel
theorem dL_owners_29 : decode cL_owners 29 = .ok (.iload 4, 2) := by decide +kernel
theorem dL_owners_31 : decode cL_owners 31 = .ok (.iload 7, 2) := by decide +kernel
theorem dL_owners_33 : decode cL_owners 33 = .ok (.iconst (-1), 1) := by decide +kernel
theorem dL_owners_34 : decode cL_owners 34 = .ok (.if_icmp .ne 7, 3) := by decide +kernel
theorem dL_owners_37 : decode cL_owners 37 = .ok (.iconst 1, 1) := by decide +kernel
theorem dL_owners_38 : decode cL_owners 38 = .ok (.goto 4, 3) := by decide +kernel
theorem dL_owners_41 : decode cL_owners 41 = .ok (.iconst 0, 1) := by decide +kernel
theorem dL_owners_42 : decode cL_owners 42 = .ok (.iadd, 1) := by decide +kernel
theorem dL_owners_43 : decode cL_owners 43 = .ok (.istore 4, 2) := by decide +kernel
theorem dL_owners_45 : decode cL_owners 45 = .ok (.iload 7, 2) := by decide +kernel
theorem dL_owners_47 : decode cL_owners 47 = .ok (.iconst (-1), 1) := by decide +kernel
theorem dL_owners_48 : decode cL_owners 48 = .ok (.if_icmp .lt 27, 3) := by decide +kernel
theorem dL_owners_51 : decode cL_owners 51 = .ok (.iload 7, 2) := by decide +kernel
theorem dL_owners_53 : decode cL_owners 53 = .ok (.aload_n 2, 1) := by decide +kernel
theorem dL_owners_54 : decode cL_owners 54 = .ok (.iconst 0, 1) := by decide +kernel
theorem dL_owners_55 : decode cL_owners 55 = .ok (.iaload, 1) := by decide +kernel
theorem dL_owners_56 : decode cL_owners 56 = .ok (.if_icmp .ge 19, 3) := by decide +kernel
theorem dL_owners_59 : decode cL_owners 59 = .ok (.iload 7, 2) := by decide +kernel
theorem dL_owners_61 : decode cL_owners 61 = .ok (.ifCond .lt 16, 3) := by decide +kernel
theorem dL_owners_64 : decode cL_owners 64 = .ok (.aload_n 1, 1) := by decide +kernel
theorem dL_owners_65 : decode cL_owners 65 = .ok (.iconst 3, 1) := by decide +kernel
theorem dL_owners_66 : decode cL_owners 66 = .ok (.iload 7, 2) := by decide +kernel
theorem dL_owners_68 : decode cL_owners 68 = .ok (.imul, 1) := by decide +kernel
theorem dL_owners_69 : decode cL_owners 69 = .ok (.iconst 1, 1) := by decide +kernel
theorem dL_owners_70 : decode cL_owners 70 = .ok (.iadd, 1) := by decide +kernel
theorem dL_owners_71 : decode cL_owners 71 = .ok (.iaload, 1) := by decide +kernel
theorem dL_owners_72 : decode cL_owners 72 = .ok (.ifCond .le 5, 3) := by decide +kernel
theorem dL_owners_75 : decode cL_owners 75 = .ok (.iconst 0, 1) := by decide +kernel
theorem dL_owners_76 : decode cL_owners 76 = .ok (.ireturn, 1) := by decide +kernel
theorem dL_owners_77 : decode cL_owners 77 = .ok (.iconst 0, 1) := by decide +kernel
theorem dL_owners_78 : decode cL_owners 78 = .ok (.istore 8, 2) := by decide +kernel
theorem dL_owners_80 : decode cL_owners 80 = .ok (.iload 8, 2) := by decide +kernel
theorem dL_owners_82 : decode cL_owners 82 = .ok (.aload_n 2, 1) := by decide +kernel
theorem dL_owners_83 : decode cL_owners 83 = .ok (.iconst 0, 1) := by decide +kernel
theorem dL_owners_84 : decode cL_owners 84 = .ok (.iaload, 1) := by decide +kernel
theorem dL_owners_85 : decode cL_owners 85 = .ok (.if_icmp .ge 157, 3) := by decide +kernel
theorem dL_owners_88 : decode cL_owners 88 = .ok (.aload_n 1, 1) := by decide +kernel
theorem dL_owners_89 : decode cL_owners 89 = .ok (.iconst 3, 1) := by decide +kernel
theorem dL_owners_90 : decode cL_owners 90 = .ok (.iload 8, 2) := by decide +kernel
theorem dL_owners_92 : decode cL_owners 92 = .ok (.imul, 1) := by decide +kernel
theorem dL_owners_93 : decode cL_owners 93 = .ok (.iconst 1, 1) := by decide +kernel
theorem dL_owners_94 : decode cL_owners 94 = .ok (.iadd, 1) := by decide +kernel
theorem dL_owners_95 : decode cL_owners 95 = .ok (.iaload, 1) := by decide +kernel
theorem dL_owners_96 : decode cL_owners 96 = .ok (.ifCond .le 140, 3) := by decide +kernel
theorem dL_owners_99 : decode cL_owners 99 = .ok (.aload_n 0, 1) := by decide +kernel
theorem dL_owners_100 : decode cL_owners 100 = .ok (.iload 8, 2) := by decide +kernel
theorem dL_owners_102 : decode cL_owners 102 = .ok (.invokestatic 90, 3) := by decide +kernel
theorem dL_owners_105 : decode cL_owners 105 = .ok (.ifCond .le 131, 3) := by decide +kernel
theorem dL_owners_108 : decode cL_owners 108 = .ok (.iconst 0, 1) := by decide +kernel
theorem dL_owners_109 : decode cL_owners 109 = .ok (.istore 9, 2) := by decide +kernel
theorem dL_owners_111 : decode cL_owners 111 = .ok (.iconst 0, 1) := by decide +kernel
theorem dL_owners_112 : decode cL_owners 112 = .ok (.istore 10, 2) := by decide +kernel
theorem dL_owners_114 : decode cL_owners 114 = .ok (.iload 10, 2) := by decide +kernel
theorem dL_owners_116 : decode cL_owners 116 = .ok (.aload_n 0, 1) := by decide +kernel
theorem dL_owners_117 : decode cL_owners 117 = .ok (.iload 8, 2) := by decide +kernel
theorem dL_owners_119 : decode cL_owners 119 = .ok (.invokestatic 88, 3) := by decide +kernel
theorem dL_owners_122 : decode cL_owners 122 = .ok (.if_icmp .ge 34, 3) := by decide +kernel
theorem dL_owners_125 : decode cL_owners 125 = .ok (.iload 9, 2) := by decide +kernel
theorem dL_owners_127 : decode cL_owners 127 = .ok (.ifCond .ne 16, 3) := by decide +kernel
theorem dL_owners_130 : decode cL_owners 130 = .ok (.aload_n 0, 1) := by decide +kernel
theorem dL_owners_131 : decode cL_owners 131 = .ok (.iload 8, 2) := by decide +kernel
theorem dL_owners_133 : decode cL_owners 133 = .ok (.iload 10, 2) := by decide +kernel
theorem dL_owners_135 : decode cL_owners 135 = .ok (.invokestatic 98, 3) := by decide +kernel
theorem dL_owners_138 : decode cL_owners 138 = .ok (.iload 5, 2) := by decide +kernel
theorem dL_owners_140 : decode cL_owners 140 = .ok (.if_icmp .ne 7, 3) := by decide +kernel
