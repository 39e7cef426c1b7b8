set_option maxRecDepth 20000 in
theorem dL_law_0 : decode cL_law 0 = .ok (.new 9, 3) := by decide +kernel
set_option maxRecDepth 20000 in
theorem dL_law_3 : decode cL_law 3 = .ok (.dup, 1) := by decide +kernel
set_option maxRecDepth 20000 in
theorem dL_law_4 : decode cL_law 4 = .ok (.invokespecial 63, 3) := by decide +kernel
set_option maxRecDepth 20000 in
theorem dL_law_7 : decode cL_law 7 = .ok (.astore_n 1, 1) := by decide +kernel
set_option maxRecDepth 20000 in
theorem dL_law_8 : decode cL_law 8 = .ok (.iconst 0, 1) := by decide +kernel
set_option maxRecDepth 20000 in
theorem dL_law_9 : decode cL_law 9 = .ok (.istore_n 2, 1) := by decide +kernel
set_option maxRecDepth 20000 in
theorem dL_law_10 : decode cL_law 10 = .ok (.iconst 0, 1) := by decide +kernel
set_option maxRecDepth 20000 in
theorem dL_law_11 : decode cL_law 11 = .ok (.istore_n 3, 1) := by decide +kernel
set_option maxRecDepth 20000 in
theorem dL_law_12 : decode cL_law 12 = .ok (.iload_n 3, 1) := by decide +kernel
set_option maxRecDepth 20000 in
theorem dL_law_13 : decode cL_law 13 = .ok (.bipush 30, 2) := by decide +kernel
set_option maxRecDepth 20000 in
theorem dL_law_15 : decode cL_law 15 = .ok (.if_icmp .ge 274, 3) := by decide +kernel
set_option maxRecDepth 20000 in
theorem dL_law_18 : decode cL_law 18 = .ok (.aload_n 0, 1) := by decide +kernel
set_option maxRecDepth 20000 in
theorem dL_law_19 : decode cL_law 19 = .ok (.iconst 2, 1) := by decide +kernel
set_option maxRecDepth 20000 in
theorem dL_law_20 : decode cL_law 20 = .ok (.iload_n 3, 1) := by decide +kernel
set_option maxRecDepth 20000 in
theorem dL_law_21 : decode cL_law 21 = .ok (.imul, 1) := by decide +kernel
set_option maxRecDepth 20000 in
theorem dL_law_22 : decode cL_law 22 = .ok (.invokestatic 64, 3) := by decide +kernel
set_option maxRecDepth 20000 in
theorem dL_law_25 : decode cL_law 25 = .ok (.ldc 68, 2) := by decide +kernel
set_option maxRecDepth 20000 in
theorem dL_law_27 : decode cL_law 27 = .ok (.iand, 1) := by decide +kernel
set_option maxRecDepth 20000 in
theorem dL_law_28 : decode cL_law 28 = .ok (.istore 4, 2) := by decide +kernel
set_option maxRecDepth 20000 in
theorem dL_law_30 : decode cL_law 30 = .ok (.aload_n 0, 1) := by decide +kernel
set_option maxRecDepth 20000 in
theorem dL_law_31 : decode cL_law 31 = .ok (.iconst 2, 1) := by decide +kernel
set_option maxRecDepth 20000 in
theorem dL_law_32 : decode cL_law 32 = .ok (.iload_n 3, 1) := by decide +kernel
set_option maxRecDepth 20000 in
theorem dL_law_33 : decode cL_law 33 = .ok (.imul, 1) := by decide +kernel
set_option maxRecDepth 20000 in
theorem dL_law_34 : decode cL_law 34 = .ok (.iconst 1, 1) := by decide +kernel
set_option maxRecDepth 20000 in
theorem dL_law_35 : decode cL_law 35 = .ok (.iadd, 1) := by decide +kernel
set_option maxRecDepth 20000 in
theorem dL_law_36 : decode cL_law 36 = .ok (.invokestatic 64, 3) := by decide +kernel
set_option maxRecDepth 20000 in
theorem dL_law_39 : decode cL_law 39 = .ok (.ldc 68, 2) := by decide +kernel
set_option maxRecDepth 20000 in
theorem dL_law_41 : decode cL_law 41 = .ok (.iand, 1) := by decide +kernel
set_option maxRecDepth 20000 in
theorem dL_law_42 : decode cL_law 42 = .ok (.istore 5, 2) := by decide +kernel
set_option maxRecDepth 20000 in
theorem dL_law_44 : decode cL_law 44 = .ok (.aload_n 1, 1) := by decide +kernel
set_option maxRecDepth 20000 in
theorem dL_law_45 : decode cL_law 45 = .ok (.invokevirtual 8, 3) := by decide +kernel
set_option maxRecDepth 20000 in
theorem dL_law_48 : decode cL_law 48 = .ok (.bipush 12, 2) := by decide +kernel
set_option maxRecDepth 20000 in
theorem dL_law_50 : decode cL_law 50 = .ok (.if_icmp .ge 94, 3) := by decide +kernel
set_option maxRecDepth 20000 in
theorem dL_law_53 : decode cL_law 53 = .ok (.iload_n 3, 1) := by decide +kernel
set_option maxRecDepth 20000 in
theorem dL_law_54 : decode cL_law 54 = .ok (.iconst 4, 1) := by decide +kernel
set_option maxRecDepth 20000 in
theorem dL_law_55 : decode cL_law 55 = .ok (.if_icmp .lt 12, 3) := by decide +kernel
set_option maxRecDepth 20000 in
theorem dL_law_58 : decode cL_law 58 = .ok (.iload 4, 2) := by decide +kernel
set_option maxRecDepth 20000 in
theorem dL_law_60 : decode cL_law 60 = .ok (.iconst 4, 1) := by decide +kernel
set_option maxRecDepth 20000 in
theorem dL_law_61 : decode cL_law 61 = .ok (.invokestatic 69, 3) := by decide +kernel
set_option maxRecDepth 20000 in
theorem dL_law_64 : decode cL_law 64 = .ok (.ifCond .ne 80, 3) := by decide +kernel
set_option maxRecDepth 20000 in
theorem dL_law_67 : decode cL_law 67 = .ok (.iload 4, 2) := by decide +kernel
set_option maxRecDepth 20000 in
theorem dL_law_69 : decode cL_law 69 = .ok (.iconst 3, 1) := by decide +kernel
set_option maxRecDepth 20000 in
theorem dL_law_70 : decode cL_law 70 = .ok (.ishr, 1) := by decide +kernel
set_option maxRecDepth 20000 in
theorem dL_law_71 : decode cL_law 71 = .ok (.iconst 5, 1) := by decide +kernel
set_option maxRecDepth 20000 in
theorem dL_law_72 : decode cL_law 72 = .ok (.invokestatic 69, 3) := by decide +kernel
set_option maxRecDepth 20000 in
theorem dL_law_75 : decode cL_law 75 = .ok (.ifCond .ne 7, 3) := by decide +kernel
set_option maxRecDepth 20000 in
theorem dL_law_78 : decode cL_law 78 = .ok (.iconst 1, 1) := by decide +kernel
set_option maxRecDepth 20000 in
theorem dL_law_79 : decode cL_law 79 = .ok (.goto 4, 3) := by decide +kernel
set_option maxRecDepth 20000 in
theorem dL_law_82 : decode cL_law 82 = .ok (.iconst 0, 1) := by decide +kernel
set_option maxRecDepth 20000 in
theorem dL_law_83 : decode cL_law 83 = .ok (.istore 6, 2) := by decide +kernel
set_option maxRecDepth 20000 in
theorem dL_law_85 : decode cL_law 85 = .ok (.aload_n 1, 1) := by decide +kernel
set_option maxRecDepth 20000 in
theorem dL_law_86 : decode cL_law 86 = .ok (.iconst 1, 1) := by decide +kernel
set_option maxRecDepth 20000 in
theorem dL_law_87 : decode cL_law 87 = .ok (.iload 4, 2) := by decide +kernel
set_option maxRecDepth 20000 in
theorem dL_law_89 : decode cL_law 89 = .ok (.iconst 5, 1) := by decide +kernel
set_option maxRecDepth 20000 in
theorem dL_law_90 : decode cL_law 90 = .ok (.ishr, 1) := by decide +kernel
set_option maxRecDepth 20000 in
theorem dL_law_91 : decode cL_law 91 = .ok (.iload 5, 2) := by decide +kernel
set_option maxRecDepth 20000 in
theorem dL_law_93 : decode cL_law 93 = .ok (.iconst 2, 1) := by decide +kernel
set_option maxRecDepth 20000 in
theorem dL_law_94 : decode cL_law 94 = .ok (.invokestatic 69, 3) := by decide +kernel
set_option maxRecDepth 20000 in
theorem dL_law_97 : decode cL_law 97 = .ok (.ifCond .ne 9, 3) := by decide +kernel
set_option maxRecDepth 20000 in
theorem dL_law_100 : decode cL_law 100 = .ok (.sipush 999, 3) := by decide +kernel
set_option maxRecDepth 20000 in
theorem dL_law_103 : decode cL_law 103 = .ok (.goto 5, 3) := by decide +kernel
set_option maxRecDepth 20000 in
theorem dL_law_106 : decode cL_law 106 = .ok (.bipush 40, 2) := by decide +kernel
set_option maxRecDepth 20000 in
theorem dL_law_108 : decode cL_law 108 = .ok (.invokestatic 69, 3) := by decide +kernel
set_option maxRecDepth 20000 in
theorem dL_law_111 : decode cL_law 111 = .ok (.iadd, 1) := by decide +kernel
set_option maxRecDepth 20000 in
theorem dL_law_112 : decode cL_law 112 = .ok (.iload 6, 2) := by decide +kernel
set_option maxRecDepth 20000 in
theorem dL_law_114 : decode cL_law 114 = .ok (.iload 4, 2) := by decide +kernel
set_option maxRecDepth 20000 in
theorem dL_law_116 : decode cL_law 116 = .ok (.bipush 7, 2) := by decide +kernel
set_option maxRecDepth 20000 in
theorem dL_law_118 : decode cL_law 118 = .ok (.ishr, 1) := by decide +kernel
set_option maxRecDepth 20000 in
theorem dL_law_119 : decode cL_law 119 = .ok (.iconst 4, 1) := by decide +kernel
set_option maxRecDepth 20000 in
theorem dL_law_120 : decode cL_law 120 = .ok (.invokestatic 69, 3) := by decide +kernel
set_option maxRecDepth 20000 in
theorem dL_law_123 : decode cL_law 123 = .ok (.invokevirtual 73, 3) := by decide +kernel
set_option maxRecDepth 20000 in
theorem dL_law_126 : decode cL_law 126 = .ok (.istore 7, 2) := by decide +kernel
set_option maxRecDepth 20000 in
theorem dL_law_128 : decode cL_law 128 = .ok (.iload_n 2, 1) := by decide +kernel
set_option maxRecDepth 20000 in
theorem dL_law_129 : decode cL_law 129 = .ok (.iload 6, 2) := by decide +kernel
set_option maxRecDepth 20000 in
theorem dL_law_131 : decode cL_law 131 = .ok (.ifCond .eq 10, 3) := by decide +kernel
set_option maxRecDepth 20000 in
theorem dL_law_134 : decode cL_law 134 = .ok (.iconst 1, 1) := by decide +kernel
set_option maxRecDepth 20000 in
theorem dL_law_135 : decode cL_law 135 = .ok (.iload 7, 2) := by decide +kernel
set_option maxRecDepth 20000 in
theorem dL_law_137 : decode cL_law 137 = .ok (.ishl, 1) := by decide +kernel
set_option maxRecDepth 20000 in
theorem dL_law_138 : decode cL_law 138 = .ok (.goto 4, 3) := by decide +kernel
set_option maxRecDepth 20000 in
theorem dL_law_141 : decode cL_law 141 = .ok (.iconst 0, 1) := by decide +kernel
set_option maxRecDepth 20000 in
theorem dL_law_142 : decode cL_law 142 = .ok (.ior, 1) := by decide +kernel
set_option maxRecDepth 20000 in
theorem dL_law_143 : decode cL_law 143 = .ok (.istore_n 2, 1) := by decide +kernel
set_option maxRecDepth 20000 in
theorem dL_law_144 : decode cL_law 144 = .ok (.aload_n 1, 1) := by decide +kernel
set_option maxRecDepth 20000 in
theorem dL_law_145 : decode cL_law 145 = .ok (.iload 5, 2) := by decide +kernel
set_option maxRecDepth 20000 in
theorem dL_law_147 : decode cL_law 147 = .ok (.iconst 2, 1) := by decide +kernel
set_option maxRecDepth 20000 in
theorem dL_law_148 : decode cL_law 148 = .ok (.ishr, 1) := by decide +kernel
set_option maxRecDepth 20000 in
theorem dL_law_149 : decode cL_law 149 = .ok (.bipush 60, 2) := by decide +kernel
set_option maxRecDepth 20000 in
theorem dL_law_151 : decode cL_law 151 = .ok (.invokestatic 69, 3) := by decide +kernel
set_option maxRecDepth 20000 in
theorem dL_law_154 : decode cL_law 154 = .ok (.invokevirtual 77, 3) := by decide +kernel
set_option maxRecDepth 20000 in
theorem dL_law_157 : decode cL_law 157 = .ok (.ifCond .lt 28, 3) := by decide +kernel
set_option maxRecDepth 20000 in
theorem dL_law_160 : decode cL_law 160 = .ok (.aload_n 1, 1) := by decide +kernel
set_option maxRecDepth 20000 in
theorem dL_law_161 : decode cL_law 161 = .ok (.iconst 1, 1) := by decide +kernel
set_option maxRecDepth 20000 in
theorem dL_law_162 : decode cL_law 162 = .ok (.iload 5, 2) := by decide +kernel
set_option maxRecDepth 20000 in
theorem dL_law_164 : decode cL_law 164 = .ok (.iconst 4, 1) := by decide +kernel
set_option maxRecDepth 20000 in
theorem dL_law_165 : decode cL_law 165 = .ok (.ishr, 1) := by decide +kernel
set_option maxRecDepth 20000 in
theorem dL_law_166 : decode cL_law 166 = .ok (.aload_n 1, 1) := by decide +kernel
set_option maxRecDepth 20000 in
theorem dL_law_167 : decode cL_law 167 = .ok (.invokevirtual 28, 3) := by decide +kernel
set_option maxRecDepth 20000 in
theorem dL_law_170 : decode cL_law 170 = .ok (.iconst 2, 1) := by decide +kernel
set_option maxRecDepth 20000 in
theorem dL_law_171 : decode cL_law 171 = .ok (.idiv, 1) := by decide +kernel
set_option maxRecDepth 20000 in
theorem dL_law_172 : decode cL_law 172 = .ok (.iconst 5, 1) := by decide +kernel
