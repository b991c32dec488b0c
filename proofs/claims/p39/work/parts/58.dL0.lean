/-! ===== the law's instructions ===== -/
theorem dL_law_0 : decode cL_law 0 = .ok (.new 20, 3) := by decide +kernel
theorem dL_law_3 : decode cL_law 3 = .ok (.dup, 1) := by decide +kernel
theorem dL_law_4 : decode cL_law 4 = .ok (.invokespecial 35, 3) := by decide +kernel
theorem dL_law_7 : decode cL_law 7 = .ok (.astore_n 1, 1) := by decide +kernel
theorem dL_law_8 : decode cL_law 8 = .ok (.bipush 53, 2) := by decide +kernel
theorem dL_law_10 : decode cL_law 10 = .ok (.newarray .int, 2) := by decide +kernel
theorem dL_law_12 : decode cL_law 12 = .ok (.astore_n 2, 1) := by decide +kernel
theorem dL_law_13 : decode cL_law 13 = .ok (.aload_n 1, 1) := by decide +kernel
theorem dL_law_14 : decode cL_law 14 = .ok (.aload_n 0, 1) := by decide +kernel
theorem dL_law_15 : decode cL_law 15 = .ok (.iconst 0, 1) := by decide +kernel
theorem dL_law_16 : decode cL_law 16 = .ok (.iconst 4, 1) := by decide +kernel
theorem dL_law_17 : decode cL_law 17 = .ok (.aload_n 2, 1) := by decide +kernel
theorem dL_law_18 : decode cL_law 18 = .ok (.invokestatic 36, 3) := by decide +kernel
theorem dL_law_21 : decode cL_law 21 = .ok (.istore_n 3, 1) := by decide +kernel
theorem dL_law_22 : decode cL_law 22 = .ok (.iload_n 3, 1) := by decide +kernel
theorem dL_law_23 : decode cL_law 23 = .ok (.iconst 5, 1) := by decide +kernel
theorem dL_law_24 : decode cL_law 24 = .ok (.if_icmp .lt 17, 3) := by decide +kernel
theorem dL_law_27 : decode cL_law 27 = .ok (.aload_n 1, 1) := by decide +kernel
theorem dL_law_28 : decode cL_law 28 = .ok (.iconst 0, 1) := by decide +kernel
theorem dL_law_29 : decode cL_law 29 = .ok (.iconst 0, 1) := by decide +kernel
theorem dL_law_30 : decode cL_law 30 = .ok (.iconst 0, 1) := by decide +kernel
theorem dL_law_31 : decode cL_law 31 = .ok (.iload_n 3, 1) := by decide +kernel
theorem dL_law_32 : decode cL_law 32 = .ok (.invokevirtual 39, 3) := by decide +kernel
theorem dL_law_35 : decode cL_law 35 = .ok (.aload_n 2, 1) := by decide +kernel
theorem dL_law_36 : decode cL_law 36 = .ok (.iconst 1, 1) := by decide +kernel
theorem dL_law_37 : decode cL_law 37 = .ok (.iaload, 1) := by decide +kernel
theorem dL_law_38 : decode cL_law 38 = .ok (.if_icmp .eq 5, 3) := by decide +kernel
theorem dL_law_41 : decode cL_law 41 = .ok (.iconst 0, 1) := by decide +kernel
theorem dL_law_42 : decode cL_law 42 = .ok (.ireturn, 1) := by decide +kernel
theorem dL_law_43 : decode cL_law 43 = .ok (.aload_n 0, 1) := by decide +kernel
theorem dL_law_44 : decode cL_law 44 = .ok (.iconst 5, 1) := by decide +kernel
theorem dL_law_45 : decode cL_law 45 = .ok (.invokestatic 9, 3) := by decide +kernel
theorem dL_law_48 : decode cL_law 48 = .ok (.iconst 4, 1) := by decide +kernel
theorem dL_law_49 : decode cL_law 49 = .ok (.invokestatic 15, 3) := by decide +kernel
theorem dL_law_52 : decode cL_law 52 = .ok (.istore 4, 2) := by decide +kernel
theorem dL_law_54 : decode cL_law 54 = .ok (.iconst 0, 1) := by decide +kernel
theorem dL_law_55 : decode cL_law 55 = .ok (.istore 5, 2) := by decide +kernel
theorem dL_law_57 : decode cL_law 57 = .ok (.iload 5, 2) := by decide +kernel
theorem dL_law_59 : decode cL_law 59 = .ok (.iload 4, 2) := by decide +kernel
theorem dL_law_61 : decode cL_law 61 = .ok (.if_icmp .ge 28, 3) := by decide +kernel
theorem dL_law_64 : decode cL_law 64 = .ok (.aload_n 1, 1) := by decide +kernel
theorem dL_law_65 : decode cL_law 65 = .ok (.aload_n 0, 1) := by decide +kernel
theorem dL_law_66 : decode cL_law 66 = .ok (.bipush 6, 2) := by decide +kernel
theorem dL_law_68 : decode cL_law 68 = .ok (.iload 5, 2) := by decide +kernel
theorem dL_law_70 : decode cL_law 70 = .ok (.iadd, 1) := by decide +kernel
theorem dL_law_71 : decode cL_law 71 = .ok (.invokestatic 9, 3) := by decide +kernel
theorem dL_law_74 : decode cL_law 74 = .ok (.aload_n 2, 1) := by decide +kernel
theorem dL_law_75 : decode cL_law 75 = .ok (.invokestatic 43, 3) := by decide +kernel
theorem dL_law_78 : decode cL_law 78 = .ok (.ifCond .ne 5, 3) := by decide +kernel
theorem dL_law_81 : decode cL_law 81 = .ok (.iconst 0, 1) := by decide +kernel
theorem dL_law_82 : decode cL_law 82 = .ok (.ireturn, 1) := by decide +kernel
theorem dL_law_83 : decode cL_law 83 = .ok (.iinc 5 1, 3) := by decide +kernel
theorem dL_law_86 : decode cL_law 86 = .ok (.goto (-29), 3) := by decide +kernel
theorem dL_law_89 : decode cL_law 89 = .ok (.iconst 0, 1) := by decide +kernel
theorem dL_law_90 : decode cL_law 90 = .ok (.istore 5, 2) := by decide +kernel
theorem dL_law_92 : decode cL_law 92 = .ok (.iload 5, 2) := by decide +kernel
theorem dL_law_94 : decode cL_law 94 = .ok (.iload 4, 2) := by decide +kernel
theorem dL_law_96 : decode cL_law 96 = .ok (.if_icmp .ge 85, 3) := by decide +kernel
theorem dL_law_99 : decode cL_law 99 = .ok (.aload_n 1, 1) := by decide +kernel
theorem dL_law_100 : decode cL_law 100 = .ok (.iload 5, 2) := by decide +kernel
theorem dL_law_102 : decode cL_law 102 = .ok (.iconst 0, 1) := by decide +kernel
theorem dL_law_103 : decode cL_law 103 = .ok (.invokevirtual 46, 3) := by decide +kernel
theorem dL_law_106 : decode cL_law 106 = .ok (.aload_n 2, 1) := by decide +kernel
theorem dL_law_107 : decode cL_law 107 = .ok (.bipush 38, 2) := by decide +kernel
theorem dL_law_109 : decode cL_law 109 = .ok (.iload 5, 2) := by decide +kernel
theorem dL_law_111 : decode cL_law 111 = .ok (.iadd, 1) := by decide +kernel
theorem dL_law_112 : decode cL_law 112 = .ok (.iaload, 1) := by decide +kernel
theorem dL_law_113 : decode cL_law 113 = .ok (.if_icmp .ne 60, 3) := by decide +kernel
theorem dL_law_116 : decode cL_law 116 = .ok (.aload_n 1, 1) := by decide +kernel
theorem dL_law_117 : decode cL_law 117 = .ok (.iload 5, 2) := by decide +kernel
theorem dL_law_119 : decode cL_law 119 = .ok (.iconst 1, 1) := by decide +kernel
theorem dL_law_120 : decode cL_law 120 = .ok (.invokevirtual 46, 3) := by decide +kernel
theorem dL_law_123 : decode cL_law 123 = .ok (.aload_n 2, 1) := by decide +kernel
theorem dL_law_124 : decode cL_law 124 = .ok (.bipush 42, 2) := by decide +kernel
theorem dL_law_126 : decode cL_law 126 = .ok (.iload 5, 2) := by decide +kernel
theorem dL_law_128 : decode cL_law 128 = .ok (.iadd, 1) := by decide +kernel
theorem dL_law_129 : decode cL_law 129 = .ok (.iaload, 1) := by decide +kernel
theorem dL_law_130 : decode cL_law 130 = .ok (.if_icmp .ne 43, 3) := by decide +kernel
theorem dL_law_133 : decode cL_law 133 = .ok (.aload_n 1, 1) := by decide +kernel
theorem dL_law_134 : decode cL_law 134 = .ok (.iload 5, 2) := by decide +kernel
theorem dL_law_136 : decode cL_law 136 = .ok (.iconst 2, 1) := by decide +kernel
theorem dL_law_137 : decode cL_law 137 = .ok (.invokevirtual 46, 3) := by decide +kernel
theorem dL_law_140 : decode cL_law 140 = .ok (.aload_n 2, 1) := by decide +kernel
theorem dL_law_141 : decode cL_law 141 = .ok (.bipush 38, 2) := by decide +kernel
theorem dL_law_143 : decode cL_law 143 = .ok (.iload 5, 2) := by decide +kernel
theorem dL_law_145 : decode cL_law 145 = .ok (.iadd, 1) := by decide +kernel
theorem dL_law_146 : decode cL_law 146 = .ok (.iaload, 1) := by decide +kernel
theorem dL_law_147 : decode cL_law 147 = .ok (.iconst 2, 1) := by decide +kernel
theorem dL_law_148 : decode cL_law 148 = .ok (.if_icmp .ne 15, 3) := by decide +kernel
theorem dL_law_151 : decode cL_law 151 = .ok (.aload_n 2, 1) := by decide +kernel
theorem dL_law_152 : decode cL_law 152 = .ok (.bipush 42, 2) := by decide +kernel
theorem dL_law_154 : decode cL_law 154 = .ok (.iload 5, 2) := by decide +kernel
theorem dL_law_156 : decode cL_law 156 = .ok (.iadd, 1) := by decide +kernel
theorem dL_law_157 : decode cL_law 157 = .ok (.iaload, 1) := by decide +kernel
theorem dL_law_158 : decode cL_law 158 = .ok (.iconst 2, 1) := by decide +kernel
theorem dL_law_159 : decode cL_law 159 = .ok (.idiv, 1) := by decide +kernel
theorem dL_law_160 : decode cL_law 160 = .ok (.goto 10, 3) := by decide +kernel
theorem dL_law_163 : decode cL_law 163 = .ok (.aload_n 2, 1) := by decide +kernel
theorem dL_law_164 : decode cL_law 164 = .ok (.bipush 42, 2) := by decide +kernel
theorem dL_law_166 : decode cL_law 166 = .ok (.iload 5, 2) := by decide +kernel
theorem dL_law_168 : decode cL_law 168 = .ok (.iadd, 1) := by decide +kernel
theorem dL_law_169 : decode cL_law 169 = .ok (.iaload, 1) := by decide +kernel
theorem dL_law_170 : decode cL_law 170 = .ok (.if_icmp .eq 5, 3) := by decide +kernel
theorem dL_law_173 : decode cL_law 173 = .ok (.iconst 0, 1) := by decide +kernel
theorem dL_law_174 : decode cL_law 174 = .ok (.ireturn, 1) := by decide +kernel
theorem dL_law_175 : decode cL_law 175 = .ok (.iinc 5 1, 3) := by decide +kernel
theorem dL_law_178 : decode cL_law 178 = .ok (.goto (-86), 3) := by decide +kernel
theorem dL_law_181 : decode cL_law 181 = .ok (.iconst 1, 1) := by decide +kernel
theorem dL_law_182 : decode cL_law 182 = .ok (.istore 5, 2) := by decide +kernel
theorem dL_law_184 : decode cL_law 184 = .ok (.iconst 0, 1) := by decide +kernel
theorem dL_law_185 : decode cL_law 185 = .ok (.istore 6, 2) := by decide +kernel
theorem dL_law_187 : decode cL_law 187 = .ok (.iload 6, 2) := by decide +kernel
theorem dL_law_189 : decode cL_law 189 = .ok (.iload 4, 2) := by decide +kernel
theorem dL_law_191 : decode cL_law 191 = .ok (.if_icmp .ge 17, 3) := by decide +kernel
theorem dL_law_194 : decode cL_law 194 = .ok (.iload 5, 2) := by decide +kernel
theorem dL_law_196 : decode cL_law 196 = .ok (.aload_n 2, 1) := by decide +kernel
theorem dL_law_197 : decode cL_law 197 = .ok (.iconst 0, 1) := by decide +kernel
theorem dL_law_198 : decode cL_law 198 = .ok (.iaload, 1) := by decide +kernel
theorem dL_law_199 : decode cL_law 199 = .ok (.imul, 1) := by decide +kernel
theorem dL_law_200 : decode cL_law 200 = .ok (.istore 5, 2) := by decide +kernel
theorem dL_law_202 : decode cL_law 202 = .ok (.iinc 6 1, 3) := by decide +kernel
theorem dL_law_205 : decode cL_law 205 = .ok (.goto (-18), 3) := by decide +kernel
theorem dL_law_208 : decode cL_law 208 = .ok (.bipush 24, 2) := by decide +kernel
theorem dL_law_210 : decode cL_law 210 = .ok (.newarray .int, 2) := by decide +kernel
theorem dL_law_212 : decode cL_law 212 = .ok (.astore 6, 2) := by decide +kernel
theorem dL_law_214 : decode cL_law 214 = .ok (.bipush 24, 2) := by decide +kernel
theorem dL_law_216 : decode cL_law 216 = .ok (.newarray .int, 2) := by decide +kernel
theorem dL_law_218 : decode cL_law 218 = .ok (.astore 7, 2) := by decide +kernel
