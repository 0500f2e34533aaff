theorem dX8_hangs_26 : decode cX8_hangs 26 = .ok (.ldc2_w 219, 3) := by decide +kernel
theorem dX8_hangs_29 : decode cX8_hangs 29 = .ok (.invokestatic 60, 3) := by decide +kernel
theorem dX8_hangs_32 : decode cX8_hangs 32 = .ok (.ifCond .eq 13, 3) := by decide +kernel
theorem dX8_hangs_35 : decode cX8_hangs 35 = .ok (.iload_n 3, 1) := by decide +kernel
theorem dX8_hangs_36 : decode cX8_hangs 36 = .ok (.i2l, 1) := by decide +kernel
theorem dX8_hangs_37 : decode cX8_hangs 37 = .ok (.lconst 0, 1) := by decide +kernel
theorem dX8_hangs_38 : decode cX8_hangs 38 = .ok (.lconst 1, 1) := by decide +kernel
theorem dX8_hangs_39 : decode cX8_hangs 39 = .ok (.invokestatic 60, 3) := by decide +kernel
theorem dX8_hangs_42 : decode cX8_hangs 42 = .ok (.ifCond .ne 6, 3) := by decide +kernel
theorem dX8_hangs_45 : decode cX8_hangs 45 = .ok (.ldc 70, 2) := by decide +kernel
theorem dX8_hangs_47 : decode cX8_hangs 47 = .ok (.ireturn, 1) := by decide +kernel
theorem dX8_hangs_48 : decode cX8_hangs 48 = .ok (.iconst 0, 1) := by decide +kernel
theorem dX8_hangs_49 : decode cX8_hangs 49 = .ok (.istore 4, 2) := by decide +kernel
theorem dX8_hangs_51 : decode cX8_hangs 51 = .ok (.iconst 0, 1) := by decide +kernel
theorem dX8_hangs_52 : decode cX8_hangs 52 = .ok (.istore 5, 2) := by decide +kernel
theorem dX8_hangs_54 : decode cX8_hangs 54 = .ok (.iload 5, 2) := by decide +kernel
theorem dX8_hangs_56 : decode cX8_hangs 56 = .ok (.aload_n 0, 1) := by decide +kernel
theorem dX8_hangs_57 : decode cX8_hangs 57 = .ok (.getfield 19, 3) := by decide +kernel
theorem dX8_hangs_60 : decode cX8_hangs 60 = .ok (.iconst 3, 1) := by decide +kernel
theorem dX8_hangs_61 : decode cX8_hangs 61 = .ok (.iaload, 1) := by decide +kernel
theorem dX8_hangs_62 : decode cX8_hangs 62 = .ok (.if_icmp .ge 35, 3) := by decide +kernel
theorem dX8_hangs_65 : decode cX8_hangs 65 = .ok (.iload 4, 2) := by decide +kernel
theorem dX8_hangs_67 : decode cX8_hangs 67 = .ok (.aload_n 0, 1) := by decide +kernel
theorem dX8_hangs_68 : decode cX8_hangs 68 = .ok (.getfield 19, 3) := by decide +kernel
theorem dX8_hangs_71 : decode cX8_hangs 71 = .ok (.iload 5, 2) := by decide +kernel
theorem dX8_hangs_73 : decode cX8_hangs 73 = .ok (.iconst 4, 1) := by decide +kernel
theorem dX8_hangs_74 : decode cX8_hangs 74 = .ok (.invokestatic 155, 3) := by decide +kernel
theorem dX8_hangs_77 : decode cX8_hangs 77 = .ok (.ifCond .le 10, 3) := by decide +kernel
theorem dX8_hangs_80 : decode cX8_hangs 80 = .ok (.iconst 1, 1) := by decide +kernel
theorem dX8_hangs_81 : decode cX8_hangs 81 = .ok (.iload 5, 2) := by decide +kernel
theorem dX8_hangs_83 : decode cX8_hangs 83 = .ok (.ishl, 1) := by decide +kernel
theorem dX8_hangs_84 : decode cX8_hangs 84 = .ok (.goto 4, 3) := by decide +kernel
theorem dX8_hangs_87 : decode cX8_hangs 87 = .ok (.iconst 0, 1) := by decide +kernel
theorem dX8_hangs_88 : decode cX8_hangs 88 = .ok (.ior, 1) := by decide +kernel
theorem dX8_hangs_89 : decode cX8_hangs 89 = .ok (.istore 4, 2) := by decide +kernel
theorem dX8_hangs_91 : decode cX8_hangs 91 = .ok (.iinc 5 1, 3) := by decide +kernel
theorem dX8_hangs_94 : decode cX8_hangs 94 = .ok (.goto (-40), 3) := by decide +kernel
theorem dX8_hangs_97 : decode cX8_hangs 97 = .ok (.ldc 93, 2) := by decide +kernel
theorem dX8_hangs_99 : decode cX8_hangs 99 = .ok (.istore 5, 2) := by decide +kernel
theorem dX8_hangs_101 : decode cX8_hangs 101 = .ok (.iconst 0, 1) := by decide +kernel
theorem dX8_hangs_102 : decode cX8_hangs 102 = .ok (.istore 6, 2) := by decide +kernel
theorem dX8_hangs_104 : decode cX8_hangs 104 = .ok (.iload 6, 2) := by decide +kernel
theorem dX8_hangs_106 : decode cX8_hangs 106 = .ok (.iload 4, 2) := by decide +kernel
theorem dX8_hangs_108 : decode cX8_hangs 108 = .ok (.if_icmp .gt 135, 3) := by decide +kernel
theorem dX8_hangs_111 : decode cX8_hangs 111 = .ok (.iload 6, 2) := by decide +kernel
theorem dX8_hangs_113 : decode cX8_hangs 113 = .ok (.iload 4, 2) := by decide +kernel
theorem dX8_hangs_115 : decode cX8_hangs 115 = .ok (.iconst (-1), 1) := by decide +kernel
theorem dX8_hangs_116 : decode cX8_hangs 116 = .ok (.ixor, 1) := by decide +kernel
theorem dX8_hangs_117 : decode cX8_hangs 117 = .ok (.iand, 1) := by decide +kernel
theorem dX8_hangs_118 : decode cX8_hangs 118 = .ok (.ifCond .ne 119, 3) := by decide +kernel
theorem dX8_hangs_121 : decode cX8_hangs 121 = .ok (.iload 5, 2) := by decide +kernel
theorem dX8_hangs_123 : decode cX8_hangs 123 = .ok (.ldc 93, 2) := by decide +kernel
theorem dX8_hangs_125 : decode cX8_hangs 125 = .ok (.if_icmp .eq 16, 3) := by decide +kernel
theorem dX8_hangs_128 : decode cX8_hangs 128 = .ok (.iload 6, 2) := by decide +kernel
theorem dX8_hangs_130 : decode cX8_hangs 130 = .ok (.invokestatic 221, 3) := by decide +kernel
theorem dX8_hangs_133 : decode cX8_hangs 133 = .ok (.iload 5, 2) := by decide +kernel
theorem dX8_hangs_135 : decode cX8_hangs 135 = .ok (.invokestatic 221, 3) := by decide +kernel
theorem dX8_hangs_138 : decode cX8_hangs 138 = .ok (.if_icmp .ge 99, 3) := by decide +kernel
theorem dX8_hangs_141 : decode cX8_hangs 141 = .ok (.aload_n 0, 1) := by decide +kernel
theorem dX8_hangs_142 : decode cX8_hangs 142 = .ok (.invokevirtual 177, 3) := by decide +kernel
theorem dX8_hangs_145 : decode cX8_hangs 145 = .ok (.iconst 0, 1) := by decide +kernel
theorem dX8_hangs_146 : decode cX8_hangs 146 = .ok (.istore 7, 2) := by decide +kernel
theorem dX8_hangs_148 : decode cX8_hangs 148 = .ok (.iload 7, 2) := by decide +kernel
theorem dX8_hangs_150 : decode cX8_hangs 150 = .ok (.aload_n 0, 1) := by decide +kernel
theorem dX8_hangs_151 : decode cX8_hangs 151 = .ok (.getfield 19, 3) := by decide +kernel
theorem dX8_hangs_154 : decode cX8_hangs 154 = .ok (.iconst 3, 1) := by decide +kernel
theorem dX8_hangs_155 : decode cX8_hangs 155 = .ok (.iaload, 1) := by decide +kernel
theorem dX8_hangs_156 : decode cX8_hangs 156 = .ok (.if_icmp .ge 48, 3) := by decide +kernel
theorem dX8_hangs_159 : decode cX8_hangs 159 = .ok (.aload_n 0, 1) := by decide +kernel
theorem dX8_hangs_160 : decode cX8_hangs 160 = .ok (.getfield 25, 3) := by decide +kernel
theorem dX8_hangs_163 : decode cX8_hangs 163 = .ok (.bipush 6, 2) := by decide +kernel
theorem dX8_hangs_165 : decode cX8_hangs 165 = .ok (.iconst 5, 1) := by decide +kernel
theorem dX8_hangs_166 : decode cX8_hangs 166 = .ok (.iload 7, 2) := by decide +kernel
theorem dX8_hangs_168 : decode cX8_hangs 168 = .ok (.imul, 1) := by decide +kernel
theorem dX8_hangs_169 : decode cX8_hangs 169 = .ok (.iadd, 1) := by decide +kernel
theorem dX8_hangs_170 : decode cX8_hangs 170 = .ok (.iconst 2, 1) := by decide +kernel
theorem dX8_hangs_171 : decode cX8_hangs 171 = .ok (.iadd, 1) := by decide +kernel
theorem dX8_hangs_172 : decode cX8_hangs 172 = .ok (.iload 6, 2) := by decide +kernel
theorem dX8_hangs_174 : decode cX8_hangs 174 = .ok (.iload 7, 2) := by decide +kernel
theorem dX8_hangs_176 : decode cX8_hangs 176 = .ok (.invokestatic 180, 3) := by decide +kernel
theorem dX8_hangs_179 : decode cX8_hangs 179 = .ok (.ifCond .eq 8, 3) := by decide +kernel
theorem dX8_hangs_182 : decode cX8_hangs 182 = .ok (.bipush 9, 2) := by decide +kernel
theorem dX8_hangs_184 : decode cX8_hangs 184 = .ok (.goto 13, 3) := by decide +kernel
theorem dX8_hangs_187 : decode cX8_hangs 187 = .ok (.aload_n 0, 1) := by decide +kernel
theorem dX8_hangs_188 : decode cX8_hangs 188 = .ok (.getfield 19, 3) := by decide +kernel
theorem dX8_hangs_191 : decode cX8_hangs 191 = .ok (.iload 7, 2) := by decide +kernel
theorem dX8_hangs_193 : decode cX8_hangs 193 = .ok (.iconst 2, 1) := by decide +kernel
theorem dX8_hangs_194 : decode cX8_hangs 194 = .ok (.invokestatic 155, 3) := by decide +kernel
theorem dX8_hangs_197 : decode cX8_hangs 197 = .ok (.iastore, 1) := by decide +kernel
theorem dX8_hangs_198 : decode cX8_hangs 198 = .ok (.iinc 7 1, 3) := by decide +kernel
theorem dX8_hangs_201 : decode cX8_hangs 201 = .ok (.goto (-53), 3) := by decide +kernel
theorem dX8_hangs_204 : decode cX8_hangs 204 = .ok (.aload_n 0, 1) := by decide +kernel
theorem dX8_hangs_205 : decode cX8_hangs 205 = .ok (.aload_n 0, 1) := by decide +kernel
theorem dX8_hangs_206 : decode cX8_hangs 206 = .ok (.getfield 25, 3) := by decide +kernel
theorem dX8_hangs_209 : decode cX8_hangs 209 = .ok (.iload_n 2, 1) := by decide +kernel
theorem dX8_hangs_210 : decode cX8_hangs 210 = .ok (.invokevirtual 207, 3) := by decide +kernel
theorem dX8_hangs_213 : decode cX8_hangs 213 = .ok (.istore 7, 2) := by decide +kernel
theorem dX8_hangs_215 : decode cX8_hangs 215 = .ok (.aload_n 0, 1) := by decide +kernel
theorem dX8_hangs_216 : decode cX8_hangs 216 = .ok (.getfield 25, 3) := by decide +kernel
theorem dX8_hangs_219 : decode cX8_hangs 219 = .ok (.invokestatic 210, 3) := by decide +kernel
theorem dX8_hangs_222 : decode cX8_hangs 222 = .ok (.iload_n 1, 1) := by decide +kernel
theorem dX8_hangs_223 : decode cX8_hangs 223 = .ok (.iand, 1) := by decide +kernel
theorem dX8_hangs_224 : decode cX8_hangs 224 = .ok (.iload_n 1, 1) := by decide +kernel
theorem dX8_hangs_225 : decode cX8_hangs 225 = .ok (.if_icmp .ne 8, 3) := by decide +kernel
theorem dX8_hangs_228 : decode cX8_hangs 228 = .ok (.iload 6, 2) := by decide +kernel
theorem dX8_hangs_230 : decode cX8_hangs 230 = .ok (.goto 5, 3) := by decide +kernel
theorem dX8_hangs_233 : decode cX8_hangs 233 = .ok (.iload 5, 2) := by decide +kernel
theorem dX8_hangs_235 : decode cX8_hangs 235 = .ok (.istore 5, 2) := by decide +kernel
theorem dX8_hangs_237 : decode cX8_hangs 237 = .ok (.iinc 6 1, 3) := by decide +kernel
theorem dX8_hangs_240 : decode cX8_hangs 240 = .ok (.goto (-136), 3) := by decide +kernel
theorem dX8_hangs_243 : decode cX8_hangs 243 = .ok (.iload 5, 2) := by decide +kernel
theorem dX8_hangs_245 : decode cX8_hangs 245 = .ok (.ldc 93, 2) := by decide +kernel
theorem dX8_hangs_247 : decode cX8_hangs 247 = .ok (.if_icmp .eq 8, 3) := by decide +kernel
theorem dX8_hangs_250 : decode cX8_hangs 250 = .ok (.iload_n 3, 1) := by decide +kernel
theorem dX8_hangs_251 : decode cX8_hangs 251 = .ok (.iconst 1, 1) := by decide +kernel
theorem dX8_hangs_252 : decode cX8_hangs 252 = .ok (.if_icmp .ne 8, 3) := by decide +kernel
theorem dX8_hangs_255 : decode cX8_hangs 255 = .ok (.iload 5, 2) := by decide +kernel
theorem dX8_hangs_257 : decode cX8_hangs 257 = .ok (.goto 8, 3) := by decide +kernel
theorem dX8_hangs_260 : decode cX8_hangs 260 = .ok (.iload 5, 2) := by decide +kernel
theorem dX8_hangs_262 : decode cX8_hangs 262 = .ok (.invokestatic 221, 3) := by decide +kernel
theorem dX8_hangs_265 : decode cX8_hangs 265 = .ok (.ireturn, 1) := by decide +kernel
theorem dX8_drives_0 : decode cX8_drives 0 = .ok (.aload_n 0, 1) := by decide +kernel
theorem dX8_drives_1 : decode cX8_drives 1 = .ok (.iconst 0, 1) := by decide +kernel
theorem dX8_drives_2 : decode cX8_drives 2 = .ok (.putfield 50, 3) := by decide +kernel
theorem dX8_drives_5 : decode cX8_drives 5 = .ok (.aload_n 0, 1) := by decide +kernel
theorem dX8_drives_6 : decode cX8_drives 6 = .ok (.invokevirtual 184, 3) := by decide +kernel
theorem dX8_drives_9 : decode cX8_drives 9 = .ok (.ifCond .ne 6, 3) := by decide +kernel
theorem dX8_drives_12 : decode cX8_drives 12 = .ok (.ldc 187, 2) := by decide +kernel
theorem dX8_drives_14 : decode cX8_drives 14 = .ok (.ireturn, 1) := by decide +kernel
theorem dX8_drives_15 : decode cX8_drives 15 = .ok (.aload_n 0, 1) := by decide +kernel
theorem dX8_drives_16 : decode cX8_drives 16 = .ok (.iload_n 1, 1) := by decide +kernel
theorem dX8_drives_17 : decode cX8_drives 17 = .ok (.invokevirtual 216, 3) := by decide +kernel
theorem dX8_drives_20 : decode cX8_drives 20 = .ok (.ifCond .eq 25, 3) := by decide +kernel
theorem dX8_drives_23 : decode cX8_drives 23 = .ok (.iload_n 2, 1) := by decide +kernel
theorem dX8_drives_24 : decode cX8_drives 24 = .ok (.i2l, 1) := by decide +kernel
theorem dX8_drives_25 : decode cX8_drives 25 = .ok (.lconst 1, 1) := by decide +kernel
theorem dX8_drives_26 : decode cX8_drives 26 = .ok (.ldc2_w 219, 3) := by decide +kernel
theorem dX8_drives_29 : decode cX8_drives 29 = .ok (.invokestatic 60, 3) := by decide +kernel
theorem dX8_drives_32 : decode cX8_drives 32 = .ok (.ifCond .eq 13, 3) := by decide +kernel
theorem dX8_drives_35 : decode cX8_drives 35 = .ok (.iload_n 3, 1) := by decide +kernel
theorem dX8_drives_36 : decode cX8_drives 36 = .ok (.i2l, 1) := by decide +kernel
theorem dX8_drives_37 : decode cX8_drives 37 = .ok (.lconst 0, 1) := by decide +kernel
theorem dX8_drives_38 : decode cX8_drives 38 = .ok (.lconst 1, 1) := by decide +kernel
theorem dX8_drives_39 : decode cX8_drives 39 = .ok (.invokestatic 60, 3) := by decide +kernel
theorem dX8_drives_42 : decode cX8_drives 42 = .ok (.ifCond .ne 6, 3) := by decide +kernel
theorem dX8_drives_45 : decode cX8_drives 45 = .ok (.ldc 70, 2) := by decide +kernel
theorem dX8_drives_47 : decode cX8_drives 47 = .ok (.ireturn, 1) := by decide +kernel
theorem dX8_drives_48 : decode cX8_drives 48 = .ok (.ldc 93, 2) := by decide +kernel
theorem dX8_drives_50 : decode cX8_drives 50 = .ok (.istore 4, 2) := by decide +kernel
theorem dX8_drives_52 : decode cX8_drives 52 = .ok (.iconst 0, 1) := by decide +kernel
theorem dX8_drives_53 : decode cX8_drives 53 = .ok (.istore 5, 2) := by decide +kernel
theorem dX8_drives_55 : decode cX8_drives 55 = .ok (.iload 5, 2) := by decide +kernel
theorem dX8_drives_57 : decode cX8_drives 57 = .ok (.iconst 1, 1) := by decide +kernel
theorem dX8_drives_58 : decode cX8_drives 58 = .ok (.aload_n 0, 1) := by decide +kernel
theorem dX8_drives_59 : decode cX8_drives 59 = .ok (.getfield 19, 3) := by decide +kernel
theorem dX8_drives_62 : decode cX8_drives 62 = .ok (.iconst 4, 1) := by decide +kernel
theorem dX8_drives_63 : decode cX8_drives 63 = .ok (.iaload, 1) := by decide +kernel
theorem dX8_drives_64 : decode cX8_drives 64 = .ok (.ishl, 1) := by decide +kernel
theorem dX8_drives_65 : decode cX8_drives 65 = .ok (.if_icmp .ge 69, 3) := by decide +kernel
theorem dX8_drives_68 : decode cX8_drives 68 = .ok (.iload 4, 2) := by decide +kernel
theorem dX8_drives_70 : decode cX8_drives 70 = .ok (.ldc 93, 2) := by decide +kernel
theorem dX8_drives_72 : decode cX8_drives 72 = .ok (.if_icmp .eq 16, 3) := by decide +kernel
theorem dX8_drives_75 : decode cX8_drives 75 = .ok (.iload 5, 2) := by decide +kernel
theorem dX8_drives_77 : decode cX8_drives 77 = .ok (.invokestatic 221, 3) := by decide +kernel
theorem dX8_drives_80 : decode cX8_drives 80 = .ok (.iload 4, 2) := by decide +kernel
theorem dX8_drives_82 : decode cX8_drives 82 = .ok (.invokestatic 221, 3) := by decide +kernel
theorem dX8_drives_85 : decode cX8_drives 85 = .ok (.if_icmp .ge 43, 3) := by decide +kernel
theorem dX8_drives_88 : decode cX8_drives 88 = .ok (.aload_n 0, 1) := by decide +kernel
theorem dX8_drives_89 : decode cX8_drives 89 = .ok (.iload 5, 2) := by decide +kernel
theorem dX8_drives_91 : decode cX8_drives 91 = .ok (.iload_n 2, 1) := by decide +kernel
theorem dX8_drives_92 : decode cX8_drives 92 = .ok (.invokevirtual 224, 3) := by decide +kernel
theorem dX8_drives_95 : decode cX8_drives 95 = .ok (.aload_n 0, 1) := by decide +kernel
theorem dX8_drives_96 : decode cX8_drives 96 = .ok (.aload_n 0, 1) := by decide +kernel
theorem dX8_drives_97 : decode cX8_drives 97 = .ok (.getfield 25, 3) := by decide +kernel
theorem dX8_drives_100 : decode cX8_drives 100 = .ok (.iload_n 2, 1) := by decide +kernel
theorem dX8_drives_101 : decode cX8_drives 101 = .ok (.invokevirtual 207, 3) := by decide +kernel
theorem dX8_drives_104 : decode cX8_drives 104 = .ok (.istore 6, 2) := by decide +kernel
theorem dX8_drives_106 : decode cX8_drives 106 = .ok (.aload_n 0, 1) := by decide +kernel
theorem dX8_drives_107 : decode cX8_drives 107 = .ok (.getfield 25, 3) := by decide +kernel
theorem dX8_drives_110 : decode cX8_drives 110 = .ok (.invokestatic 210, 3) := by decide +kernel
theorem dX8_drives_113 : decode cX8_drives 113 = .ok (.iload_n 1, 1) := by decide +kernel
theorem dX8_drives_114 : decode cX8_drives 114 = .ok (.iand, 1) := by decide +kernel
theorem dX8_drives_115 : decode cX8_drives 115 = .ok (.iload_n 1, 1) := by decide +kernel
theorem dX8_drives_116 : decode cX8_drives 116 = .ok (.if_icmp .ne 8, 3) := by decide +kernel
theorem dX8_drives_119 : decode cX8_drives 119 = .ok (.iload 5, 2) := by decide +kernel
theorem dX8_drives_121 : decode cX8_drives 121 = .ok (.goto 5, 3) := by decide +kernel
theorem dX8_drives_124 : decode cX8_drives 124 = .ok (.iload 4, 2) := by decide +kernel
theorem dX8_drives_126 : decode cX8_drives 126 = .ok (.istore 4, 2) := by decide +kernel
theorem dX8_drives_128 : decode cX8_drives 128 = .ok (.iinc 5 1, 3) := by decide +kernel
theorem dX8_drives_131 : decode cX8_drives 131 = .ok (.goto (-76), 3) := by decide +kernel
theorem dX8_drives_134 : decode cX8_drives 134 = .ok (.iload 4, 2) := by decide +kernel
theorem dX8_drives_136 : decode cX8_drives 136 = .ok (.ldc 93, 2) := by decide +kernel
theorem dX8_drives_138 : decode cX8_drives 138 = .ok (.if_icmp .eq 8, 3) := by decide +kernel
theorem dX8_drives_141 : decode cX8_drives 141 = .ok (.iload_n 3, 1) := by decide +kernel
theorem dX8_drives_142 : decode cX8_drives 142 = .ok (.iconst 1, 1) := by decide +kernel
theorem dX8_drives_143 : decode cX8_drives 143 = .ok (.if_icmp .ne 8, 3) := by decide +kernel
theorem dX8_drives_146 : decode cX8_drives 146 = .ok (.iload 4, 2) := by decide +kernel
theorem dX8_drives_148 : decode cX8_drives 148 = .ok (.goto 8, 3) := by decide +kernel
theorem dX8_drives_151 : decode cX8_drives 151 = .ok (.iload 4, 2) := by decide +kernel
theorem dX8_drives_153 : decode cX8_drives 153 = .ok (.invokestatic 221, 3) := by decide +kernel
theorem dX8_drives_156 : decode cX8_drives 156 = .ok (.ireturn, 1) := by decide +kernel
theorem dX8_harm_0 : decode cX8_harm 0 = .ok (.aload_n 0, 1) := by decide +kernel
theorem dX8_harm_1 : decode cX8_harm 1 = .ok (.iconst 0, 1) := by decide +kernel
theorem dX8_harm_2 : decode cX8_harm 2 = .ok (.putfield 50, 3) := by decide +kernel
theorem dX8_harm_5 : decode cX8_harm 5 = .ok (.aload_n 0, 1) := by decide +kernel
theorem dX8_harm_6 : decode cX8_harm 6 = .ok (.invokevirtual 184, 3) := by decide +kernel
theorem dX8_harm_9 : decode cX8_harm 9 = .ok (.ifCond .ne 6, 3) := by decide +kernel
theorem dX8_harm_12 : decode cX8_harm 12 = .ok (.ldc 187, 2) := by decide +kernel
theorem dX8_harm_14 : decode cX8_harm 14 = .ok (.ireturn, 1) := by decide +kernel
theorem dX8_harm_15 : decode cX8_harm 15 = .ok (.iload_n 1, 1) := by decide +kernel
theorem dX8_harm_16 : decode cX8_harm 16 = .ok (.i2l, 1) := by decide +kernel
theorem dX8_harm_17 : decode cX8_harm 17 = .ok (.lconst 1, 1) := by decide +kernel
theorem dX8_harm_18 : decode cX8_harm 18 = .ok (.ldc2_w 201, 3) := by decide +kernel
theorem dX8_harm_21 : decode cX8_harm 21 = .ok (.invokestatic 60, 3) := by decide +kernel
theorem dX8_harm_24 : decode cX8_harm 24 = .ok (.ifCond .eq 13, 3) := by decide +kernel
theorem dX8_harm_27 : decode cX8_harm 27 = .ok (.iload_n 2, 1) := by decide +kernel
theorem dX8_harm_28 : decode cX8_harm 28 = .ok (.i2l, 1) := by decide +kernel
theorem dX8_harm_29 : decode cX8_harm 29 = .ok (.lconst 0, 1) := by decide +kernel
theorem dX8_harm_30 : decode cX8_harm 30 = .ok (.lconst 1, 1) := by decide +kernel
theorem dX8_harm_31 : decode cX8_harm 31 = .ok (.invokestatic 60, 3) := by decide +kernel
theorem dX8_harm_34 : decode cX8_harm 34 = .ok (.ifCond .ne 6, 3) := by decide +kernel
theorem dX8_harm_37 : decode cX8_harm 37 = .ok (.ldc 70, 2) := by decide +kernel
theorem dX8_harm_39 : decode cX8_harm 39 = .ok (.ireturn, 1) := by decide +kernel
theorem dX8_harm_40 : decode cX8_harm 40 = .ok (.ldc 93, 2) := by decide +kernel
theorem dX8_harm_42 : decode cX8_harm 42 = .ok (.istore_n 3, 1) := by decide +kernel
theorem dX8_harm_43 : decode cX8_harm 43 = .ok (.iconst (-1), 1) := by decide +kernel
theorem dX8_harm_44 : decode cX8_harm 44 = .ok (.istore 4, 2) := by decide +kernel
theorem dX8_harm_46 : decode cX8_harm 46 = .ok (.iconst 0, 1) := by decide +kernel
theorem dX8_harm_47 : decode cX8_harm 47 = .ok (.istore 5, 2) := by decide +kernel
theorem dX8_harm_49 : decode cX8_harm 49 = .ok (.iload 5, 2) := by decide +kernel
theorem dX8_harm_51 : decode cX8_harm 51 = .ok (.aload_n 0, 1) := by decide +kernel
theorem dX8_harm_52 : decode cX8_harm 52 = .ok (.getfield 19, 3) := by decide +kernel
theorem dX8_harm_55 : decode cX8_harm 55 = .ok (.iconst 4, 1) := by decide +kernel
theorem dX8_harm_56 : decode cX8_harm 56 = .ok (.iaload, 1) := by decide +kernel
theorem dX8_harm_57 : decode cX8_harm 57 = .ok (.if_icmp .ge 71, 3) := by decide +kernel
theorem dX8_harm_60 : decode cX8_harm 60 = .ok (.aload_n 0, 1) := by decide +kernel
theorem dX8_harm_61 : decode cX8_harm 61 = .ok (.iconst 1, 1) := by decide +kernel
theorem dX8_harm_62 : decode cX8_harm 62 = .ok (.iload 5, 2) := by decide +kernel
theorem dX8_harm_64 : decode cX8_harm 64 = .ok (.ishl, 1) := by decide +kernel
theorem dX8_harm_65 : decode cX8_harm 65 = .ok (.iload_n 1, 1) := by decide +kernel
theorem dX8_harm_66 : decode cX8_harm 66 = .ok (.invokevirtual 224, 3) := by decide +kernel
theorem dX8_harm_69 : decode cX8_harm 69 = .ok (.aload_n 0, 1) := by decide +kernel
theorem dX8_harm_70 : decode cX8_harm 70 = .ok (.aload_n 0, 1) := by decide +kernel
theorem dX8_harm_71 : decode cX8_harm 71 = .ok (.getfield 25, 3) := by decide +kernel
theorem dX8_harm_74 : decode cX8_harm 74 = .ok (.iload_n 1, 1) := by decide +kernel
theorem dX8_harm_75 : decode cX8_harm 75 = .ok (.invokevirtual 207, 3) := by decide +kernel
theorem dX8_harm_78 : decode cX8_harm 78 = .ok (.istore 6, 2) := by decide +kernel
theorem dX8_harm_80 : decode cX8_harm 80 = .ok (.aload_n 0, 1) := by decide +kernel
theorem dX8_harm_81 : decode cX8_harm 81 = .ok (.getfield 25, 3) := by decide +kernel
theorem dX8_harm_84 : decode cX8_harm 84 = .ok (.invokestatic 210, 3) := by decide +kernel
theorem dX8_harm_87 : decode cX8_harm 87 = .ok (.invokestatic 221, 3) := by decide +kernel
theorem dX8_harm_90 : decode cX8_harm 90 = .ok (.istore 7, 2) := by decide +kernel
theorem dX8_harm_92 : decode cX8_harm 92 = .ok (.iload 7, 2) := by decide +kernel
theorem dX8_harm_94 : decode cX8_harm 94 = .ok (.iload 4, 2) := by decide +kernel
theorem dX8_harm_96 : decode cX8_harm 96 = .ok (.if_icmp .le 8, 3) := by decide +kernel
theorem dX8_harm_99 : decode cX8_harm 99 = .ok (.iload 5, 2) := by decide +kernel
theorem dX8_harm_101 : decode cX8_harm 101 = .ok (.goto 4, 3) := by decide +kernel
theorem dX8_harm_104 : decode cX8_harm 104 = .ok (.iload_n 3, 1) := by decide +kernel
theorem dX8_harm_105 : decode cX8_harm 105 = .ok (.istore_n 3, 1) := by decide +kernel
theorem dX8_harm_106 : decode cX8_harm 106 = .ok (.iload 7, 2) := by decide +kernel
theorem dX8_harm_108 : decode cX8_harm 108 = .ok (.iload 4, 2) := by decide +kernel
theorem dX8_harm_110 : decode cX8_harm 110 = .ok (.if_icmp .le 8, 3) := by decide +kernel
theorem dX8_harm_113 : decode cX8_harm 113 = .ok (.iload 7, 2) := by decide +kernel
theorem dX8_harm_115 : decode cX8_harm 115 = .ok (.goto 5, 3) := by decide +kernel
theorem dX8_harm_118 : decode cX8_harm 118 = .ok (.iload 4, 2) := by decide +kernel
theorem dX8_harm_120 : decode cX8_harm 120 = .ok (.istore 4, 2) := by decide +kernel
theorem dX8_harm_122 : decode cX8_harm 122 = .ok (.iinc 5 1, 3) := by decide +kernel
theorem dX8_harm_125 : decode cX8_harm 125 = .ok (.goto (-76), 3) := by decide +kernel
theorem dX8_harm_128 : decode cX8_harm 128 = .ok (.iload_n 2, 1) := by decide +kernel
theorem dX8_harm_129 : decode cX8_harm 129 = .ok (.ifCond .ne 7, 3) := by decide +kernel
theorem dX8_harm_132 : decode cX8_harm 132 = .ok (.iload_n 3, 1) := by decide +kernel
theorem dX8_harm_133 : decode cX8_harm 133 = .ok (.goto 5, 3) := by decide +kernel
theorem dX8_harm_136 : decode cX8_harm 136 = .ok (.iload 4, 2) := by decide +kernel
theorem dX8_harm_138 : decode cX8_harm 138 = .ok (.ireturn, 1) := by decide +kernel
theorem dX8_bait_0 : decode cX8_bait 0 = .ok (.aload_n 0, 1) := by decide +kernel
theorem dX8_bait_1 : decode cX8_bait 1 = .ok (.iconst 0, 1) := by decide +kernel
theorem dX8_bait_2 : decode cX8_bait 2 = .ok (.putfield 50, 3) := by decide +kernel
theorem dX8_bait_5 : decode cX8_bait 5 = .ok (.aload_n 0, 1) := by decide +kernel
theorem dX8_bait_6 : decode cX8_bait 6 = .ok (.iload_n 1, 1) := by decide +kernel
theorem dX8_bait_7 : decode cX8_bait 7 = .ok (.invokevirtual 193, 3) := by decide +kernel
theorem dX8_bait_10 : decode cX8_bait 10 = .ok (.ifCond .eq 25, 3) := by decide +kernel
theorem dX8_bait_13 : decode cX8_bait 13 = .ok (.iload_n 2, 1) := by decide +kernel
theorem dX8_bait_14 : decode cX8_bait 14 = .ok (.i2l, 1) := by decide +kernel
theorem dX8_bait_15 : decode cX8_bait 15 = .ok (.lconst 1, 1) := by decide +kernel
theorem dX8_bait_16 : decode cX8_bait 16 = .ok (.ldc2_w 219, 3) := by decide +kernel
theorem dX8_bait_19 : decode cX8_bait 19 = .ok (.invokestatic 60, 3) := by decide +kernel
theorem dX8_bait_22 : decode cX8_bait 22 = .ok (.ifCond .eq 13, 3) := by decide +kernel
theorem dX8_bait_25 : decode cX8_bait 25 = .ok (.iload_n 3, 1) := by decide +kernel
theorem dX8_bait_26 : decode cX8_bait 26 = .ok (.i2l, 1) := by decide +kernel
theorem dX8_bait_27 : decode cX8_bait 27 = .ok (.lconst 0, 1) := by decide +kernel
theorem dX8_bait_28 : decode cX8_bait 28 = .ok (.lconst 1, 1) := by decide +kernel
theorem dX8_bait_29 : decode cX8_bait 29 = .ok (.invokestatic 60, 3) := by decide +kernel
theorem dX8_bait_32 : decode cX8_bait 32 = .ok (.ifCond .ne 6, 3) := by decide +kernel
theorem dX8_bait_35 : decode cX8_bait 35 = .ok (.ldc 70, 2) := by decide +kernel
theorem dX8_bait_37 : decode cX8_bait 37 = .ok (.ireturn, 1) := by decide +kernel
theorem dX8_bait_38 : decode cX8_bait 38 = .ok (.ldc 93, 2) := by decide +kernel
theorem dX8_bait_40 : decode cX8_bait 40 = .ok (.istore 4, 2) := by decide +kernel
theorem dX8_bait_42 : decode cX8_bait 42 = .ok (.ldc 93, 2) := by decide +kernel
theorem dX8_bait_44 : decode cX8_bait 44 = .ok (.istore 5, 2) := by decide +kernel
theorem dX8_bait_46 : decode cX8_bait 46 = .ok (.iconst 0, 1) := by decide +kernel
theorem dX8_bait_47 : decode cX8_bait 47 = .ok (.istore 6, 2) := by decide +kernel
theorem dX8_bait_49 : decode cX8_bait 49 = .ok (.iload 6, 2) := by decide +kernel
theorem dX8_bait_51 : decode cX8_bait 51 = .ok (.aload_n 0, 1) := by decide +kernel
theorem dX8_bait_52 : decode cX8_bait 52 = .ok (.getfield 19, 3) := by decide +kernel
theorem dX8_bait_55 : decode cX8_bait 55 = .ok (.iconst 3, 1) := by decide +kernel
theorem dX8_bait_56 : decode cX8_bait 56 = .ok (.iaload, 1) := by decide +kernel
theorem dX8_bait_57 : decode cX8_bait 57 = .ok (.if_icmp .ge 102, 3) := by decide +kernel
theorem dX8_bait_60 : decode cX8_bait 60 = .ok (.iload 6, 2) := by decide +kernel
theorem dX8_bait_62 : decode cX8_bait 62 = .ok (.iload_n 1, 1) := by decide +kernel
theorem dX8_bait_63 : decode cX8_bait 63 = .ok (.if_icmp .eq 90, 3) := by decide +kernel
theorem dX8_bait_66 : decode cX8_bait 66 = .ok (.aload_n 0, 1) := by decide +kernel
theorem dX8_bait_67 : decode cX8_bait 67 = .ok (.getfield 19, 3) := by decide +kernel
theorem dX8_bait_70 : decode cX8_bait 70 = .ok (.iload 6, 2) := by decide +kernel
theorem dX8_bait_72 : decode cX8_bait 72 = .ok (.iconst 4, 1) := by decide +kernel
theorem dX8_bait_73 : decode cX8_bait 73 = .ok (.invokestatic 155, 3) := by decide +kernel
theorem dX8_bait_76 : decode cX8_bait 76 = .ok (.ifCond .le 77, 3) := by decide +kernel
theorem dX8_bait_79 : decode cX8_bait 79 = .ok (.aload_n 0, 1) := by decide +kernel
theorem dX8_bait_80 : decode cX8_bait 80 = .ok (.invokevirtual 177, 3) := by decide +kernel
theorem dX8_bait_83 : decode cX8_bait 83 = .ok (.aload_n 0, 1) := by decide +kernel
theorem dX8_bait_84 : decode cX8_bait 84 = .ok (.getfield 25, 3) := by decide +kernel
theorem dX8_bait_87 : decode cX8_bait 87 = .ok (.bipush 6, 2) := by decide +kernel
theorem dX8_bait_89 : decode cX8_bait 89 = .ok (.iconst 5, 1) := by decide +kernel
theorem dX8_bait_90 : decode cX8_bait 90 = .ok (.iload 6, 2) := by decide +kernel
theorem dX8_bait_92 : decode cX8_bait 92 = .ok (.imul, 1) := by decide +kernel
theorem dX8_bait_93 : decode cX8_bait 93 = .ok (.iadd, 1) := by decide +kernel
theorem dX8_bait_94 : decode cX8_bait 94 = .ok (.iconst 3, 1) := by decide +kernel
theorem dX8_bait_95 : decode cX8_bait 95 = .ok (.iadd, 1) := by decide +kernel
theorem dX8_bait_96 : decode cX8_bait 96 = .ok (.bipush 19, 2) := by decide +kernel
theorem dX8_bait_98 : decode cX8_bait 98 = .ok (.iastore, 1) := by decide +kernel
theorem dX8_bait_99 : decode cX8_bait 99 = .ok (.aload_n 0, 1) := by decide +kernel
theorem dX8_bait_100 : decode cX8_bait 100 = .ok (.aload_n 0, 1) := by decide +kernel
theorem dX8_bait_101 : decode cX8_bait 101 = .ok (.getfield 25, 3) := by decide +kernel
theorem dX8_bait_104 : decode cX8_bait 104 = .ok (.iload_n 2, 1) := by decide +kernel
theorem dX8_bait_105 : decode cX8_bait 105 = .ok (.invokevirtual 207, 3) := by decide +kernel
theorem dX8_bait_108 : decode cX8_bait 108 = .ok (.istore 7, 2) := by decide +kernel
theorem dX8_bait_110 : decode cX8_bait 110 = .ok (.aload_n 0, 1) := by decide +kernel
theorem dX8_bait_111 : decode cX8_bait 111 = .ok (.getfield 25, 3) := by decide +kernel
theorem dX8_bait_114 : decode cX8_bait 114 = .ok (.iload_n 1, 1) := by decide +kernel
theorem dX8_bait_115 : decode cX8_bait 115 = .ok (.iconst 4, 1) := by decide +kernel
theorem dX8_bait_116 : decode cX8_bait 116 = .ok (.invokestatic 155, 3) := by decide +kernel
theorem dX8_bait_119 : decode cX8_bait 119 = .ok (.istore 8, 2) := by decide +kernel
theorem dX8_bait_121 : decode cX8_bait 121 = .ok (.iload 8, 2) := by decide +kernel
theorem dX8_bait_123 : decode cX8_bait 123 = .ok (.iload 5, 2) := by decide +kernel
theorem dX8_bait_125 : decode cX8_bait 125 = .ok (.if_icmp .le 8, 3) := by decide +kernel
theorem dX8_bait_128 : decode cX8_bait 128 = .ok (.iload 6, 2) := by decide +kernel
theorem dX8_bait_130 : decode cX8_bait 130 = .ok (.goto 5, 3) := by decide +kernel
theorem dX8_bait_133 : decode cX8_bait 133 = .ok (.iload 4, 2) := by decide +kernel
theorem dX8_bait_135 : decode cX8_bait 135 = .ok (.istore 4, 2) := by decide +kernel
theorem dX8_bait_137 : decode cX8_bait 137 = .ok (.iload 8, 2) := by decide +kernel
theorem dX8_bait_139 : decode cX8_bait 139 = .ok (.iload 5, 2) := by decide +kernel
theorem dX8_bait_141 : decode cX8_bait 141 = .ok (.if_icmp .le 8, 3) := by decide +kernel
theorem dX8_bait_144 : decode cX8_bait 144 = .ok (.iload 8, 2) := by decide +kernel
theorem dX8_bait_146 : decode cX8_bait 146 = .ok (.goto 5, 3) := by decide +kernel
theorem dX8_bait_149 : decode cX8_bait 149 = .ok (.iload 5, 2) := by decide +kernel
theorem dX8_bait_151 : decode cX8_bait 151 = .ok (.istore 5, 2) := by decide +kernel
theorem dX8_bait_153 : decode cX8_bait 153 = .ok (.iinc 6 1, 3) := by decide +kernel
theorem dX8_bait_156 : decode cX8_bait 156 = .ok (.goto (-107), 3) := by decide +kernel
theorem dX8_bait_159 : decode cX8_bait 159 = .ok (.iload_n 3, 1) := by decide +kernel
theorem dX8_bait_160 : decode cX8_bait 160 = .ok (.ifCond .ne 8, 3) := by decide +kernel
theorem dX8_bait_163 : decode cX8_bait 163 = .ok (.iload 4, 2) := by decide +kernel
theorem dX8_bait_165 : decode cX8_bait 165 = .ok (.goto 5, 3) := by decide +kernel
theorem dX8_bait_168 : decode cX8_bait 168 = .ok (.iload 5, 2) := by decide +kernel
theorem dX8_bait_170 : decode cX8_bait 170 = .ok (.ireturn, 1) := by decide +kernel
theorem dX8_safeHeight_0 : decode cX8_safeHeight 0 = .ok (.aload_n 0, 1) := by decide +kernel
theorem dX8_safeHeight_1 : decode cX8_safeHeight 1 = .ok (.iconst 0, 1) := by decide +kernel
theorem dX8_safeHeight_2 : decode cX8_safeHeight 2 = .ok (.putfield 50, 3) := by decide +kernel
theorem dX8_safeHeight_5 : decode cX8_safeHeight 5 = .ok (.aload_n 0, 1) := by decide +kernel
theorem dX8_safeHeight_6 : decode cX8_safeHeight 6 = .ok (.iload_n 1, 1) := by decide +kernel
theorem dX8_safeHeight_7 : decode cX8_safeHeight 7 = .ok (.invokevirtual 193, 3) := by decide +kernel
theorem dX8_safeHeight_10 : decode cX8_safeHeight 10 = .ok (.ifCond .eq 15, 3) := by decide +kernel
theorem dX8_safeHeight_13 : decode cX8_safeHeight 13 = .ok (.iload_n 2, 1) := by decide +kernel
theorem dX8_safeHeight_14 : decode cX8_safeHeight 14 = .ok (.i2l, 1) := by decide +kernel
theorem dX8_safeHeight_15 : decode cX8_safeHeight 15 = .ok (.lconst 1, 1) := by decide +kernel
theorem dX8_safeHeight_16 : decode cX8_safeHeight 16 = .ok (.ldc2_w 201, 3) := by decide +kernel
theorem dX8_safeHeight_19 : decode cX8_safeHeight 19 = .ok (.invokestatic 60, 3) := by decide +kernel
theorem dX8_safeHeight_22 : decode cX8_safeHeight 22 = .ok (.ifCond .ne 6, 3) := by decide +kernel
theorem dX8_safeHeight_25 : decode cX8_safeHeight 25 = .ok (.ldc 70, 2) := by decide +kernel
theorem dX8_safeHeight_27 : decode cX8_safeHeight 27 = .ok (.ireturn, 1) := by decide +kernel
theorem dX8_safeHeight_28 : decode cX8_safeHeight 28 = .ok (.aload_n 0, 1) := by decide +kernel
theorem dX8_safeHeight_29 : decode cX8_safeHeight 29 = .ok (.getfield 19, 3) := by decide +kernel
theorem dX8_safeHeight_32 : decode cX8_safeHeight 32 = .ok (.iload_n 1, 1) := by decide +kernel
theorem dX8_safeHeight_33 : decode cX8_safeHeight 33 = .ok (.iconst 4, 1) := by decide +kernel
theorem dX8_safeHeight_34 : decode cX8_safeHeight 34 = .ok (.invokestatic 155, 3) := by decide +kernel
theorem dX8_safeHeight_37 : decode cX8_safeHeight 37 = .ok (.ifCond .ne 6, 3) := by decide +kernel
theorem dX8_safeHeight_40 : decode cX8_safeHeight 40 = .ok (.ldc 187, 2) := by decide +kernel
theorem dX8_safeHeight_42 : decode cX8_safeHeight 42 = .ok (.ireturn, 1) := by decide +kernel
theorem dX8_safeHeight_43 : decode cX8_safeHeight 43 = .ok (.iconst 0, 1) := by decide +kernel
theorem dX8_safeHeight_44 : decode cX8_safeHeight 44 = .ok (.istore_n 3, 1) := by decide +kernel
theorem dX8_safeHeight_45 : decode cX8_safeHeight 45 = .ok (.iload_n 3, 1) := by decide +kernel
theorem dX8_safeHeight_46 : decode cX8_safeHeight 46 = .ok (.bipush 10, 2) := by decide +kernel
theorem dX8_safeHeight_48 : decode cX8_safeHeight 48 = .ok (.if_icmp .ge 38, 3) := by decide +kernel
theorem dX8_safeHeight_51 : decode cX8_safeHeight 51 = .ok (.aload_n 0, 1) := by decide +kernel
theorem dX8_safeHeight_52 : decode cX8_safeHeight 52 = .ok (.invokevirtual 177, 3) := by decide +kernel
theorem dX8_safeHeight_55 : decode cX8_safeHeight 55 = .ok (.aload_n 0, 1) := by decide +kernel
theorem dX8_safeHeight_56 : decode cX8_safeHeight 56 = .ok (.getfield 25, 3) := by decide +kernel
theorem dX8_safeHeight_59 : decode cX8_safeHeight 59 = .ok (.bipush 6, 2) := by decide +kernel
theorem dX8_safeHeight_61 : decode cX8_safeHeight 61 = .ok (.iconst 5, 1) := by decide +kernel
theorem dX8_safeHeight_62 : decode cX8_safeHeight 62 = .ok (.iload_n 1, 1) := by decide +kernel
theorem dX8_safeHeight_63 : decode cX8_safeHeight 63 = .ok (.imul, 1) := by decide +kernel
theorem dX8_safeHeight_64 : decode cX8_safeHeight 64 = .ok (.iadd, 1) := by decide +kernel
theorem dX8_safeHeight_65 : decode cX8_safeHeight 65 = .ok (.iconst 2, 1) := by decide +kernel
theorem dX8_safeHeight_66 : decode cX8_safeHeight 66 = .ok (.iadd, 1) := by decide +kernel
theorem dX8_safeHeight_67 : decode cX8_safeHeight 67 = .ok (.iload_n 3, 1) := by decide +kernel
theorem dX8_safeHeight_68 : decode cX8_safeHeight 68 = .ok (.iastore, 1) := by decide +kernel
theorem dX8_safeHeight_69 : decode cX8_safeHeight 69 = .ok (.aload_n 0, 1) := by decide +kernel
theorem dX8_safeHeight_70 : decode cX8_safeHeight 70 = .ok (.iload_n 1, 1) := by decide +kernel
theorem dX8_safeHeight_71 : decode cX8_safeHeight 71 = .ok (.iload_n 2, 1) := by decide +kernel
theorem dX8_safeHeight_72 : decode cX8_safeHeight 72 = .ok (.invokevirtual 213, 3) := by decide +kernel
theorem dX8_safeHeight_75 : decode cX8_safeHeight 75 = .ok (.ifCond .ne 5, 3) := by decide +kernel
theorem dX8_safeHeight_78 : decode cX8_safeHeight 78 = .ok (.iload_n 3, 1) := by decide +kernel
theorem dX8_safeHeight_79 : decode cX8_safeHeight 79 = .ok (.ireturn, 1) := by decide +kernel
theorem dX8_safeHeight_80 : decode cX8_safeHeight 80 = .ok (.iinc 3 1, 3) := by decide +kernel
theorem dX8_safeHeight_83 : decode cX8_safeHeight 83 = .ok (.goto (-38), 3) := by decide +kernel
theorem dX8_safeHeight_86 : decode cX8_safeHeight 86 = .ok (.ldc 93, 2) := by decide +kernel
theorem dX8_safeHeight_88 : decode cX8_safeHeight 88 = .ok (.ireturn, 1) := by decide +kernel
theorem dX8_isSo_0 : decode cX8_isSo 0 = .ok (.iconst 1, 1) := by decide +kernel
theorem dX8_isSo_1 : decode cX8_isSo 1 = .ok (.istore 4, 2) := by decide +kernel
theorem dX8_isSo_3 : decode cX8_isSo 3 = .ok (.iconst 0, 1) := by decide +kernel
theorem dX8_isSo_4 : decode cX8_isSo 4 = .ok (.istore 5, 2) := by decide +kernel
theorem dX8_isSo_6 : decode cX8_isSo 6 = .ok (.iload 5, 2) := by decide +kernel
theorem dX8_isSo_8 : decode cX8_isSo 8 = .ok (.iload_n 3, 1) := by decide +kernel
theorem dX8_isSo_9 : decode cX8_isSo 9 = .ok (.if_icmp .ge 52, 3) := by decide +kernel
theorem dX8_isSo_12 : decode cX8_isSo 12 = .ok (.aload_n 0, 1) := by decide +kernel
theorem dX8_isSo_13 : decode cX8_isSo 13 = .ok (.aload_n 0, 1) := by decide +kernel
theorem dX8_isSo_14 : decode cX8_isSo 14 = .ok (.getfield 25, 3) := by decide +kernel
theorem dX8_isSo_17 : decode cX8_isSo 17 = .ok (.invokevirtual 169, 3) := by decide +kernel
theorem dX8_isSo_20 : decode cX8_isSo 20 = .ok (.istore 6, 2) := by decide +kernel
theorem dX8_isSo_22 : decode cX8_isSo 22 = .ok (.iload 4, 2) := by decide +kernel
theorem dX8_isSo_24 : decode cX8_isSo 24 = .ok (.ifCond .eq 28, 3) := by decide +kernel
theorem dX8_isSo_27 : decode cX8_isSo 27 = .ok (.aload_n 0, 1) := by decide +kernel
theorem dX8_isSo_28 : decode cX8_isSo 28 = .ok (.getfield 25, 3) := by decide +kernel
theorem dX8_isSo_31 : decode cX8_isSo 31 = .ok (.iload_n 1, 1) := by decide +kernel
theorem dX8_isSo_32 : decode cX8_isSo 32 = .ok (.iconst 4, 1) := by decide +kernel
theorem dX8_isSo_33 : decode cX8_isSo 33 = .ok (.invokestatic 155, 3) := by decide +kernel
theorem dX8_isSo_36 : decode cX8_isSo 36 = .ok (.aload_n 0, 1) := by decide +kernel
theorem dX8_isSo_37 : decode cX8_isSo 37 = .ok (.getfield 16, 3) := by decide +kernel
theorem dX8_isSo_40 : decode cX8_isSo 40 = .ok (.iload_n 2, 1) := by decide +kernel
theorem dX8_isSo_41 : decode cX8_isSo 41 = .ok (.iload 5, 2) := by decide +kernel
theorem dX8_isSo_43 : decode cX8_isSo 43 = .ok (.iadd, 1) := by decide +kernel
theorem dX8_isSo_44 : decode cX8_isSo 44 = .ok (.iaload, 1) := by decide +kernel
theorem dX8_isSo_45 : decode cX8_isSo 45 = .ok (.if_icmp .ne 7, 3) := by decide +kernel
theorem dX8_isSo_48 : decode cX8_isSo 48 = .ok (.iconst 1, 1) := by decide +kernel
theorem dX8_isSo_49 : decode cX8_isSo 49 = .ok (.goto 4, 3) := by decide +kernel
theorem dX8_isSo_52 : decode cX8_isSo 52 = .ok (.iconst 0, 1) := by decide +kernel
theorem dX8_isSo_53 : decode cX8_isSo 53 = .ok (.istore 4, 2) := by decide +kernel
theorem dX8_isSo_55 : decode cX8_isSo 55 = .ok (.iinc 5 1, 3) := by decide +kernel
theorem dX8_isSo_58 : decode cX8_isSo 58 = .ok (.goto (-52), 3) := by decide +kernel
theorem dX8_isSo_61 : decode cX8_isSo 61 = .ok (.iload 4, 2) := by decide +kernel
theorem dX8_isSo_63 : decode cX8_isSo 63 = .ok (.ireturn, 1) := by decide +kernel
theorem dX8_who_0 : decode cX8_who 0 = .ok (.aload_n 0, 1) := by decide +kernel
theorem dX8_who_1 : decode cX8_who 1 = .ok (.iconst 0, 1) := by decide +kernel
theorem dX8_who_2 : decode cX8_who 2 = .ok (.putfield 50, 3) := by decide +kernel
theorem dX8_who_5 : decode cX8_who 5 = .ok (.aload_n 0, 1) := by decide +kernel
theorem dX8_who_6 : decode cX8_who 6 = .ok (.iload_n 1, 1) := by decide +kernel
theorem dX8_who_7 : decode cX8_who 7 = .ok (.invokevirtual 193, 3) := by decide +kernel
theorem dX8_who_10 : decode cX8_who 10 = .ok (.ifCond .eq 44, 3) := by decide +kernel
theorem dX8_who_13 : decode cX8_who 13 = .ok (.iload_n 2, 1) := by decide +kernel
theorem dX8_who_14 : decode cX8_who 14 = .ok (.i2l, 1) := by decide +kernel
theorem dX8_who_15 : decode cX8_who 15 = .ok (.lconst 0, 1) := by decide +kernel
theorem dX8_who_16 : decode cX8_who 16 = .ok (.ldc2_w 68, 3) := by decide +kernel
theorem dX8_who_19 : decode cX8_who 19 = .ok (.invokestatic 60, 3) := by decide +kernel
theorem dX8_who_22 : decode cX8_who 22 = .ok (.ifCond .eq 32, 3) := by decide +kernel
theorem dX8_who_25 : decode cX8_who 25 = .ok (.aload_n 0, 1) := by decide +kernel
theorem dX8_who_26 : decode cX8_who 26 = .ok (.iload_n 3, 1) := by decide +kernel
theorem dX8_who_27 : decode cX8_who 27 = .ok (.invokevirtual 193, 3) := by decide +kernel
theorem dX8_who_30 : decode cX8_who 30 = .ok (.ifCond .eq 24, 3) := by decide +kernel
theorem dX8_who_33 : decode cX8_who 33 = .ok (.iload 4, 2) := by decide +kernel
theorem dX8_who_35 : decode cX8_who 35 = .ok (.invokestatic 64, 3) := by decide +kernel
theorem dX8_who_38 : decode cX8_who 38 = .ok (.ifCond .eq 16, 3) := by decide +kernel
theorem dX8_who_41 : decode cX8_who 41 = .ok (.iload 6, 2) := by decide +kernel
theorem dX8_who_43 : decode cX8_who 43 = .ok (.i2l, 1) := by decide +kernel
theorem dX8_who_44 : decode cX8_who 44 = .ok (.lconst 1, 1) := by decide +kernel
theorem dX8_who_45 : decode cX8_who 45 = .ok (.ldc2_w 228, 3) := by decide +kernel
theorem dX8_who_48 : decode cX8_who 48 = .ok (.invokestatic 60, 3) := by decide +kernel
theorem dX8_who_51 : decode cX8_who 51 = .ok (.ifCond .ne 6, 3) := by decide +kernel
theorem dX8_who_54 : decode cX8_who 54 = .ok (.ldc 70, 2) := by decide +kernel
theorem dX8_who_56 : decode cX8_who 56 = .ok (.ireturn, 1) := by decide +kernel
theorem dX8_who_57 : decode cX8_who 57 = .ok (.aload_n 0, 1) := by decide +kernel
theorem dX8_who_58 : decode cX8_who 58 = .ok (.getfield 7, 3) := by decide +kernel
theorem dX8_who_61 : decode cX8_who 61 = .ok (.iload 4, 2) := by decide +kernel
theorem dX8_who_63 : decode cX8_who 63 = .ok (.iaload, 1) := by decide +kernel
theorem dX8_who_64 : decode cX8_who 64 = .ok (.ifCond .ge 9, 3) := by decide +kernel
theorem dX8_who_67 : decode cX8_who 67 = .ok (.aload_n 0, 1) := by decide +kernel
theorem dX8_who_68 : decode cX8_who 68 = .ok (.iconst 1, 1) := by decide +kernel
theorem dX8_who_69 : decode cX8_who 69 = .ok (.invokevirtual 71, 3) := by decide +kernel
theorem dX8_who_72 : decode cX8_who 72 = .ok (.ireturn, 1) := by decide +kernel
theorem dX8_who_73 : decode cX8_who 73 = .ok (.iload 5, 2) := by decide +kernel
theorem dX8_who_75 : decode cX8_who 75 = .ok (.ifCond .lt 22, 3) := by decide +kernel
theorem dX8_who_78 : decode cX8_who 78 = .ok (.iload 5, 2) := by decide +kernel
theorem dX8_who_80 : decode cX8_who 80 = .ok (.i2l, 1) := by decide +kernel
theorem dX8_who_81 : decode cX8_who 81 = .ok (.iload 6, 2) := by decide +kernel
theorem dX8_who_83 : decode cX8_who 83 = .ok (.i2l, 1) := by decide +kernel
theorem dX8_who_84 : decode cX8_who 84 = .ok (.ladd, 1) := by decide +kernel
theorem dX8_who_85 : decode cX8_who 85 = .ok (.aload_n 0, 1) := by decide +kernel
theorem dX8_who_86 : decode cX8_who 86 = .ok (.getfield 13, 3) := by decide +kernel
theorem dX8_who_89 : decode cX8_who 89 = .ok (.iload 4, 2) := by decide +kernel
theorem dX8_who_91 : decode cX8_who 91 = .ok (.iaload, 1) := by decide +kernel
theorem dX8_who_92 : decode cX8_who 92 = .ok (.i2l, 1) := by decide +kernel
theorem dX8_who_93 : decode cX8_who 93 = .ok (.lcmp, 1) := by decide +kernel
theorem dX8_who_94 : decode cX8_who 94 = .ok (.ifCond .le 9, 3) := by decide +kernel
theorem dX8_who_97 : decode cX8_who 97 = .ok (.aload_n 0, 1) := by decide +kernel
theorem dX8_who_98 : decode cX8_who 98 = .ok (.iconst 2, 1) := by decide +kernel
theorem dX8_who_99 : decode cX8_who 99 = .ok (.invokevirtual 71, 3) := by decide +kernel
theorem dX8_who_102 : decode cX8_who 102 = .ok (.ireturn, 1) := by decide +kernel
theorem dX8_who_103 : decode cX8_who 103 = .ok (.aload_n 0, 1) := by decide +kernel
theorem dX8_who_104 : decode cX8_who 104 = .ok (.iconst 0, 1) := by decide +kernel
theorem dX8_who_105 : decode cX8_who 105 = .ok (.putfield 54, 3) := by decide +kernel
theorem dX8_who_108 : decode cX8_who 108 = .ok (.iload_n 2, 1) := by decide +kernel
theorem dX8_who_109 : decode cX8_who 109 = .ok (.ifCond .ne 7, 3) := by decide +kernel
theorem dX8_who_112 : decode cX8_who 112 = .ok (.iconst 0, 1) := by decide +kernel
theorem dX8_who_113 : decode cX8_who 113 = .ok (.goto 13, 3) := by decide +kernel
theorem dX8_who_116 : decode cX8_who 116 = .ok (.iload_n 2, 1) := by decide +kernel
theorem dX8_who_117 : decode cX8_who 117 = .ok (.iconst 1, 1) := by decide +kernel
theorem dX8_who_118 : decode cX8_who 118 = .ok (.if_icmp .ne 7, 3) := by decide +kernel
theorem dX8_who_121 : decode cX8_who 121 = .ok (.iconst 2, 1) := by decide +kernel
theorem dX8_who_122 : decode cX8_who 122 = .ok (.goto 4, 3) := by decide +kernel
theorem dX8_who_125 : decode cX8_who 125 = .ok (.iconst 3, 1) := by decide +kernel
theorem dX8_who_126 : decode cX8_who 126 = .ok (.istore 7, 2) := by decide +kernel
theorem dX8_who_128 : decode cX8_who 128 = .ok (.iconst 0, 1) := by decide +kernel
theorem dX8_who_129 : decode cX8_who 129 = .ok (.istore 8, 2) := by decide +kernel
theorem dX8_who_131 : decode cX8_who 131 = .ok (.iload_n 2, 1) := by decide +kernel
theorem dX8_who_132 : decode cX8_who 132 = .ok (.ifCond .ne 7, 3) := by decide +kernel
theorem dX8_who_135 : decode cX8_who 135 = .ok (.iconst 1, 1) := by decide +kernel
theorem dX8_who_136 : decode cX8_who 136 = .ok (.goto 4, 3) := by decide +kernel
theorem dX8_who_139 : decode cX8_who 139 = .ok (.iconst 0, 1) := by decide +kernel
theorem dX8_who_140 : decode cX8_who 140 = .ok (.istore 9, 2) := by decide +kernel
theorem dX8_who_142 : decode cX8_who 142 = .ok (.iload 9, 2) := by decide +kernel
theorem dX8_who_144 : decode cX8_who 144 = .ok (.iload_n 2, 1) := by decide +kernel
theorem dX8_who_145 : decode cX8_who 145 = .ok (.ifCond .ne 7, 3) := by decide +kernel
theorem dX8_who_148 : decode cX8_who 148 = .ok (.iconst 5, 1) := by decide +kernel
theorem dX8_who_149 : decode cX8_who 149 = .ok (.goto 15, 3) := by decide +kernel
theorem dX8_who_152 : decode cX8_who 152 = .ok (.iload_n 2, 1) := by decide +kernel
theorem dX8_who_153 : decode cX8_who 153 = .ok (.iconst 1, 1) := by decide +kernel
theorem dX8_who_154 : decode cX8_who 154 = .ok (.if_icmp .ne 8, 3) := by decide +kernel
theorem dX8_who_157 : decode cX8_who 157 = .ok (.bipush 9, 2) := by decide +kernel
theorem dX8_who_159 : decode cX8_who 159 = .ok (.goto 5, 3) := by decide +kernel
theorem dX8_who_162 : decode cX8_who 162 = .ok (.bipush 19, 2) := by decide +kernel
theorem dX8_who_164 : decode cX8_who 164 = .ok (.if_icmp .gt 60, 3) := by decide +kernel
theorem dX8_who_167 : decode cX8_who 167 = .ok (.aload_n 0, 1) := by decide +kernel
theorem dX8_who_168 : decode cX8_who 168 = .ok (.invokevirtual 177, 3) := by decide +kernel
theorem dX8_who_171 : decode cX8_who 171 = .ok (.aload_n 0, 1) := by decide +kernel
theorem dX8_who_172 : decode cX8_who 172 = .ok (.getfield 25, 3) := by decide +kernel
theorem dX8_who_175 : decode cX8_who 175 = .ok (.bipush 6, 2) := by decide +kernel
theorem dX8_who_177 : decode cX8_who 177 = .ok (.iconst 5, 1) := by decide +kernel
theorem dX8_who_178 : decode cX8_who 178 = .ok (.iload_n 1, 1) := by decide +kernel
theorem dX8_who_179 : decode cX8_who 179 = .ok (.imul, 1) := by decide +kernel
theorem dX8_who_180 : decode cX8_who 180 = .ok (.iadd, 1) := by decide +kernel
theorem dX8_who_181 : decode cX8_who 181 = .ok (.iload 7, 2) := by decide +kernel
theorem dX8_who_183 : decode cX8_who 183 = .ok (.iadd, 1) := by decide +kernel
theorem dX8_who_184 : decode cX8_who 184 = .ok (.iload 9, 2) := by decide +kernel
theorem dX8_who_186 : decode cX8_who 186 = .ok (.iastore, 1) := by decide +kernel
theorem dX8_who_187 : decode cX8_who 187 = .ok (.iload 8, 2) := by decide +kernel
theorem dX8_who_189 : decode cX8_who 189 = .ok (.aload_n 0, 1) := by decide +kernel
theorem dX8_who_190 : decode cX8_who 190 = .ok (.iload_n 3, 1) := by decide +kernel
theorem dX8_who_191 : decode cX8_who 191 = .ok (.bipush 40, 2) := by decide +kernel
theorem dX8_who_193 : decode cX8_who 193 = .ok (.iload 4, 2) := by decide +kernel
theorem dX8_who_195 : decode cX8_who 195 = .ok (.imul, 1) := by decide +kernel
theorem dX8_who_196 : decode cX8_who 196 = .ok (.iload 5, 2) := by decide +kernel
theorem dX8_who_198 : decode cX8_who 198 = .ok (.iadd, 1) := by decide +kernel
theorem dX8_who_199 : decode cX8_who 199 = .ok (.iload 6, 2) := by decide +kernel
theorem dX8_who_201 : decode cX8_who 201 = .ok (.invokevirtual 230, 3) := by decide +kernel
theorem dX8_who_204 : decode cX8_who 204 = .ok (.ifCond .eq 10, 3) := by decide +kernel
theorem dX8_who_207 : decode cX8_who 207 = .ok (.iconst 1, 1) := by decide +kernel
theorem dX8_who_208 : decode cX8_who 208 = .ok (.iload 9, 2) := by decide +kernel
theorem dX8_who_210 : decode cX8_who 210 = .ok (.ishl, 1) := by decide +kernel
theorem dX8_who_211 : decode cX8_who 211 = .ok (.goto 4, 3) := by decide +kernel
theorem dX8_who_214 : decode cX8_who 214 = .ok (.iconst 0, 1) := by decide +kernel
theorem dX8_who_215 : decode cX8_who 215 = .ok (.ior, 1) := by decide +kernel
theorem dX8_who_216 : decode cX8_who 216 = .ok (.istore 8, 2) := by decide +kernel
theorem dX8_who_218 : decode cX8_who 218 = .ok (.iinc 9 1, 3) := by decide +kernel
theorem dX8_who_221 : decode cX8_who 221 = .ok (.goto (-79), 3) := by decide +kernel
theorem dX8_who_224 : decode cX8_who 224 = .ok (.iload 8, 2) := by decide +kernel
theorem dX8_who_226 : decode cX8_who 226 = .ok (.ireturn, 1) := by decide +kernel
theorem dX8_strayed_0 : decode cX8_strayed 0 = .ok (.aload_n 0, 1) := by decide +kernel
theorem dX8_strayed_1 : decode cX8_strayed 1 = .ok (.iconst 0, 1) := by decide +kernel
theorem dX8_strayed_2 : decode cX8_strayed 2 = .ok (.putfield 50, 3) := by decide +kernel
theorem dX8_strayed_5 : decode cX8_strayed 5 = .ok (.aload_n 0, 1) := by decide +kernel
theorem dX8_strayed_6 : decode cX8_strayed 6 = .ok (.iload_n 1, 1) := by decide +kernel
theorem dX8_strayed_7 : decode cX8_strayed 7 = .ok (.invokevirtual 193, 3) := by decide +kernel
theorem dX8_strayed_10 : decode cX8_strayed 10 = .ok (.ifCond .eq 23, 3) := by decide +kernel
theorem dX8_strayed_13 : decode cX8_strayed 13 = .ok (.iload_n 2, 1) := by decide +kernel
theorem dX8_strayed_14 : decode cX8_strayed 14 = .ok (.invokestatic 64, 3) := by decide +kernel
theorem dX8_strayed_17 : decode cX8_strayed 17 = .ok (.ifCond .eq 16, 3) := by decide +kernel
theorem dX8_strayed_20 : decode cX8_strayed 20 = .ok (.iload 4, 2) := by decide +kernel
theorem dX8_strayed_22 : decode cX8_strayed 22 = .ok (.i2l, 1) := by decide +kernel
theorem dX8_strayed_23 : decode cX8_strayed 23 = .ok (.lconst 1, 1) := by decide +kernel
theorem dX8_strayed_24 : decode cX8_strayed 24 = .ok (.ldc2_w 228, 3) := by decide +kernel
theorem dX8_strayed_27 : decode cX8_strayed 27 = .ok (.invokestatic 60, 3) := by decide +kernel
theorem dX8_strayed_30 : decode cX8_strayed 30 = .ok (.ifCond .ne 6, 3) := by decide +kernel
theorem dX8_strayed_33 : decode cX8_strayed 33 = .ok (.ldc 70, 2) := by decide +kernel
theorem dX8_strayed_35 : decode cX8_strayed 35 = .ok (.ireturn, 1) := by decide +kernel
theorem dX8_strayed_36 : decode cX8_strayed 36 = .ok (.aload_n 0, 1) := by decide +kernel
theorem dX8_strayed_37 : decode cX8_strayed 37 = .ok (.getfield 7, 3) := by decide +kernel
theorem dX8_strayed_40 : decode cX8_strayed 40 = .ok (.iload_n 2, 1) := by decide +kernel
theorem dX8_strayed_41 : decode cX8_strayed 41 = .ok (.iaload, 1) := by decide +kernel
theorem dX8_strayed_42 : decode cX8_strayed 42 = .ok (.ifCond .ge 9, 3) := by decide +kernel
theorem dX8_strayed_45 : decode cX8_strayed 45 = .ok (.aload_n 0, 1) := by decide +kernel
theorem dX8_strayed_46 : decode cX8_strayed 46 = .ok (.iconst 1, 1) := by decide +kernel
theorem dX8_strayed_47 : decode cX8_strayed 47 = .ok (.invokevirtual 71, 3) := by decide +kernel
theorem dX8_strayed_50 : decode cX8_strayed 50 = .ok (.ireturn, 1) := by decide +kernel
theorem dX8_strayed_51 : decode cX8_strayed 51 = .ok (.iload_n 3, 1) := by decide +kernel
theorem dX8_strayed_52 : decode cX8_strayed 52 = .ok (.ifCond .lt 20, 3) := by decide +kernel
theorem dX8_strayed_55 : decode cX8_strayed 55 = .ok (.iload_n 3, 1) := by decide +kernel
theorem dX8_strayed_56 : decode cX8_strayed 56 = .ok (.i2l, 1) := by decide +kernel
theorem dX8_strayed_57 : decode cX8_strayed 57 = .ok (.iload 4, 2) := by decide +kernel
theorem dX8_strayed_59 : decode cX8_strayed 59 = .ok (.i2l, 1) := by decide +kernel
theorem dX8_strayed_60 : decode cX8_strayed 60 = .ok (.ladd, 1) := by decide +kernel
theorem dX8_strayed_61 : decode cX8_strayed 61 = .ok (.aload_n 0, 1) := by decide +kernel
theorem dX8_strayed_62 : decode cX8_strayed 62 = .ok (.getfield 13, 3) := by decide +kernel
theorem dX8_strayed_65 : decode cX8_strayed 65 = .ok (.iload_n 2, 1) := by decide +kernel
theorem dX8_strayed_66 : decode cX8_strayed 66 = .ok (.iaload, 1) := by decide +kernel
theorem dX8_strayed_67 : decode cX8_strayed 67 = .ok (.i2l, 1) := by decide +kernel
theorem dX8_strayed_68 : decode cX8_strayed 68 = .ok (.lcmp, 1) := by decide +kernel
theorem dX8_strayed_69 : decode cX8_strayed 69 = .ok (.ifCond .le 9, 3) := by decide +kernel
theorem dX8_strayed_72 : decode cX8_strayed 72 = .ok (.aload_n 0, 1) := by decide +kernel
theorem dX8_strayed_73 : decode cX8_strayed 73 = .ok (.iconst 2, 1) := by decide +kernel
theorem dX8_strayed_74 : decode cX8_strayed 74 = .ok (.invokevirtual 71, 3) := by decide +kernel
theorem dX8_strayed_77 : decode cX8_strayed 77 = .ok (.ireturn, 1) := by decide +kernel
theorem dX8_strayed_78 : decode cX8_strayed 78 = .ok (.aload_n 0, 1) := by decide +kernel
theorem dX8_strayed_79 : decode cX8_strayed 79 = .ok (.iconst 0, 1) := by decide +kernel
theorem dX8_strayed_80 : decode cX8_strayed 80 = .ok (.putfield 54, 3) := by decide +kernel
theorem dX8_strayed_83 : decode cX8_strayed 83 = .ok (.aload_n 0, 1) := by decide +kernel
theorem dX8_strayed_84 : decode cX8_strayed 84 = .ok (.invokevirtual 177, 3) := by decide +kernel
theorem dX8_strayed_87 : decode cX8_strayed 87 = .ok (.aload_n 0, 1) := by decide +kernel
theorem dX8_strayed_88 : decode cX8_strayed 88 = .ok (.iload_n 1, 1) := by decide +kernel
theorem dX8_strayed_89 : decode cX8_strayed 89 = .ok (.bipush 40, 2) := by decide +kernel
theorem dX8_strayed_91 : decode cX8_strayed 91 = .ok (.iload_n 2, 1) := by decide +kernel
theorem dX8_strayed_92 : decode cX8_strayed 92 = .ok (.imul, 1) := by decide +kernel
theorem dX8_strayed_93 : decode cX8_strayed 93 = .ok (.iload_n 3, 1) := by decide +kernel
theorem dX8_strayed_94 : decode cX8_strayed 94 = .ok (.iadd, 1) := by decide +kernel
theorem dX8_strayed_95 : decode cX8_strayed 95 = .ok (.iload 4, 2) := by decide +kernel
theorem dX8_strayed_97 : decode cX8_strayed 97 = .ok (.invokevirtual 230, 3) := by decide +kernel
theorem dX8_strayed_100 : decode cX8_strayed 100 = .ok (.ifCond .eq 8, 3) := by decide +kernel
theorem dX8_strayed_103 : decode cX8_strayed 103 = .ok (.bipush 16, 2) := by decide +kernel
theorem dX8_strayed_105 : decode cX8_strayed 105 = .ok (.goto 4, 3) := by decide +kernel
theorem dX8_strayed_108 : decode cX8_strayed 108 = .ok (.iconst 0, 1) := by decide +kernel
theorem dX8_strayed_109 : decode cX8_strayed 109 = .ok (.istore 5, 2) := by decide +kernel
theorem dX8_strayed_111 : decode cX8_strayed 111 = .ok (.iconst 0, 1) := by decide +kernel
theorem dX8_strayed_112 : decode cX8_strayed 112 = .ok (.istore 6, 2) := by decide +kernel
theorem dX8_strayed_114 : decode cX8_strayed 114 = .ok (.iload 6, 2) := by decide +kernel
theorem dX8_strayed_116 : decode cX8_strayed 116 = .ok (.aload_n 0, 1) := by decide +kernel
theorem dX8_strayed_117 : decode cX8_strayed 117 = .ok (.getfield 19, 3) := by decide +kernel
theorem dX8_strayed_120 : decode cX8_strayed 120 = .ok (.iconst 4, 1) := by decide +kernel
theorem dX8_strayed_121 : decode cX8_strayed 121 = .ok (.iaload, 1) := by decide +kernel
theorem dX8_strayed_122 : decode cX8_strayed 122 = .ok (.if_icmp .ge 48, 3) := by decide +kernel
theorem dX8_strayed_125 : decode cX8_strayed 125 = .ok (.aload_n 0, 1) := by decide +kernel
theorem dX8_strayed_126 : decode cX8_strayed 126 = .ok (.iconst 1, 1) := by decide +kernel
theorem dX8_strayed_127 : decode cX8_strayed 127 = .ok (.iload 6, 2) := by decide +kernel
theorem dX8_strayed_129 : decode cX8_strayed 129 = .ok (.ishl, 1) := by decide +kernel
theorem dX8_strayed_130 : decode cX8_strayed 130 = .ok (.iload 4, 2) := by decide +kernel
theorem dX8_strayed_132 : decode cX8_strayed 132 = .ok (.invokevirtual 224, 3) := by decide +kernel
theorem dX8_strayed_135 : decode cX8_strayed 135 = .ok (.iload 5, 2) := by decide +kernel
theorem dX8_strayed_137 : decode cX8_strayed 137 = .ok (.aload_n 0, 1) := by decide +kernel
theorem dX8_strayed_138 : decode cX8_strayed 138 = .ok (.iload_n 1, 1) := by decide +kernel
theorem dX8_strayed_139 : decode cX8_strayed 139 = .ok (.bipush 40, 2) := by decide +kernel
theorem dX8_strayed_141 : decode cX8_strayed 141 = .ok (.iload_n 2, 1) := by decide +kernel
theorem dX8_strayed_142 : decode cX8_strayed 142 = .ok (.imul, 1) := by decide +kernel
theorem dX8_strayed_143 : decode cX8_strayed 143 = .ok (.iload_n 3, 1) := by decide +kernel
theorem dX8_strayed_144 : decode cX8_strayed 144 = .ok (.iadd, 1) := by decide +kernel
theorem dX8_strayed_145 : decode cX8_strayed 145 = .ok (.iload 4, 2) := by decide +kernel
theorem dX8_strayed_147 : decode cX8_strayed 147 = .ok (.invokevirtual 230, 3) := by decide +kernel
theorem dX8_strayed_150 : decode cX8_strayed 150 = .ok (.ifCond .eq 10, 3) := by decide +kernel
theorem dX8_strayed_153 : decode cX8_strayed 153 = .ok (.iconst 1, 1) := by decide +kernel
theorem dX8_strayed_154 : decode cX8_strayed 154 = .ok (.iload 6, 2) := by decide +kernel
theorem dX8_strayed_156 : decode cX8_strayed 156 = .ok (.ishl, 1) := by decide +kernel
theorem dX8_strayed_157 : decode cX8_strayed 157 = .ok (.goto 4, 3) := by decide +kernel
theorem dX8_strayed_160 : decode cX8_strayed 160 = .ok (.iconst 0, 1) := by decide +kernel
theorem dX8_strayed_161 : decode cX8_strayed 161 = .ok (.ior, 1) := by decide +kernel
theorem dX8_strayed_162 : decode cX8_strayed 162 = .ok (.istore 5, 2) := by decide +kernel
theorem dX8_strayed_164 : decode cX8_strayed 164 = .ok (.iinc 6 1, 3) := by decide +kernel
theorem dX8_strayed_167 : decode cX8_strayed 167 = .ok (.goto (-53), 3) := by decide +kernel
theorem dX8_strayed_170 : decode cX8_strayed 170 = .ok (.iload 5, 2) := by decide +kernel
theorem dX8_strayed_172 : decode cX8_strayed 172 = .ok (.ireturn, 1) := by decide +kernel
theorem dX8_rivals_0 : decode cX8_rivals 0 = .ok (.aload_n 0, 1) := by decide +kernel
theorem dX8_rivals_1 : decode cX8_rivals 1 = .ok (.iconst 0, 1) := by decide +kernel
theorem dX8_rivals_2 : decode cX8_rivals 2 = .ok (.putfield 50, 3) := by decide +kernel
theorem dX8_rivals_5 : decode cX8_rivals 5 = .ok (.aload_n 0, 1) := by decide +kernel
theorem dX8_rivals_6 : decode cX8_rivals 6 = .ok (.invokevirtual 184, 3) := by decide +kernel
theorem dX8_rivals_9 : decode cX8_rivals 9 = .ok (.ifCond .ne 6, 3) := by decide +kernel
theorem dX8_rivals_12 : decode cX8_rivals 12 = .ok (.ldc 187, 2) := by decide +kernel
theorem dX8_rivals_14 : decode cX8_rivals 14 = .ok (.ireturn, 1) := by decide +kernel
theorem dX8_rivals_15 : decode cX8_rivals 15 = .ok (.iload_n 1, 1) := by decide +kernel
theorem dX8_rivals_16 : decode cX8_rivals 16 = .ok (.i2l, 1) := by decide +kernel
theorem dX8_rivals_17 : decode cX8_rivals 17 = .ok (.lconst 0, 1) := by decide +kernel
theorem dX8_rivals_18 : decode cX8_rivals 18 = .ok (.lconst 1, 1) := by decide +kernel
theorem dX8_rivals_19 : decode cX8_rivals 19 = .ok (.invokestatic 60, 3) := by decide +kernel
theorem dX8_rivals_22 : decode cX8_rivals 22 = .ok (.ifCond .ne 6, 3) := by decide +kernel
theorem dX8_rivals_25 : decode cX8_rivals 25 = .ok (.ldc 70, 2) := by decide +kernel
theorem dX8_rivals_27 : decode cX8_rivals 27 = .ok (.ireturn, 1) := by decide +kernel
theorem dX8_rivals_28 : decode cX8_rivals 28 = .ok (.iconst 0, 1) := by decide +kernel
theorem dX8_rivals_29 : decode cX8_rivals 29 = .ok (.istore_n 2, 1) := by decide +kernel
theorem dX8_rivals_30 : decode cX8_rivals 30 = .ok (.ldc 93, 2) := by decide +kernel
theorem dX8_rivals_32 : decode cX8_rivals 32 = .ok (.istore_n 3, 1) := by decide +kernel
theorem dX8_rivals_33 : decode cX8_rivals 33 = .ok (.aload_n 0, 1) := by decide +kernel
theorem dX8_rivals_34 : decode cX8_rivals 34 = .ok (.getfield 19, 3) := by decide +kernel
theorem dX8_rivals_37 : decode cX8_rivals 37 = .ok (.iconst 3, 1) := by decide +kernel
theorem dX8_rivals_38 : decode cX8_rivals 38 = .ok (.iaload, 1) := by decide +kernel
theorem dX8_rivals_39 : decode cX8_rivals 39 = .ok (.iconst 1, 1) := by decide +kernel
theorem dX8_rivals_40 : decode cX8_rivals 40 = .ok (.isub, 1) := by decide +kernel
theorem dX8_rivals_41 : decode cX8_rivals 41 = .ok (.istore 4, 2) := by decide +kernel
theorem dX8_rivals_43 : decode cX8_rivals 43 = .ok (.iload 4, 2) := by decide +kernel
theorem dX8_rivals_45 : decode cX8_rivals 45 = .ok (.ifCond .lt 105, 3) := by decide +kernel
theorem dX8_rivals_48 : decode cX8_rivals 48 = .ok (.aload_n 0, 1) := by decide +kernel
theorem dX8_rivals_49 : decode cX8_rivals 49 = .ok (.getfield 19, 3) := by decide +kernel
theorem dX8_rivals_52 : decode cX8_rivals 52 = .ok (.iconst 3, 1) := by decide +kernel
theorem dX8_rivals_53 : decode cX8_rivals 53 = .ok (.iaload, 1) := by decide +kernel
theorem dX8_rivals_54 : decode cX8_rivals 54 = .ok (.iconst 1, 1) := by decide +kernel
theorem dX8_rivals_55 : decode cX8_rivals 55 = .ok (.isub, 1) := by decide +kernel
theorem dX8_rivals_56 : decode cX8_rivals 56 = .ok (.istore 5, 2) := by decide +kernel
theorem dX8_rivals_58 : decode cX8_rivals 58 = .ok (.iload 5, 2) := by decide +kernel
theorem dX8_rivals_60 : decode cX8_rivals 60 = .ok (.iload 4, 2) := by decide +kernel
theorem dX8_rivals_62 : decode cX8_rivals 62 = .ok (.if_icmp .le 82, 3) := by decide +kernel
theorem dX8_rivals_65 : decode cX8_rivals 65 = .ok (.aload_n 0, 1) := by decide +kernel
theorem dX8_rivals_66 : decode cX8_rivals 66 = .ok (.getfield 19, 3) := by decide +kernel
theorem dX8_rivals_69 : decode cX8_rivals 69 = .ok (.iload 4, 2) := by decide +kernel
theorem dX8_rivals_71 : decode cX8_rivals 71 = .ok (.invokestatic 162, 3) := by decide +kernel
theorem dX8_rivals_74 : decode cX8_rivals 74 = .ok (.ldc 93, 2) := by decide +kernel
theorem dX8_rivals_76 : decode cX8_rivals 76 = .ok (.if_icmp .eq 28, 3) := by decide +kernel
theorem dX8_rivals_79 : decode cX8_rivals 79 = .ok (.aload_n 0, 1) := by decide +kernel
theorem dX8_rivals_80 : decode cX8_rivals 80 = .ok (.getfield 19, 3) := by decide +kernel
theorem dX8_rivals_83 : decode cX8_rivals 83 = .ok (.iload 4, 2) := by decide +kernel
theorem dX8_rivals_85 : decode cX8_rivals 85 = .ok (.invokestatic 162, 3) := by decide +kernel
theorem dX8_rivals_88 : decode cX8_rivals 88 = .ok (.aload_n 0, 1) := by decide +kernel
theorem dX8_rivals_89 : decode cX8_rivals 89 = .ok (.getfield 19, 3) := by decide +kernel
theorem dX8_rivals_92 : decode cX8_rivals 92 = .ok (.iload 5, 2) := by decide +kernel
theorem dX8_rivals_94 : decode cX8_rivals 94 = .ok (.invokestatic 162, 3) := by decide +kernel
theorem dX8_rivals_97 : decode cX8_rivals 97 = .ok (.if_icmp .ne 7, 3) := by decide +kernel
theorem dX8_rivals_100 : decode cX8_rivals 100 = .ok (.iconst 1, 1) := by decide +kernel
theorem dX8_rivals_101 : decode cX8_rivals 101 = .ok (.goto 4, 3) := by decide +kernel
theorem dX8_rivals_104 : decode cX8_rivals 104 = .ok (.iconst 0, 1) := by decide +kernel
theorem dX8_rivals_105 : decode cX8_rivals 105 = .ok (.istore 6, 2) := by decide +kernel
theorem dX8_rivals_107 : decode cX8_rivals 107 = .ok (.iload_n 2, 1) := by decide +kernel
theorem dX8_rivals_108 : decode cX8_rivals 108 = .ok (.iload 6, 2) := by decide +kernel
theorem dX8_rivals_110 : decode cX8_rivals 110 = .ok (.ifCond .eq 7, 3) := by decide +kernel
theorem dX8_rivals_113 : decode cX8_rivals 113 = .ok (.iconst 1, 1) := by decide +kernel
theorem dX8_rivals_114 : decode cX8_rivals 114 = .ok (.goto 4, 3) := by decide +kernel
theorem dX8_rivals_117 : decode cX8_rivals 117 = .ok (.iconst 0, 1) := by decide +kernel
theorem dX8_rivals_118 : decode cX8_rivals 118 = .ok (.iadd, 1) := by decide +kernel
theorem dX8_rivals_119 : decode cX8_rivals 119 = .ok (.istore_n 2, 1) := by decide +kernel
theorem dX8_rivals_120 : decode cX8_rivals 120 = .ok (.iload 6, 2) := by decide +kernel
theorem dX8_rivals_122 : decode cX8_rivals 122 = .ok (.ifCond .eq 14, 3) := by decide +kernel
theorem dX8_rivals_125 : decode cX8_rivals 125 = .ok (.bipush 10, 2) := by decide +kernel
theorem dX8_rivals_127 : decode cX8_rivals 127 = .ok (.iload 4, 2) := by decide +kernel
theorem dX8_rivals_129 : decode cX8_rivals 129 = .ok (.imul, 1) := by decide +kernel
theorem dX8_rivals_130 : decode cX8_rivals 130 = .ok (.iload 5, 2) := by decide +kernel
theorem dX8_rivals_132 : decode cX8_rivals 132 = .ok (.iadd, 1) := by decide +kernel
theorem dX8_rivals_133 : decode cX8_rivals 133 = .ok (.goto 4, 3) := by decide +kernel
theorem dX8_rivals_136 : decode cX8_rivals 136 = .ok (.iload_n 3, 1) := by decide +kernel
theorem dX8_rivals_137 : decode cX8_rivals 137 = .ok (.istore_n 3, 1) := by decide +kernel
theorem dX8_rivals_138 : decode cX8_rivals 138 = .ok (.iinc 5 (-1), 3) := by decide +kernel
theorem dX8_rivals_141 : decode cX8_rivals 141 = .ok (.goto (-83), 3) := by decide +kernel
theorem dX8_rivals_144 : decode cX8_rivals 144 = .ok (.iinc 4 (-1), 3) := by decide +kernel
theorem dX8_rivals_147 : decode cX8_rivals 147 = .ok (.goto (-104), 3) := by decide +kernel
theorem dX8_rivals_150 : decode cX8_rivals 150 = .ok (.iload_n 1, 1) := by decide +kernel
theorem dX8_rivals_151 : decode cX8_rivals 151 = .ok (.ifCond .ne 7, 3) := by decide +kernel
theorem dX8_rivals_154 : decode cX8_rivals 154 = .ok (.iload_n 2, 1) := by decide +kernel
theorem dX8_rivals_155 : decode cX8_rivals 155 = .ok (.goto 4, 3) := by decide +kernel
theorem dX8_rivals_158 : decode cX8_rivals 158 = .ok (.iload_n 3, 1) := by decide +kernel
theorem dX8_rivals_159 : decode cX8_rivals 159 = .ok (.ireturn, 1) := by decide +kernel
theorem dX8_wind_0 : decode cX8_wind 0 = .ok (.aload_n 0, 1) := by decide +kernel
theorem dX8_wind_1 : decode cX8_wind 1 = .ok (.iconst 0, 1) := by decide +kernel
theorem dX8_wind_2 : decode cX8_wind 2 = .ok (.putfield 50, 3) := by decide +kernel
theorem dX8_wind_5 : decode cX8_wind 5 = .ok (.aload_n 0, 1) := by decide +kernel
theorem dX8_wind_6 : decode cX8_wind 6 = .ok (.invokevirtual 184, 3) := by decide +kernel
theorem dX8_wind_9 : decode cX8_wind 9 = .ok (.ifCond .ne 7, 3) := by decide +kernel
theorem dX8_wind_12 : decode cX8_wind 12 = .ok (.ldc2_w 234, 3) := by decide +kernel
theorem dX8_wind_15 : decode cX8_wind 15 = .ok (.lreturn, 1) := by decide +kernel
theorem dX8_wind_16 : decode cX8_wind 16 = .ok (.iload_n 1, 1) := by decide +kernel
theorem dX8_wind_17 : decode cX8_wind 17 = .ok (.i2l, 1) := by decide +kernel
theorem dX8_wind_18 : decode cX8_wind 18 = .ok (.lconst 0, 1) := by decide +kernel
theorem dX8_wind_19 : decode cX8_wind 19 = .ok (.ldc2_w 58, 3) := by decide +kernel
theorem dX8_wind_22 : decode cX8_wind 22 = .ok (.invokestatic 60, 3) := by decide +kernel
theorem dX8_wind_25 : decode cX8_wind 25 = .ok (.ifCond .eq 25, 3) := by decide +kernel
theorem dX8_wind_28 : decode cX8_wind 28 = .ok (.iload_n 2, 1) := by decide +kernel
theorem dX8_wind_29 : decode cX8_wind 29 = .ok (.i2l, 1) := by decide +kernel
theorem dX8_wind_30 : decode cX8_wind 30 = .ok (.lconst 0, 1) := by decide +kernel
theorem dX8_wind_31 : decode cX8_wind 31 = .ok (.ldc2_w 236, 3) := by decide +kernel
theorem dX8_wind_34 : decode cX8_wind 34 = .ok (.invokestatic 60, 3) := by decide +kernel
theorem dX8_wind_37 : decode cX8_wind 37 = .ok (.ifCond .eq 13, 3) := by decide +kernel
theorem dX8_wind_40 : decode cX8_wind 40 = .ok (.iload_n 3, 1) := by decide +kernel
theorem dX8_wind_41 : decode cX8_wind 41 = .ok (.i2l, 1) := by decide +kernel
theorem dX8_wind_42 : decode cX8_wind 42 = .ok (.lconst 0, 1) := by decide +kernel
theorem dX8_wind_43 : decode cX8_wind 43 = .ok (.lconst 1, 1) := by decide +kernel
theorem dX8_wind_44 : decode cX8_wind 44 = .ok (.invokestatic 60, 3) := by decide +kernel
theorem dX8_wind_47 : decode cX8_wind 47 = .ok (.ifCond .ne 7, 3) := by decide +kernel
theorem dX8_wind_50 : decode cX8_wind 50 = .ok (.ldc2_w 238, 3) := by decide +kernel
theorem dX8_wind_53 : decode cX8_wind 53 = .ok (.lreturn, 1) := by decide +kernel
theorem dX8_wind_54 : decode cX8_wind 54 = .ok (.iconst 0, 1) := by decide +kernel
theorem dX8_wind_55 : decode cX8_wind 55 = .ok (.istore 4, 2) := by decide +kernel
theorem dX8_wind_57 : decode cX8_wind 57 = .ok (.iconst 0, 1) := by decide +kernel
theorem dX8_wind_58 : decode cX8_wind 58 = .ok (.istore 5, 2) := by decide +kernel
theorem dX8_wind_60 : decode cX8_wind 60 = .ok (.iload 5, 2) := by decide +kernel
theorem dX8_wind_62 : decode cX8_wind 62 = .ok (.aload_n 0, 1) := by decide +kernel
theorem dX8_wind_63 : decode cX8_wind 63 = .ok (.getfield 19, 3) := by decide +kernel
theorem dX8_wind_66 : decode cX8_wind 66 = .ok (.iconst 3, 1) := by decide +kernel
theorem dX8_wind_67 : decode cX8_wind 67 = .ok (.iaload, 1) := by decide +kernel
theorem dX8_wind_68 : decode cX8_wind 68 = .ok (.if_icmp .ge 35, 3) := by decide +kernel
theorem dX8_wind_71 : decode cX8_wind 71 = .ok (.iload 4, 2) := by decide +kernel
theorem dX8_wind_73 : decode cX8_wind 73 = .ok (.aload_n 0, 1) := by decide +kernel
theorem dX8_wind_74 : decode cX8_wind 74 = .ok (.getfield 19, 3) := by decide +kernel
theorem dX8_wind_77 : decode cX8_wind 77 = .ok (.iload 5, 2) := by decide +kernel
theorem dX8_wind_79 : decode cX8_wind 79 = .ok (.iconst 4, 1) := by decide +kernel
theorem dX8_wind_80 : decode cX8_wind 80 = .ok (.invokestatic 155, 3) := by decide +kernel
theorem dX8_wind_83 : decode cX8_wind 83 = .ok (.ifCond .le 10, 3) := by decide +kernel
theorem dX8_wind_86 : decode cX8_wind 86 = .ok (.iconst 1, 1) := by decide +kernel
theorem dX8_wind_87 : decode cX8_wind 87 = .ok (.iload 5, 2) := by decide +kernel
theorem dX8_wind_89 : decode cX8_wind 89 = .ok (.ishl, 1) := by decide +kernel
theorem dX8_wind_90 : decode cX8_wind 90 = .ok (.goto 4, 3) := by decide +kernel
theorem dX8_wind_93 : decode cX8_wind 93 = .ok (.iconst 0, 1) := by decide +kernel
theorem dX8_wind_94 : decode cX8_wind 94 = .ok (.ior, 1) := by decide +kernel
theorem dX8_wind_95 : decode cX8_wind 95 = .ok (.istore 4, 2) := by decide +kernel
theorem dX8_wind_97 : decode cX8_wind 97 = .ok (.iinc 5 1, 3) := by decide +kernel
theorem dX8_wind_100 : decode cX8_wind 100 = .ok (.goto (-40), 3) := by decide +kernel
theorem dX8_wind_103 : decode cX8_wind 103 = .ok (.lconst 0, 1) := by decide +kernel
theorem dX8_wind_104 : decode cX8_wind 104 = .ok (.lstore 5, 2) := by decide +kernel
theorem dX8_wind_106 : decode cX8_wind 106 = .ok (.lconst 0, 1) := by decide +kernel
theorem dX8_wind_107 : decode cX8_wind 107 = .ok (.lstore 7, 2) := by decide +kernel
theorem dX8_wind_109 : decode cX8_wind 109 = .ok (.iconst 0, 1) := by decide +kernel
theorem dX8_wind_110 : decode cX8_wind 110 = .ok (.istore 9, 2) := by decide +kernel
theorem dX8_wind_112 : decode cX8_wind 112 = .ok (.iload 9, 2) := by decide +kernel
theorem dX8_wind_114 : decode cX8_wind 114 = .ok (.iload 4, 2) := by decide +kernel
theorem dX8_wind_116 : decode cX8_wind 116 = .ok (.if_icmp .gt 177, 3) := by decide +kernel
theorem dX8_wind_119 : decode cX8_wind 119 = .ok (.iload 9, 2) := by decide +kernel
theorem dX8_wind_121 : decode cX8_wind 121 = .ok (.iload 4, 2) := by decide +kernel
theorem dX8_wind_123 : decode cX8_wind 123 = .ok (.iconst (-1), 1) := by decide +kernel
theorem dX8_wind_124 : decode cX8_wind 124 = .ok (.ixor, 1) := by decide +kernel
theorem dX8_wind_125 : decode cX8_wind 125 = .ok (.iand, 1) := by decide +kernel
theorem dX8_wind_126 : decode cX8_wind 126 = .ok (.ifCond .ne 161, 3) := by decide +kernel
theorem dX8_wind_129 : decode cX8_wind 129 = .ok (.lconst 1, 1) := by decide +kernel
theorem dX8_wind_130 : decode cX8_wind 130 = .ok (.lstore 10, 2) := by decide +kernel
theorem dX8_wind_132 : decode cX8_wind 132 = .ok (.aload_n 0, 1) := by decide +kernel
theorem dX8_wind_133 : decode cX8_wind 133 = .ok (.invokevirtual 177, 3) := by decide +kernel
theorem dX8_wind_136 : decode cX8_wind 136 = .ok (.iconst 0, 1) := by decide +kernel
theorem dX8_wind_137 : decode cX8_wind 137 = .ok (.istore 12, 2) := by decide +kernel
theorem dX8_wind_139 : decode cX8_wind 139 = .ok (.iload 12, 2) := by decide +kernel
theorem dX8_wind_141 : decode cX8_wind 141 = .ok (.aload_n 0, 1) := by decide +kernel
theorem dX8_wind_142 : decode cX8_wind 142 = .ok (.getfield 19, 3) := by decide +kernel
theorem dX8_wind_145 : decode cX8_wind 145 = .ok (.iconst 3, 1) := by decide +kernel
theorem dX8_wind_146 : decode cX8_wind 146 = .ok (.iaload, 1) := by decide +kernel
theorem dX8_wind_147 : decode cX8_wind 147 = .ok (.if_icmp .ge 98, 3) := by decide +kernel
theorem dX8_wind_150 : decode cX8_wind 150 = .ok (.lload 10, 2) := by decide +kernel
theorem dX8_wind_152 : decode cX8_wind 152 = .ok (.iload 4, 2) := by decide +kernel
theorem dX8_wind_154 : decode cX8_wind 154 = .ok (.iload 12, 2) := by decide +kernel
theorem dX8_wind_156 : decode cX8_wind 156 = .ok (.invokestatic 180, 3) := by decide +kernel
theorem dX8_wind_159 : decode cX8_wind 159 = .ok (.ifCond .ne 7, 3) := by decide +kernel
theorem dX8_wind_162 : decode cX8_wind 162 = .ok (.lconst 1, 1) := by decide +kernel
theorem dX8_wind_163 : decode cX8_wind 163 = .ok (.goto 24, 3) := by decide +kernel
theorem dX8_wind_166 : decode cX8_wind 166 = .ok (.iload 9, 2) := by decide +kernel
theorem dX8_wind_168 : decode cX8_wind 168 = .ok (.iload 12, 2) := by decide +kernel
theorem dX8_wind_170 : decode cX8_wind 170 = .ok (.invokestatic 180, 3) := by decide +kernel
theorem dX8_wind_173 : decode cX8_wind 173 = .ok (.ifCond .eq 8, 3) := by decide +kernel
theorem dX8_wind_176 : decode cX8_wind 176 = .ok (.iload_n 2, 1) := by decide +kernel
theorem dX8_wind_177 : decode cX8_wind 177 = .ok (.i2l, 1) := by decide +kernel
theorem dX8_wind_178 : decode cX8_wind 178 = .ok (.goto 9, 3) := by decide +kernel
theorem dX8_wind_181 : decode cX8_wind 181 = .ok (.ldc2_w 236, 3) := by decide +kernel
theorem dX8_wind_184 : decode cX8_wind 184 = .ok (.iload_n 2, 1) := by decide +kernel
theorem dX8_wind_185 : decode cX8_wind 185 = .ok (.i2l, 1) := by decide +kernel
theorem dX8_wind_186 : decode cX8_wind 186 = .ok (.lsub, 1) := by decide +kernel
theorem dX8_wind_187 : decode cX8_wind 187 = .ok (.lmul, 1) := by decide +kernel
theorem dX8_wind_188 : decode cX8_wind 188 = .ok (.lstore 10, 2) := by decide +kernel
theorem dX8_wind_190 : decode cX8_wind 190 = .ok (.aload_n 0, 1) := by decide +kernel
theorem dX8_wind_191 : decode cX8_wind 191 = .ok (.getfield 25, 3) := by decide +kernel
theorem dX8_wind_194 : decode cX8_wind 194 = .ok (.bipush 6, 2) := by decide +kernel
theorem dX8_wind_196 : decode cX8_wind 196 = .ok (.iconst 5, 1) := by decide +kernel
theorem dX8_wind_197 : decode cX8_wind 197 = .ok (.iload 12, 2) := by decide +kernel
theorem dX8_wind_199 : decode cX8_wind 199 = .ok (.imul, 1) := by decide +kernel
theorem dX8_wind_200 : decode cX8_wind 200 = .ok (.iadd, 1) := by decide +kernel
theorem dX8_wind_201 : decode cX8_wind 201 = .ok (.iconst 4, 1) := by decide +kernel
theorem dX8_wind_202 : decode cX8_wind 202 = .ok (.iadd, 1) := by decide +kernel
theorem dX8_wind_203 : decode cX8_wind 203 = .ok (.iload 9, 2) := by decide +kernel
theorem dX8_wind_205 : decode cX8_wind 205 = .ok (.iload 12, 2) := by decide +kernel
theorem dX8_wind_207 : decode cX8_wind 207 = .ok (.invokestatic 180, 3) := by decide +kernel
theorem dX8_wind_210 : decode cX8_wind 210 = .ok (.ifCond .eq 18, 3) := by decide +kernel
theorem dX8_wind_213 : decode cX8_wind 213 = .ok (.aload_n 0, 1) := by decide +kernel
theorem dX8_wind_214 : decode cX8_wind 214 = .ok (.getfield 19, 3) := by decide +kernel
theorem dX8_wind_217 : decode cX8_wind 217 = .ok (.iload 12, 2) := by decide +kernel
theorem dX8_wind_219 : decode cX8_wind 219 = .ok (.iconst 4, 1) := by decide +kernel
theorem dX8_wind_220 : decode cX8_wind 220 = .ok (.invokestatic 155, 3) := by decide +kernel
theorem dX8_wind_223 : decode cX8_wind 223 = .ok (.iconst 2, 1) := by decide +kernel
theorem dX8_wind_224 : decode cX8_wind 224 = .ok (.idiv, 1) := by decide +kernel
theorem dX8_wind_225 : decode cX8_wind 225 = .ok (.goto 13, 3) := by decide +kernel
theorem dX8_wind_228 : decode cX8_wind 228 = .ok (.aload_n 0, 1) := by decide +kernel
theorem dX8_wind_229 : decode cX8_wind 229 = .ok (.getfield 19, 3) := by decide +kernel
theorem dX8_wind_232 : decode cX8_wind 232 = .ok (.iload 12, 2) := by decide +kernel
theorem dX8_wind_234 : decode cX8_wind 234 = .ok (.iconst 4, 1) := by decide +kernel
theorem dX8_wind_235 : decode cX8_wind 235 = .ok (.invokestatic 155, 3) := by decide +kernel
theorem dX8_wind_238 : decode cX8_wind 238 = .ok (.iastore, 1) := by decide +kernel
theorem dX8_wind_239 : decode cX8_wind 239 = .ok (.iinc 12 1, 3) := by decide +kernel
theorem dX8_wind_242 : decode cX8_wind 242 = .ok (.goto (-103), 3) := by decide +kernel
theorem dX8_wind_245 : decode cX8_wind 245 = .ok (.aload_n 0, 1) := by decide +kernel
theorem dX8_wind_246 : decode cX8_wind 246 = .ok (.aload_n 0, 1) := by decide +kernel
theorem dX8_wind_247 : decode cX8_wind 247 = .ok (.getfield 25, 3) := by decide +kernel
theorem dX8_wind_250 : decode cX8_wind 250 = .ok (.invokevirtual 169, 3) := by decide +kernel
theorem dX8_wind_253 : decode cX8_wind 253 = .ok (.istore 12, 2) := by decide +kernel
theorem dX8_wind_255 : decode cX8_wind 255 = .ok (.lload 7, 2) := by decide +kernel
theorem dX8_wind_257 : decode cX8_wind 257 = .ok (.lload 10, 2) := by decide +kernel
theorem dX8_wind_259 : decode cX8_wind 259 = .ok (.ladd, 1) := by decide +kernel
theorem dX8_wind_260 : decode cX8_wind 260 = .ok (.lstore 7, 2) := by decide +kernel
theorem dX8_wind_262 : decode cX8_wind 262 = .ok (.lload 5, 2) := by decide +kernel
theorem dX8_wind_264 : decode cX8_wind 264 = .ok (.aload_n 0, 1) := by decide +kernel
theorem dX8_wind_265 : decode cX8_wind 265 = .ok (.getfield 25, 3) := by decide +kernel
theorem dX8_wind_268 : decode cX8_wind 268 = .ok (.invokestatic 210, 3) := by decide +kernel
theorem dX8_wind_271 : decode cX8_wind 271 = .ok (.invokestatic 221, 3) := by decide +kernel
theorem dX8_wind_274 : decode cX8_wind 274 = .ok (.iload_n 1, 1) := by decide +kernel
theorem dX8_wind_275 : decode cX8_wind 275 = .ok (.if_icmp .lt 8, 3) := by decide +kernel
theorem dX8_wind_278 : decode cX8_wind 278 = .ok (.lload 10, 2) := by decide +kernel
theorem dX8_wind_280 : decode cX8_wind 280 = .ok (.goto 4, 3) := by decide +kernel
theorem dX8_wind_283 : decode cX8_wind 283 = .ok (.lconst 0, 1) := by decide +kernel
theorem dX8_wind_284 : decode cX8_wind 284 = .ok (.ladd, 1) := by decide +kernel
theorem dX8_wind_285 : decode cX8_wind 285 = .ok (.lstore 5, 2) := by decide +kernel
theorem dX8_wind_287 : decode cX8_wind 287 = .ok (.iinc 9 1, 3) := by decide +kernel
theorem dX8_wind_290 : decode cX8_wind 290 = .ok (.goto (-178), 3) := by decide +kernel
theorem dX8_wind_293 : decode cX8_wind 293 = .ok (.lload 5, 2) := by decide +kernel
theorem dX8_wind_295 : decode cX8_wind 295 = .ok (.lstore 9, 2) := by decide +kernel
theorem dX8_wind_297 : decode cX8_wind 297 = .ok (.lload 7, 2) := by decide +kernel
theorem dX8_wind_299 : decode cX8_wind 299 = .ok (.lstore 11, 2) := by decide +kernel
theorem dX8_wind_301 : decode cX8_wind 301 = .ok (.lload 11, 2) := by decide +kernel
theorem dX8_wind_303 : decode cX8_wind 303 = .ok (.lconst 0, 1) := by decide +kernel
theorem dX8_wind_304 : decode cX8_wind 304 = .ok (.lcmp, 1) := by decide +kernel
theorem dX8_wind_305 : decode cX8_wind 305 = .ok (.ifCond .eq 21, 3) := by decide +kernel
theorem dX8_wind_308 : decode cX8_wind 308 = .ok (.lload 9, 2) := by decide +kernel
theorem dX8_wind_310 : decode cX8_wind 310 = .ok (.lload 11, 2) := by decide +kernel
theorem dX8_wind_312 : decode cX8_wind 312 = .ok (.lrem, 1) := by decide +kernel
theorem dX8_wind_313 : decode cX8_wind 313 = .ok (.lstore 13, 2) := by decide +kernel
theorem dX8_wind_315 : decode cX8_wind 315 = .ok (.lload 11, 2) := by decide +kernel
theorem dX8_wind_317 : decode cX8_wind 317 = .ok (.lstore 9, 2) := by decide +kernel
theorem dX8_wind_319 : decode cX8_wind 319 = .ok (.lload 13, 2) := by decide +kernel
theorem dX8_wind_321 : decode cX8_wind 321 = .ok (.lstore 11, 2) := by decide +kernel
theorem dX8_wind_323 : decode cX8_wind 323 = .ok (.goto (-22), 3) := by decide +kernel
theorem dX8_wind_326 : decode cX8_wind 326 = .ok (.iload_n 3, 1) := by decide +kernel
theorem dX8_wind_327 : decode cX8_wind 327 = .ok (.ifCond .ne 8, 3) := by decide +kernel
theorem dX8_wind_330 : decode cX8_wind 330 = .ok (.lload 5, 2) := by decide +kernel
theorem dX8_wind_332 : decode cX8_wind 332 = .ok (.goto 5, 3) := by decide +kernel
theorem dX8_wind_335 : decode cX8_wind 335 = .ok (.lload 7, 2) := by decide +kernel
theorem dX8_wind_337 : decode cX8_wind 337 = .ok (.lload 9, 2) := by decide +kernel
theorem dX8_wind_339 : decode cX8_wind 339 = .ok (.ldiv, 1) := by decide +kernel
theorem dX8_wind_340 : decode cX8_wind 340 = .ok (.lreturn, 1) := by decide +kernel
theorem dX8_voids_0 : decode cX8_voids 0 = .ok (.iconst 0, 1) := by decide +kernel
theorem dX8_voids_1 : decode cX8_voids 1 = .ok (.istore_n 1, 1) := by decide +kernel
theorem dX8_voids_2 : decode cX8_voids 2 = .ok (.iconst 0, 1) := by decide +kernel
theorem dX8_voids_3 : decode cX8_voids 3 = .ok (.istore_n 2, 1) := by decide +kernel
theorem dX8_voids_4 : decode cX8_voids 4 = .ok (.iload_n 2, 1) := by decide +kernel
theorem dX8_voids_5 : decode cX8_voids 5 = .ok (.aload_n 0, 1) := by decide +kernel
theorem dX8_voids_6 : decode cX8_voids 6 = .ok (.iconst 3, 1) := by decide +kernel
theorem dX8_voids_7 : decode cX8_voids 7 = .ok (.iaload, 1) := by decide +kernel
theorem dX8_voids_8 : decode cX8_voids 8 = .ok (.if_icmp .ge 26, 3) := by decide +kernel
theorem dX8_voids_11 : decode cX8_voids 11 = .ok (.iload_n 1, 1) := by decide +kernel
theorem dX8_voids_12 : decode cX8_voids 12 = .ok (.aload_n 0, 1) := by decide +kernel
theorem dX8_voids_13 : decode cX8_voids 13 = .ok (.iload_n 2, 1) := by decide +kernel
theorem dX8_voids_14 : decode cX8_voids 14 = .ok (.iconst 4, 1) := by decide +kernel
theorem dX8_voids_15 : decode cX8_voids 15 = .ok (.invokestatic 155, 3) := by decide +kernel
theorem dX8_voids_18 : decode cX8_voids 18 = .ok (.ifCond .ne 7, 3) := by decide +kernel
theorem dX8_voids_21 : decode cX8_voids 21 = .ok (.iconst 1, 1) := by decide +kernel
theorem dX8_voids_22 : decode cX8_voids 22 = .ok (.goto 4, 3) := by decide +kernel
theorem dX8_voids_25 : decode cX8_voids 25 = .ok (.iconst 0, 1) := by decide +kernel
theorem dX8_voids_26 : decode cX8_voids 26 = .ok (.iadd, 1) := by decide +kernel
theorem dX8_voids_27 : decode cX8_voids 27 = .ok (.istore_n 1, 1) := by decide +kernel
theorem dX8_voids_28 : decode cX8_voids 28 = .ok (.iinc 2 1, 3) := by decide +kernel
theorem dX8_voids_31 : decode cX8_voids 31 = .ok (.goto (-27), 3) := by decide +kernel
theorem dX8_voids_34 : decode cX8_voids 34 = .ok (.iload_n 1, 1) := by decide +kernel
theorem dX8_voids_35 : decode cX8_voids 35 = .ok (.ireturn, 1) := by decide +kernel
theorem dX8_drawn_0 : decode cX8_drawn 0 = .ok (.aload_n 0, 1) := by decide +kernel
theorem dX8_drawn_1 : decode cX8_drawn 1 = .ok (.iconst 0, 1) := by decide +kernel
theorem dX8_drawn_2 : decode cX8_drawn 2 = .ok (.putfield 50, 3) := by decide +kernel
theorem dX8_drawn_5 : decode cX8_drawn 5 = .ok (.aload_n 0, 1) := by decide +kernel
theorem dX8_drawn_6 : decode cX8_drawn 6 = .ok (.invokevirtual 184, 3) := by decide +kernel
theorem dX8_drawn_9 : decode cX8_drawn 9 = .ok (.ifCond .ne 6, 3) := by decide +kernel
theorem dX8_drawn_12 : decode cX8_drawn 12 = .ok (.ldc 187, 2) := by decide +kernel
theorem dX8_drawn_14 : decode cX8_drawn 14 = .ok (.ireturn, 1) := by decide +kernel
theorem dX8_drawn_15 : decode cX8_drawn 15 = .ok (.iload_n 1, 1) := by decide +kernel
theorem dX8_drawn_16 : decode cX8_drawn 16 = .ok (.i2l, 1) := by decide +kernel
theorem dX8_drawn_17 : decode cX8_drawn 17 = .ok (.lconst 0, 1) := by decide +kernel
theorem dX8_drawn_18 : decode cX8_drawn 18 = .ok (.ldc2_w 201, 3) := by decide +kernel
theorem dX8_drawn_21 : decode cX8_drawn 21 = .ok (.invokestatic 60, 3) := by decide +kernel
theorem dX8_drawn_24 : decode cX8_drawn 24 = .ok (.ifCond .eq 25, 3) := by decide +kernel
theorem dX8_drawn_27 : decode cX8_drawn 27 = .ok (.iload_n 2, 1) := by decide +kernel
theorem dX8_drawn_28 : decode cX8_drawn 28 = .ok (.i2l, 1) := by decide +kernel
theorem dX8_drawn_29 : decode cX8_drawn 29 = .ok (.lconst 1, 1) := by decide +kernel
theorem dX8_drawn_30 : decode cX8_drawn 30 = .ok (.ldc2_w 240, 3) := by decide +kernel
theorem dX8_drawn_33 : decode cX8_drawn 33 = .ok (.invokestatic 60, 3) := by decide +kernel
theorem dX8_drawn_36 : decode cX8_drawn 36 = .ok (.ifCond .eq 13, 3) := by decide +kernel
theorem dX8_drawn_39 : decode cX8_drawn 39 = .ok (.iload_n 3, 1) := by decide +kernel
theorem dX8_drawn_40 : decode cX8_drawn 40 = .ok (.i2l, 1) := by decide +kernel
theorem dX8_drawn_41 : decode cX8_drawn 41 = .ok (.lconst 0, 1) := by decide +kernel
theorem dX8_drawn_42 : decode cX8_drawn 42 = .ok (.lconst 1, 1) := by decide +kernel
theorem dX8_drawn_43 : decode cX8_drawn 43 = .ok (.invokestatic 60, 3) := by decide +kernel
theorem dX8_drawn_46 : decode cX8_drawn 46 = .ok (.ifCond .ne 6, 3) := by decide +kernel
theorem dX8_drawn_49 : decode cX8_drawn 49 = .ok (.ldc 70, 2) := by decide +kernel
theorem dX8_drawn_51 : decode cX8_drawn 51 = .ok (.ireturn, 1) := by decide +kernel
theorem dX8_drawn_52 : decode cX8_drawn 52 = .ok (.aload_n 0, 1) := by decide +kernel
theorem dX8_drawn_53 : decode cX8_drawn 53 = .ok (.invokevirtual 177, 3) := by decide +kernel
theorem dX8_drawn_56 : decode cX8_drawn 56 = .ok (.iload_n 2, 1) := by decide +kernel
theorem dX8_drawn_57 : decode cX8_drawn 57 = .ok (.i2l, 1) := by decide +kernel
theorem dX8_drawn_58 : decode cX8_drawn 58 = .ok (.lstore 4, 2) := by decide +kernel
theorem dX8_drawn_60 : decode cX8_drawn 60 = .ok (.iconst 0, 1) := by decide +kernel
theorem dX8_drawn_61 : decode cX8_drawn 61 = .ok (.istore 6, 2) := by decide +kernel
theorem dX8_drawn_63 : decode cX8_drawn 63 = .ok (.iconst 0, 1) := by decide +kernel
theorem dX8_drawn_64 : decode cX8_drawn 64 = .ok (.istore 7, 2) := by decide +kernel
theorem dX8_drawn_66 : decode cX8_drawn 66 = .ok (.iload 7, 2) := by decide +kernel
theorem dX8_drawn_68 : decode cX8_drawn 68 = .ok (.iload_n 1, 1) := by decide +kernel
theorem dX8_drawn_69 : decode cX8_drawn 69 = .ok (.if_icmp .ge 138, 3) := by decide +kernel
theorem dX8_drawn_72 : decode cX8_drawn 72 = .ok (.lload 4, 2) := by decide +kernel
theorem dX8_drawn_74 : decode cX8_drawn 74 = .ok (.ldc2_w 242, 3) := by decide +kernel
theorem dX8_drawn_77 : decode cX8_drawn 77 = .ok (.lmul, 1) := by decide +kernel
theorem dX8_drawn_78 : decode cX8_drawn 78 = .ok (.ldc2_w 244, 3) := by decide +kernel
theorem dX8_drawn_81 : decode cX8_drawn 81 = .ok (.lrem, 1) := by decide +kernel
theorem dX8_drawn_82 : decode cX8_drawn 82 = .ok (.lstore 4, 2) := by decide +kernel
theorem dX8_drawn_84 : decode cX8_drawn 84 = .ok (.lload 4, 2) := by decide +kernel
theorem dX8_drawn_86 : decode cX8_drawn 86 = .ok (.ldc2_w 205, 3) := by decide +kernel
theorem dX8_drawn_89 : decode cX8_drawn 89 = .ok (.lrem, 1) := by decide +kernel
theorem dX8_drawn_90 : decode cX8_drawn 90 = .ok (.lconst 0, 1) := by decide +kernel
theorem dX8_drawn_91 : decode cX8_drawn 91 = .ok (.lcmp, 1) := by decide +kernel
theorem dX8_drawn_92 : decode cX8_drawn 92 = .ok (.ifCond .ne 27, 3) := by decide +kernel
theorem dX8_drawn_95 : decode cX8_drawn 95 = .ok (.aload_n 0, 1) := by decide +kernel
theorem dX8_drawn_96 : decode cX8_drawn 96 = .ok (.getfield 25, 3) := by decide +kernel
theorem dX8_drawn_99 : decode cX8_drawn 99 = .ok (.bipush 41, 2) := by decide +kernel
theorem dX8_drawn_101 : decode cX8_drawn 101 = .ok (.iconst 3, 1) := by decide +kernel
theorem dX8_drawn_102 : decode cX8_drawn 102 = .ok (.lload 4, 2) := by decide +kernel
theorem dX8_drawn_104 : decode cX8_drawn 104 = .ok (.aload_n 0, 1) := by decide +kernel
theorem dX8_drawn_105 : decode cX8_drawn 105 = .ok (.getfield 25, 3) := by decide +kernel
theorem dX8_drawn_108 : decode cX8_drawn 108 = .ok (.iconst 4, 1) := by decide +kernel
theorem dX8_drawn_109 : decode cX8_drawn 109 = .ok (.iaload, 1) := by decide +kernel
theorem dX8_drawn_110 : decode cX8_drawn 110 = .ok (.i2l, 1) := by decide +kernel
theorem dX8_drawn_111 : decode cX8_drawn 111 = .ok (.lrem, 1) := by decide +kernel
theorem dX8_drawn_112 : decode cX8_drawn 112 = .ok (.l2i, 1) := by decide +kernel
theorem dX8_drawn_113 : decode cX8_drawn 113 = .ok (.imul, 1) := by decide +kernel
theorem dX8_drawn_114 : decode cX8_drawn 114 = .ok (.iadd, 1) := by decide +kernel
theorem dX8_drawn_115 : decode cX8_drawn 115 = .ok (.iconst 2, 1) := by decide +kernel
theorem dX8_drawn_116 : decode cX8_drawn 116 = .ok (.iadd, 1) := by decide +kernel
theorem dX8_drawn_117 : decode cX8_drawn 117 = .ok (.iconst 2, 1) := by decide +kernel
theorem dX8_drawn_118 : decode cX8_drawn 118 = .ok (.iastore, 1) := by decide +kernel
theorem dX8_drawn_119 : decode cX8_drawn 119 = .ok (.lload 4, 2) := by decide +kernel
theorem dX8_drawn_121 : decode cX8_drawn 121 = .ok (.ldc2_w 203, 3) := by decide +kernel
theorem dX8_drawn_124 : decode cX8_drawn 124 = .ok (.lrem, 1) := by decide +kernel
theorem dX8_drawn_125 : decode cX8_drawn 125 = .ok (.lconst 0, 1) := by decide +kernel
theorem dX8_drawn_126 : decode cX8_drawn 126 = .ok (.lcmp, 1) := by decide +kernel
theorem dX8_drawn_127 : decode cX8_drawn 127 = .ok (.ifCond .ne 40, 3) := by decide +kernel
theorem dX8_drawn_130 : decode cX8_drawn 130 = .ok (.lload 4, 2) := by decide +kernel
theorem dX8_drawn_132 : decode cX8_drawn 132 = .ok (.aload_n 0, 1) := by decide +kernel
theorem dX8_drawn_133 : decode cX8_drawn 133 = .ok (.getfield 25, 3) := by decide +kernel
theorem dX8_drawn_136 : decode cX8_drawn 136 = .ok (.iconst 3, 1) := by decide +kernel
theorem dX8_drawn_137 : decode cX8_drawn 137 = .ok (.iaload, 1) := by decide +kernel
theorem dX8_drawn_138 : decode cX8_drawn 138 = .ok (.i2l, 1) := by decide +kernel
theorem dX8_drawn_139 : decode cX8_drawn 139 = .ok (.lrem, 1) := by decide +kernel
theorem dX8_drawn_140 : decode cX8_drawn 140 = .ok (.l2i, 1) := by decide +kernel
theorem dX8_drawn_141 : decode cX8_drawn 141 = .ok (.istore 8, 2) := by decide +kernel
theorem dX8_drawn_143 : decode cX8_drawn 143 = .ok (.aload_n 0, 1) := by decide +kernel
theorem dX8_drawn_144 : decode cX8_drawn 144 = .ok (.getfield 25, 3) := by decide +kernel
theorem dX8_drawn_147 : decode cX8_drawn 147 = .ok (.bipush 6, 2) := by decide +kernel
theorem dX8_drawn_149 : decode cX8_drawn 149 = .ok (.iconst 5, 1) := by decide +kernel
theorem dX8_drawn_150 : decode cX8_drawn 150 = .ok (.iload 8, 2) := by decide +kernel
theorem dX8_drawn_152 : decode cX8_drawn 152 = .ok (.imul, 1) := by decide +kernel
theorem dX8_drawn_153 : decode cX8_drawn 153 = .ok (.iadd, 1) := by decide +kernel
theorem dX8_drawn_154 : decode cX8_drawn 154 = .ok (.iconst 4, 1) := by decide +kernel
theorem dX8_drawn_155 : decode cX8_drawn 155 = .ok (.iadd, 1) := by decide +kernel
theorem dX8_drawn_156 : decode cX8_drawn 156 = .ok (.aload_n 0, 1) := by decide +kernel
theorem dX8_drawn_157 : decode cX8_drawn 157 = .ok (.getfield 25, 3) := by decide +kernel
theorem dX8_drawn_160 : decode cX8_drawn 160 = .ok (.iload 8, 2) := by decide +kernel
theorem dX8_drawn_162 : decode cX8_drawn 162 = .ok (.iconst 1, 1) := by decide +kernel
theorem dX8_drawn_163 : decode cX8_drawn 163 = .ok (.invokestatic 155, 3) := by decide +kernel
theorem dX8_drawn_166 : decode cX8_drawn 166 = .ok (.iastore, 1) := by decide +kernel
theorem dX8_drawn_167 : decode cX8_drawn 167 = .ok (.aload_n 0, 1) := by decide +kernel
theorem dX8_drawn_168 : decode cX8_drawn 168 = .ok (.getfield 25, 3) := by decide +kernel
theorem dX8_drawn_171 : decode cX8_drawn 171 = .ok (.invokestatic 246, 3) := by decide +kernel
theorem dX8_drawn_174 : decode cX8_drawn 174 = .ok (.istore 8, 2) := by decide +kernel
theorem dX8_drawn_176 : decode cX8_drawn 176 = .ok (.aload_n 0, 1) := by decide +kernel
theorem dX8_drawn_177 : decode cX8_drawn 177 = .ok (.aload_n 0, 1) := by decide +kernel
theorem dX8_drawn_178 : decode cX8_drawn 178 = .ok (.getfield 25, 3) := by decide +kernel
theorem dX8_drawn_181 : decode cX8_drawn 181 = .ok (.invokevirtual 169, 3) := by decide +kernel
theorem dX8_drawn_184 : decode cX8_drawn 184 = .ok (.istore 9, 2) := by decide +kernel
theorem dX8_drawn_186 : decode cX8_drawn 186 = .ok (.iload 6, 2) := by decide +kernel
theorem dX8_drawn_188 : decode cX8_drawn 188 = .ok (.aload_n 0, 1) := by decide +kernel
theorem dX8_drawn_189 : decode cX8_drawn 189 = .ok (.getfield 25, 3) := by decide +kernel
theorem dX8_drawn_192 : decode cX8_drawn 192 = .ok (.invokestatic 246, 3) := by decide +kernel
theorem dX8_drawn_195 : decode cX8_drawn 195 = .ok (.iload 8, 2) := by decide +kernel
theorem dX8_drawn_197 : decode cX8_drawn 197 = .ok (.isub, 1) := by decide +kernel
theorem dX8_drawn_198 : decode cX8_drawn 198 = .ok (.iadd, 1) := by decide +kernel
theorem dX8_drawn_199 : decode cX8_drawn 199 = .ok (.istore 6, 2) := by decide +kernel
theorem dX8_drawn_201 : decode cX8_drawn 201 = .ok (.iinc 7 1, 3) := by decide +kernel
theorem dX8_drawn_204 : decode cX8_drawn 204 = .ok (.goto (-138), 3) := by decide +kernel
theorem dX8_drawn_207 : decode cX8_drawn 207 = .ok (.iload_n 3, 1) := by decide +kernel
theorem dX8_drawn_208 : decode cX8_drawn 208 = .ok (.ifCond .ne 13, 3) := by decide +kernel
theorem dX8_drawn_211 : decode cX8_drawn 211 = .ok (.aload_n 0, 1) := by decide +kernel
theorem dX8_drawn_212 : decode cX8_drawn 212 = .ok (.getfield 25, 3) := by decide +kernel
theorem dX8_drawn_215 : decode cX8_drawn 215 = .ok (.invokestatic 249, 3) := by decide +kernel
theorem dX8_drawn_218 : decode cX8_drawn 218 = .ok (.goto 5, 3) := by decide +kernel
theorem dX8_drawn_221 : decode cX8_drawn 221 = .ok (.iload 6, 2) := by decide +kernel
theorem dX8_drawn_223 : decode cX8_drawn 223 = .ok (.ireturn, 1) := by decide +kernel
theorem dX8_image_0 : decode cX8_image 0 = .ok (.aload_n 0, 1) := by decide +kernel
theorem dX8_image_1 : decode cX8_image 1 = .ok (.iconst 0, 1) := by decide +kernel
theorem dX8_image_2 : decode cX8_image 2 = .ok (.putfield 50, 3) := by decide +kernel
theorem dX8_image_5 : decode cX8_image 5 = .ok (.iload_n 1, 1) := by decide +kernel
theorem dX8_image_6 : decode cX8_image 6 = .ok (.i2l, 1) := by decide +kernel
theorem dX8_image_7 : decode cX8_image 7 = .ok (.lconst 0, 1) := by decide +kernel
theorem dX8_image_8 : decode cX8_image 8 = .ok (.lconst 1, 1) := by decide +kernel
theorem dX8_image_9 : decode cX8_image 9 = .ok (.invokestatic 60, 3) := by decide +kernel
theorem dX8_image_12 : decode cX8_image 12 = .ok (.ifCond .ne 6, 3) := by decide +kernel
theorem dX8_image_15 : decode cX8_image 15 = .ok (.ldc 70, 2) := by decide +kernel
theorem dX8_image_17 : decode cX8_image 17 = .ok (.ireturn, 1) := by decide +kernel
theorem dX8_image_18 : decode cX8_image 18 = .ok (.aload_n 0, 1) := by decide +kernel
theorem dX8_image_19 : decode cX8_image 19 = .ok (.invokevirtual 184, 3) := by decide +kernel
theorem dX8_image_22 : decode cX8_image 22 = .ok (.ifCond .ne 6, 3) := by decide +kernel
theorem dX8_image_25 : decode cX8_image 25 = .ok (.ldc 187, 2) := by decide +kernel
theorem dX8_image_27 : decode cX8_image 27 = .ok (.ireturn, 1) := by decide +kernel
theorem dX8_image_28 : decode cX8_image 28 = .ok (.iconst 0, 1) := by decide +kernel
theorem dX8_image_29 : decode cX8_image 29 = .ok (.istore_n 2, 1) := by decide +kernel
theorem dX8_image_30 : decode cX8_image 30 = .ok (.iload_n 2, 1) := by decide +kernel
theorem dX8_image_31 : decode cX8_image 31 = .ok (.bipush 53, 2) := by decide +kernel
theorem dX8_image_33 : decode cX8_image 33 = .ok (.if_icmp .ge 26, 3) := by decide +kernel
theorem dX8_image_36 : decode cX8_image 36 = .ok (.aload_n 0, 1) := by decide +kernel
theorem dX8_image_37 : decode cX8_image 37 = .ok (.getfield 44, 3) := by decide +kernel
theorem dX8_image_40 : decode cX8_image 40 = .ok (.bipush 53, 2) := by decide +kernel
theorem dX8_image_42 : decode cX8_image 42 = .ok (.iload_n 1, 1) := by decide +kernel
theorem dX8_image_43 : decode cX8_image 43 = .ok (.imul, 1) := by decide +kernel
theorem dX8_image_44 : decode cX8_image 44 = .ok (.iload_n 2, 1) := by decide +kernel
theorem dX8_image_45 : decode cX8_image 45 = .ok (.iadd, 1) := by decide +kernel
theorem dX8_image_46 : decode cX8_image 46 = .ok (.aload_n 0, 1) := by decide +kernel
theorem dX8_image_47 : decode cX8_image 47 = .ok (.getfield 19, 3) := by decide +kernel
theorem dX8_image_50 : decode cX8_image 50 = .ok (.iload_n 2, 1) := by decide +kernel
theorem dX8_image_51 : decode cX8_image 51 = .ok (.iaload, 1) := by decide +kernel
theorem dX8_image_52 : decode cX8_image 52 = .ok (.iastore, 1) := by decide +kernel
theorem dX8_image_53 : decode cX8_image 53 = .ok (.iinc 2 1, 3) := by decide +kernel
theorem dX8_image_56 : decode cX8_image 56 = .ok (.goto (-26), 3) := by decide +kernel
theorem dX8_image_59 : decode cX8_image 59 = .ok (.aload_n 0, 1) := by decide +kernel
theorem dX8_image_60 : decode cX8_image 60 = .ok (.getfield 40, 3) := by decide +kernel
theorem dX8_image_63 : decode cX8_image 63 = .ok (.iload_n 1, 1) := by decide +kernel
theorem dX8_image_64 : decode cX8_image 64 = .ok (.iconst 1, 1) := by decide +kernel
theorem dX8_image_65 : decode cX8_image 65 = .ok (.bastore, 1) := by decide +kernel
theorem dX8_image_66 : decode cX8_image 66 = .ok (.iconst 1, 1) := by decide +kernel
theorem dX8_image_67 : decode cX8_image 67 = .ok (.ireturn, 1) := by decide +kernel
theorem dX8_restore_0 : decode cX8_restore 0 = .ok (.aload_n 0, 1) := by decide +kernel
theorem dX8_restore_1 : decode cX8_restore 1 = .ok (.iconst 0, 1) := by decide +kernel
theorem dX8_restore_2 : decode cX8_restore 2 = .ok (.putfield 50, 3) := by decide +kernel
theorem dX8_restore_5 : decode cX8_restore 5 = .ok (.iload_n 1, 1) := by decide +kernel
theorem dX8_restore_6 : decode cX8_restore 6 = .ok (.i2l, 1) := by decide +kernel
theorem dX8_restore_7 : decode cX8_restore 7 = .ok (.lconst 0, 1) := by decide +kernel
theorem dX8_restore_8 : decode cX8_restore 8 = .ok (.lconst 1, 1) := by decide +kernel
theorem dX8_restore_9 : decode cX8_restore 9 = .ok (.invokestatic 60, 3) := by decide +kernel
theorem dX8_restore_12 : decode cX8_restore 12 = .ok (.ifCond .ne 6, 3) := by decide +kernel
theorem dX8_restore_15 : decode cX8_restore 15 = .ok (.ldc 70, 2) := by decide +kernel
theorem dX8_restore_17 : decode cX8_restore 17 = .ok (.ireturn, 1) := by decide +kernel
theorem dX8_restore_18 : decode cX8_restore 18 = .ok (.aload_n 0, 1) := by decide +kernel
theorem dX8_restore_19 : decode cX8_restore 19 = .ok (.getfield 40, 3) := by decide +kernel
theorem dX8_restore_22 : decode cX8_restore 22 = .ok (.iload_n 1, 1) := by decide +kernel
theorem dX8_restore_23 : decode cX8_restore 23 = .ok (.baload, 1) := by decide +kernel
theorem dX8_restore_24 : decode cX8_restore 24 = .ok (.ifCond .ne 6, 3) := by decide +kernel
theorem dX8_restore_27 : decode cX8_restore 27 = .ok (.ldc 187, 2) := by decide +kernel
theorem dX8_restore_29 : decode cX8_restore 29 = .ok (.ireturn, 1) := by decide +kernel
theorem dX8_restore_30 : decode cX8_restore 30 = .ok (.iconst 0, 1) := by decide +kernel
theorem dX8_restore_31 : decode cX8_restore 31 = .ok (.istore_n 2, 1) := by decide +kernel
theorem dX8_restore_32 : decode cX8_restore 32 = .ok (.iload_n 2, 1) := by decide +kernel
theorem dX8_restore_33 : decode cX8_restore 33 = .ok (.bipush 53, 2) := by decide +kernel
theorem dX8_restore_35 : decode cX8_restore 35 = .ok (.if_icmp .ge 26, 3) := by decide +kernel
theorem dX8_restore_38 : decode cX8_restore 38 = .ok (.aload_n 0, 1) := by decide +kernel
theorem dX8_restore_39 : decode cX8_restore 39 = .ok (.getfield 19, 3) := by decide +kernel
theorem dX8_restore_42 : decode cX8_restore 42 = .ok (.iload_n 2, 1) := by decide +kernel
theorem dX8_restore_43 : decode cX8_restore 43 = .ok (.aload_n 0, 1) := by decide +kernel
theorem dX8_restore_44 : decode cX8_restore 44 = .ok (.getfield 44, 3) := by decide +kernel
theorem dX8_restore_47 : decode cX8_restore 47 = .ok (.bipush 53, 2) := by decide +kernel
theorem dX8_restore_49 : decode cX8_restore 49 = .ok (.iload_n 1, 1) := by decide +kernel
theorem dX8_restore_50 : decode cX8_restore 50 = .ok (.imul, 1) := by decide +kernel
theorem dX8_restore_51 : decode cX8_restore 51 = .ok (.iload_n 2, 1) := by decide +kernel
theorem dX8_restore_52 : decode cX8_restore 52 = .ok (.iadd, 1) := by decide +kernel
theorem dX8_restore_53 : decode cX8_restore 53 = .ok (.iaload, 1) := by decide +kernel
theorem dX8_restore_54 : decode cX8_restore 54 = .ok (.iastore, 1) := by decide +kernel
theorem dX8_restore_55 : decode cX8_restore 55 = .ok (.iinc 2 1, 3) := by decide +kernel
theorem dX8_restore_58 : decode cX8_restore 58 = .ok (.goto (-26), 3) := by decide +kernel
theorem dX8_restore_61 : decode cX8_restore 61 = .ok (.aload_n 0, 1) := by decide +kernel
theorem dX8_restore_62 : decode cX8_restore 62 = .ok (.iconst 0, 1) := by decide +kernel
theorem dX8_restore_63 : decode cX8_restore 63 = .ok (.putfield 152, 3) := by decide +kernel
theorem dX8_restore_66 : decode cX8_restore 66 = .ok (.iconst 1, 1) := by decide +kernel
theorem dX8_restore_67 : decode cX8_restore 67 = .ok (.ireturn, 1) := by decide +kernel
theorem dX8_isOf_0 : decode cX8_isOf 0 = .ok (.iload_n 1, 1) := by decide +kernel
theorem dX8_isOf_1 : decode cX8_isOf 1 = .ok (.ifCond .eq 28, 3) := by decide +kernel
theorem dX8_isOf_4 : decode cX8_isOf 4 = .ok (.iload_n 0, 1) := by decide +kernel
theorem dX8_isOf_5 : decode cX8_isOf 5 = .ok (.iload_n 1, 1) := by decide +kernel
theorem dX8_isOf_6 : decode cX8_isOf 6 = .ok (.if_icmp .eq 23, 3) := by decide +kernel
theorem dX8_isOf_9 : decode cX8_isOf 9 = .ok (.iload_n 1, 1) := by decide +kernel
theorem dX8_isOf_10 : decode cX8_isOf 10 = .ok (.iconst 1, 1) := by decide +kernel
theorem dX8_isOf_11 : decode cX8_isOf 11 = .ok (.if_icmp .ne 8, 3) := by decide +kernel
theorem dX8_isOf_14 : decode cX8_isOf 14 = .ok (.iload_n 0, 1) := by decide +kernel
theorem dX8_isOf_15 : decode cX8_isOf 15 = .ok (.iconst 4, 1) := by decide +kernel
theorem dX8_isOf_16 : decode cX8_isOf 16 = .ok (.if_icmp .lt 13, 3) := by decide +kernel
theorem dX8_isOf_19 : decode cX8_isOf 19 = .ok (.iload_n 1, 1) := by decide +kernel
theorem dX8_isOf_20 : decode cX8_isOf 20 = .ok (.iconst 4, 1) := by decide +kernel
theorem dX8_isOf_21 : decode cX8_isOf 21 = .ok (.if_icmp .ne 12, 3) := by decide +kernel
theorem dX8_isOf_24 : decode cX8_isOf 24 = .ok (.iload_n 0, 1) := by decide +kernel
theorem dX8_isOf_25 : decode cX8_isOf 25 = .ok (.iconst 5, 1) := by decide +kernel
theorem dX8_isOf_26 : decode cX8_isOf 26 = .ok (.if_icmp .ne 7, 3) := by decide +kernel
theorem dX8_isOf_29 : decode cX8_isOf 29 = .ok (.iconst 1, 1) := by decide +kernel
theorem dX8_isOf_30 : decode cX8_isOf 30 = .ok (.goto 4, 3) := by decide +kernel
theorem dX8_isOf_33 : decode cX8_isOf 33 = .ok (.iconst 0, 1) := by decide +kernel
theorem dX8_isOf_34 : decode cX8_isOf 34 = .ok (.ireturn, 1) := by decide +kernel
theorem dX8_kind_0 : decode cX8_kind 0 = .ok (.aload_n 0, 1) := by decide +kernel
theorem dX8_kind_1 : decode cX8_kind 1 = .ok (.iconst 0, 1) := by decide +kernel
theorem dX8_kind_2 : decode cX8_kind 2 = .ok (.putfield 50, 3) := by decide +kernel
theorem dX8_kind_5 : decode cX8_kind 5 = .ok (.aload_n 0, 1) := by decide +kernel
theorem dX8_kind_6 : decode cX8_kind 6 = .ok (.iload_n 1, 1) := by decide +kernel
theorem dX8_kind_7 : decode cX8_kind 7 = .ok (.invokevirtual 193, 3) := by decide +kernel
theorem dX8_kind_10 : decode cX8_kind 10 = .ok (.ifCond .eq 15, 3) := by decide +kernel
theorem dX8_kind_13 : decode cX8_kind 13 = .ok (.aload_n 0, 1) := by decide +kernel
theorem dX8_kind_14 : decode cX8_kind 14 = .ok (.getfield 19, 3) := by decide +kernel
theorem dX8_kind_17 : decode cX8_kind 17 = .ok (.iload_n 1, 1) := by decide +kernel
theorem dX8_kind_18 : decode cX8_kind 18 = .ok (.iconst 0, 1) := by decide +kernel
theorem dX8_kind_19 : decode cX8_kind 19 = .ok (.invokestatic 155, 3) := by decide +kernel
theorem dX8_kind_22 : decode cX8_kind 22 = .ok (.goto 5, 3) := by decide +kernel
theorem dX8_kind_25 : decode cX8_kind 25 = .ok (.ldc 70, 2) := by decide +kernel
theorem dX8_kind_27 : decode cX8_kind 27 = .ok (.ireturn, 1) := by decide +kernel
theorem dX8_as_0 : decode cX8_as 0 = .ok (.aload_n 0, 1) := by decide +kernel
theorem dX8_as_1 : decode cX8_as 1 = .ok (.iconst 0, 1) := by decide +kernel
theorem dX8_as_2 : decode cX8_as 2 = .ok (.putfield 50, 3) := by decide +kernel
theorem dX8_as_5 : decode cX8_as 5 = .ok (.aload_n 0, 1) := by decide +kernel
theorem dX8_as_6 : decode cX8_as 6 = .ok (.iload_n 1, 1) := by decide +kernel
theorem dX8_as_7 : decode cX8_as 7 = .ok (.invokevirtual 193, 3) := by decide +kernel
theorem dX8_as_10 : decode cX8_as 10 = .ok (.ifCond .eq 15, 3) := by decide +kernel
theorem dX8_as_13 : decode cX8_as 13 = .ok (.iload_n 2, 1) := by decide +kernel
theorem dX8_as_14 : decode cX8_as 14 = .ok (.i2l, 1) := by decide +kernel
theorem dX8_as_15 : decode cX8_as 15 = .ok (.lconst 0, 1) := by decide +kernel
theorem dX8_as_16 : decode cX8_as 16 = .ok (.ldc2_w 203, 3) := by decide +kernel
theorem dX8_as_19 : decode cX8_as 19 = .ok (.invokestatic 60, 3) := by decide +kernel
theorem dX8_as_22 : decode cX8_as 22 = .ok (.ifCond .ne 6, 3) := by decide +kernel
theorem dX8_as_25 : decode cX8_as 25 = .ok (.ldc 70, 2) := by decide +kernel
theorem dX8_as_27 : decode cX8_as 27 = .ok (.ireturn, 1) := by decide +kernel
theorem dX8_as_28 : decode cX8_as 28 = .ok (.aload_n 0, 1) := by decide +kernel
theorem dX8_as_29 : decode cX8_as 29 = .ok (.iconst 0, 1) := by decide +kernel
theorem dX8_as_30 : decode cX8_as 30 = .ok (.putfield 54, 3) := by decide +kernel
theorem dX8_as_33 : decode cX8_as 33 = .ok (.aload_n 0, 1) := by decide +kernel
theorem dX8_as_34 : decode cX8_as 34 = .ok (.getfield 19, 3) := by decide +kernel
theorem dX8_as_37 : decode cX8_as 37 = .ok (.iload_n 1, 1) := by decide +kernel
theorem dX8_as_38 : decode cX8_as 38 = .ok (.iconst 0, 1) := by decide +kernel
theorem dX8_as_39 : decode cX8_as 39 = .ok (.invokestatic 155, 3) := by decide +kernel
theorem dX8_as_42 : decode cX8_as 42 = .ok (.iload_n 2, 1) := by decide +kernel
theorem dX8_as_43 : decode cX8_as 43 = .ok (.invokestatic 252, 3) := by decide +kernel
theorem dX8_as_46 : decode cX8_as 46 = .ok (.ifCond .eq 7, 3) := by decide +kernel
theorem dX8_as_49 : decode cX8_as 49 = .ok (.iload_n 1, 1) := by decide +kernel
theorem dX8_as_50 : decode cX8_as 50 = .ok (.goto 8, 3) := by decide +kernel
theorem dX8_as_53 : decode cX8_as 53 = .ok (.aload_n 0, 1) := by decide +kernel
theorem dX8_as_54 : decode cX8_as 54 = .ok (.iconst 3, 1) := by decide +kernel
theorem dX8_as_55 : decode cX8_as 55 = .ok (.invokevirtual 71, 3) := by decide +kernel
theorem dX8_as_58 : decode cX8_as 58 = .ok (.ireturn, 1) := by decide +kernel
theorem dX8_began_0 : decode cX8_began 0 = .ok (.aload_n 0, 1) := by decide +kernel
theorem dX8_began_1 : decode cX8_began 1 = .ok (.getfield 255, 3) := by decide +kernel
theorem dX8_began_4 : decode cX8_began 4 = .ok (.bipush 16, 2) := by decide +kernel
theorem dX8_began_6 : decode cX8_began 6 = .ok (.if_icmp .ge 23, 3) := by decide +kernel
theorem dX8_began_9 : decode cX8_began 9 = .ok (.aload_n 0, 1) := by decide +kernel
theorem dX8_began_10 : decode cX8_began 10 = .ok (.getfield 47, 3) := by decide +kernel
theorem dX8_began_13 : decode cX8_began 13 = .ok (.aload_n 0, 1) := by decide +kernel
theorem dX8_began_14 : decode cX8_began 14 = .ok (.getfield 255, 3) := by decide +kernel
theorem dX8_began_17 : decode cX8_began 17 = .ok (.iload_n 1, 1) := by decide +kernel
theorem dX8_began_18 : decode cX8_began 18 = .ok (.iastore, 1) := by decide +kernel
theorem dX8_began_19 : decode cX8_began 19 = .ok (.aload_n 0, 1) := by decide +kernel
theorem dX8_began_20 : decode cX8_began 20 = .ok (.dup, 1) := by decide +kernel
theorem dX8_began_21 : decode cX8_began 21 = .ok (.getfield 255, 3) := by decide +kernel
theorem dX8_began_24 : decode cX8_began 24 = .ok (.iconst 1, 1) := by decide +kernel
theorem dX8_began_25 : decode cX8_began 25 = .ok (.iadd, 1) := by decide +kernel
theorem dX8_began_26 : decode cX8_began 26 = .ok (.putfield 255, 3) := by decide +kernel
theorem dX8_began_29 : decode cX8_began 29 = .ok (.return_, 1) := by decide +kernel
theorem dX8_plainSize_0 : decode cX8_plainSize 0 = .ok (.aload_n 0, 1) := by decide +kernel
theorem dX8_plainSize_1 : decode cX8_plainSize 1 = .ok (.bipush 10, 2) := by decide +kernel
theorem dX8_plainSize_3 : decode cX8_plainSize 3 = .ok (.invokevirtual 258, 3) := by decide +kernel
theorem dX8_plainSize_6 : decode cX8_plainSize 6 = .ok (.aload_n 0, 1) := by decide +kernel
theorem dX8_plainSize_7 : decode cX8_plainSize 7 = .ok (.getfield 19, 3) := by decide +kernel
theorem dX8_plainSize_10 : decode cX8_plainSize 10 = .ok (.iload_n 1, 1) := by decide +kernel
theorem dX8_plainSize_11 : decode cX8_plainSize 11 = .ok (.iconst 1, 1) := by decide +kernel
theorem dX8_plainSize_12 : decode cX8_plainSize 12 = .ok (.invokestatic 155, 3) := by decide +kernel
theorem dX8_plainSize_15 : decode cX8_plainSize 15 = .ok (.ireturn, 1) := by decide +kernel
theorem dX8_bitterSize_0 : decode cX8_bitterSize 0 = .ok (.aload_n 0, 1) := by decide +kernel
theorem dX8_bitterSize_1 : decode cX8_bitterSize 1 = .ok (.getfield 19, 3) := by decide +kernel
theorem dX8_bitterSize_4 : decode cX8_bitterSize 4 = .ok (.iload_n 1, 1) := by decide +kernel
theorem dX8_bitterSize_5 : decode cX8_bitterSize 5 = .ok (.iconst 0, 1) := by decide +kernel
theorem dX8_bitterSize_6 : decode cX8_bitterSize 6 = .ok (.invokestatic 155, 3) := by decide +kernel
theorem dX8_bitterSize_9 : decode cX8_bitterSize 9 = .ok (.iconst 5, 1) := by decide +kernel
theorem dX8_bitterSize_10 : decode cX8_bitterSize 10 = .ok (.if_icmp .ne 7, 3) := by decide +kernel
theorem dX8_bitterSize_13 : decode cX8_bitterSize 13 = .ok (.iconst 1, 1) := by decide +kernel
theorem dX8_bitterSize_14 : decode cX8_bitterSize 14 = .ok (.goto 4, 3) := by decide +kernel
theorem dX8_bitterSize_17 : decode cX8_bitterSize 17 = .ok (.iconst 0, 1) := by decide +kernel
theorem dX8_bitterSize_18 : decode cX8_bitterSize 18 = .ok (.istore_n 2, 1) := by decide +kernel
theorem dX8_bitterSize_19 : decode cX8_bitterSize 19 = .ok (.iload_n 2, 1) := by decide +kernel
theorem dX8_bitterSize_20 : decode cX8_bitterSize 20 = .ok (.ifCond .eq 9, 3) := by decide +kernel
theorem dX8_bitterSize_23 : decode cX8_bitterSize 23 = .ok (.aload_n 0, 1) := by decide +kernel
theorem dX8_bitterSize_24 : decode cX8_bitterSize 24 = .ok (.bipush 14, 2) := by decide +kernel
theorem dX8_bitterSize_26 : decode cX8_bitterSize 26 = .ok (.invokevirtual 258, 3) := by decide +kernel
theorem dX8_bitterSize_29 : decode cX8_bitterSize 29 = .ok (.aload_n 0, 1) := by decide +kernel
theorem dX8_bitterSize_30 : decode cX8_bitterSize 30 = .ok (.bipush 13, 2) := by decide +kernel
theorem dX8_bitterSize_32 : decode cX8_bitterSize 32 = .ok (.invokevirtual 258, 3) := by decide +kernel
theorem dX8_bitterSize_35 : decode cX8_bitterSize 35 = .ok (.aload_n 0, 1) := by decide +kernel
theorem dX8_bitterSize_36 : decode cX8_bitterSize 36 = .ok (.iload_n 1, 1) := by decide +kernel
theorem dX8_bitterSize_37 : decode cX8_bitterSize 37 = .ok (.invokevirtual 261, 3) := by decide +kernel
theorem dX8_bitterSize_40 : decode cX8_bitterSize 40 = .ok (.bipush 100, 2) := by decide +kernel
theorem dX8_bitterSize_42 : decode cX8_bitterSize 42 = .ok (.isub, 1) := by decide +kernel
theorem dX8_bitterSize_43 : decode cX8_bitterSize 43 = .ok (.istore_n 3, 1) := by decide +kernel
theorem dX8_bitterSize_44 : decode cX8_bitterSize 44 = .ok (.iload_n 2, 1) := by decide +kernel
theorem dX8_bitterSize_45 : decode cX8_bitterSize 45 = .ok (.ifCond .eq 9, 3) := by decide +kernel
theorem dX8_bitterSize_48 : decode cX8_bitterSize 48 = .ok (.iconst 2, 1) := by decide +kernel
theorem dX8_bitterSize_49 : decode cX8_bitterSize 49 = .ok (.iload_n 3, 1) := by decide +kernel
theorem dX8_bitterSize_50 : decode cX8_bitterSize 50 = .ok (.imul, 1) := by decide +kernel
theorem dX8_bitterSize_51 : decode cX8_bitterSize 51 = .ok (.goto 4, 3) := by decide +kernel
theorem dX8_bitterSize_54 : decode cX8_bitterSize 54 = .ok (.iload_n 3, 1) := by decide +kernel
theorem dX8_bitterSize_55 : decode cX8_bitterSize 55 = .ok (.ireturn, 1) := by decide +kernel
theorem dX8_markOf_0 : decode cX8_markOf 0 = .ok (.aload_n 0, 1) := by decide +kernel
theorem dX8_markOf_1 : decode cX8_markOf 1 = .ok (.getfield 19, 3) := by decide +kernel
theorem dX8_markOf_4 : decode cX8_markOf 4 = .ok (.iload_n 1, 1) := by decide +kernel
theorem dX8_markOf_5 : decode cX8_markOf 5 = .ok (.iconst 0, 1) := by decide +kernel
theorem dX8_markOf_6 : decode cX8_markOf 6 = .ok (.invokestatic 155, 3) := by decide +kernel
theorem dX8_markOf_9 : decode cX8_markOf 9 = .ok (.istore_n 2, 1) := by decide +kernel
theorem dX8_markOf_10 : decode cX8_markOf 10 = .ok (.iload_n 2, 1) := by decide +kernel
theorem dX8_markOf_11 : decode cX8_markOf 11 = .ok (.iconst 4, 1) := by decide +kernel
theorem dX8_markOf_12 : decode cX8_markOf 12 = .ok (.if_icmp .lt 23, 3) := by decide +kernel
theorem dX8_markOf_15 : decode cX8_markOf 15 = .ok (.aload_n 0, 1) := by decide +kernel
theorem dX8_markOf_16 : decode cX8_markOf 16 = .ok (.bipush 23, 2) := by decide +kernel
theorem dX8_markOf_18 : decode cX8_markOf 18 = .ok (.invokevirtual 258, 3) := by decide +kernel
theorem dX8_markOf_21 : decode cX8_markOf 21 = .ok (.aload_n 0, 1) := by decide +kernel
theorem dX8_markOf_22 : decode cX8_markOf 22 = .ok (.bipush 20, 2) := by decide +kernel
theorem dX8_markOf_24 : decode cX8_markOf 24 = .ok (.invokevirtual 258, 3) := by decide +kernel
theorem dX8_markOf_27 : decode cX8_markOf 27 = .ok (.iload_n 1, 1) := by decide +kernel
theorem dX8_markOf_28 : decode cX8_markOf 28 = .ok (.aload_n 0, 1) := by decide +kernel
theorem dX8_markOf_29 : decode cX8_markOf 29 = .ok (.iload_n 1, 1) := by decide +kernel
theorem dX8_markOf_30 : decode cX8_markOf 30 = .ok (.invokevirtual 264, 3) := by decide +kernel
theorem dX8_markOf_33 : decode cX8_markOf 33 = .ok (.isub, 1) := by decide +kernel
theorem dX8_markOf_34 : decode cX8_markOf 34 = .ok (.ireturn, 1) := by decide +kernel
theorem dX8_markOf_35 : decode cX8_markOf 35 = .ok (.iload_n 2, 1) := by decide +kernel
theorem dX8_markOf_36 : decode cX8_markOf 36 = .ok (.iconst 1, 1) := by decide +kernel
theorem dX8_markOf_37 : decode cX8_markOf 37 = .ok (.if_icmp .eq 19, 3) := by decide +kernel
theorem dX8_markOf_40 : decode cX8_markOf 40 = .ok (.aload_n 0, 1) := by decide +kernel
theorem dX8_markOf_41 : decode cX8_markOf 41 = .ok (.iload_n 2, 1) := by decide +kernel
theorem dX8_markOf_42 : decode cX8_markOf 42 = .ok (.iconst 3, 1) := by decide +kernel
theorem dX8_markOf_43 : decode cX8_markOf 43 = .ok (.if_icmp .ne 8, 3) := by decide +kernel
theorem dX8_markOf_46 : decode cX8_markOf 46 = .ok (.bipush 22, 2) := by decide +kernel
theorem dX8_markOf_48 : decode cX8_markOf 48 = .ok (.goto 5, 3) := by decide +kernel
theorem dX8_markOf_51 : decode cX8_markOf 51 = .ok (.bipush 24, 2) := by decide +kernel
theorem dX8_markOf_53 : decode cX8_markOf 53 = .ok (.invokevirtual 258, 3) := by decide +kernel
theorem dX8_markOf_56 : decode cX8_markOf 56 = .ok (.aload_n 0, 1) := by decide +kernel
theorem dX8_markOf_57 : decode cX8_markOf 57 = .ok (.bipush 21, 2) := by decide +kernel
theorem dX8_markOf_59 : decode cX8_markOf 59 = .ok (.invokevirtual 258, 3) := by decide +kernel
theorem dX8_markOf_62 : decode cX8_markOf 62 = .ok (.aload_n 0, 1) := by decide +kernel
theorem dX8_markOf_63 : decode cX8_markOf 63 = .ok (.bipush 20, 2) := by decide +kernel
theorem dX8_markOf_65 : decode cX8_markOf 65 = .ok (.invokevirtual 258, 3) := by decide +kernel
theorem dX8_markOf_68 : decode cX8_markOf 68 = .ok (.iload_n 1, 1) := by decide +kernel
theorem dX8_markOf_69 : decode cX8_markOf 69 = .ok (.aload_n 0, 1) := by decide +kernel
theorem dX8_markOf_70 : decode cX8_markOf 70 = .ok (.getfield 19, 3) := by decide +kernel
theorem dX8_markOf_73 : decode cX8_markOf 73 = .ok (.iload_n 1, 1) := by decide +kernel
theorem dX8_markOf_74 : decode cX8_markOf 74 = .ok (.iconst 4, 1) := by decide +kernel
theorem dX8_markOf_75 : decode cX8_markOf 75 = .ok (.invokestatic 155, 3) := by decide +kernel
theorem dX8_markOf_78 : decode cX8_markOf 78 = .ok (.iadd, 1) := by decide +kernel
theorem dX8_markOf_79 : decode cX8_markOf 79 = .ok (.istore_n 3, 1) := by decide +kernel
theorem dX8_markOf_80 : decode cX8_markOf 80 = .ok (.iload_n 2, 1) := by decide +kernel
theorem dX8_markOf_81 : decode cX8_markOf 81 = .ok (.iconst 1, 1) := by decide +kernel
theorem dX8_markOf_82 : decode cX8_markOf 82 = .ok (.if_icmp .ne 7, 3) := by decide +kernel
theorem dX8_markOf_85 : decode cX8_markOf 85 = .ok (.iload_n 3, 1) := by decide +kernel
theorem dX8_markOf_86 : decode cX8_markOf 86 = .ok (.goto 19, 3) := by decide +kernel
theorem dX8_markOf_89 : decode cX8_markOf 89 = .ok (.iload_n 2, 1) := by decide +kernel
theorem dX8_markOf_90 : decode cX8_markOf 90 = .ok (.iconst 3, 1) := by decide +kernel
theorem dX8_markOf_91 : decode cX8_markOf 91 = .ok (.if_icmp .ne 11, 3) := by decide +kernel
theorem dX8_markOf_94 : decode cX8_markOf 94 = .ok (.iload_n 3, 1) := by decide +kernel
theorem dX8_markOf_95 : decode cX8_markOf 95 = .ok (.sipush 1000, 3) := by decide +kernel
theorem dX8_markOf_98 : decode cX8_markOf 98 = .ok (.isub, 1) := by decide +kernel
theorem dX8_markOf_99 : decode cX8_markOf 99 = .ok (.goto 6, 3) := by decide +kernel
theorem dX8_markOf_102 : decode cX8_markOf 102 = .ok (.iconst 2, 1) := by decide +kernel
theorem dX8_markOf_103 : decode cX8_markOf 103 = .ok (.iload_n 3, 1) := by decide +kernel
theorem dX8_markOf_104 : decode cX8_markOf 104 = .ok (.imul, 1) := by decide +kernel
theorem dX8_markOf_105 : decode cX8_markOf 105 = .ok (.ireturn, 1) := by decide +kernel
theorem dX8_sizeOf_0 : decode cX8_sizeOf 0 = .ok (.aload_n 0, 1) := by decide +kernel
theorem dX8_sizeOf_1 : decode cX8_sizeOf 1 = .ok (.getfield 19, 3) := by decide +kernel
theorem dX8_sizeOf_4 : decode cX8_sizeOf 4 = .ok (.iload_n 1, 1) := by decide +kernel
theorem dX8_sizeOf_5 : decode cX8_sizeOf 5 = .ok (.iconst 0, 1) := by decide +kernel
theorem dX8_sizeOf_6 : decode cX8_sizeOf 6 = .ok (.invokestatic 155, 3) := by decide +kernel
theorem dX8_sizeOf_9 : decode cX8_sizeOf 9 = .ok (.istore_n 2, 1) := by decide +kernel
theorem dX8_sizeOf_10 : decode cX8_sizeOf 10 = .ok (.iload_n 2, 1) := by decide +kernel
theorem dX8_sizeOf_11 : decode cX8_sizeOf 11 = .ok (.iconst 4, 1) := by decide +kernel
theorem dX8_sizeOf_12 : decode cX8_sizeOf 12 = .ok (.if_icmp .lt 9, 3) := by decide +kernel
theorem dX8_sizeOf_15 : decode cX8_sizeOf 15 = .ok (.aload_n 0, 1) := by decide +kernel
theorem dX8_sizeOf_16 : decode cX8_sizeOf 16 = .ok (.iload_n 1, 1) := by decide +kernel
theorem dX8_sizeOf_17 : decode cX8_sizeOf 17 = .ok (.invokevirtual 264, 3) := by decide +kernel
theorem dX8_sizeOf_20 : decode cX8_sizeOf 20 = .ok (.ireturn, 1) := by decide +kernel
theorem dX8_sizeOf_21 : decode cX8_sizeOf 21 = .ok (.iload_n 2, 1) := by decide +kernel
theorem dX8_sizeOf_22 : decode cX8_sizeOf 22 = .ok (.iconst 2, 1) := by decide +kernel
theorem dX8_sizeOf_23 : decode cX8_sizeOf 23 = .ok (.if_icmp .ne 9, 3) := by decide +kernel
theorem dX8_sizeOf_26 : decode cX8_sizeOf 26 = .ok (.aload_n 0, 1) := by decide +kernel
theorem dX8_sizeOf_27 : decode cX8_sizeOf 27 = .ok (.bipush 12, 2) := by decide +kernel
theorem dX8_sizeOf_29 : decode cX8_sizeOf 29 = .ok (.invokevirtual 258, 3) := by decide +kernel
theorem dX8_sizeOf_32 : decode cX8_sizeOf 32 = .ok (.aload_n 0, 1) := by decide +kernel
theorem dX8_sizeOf_33 : decode cX8_sizeOf 33 = .ok (.bipush 11, 2) := by decide +kernel
theorem dX8_sizeOf_35 : decode cX8_sizeOf 35 = .ok (.invokevirtual 258, 3) := by decide +kernel
theorem dX8_sizeOf_38 : decode cX8_sizeOf 38 = .ok (.aload_n 0, 1) := by decide +kernel
theorem dX8_sizeOf_39 : decode cX8_sizeOf 39 = .ok (.iload_n 1, 1) := by decide +kernel
theorem dX8_sizeOf_40 : decode cX8_sizeOf 40 = .ok (.invokevirtual 261, 3) := by decide +kernel
theorem dX8_sizeOf_43 : decode cX8_sizeOf 43 = .ok (.istore_n 3, 1) := by decide +kernel
theorem dX8_sizeOf_44 : decode cX8_sizeOf 44 = .ok (.iload_n 3, 1) := by decide +kernel
theorem dX8_sizeOf_45 : decode cX8_sizeOf 45 = .ok (.aload_n 0, 1) := by decide +kernel
theorem dX8_sizeOf_46 : decode cX8_sizeOf 46 = .ok (.iload_n 1, 1) := by decide +kernel
theorem dX8_sizeOf_47 : decode cX8_sizeOf 47 = .ok (.invokevirtual 267, 3) := by decide +kernel
theorem dX8_sizeOf_50 : decode cX8_sizeOf 50 = .ok (.iadd, 1) := by decide +kernel
theorem dX8_sizeOf_51 : decode cX8_sizeOf 51 = .ok (.istore_n 3, 1) := by decide +kernel
theorem dX8_sizeOf_52 : decode cX8_sizeOf 52 = .ok (.iload_n 2, 1) := by decide +kernel
theorem dX8_sizeOf_53 : decode cX8_sizeOf 53 = .ok (.iconst 2, 1) := by decide +kernel
theorem dX8_sizeOf_54 : decode cX8_sizeOf 54 = .ok (.if_icmp .ne 8, 3) := by decide +kernel
theorem dX8_sizeOf_57 : decode cX8_sizeOf 57 = .ok (.iload_n 3, 1) := by decide +kernel
theorem dX8_sizeOf_58 : decode cX8_sizeOf 58 = .ok (.ineg, 1) := by decide +kernel
theorem dX8_sizeOf_59 : decode cX8_sizeOf 59 = .ok (.goto 4, 3) := by decide +kernel
theorem dX8_sizeOf_62 : decode cX8_sizeOf 62 = .ok (.iload_n 3, 1) := by decide +kernel
