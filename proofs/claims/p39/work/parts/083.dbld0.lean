theorem dL_build_0 : decode cL_build 0 = .ok (.aload 6, 2) := by decide +kernel
theorem dL_build_2 : decode cL_build 2 = .ok (.iconst 0, 1) := by decide +kernel
theorem dL_build_3 : decode cL_build 3 = .ok (.iconst 1, 1) := by decide +kernel
theorem dL_build_4 : decode cL_build 4 = .ok (.aload_n 1, 1) := by decide +kernel
theorem dL_build_5 : decode cL_build 5 = .ok (.iload_n 2, 1) := by decide +kernel
theorem dL_build_6 : decode cL_build 6 = .ok (.invokestatic 9, 3) := by decide +kernel
theorem dL_build_9 : decode cL_build 9 = .ok (.iload_n 3, 1) := by decide +kernel
theorem dL_build_10 : decode cL_build 10 = .ok (.invokestatic 15, 3) := by decide +kernel
theorem dL_build_13 : decode cL_build 13 = .ok (.iadd, 1) := by decide +kernel
theorem dL_build_14 : decode cL_build 14 = .ok (.iastore, 1) := by decide +kernel
theorem dL_build_15 : decode cL_build 15 = .ok (.aload 4, 2) := by decide +kernel
theorem dL_build_17 : decode cL_build 17 = .ok (.iconst 0, 1) := by decide +kernel
theorem dL_build_18 : decode cL_build 18 = .ok (.iconst (-1), 1) := by decide +kernel
theorem dL_build_19 : decode cL_build 19 = .ok (.iastore, 1) := by decide +kernel
theorem dL_build_20 : decode cL_build 20 = .ok (.iconst 1, 1) := by decide +kernel
theorem dL_build_21 : decode cL_build 21 = .ok (.istore 7, 2) := by decide +kernel
theorem dL_build_23 : decode cL_build 23 = .ok (.iload 7, 2) := by decide +kernel
theorem dL_build_25 : decode cL_build 25 = .ok (.aload 6, 2) := by decide +kernel
theorem dL_build_27 : decode cL_build 27 = .ok (.iconst 0, 1) := by decide +kernel
theorem dL_build_28 : decode cL_build 28 = .ok (.iaload, 1) := by decide +kernel
theorem dL_build_29 : decode cL_build 29 = .ok (.if_icmp .ge 88, 3) := by decide +kernel
theorem dL_build_32 : decode cL_build 32 = .ok (.aload_n 1, 1) := by decide +kernel
theorem dL_build_33 : decode cL_build 33 = .ok (.iload_n 2, 1) := by decide +kernel
theorem dL_build_34 : decode cL_build 34 = .ok (.iconst 1, 1) := by decide +kernel
theorem dL_build_35 : decode cL_build 35 = .ok (.iadd, 1) := by decide +kernel
theorem dL_build_36 : decode cL_build 36 = .ok (.iload 7, 2) := by decide +kernel
theorem dL_build_38 : decode cL_build 38 = .ok (.iconst 5, 1) := by decide +kernel
theorem dL_build_39 : decode cL_build 39 = .ok (.irem, 1) := by decide +kernel
theorem dL_build_40 : decode cL_build 40 = .ok (.iadd, 1) := by decide +kernel
theorem dL_build_41 : decode cL_build 41 = .ok (.invokestatic 9, 3) := by decide +kernel
theorem dL_build_44 : decode cL_build 44 = .ok (.iload 7, 2) := by decide +kernel
theorem dL_build_46 : decode cL_build 46 = .ok (.iconst 5, 1) := by decide +kernel
theorem dL_build_47 : decode cL_build 47 = .ok (.idiv, 1) := by decide +kernel
theorem dL_build_48 : decode cL_build 48 = .ok (.iconst 4, 1) := by decide +kernel
theorem dL_build_49 : decode cL_build 49 = .ok (.imul, 1) := by decide +kernel
theorem dL_build_50 : decode cL_build 50 = .ok (.ishr, 1) := by decide +kernel
theorem dL_build_51 : decode cL_build 51 = .ok (.istore 8, 2) := by decide +kernel
theorem dL_build_53 : decode cL_build 53 = .ok (.aload 4, 2) := by decide +kernel
theorem dL_build_55 : decode cL_build 55 = .ok (.iconst 5, 1) := by decide +kernel
theorem dL_build_56 : decode cL_build 56 = .ok (.iload 7, 2) := by decide +kernel
theorem dL_build_58 : decode cL_build 58 = .ok (.imul, 1) := by decide +kernel
theorem dL_build_59 : decode cL_build 59 = .ok (.iload 8, 2) := by decide +kernel
theorem dL_build_61 : decode cL_build 61 = .ok (.iload 7, 2) := by decide +kernel
theorem dL_build_63 : decode cL_build 63 = .ok (.invokestatic 15, 3) := by decide +kernel
theorem dL_build_66 : decode cL_build 66 = .ok (.iastore, 1) := by decide +kernel
theorem dL_build_67 : decode cL_build 67 = .ok (.aload 4, 2) := by decide +kernel
theorem dL_build_69 : decode cL_build 69 = .ok (.iconst 5, 1) := by decide +kernel
theorem dL_build_70 : decode cL_build 70 = .ok (.iload 7, 2) := by decide +kernel
theorem dL_build_72 : decode cL_build 72 = .ok (.imul, 1) := by decide +kernel
theorem dL_build_73 : decode cL_build 73 = .ok (.iconst 1, 1) := by decide +kernel
theorem dL_build_74 : decode cL_build 74 = .ok (.iadd, 1) := by decide +kernel
theorem dL_build_75 : decode cL_build 75 = .ok (.iload 8, 2) := by decide +kernel
theorem dL_build_77 : decode cL_build 77 = .ok (.iconst 4, 1) := by decide +kernel
theorem dL_build_78 : decode cL_build 78 = .ok (.ishr, 1) := by decide +kernel
theorem dL_build_79 : decode cL_build 79 = .ok (.iconst 4, 1) := by decide +kernel
theorem dL_build_80 : decode cL_build 80 = .ok (.invokestatic 15, 3) := by decide +kernel
theorem dL_build_83 : decode cL_build 83 = .ok (.iastore, 1) := by decide +kernel
theorem dL_build_84 : decode cL_build 84 = .ok (.aload_n 0, 1) := by decide +kernel
theorem dL_build_85 : decode cL_build 85 = .ok (.aload 4, 2) := by decide +kernel
theorem dL_build_87 : decode cL_build 87 = .ok (.iconst 5, 1) := by decide +kernel
theorem dL_build_88 : decode cL_build 88 = .ok (.iload 7, 2) := by decide +kernel
theorem dL_build_90 : decode cL_build 90 = .ok (.imul, 1) := by decide +kernel
theorem dL_build_91 : decode cL_build 91 = .ok (.iaload, 1) := by decide +kernel
theorem dL_build_92 : decode cL_build 92 = .ok (.aload 4, 2) := by decide +kernel
theorem dL_build_94 : decode cL_build 94 = .ok (.iconst 5, 1) := by decide +kernel
theorem dL_build_95 : decode cL_build 95 = .ok (.iload 7, 2) := by decide +kernel
theorem dL_build_97 : decode cL_build 97 = .ok (.imul, 1) := by decide +kernel
theorem dL_build_98 : decode cL_build 98 = .ok (.iconst 1, 1) := by decide +kernel
theorem dL_build_99 : decode cL_build 99 = .ok (.iadd, 1) := by decide +kernel
theorem dL_build_100 : decode cL_build 100 = .ok (.iaload, 1) := by decide +kernel
theorem dL_build_101 : decode cL_build 101 = .ok (.invokevirtual 19, 3) := by decide +kernel
theorem dL_build_104 : decode cL_build 104 = .ok (.iload 7, 2) := by decide +kernel
theorem dL_build_106 : decode cL_build 106 = .ok (.if_icmp .eq 5, 3) := by decide +kernel
theorem dL_build_109 : decode cL_build 109 = .ok (.iconst 0, 1) := by decide +kernel
theorem dL_build_110 : decode cL_build 110 = .ok (.ireturn, 1) := by decide +kernel
theorem dL_build_111 : decode cL_build 111 = .ok (.iinc 7 1, 3) := by decide +kernel
theorem dL_build_114 : decode cL_build 114 = .ok (.goto (-91), 3) := by decide +kernel
theorem dL_build_117 : decode cL_build 117 = .ok (.iconst 0, 1) := by decide +kernel
theorem dL_build_118 : decode cL_build 118 = .ok (.istore 7, 2) := by decide +kernel
theorem dL_build_120 : decode cL_build 120 = .ok (.iload 7, 2) := by decide +kernel
theorem dL_build_122 : decode cL_build 122 = .ok (.aload 6, 2) := by decide +kernel
theorem dL_build_124 : decode cL_build 124 = .ok (.iconst 0, 1) := by decide +kernel
theorem dL_build_125 : decode cL_build 125 = .ok (.iaload, 1) := by decide +kernel
theorem dL_build_126 : decode cL_build 126 = .ok (.if_icmp .ge 175, 3) := by decide +kernel
theorem dL_build_129 : decode cL_build 129 = .ok (.aload_n 1, 1) := by decide +kernel
theorem dL_build_130 : decode cL_build 130 = .ok (.iload_n 2, 1) := by decide +kernel
theorem dL_build_131 : decode cL_build 131 = .ok (.bipush 6, 2) := by decide +kernel
theorem dL_build_133 : decode cL_build 133 = .ok (.iadd, 1) := by decide +kernel
theorem dL_build_134 : decode cL_build 134 = .ok (.iload 7, 2) := by decide +kernel
theorem dL_build_136 : decode cL_build 136 = .ok (.iconst 4, 1) := by decide +kernel
theorem dL_build_137 : decode cL_build 137 = .ok (.irem, 1) := by decide +kernel
theorem dL_build_138 : decode cL_build 138 = .ok (.iadd, 1) := by decide +kernel
theorem dL_build_139 : decode cL_build 139 = .ok (.invokestatic 9, 3) := by decide +kernel
theorem dL_build_142 : decode cL_build 142 = .ok (.iload 7, 2) := by decide +kernel
theorem dL_build_144 : decode cL_build 144 = .ok (.iconst 4, 1) := by decide +kernel
theorem dL_build_145 : decode cL_build 145 = .ok (.idiv, 1) := by decide +kernel
theorem dL_build_146 : decode cL_build 146 = .ok (.iconst 5, 1) := by decide +kernel
theorem dL_build_147 : decode cL_build 147 = .ok (.imul, 1) := by decide +kernel
theorem dL_build_148 : decode cL_build 148 = .ok (.ishr, 1) := by decide +kernel
theorem dL_build_149 : decode cL_build 149 = .ok (.istore 8, 2) := by decide +kernel
theorem dL_build_151 : decode cL_build 151 = .ok (.aload 4, 2) := by decide +kernel
theorem dL_build_153 : decode cL_build 153 = .ok (.iconst 5, 1) := by decide +kernel
theorem dL_build_154 : decode cL_build 154 = .ok (.iload 7, 2) := by decide +kernel
theorem dL_build_156 : decode cL_build 156 = .ok (.imul, 1) := by decide +kernel
theorem dL_build_157 : decode cL_build 157 = .ok (.iconst 2, 1) := by decide +kernel
theorem dL_build_158 : decode cL_build 158 = .ok (.iadd, 1) := by decide +kernel
theorem dL_build_159 : decode cL_build 159 = .ok (.iload 8, 2) := by decide +kernel
theorem dL_build_161 : decode cL_build 161 = .ok (.bipush 7, 2) := by decide +kernel
theorem dL_build_163 : decode cL_build 163 = .ok (.invokestatic 15, 3) := by decide +kernel
theorem dL_build_166 : decode cL_build 166 = .ok (.iastore, 1) := by decide +kernel
theorem dL_build_167 : decode cL_build 167 = .ok (.aload 4, 2) := by decide +kernel
theorem dL_build_169 : decode cL_build 169 = .ok (.iconst 5, 1) := by decide +kernel
theorem dL_build_170 : decode cL_build 170 = .ok (.iload 7, 2) := by decide +kernel
theorem dL_build_172 : decode cL_build 172 = .ok (.imul, 1) := by decide +kernel
theorem dL_build_173 : decode cL_build 173 = .ok (.iconst 3, 1) := by decide +kernel
theorem dL_build_174 : decode cL_build 174 = .ok (.iadd, 1) := by decide +kernel
theorem dL_build_175 : decode cL_build 175 = .ok (.iload 8, 2) := by decide +kernel
theorem dL_build_177 : decode cL_build 177 = .ok (.iconst 3, 1) := by decide +kernel
theorem dL_build_178 : decode cL_build 178 = .ok (.ishr, 1) := by decide +kernel
theorem dL_build_179 : decode cL_build 179 = .ok (.bipush 7, 2) := by decide +kernel
theorem dL_build_181 : decode cL_build 181 = .ok (.invokestatic 15, 3) := by decide +kernel
theorem dL_build_184 : decode cL_build 184 = .ok (.iastore, 1) := by decide +kernel
theorem dL_build_185 : decode cL_build 185 = .ok (.aload 4, 2) := by decide +kernel
theorem dL_build_187 : decode cL_build 187 = .ok (.iconst 5, 1) := by decide +kernel
theorem dL_build_188 : decode cL_build 188 = .ok (.iload 7, 2) := by decide +kernel
theorem dL_build_190 : decode cL_build 190 = .ok (.imul, 1) := by decide +kernel
theorem dL_build_191 : decode cL_build 191 = .ok (.iconst 4, 1) := by decide +kernel
theorem dL_build_192 : decode cL_build 192 = .ok (.iadd, 1) := by decide +kernel
theorem dL_build_193 : decode cL_build 193 = .ok (.iload 8, 2) := by decide +kernel
theorem dL_build_195 : decode cL_build 195 = .ok (.bipush 6, 2) := by decide +kernel
theorem dL_build_197 : decode cL_build 197 = .ok (.ishr, 1) := by decide +kernel
theorem dL_build_198 : decode cL_build 198 = .ok (.iconst 4, 1) := by decide +kernel
theorem dL_build_199 : decode cL_build 199 = .ok (.invokestatic 15, 3) := by decide +kernel
theorem dL_build_202 : decode cL_build 202 = .ok (.ifCond .ne 17, 3) := by decide +kernel
theorem dL_build_205 : decode cL_build 205 = .ok (.iconst 1, 1) := by decide +kernel
theorem dL_build_206 : decode cL_build 206 = .ok (.iload 8, 2) := by decide +kernel
theorem dL_build_208 : decode cL_build 208 = .ok (.bipush 8, 2) := by decide +kernel
theorem dL_build_210 : decode cL_build 210 = .ok (.ishr, 1) := by decide +kernel
theorem dL_build_211 : decode cL_build 211 = .ok (.iconst 2, 1) := by decide +kernel
theorem dL_build_212 : decode cL_build 212 = .ok (.invokestatic 15, 3) := by decide +kernel
theorem dL_build_215 : decode cL_build 215 = .ok (.iadd, 1) := by decide +kernel
theorem dL_build_216 : decode cL_build 216 = .ok (.goto 4, 3) := by decide +kernel
theorem dL_build_219 : decode cL_build 219 = .ok (.iconst 0, 1) := by decide +kernel
theorem dL_build_220 : decode cL_build 220 = .ok (.iastore, 1) := by decide +kernel
theorem dL_build_221 : decode cL_build 221 = .ok (.aload_n 0, 1) := by decide +kernel
theorem dL_build_222 : decode cL_build 222 = .ok (.iload 7, 2) := by decide +kernel
theorem dL_build_224 : decode cL_build 224 = .ok (.aload 4, 2) := by decide +kernel
theorem dL_build_226 : decode cL_build 226 = .ok (.iconst 5, 1) := by decide +kernel
theorem dL_build_227 : decode cL_build 227 = .ok (.iload 7, 2) := by decide +kernel
theorem dL_build_229 : decode cL_build 229 = .ok (.imul, 1) := by decide +kernel
theorem dL_build_230 : decode cL_build 230 = .ok (.iconst 2, 1) := by decide +kernel
theorem dL_build_231 : decode cL_build 231 = .ok (.iadd, 1) := by decide +kernel
theorem dL_build_232 : decode cL_build 232 = .ok (.iaload, 1) := by decide +kernel
theorem dL_build_233 : decode cL_build 233 = .ok (.aload 4, 2) := by decide +kernel
theorem dL_build_235 : decode cL_build 235 = .ok (.iconst 5, 1) := by decide +kernel
theorem dL_build_236 : decode cL_build 236 = .ok (.iload 7, 2) := by decide +kernel
theorem dL_build_238 : decode cL_build 238 = .ok (.imul, 1) := by decide +kernel
theorem dL_build_239 : decode cL_build 239 = .ok (.iconst 3, 1) := by decide +kernel
theorem dL_build_240 : decode cL_build 240 = .ok (.iadd, 1) := by decide +kernel
theorem dL_build_241 : decode cL_build 241 = .ok (.iaload, 1) := by decide +kernel
theorem dL_build_242 : decode cL_build 242 = .ok (.invokevirtual 24, 3) := by decide +kernel
theorem dL_build_245 : decode cL_build 245 = .ok (.aload 4, 2) := by decide +kernel
theorem dL_build_247 : decode cL_build 247 = .ok (.iconst 5, 1) := by decide +kernel
theorem dL_build_248 : decode cL_build 248 = .ok (.iload 7, 2) := by decide +kernel
theorem dL_build_250 : decode cL_build 250 = .ok (.imul, 1) := by decide +kernel
theorem dL_build_251 : decode cL_build 251 = .ok (.iconst 2, 1) := by decide +kernel
theorem dL_build_252 : decode cL_build 252 = .ok (.iadd, 1) := by decide +kernel
theorem dL_build_253 : decode cL_build 253 = .ok (.iaload, 1) := by decide +kernel
theorem dL_build_254 : decode cL_build 254 = .ok (.aload 4, 2) := by decide +kernel
theorem dL_build_256 : decode cL_build 256 = .ok (.iconst 5, 1) := by decide +kernel
theorem dL_build_257 : decode cL_build 257 = .ok (.iload 7, 2) := by decide +kernel
theorem dL_build_259 : decode cL_build 259 = .ok (.imul, 1) := by decide +kernel
theorem dL_build_260 : decode cL_build 260 = .ok (.iconst 3, 1) := by decide +kernel
theorem dL_build_261 : decode cL_build 261 = .ok (.iadd, 1) := by decide +kernel
theorem dL_build_262 : decode cL_build 262 = .ok (.iaload, 1) := by decide +kernel
theorem dL_build_263 : decode cL_build 263 = .ok (.iadd, 1) := by decide +kernel
theorem dL_build_264 : decode cL_build 264 = .ok (.ifCond .le 7, 3) := by decide +kernel
theorem dL_build_267 : decode cL_build 267 = .ok (.iconst 1, 1) := by decide +kernel
theorem dL_build_268 : decode cL_build 268 = .ok (.goto 4, 3) := by decide +kernel
theorem dL_build_271 : decode cL_build 271 = .ok (.iconst 0, 1) := by decide +kernel
