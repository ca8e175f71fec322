theorem d_L_law_25 : decode b_L_law 25 = .ok (.aload_n 0, 1) := by decide +kernel
theorem d_L_law_26 : decode b_L_law 26 = .ok (.arraylength, 1) := by decide +kernel
theorem d_L_law_27 : decode b_L_law 27 = .ok (.bipush (6), 2) := by decide +kernel
theorem d_L_law_29 : decode b_L_law 29 = .ok (.isub, 1) := by decide +kernel
theorem d_L_law_30 : decode b_L_law 30 = .ok (.if_icmp .gt (550), 3) := by decide +kernel
theorem d_L_law_33 : decode b_L_law 33 = .ok (.aload_n 0, 1) := by decide +kernel
theorem d_L_law_34 : decode b_L_law 34 = .ok (.iload 4, 2) := by decide +kernel
theorem d_L_law_36 : decode b_L_law 36 = .ok (.iaload, 1) := by decide +kernel
theorem d_L_law_37 : decode b_L_law 37 = .ok (.bipush (15), 2) := by decide +kernel
theorem d_L_law_39 : decode b_L_law 39 = .ok (.iand, 1) := by decide +kernel
theorem d_L_law_40 : decode b_L_law 40 = .ok (.tableswitch (534) (0) (10) #[60, 128, 141, 245, 256, 324, 373, 410, 447, 472, 509], 60) := by decide +kernel
theorem d_L_law_100 : decode b_L_law 100 = .ok (.aload_n 1, 1) := by decide +kernel
theorem d_L_law_101 : decode b_L_law 101 = .ok (.aload_n 0, 1) := by decide +kernel
theorem d_L_law_102 : decode b_L_law 102 = .ok (.iload 4, 2) := by decide +kernel
theorem d_L_law_104 : decode b_L_law 104 = .ok (.iconst 1, 1) := by decide +kernel
theorem d_L_law_105 : decode b_L_law 105 = .ok (.iadd, 1) := by decide +kernel
theorem d_L_law_106 : decode b_L_law 106 = .ok (.iaload, 1) := by decide +kernel
theorem d_L_law_107 : decode b_L_law 107 = .ok (.aload_n 0, 1) := by decide +kernel
theorem d_L_law_108 : decode b_L_law 108 = .ok (.iload 4, 2) := by decide +kernel
theorem d_L_law_110 : decode b_L_law 110 = .ok (.iconst 2, 1) := by decide +kernel
theorem d_L_law_111 : decode b_L_law 111 = .ok (.iadd, 1) := by decide +kernel
theorem d_L_law_112 : decode b_L_law 112 = .ok (.iaload, 1) := by decide +kernel
theorem d_L_law_113 : decode b_L_law 113 = .ok (.aload_n 3, 1) := by decide +kernel
theorem d_L_law_114 : decode b_L_law 114 = .ok (.invokestatic 28, 3) := by decide +kernel
theorem d_L_law_117 : decode b_L_law 117 = .ok (.istore 5, 2) := by decide +kernel
theorem d_L_law_119 : decode b_L_law 119 = .ok (.aload_n 2, 1) := by decide +kernel
theorem d_L_law_120 : decode b_L_law 120 = .ok (.aload_n 0, 1) := by decide +kernel
theorem d_L_law_121 : decode b_L_law 121 = .ok (.iload 4, 2) := by decide +kernel
theorem d_L_law_123 : decode b_L_law 123 = .ok (.iconst 1, 1) := by decide +kernel
theorem d_L_law_124 : decode b_L_law 124 = .ok (.iadd, 1) := by decide +kernel
theorem d_L_law_125 : decode b_L_law 125 = .ok (.iaload, 1) := by decide +kernel
theorem d_L_law_126 : decode b_L_law 126 = .ok (.aload_n 0, 1) := by decide +kernel
theorem d_L_law_127 : decode b_L_law 127 = .ok (.iload 4, 2) := by decide +kernel
theorem d_L_law_129 : decode b_L_law 129 = .ok (.iconst 2, 1) := by decide +kernel
theorem d_L_law_130 : decode b_L_law 130 = .ok (.iadd, 1) := by decide +kernel
theorem d_L_law_131 : decode b_L_law 131 = .ok (.iaload, 1) := by decide +kernel
theorem d_L_law_132 : decode b_L_law 132 = .ok (.invokevirtual 33, 3) := by decide +kernel
theorem d_L_law_135 : decode b_L_law 135 = .ok (.istore 6, 2) := by decide +kernel
theorem d_L_law_137 : decode b_L_law 137 = .ok (.aload_n 2, 1) := by decide +kernel
theorem d_L_law_138 : decode b_L_law 138 = .ok (.invokevirtual 34, 3) := by decide +kernel
theorem d_L_law_141 : decode b_L_law 141 = .ok (.iload 5, 2) := by decide +kernel
theorem d_L_law_143 : decode b_L_law 143 = .ok (.if_icmp .eq (5), 3) := by decide +kernel
theorem d_L_law_146 : decode b_L_law 146 = .ok (.iconst 0, 1) := by decide +kernel
theorem d_L_law_147 : decode b_L_law 147 = .ok (.ireturn, 1) := by decide +kernel
theorem d_L_law_148 : decode b_L_law 148 = .ok (.iload 5, 2) := by decide +kernel
theorem d_L_law_150 : decode b_L_law 150 = .ok (.ifCond .ne (15), 3) := by decide +kernel
theorem d_L_law_153 : decode b_L_law 153 = .ok (.aload_n 3, 1) := by decide +kernel
theorem d_L_law_154 : decode b_L_law 154 = .ok (.iconst 0, 1) := by decide +kernel
theorem d_L_law_155 : decode b_L_law 155 = .ok (.laload, 1) := by decide +kernel
theorem d_L_law_156 : decode b_L_law 156 = .ok (.iload 6, 2) := by decide +kernel
theorem d_L_law_158 : decode b_L_law 158 = .ok (.i2l, 1) := by decide +kernel
theorem d_L_law_159 : decode b_L_law 159 = .ok (.lcmp, 1) := by decide +kernel
theorem d_L_law_160 : decode b_L_law 160 = .ok (.ifCond .eq (5), 3) := by decide +kernel
theorem d_L_law_163 : decode b_L_law 163 = .ok (.iconst 0, 1) := by decide +kernel
theorem d_L_law_164 : decode b_L_law 164 = .ok (.ireturn, 1) := by decide +kernel
theorem d_L_law_165 : decode b_L_law 165 = .ok (.goto (409), 3) := by decide +kernel
theorem d_L_law_168 : decode b_L_law 168 = .ok (.aload_n 1, 1) := by decide +kernel
theorem d_L_law_169 : decode b_L_law 169 = .ok (.invokevirtual 38, 3) := by decide +kernel
theorem d_L_law_172 : decode b_L_law 172 = .ok (.aload_n 2, 1) := by decide +kernel
theorem d_L_law_173 : decode b_L_law 173 = .ok (.invokevirtual 41, 3) := by decide +kernel
theorem d_L_law_176 : decode b_L_law 176 = .ok (.if_icmp .eq (398), 3) := by decide +kernel
theorem d_L_law_179 : decode b_L_law 179 = .ok (.iconst 0, 1) := by decide +kernel
theorem d_L_law_180 : decode b_L_law 180 = .ok (.ireturn, 1) := by decide +kernel
theorem d_L_law_181 : decode b_L_law 181 = .ok (.aload_n 1, 1) := by decide +kernel
theorem d_L_law_182 : decode b_L_law 182 = .ok (.aload_n 0, 1) := by decide +kernel
theorem d_L_law_183 : decode b_L_law 183 = .ok (.iload 4, 2) := by decide +kernel
theorem d_L_law_185 : decode b_L_law 185 = .ok (.iconst 1, 1) := by decide +kernel
theorem d_L_law_186 : decode b_L_law 186 = .ok (.iadd, 1) := by decide +kernel
theorem d_L_law_187 : decode b_L_law 187 = .ok (.iaload, 1) := by decide +kernel
theorem d_L_law_188 : decode b_L_law 188 = .ok (.aload_n 0, 1) := by decide +kernel
theorem d_L_law_189 : decode b_L_law 189 = .ok (.iload 4, 2) := by decide +kernel
theorem d_L_law_191 : decode b_L_law 191 = .ok (.iconst 2, 1) := by decide +kernel
theorem d_L_law_192 : decode b_L_law 192 = .ok (.iadd, 1) := by decide +kernel
theorem d_L_law_193 : decode b_L_law 193 = .ok (.iaload, 1) := by decide +kernel
theorem d_L_law_194 : decode b_L_law 194 = .ok (.aload_n 0, 1) := by decide +kernel
theorem d_L_law_195 : decode b_L_law 195 = .ok (.iload 4, 2) := by decide +kernel
theorem d_L_law_197 : decode b_L_law 197 = .ok (.iconst 3, 1) := by decide +kernel
theorem d_L_law_198 : decode b_L_law 198 = .ok (.iadd, 1) := by decide +kernel
theorem d_L_law_199 : decode b_L_law 199 = .ok (.iaload, 1) := by decide +kernel
theorem d_L_law_200 : decode b_L_law 200 = .ok (.aload_n 0, 1) := by decide +kernel
theorem d_L_law_201 : decode b_L_law 201 = .ok (.iload 4, 2) := by decide +kernel
theorem d_L_law_203 : decode b_L_law 203 = .ok (.iconst 4, 1) := by decide +kernel
theorem d_L_law_204 : decode b_L_law 204 = .ok (.iadd, 1) := by decide +kernel
theorem d_L_law_205 : decode b_L_law 205 = .ok (.iaload, 1) := by decide +kernel
theorem d_L_law_206 : decode b_L_law 206 = .ok (.aload_n 0, 1) := by decide +kernel
theorem d_L_law_207 : decode b_L_law 207 = .ok (.iload 4, 2) := by decide +kernel
theorem d_L_law_209 : decode b_L_law 209 = .ok (.iconst 5, 1) := by decide +kernel
theorem d_L_law_210 : decode b_L_law 210 = .ok (.iadd, 1) := by decide +kernel
theorem d_L_law_211 : decode b_L_law 211 = .ok (.iaload, 1) := by decide +kernel
theorem d_L_law_212 : decode b_L_law 212 = .ok (.aload_n 3, 1) := by decide +kernel
theorem d_L_law_213 : decode b_L_law 213 = .ok (.invokestatic 42, 3) := by decide +kernel
theorem d_L_law_216 : decode b_L_law 216 = .ok (.istore 5, 2) := by decide +kernel
theorem d_L_law_218 : decode b_L_law 218 = .ok (.aload_n 2, 1) := by decide +kernel
theorem d_L_law_219 : decode b_L_law 219 = .ok (.aload_n 0, 1) := by decide +kernel
theorem d_L_law_220 : decode b_L_law 220 = .ok (.iload 4, 2) := by decide +kernel
theorem d_L_law_222 : decode b_L_law 222 = .ok (.iconst 1, 1) := by decide +kernel
theorem d_L_law_223 : decode b_L_law 223 = .ok (.iadd, 1) := by decide +kernel
theorem d_L_law_224 : decode b_L_law 224 = .ok (.iaload, 1) := by decide +kernel
theorem d_L_law_225 : decode b_L_law 225 = .ok (.aload_n 0, 1) := by decide +kernel
theorem d_L_law_226 : decode b_L_law 226 = .ok (.iload 4, 2) := by decide +kernel
theorem d_L_law_228 : decode b_L_law 228 = .ok (.iconst 2, 1) := by decide +kernel
theorem d_L_law_229 : decode b_L_law 229 = .ok (.iadd, 1) := by decide +kernel
theorem d_L_law_230 : decode b_L_law 230 = .ok (.iaload, 1) := by decide +kernel
theorem d_L_law_231 : decode b_L_law 231 = .ok (.aload_n 0, 1) := by decide +kernel
theorem d_L_law_232 : decode b_L_law 232 = .ok (.iload 4, 2) := by decide +kernel
theorem d_L_law_234 : decode b_L_law 234 = .ok (.iconst 3, 1) := by decide +kernel
theorem d_L_law_235 : decode b_L_law 235 = .ok (.iadd, 1) := by decide +kernel
theorem d_L_law_236 : decode b_L_law 236 = .ok (.iaload, 1) := by decide +kernel
theorem d_L_law_237 : decode b_L_law 237 = .ok (.aload_n 0, 1) := by decide +kernel
theorem d_L_law_238 : decode b_L_law 238 = .ok (.iload 4, 2) := by decide +kernel
theorem d_L_law_240 : decode b_L_law 240 = .ok (.iconst 4, 1) := by decide +kernel
theorem d_L_law_241 : decode b_L_law 241 = .ok (.iadd, 1) := by decide +kernel
theorem d_L_law_242 : decode b_L_law 242 = .ok (.iaload, 1) := by decide +kernel
theorem d_L_law_243 : decode b_L_law 243 = .ok (.aload_n 0, 1) := by decide +kernel
theorem d_L_law_244 : decode b_L_law 244 = .ok (.iload 4, 2) := by decide +kernel
theorem d_L_law_246 : decode b_L_law 246 = .ok (.iconst 5, 1) := by decide +kernel
theorem d_L_law_247 : decode b_L_law 247 = .ok (.iadd, 1) := by decide +kernel
theorem d_L_law_248 : decode b_L_law 248 = .ok (.iaload, 1) := by decide +kernel
theorem d_L_law_249 : decode b_L_law 249 = .ok (.invokevirtual 45, 3) := by decide +kernel
theorem d_L_law_252 : decode b_L_law 252 = .ok (.istore 6, 2) := by decide +kernel
theorem d_L_law_254 : decode b_L_law 254 = .ok (.aload_n 2, 1) := by decide +kernel
theorem d_L_law_255 : decode b_L_law 255 = .ok (.invokevirtual 34, 3) := by decide +kernel
theorem d_L_law_258 : decode b_L_law 258 = .ok (.iload 5, 2) := by decide +kernel
theorem d_L_law_260 : decode b_L_law 260 = .ok (.if_icmp .eq (5), 3) := by decide +kernel
theorem d_L_law_263 : decode b_L_law 263 = .ok (.iconst 0, 1) := by decide +kernel
theorem d_L_law_264 : decode b_L_law 264 = .ok (.ireturn, 1) := by decide +kernel
theorem d_L_law_265 : decode b_L_law 265 = .ok (.iload 5, 2) := by decide +kernel
theorem d_L_law_267 : decode b_L_law 267 = .ok (.ifCond .ne (15), 3) := by decide +kernel
theorem d_L_law_270 : decode b_L_law 270 = .ok (.aload_n 3, 1) := by decide +kernel
theorem d_L_law_271 : decode b_L_law 271 = .ok (.iconst 0, 1) := by decide +kernel
theorem d_L_law_272 : decode b_L_law 272 = .ok (.laload, 1) := by decide +kernel
theorem d_L_law_273 : decode b_L_law 273 = .ok (.iload 6, 2) := by decide +kernel
theorem d_L_law_275 : decode b_L_law 275 = .ok (.i2l, 1) := by decide +kernel
theorem d_L_law_276 : decode b_L_law 276 = .ok (.lcmp, 1) := by decide +kernel
theorem d_L_law_277 : decode b_L_law 277 = .ok (.ifCond .eq (5), 3) := by decide +kernel
theorem d_L_law_280 : decode b_L_law 280 = .ok (.iconst 0, 1) := by decide +kernel
theorem d_L_law_281 : decode b_L_law 281 = .ok (.ireturn, 1) := by decide +kernel
theorem d_L_law_282 : decode b_L_law 282 = .ok (.goto (292), 3) := by decide +kernel
theorem d_L_law_285 : decode b_L_law 285 = .ok (.aload_n 1, 1) := by decide +kernel
theorem d_L_law_286 : decode b_L_law 286 = .ok (.invokevirtual 46, 3) := by decide +kernel
theorem d_L_law_289 : decode b_L_law 289 = .ok (.aload_n 2, 1) := by decide +kernel
theorem d_L_law_290 : decode b_L_law 290 = .ok (.invokevirtual 49, 3) := by decide +kernel
theorem d_L_law_293 : decode b_L_law 293 = .ok (.goto (281), 3) := by decide +kernel
theorem d_L_law_296 : decode b_L_law 296 = .ok (.aload_n 1, 1) := by decide +kernel
theorem d_L_law_297 : decode b_L_law 297 = .ok (.aload_n 0, 1) := by decide +kernel
theorem d_L_law_298 : decode b_L_law 298 = .ok (.iload 4, 2) := by decide +kernel
theorem d_L_law_300 : decode b_L_law 300 = .ok (.iconst 1, 1) := by decide +kernel
theorem d_L_law_301 : decode b_L_law 301 = .ok (.iadd, 1) := by decide +kernel
theorem d_L_law_302 : decode b_L_law 302 = .ok (.iaload, 1) := by decide +kernel
theorem d_L_law_303 : decode b_L_law 303 = .ok (.aload_n 0, 1) := by decide +kernel
