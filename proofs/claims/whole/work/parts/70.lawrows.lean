theorem d_law_0 : decode code 0 = .ok (.new 8, 3) := by decide +kernel
theorem d_law_3 : decode code 3 = .ok (.dup, 1) := by decide +kernel
theorem d_law_4 : decode code 4 = .ok (.aload_n 0, 1) := by decide +kernel
theorem d_law_5 : decode code 5 = .ok (.iconst 0, 1) := by decide +kernel
theorem d_law_6 : decode code 6 = .ok (.invokestatic 55, 3) := by decide +kernel
theorem d_law_9 : decode code 9 = .ok (.invokespecial 61, 3) := by decide +kernel
theorem d_law_12 : decode code 12 = .ok (.astore_n 1, 1) := by decide +kernel
theorem d_law_13 : decode code 13 = .ok (.new 64, 3) := by decide +kernel
theorem d_law_16 : decode code 16 = .ok (.dup, 1) := by decide +kernel
theorem d_law_17 : decode code 17 = .ok (.aload_n 0, 1) := by decide +kernel
theorem d_law_18 : decode code 18 = .ok (.iconst 0, 1) := by decide +kernel
theorem d_law_19 : decode code 19 = .ok (.invokestatic 55, 3) := by decide +kernel
theorem d_law_22 : decode code 22 = .ok (.invokespecial 66, 3) := by decide +kernel
theorem d_law_25 : decode code 25 = .ok (.astore_n 2, 1) := by decide +kernel
theorem d_law_26 : decode code 26 = .ok (.iconst 1, 1) := by decide +kernel
theorem d_law_27 : decode code 27 = .ok (.newarray .long, 2) := by decide +kernel
theorem d_law_29 : decode code 29 = .ok (.astore_n 3, 1) := by decide +kernel
theorem d_law_30 : decode code 30 = .ok (.iconst 1, 1) := by decide +kernel
theorem d_law_31 : decode code 31 = .ok (.istore 4, 2) := by decide +kernel
theorem d_law_33 : decode code 33 = .ok (.iload 4, 2) := by decide +kernel
theorem d_law_35 : decode code 35 = .ok (.aload_n 0, 1) := by decide +kernel
theorem d_law_36 : decode code 36 = .ok (.arraylength, 1) := by decide +kernel
theorem d_law_37 : decode code 37 = .ok (.bipush 6, 2) := by decide +kernel
theorem d_law_39 : decode code 39 = .ok (.isub, 1) := by decide +kernel
theorem d_law_40 : decode code 40 = .ok (.if_icmp .gt 1338, 3) := by decide +kernel
theorem d_law_43 : decode code 43 = .ok (.aload_n 0, 1) := by decide +kernel
theorem d_law_44 : decode code 44 = .ok (.iload 4, 2) := by decide +kernel
theorem d_law_46 : decode code 46 = .ok (.iaload, 1) := by decide +kernel
theorem d_law_47 : decode code 47 = .ok (.bipush 31, 2) := by decide +kernel
theorem d_law_49 : decode code 49 = .ok (.iand, 1) := by decide +kernel
theorem d_law_50 : decode code 50 = .ok (.tableswitch 1322 0 18 #[90, 103, 152, 225, 305, 409, 513, 593, 685, 698, 802, 894, 998, 1067, 1080, 1093, 1149, 1174, 1242], 90) := by decide +kernel
theorem d_law_140 : decode code 140 = .ok (.aload_n 1, 1) := by decide +kernel
theorem d_law_141 : decode code 141 = .ok (.invokevirtual 67, 3) := by decide +kernel
theorem d_law_144 : decode code 144 = .ok (.aload_n 2, 1) := by decide +kernel
theorem d_law_145 : decode code 145 = .ok (.invokevirtual 71, 3) := by decide +kernel
theorem d_law_148 : decode code 148 = .ok (.if_icmp .eq 1224, 3) := by decide +kernel
theorem d_law_151 : decode code 151 = .ok (.iconst 0, 1) := by decide +kernel
theorem d_law_152 : decode code 152 = .ok (.ireturn, 1) := by decide +kernel
theorem d_law_153 : decode code 153 = .ok (.aload_n 1, 1) := by decide +kernel
theorem d_law_154 : decode code 154 = .ok (.aload_n 0, 1) := by decide +kernel
theorem d_law_155 : decode code 155 = .ok (.iload 4, 2) := by decide +kernel
theorem d_law_157 : decode code 157 = .ok (.iconst 1, 1) := by decide +kernel
theorem d_law_158 : decode code 158 = .ok (.iadd, 1) := by decide +kernel
theorem d_law_159 : decode code 159 = .ok (.iaload, 1) := by decide +kernel
theorem d_law_160 : decode code 160 = .ok (.aload_n 0, 1) := by decide +kernel
theorem d_law_161 : decode code 161 = .ok (.iload 4, 2) := by decide +kernel
theorem d_law_163 : decode code 163 = .ok (.iconst 2, 1) := by decide +kernel
theorem d_law_164 : decode code 164 = .ok (.iadd, 1) := by decide +kernel
theorem d_law_165 : decode code 165 = .ok (.iaload, 1) := by decide +kernel
theorem d_law_166 : decode code 166 = .ok (.aload_n 0, 1) := by decide +kernel
theorem d_law_167 : decode code 167 = .ok (.iload 4, 2) := by decide +kernel
theorem d_law_169 : decode code 169 = .ok (.iconst 3, 1) := by decide +kernel
theorem d_law_170 : decode code 170 = .ok (.iadd, 1) := by decide +kernel
theorem d_law_171 : decode code 171 = .ok (.iaload, 1) := by decide +kernel
theorem d_law_172 : decode code 172 = .ok (.invokevirtual 72, 3) := by decide +kernel
theorem d_law_175 : decode code 175 = .ok (.aload_n 2, 1) := by decide +kernel
theorem d_law_176 : decode code 176 = .ok (.aload_n 0, 1) := by decide +kernel
theorem d_law_177 : decode code 177 = .ok (.iload 4, 2) := by decide +kernel
theorem d_law_179 : decode code 179 = .ok (.iconst 1, 1) := by decide +kernel
theorem d_law_180 : decode code 180 = .ok (.iadd, 1) := by decide +kernel
theorem d_law_181 : decode code 181 = .ok (.iaload, 1) := by decide +kernel
theorem d_law_182 : decode code 182 = .ok (.aload_n 0, 1) := by decide +kernel
theorem d_law_183 : decode code 183 = .ok (.iload 4, 2) := by decide +kernel
theorem d_law_185 : decode code 185 = .ok (.iconst 2, 1) := by decide +kernel
theorem d_law_186 : decode code 186 = .ok (.iadd, 1) := by decide +kernel
theorem d_law_187 : decode code 187 = .ok (.iaload, 1) := by decide +kernel
theorem d_law_188 : decode code 188 = .ok (.aload_n 0, 1) := by decide +kernel
theorem d_law_189 : decode code 189 = .ok (.iload 4, 2) := by decide +kernel
theorem d_law_191 : decode code 191 = .ok (.iconst 3, 1) := by decide +kernel
theorem d_law_192 : decode code 192 = .ok (.iadd, 1) := by decide +kernel
theorem d_law_193 : decode code 193 = .ok (.iaload, 1) := by decide +kernel
theorem d_law_194 : decode code 194 = .ok (.invokevirtual 75, 3) := by decide +kernel
theorem d_law_197 : decode code 197 = .ok (.if_icmp .eq 1175, 3) := by decide +kernel
theorem d_law_200 : decode code 200 = .ok (.iconst 0, 1) := by decide +kernel
theorem d_law_201 : decode code 201 = .ok (.ireturn, 1) := by decide +kernel
theorem d_law_202 : decode code 202 = .ok (.aload_n 1, 1) := by decide +kernel
theorem d_law_203 : decode code 203 = .ok (.aload_n 0, 1) := by decide +kernel
theorem d_law_204 : decode code 204 = .ok (.iload 4, 2) := by decide +kernel
theorem d_law_206 : decode code 206 = .ok (.iconst 1, 1) := by decide +kernel
theorem d_law_207 : decode code 207 = .ok (.iadd, 1) := by decide +kernel
theorem d_law_208 : decode code 208 = .ok (.iaload, 1) := by decide +kernel
theorem d_law_209 : decode code 209 = .ok (.aload_n 0, 1) := by decide +kernel
theorem d_law_210 : decode code 210 = .ok (.iload 4, 2) := by decide +kernel
theorem d_law_212 : decode code 212 = .ok (.iconst 2, 1) := by decide +kernel
theorem d_law_213 : decode code 213 = .ok (.iadd, 1) := by decide +kernel
theorem d_law_214 : decode code 214 = .ok (.iaload, 1) := by decide +kernel
theorem d_law_215 : decode code 215 = .ok (.aload_n 0, 1) := by decide +kernel
theorem d_law_216 : decode code 216 = .ok (.iload 4, 2) := by decide +kernel
theorem d_law_218 : decode code 218 = .ok (.iconst 3, 1) := by decide +kernel
theorem d_law_219 : decode code 219 = .ok (.iadd, 1) := by decide +kernel
theorem d_law_220 : decode code 220 = .ok (.iaload, 1) := by decide +kernel
theorem d_law_221 : decode code 221 = .ok (.aload_n 0, 1) := by decide +kernel
theorem d_law_222 : decode code 222 = .ok (.iload 4, 2) := by decide +kernel
theorem d_law_224 : decode code 224 = .ok (.iconst 4, 1) := by decide +kernel
theorem d_law_225 : decode code 225 = .ok (.iadd, 1) := by decide +kernel
theorem d_law_226 : decode code 226 = .ok (.iaload, 1) := by decide +kernel
theorem d_law_227 : decode code 227 = .ok (.aload_n 0, 1) := by decide +kernel
theorem d_law_228 : decode code 228 = .ok (.iload 4, 2) := by decide +kernel
theorem d_law_230 : decode code 230 = .ok (.iconst 5, 1) := by decide +kernel
theorem d_law_231 : decode code 231 = .ok (.iadd, 1) := by decide +kernel
theorem d_law_232 : decode code 232 = .ok (.iaload, 1) := by decide +kernel
theorem d_law_233 : decode code 233 = .ok (.invokevirtual 76, 3) := by decide +kernel
theorem d_law_236 : decode code 236 = .ok (.aload_n 2, 1) := by decide +kernel
theorem d_law_237 : decode code 237 = .ok (.aload_n 0, 1) := by decide +kernel
theorem d_law_238 : decode code 238 = .ok (.iload 4, 2) := by decide +kernel
theorem d_law_240 : decode code 240 = .ok (.iconst 1, 1) := by decide +kernel
theorem d_law_241 : decode code 241 = .ok (.iadd, 1) := by decide +kernel
theorem d_law_242 : decode code 242 = .ok (.iaload, 1) := by decide +kernel
theorem d_law_243 : decode code 243 = .ok (.aload_n 0, 1) := by decide +kernel
theorem d_law_244 : decode code 244 = .ok (.iload 4, 2) := by decide +kernel
theorem d_law_246 : decode code 246 = .ok (.iconst 2, 1) := by decide +kernel
theorem d_law_247 : decode code 247 = .ok (.iadd, 1) := by decide +kernel
theorem d_law_248 : decode code 248 = .ok (.iaload, 1) := by decide +kernel
theorem d_law_249 : decode code 249 = .ok (.aload_n 0, 1) := by decide +kernel
theorem d_law_250 : decode code 250 = .ok (.iload 4, 2) := by decide +kernel
theorem d_law_252 : decode code 252 = .ok (.iconst 3, 1) := by decide +kernel
theorem d_law_253 : decode code 253 = .ok (.iadd, 1) := by decide +kernel
theorem d_law_254 : decode code 254 = .ok (.iaload, 1) := by decide +kernel
theorem d_law_255 : decode code 255 = .ok (.aload_n 0, 1) := by decide +kernel
theorem d_law_256 : decode code 256 = .ok (.iload 4, 2) := by decide +kernel
theorem d_law_258 : decode code 258 = .ok (.iconst 4, 1) := by decide +kernel
theorem d_law_259 : decode code 259 = .ok (.iadd, 1) := by decide +kernel
theorem d_law_260 : decode code 260 = .ok (.iaload, 1) := by decide +kernel
theorem d_law_261 : decode code 261 = .ok (.aload_n 0, 1) := by decide +kernel
theorem d_law_262 : decode code 262 = .ok (.iload 4, 2) := by decide +kernel
theorem d_law_264 : decode code 264 = .ok (.iconst 5, 1) := by decide +kernel
theorem d_law_265 : decode code 265 = .ok (.iadd, 1) := by decide +kernel
theorem d_law_266 : decode code 266 = .ok (.iaload, 1) := by decide +kernel
theorem d_law_267 : decode code 267 = .ok (.invokevirtual 79, 3) := by decide +kernel
theorem d_law_270 : decode code 270 = .ok (.if_icmp .eq 1102, 3) := by decide +kernel
theorem d_law_273 : decode code 273 = .ok (.iconst 0, 1) := by decide +kernel
theorem d_law_274 : decode code 274 = .ok (.ireturn, 1) := by decide +kernel
theorem d_law_275 : decode code 275 = .ok (.aload_n 1, 1) := by decide +kernel
theorem d_law_276 : decode code 276 = .ok (.aload_n 0, 1) := by decide +kernel
theorem d_law_277 : decode code 277 = .ok (.iload 4, 2) := by decide +kernel
theorem d_law_279 : decode code 279 = .ok (.iconst 1, 1) := by decide +kernel
theorem d_law_280 : decode code 280 = .ok (.iadd, 1) := by decide +kernel
theorem d_law_281 : decode code 281 = .ok (.iaload, 1) := by decide +kernel
theorem d_law_282 : decode code 282 = .ok (.aload_n 0, 1) := by decide +kernel
theorem d_law_283 : decode code 283 = .ok (.iload 4, 2) := by decide +kernel
theorem d_law_285 : decode code 285 = .ok (.iconst 2, 1) := by decide +kernel
theorem d_law_286 : decode code 286 = .ok (.iadd, 1) := by decide +kernel
theorem d_law_287 : decode code 287 = .ok (.iaload, 1) := by decide +kernel
theorem d_law_288 : decode code 288 = .ok (.aload_n 0, 1) := by decide +kernel
theorem d_law_289 : decode code 289 = .ok (.iload 4, 2) := by decide +kernel
theorem d_law_291 : decode code 291 = .ok (.iconst 3, 1) := by decide +kernel
theorem d_law_292 : decode code 292 = .ok (.iadd, 1) := by decide +kernel
theorem d_law_293 : decode code 293 = .ok (.iaload, 1) := by decide +kernel
theorem d_law_294 : decode code 294 = .ok (.aload_n 3, 1) := by decide +kernel
theorem d_law_295 : decode code 295 = .ok (.invokestatic 80, 3) := by decide +kernel
