theorem d_L_law_0 : decode b_L_law 0 = .ok (.new 7, 3) := by decide +kernel
theorem d_L_law_3 : decode b_L_law 3 = .ok (.dup, 1) := by decide +kernel
theorem d_L_law_4 : decode b_L_law 4 = .ok (.invokespecial 9, 3) := by decide +kernel
theorem d_L_law_7 : decode b_L_law 7 = .ok (.astore_n 1, 1) := by decide +kernel
theorem d_L_law_8 : decode b_L_law 8 = .ok (.new 10, 3) := by decide +kernel
theorem d_L_law_11 : decode b_L_law 11 = .ok (.dup, 1) := by decide +kernel
theorem d_L_law_12 : decode b_L_law 12 = .ok (.invokespecial 12, 3) := by decide +kernel
theorem d_L_law_15 : decode b_L_law 15 = .ok (.astore_n 2, 1) := by decide +kernel
theorem d_L_law_16 : decode b_L_law 16 = .ok (.iconst 0, 1) := by decide +kernel
theorem d_L_law_17 : decode b_L_law 17 = .ok (.istore_n 3, 1) := by decide +kernel
theorem d_L_law_18 : decode b_L_law 18 = .ok (.iload_n 3, 1) := by decide +kernel
theorem d_L_law_19 : decode b_L_law 19 = .ok (.aload_n 0, 1) := by decide +kernel
theorem d_L_law_20 : decode b_L_law 20 = .ok (.arraylength, 1) := by decide +kernel
theorem d_L_law_21 : decode b_L_law 21 = .ok (.bipush 6, 2) := by decide +kernel
theorem d_L_law_23 : decode b_L_law 23 = .ok (.isub, 1) := by decide +kernel
theorem d_L_law_24 : decode b_L_law 24 = .ok (.if_icmp .gt 724, 3) := by decide +kernel
theorem d_L_law_27 : decode b_L_law 27 = .ok (.aload_n 0, 1) := by decide +kernel
theorem d_L_law_28 : decode b_L_law 28 = .ok (.iload_n 3, 1) := by decide +kernel
theorem d_L_law_29 : decode b_L_law 29 = .ok (.iaload, 1) := by decide +kernel
theorem d_L_law_30 : decode b_L_law 30 = .ok (.bipush 15, 2) := by decide +kernel
theorem d_L_law_32 : decode b_L_law 32 = .ok (.iand, 1) := by decide +kernel
theorem d_L_law_33 : decode b_L_law 33 = .ok (.tableswitch 709 0 10 #[59, 152, 185, 288, 341, 374, 463, 526, 590, 623, 646], 59) := by decide +kernel
theorem d_L_law_92 : decode b_L_law 92 = .ok (.aload_n 1, 1) := by decide +kernel
theorem d_L_law_93 : decode b_L_law 93 = .ok (.aload_n 0, 1) := by decide +kernel
theorem d_L_law_94 : decode b_L_law 94 = .ok (.iload_n 3, 1) := by decide +kernel
theorem d_L_law_95 : decode b_L_law 95 = .ok (.iconst 1, 1) := by decide +kernel
theorem d_L_law_96 : decode b_L_law 96 = .ok (.iadd, 1) := by decide +kernel
theorem d_L_law_97 : decode b_L_law 97 = .ok (.iaload, 1) := by decide +kernel
theorem d_L_law_98 : decode b_L_law 98 = .ok (.i2l, 1) := by decide +kernel
theorem d_L_law_99 : decode b_L_law 99 = .ok (.bipush 32, 2) := by decide +kernel
theorem d_L_law_101 : decode b_L_law 101 = .ok (.lshl, 1) := by decide +kernel
theorem d_L_law_102 : decode b_L_law 102 = .ok (.aload_n 0, 1) := by decide +kernel
theorem d_L_law_103 : decode b_L_law 103 = .ok (.iload_n 3, 1) := by decide +kernel
theorem d_L_law_104 : decode b_L_law 104 = .ok (.iconst 2, 1) := by decide +kernel
theorem d_L_law_105 : decode b_L_law 105 = .ok (.iadd, 1) := by decide +kernel
theorem d_L_law_106 : decode b_L_law 106 = .ok (.iaload, 1) := by decide +kernel
theorem d_L_law_107 : decode b_L_law 107 = .ok (.i2l, 1) := by decide +kernel
theorem d_L_law_108 : decode b_L_law 108 = .ok (.ldc2_w 13, 3) := by decide +kernel
theorem d_L_law_111 : decode b_L_law 111 = .ok (.land, 1) := by decide +kernel
theorem d_L_law_112 : decode b_L_law 112 = .ok (.lor, 1) := by decide +kernel
theorem d_L_law_113 : decode b_L_law 113 = .ok (.aload_n 0, 1) := by decide +kernel
theorem d_L_law_114 : decode b_L_law 114 = .ok (.iload_n 3, 1) := by decide +kernel
theorem d_L_law_115 : decode b_L_law 115 = .ok (.iconst 3, 1) := by decide +kernel
theorem d_L_law_116 : decode b_L_law 116 = .ok (.iadd, 1) := by decide +kernel
theorem d_L_law_117 : decode b_L_law 117 = .ok (.iaload, 1) := by decide +kernel
theorem d_L_law_118 : decode b_L_law 118 = .ok (.i2l, 1) := by decide +kernel
theorem d_L_law_119 : decode b_L_law 119 = .ok (.bipush 32, 2) := by decide +kernel
theorem d_L_law_121 : decode b_L_law 121 = .ok (.lshl, 1) := by decide +kernel
theorem d_L_law_122 : decode b_L_law 122 = .ok (.aload_n 0, 1) := by decide +kernel
theorem d_L_law_123 : decode b_L_law 123 = .ok (.iload_n 3, 1) := by decide +kernel
theorem d_L_law_124 : decode b_L_law 124 = .ok (.iconst 4, 1) := by decide +kernel
theorem d_L_law_125 : decode b_L_law 125 = .ok (.iadd, 1) := by decide +kernel
theorem d_L_law_126 : decode b_L_law 126 = .ok (.iaload, 1) := by decide +kernel
theorem d_L_law_127 : decode b_L_law 127 = .ok (.i2l, 1) := by decide +kernel
theorem d_L_law_128 : decode b_L_law 128 = .ok (.ldc2_w 13, 3) := by decide +kernel
theorem d_L_law_131 : decode b_L_law 131 = .ok (.land, 1) := by decide +kernel
theorem d_L_law_132 : decode b_L_law 132 = .ok (.lor, 1) := by decide +kernel
theorem d_L_law_133 : decode b_L_law 133 = .ok (.invokevirtual 15, 3) := by decide +kernel
theorem d_L_law_136 : decode b_L_law 136 = .ok (.aload_n 2, 1) := by decide +kernel
theorem d_L_law_137 : decode b_L_law 137 = .ok (.aload_n 0, 1) := by decide +kernel
theorem d_L_law_138 : decode b_L_law 138 = .ok (.iload_n 3, 1) := by decide +kernel
theorem d_L_law_139 : decode b_L_law 139 = .ok (.iconst 1, 1) := by decide +kernel
theorem d_L_law_140 : decode b_L_law 140 = .ok (.iadd, 1) := by decide +kernel
theorem d_L_law_141 : decode b_L_law 141 = .ok (.iaload, 1) := by decide +kernel
theorem d_L_law_142 : decode b_L_law 142 = .ok (.i2l, 1) := by decide +kernel
theorem d_L_law_143 : decode b_L_law 143 = .ok (.bipush 32, 2) := by decide +kernel
theorem d_L_law_145 : decode b_L_law 145 = .ok (.lshl, 1) := by decide +kernel
theorem d_L_law_146 : decode b_L_law 146 = .ok (.aload_n 0, 1) := by decide +kernel
theorem d_L_law_147 : decode b_L_law 147 = .ok (.iload_n 3, 1) := by decide +kernel
theorem d_L_law_148 : decode b_L_law 148 = .ok (.iconst 2, 1) := by decide +kernel
theorem d_L_law_149 : decode b_L_law 149 = .ok (.iadd, 1) := by decide +kernel
theorem d_L_law_150 : decode b_L_law 150 = .ok (.iaload, 1) := by decide +kernel
theorem d_L_law_151 : decode b_L_law 151 = .ok (.i2l, 1) := by decide +kernel
theorem d_L_law_152 : decode b_L_law 152 = .ok (.ldc2_w 13, 3) := by decide +kernel
theorem d_L_law_155 : decode b_L_law 155 = .ok (.land, 1) := by decide +kernel
theorem d_L_law_156 : decode b_L_law 156 = .ok (.lor, 1) := by decide +kernel
theorem d_L_law_157 : decode b_L_law 157 = .ok (.aload_n 0, 1) := by decide +kernel
theorem d_L_law_158 : decode b_L_law 158 = .ok (.iload_n 3, 1) := by decide +kernel
theorem d_L_law_159 : decode b_L_law 159 = .ok (.iconst 3, 1) := by decide +kernel
theorem d_L_law_160 : decode b_L_law 160 = .ok (.iadd, 1) := by decide +kernel
theorem d_L_law_161 : decode b_L_law 161 = .ok (.iaload, 1) := by decide +kernel
theorem d_L_law_162 : decode b_L_law 162 = .ok (.i2l, 1) := by decide +kernel
theorem d_L_law_163 : decode b_L_law 163 = .ok (.bipush 32, 2) := by decide +kernel
theorem d_L_law_165 : decode b_L_law 165 = .ok (.lshl, 1) := by decide +kernel
theorem d_L_law_166 : decode b_L_law 166 = .ok (.aload_n 0, 1) := by decide +kernel
theorem d_L_law_167 : decode b_L_law 167 = .ok (.iload_n 3, 1) := by decide +kernel
theorem d_L_law_168 : decode b_L_law 168 = .ok (.iconst 4, 1) := by decide +kernel
theorem d_L_law_169 : decode b_L_law 169 = .ok (.iadd, 1) := by decide +kernel
theorem d_L_law_170 : decode b_L_law 170 = .ok (.iaload, 1) := by decide +kernel
theorem d_L_law_171 : decode b_L_law 171 = .ok (.i2l, 1) := by decide +kernel
theorem d_L_law_172 : decode b_L_law 172 = .ok (.ldc2_w 13, 3) := by decide +kernel
theorem d_L_law_175 : decode b_L_law 175 = .ok (.land, 1) := by decide +kernel
theorem d_L_law_176 : decode b_L_law 176 = .ok (.lor, 1) := by decide +kernel
theorem d_L_law_177 : decode b_L_law 177 = .ok (.invokevirtual 19, 3) := by decide +kernel
theorem d_L_law_180 : decode b_L_law 180 = .ok (.if_icmp .eq 562, 3) := by decide +kernel
theorem d_L_law_183 : decode b_L_law 183 = .ok (.iconst 0, 1) := by decide +kernel
theorem d_L_law_184 : decode b_L_law 184 = .ok (.ireturn, 1) := by decide +kernel
theorem d_L_law_185 : decode b_L_law 185 = .ok (.aload_n 1, 1) := by decide +kernel
theorem d_L_law_186 : decode b_L_law 186 = .ok (.aload_n 0, 1) := by decide +kernel
theorem d_L_law_187 : decode b_L_law 187 = .ok (.iload_n 3, 1) := by decide +kernel
theorem d_L_law_188 : decode b_L_law 188 = .ok (.iconst 1, 1) := by decide +kernel
theorem d_L_law_189 : decode b_L_law 189 = .ok (.iadd, 1) := by decide +kernel
theorem d_L_law_190 : decode b_L_law 190 = .ok (.iaload, 1) := by decide +kernel
theorem d_L_law_191 : decode b_L_law 191 = .ok (.aload_n 0, 1) := by decide +kernel
theorem d_L_law_192 : decode b_L_law 192 = .ok (.iload_n 3, 1) := by decide +kernel
theorem d_L_law_193 : decode b_L_law 193 = .ok (.iconst 2, 1) := by decide +kernel
theorem d_L_law_194 : decode b_L_law 194 = .ok (.iadd, 1) := by decide +kernel
theorem d_L_law_195 : decode b_L_law 195 = .ok (.iaload, 1) := by decide +kernel
theorem d_L_law_196 : decode b_L_law 196 = .ok (.invokevirtual 20, 3) := by decide +kernel
theorem d_L_law_199 : decode b_L_law 199 = .ok (.aload_n 2, 1) := by decide +kernel
theorem d_L_law_200 : decode b_L_law 200 = .ok (.aload_n 0, 1) := by decide +kernel
theorem d_L_law_201 : decode b_L_law 201 = .ok (.iload_n 3, 1) := by decide +kernel
theorem d_L_law_202 : decode b_L_law 202 = .ok (.iconst 1, 1) := by decide +kernel
theorem d_L_law_203 : decode b_L_law 203 = .ok (.iadd, 1) := by decide +kernel
theorem d_L_law_204 : decode b_L_law 204 = .ok (.iaload, 1) := by decide +kernel
theorem d_L_law_205 : decode b_L_law 205 = .ok (.aload_n 0, 1) := by decide +kernel
theorem d_L_law_206 : decode b_L_law 206 = .ok (.iload_n 3, 1) := by decide +kernel
theorem d_L_law_207 : decode b_L_law 207 = .ok (.iconst 2, 1) := by decide +kernel
theorem d_L_law_208 : decode b_L_law 208 = .ok (.iadd, 1) := by decide +kernel
theorem d_L_law_209 : decode b_L_law 209 = .ok (.iaload, 1) := by decide +kernel
theorem d_L_law_210 : decode b_L_law 210 = .ok (.invokevirtual 24, 3) := by decide +kernel
theorem d_L_law_213 : decode b_L_law 213 = .ok (.if_icmp .eq 529, 3) := by decide +kernel
theorem d_L_law_216 : decode b_L_law 216 = .ok (.iconst 0, 1) := by decide +kernel
theorem d_L_law_217 : decode b_L_law 217 = .ok (.ireturn, 1) := by decide +kernel
theorem d_L_law_218 : decode b_L_law 218 = .ok (.aload_n 1, 1) := by decide +kernel
theorem d_L_law_219 : decode b_L_law 219 = .ok (.aload_n 0, 1) := by decide +kernel
theorem d_L_law_220 : decode b_L_law 220 = .ok (.iload_n 3, 1) := by decide +kernel
theorem d_L_law_221 : decode b_L_law 221 = .ok (.iconst 1, 1) := by decide +kernel
theorem d_L_law_222 : decode b_L_law 222 = .ok (.iadd, 1) := by decide +kernel
theorem d_L_law_223 : decode b_L_law 223 = .ok (.iaload, 1) := by decide +kernel
theorem d_L_law_224 : decode b_L_law 224 = .ok (.aload_n 0, 1) := by decide +kernel
theorem d_L_law_225 : decode b_L_law 225 = .ok (.iload_n 3, 1) := by decide +kernel
theorem d_L_law_226 : decode b_L_law 226 = .ok (.iconst 2, 1) := by decide +kernel
theorem d_L_law_227 : decode b_L_law 227 = .ok (.iadd, 1) := by decide +kernel
theorem d_L_law_228 : decode b_L_law 228 = .ok (.iaload, 1) := by decide +kernel
theorem d_L_law_229 : decode b_L_law 229 = .ok (.i2l, 1) := by decide +kernel
theorem d_L_law_230 : decode b_L_law 230 = .ok (.bipush 32, 2) := by decide +kernel
theorem d_L_law_232 : decode b_L_law 232 = .ok (.lshl, 1) := by decide +kernel
theorem d_L_law_233 : decode b_L_law 233 = .ok (.aload_n 0, 1) := by decide +kernel
theorem d_L_law_234 : decode b_L_law 234 = .ok (.iload_n 3, 1) := by decide +kernel
theorem d_L_law_235 : decode b_L_law 235 = .ok (.iconst 3, 1) := by decide +kernel
theorem d_L_law_236 : decode b_L_law 236 = .ok (.iadd, 1) := by decide +kernel
theorem d_L_law_237 : decode b_L_law 237 = .ok (.iaload, 1) := by decide +kernel
theorem d_L_law_238 : decode b_L_law 238 = .ok (.i2l, 1) := by decide +kernel
theorem d_L_law_239 : decode b_L_law 239 = .ok (.ldc2_w 13, 3) := by decide +kernel
theorem d_L_law_242 : decode b_L_law 242 = .ok (.land, 1) := by decide +kernel
theorem d_L_law_243 : decode b_L_law 243 = .ok (.lor, 1) := by decide +kernel
theorem d_L_law_244 : decode b_L_law 244 = .ok (.aload_n 0, 1) := by decide +kernel
theorem d_L_law_245 : decode b_L_law 245 = .ok (.iload_n 3, 1) := by decide +kernel
theorem d_L_law_246 : decode b_L_law 246 = .ok (.iconst 4, 1) := by decide +kernel
theorem d_L_law_247 : decode b_L_law 247 = .ok (.iadd, 1) := by decide +kernel
theorem d_L_law_248 : decode b_L_law 248 = .ok (.iaload, 1) := by decide +kernel
theorem d_L_law_249 : decode b_L_law 249 = .ok (.i2l, 1) := by decide +kernel
theorem d_L_law_250 : decode b_L_law 250 = .ok (.bipush 32, 2) := by decide +kernel
theorem d_L_law_252 : decode b_L_law 252 = .ok (.lshl, 1) := by decide +kernel
theorem d_L_law_253 : decode b_L_law 253 = .ok (.aload_n 0, 1) := by decide +kernel
theorem d_L_law_254 : decode b_L_law 254 = .ok (.iload_n 3, 1) := by decide +kernel
theorem d_L_law_255 : decode b_L_law 255 = .ok (.iconst 5, 1) := by decide +kernel
theorem d_L_law_256 : decode b_L_law 256 = .ok (.iadd, 1) := by decide +kernel
theorem d_L_law_257 : decode b_L_law 257 = .ok (.iaload, 1) := by decide +kernel
theorem d_L_law_258 : decode b_L_law 258 = .ok (.i2l, 1) := by decide +kernel
theorem d_L_law_259 : decode b_L_law 259 = .ok (.ldc2_w 13, 3) := by decide +kernel
theorem d_L_law_262 : decode b_L_law 262 = .ok (.land, 1) := by decide +kernel
theorem d_L_law_263 : decode b_L_law 263 = .ok (.lor, 1) := by decide +kernel
theorem d_L_law_264 : decode b_L_law 264 = .ok (.invokevirtual 25, 3) := by decide +kernel
theorem d_L_law_267 : decode b_L_law 267 = .ok (.aload_n 2, 1) := by decide +kernel
theorem d_L_law_268 : decode b_L_law 268 = .ok (.aload_n 0, 1) := by decide +kernel
theorem d_L_law_269 : decode b_L_law 269 = .ok (.iload_n 3, 1) := by decide +kernel
theorem d_L_law_270 : decode b_L_law 270 = .ok (.iconst 1, 1) := by decide +kernel
theorem d_L_law_271 : decode b_L_law 271 = .ok (.iadd, 1) := by decide +kernel
theorem d_L_law_272 : decode b_L_law 272 = .ok (.iaload, 1) := by decide +kernel
theorem d_L_law_273 : decode b_L_law 273 = .ok (.aload_n 0, 1) := by decide +kernel
theorem d_L_law_274 : decode b_L_law 274 = .ok (.iload_n 3, 1) := by decide +kernel
theorem d_L_law_275 : decode b_L_law 275 = .ok (.iconst 2, 1) := by decide +kernel
theorem d_L_law_276 : decode b_L_law 276 = .ok (.iadd, 1) := by decide +kernel
theorem d_L_law_277 : decode b_L_law 277 = .ok (.iaload, 1) := by decide +kernel
theorem d_L_law_278 : decode b_L_law 278 = .ok (.i2l, 1) := by decide +kernel
theorem d_L_law_279 : decode b_L_law 279 = .ok (.bipush 32, 2) := by decide +kernel
theorem d_L_law_281 : decode b_L_law 281 = .ok (.lshl, 1) := by decide +kernel
theorem d_L_law_282 : decode b_L_law 282 = .ok (.aload_n 0, 1) := by decide +kernel
theorem d_L_law_283 : decode b_L_law 283 = .ok (.iload_n 3, 1) := by decide +kernel
theorem d_L_law_284 : decode b_L_law 284 = .ok (.iconst 3, 1) := by decide +kernel
theorem d_L_law_285 : decode b_L_law 285 = .ok (.iadd, 1) := by decide +kernel
theorem d_L_law_286 : decode b_L_law 286 = .ok (.iaload, 1) := by decide +kernel
theorem d_L_law_287 : decode b_L_law 287 = .ok (.i2l, 1) := by decide +kernel
theorem d_L_law_288 : decode b_L_law 288 = .ok (.ldc2_w 13, 3) := by decide +kernel
theorem d_L_law_291 : decode b_L_law 291 = .ok (.land, 1) := by decide +kernel
theorem d_L_law_292 : decode b_L_law 292 = .ok (.lor, 1) := by decide +kernel
theorem d_L_law_293 : decode b_L_law 293 = .ok (.aload_n 0, 1) := by decide +kernel
theorem d_L_law_294 : decode b_L_law 294 = .ok (.iload_n 3, 1) := by decide +kernel
theorem d_L_law_295 : decode b_L_law 295 = .ok (.iconst 4, 1) := by decide +kernel
theorem d_L_law_296 : decode b_L_law 296 = .ok (.iadd, 1) := by decide +kernel
theorem d_L_law_297 : decode b_L_law 297 = .ok (.iaload, 1) := by decide +kernel
theorem d_L_law_298 : decode b_L_law 298 = .ok (.i2l, 1) := by decide +kernel
theorem d_L_law_299 : decode b_L_law 299 = .ok (.bipush 32, 2) := by decide +kernel
theorem d_L_law_301 : decode b_L_law 301 = .ok (.lshl, 1) := by decide +kernel
theorem d_L_law_302 : decode b_L_law 302 = .ok (.aload_n 0, 1) := by decide +kernel
theorem d_L_law_303 : decode b_L_law 303 = .ok (.iload_n 3, 1) := by decide +kernel
theorem d_L_law_304 : decode b_L_law 304 = .ok (.iconst 5, 1) := by decide +kernel
theorem d_L_law_305 : decode b_L_law 305 = .ok (.iadd, 1) := by decide +kernel
theorem d_L_law_306 : decode b_L_law 306 = .ok (.iaload, 1) := by decide +kernel
theorem d_L_law_307 : decode b_L_law 307 = .ok (.i2l, 1) := by decide +kernel
theorem d_L_law_308 : decode b_L_law 308 = .ok (.ldc2_w 13, 3) := by decide +kernel
theorem d_L_law_311 : decode b_L_law 311 = .ok (.land, 1) := by decide +kernel
theorem d_L_law_312 : decode b_L_law 312 = .ok (.lor, 1) := by decide +kernel
theorem d_L_law_313 : decode b_L_law 313 = .ok (.invokevirtual 29, 3) := by decide +kernel
theorem d_L_law_316 : decode b_L_law 316 = .ok (.if_icmp .eq 426, 3) := by decide +kernel
theorem d_L_law_319 : decode b_L_law 319 = .ok (.iconst 0, 1) := by decide +kernel
theorem d_L_law_320 : decode b_L_law 320 = .ok (.ireturn, 1) := by decide +kernel
theorem d_L_law_321 : decode b_L_law 321 = .ok (.aload_n 1, 1) := by decide +kernel
theorem d_L_law_322 : decode b_L_law 322 = .ok (.aload_n 0, 1) := by decide +kernel
theorem d_L_law_323 : decode b_L_law 323 = .ok (.iload_n 3, 1) := by decide +kernel
theorem d_L_law_324 : decode b_L_law 324 = .ok (.iconst 1, 1) := by decide +kernel
theorem d_L_law_325 : decode b_L_law 325 = .ok (.iadd, 1) := by decide +kernel
theorem d_L_law_326 : decode b_L_law 326 = .ok (.iaload, 1) := by decide +kernel
theorem d_L_law_327 : decode b_L_law 327 = .ok (.i2l, 1) := by decide +kernel
theorem d_L_law_328 : decode b_L_law 328 = .ok (.bipush 32, 2) := by decide +kernel
theorem d_L_law_330 : decode b_L_law 330 = .ok (.lshl, 1) := by decide +kernel
theorem d_L_law_331 : decode b_L_law 331 = .ok (.aload_n 0, 1) := by decide +kernel
theorem d_L_law_332 : decode b_L_law 332 = .ok (.iload_n 3, 1) := by decide +kernel
theorem d_L_law_333 : decode b_L_law 333 = .ok (.iconst 2, 1) := by decide +kernel
theorem d_L_law_334 : decode b_L_law 334 = .ok (.iadd, 1) := by decide +kernel
theorem d_L_law_335 : decode b_L_law 335 = .ok (.iaload, 1) := by decide +kernel
theorem d_L_law_336 : decode b_L_law 336 = .ok (.i2l, 1) := by decide +kernel
theorem d_L_law_337 : decode b_L_law 337 = .ok (.ldc2_w 13, 3) := by decide +kernel
theorem d_L_law_340 : decode b_L_law 340 = .ok (.land, 1) := by decide +kernel
theorem d_L_law_341 : decode b_L_law 341 = .ok (.lor, 1) := by decide +kernel
theorem d_L_law_342 : decode b_L_law 342 = .ok (.invokevirtual 30, 3) := by decide +kernel
theorem d_L_law_345 : decode b_L_law 345 = .ok (.aload_n 2, 1) := by decide +kernel
theorem d_L_law_346 : decode b_L_law 346 = .ok (.aload_n 0, 1) := by decide +kernel
theorem d_L_law_347 : decode b_L_law 347 = .ok (.iload_n 3, 1) := by decide +kernel
theorem d_L_law_348 : decode b_L_law 348 = .ok (.iconst 1, 1) := by decide +kernel
theorem d_L_law_349 : decode b_L_law 349 = .ok (.iadd, 1) := by decide +kernel
theorem d_L_law_350 : decode b_L_law 350 = .ok (.iaload, 1) := by decide +kernel
theorem d_L_law_351 : decode b_L_law 351 = .ok (.i2l, 1) := by decide +kernel
theorem d_L_law_352 : decode b_L_law 352 = .ok (.bipush 32, 2) := by decide +kernel
theorem d_L_law_354 : decode b_L_law 354 = .ok (.lshl, 1) := by decide +kernel
theorem d_L_law_355 : decode b_L_law 355 = .ok (.aload_n 0, 1) := by decide +kernel
theorem d_L_law_356 : decode b_L_law 356 = .ok (.iload_n 3, 1) := by decide +kernel
theorem d_L_law_357 : decode b_L_law 357 = .ok (.iconst 2, 1) := by decide +kernel
theorem d_L_law_358 : decode b_L_law 358 = .ok (.iadd, 1) := by decide +kernel
theorem d_L_law_359 : decode b_L_law 359 = .ok (.iaload, 1) := by decide +kernel
theorem d_L_law_360 : decode b_L_law 360 = .ok (.i2l, 1) := by decide +kernel
theorem d_L_law_361 : decode b_L_law 361 = .ok (.ldc2_w 13, 3) := by decide +kernel
theorem d_L_law_364 : decode b_L_law 364 = .ok (.land, 1) := by decide +kernel
theorem d_L_law_365 : decode b_L_law 365 = .ok (.lor, 1) := by decide +kernel
theorem d_L_law_366 : decode b_L_law 366 = .ok (.invokevirtual 34, 3) := by decide +kernel
theorem d_L_law_369 : decode b_L_law 369 = .ok (.if_icmp .eq 373, 3) := by decide +kernel
theorem d_L_law_372 : decode b_L_law 372 = .ok (.iconst 0, 1) := by decide +kernel
theorem d_L_law_373 : decode b_L_law 373 = .ok (.ireturn, 1) := by decide +kernel
theorem d_L_law_374 : decode b_L_law 374 = .ok (.aload_n 1, 1) := by decide +kernel
theorem d_L_law_375 : decode b_L_law 375 = .ok (.aload_n 0, 1) := by decide +kernel
theorem d_L_law_376 : decode b_L_law 376 = .ok (.iload_n 3, 1) := by decide +kernel
theorem d_L_law_377 : decode b_L_law 377 = .ok (.iconst 1, 1) := by decide +kernel
theorem d_L_law_378 : decode b_L_law 378 = .ok (.iadd, 1) := by decide +kernel
theorem d_L_law_379 : decode b_L_law 379 = .ok (.iaload, 1) := by decide +kernel
theorem d_L_law_380 : decode b_L_law 380 = .ok (.aload_n 0, 1) := by decide +kernel
theorem d_L_law_381 : decode b_L_law 381 = .ok (.iload_n 3, 1) := by decide +kernel
theorem d_L_law_382 : decode b_L_law 382 = .ok (.iconst 2, 1) := by decide +kernel
theorem d_L_law_383 : decode b_L_law 383 = .ok (.iadd, 1) := by decide +kernel
theorem d_L_law_384 : decode b_L_law 384 = .ok (.iaload, 1) := by decide +kernel
theorem d_L_law_385 : decode b_L_law 385 = .ok (.invokevirtual 35, 3) := by decide +kernel
theorem d_L_law_388 : decode b_L_law 388 = .ok (.aload_n 2, 1) := by decide +kernel
theorem d_L_law_389 : decode b_L_law 389 = .ok (.aload_n 0, 1) := by decide +kernel
theorem d_L_law_390 : decode b_L_law 390 = .ok (.iload_n 3, 1) := by decide +kernel
theorem d_L_law_391 : decode b_L_law 391 = .ok (.iconst 1, 1) := by decide +kernel
theorem d_L_law_392 : decode b_L_law 392 = .ok (.iadd, 1) := by decide +kernel
theorem d_L_law_393 : decode b_L_law 393 = .ok (.iaload, 1) := by decide +kernel
theorem d_L_law_394 : decode b_L_law 394 = .ok (.aload_n 0, 1) := by decide +kernel
theorem d_L_law_395 : decode b_L_law 395 = .ok (.iload_n 3, 1) := by decide +kernel
theorem d_L_law_396 : decode b_L_law 396 = .ok (.iconst 2, 1) := by decide +kernel
theorem d_L_law_397 : decode b_L_law 397 = .ok (.iadd, 1) := by decide +kernel
theorem d_L_law_398 : decode b_L_law 398 = .ok (.iaload, 1) := by decide +kernel
theorem d_L_law_399 : decode b_L_law 399 = .ok (.invokevirtual 38, 3) := by decide +kernel
theorem d_L_law_402 : decode b_L_law 402 = .ok (.if_icmp .eq 340, 3) := by decide +kernel
theorem d_L_law_405 : decode b_L_law 405 = .ok (.iconst 0, 1) := by decide +kernel
theorem d_L_law_406 : decode b_L_law 406 = .ok (.ireturn, 1) := by decide +kernel
theorem d_L_law_407 : decode b_L_law 407 = .ok (.aload_n 1, 1) := by decide +kernel
theorem d_L_law_408 : decode b_L_law 408 = .ok (.aload_n 0, 1) := by decide +kernel
theorem d_L_law_409 : decode b_L_law 409 = .ok (.iload_n 3, 1) := by decide +kernel
theorem d_L_law_410 : decode b_L_law 410 = .ok (.iconst 1, 1) := by decide +kernel
theorem d_L_law_411 : decode b_L_law 411 = .ok (.iadd, 1) := by decide +kernel
theorem d_L_law_412 : decode b_L_law 412 = .ok (.iaload, 1) := by decide +kernel
theorem d_L_law_413 : decode b_L_law 413 = .ok (.aload_n 0, 1) := by decide +kernel
theorem d_L_law_414 : decode b_L_law 414 = .ok (.iload_n 3, 1) := by decide +kernel
theorem d_L_law_415 : decode b_L_law 415 = .ok (.iconst 2, 1) := by decide +kernel
theorem d_L_law_416 : decode b_L_law 416 = .ok (.iadd, 1) := by decide +kernel
theorem d_L_law_417 : decode b_L_law 417 = .ok (.iaload, 1) := by decide +kernel
theorem d_L_law_418 : decode b_L_law 418 = .ok (.ifCond .eq 7, 3) := by decide +kernel
theorem d_L_law_421 : decode b_L_law 421 = .ok (.iconst 1, 1) := by decide +kernel
theorem d_L_law_422 : decode b_L_law 422 = .ok (.goto 4, 3) := by decide +kernel
theorem d_L_law_425 : decode b_L_law 425 = .ok (.iconst 0, 1) := by decide +kernel
theorem d_L_law_426 : decode b_L_law 426 = .ok (.aload_n 0, 1) := by decide +kernel
theorem d_L_law_427 : decode b_L_law 427 = .ok (.iload_n 3, 1) := by decide +kernel
theorem d_L_law_428 : decode b_L_law 428 = .ok (.iconst 3, 1) := by decide +kernel
theorem d_L_law_429 : decode b_L_law 429 = .ok (.iadd, 1) := by decide +kernel
theorem d_L_law_430 : decode b_L_law 430 = .ok (.iaload, 1) := by decide +kernel
theorem d_L_law_431 : decode b_L_law 431 = .ok (.i2l, 1) := by decide +kernel
theorem d_L_law_432 : decode b_L_law 432 = .ok (.bipush 32, 2) := by decide +kernel
theorem d_L_law_434 : decode b_L_law 434 = .ok (.lshl, 1) := by decide +kernel
theorem d_L_law_435 : decode b_L_law 435 = .ok (.aload_n 0, 1) := by decide +kernel
theorem d_L_law_436 : decode b_L_law 436 = .ok (.iload_n 3, 1) := by decide +kernel
theorem d_L_law_437 : decode b_L_law 437 = .ok (.iconst 4, 1) := by decide +kernel
theorem d_L_law_438 : decode b_L_law 438 = .ok (.iadd, 1) := by decide +kernel
theorem d_L_law_439 : decode b_L_law 439 = .ok (.iaload, 1) := by decide +kernel
theorem d_L_law_440 : decode b_L_law 440 = .ok (.i2l, 1) := by decide +kernel
theorem d_L_law_441 : decode b_L_law 441 = .ok (.ldc2_w 13, 3) := by decide +kernel
theorem d_L_law_444 : decode b_L_law 444 = .ok (.land, 1) := by decide +kernel
theorem d_L_law_445 : decode b_L_law 445 = .ok (.lor, 1) := by decide +kernel
theorem d_L_law_446 : decode b_L_law 446 = .ok (.invokevirtual 39, 3) := by decide +kernel
theorem d_L_law_449 : decode b_L_law 449 = .ok (.aload_n 2, 1) := by decide +kernel
theorem d_L_law_450 : decode b_L_law 450 = .ok (.aload_n 0, 1) := by decide +kernel
theorem d_L_law_451 : decode b_L_law 451 = .ok (.iload_n 3, 1) := by decide +kernel
theorem d_L_law_452 : decode b_L_law 452 = .ok (.iconst 1, 1) := by decide +kernel
theorem d_L_law_453 : decode b_L_law 453 = .ok (.iadd, 1) := by decide +kernel
theorem d_L_law_454 : decode b_L_law 454 = .ok (.iaload, 1) := by decide +kernel
theorem d_L_law_455 : decode b_L_law 455 = .ok (.aload_n 0, 1) := by decide +kernel
theorem d_L_law_456 : decode b_L_law 456 = .ok (.iload_n 3, 1) := by decide +kernel
theorem d_L_law_457 : decode b_L_law 457 = .ok (.iconst 2, 1) := by decide +kernel
theorem d_L_law_458 : decode b_L_law 458 = .ok (.iadd, 1) := by decide +kernel
theorem d_L_law_459 : decode b_L_law 459 = .ok (.iaload, 1) := by decide +kernel
theorem d_L_law_460 : decode b_L_law 460 = .ok (.ifCond .eq 7, 3) := by decide +kernel
theorem d_L_law_463 : decode b_L_law 463 = .ok (.iconst 1, 1) := by decide +kernel
theorem d_L_law_464 : decode b_L_law 464 = .ok (.goto 4, 3) := by decide +kernel
theorem d_L_law_467 : decode b_L_law 467 = .ok (.iconst 0, 1) := by decide +kernel
theorem d_L_law_468 : decode b_L_law 468 = .ok (.aload_n 0, 1) := by decide +kernel
theorem d_L_law_469 : decode b_L_law 469 = .ok (.iload_n 3, 1) := by decide +kernel
theorem d_L_law_470 : decode b_L_law 470 = .ok (.iconst 3, 1) := by decide +kernel
theorem d_L_law_471 : decode b_L_law 471 = .ok (.iadd, 1) := by decide +kernel
theorem d_L_law_472 : decode b_L_law 472 = .ok (.iaload, 1) := by decide +kernel
theorem d_L_law_473 : decode b_L_law 473 = .ok (.i2l, 1) := by decide +kernel
theorem d_L_law_474 : decode b_L_law 474 = .ok (.bipush 32, 2) := by decide +kernel
theorem d_L_law_476 : decode b_L_law 476 = .ok (.lshl, 1) := by decide +kernel
theorem d_L_law_477 : decode b_L_law 477 = .ok (.aload_n 0, 1) := by decide +kernel
theorem d_L_law_478 : decode b_L_law 478 = .ok (.iload_n 3, 1) := by decide +kernel
theorem d_L_law_479 : decode b_L_law 479 = .ok (.iconst 4, 1) := by decide +kernel
theorem d_L_law_480 : decode b_L_law 480 = .ok (.iadd, 1) := by decide +kernel
theorem d_L_law_481 : decode b_L_law 481 = .ok (.iaload, 1) := by decide +kernel
theorem d_L_law_482 : decode b_L_law 482 = .ok (.i2l, 1) := by decide +kernel
theorem d_L_law_483 : decode b_L_law 483 = .ok (.ldc2_w 13, 3) := by decide +kernel
theorem d_L_law_486 : decode b_L_law 486 = .ok (.land, 1) := by decide +kernel
theorem d_L_law_487 : decode b_L_law 487 = .ok (.lor, 1) := by decide +kernel
theorem d_L_law_488 : decode b_L_law 488 = .ok (.invokevirtual 43, 3) := by decide +kernel
theorem d_L_law_491 : decode b_L_law 491 = .ok (.if_icmp .eq 251, 3) := by decide +kernel
theorem d_L_law_494 : decode b_L_law 494 = .ok (.iconst 0, 1) := by decide +kernel
theorem d_L_law_495 : decode b_L_law 495 = .ok (.ireturn, 1) := by decide +kernel
theorem d_L_law_496 : decode b_L_law 496 = .ok (.aload_n 1, 1) := by decide +kernel
theorem d_L_law_497 : decode b_L_law 497 = .ok (.aload_n 0, 1) := by decide +kernel
theorem d_L_law_498 : decode b_L_law 498 = .ok (.iload_n 3, 1) := by decide +kernel
theorem d_L_law_499 : decode b_L_law 499 = .ok (.iconst 1, 1) := by decide +kernel
theorem d_L_law_500 : decode b_L_law 500 = .ok (.iadd, 1) := by decide +kernel
theorem d_L_law_501 : decode b_L_law 501 = .ok (.iaload, 1) := by decide +kernel
theorem d_L_law_502 : decode b_L_law 502 = .ok (.aload_n 0, 1) := by decide +kernel
theorem d_L_law_503 : decode b_L_law 503 = .ok (.iload_n 3, 1) := by decide +kernel
theorem d_L_law_504 : decode b_L_law 504 = .ok (.iconst 2, 1) := by decide +kernel
theorem d_L_law_505 : decode b_L_law 505 = .ok (.iadd, 1) := by decide +kernel
theorem d_L_law_506 : decode b_L_law 506 = .ok (.iaload, 1) := by decide +kernel
theorem d_L_law_507 : decode b_L_law 507 = .ok (.i2l, 1) := by decide +kernel
theorem d_L_law_508 : decode b_L_law 508 = .ok (.bipush 32, 2) := by decide +kernel
theorem d_L_law_510 : decode b_L_law 510 = .ok (.lshl, 1) := by decide +kernel
theorem d_L_law_511 : decode b_L_law 511 = .ok (.aload_n 0, 1) := by decide +kernel
theorem d_L_law_512 : decode b_L_law 512 = .ok (.iload_n 3, 1) := by decide +kernel
theorem d_L_law_513 : decode b_L_law 513 = .ok (.iconst 3, 1) := by decide +kernel
theorem d_L_law_514 : decode b_L_law 514 = .ok (.iadd, 1) := by decide +kernel
theorem d_L_law_515 : decode b_L_law 515 = .ok (.iaload, 1) := by decide +kernel
theorem d_L_law_516 : decode b_L_law 516 = .ok (.i2l, 1) := by decide +kernel
theorem d_L_law_517 : decode b_L_law 517 = .ok (.ldc2_w 13, 3) := by decide +kernel
theorem d_L_law_520 : decode b_L_law 520 = .ok (.land, 1) := by decide +kernel
theorem d_L_law_521 : decode b_L_law 521 = .ok (.lor, 1) := by decide +kernel
theorem d_L_law_522 : decode b_L_law 522 = .ok (.invokevirtual 44, 3) := by decide +kernel
theorem d_L_law_525 : decode b_L_law 525 = .ok (.aload_n 2, 1) := by decide +kernel
theorem d_L_law_526 : decode b_L_law 526 = .ok (.aload_n 0, 1) := by decide +kernel
theorem d_L_law_527 : decode b_L_law 527 = .ok (.iload_n 3, 1) := by decide +kernel
theorem d_L_law_528 : decode b_L_law 528 = .ok (.iconst 1, 1) := by decide +kernel
theorem d_L_law_529 : decode b_L_law 529 = .ok (.iadd, 1) := by decide +kernel
theorem d_L_law_530 : decode b_L_law 530 = .ok (.iaload, 1) := by decide +kernel
theorem d_L_law_531 : decode b_L_law 531 = .ok (.aload_n 0, 1) := by decide +kernel
theorem d_L_law_532 : decode b_L_law 532 = .ok (.iload_n 3, 1) := by decide +kernel
theorem d_L_law_533 : decode b_L_law 533 = .ok (.iconst 2, 1) := by decide +kernel
theorem d_L_law_534 : decode b_L_law 534 = .ok (.iadd, 1) := by decide +kernel
theorem d_L_law_535 : decode b_L_law 535 = .ok (.iaload, 1) := by decide +kernel
theorem d_L_law_536 : decode b_L_law 536 = .ok (.i2l, 1) := by decide +kernel
theorem d_L_law_537 : decode b_L_law 537 = .ok (.bipush 32, 2) := by decide +kernel
theorem d_L_law_539 : decode b_L_law 539 = .ok (.lshl, 1) := by decide +kernel
theorem d_L_law_540 : decode b_L_law 540 = .ok (.aload_n 0, 1) := by decide +kernel
theorem d_L_law_541 : decode b_L_law 541 = .ok (.iload_n 3, 1) := by decide +kernel
theorem d_L_law_542 : decode b_L_law 542 = .ok (.iconst 3, 1) := by decide +kernel
theorem d_L_law_543 : decode b_L_law 543 = .ok (.iadd, 1) := by decide +kernel
theorem d_L_law_544 : decode b_L_law 544 = .ok (.iaload, 1) := by decide +kernel
theorem d_L_law_545 : decode b_L_law 545 = .ok (.i2l, 1) := by decide +kernel
theorem d_L_law_546 : decode b_L_law 546 = .ok (.ldc2_w 13, 3) := by decide +kernel
theorem d_L_law_549 : decode b_L_law 549 = .ok (.land, 1) := by decide +kernel
theorem d_L_law_550 : decode b_L_law 550 = .ok (.lor, 1) := by decide +kernel
theorem d_L_law_551 : decode b_L_law 551 = .ok (.invokevirtual 48, 3) := by decide +kernel
theorem d_L_law_554 : decode b_L_law 554 = .ok (.if_icmp .eq 188, 3) := by decide +kernel
theorem d_L_law_557 : decode b_L_law 557 = .ok (.iconst 0, 1) := by decide +kernel
theorem d_L_law_558 : decode b_L_law 558 = .ok (.ireturn, 1) := by decide +kernel
theorem d_L_law_559 : decode b_L_law 559 = .ok (.aload_n 1, 1) := by decide +kernel
theorem d_L_law_560 : decode b_L_law 560 = .ok (.aload_n 0, 1) := by decide +kernel
theorem d_L_law_561 : decode b_L_law 561 = .ok (.iload_n 3, 1) := by decide +kernel
theorem d_L_law_562 : decode b_L_law 562 = .ok (.iconst 1, 1) := by decide +kernel
theorem d_L_law_563 : decode b_L_law 563 = .ok (.iadd, 1) := by decide +kernel
theorem d_L_law_564 : decode b_L_law 564 = .ok (.iaload, 1) := by decide +kernel
theorem d_L_law_565 : decode b_L_law 565 = .ok (.aload_n 0, 1) := by decide +kernel
theorem d_L_law_566 : decode b_L_law 566 = .ok (.iload_n 3, 1) := by decide +kernel
theorem d_L_law_567 : decode b_L_law 567 = .ok (.iconst 2, 1) := by decide +kernel
theorem d_L_law_568 : decode b_L_law 568 = .ok (.iadd, 1) := by decide +kernel
theorem d_L_law_569 : decode b_L_law 569 = .ok (.iaload, 1) := by decide +kernel
theorem d_L_law_570 : decode b_L_law 570 = .ok (.i2l, 1) := by decide +kernel
theorem d_L_law_571 : decode b_L_law 571 = .ok (.bipush 32, 2) := by decide +kernel
theorem d_L_law_573 : decode b_L_law 573 = .ok (.lshl, 1) := by decide +kernel
theorem d_L_law_574 : decode b_L_law 574 = .ok (.aload_n 0, 1) := by decide +kernel
theorem d_L_law_575 : decode b_L_law 575 = .ok (.iload_n 3, 1) := by decide +kernel
theorem d_L_law_576 : decode b_L_law 576 = .ok (.iconst 3, 1) := by decide +kernel
theorem d_L_law_577 : decode b_L_law 577 = .ok (.iadd, 1) := by decide +kernel
theorem d_L_law_578 : decode b_L_law 578 = .ok (.iaload, 1) := by decide +kernel
theorem d_L_law_579 : decode b_L_law 579 = .ok (.i2l, 1) := by decide +kernel
theorem d_L_law_580 : decode b_L_law 580 = .ok (.ldc2_w 13, 3) := by decide +kernel
theorem d_L_law_583 : decode b_L_law 583 = .ok (.land, 1) := by decide +kernel
theorem d_L_law_584 : decode b_L_law 584 = .ok (.lor, 1) := by decide +kernel
theorem d_L_law_585 : decode b_L_law 585 = .ok (.invokevirtual 49, 3) := by decide +kernel
theorem d_L_law_588 : decode b_L_law 588 = .ok (.aload_n 2, 1) := by decide +kernel
theorem d_L_law_589 : decode b_L_law 589 = .ok (.aload_n 0, 1) := by decide +kernel
theorem d_L_law_590 : decode b_L_law 590 = .ok (.iload_n 3, 1) := by decide +kernel
theorem d_L_law_591 : decode b_L_law 591 = .ok (.iconst 1, 1) := by decide +kernel
theorem d_L_law_592 : decode b_L_law 592 = .ok (.iadd, 1) := by decide +kernel
theorem d_L_law_593 : decode b_L_law 593 = .ok (.iaload, 1) := by decide +kernel
theorem d_L_law_594 : decode b_L_law 594 = .ok (.aload_n 0, 1) := by decide +kernel
theorem d_L_law_595 : decode b_L_law 595 = .ok (.iload_n 3, 1) := by decide +kernel
theorem d_L_law_596 : decode b_L_law 596 = .ok (.iconst 2, 1) := by decide +kernel
theorem d_L_law_597 : decode b_L_law 597 = .ok (.iadd, 1) := by decide +kernel
theorem d_L_law_598 : decode b_L_law 598 = .ok (.iaload, 1) := by decide +kernel
theorem d_L_law_599 : decode b_L_law 599 = .ok (.i2l, 1) := by decide +kernel
theorem d_L_law_600 : decode b_L_law 600 = .ok (.bipush 32, 2) := by decide +kernel
theorem d_L_law_602 : decode b_L_law 602 = .ok (.lshl, 1) := by decide +kernel
theorem d_L_law_603 : decode b_L_law 603 = .ok (.aload_n 0, 1) := by decide +kernel
theorem d_L_law_604 : decode b_L_law 604 = .ok (.iload_n 3, 1) := by decide +kernel
theorem d_L_law_605 : decode b_L_law 605 = .ok (.iconst 3, 1) := by decide +kernel
theorem d_L_law_606 : decode b_L_law 606 = .ok (.iadd, 1) := by decide +kernel
theorem d_L_law_607 : decode b_L_law 607 = .ok (.iaload, 1) := by decide +kernel
theorem d_L_law_608 : decode b_L_law 608 = .ok (.i2l, 1) := by decide +kernel
theorem d_L_law_609 : decode b_L_law 609 = .ok (.ldc2_w 13, 3) := by decide +kernel
theorem d_L_law_612 : decode b_L_law 612 = .ok (.land, 1) := by decide +kernel
theorem d_L_law_613 : decode b_L_law 613 = .ok (.lor, 1) := by decide +kernel
theorem d_L_law_614 : decode b_L_law 614 = .ok (.invokevirtual 53, 3) := by decide +kernel
theorem d_L_law_617 : decode b_L_law 617 = .ok (.lcmp, 1) := by decide +kernel
theorem d_L_law_618 : decode b_L_law 618 = .ok (.ifCond .eq 124, 3) := by decide +kernel
theorem d_L_law_621 : decode b_L_law 621 = .ok (.iconst 0, 1) := by decide +kernel
theorem d_L_law_622 : decode b_L_law 622 = .ok (.ireturn, 1) := by decide +kernel
theorem d_L_law_623 : decode b_L_law 623 = .ok (.aload_n 1, 1) := by decide +kernel
theorem d_L_law_624 : decode b_L_law 624 = .ok (.aload_n 0, 1) := by decide +kernel
theorem d_L_law_625 : decode b_L_law 625 = .ok (.iload_n 3, 1) := by decide +kernel
theorem d_L_law_626 : decode b_L_law 626 = .ok (.iconst 1, 1) := by decide +kernel
theorem d_L_law_627 : decode b_L_law 627 = .ok (.iadd, 1) := by decide +kernel
theorem d_L_law_628 : decode b_L_law 628 = .ok (.iaload, 1) := by decide +kernel
theorem d_L_law_629 : decode b_L_law 629 = .ok (.aload_n 0, 1) := by decide +kernel
theorem d_L_law_630 : decode b_L_law 630 = .ok (.iload_n 3, 1) := by decide +kernel
theorem d_L_law_631 : decode b_L_law 631 = .ok (.iconst 2, 1) := by decide +kernel
theorem d_L_law_632 : decode b_L_law 632 = .ok (.iadd, 1) := by decide +kernel
theorem d_L_law_633 : decode b_L_law 633 = .ok (.iaload, 1) := by decide +kernel
theorem d_L_law_634 : decode b_L_law 634 = .ok (.invokevirtual 54, 3) := by decide +kernel
theorem d_L_law_637 : decode b_L_law 637 = .ok (.aload_n 2, 1) := by decide +kernel
theorem d_L_law_638 : decode b_L_law 638 = .ok (.aload_n 0, 1) := by decide +kernel
theorem d_L_law_639 : decode b_L_law 639 = .ok (.iload_n 3, 1) := by decide +kernel
theorem d_L_law_640 : decode b_L_law 640 = .ok (.iconst 1, 1) := by decide +kernel
theorem d_L_law_641 : decode b_L_law 641 = .ok (.iadd, 1) := by decide +kernel
theorem d_L_law_642 : decode b_L_law 642 = .ok (.iaload, 1) := by decide +kernel
theorem d_L_law_643 : decode b_L_law 643 = .ok (.aload_n 0, 1) := by decide +kernel
theorem d_L_law_644 : decode b_L_law 644 = .ok (.iload_n 3, 1) := by decide +kernel
theorem d_L_law_645 : decode b_L_law 645 = .ok (.iconst 2, 1) := by decide +kernel
theorem d_L_law_646 : decode b_L_law 646 = .ok (.iadd, 1) := by decide +kernel
theorem d_L_law_647 : decode b_L_law 647 = .ok (.iaload, 1) := by decide +kernel
theorem d_L_law_648 : decode b_L_law 648 = .ok (.invokevirtual 57, 3) := by decide +kernel
theorem d_L_law_651 : decode b_L_law 651 = .ok (.if_icmp .eq 91, 3) := by decide +kernel
theorem d_L_law_654 : decode b_L_law 654 = .ok (.iconst 0, 1) := by decide +kernel
theorem d_L_law_655 : decode b_L_law 655 = .ok (.ireturn, 1) := by decide +kernel
theorem d_L_law_656 : decode b_L_law 656 = .ok (.aload_n 1, 1) := by decide +kernel
theorem d_L_law_657 : decode b_L_law 657 = .ok (.aload_n 0, 1) := by decide +kernel
theorem d_L_law_658 : decode b_L_law 658 = .ok (.iload_n 3, 1) := by decide +kernel
theorem d_L_law_659 : decode b_L_law 659 = .ok (.iconst 1, 1) := by decide +kernel
theorem d_L_law_660 : decode b_L_law 660 = .ok (.iadd, 1) := by decide +kernel
theorem d_L_law_661 : decode b_L_law 661 = .ok (.iaload, 1) := by decide +kernel
theorem d_L_law_662 : decode b_L_law 662 = .ok (.invokevirtual 58, 3) := by decide +kernel
theorem d_L_law_665 : decode b_L_law 665 = .ok (.aload_n 2, 1) := by decide +kernel
theorem d_L_law_666 : decode b_L_law 666 = .ok (.aload_n 0, 1) := by decide +kernel
theorem d_L_law_667 : decode b_L_law 667 = .ok (.iload_n 3, 1) := by decide +kernel
theorem d_L_law_668 : decode b_L_law 668 = .ok (.iconst 1, 1) := by decide +kernel
theorem d_L_law_669 : decode b_L_law 669 = .ok (.iadd, 1) := by decide +kernel
theorem d_L_law_670 : decode b_L_law 670 = .ok (.iaload, 1) := by decide +kernel
theorem d_L_law_671 : decode b_L_law 671 = .ok (.invokevirtual 62, 3) := by decide +kernel
theorem d_L_law_674 : decode b_L_law 674 = .ok (.if_icmp .eq 68, 3) := by decide +kernel
theorem d_L_law_677 : decode b_L_law 677 = .ok (.iconst 0, 1) := by decide +kernel
theorem d_L_law_678 : decode b_L_law 678 = .ok (.ireturn, 1) := by decide +kernel
theorem d_L_law_679 : decode b_L_law 679 = .ok (.aload_n 1, 1) := by decide +kernel
theorem d_L_law_680 : decode b_L_law 680 = .ok (.aload_n 0, 1) := by decide +kernel
theorem d_L_law_681 : decode b_L_law 681 = .ok (.iload_n 3, 1) := by decide +kernel
theorem d_L_law_682 : decode b_L_law 682 = .ok (.iconst 1, 1) := by decide +kernel
theorem d_L_law_683 : decode b_L_law 683 = .ok (.iadd, 1) := by decide +kernel
theorem d_L_law_684 : decode b_L_law 684 = .ok (.iaload, 1) := by decide +kernel
theorem d_L_law_685 : decode b_L_law 685 = .ok (.aload_n 0, 1) := by decide +kernel
theorem d_L_law_686 : decode b_L_law 686 = .ok (.iload_n 3, 1) := by decide +kernel
theorem d_L_law_687 : decode b_L_law 687 = .ok (.iconst 2, 1) := by decide +kernel
theorem d_L_law_688 : decode b_L_law 688 = .ok (.iadd, 1) := by decide +kernel
theorem d_L_law_689 : decode b_L_law 689 = .ok (.iaload, 1) := by decide +kernel
theorem d_L_law_690 : decode b_L_law 690 = .ok (.i2l, 1) := by decide +kernel
theorem d_L_law_691 : decode b_L_law 691 = .ok (.bipush 32, 2) := by decide +kernel
theorem d_L_law_693 : decode b_L_law 693 = .ok (.lshl, 1) := by decide +kernel
theorem d_L_law_694 : decode b_L_law 694 = .ok (.aload_n 0, 1) := by decide +kernel
theorem d_L_law_695 : decode b_L_law 695 = .ok (.iload_n 3, 1) := by decide +kernel
theorem d_L_law_696 : decode b_L_law 696 = .ok (.iconst 3, 1) := by decide +kernel
theorem d_L_law_697 : decode b_L_law 697 = .ok (.iadd, 1) := by decide +kernel
theorem d_L_law_698 : decode b_L_law 698 = .ok (.iaload, 1) := by decide +kernel
theorem d_L_law_699 : decode b_L_law 699 = .ok (.i2l, 1) := by decide +kernel
theorem d_L_law_700 : decode b_L_law 700 = .ok (.ldc2_w 13, 3) := by decide +kernel
theorem d_L_law_703 : decode b_L_law 703 = .ok (.land, 1) := by decide +kernel
theorem d_L_law_704 : decode b_L_law 704 = .ok (.lor, 1) := by decide +kernel
theorem d_L_law_705 : decode b_L_law 705 = .ok (.invokevirtual 63, 3) := by decide +kernel
theorem d_L_law_708 : decode b_L_law 708 = .ok (.aload_n 2, 1) := by decide +kernel
theorem d_L_law_709 : decode b_L_law 709 = .ok (.aload_n 0, 1) := by decide +kernel
theorem d_L_law_710 : decode b_L_law 710 = .ok (.iload_n 3, 1) := by decide +kernel
theorem d_L_law_711 : decode b_L_law 711 = .ok (.iconst 1, 1) := by decide +kernel
theorem d_L_law_712 : decode b_L_law 712 = .ok (.iadd, 1) := by decide +kernel
theorem d_L_law_713 : decode b_L_law 713 = .ok (.iaload, 1) := by decide +kernel
theorem d_L_law_714 : decode b_L_law 714 = .ok (.aload_n 0, 1) := by decide +kernel
theorem d_L_law_715 : decode b_L_law 715 = .ok (.iload_n 3, 1) := by decide +kernel
theorem d_L_law_716 : decode b_L_law 716 = .ok (.iconst 2, 1) := by decide +kernel
theorem d_L_law_717 : decode b_L_law 717 = .ok (.iadd, 1) := by decide +kernel
theorem d_L_law_718 : decode b_L_law 718 = .ok (.iaload, 1) := by decide +kernel
theorem d_L_law_719 : decode b_L_law 719 = .ok (.i2l, 1) := by decide +kernel
theorem d_L_law_720 : decode b_L_law 720 = .ok (.bipush 32, 2) := by decide +kernel
theorem d_L_law_722 : decode b_L_law 722 = .ok (.lshl, 1) := by decide +kernel
theorem d_L_law_723 : decode b_L_law 723 = .ok (.aload_n 0, 1) := by decide +kernel
theorem d_L_law_724 : decode b_L_law 724 = .ok (.iload_n 3, 1) := by decide +kernel
theorem d_L_law_725 : decode b_L_law 725 = .ok (.iconst 3, 1) := by decide +kernel
theorem d_L_law_726 : decode b_L_law 726 = .ok (.iadd, 1) := by decide +kernel
theorem d_L_law_727 : decode b_L_law 727 = .ok (.iaload, 1) := by decide +kernel
theorem d_L_law_728 : decode b_L_law 728 = .ok (.i2l, 1) := by decide +kernel
theorem d_L_law_729 : decode b_L_law 729 = .ok (.ldc2_w 13, 3) := by decide +kernel
theorem d_L_law_732 : decode b_L_law 732 = .ok (.land, 1) := by decide +kernel
theorem d_L_law_733 : decode b_L_law 733 = .ok (.lor, 1) := by decide +kernel
theorem d_L_law_734 : decode b_L_law 734 = .ok (.invokevirtual 66, 3) := by decide +kernel
theorem d_L_law_737 : decode b_L_law 737 = .ok (.if_icmp .eq 5, 3) := by decide +kernel
theorem d_L_law_740 : decode b_L_law 740 = .ok (.iconst 0, 1) := by decide +kernel
theorem d_L_law_741 : decode b_L_law 741 = .ok (.ireturn, 1) := by decide +kernel
theorem d_L_law_742 : decode b_L_law 742 = .ok (.iinc 3 6, 3) := by decide +kernel
theorem d_L_law_745 : decode b_L_law 745 = .ok (.goto (-727), 3) := by decide +kernel
theorem d_L_law_748 : decode b_L_law 748 = .ok (.iconst 1, 1) := by decide +kernel
theorem d_L_law_749 : decode b_L_law 749 = .ok (.ireturn, 1) := by decide +kernel
