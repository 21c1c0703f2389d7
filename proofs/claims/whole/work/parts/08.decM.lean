theorem d_Mo_init_0 : decode prog_14_method_1_code 0 = .ok (.aload_n 0, 1) := by decide +kernel
theorem d_Mo_init_1 : decode prog_14_method_1_code 1 = .ok (.invokespecial 1, 3) := by decide +kernel
theorem d_Mo_init_4 : decode prog_14_method_1_code 4 = .ok (.aload_n 0, 1) := by decide +kernel
theorem d_Mo_init_5 : decode prog_14_method_1_code 5 = .ok (.iconst 0, 1) := by decide +kernel
theorem d_Mo_init_6 : decode prog_14_method_1_code 6 = .ok (.putfield 7, 3) := by decide +kernel
theorem d_Mo_init_9 : decode prog_14_method_1_code 9 = .ok (.aload_n 0, 1) := by decide +kernel
theorem d_Mo_init_10 : decode prog_14_method_1_code 10 = .ok (.iconst 0, 1) := by decide +kernel
theorem d_Mo_init_11 : decode prog_14_method_1_code 11 = .ok (.putfield 13, 3) := by decide +kernel
theorem d_Mo_init_14 : decode prog_14_method_1_code 14 = .ok (.aload_n 0, 1) := by decide +kernel
theorem d_Mo_init_15 : decode prog_14_method_1_code 15 = .ok (.iconst 0, 1) := by decide +kernel
theorem d_Mo_init_16 : decode prog_14_method_1_code 16 = .ok (.putfield 16, 3) := by decide +kernel
theorem d_Mo_init_19 : decode prog_14_method_1_code 19 = .ok (.aload_n 0, 1) := by decide +kernel
theorem d_Mo_init_20 : decode prog_14_method_1_code 20 = .ok (.iconst 0, 1) := by decide +kernel
theorem d_Mo_init_21 : decode prog_14_method_1_code 21 = .ok (.putfield 19, 3) := by decide +kernel
theorem d_Mo_init_24 : decode prog_14_method_1_code 24 = .ok (.aload_n 0, 1) := by decide +kernel
theorem d_Mo_init_25 : decode prog_14_method_1_code 25 = .ok (.iconst 0, 1) := by decide +kernel
theorem d_Mo_init_26 : decode prog_14_method_1_code 26 = .ok (.putfield 22, 3) := by decide +kernel
theorem d_Mo_init_29 : decode prog_14_method_1_code 29 = .ok (.aload_n 0, 1) := by decide +kernel
theorem d_Mo_init_30 : decode prog_14_method_1_code 30 = .ok (.bipush 6, 2) := by decide +kernel
theorem d_Mo_init_32 : decode prog_14_method_1_code 32 = .ok (.newarray .int, 2) := by decide +kernel
theorem d_Mo_init_34 : decode prog_14_method_1_code 34 = .ok (.putfield 25, 3) := by decide +kernel
theorem d_Mo_init_37 : decode prog_14_method_1_code 37 = .ok (.aload_n 0, 1) := by decide +kernel
theorem d_Mo_init_38 : decode prog_14_method_1_code 38 = .ok (.bipush 6, 2) := by decide +kernel
theorem d_Mo_init_40 : decode prog_14_method_1_code 40 = .ok (.newarray .int, 2) := by decide +kernel
theorem d_Mo_init_42 : decode prog_14_method_1_code 42 = .ok (.putfield 29, 3) := by decide +kernel
theorem d_Mo_init_45 : decode prog_14_method_1_code 45 = .ok (.aload_n 0, 1) := by decide +kernel
theorem d_Mo_init_46 : decode prog_14_method_1_code 46 = .ok (.bipush 6, 2) := by decide +kernel
theorem d_Mo_init_48 : decode prog_14_method_1_code 48 = .ok (.newarray .int, 2) := by decide +kernel
theorem d_Mo_init_50 : decode prog_14_method_1_code 50 = .ok (.putfield 32, 3) := by decide +kernel
theorem d_Mo_init_53 : decode prog_14_method_1_code 53 = .ok (.aload_n 0, 1) := by decide +kernel
theorem d_Mo_init_54 : decode prog_14_method_1_code 54 = .ok (.bipush 6, 2) := by decide +kernel
theorem d_Mo_init_56 : decode prog_14_method_1_code 56 = .ok (.newarray .int, 2) := by decide +kernel
theorem d_Mo_init_58 : decode prog_14_method_1_code 58 = .ok (.putfield 35, 3) := by decide +kernel
theorem d_Mo_init_61 : decode prog_14_method_1_code 61 = .ok (.aload_n 0, 1) := by decide +kernel
theorem d_Mo_init_62 : decode prog_14_method_1_code 62 = .ok (.bipush 24, 2) := by decide +kernel
theorem d_Mo_init_64 : decode prog_14_method_1_code 64 = .ok (.newarray .int, 2) := by decide +kernel
theorem d_Mo_init_66 : decode prog_14_method_1_code 66 = .ok (.putfield 38, 3) := by decide +kernel
theorem d_Mo_init_69 : decode prog_14_method_1_code 69 = .ok (.aload_n 0, 1) := by decide +kernel
theorem d_Mo_init_70 : decode prog_14_method_1_code 70 = .ok (.bipush 6, 2) := by decide +kernel
theorem d_Mo_init_72 : decode prog_14_method_1_code 72 = .ok (.newarray .int, 2) := by decide +kernel
theorem d_Mo_init_74 : decode prog_14_method_1_code 74 = .ok (.putfield 41, 3) := by decide +kernel
theorem d_Mo_init_77 : decode prog_14_method_1_code 77 = .ok (.aload_n 0, 1) := by decide +kernel
theorem d_Mo_init_78 : decode prog_14_method_1_code 78 = .ok (.iconst 0, 1) := by decide +kernel
theorem d_Mo_init_79 : decode prog_14_method_1_code 79 = .ok (.putfield 44, 3) := by decide +kernel
theorem d_Mo_init_82 : decode prog_14_method_1_code 82 = .ok (.aload_n 0, 1) := by decide +kernel
theorem d_Mo_init_83 : decode prog_14_method_1_code 83 = .ok (.iconst (-1), 1) := by decide +kernel
theorem d_Mo_init_84 : decode prog_14_method_1_code 84 = .ok (.putfield 47, 3) := by decide +kernel
theorem d_Mo_init_87 : decode prog_14_method_1_code 87 = .ok (.aload_n 0, 1) := by decide +kernel
theorem d_Mo_init_88 : decode prog_14_method_1_code 88 = .ok (.iconst 0, 1) := by decide +kernel
theorem d_Mo_init_89 : decode prog_14_method_1_code 89 = .ok (.putfield 50, 3) := by decide +kernel
theorem d_Mo_init_92 : decode prog_14_method_1_code 92 = .ok (.aload_n 0, 1) := by decide +kernel
theorem d_Mo_init_93 : decode prog_14_method_1_code 93 = .ok (.iconst 0, 1) := by decide +kernel
theorem d_Mo_init_94 : decode prog_14_method_1_code 94 = .ok (.putfield 53, 3) := by decide +kernel
theorem d_Mo_init_97 : decode prog_14_method_1_code 97 = .ok (.aload_n 0, 1) := by decide +kernel
theorem d_Mo_init_98 : decode prog_14_method_1_code 98 = .ok (.iconst 0, 1) := by decide +kernel
theorem d_Mo_init_99 : decode prog_14_method_1_code 99 = .ok (.putfield 56, 3) := by decide +kernel
theorem d_Mo_init_102 : decode prog_14_method_1_code 102 = .ok (.aload_n 0, 1) := by decide +kernel
theorem d_Mo_init_103 : decode prog_14_method_1_code 103 = .ok (.bipush 100, 2) := by decide +kernel
theorem d_Mo_init_105 : decode prog_14_method_1_code 105 = .ok (.newarray .int, 2) := by decide +kernel
theorem d_Mo_init_107 : decode prog_14_method_1_code 107 = .ok (.putfield 59, 3) := by decide +kernel
theorem d_Mo_init_110 : decode prog_14_method_1_code 110 = .ok (.aload_n 0, 1) := by decide +kernel
theorem d_Mo_init_111 : decode prog_14_method_1_code 111 = .ok (.bipush 6, 2) := by decide +kernel
theorem d_Mo_init_113 : decode prog_14_method_1_code 113 = .ok (.newarray .int, 2) := by decide +kernel
theorem d_Mo_init_115 : decode prog_14_method_1_code 115 = .ok (.putfield 62, 3) := by decide +kernel
theorem d_Mo_init_118 : decode prog_14_method_1_code 118 = .ok (.aload_n 0, 1) := by decide +kernel
theorem d_Mo_init_119 : decode prog_14_method_1_code 119 = .ok (.bipush 60, 2) := by decide +kernel
theorem d_Mo_init_121 : decode prog_14_method_1_code 121 = .ok (.newarray .int, 2) := by decide +kernel
theorem d_Mo_init_123 : decode prog_14_method_1_code 123 = .ok (.putfield 65, 3) := by decide +kernel
theorem d_Mo_init_126 : decode prog_14_method_1_code 126 = .ok (.aload_n 0, 1) := by decide +kernel
theorem d_Mo_init_127 : decode prog_14_method_1_code 127 = .ok (.bipush 60, 2) := by decide +kernel
theorem d_Mo_init_129 : decode prog_14_method_1_code 129 = .ok (.newarray .int, 2) := by decide +kernel
theorem d_Mo_init_131 : decode prog_14_method_1_code 131 = .ok (.putfield 68, 3) := by decide +kernel
theorem d_Mo_init_134 : decode prog_14_method_1_code 134 = .ok (.aload_n 0, 1) := by decide +kernel
theorem d_Mo_init_135 : decode prog_14_method_1_code 135 = .ok (.bipush 60, 2) := by decide +kernel
theorem d_Mo_init_137 : decode prog_14_method_1_code 137 = .ok (.newarray .int, 2) := by decide +kernel
theorem d_Mo_init_139 : decode prog_14_method_1_code 139 = .ok (.putfield 71, 3) := by decide +kernel
theorem d_Mo_init_142 : decode prog_14_method_1_code 142 = .ok (.aload_n 0, 1) := by decide +kernel
theorem d_Mo_init_143 : decode prog_14_method_1_code 143 = .ok (.bipush 60, 2) := by decide +kernel
theorem d_Mo_init_145 : decode prog_14_method_1_code 145 = .ok (.newarray .int, 2) := by decide +kernel
theorem d_Mo_init_147 : decode prog_14_method_1_code 147 = .ok (.putfield 74, 3) := by decide +kernel
theorem d_Mo_init_150 : decode prog_14_method_1_code 150 = .ok (.aload_n 0, 1) := by decide +kernel
theorem d_Mo_init_151 : decode prog_14_method_1_code 151 = .ok (.sipush 600, 3) := by decide +kernel
theorem d_Mo_init_154 : decode prog_14_method_1_code 154 = .ok (.newarray .int, 2) := by decide +kernel
theorem d_Mo_init_156 : decode prog_14_method_1_code 156 = .ok (.putfield 77, 3) := by decide +kernel
theorem d_Mo_init_159 : decode prog_14_method_1_code 159 = .ok (.aload_n 0, 1) := by decide +kernel
theorem d_Mo_init_160 : decode prog_14_method_1_code 160 = .ok (.bipush 101, 2) := by decide +kernel
theorem d_Mo_init_162 : decode prog_14_method_1_code 162 = .ok (.newarray .int, 2) := by decide +kernel
theorem d_Mo_init_164 : decode prog_14_method_1_code 164 = .ok (.putfield 80, 3) := by decide +kernel
theorem d_Mo_init_167 : decode prog_14_method_1_code 167 = .ok (.aload_n 0, 1) := by decide +kernel
theorem d_Mo_init_168 : decode prog_14_method_1_code 168 = .ok (.iconst 0, 1) := by decide +kernel
theorem d_Mo_init_169 : decode prog_14_method_1_code 169 = .ok (.putfield 83, 3) := by decide +kernel
theorem d_Mo_init_172 : decode prog_14_method_1_code 172 = .ok (.aload_n 0, 1) := by decide +kernel
theorem d_Mo_init_173 : decode prog_14_method_1_code 173 = .ok (.iconst 0, 1) := by decide +kernel
theorem d_Mo_init_174 : decode prog_14_method_1_code 174 = .ok (.putfield 86, 3) := by decide +kernel
theorem d_Mo_init_177 : decode prog_14_method_1_code 177 = .ok (.aload_n 0, 1) := by decide +kernel
theorem d_Mo_init_178 : decode prog_14_method_1_code 178 = .ok (.iconst 0, 1) := by decide +kernel
theorem d_Mo_init_179 : decode prog_14_method_1_code 179 = .ok (.putfield 89, 3) := by decide +kernel
theorem d_Mo_init_182 : decode prog_14_method_1_code 182 = .ok (.aload_n 0, 1) := by decide +kernel
theorem d_Mo_init_183 : decode prog_14_method_1_code 183 = .ok (.bipush 21, 2) := by decide +kernel
theorem d_Mo_init_185 : decode prog_14_method_1_code 185 = .ok (.newarray .int, 2) := by decide +kernel
theorem d_Mo_init_187 : decode prog_14_method_1_code 187 = .ok (.dup, 1) := by decide +kernel
theorem d_Mo_init_188 : decode prog_14_method_1_code 188 = .ok (.iconst 0, 1) := by decide +kernel
theorem d_Mo_init_189 : decode prog_14_method_1_code 189 = .ok (.bipush 115, 2) := by decide +kernel
theorem d_Mo_init_191 : decode prog_14_method_1_code 191 = .ok (.iastore, 1) := by decide +kernel
theorem d_Mo_init_192 : decode prog_14_method_1_code 192 = .ok (.dup, 1) := by decide +kernel
theorem d_Mo_init_193 : decode prog_14_method_1_code 193 = .ok (.iconst 1, 1) := by decide +kernel
theorem d_Mo_init_194 : decode prog_14_method_1_code 194 = .ok (.bipush 108, 2) := by decide +kernel
theorem d_Mo_init_196 : decode prog_14_method_1_code 196 = .ok (.iastore, 1) := by decide +kernel
theorem d_Mo_init_197 : decode prog_14_method_1_code 197 = .ok (.dup, 1) := by decide +kernel
theorem d_Mo_init_198 : decode prog_14_method_1_code 198 = .ok (.iconst 2, 1) := by decide +kernel
theorem d_Mo_init_199 : decode prog_14_method_1_code 199 = .ok (.bipush 111, 2) := by decide +kernel
theorem d_Mo_init_201 : decode prog_14_method_1_code 201 = .ok (.iastore, 1) := by decide +kernel
theorem d_Mo_init_202 : decode prog_14_method_1_code 202 = .ok (.dup, 1) := by decide +kernel
theorem d_Mo_init_203 : decode prog_14_method_1_code 203 = .ok (.iconst 3, 1) := by decide +kernel
theorem d_Mo_init_204 : decode prog_14_method_1_code 204 = .ok (.bipush 119, 2) := by decide +kernel
theorem d_Mo_init_206 : decode prog_14_method_1_code 206 = .ok (.iastore, 1) := by decide +kernel
theorem d_Mo_init_207 : decode prog_14_method_1_code 207 = .ok (.dup, 1) := by decide +kernel
theorem d_Mo_init_208 : decode prog_14_method_1_code 208 = .ok (.iconst 4, 1) := by decide +kernel
theorem d_Mo_init_209 : decode prog_14_method_1_code 209 = .ok (.bipush 113, 2) := by decide +kernel
theorem d_Mo_init_211 : decode prog_14_method_1_code 211 = .ok (.iastore, 1) := by decide +kernel
theorem d_Mo_init_212 : decode prog_14_method_1_code 212 = .ok (.dup, 1) := by decide +kernel
theorem d_Mo_init_213 : decode prog_14_method_1_code 213 = .ok (.iconst 5, 1) := by decide +kernel
theorem d_Mo_init_214 : decode prog_14_method_1_code 214 = .ok (.bipush 117, 2) := by decide +kernel
theorem d_Mo_init_216 : decode prog_14_method_1_code 216 = .ok (.iastore, 1) := by decide +kernel
theorem d_Mo_init_217 : decode prog_14_method_1_code 217 = .ok (.dup, 1) := by decide +kernel
theorem d_Mo_init_218 : decode prog_14_method_1_code 218 = .ok (.bipush 6, 2) := by decide +kernel
theorem d_Mo_init_220 : decode prog_14_method_1_code 220 = .ok (.bipush 105, 2) := by decide +kernel
theorem d_Mo_init_222 : decode prog_14_method_1_code 222 = .ok (.iastore, 1) := by decide +kernel
theorem d_Mo_init_223 : decode prog_14_method_1_code 223 = .ok (.dup, 1) := by decide +kernel
theorem d_Mo_init_224 : decode prog_14_method_1_code 224 = .ok (.bipush 7, 2) := by decide +kernel
theorem d_Mo_init_226 : decode prog_14_method_1_code 226 = .ok (.bipush 99, 2) := by decide +kernel
theorem d_Mo_init_228 : decode prog_14_method_1_code 228 = .ok (.iastore, 1) := by decide +kernel
theorem d_Mo_init_229 : decode prog_14_method_1_code 229 = .ok (.dup, 1) := by decide +kernel
theorem d_Mo_init_230 : decode prog_14_method_1_code 230 = .ok (.bipush 8, 2) := by decide +kernel
theorem d_Mo_init_232 : decode prog_14_method_1_code 232 = .ok (.bipush 107, 2) := by decide +kernel
theorem d_Mo_init_234 : decode prog_14_method_1_code 234 = .ok (.iastore, 1) := by decide +kernel
theorem d_Mo_init_235 : decode prog_14_method_1_code 235 = .ok (.dup, 1) := by decide +kernel
theorem d_Mo_init_236 : decode prog_14_method_1_code 236 = .ok (.bipush 9, 2) := by decide +kernel
theorem d_Mo_init_238 : decode prog_14_method_1_code 238 = .ok (.bipush 114, 2) := by decide +kernel
theorem d_Mo_init_240 : decode prog_14_method_1_code 240 = .ok (.iastore, 1) := by decide +kernel
theorem d_Mo_init_241 : decode prog_14_method_1_code 241 = .ok (.dup, 1) := by decide +kernel
theorem d_Mo_init_242 : decode prog_14_method_1_code 242 = .ok (.bipush 10, 2) := by decide +kernel
theorem d_Mo_init_244 : decode prog_14_method_1_code 244 = .ok (.bipush 105, 2) := by decide +kernel
theorem d_Mo_init_246 : decode prog_14_method_1_code 246 = .ok (.iastore, 1) := by decide +kernel
theorem d_Mo_init_247 : decode prog_14_method_1_code 247 = .ok (.dup, 1) := by decide +kernel
theorem d_Mo_init_248 : decode prog_14_method_1_code 248 = .ok (.bipush 11, 2) := by decide +kernel
theorem d_Mo_init_250 : decode prog_14_method_1_code 250 = .ok (.bipush 115, 2) := by decide +kernel
theorem d_Mo_init_252 : decode prog_14_method_1_code 252 = .ok (.iastore, 1) := by decide +kernel
theorem d_Mo_init_253 : decode prog_14_method_1_code 253 = .ok (.dup, 1) := by decide +kernel
theorem d_Mo_init_254 : decode prog_14_method_1_code 254 = .ok (.bipush 12, 2) := by decide +kernel
theorem d_Mo_init_256 : decode prog_14_method_1_code 256 = .ok (.bipush 101, 2) := by decide +kernel
theorem d_Mo_init_258 : decode prog_14_method_1_code 258 = .ok (.iastore, 1) := by decide +kernel
theorem d_Mo_init_259 : decode prog_14_method_1_code 259 = .ok (.dup, 1) := by decide +kernel
theorem d_Mo_init_260 : decode prog_14_method_1_code 260 = .ok (.bipush 13, 2) := by decide +kernel
theorem d_Mo_init_262 : decode prog_14_method_1_code 262 = .ok (.bipush 114, 2) := by decide +kernel
theorem d_Mo_init_264 : decode prog_14_method_1_code 264 = .ok (.iastore, 1) := by decide +kernel
theorem d_Mo_init_265 : decode prog_14_method_1_code 265 = .ok (.dup, 1) := by decide +kernel
theorem d_Mo_init_266 : decode prog_14_method_1_code 266 = .ok (.bipush 14, 2) := by decide +kernel
theorem d_Mo_init_268 : decode prog_14_method_1_code 268 = .ok (.bipush 101, 2) := by decide +kernel
theorem d_Mo_init_270 : decode prog_14_method_1_code 270 = .ok (.iastore, 1) := by decide +kernel
theorem d_Mo_init_271 : decode prog_14_method_1_code 271 = .ok (.dup, 1) := by decide +kernel
theorem d_Mo_init_272 : decode prog_14_method_1_code 272 = .ok (.bipush 15, 2) := by decide +kernel
theorem d_Mo_init_274 : decode prog_14_method_1_code 274 = .ok (.bipush 115, 2) := by decide +kernel
theorem d_Mo_init_276 : decode prog_14_method_1_code 276 = .ok (.iastore, 1) := by decide +kernel
theorem d_Mo_init_277 : decode prog_14_method_1_code 277 = .ok (.dup, 1) := by decide +kernel
theorem d_Mo_init_278 : decode prog_14_method_1_code 278 = .ok (.bipush 16, 2) := by decide +kernel
theorem d_Mo_init_280 : decode prog_14_method_1_code 280 = .ok (.bipush 116, 2) := by decide +kernel
theorem d_Mo_init_282 : decode prog_14_method_1_code 282 = .ok (.iastore, 1) := by decide +kernel
theorem d_Mo_init_283 : decode prog_14_method_1_code 283 = .ok (.dup, 1) := by decide +kernel
theorem d_Mo_init_284 : decode prog_14_method_1_code 284 = .ok (.bipush 17, 2) := by decide +kernel
theorem d_Mo_init_286 : decode prog_14_method_1_code 286 = .ok (.bipush 112, 2) := by decide +kernel
theorem d_Mo_init_288 : decode prog_14_method_1_code 288 = .ok (.iastore, 1) := by decide +kernel
theorem d_Mo_init_289 : decode prog_14_method_1_code 289 = .ok (.dup, 1) := by decide +kernel
theorem d_Mo_init_290 : decode prog_14_method_1_code 290 = .ok (.bipush 18, 2) := by decide +kernel
theorem d_Mo_init_292 : decode prog_14_method_1_code 292 = .ok (.bipush 117, 2) := by decide +kernel
theorem d_Mo_init_294 : decode prog_14_method_1_code 294 = .ok (.iastore, 1) := by decide +kernel
theorem d_Mo_init_295 : decode prog_14_method_1_code 295 = .ok (.dup, 1) := by decide +kernel
theorem d_Mo_init_296 : decode prog_14_method_1_code 296 = .ok (.bipush 19, 2) := by decide +kernel
theorem d_Mo_init_298 : decode prog_14_method_1_code 298 = .ok (.bipush 108, 2) := by decide +kernel
theorem d_Mo_init_300 : decode prog_14_method_1_code 300 = .ok (.iastore, 1) := by decide +kernel
theorem d_Mo_init_301 : decode prog_14_method_1_code 301 = .ok (.dup, 1) := by decide +kernel
theorem d_Mo_init_302 : decode prog_14_method_1_code 302 = .ok (.bipush 20, 2) := by decide +kernel
theorem d_Mo_init_304 : decode prog_14_method_1_code 304 = .ok (.bipush 108, 2) := by decide +kernel
theorem d_Mo_init_306 : decode prog_14_method_1_code 306 = .ok (.iastore, 1) := by decide +kernel
theorem d_Mo_init_307 : decode prog_14_method_1_code 307 = .ok (.putfield 92, 3) := by decide +kernel
theorem d_Mo_init_310 : decode prog_14_method_1_code 310 = .ok (.aload_n 0, 1) := by decide +kernel
theorem d_Mo_init_311 : decode prog_14_method_1_code 311 = .ok (.bipush 100, 2) := by decide +kernel
theorem d_Mo_init_313 : decode prog_14_method_1_code 313 = .ok (.newarray .boolean, 2) := by decide +kernel
theorem d_Mo_init_315 : decode prog_14_method_1_code 315 = .ok (.putfield 95, 3) := by decide +kernel
theorem d_Mo_init_318 : decode prog_14_method_1_code 318 = .ok (.aload_n 0, 1) := by decide +kernel
theorem d_Mo_init_319 : decode prog_14_method_1_code 319 = .ok (.iconst 0, 1) := by decide +kernel
theorem d_Mo_init_320 : decode prog_14_method_1_code 320 = .ok (.putfield 99, 3) := by decide +kernel
theorem d_Mo_init_323 : decode prog_14_method_1_code 323 = .ok (.aload_n 0, 1) := by decide +kernel
theorem d_Mo_init_324 : decode prog_14_method_1_code 324 = .ok (.iconst (-1), 1) := by decide +kernel
theorem d_Mo_init_325 : decode prog_14_method_1_code 325 = .ok (.putfield 102, 3) := by decide +kernel
theorem d_Mo_init_328 : decode prog_14_method_1_code 328 = .ok (.aload_n 0, 1) := by decide +kernel
theorem d_Mo_init_329 : decode prog_14_method_1_code 329 = .ok (.iconst 0, 1) := by decide +kernel
theorem d_Mo_init_330 : decode prog_14_method_1_code 330 = .ok (.putfield 105, 3) := by decide +kernel
theorem d_Mo_init_333 : decode prog_14_method_1_code 333 = .ok (.aload_n 0, 1) := by decide +kernel
theorem d_Mo_init_334 : decode prog_14_method_1_code 334 = .ok (.sipush 9999, 3) := by decide +kernel
theorem d_Mo_init_337 : decode prog_14_method_1_code 337 = .ok (.putfield 108, 3) := by decide +kernel
theorem d_Mo_init_340 : decode prog_14_method_1_code 340 = .ok (.aload_n 0, 1) := by decide +kernel
theorem d_Mo_init_341 : decode prog_14_method_1_code 341 = .ok (.iconst 0, 1) := by decide +kernel
theorem d_Mo_init_342 : decode prog_14_method_1_code 342 = .ok (.putfield 111, 3) := by decide +kernel
theorem d_Mo_init_345 : decode prog_14_method_1_code 345 = .ok (.aload_n 0, 1) := by decide +kernel
theorem d_Mo_init_346 : decode prog_14_method_1_code 346 = .ok (.bipush 6, 2) := by decide +kernel
theorem d_Mo_init_348 : decode prog_14_method_1_code 348 = .ok (.newarray .int, 2) := by decide +kernel
theorem d_Mo_init_350 : decode prog_14_method_1_code 350 = .ok (.putfield 114, 3) := by decide +kernel
theorem d_Mo_init_353 : decode prog_14_method_1_code 353 = .ok (.aload_n 0, 1) := by decide +kernel
theorem d_Mo_init_354 : decode prog_14_method_1_code 354 = .ok (.bipush 6, 2) := by decide +kernel
theorem d_Mo_init_356 : decode prog_14_method_1_code 356 = .ok (.newarray .int, 2) := by decide +kernel
theorem d_Mo_init_358 : decode prog_14_method_1_code 358 = .ok (.putfield 117, 3) := by decide +kernel
theorem d_Mo_init_361 : decode prog_14_method_1_code 361 = .ok (.aload_n 0, 1) := by decide +kernel
theorem d_Mo_init_362 : decode prog_14_method_1_code 362 = .ok (.iconst 0, 1) := by decide +kernel
theorem d_Mo_init_363 : decode prog_14_method_1_code 363 = .ok (.putfield 120, 3) := by decide +kernel
theorem d_Mo_init_366 : decode prog_14_method_1_code 366 = .ok (.aload_n 0, 1) := by decide +kernel
theorem d_Mo_init_367 : decode prog_14_method_1_code 367 = .ok (.iconst 0, 1) := by decide +kernel
theorem d_Mo_init_368 : decode prog_14_method_1_code 368 = .ok (.putfield 123, 3) := by decide +kernel
theorem d_Mo_init_371 : decode prog_14_method_1_code 371 = .ok (.aload_n 0, 1) := by decide +kernel
theorem d_Mo_init_372 : decode prog_14_method_1_code 372 = .ok (.iconst 0, 1) := by decide +kernel
theorem d_Mo_init_373 : decode prog_14_method_1_code 373 = .ok (.putfield 126, 3) := by decide +kernel
theorem d_Mo_init_376 : decode prog_14_method_1_code 376 = .ok (.aload_n 0, 1) := by decide +kernel
theorem d_Mo_init_377 : decode prog_14_method_1_code 377 = .ok (.bipush 6, 2) := by decide +kernel
theorem d_Mo_init_379 : decode prog_14_method_1_code 379 = .ok (.newarray .int, 2) := by decide +kernel
theorem d_Mo_init_381 : decode prog_14_method_1_code 381 = .ok (.putfield 129, 3) := by decide +kernel
theorem d_Mo_init_384 : decode prog_14_method_1_code 384 = .ok (.aload_n 0, 1) := by decide +kernel
theorem d_Mo_init_385 : decode prog_14_method_1_code 385 = .ok (.bipush 6, 2) := by decide +kernel
theorem d_Mo_init_387 : decode prog_14_method_1_code 387 = .ok (.newarray .int, 2) := by decide +kernel
theorem d_Mo_init_389 : decode prog_14_method_1_code 389 = .ok (.putfield 132, 3) := by decide +kernel
theorem d_Mo_init_392 : decode prog_14_method_1_code 392 = .ok (.aload_n 0, 1) := by decide +kernel
theorem d_Mo_init_393 : decode prog_14_method_1_code 393 = .ok (.bipush 6, 2) := by decide +kernel
theorem d_Mo_init_395 : decode prog_14_method_1_code 395 = .ok (.newarray .int, 2) := by decide +kernel
theorem d_Mo_init_397 : decode prog_14_method_1_code 397 = .ok (.putfield 135, 3) := by decide +kernel
theorem d_Mo_init_400 : decode prog_14_method_1_code 400 = .ok (.aload_n 0, 1) := by decide +kernel
theorem d_Mo_init_401 : decode prog_14_method_1_code 401 = .ok (.iconst 0, 1) := by decide +kernel
theorem d_Mo_init_402 : decode prog_14_method_1_code 402 = .ok (.putfield 138, 3) := by decide +kernel
theorem d_Mo_init_405 : decode prog_14_method_1_code 405 = .ok (.aload_n 0, 1) := by decide +kernel
theorem d_Mo_init_406 : decode prog_14_method_1_code 406 = .ok (.bipush 6, 2) := by decide +kernel
theorem d_Mo_init_408 : decode prog_14_method_1_code 408 = .ok (.newarray .int, 2) := by decide +kernel
theorem d_Mo_init_410 : decode prog_14_method_1_code 410 = .ok (.putfield 141, 3) := by decide +kernel
theorem d_Mo_init_413 : decode prog_14_method_1_code 413 = .ok (.aload_n 0, 1) := by decide +kernel
theorem d_Mo_init_414 : decode prog_14_method_1_code 414 = .ok (.iconst 0, 1) := by decide +kernel
theorem d_Mo_init_415 : decode prog_14_method_1_code 415 = .ok (.putfield 144, 3) := by decide +kernel
theorem d_Mo_init_418 : decode prog_14_method_1_code 418 = .ok (.aload_n 0, 1) := by decide +kernel
theorem d_Mo_init_419 : decode prog_14_method_1_code 419 = .ok (.bipush 8, 2) := by decide +kernel
theorem d_Mo_init_421 : decode prog_14_method_1_code 421 = .ok (.newarray .int, 2) := by decide +kernel
theorem d_Mo_init_423 : decode prog_14_method_1_code 423 = .ok (.putfield 147, 3) := by decide +kernel
theorem d_Mo_init_426 : decode prog_14_method_1_code 426 = .ok (.aload_n 0, 1) := by decide +kernel
theorem d_Mo_init_427 : decode prog_14_method_1_code 427 = .ok (.bipush 8, 2) := by decide +kernel
theorem d_Mo_init_429 : decode prog_14_method_1_code 429 = .ok (.newarray .boolean, 2) := by decide +kernel
theorem d_Mo_init_431 : decode prog_14_method_1_code 431 = .ok (.putfield 150, 3) := by decide +kernel
theorem d_Mo_init_434 : decode prog_14_method_1_code 434 = .ok (.aload_n 0, 1) := by decide +kernel
theorem d_Mo_init_435 : decode prog_14_method_1_code 435 = .ok (.iconst 0, 1) := by decide +kernel
theorem d_Mo_init_436 : decode prog_14_method_1_code 436 = .ok (.putfield 153, 3) := by decide +kernel
theorem d_Mo_init_439 : decode prog_14_method_1_code 439 = .ok (.aload_n 0, 1) := by decide +kernel
theorem d_Mo_init_440 : decode prog_14_method_1_code 440 = .ok (.iconst (-1), 1) := by decide +kernel
theorem d_Mo_init_441 : decode prog_14_method_1_code 441 = .ok (.putfield 157, 3) := by decide +kernel
theorem d_Mo_init_444 : decode prog_14_method_1_code 444 = .ok (.aload_n 0, 1) := by decide +kernel
theorem d_Mo_init_445 : decode prog_14_method_1_code 445 = .ok (.iconst 0, 1) := by decide +kernel
theorem d_Mo_init_446 : decode prog_14_method_1_code 446 = .ok (.putfield 160, 3) := by decide +kernel
theorem d_Mo_init_449 : decode prog_14_method_1_code 449 = .ok (.aload_n 0, 1) := by decide +kernel
theorem d_Mo_init_450 : decode prog_14_method_1_code 450 = .ok (.iconst 0, 1) := by decide +kernel
theorem d_Mo_init_451 : decode prog_14_method_1_code 451 = .ok (.putfield 163, 3) := by decide +kernel
theorem d_Mo_init_454 : decode prog_14_method_1_code 454 = .ok (.aload_n 0, 1) := by decide +kernel
theorem d_Mo_init_455 : decode prog_14_method_1_code 455 = .ok (.iconst 0, 1) := by decide +kernel
theorem d_Mo_init_456 : decode prog_14_method_1_code 456 = .ok (.putfield 166, 3) := by decide +kernel
theorem d_Mo_init_459 : decode prog_14_method_1_code 459 = .ok (.aload_n 0, 1) := by decide +kernel
theorem d_Mo_init_460 : decode prog_14_method_1_code 460 = .ok (.iconst 0, 1) := by decide +kernel
theorem d_Mo_init_461 : decode prog_14_method_1_code 461 = .ok (.putfield 169, 3) := by decide +kernel
theorem d_Mo_init_464 : decode prog_14_method_1_code 464 = .ok (.aload_n 0, 1) := by decide +kernel
theorem d_Mo_init_465 : decode prog_14_method_1_code 465 = .ok (.iconst 0, 1) := by decide +kernel
theorem d_Mo_init_466 : decode prog_14_method_1_code 466 = .ok (.putfield 172, 3) := by decide +kernel
theorem d_Mo_init_469 : decode prog_14_method_1_code 469 = .ok (.aload_n 0, 1) := by decide +kernel
theorem d_Mo_init_470 : decode prog_14_method_1_code 470 = .ok (.iconst 0, 1) := by decide +kernel
theorem d_Mo_init_471 : decode prog_14_method_1_code 471 = .ok (.putfield 175, 3) := by decide +kernel
theorem d_Mo_init_474 : decode prog_14_method_1_code 474 = .ok (.aload_n 0, 1) := by decide +kernel
theorem d_Mo_init_475 : decode prog_14_method_1_code 475 = .ok (.bipush 6, 2) := by decide +kernel
theorem d_Mo_init_477 : decode prog_14_method_1_code 477 = .ok (.newarray .int, 2) := by decide +kernel
theorem d_Mo_init_479 : decode prog_14_method_1_code 479 = .ok (.putfield 178, 3) := by decide +kernel
theorem d_Mo_init_482 : decode prog_14_method_1_code 482 = .ok (.aload_n 0, 1) := by decide +kernel
theorem d_Mo_init_483 : decode prog_14_method_1_code 483 = .ok (.bipush 6, 2) := by decide +kernel
theorem d_Mo_init_485 : decode prog_14_method_1_code 485 = .ok (.newarray .int, 2) := by decide +kernel
theorem d_Mo_init_487 : decode prog_14_method_1_code 487 = .ok (.putfield 181, 3) := by decide +kernel
theorem d_Mo_init_490 : decode prog_14_method_1_code 490 = .ok (.aload_n 0, 1) := by decide +kernel
theorem d_Mo_init_491 : decode prog_14_method_1_code 491 = .ok (.bipush 6, 2) := by decide +kernel
theorem d_Mo_init_493 : decode prog_14_method_1_code 493 = .ok (.newarray .int, 2) := by decide +kernel
theorem d_Mo_init_495 : decode prog_14_method_1_code 495 = .ok (.putfield 184, 3) := by decide +kernel
theorem d_Mo_init_498 : decode prog_14_method_1_code 498 = .ok (.aload_n 0, 1) := by decide +kernel
theorem d_Mo_init_499 : decode prog_14_method_1_code 499 = .ok (.bipush 6, 2) := by decide +kernel
theorem d_Mo_init_501 : decode prog_14_method_1_code 501 = .ok (.newarray .int, 2) := by decide +kernel
theorem d_Mo_init_503 : decode prog_14_method_1_code 503 = .ok (.putfield 187, 3) := by decide +kernel
theorem d_Mo_init_506 : decode prog_14_method_1_code 506 = .ok (.aload_n 0, 1) := by decide +kernel
theorem d_Mo_init_507 : decode prog_14_method_1_code 507 = .ok (.bipush 6, 2) := by decide +kernel
theorem d_Mo_init_509 : decode prog_14_method_1_code 509 = .ok (.newarray .int, 2) := by decide +kernel
theorem d_Mo_init_511 : decode prog_14_method_1_code 511 = .ok (.putfield 190, 3) := by decide +kernel
theorem d_Mo_init_514 : decode prog_14_method_1_code 514 = .ok (.aload_n 0, 1) := by decide +kernel
theorem d_Mo_init_515 : decode prog_14_method_1_code 515 = .ok (.bipush 24, 2) := by decide +kernel
theorem d_Mo_init_517 : decode prog_14_method_1_code 517 = .ok (.newarray .int, 2) := by decide +kernel
theorem d_Mo_init_519 : decode prog_14_method_1_code 519 = .ok (.putfield 193, 3) := by decide +kernel
theorem d_Mo_init_522 : decode prog_14_method_1_code 522 = .ok (.aload_n 0, 1) := by decide +kernel
theorem d_Mo_init_523 : decode prog_14_method_1_code 523 = .ok (.bipush 6, 2) := by decide +kernel
theorem d_Mo_init_525 : decode prog_14_method_1_code 525 = .ok (.newarray .int, 2) := by decide +kernel
theorem d_Mo_init_527 : decode prog_14_method_1_code 527 = .ok (.putfield 196, 3) := by decide +kernel
theorem d_Mo_init_530 : decode prog_14_method_1_code 530 = .ok (.aload_n 0, 1) := by decide +kernel
theorem d_Mo_init_531 : decode prog_14_method_1_code 531 = .ok (.bipush 8, 2) := by decide +kernel
theorem d_Mo_init_533 : decode prog_14_method_1_code 533 = .ok (.newarray .int, 2) := by decide +kernel
theorem d_Mo_init_535 : decode prog_14_method_1_code 535 = .ok (.putfield 199, 3) := by decide +kernel
theorem d_Mo_init_538 : decode prog_14_method_1_code 538 = .ok (.aload_n 0, 1) := by decide +kernel
theorem d_Mo_init_539 : decode prog_14_method_1_code 539 = .ok (.bipush 8, 2) := by decide +kernel
theorem d_Mo_init_541 : decode prog_14_method_1_code 541 = .ok (.newarray .boolean, 2) := by decide +kernel
theorem d_Mo_init_543 : decode prog_14_method_1_code 543 = .ok (.putfield 202, 3) := by decide +kernel
theorem d_Mo_init_546 : decode prog_14_method_1_code 546 = .ok (.aload_n 0, 1) := by decide +kernel
theorem d_Mo_init_547 : decode prog_14_method_1_code 547 = .ok (.iconst 0, 1) := by decide +kernel
theorem d_Mo_init_548 : decode prog_14_method_1_code 548 = .ok (.putfield 205, 3) := by decide +kernel
theorem d_Mo_init_551 : decode prog_14_method_1_code 551 = .ok (.aload_n 0, 1) := by decide +kernel
theorem d_Mo_init_552 : decode prog_14_method_1_code 552 = .ok (.bipush 20, 2) := by decide +kernel
theorem d_Mo_init_554 : decode prog_14_method_1_code 554 = .ok (.newarray .int, 2) := by decide +kernel
theorem d_Mo_init_556 : decode prog_14_method_1_code 556 = .ok (.putfield 208, 3) := by decide +kernel
theorem d_Mo_init_559 : decode prog_14_method_1_code 559 = .ok (.aload_n 0, 1) := by decide +kernel
theorem d_Mo_init_560 : decode prog_14_method_1_code 560 = .ok (.bipush 6, 2) := by decide +kernel
theorem d_Mo_init_562 : decode prog_14_method_1_code 562 = .ok (.newarray .int, 2) := by decide +kernel
theorem d_Mo_init_564 : decode prog_14_method_1_code 564 = .ok (.dup, 1) := by decide +kernel
theorem d_Mo_init_565 : decode prog_14_method_1_code 565 = .ok (.iconst 0, 1) := by decide +kernel
theorem d_Mo_init_566 : decode prog_14_method_1_code 566 = .ok (.iconst (-1), 1) := by decide +kernel
theorem d_Mo_init_567 : decode prog_14_method_1_code 567 = .ok (.iastore, 1) := by decide +kernel
theorem d_Mo_init_568 : decode prog_14_method_1_code 568 = .ok (.dup, 1) := by decide +kernel
theorem d_Mo_init_569 : decode prog_14_method_1_code 569 = .ok (.iconst 1, 1) := by decide +kernel
theorem d_Mo_init_570 : decode prog_14_method_1_code 570 = .ok (.iconst (-1), 1) := by decide +kernel
theorem d_Mo_init_571 : decode prog_14_method_1_code 571 = .ok (.iastore, 1) := by decide +kernel
theorem d_Mo_init_572 : decode prog_14_method_1_code 572 = .ok (.dup, 1) := by decide +kernel
theorem d_Mo_init_573 : decode prog_14_method_1_code 573 = .ok (.iconst 2, 1) := by decide +kernel
theorem d_Mo_init_574 : decode prog_14_method_1_code 574 = .ok (.iconst (-1), 1) := by decide +kernel
theorem d_Mo_init_575 : decode prog_14_method_1_code 575 = .ok (.iastore, 1) := by decide +kernel
theorem d_Mo_init_576 : decode prog_14_method_1_code 576 = .ok (.dup, 1) := by decide +kernel
theorem d_Mo_init_577 : decode prog_14_method_1_code 577 = .ok (.iconst 3, 1) := by decide +kernel
theorem d_Mo_init_578 : decode prog_14_method_1_code 578 = .ok (.iconst (-1), 1) := by decide +kernel
theorem d_Mo_init_579 : decode prog_14_method_1_code 579 = .ok (.iastore, 1) := by decide +kernel
theorem d_Mo_init_580 : decode prog_14_method_1_code 580 = .ok (.dup, 1) := by decide +kernel
theorem d_Mo_init_581 : decode prog_14_method_1_code 581 = .ok (.iconst 4, 1) := by decide +kernel
theorem d_Mo_init_582 : decode prog_14_method_1_code 582 = .ok (.iconst (-1), 1) := by decide +kernel
theorem d_Mo_init_583 : decode prog_14_method_1_code 583 = .ok (.iastore, 1) := by decide +kernel
theorem d_Mo_init_584 : decode prog_14_method_1_code 584 = .ok (.dup, 1) := by decide +kernel
theorem d_Mo_init_585 : decode prog_14_method_1_code 585 = .ok (.iconst 5, 1) := by decide +kernel
theorem d_Mo_init_586 : decode prog_14_method_1_code 586 = .ok (.iconst (-1), 1) := by decide +kernel
theorem d_Mo_init_587 : decode prog_14_method_1_code 587 = .ok (.iastore, 1) := by decide +kernel
theorem d_Mo_init_588 : decode prog_14_method_1_code 588 = .ok (.putfield 211, 3) := by decide +kernel
theorem d_Mo_init_591 : decode prog_14_method_1_code 591 = .ok (.aload_n 0, 1) := by decide +kernel
theorem d_Mo_init_592 : decode prog_14_method_1_code 592 = .ok (.bipush 6, 2) := by decide +kernel
theorem d_Mo_init_594 : decode prog_14_method_1_code 594 = .ok (.newarray .int, 2) := by decide +kernel
theorem d_Mo_init_596 : decode prog_14_method_1_code 596 = .ok (.putfield 214, 3) := by decide +kernel
theorem d_Mo_init_599 : decode prog_14_method_1_code 599 = .ok (.aload_n 0, 1) := by decide +kernel
theorem d_Mo_init_600 : decode prog_14_method_1_code 600 = .ok (.sipush 360, 3) := by decide +kernel
theorem d_Mo_init_603 : decode prog_14_method_1_code 603 = .ok (.newarray .long, 2) := by decide +kernel
theorem d_Mo_init_605 : decode prog_14_method_1_code 605 = .ok (.putfield 217, 3) := by decide +kernel
theorem d_Mo_init_608 : decode prog_14_method_1_code 608 = .ok (.aload_n 0, 1) := by decide +kernel
theorem d_Mo_init_609 : decode prog_14_method_1_code 609 = .ok (.bipush 60, 2) := by decide +kernel
theorem d_Mo_init_611 : decode prog_14_method_1_code 611 = .ok (.newarray .long, 2) := by decide +kernel
theorem d_Mo_init_613 : decode prog_14_method_1_code 613 = .ok (.putfield 221, 3) := by decide +kernel
theorem d_Mo_init_616 : decode prog_14_method_1_code 616 = .ok (.return_, 1) := by decide +kernel
theorem d_Mo_man_0 : decode prog_14_method_7_code 0 = .ok (.aload_n 0, 1) := by decide +kernel
theorem d_Mo_man_1 : decode prog_14_method_7_code 1 = .ok (.iload_n 1, 1) := by decide +kernel
theorem d_Mo_man_2 : decode prog_14_method_7_code 2 = .ok (.iconst 0, 1) := by decide +kernel
theorem d_Mo_man_3 : decode prog_14_method_7_code 3 = .ok (.bipush 6, 2) := by decide +kernel
theorem d_Mo_man_5 : decode prog_14_method_7_code 5 = .ok (.invokevirtual 224, 3) := by decide +kernel
theorem d_Mo_man_8 : decode prog_14_method_7_code 8 = .ok (.ifCond .ne 5, 3) := by decide +kernel
theorem d_Mo_man_11 : decode prog_14_method_7_code 11 = .ok (.iconst (-1), 1) := by decide +kernel
theorem d_Mo_man_12 : decode prog_14_method_7_code 12 = .ok (.ireturn, 1) := by decide +kernel
theorem d_Mo_man_13 : decode prog_14_method_7_code 13 = .ok (.aload_n 0, 1) := by decide +kernel
theorem d_Mo_man_14 : decode prog_14_method_7_code 14 = .ok (.iload_n 2, 1) := by decide +kernel
theorem d_Mo_man_15 : decode prog_14_method_7_code 15 = .ok (.iconst 0, 1) := by decide +kernel
theorem d_Mo_man_16 : decode prog_14_method_7_code 16 = .ok (.bipush 9, 2) := by decide +kernel
theorem d_Mo_man_18 : decode prog_14_method_7_code 18 = .ok (.invokevirtual 224, 3) := by decide +kernel
theorem d_Mo_man_21 : decode prog_14_method_7_code 21 = .ok (.ifCond .ne 6, 3) := by decide +kernel
theorem d_Mo_man_24 : decode prog_14_method_7_code 24 = .ok (.bipush (-2), 2) := by decide +kernel
theorem d_Mo_man_26 : decode prog_14_method_7_code 26 = .ok (.ireturn, 1) := by decide +kernel
theorem d_Mo_man_27 : decode prog_14_method_7_code 27 = .ok (.aload_n 0, 1) := by decide +kernel
theorem d_Mo_man_28 : decode prog_14_method_7_code 28 = .ok (.getfield 7, 3) := by decide +kernel
theorem d_Mo_man_31 : decode prog_14_method_7_code 31 = .ok (.bipush 6, 2) := by decide +kernel
theorem d_Mo_man_33 : decode prog_14_method_7_code 33 = .ok (.if_icmp .ne 6, 3) := by decide +kernel
theorem d_Mo_man_36 : decode prog_14_method_7_code 36 = .ok (.bipush (-4), 2) := by decide +kernel
theorem d_Mo_man_38 : decode prog_14_method_7_code 38 = .ok (.ireturn, 1) := by decide +kernel
theorem d_Mo_man_39 : decode prog_14_method_7_code 39 = .ok (.aload_n 0, 1) := by decide +kernel
theorem d_Mo_man_40 : decode prog_14_method_7_code 40 = .ok (.getfield 25, 3) := by decide +kernel
theorem d_Mo_man_43 : decode prog_14_method_7_code 43 = .ok (.aload_n 0, 1) := by decide +kernel
theorem d_Mo_man_44 : decode prog_14_method_7_code 44 = .ok (.getfield 7, 3) := by decide +kernel
theorem d_Mo_man_47 : decode prog_14_method_7_code 47 = .ok (.iload_n 1, 1) := by decide +kernel
theorem d_Mo_man_48 : decode prog_14_method_7_code 48 = .ok (.iastore, 1) := by decide +kernel
theorem d_Mo_man_49 : decode prog_14_method_7_code 49 = .ok (.aload_n 0, 1) := by decide +kernel
theorem d_Mo_man_50 : decode prog_14_method_7_code 50 = .ok (.getfield 29, 3) := by decide +kernel
theorem d_Mo_man_53 : decode prog_14_method_7_code 53 = .ok (.aload_n 0, 1) := by decide +kernel
theorem d_Mo_man_54 : decode prog_14_method_7_code 54 = .ok (.getfield 7, 3) := by decide +kernel
theorem d_Mo_man_57 : decode prog_14_method_7_code 57 = .ok (.iload_n 2, 1) := by decide +kernel
theorem d_Mo_man_58 : decode prog_14_method_7_code 58 = .ok (.iastore, 1) := by decide +kernel
theorem d_Mo_man_59 : decode prog_14_method_7_code 59 = .ok (.aload_n 0, 1) := by decide +kernel
theorem d_Mo_man_60 : decode prog_14_method_7_code 60 = .ok (.getfield 32, 3) := by decide +kernel
theorem d_Mo_man_63 : decode prog_14_method_7_code 63 = .ok (.aload_n 0, 1) := by decide +kernel
theorem d_Mo_man_64 : decode prog_14_method_7_code 64 = .ok (.getfield 7, 3) := by decide +kernel
theorem d_Mo_man_67 : decode prog_14_method_7_code 67 = .ok (.iconst 0, 1) := by decide +kernel
theorem d_Mo_man_68 : decode prog_14_method_7_code 68 = .ok (.iastore, 1) := by decide +kernel
theorem d_Mo_man_69 : decode prog_14_method_7_code 69 = .ok (.aload_n 0, 1) := by decide +kernel
theorem d_Mo_man_70 : decode prog_14_method_7_code 70 = .ok (.getfield 35, 3) := by decide +kernel
theorem d_Mo_man_73 : decode prog_14_method_7_code 73 = .ok (.aload_n 0, 1) := by decide +kernel
theorem d_Mo_man_74 : decode prog_14_method_7_code 74 = .ok (.getfield 7, 3) := by decide +kernel
theorem d_Mo_man_77 : decode prog_14_method_7_code 77 = .ok (.iconst 0, 1) := by decide +kernel
theorem d_Mo_man_78 : decode prog_14_method_7_code 78 = .ok (.iastore, 1) := by decide +kernel
theorem d_Mo_man_79 : decode prog_14_method_7_code 79 = .ok (.aload_n 0, 1) := by decide +kernel
theorem d_Mo_man_80 : decode prog_14_method_7_code 80 = .ok (.getfield 41, 3) := by decide +kernel
theorem d_Mo_man_83 : decode prog_14_method_7_code 83 = .ok (.aload_n 0, 1) := by decide +kernel
theorem d_Mo_man_84 : decode prog_14_method_7_code 84 = .ok (.getfield 7, 3) := by decide +kernel
theorem d_Mo_man_87 : decode prog_14_method_7_code 87 = .ok (.aload_n 0, 1) := by decide +kernel
theorem d_Mo_man_88 : decode prog_14_method_7_code 88 = .ok (.getfield 7, 3) := by decide +kernel
theorem d_Mo_man_91 : decode prog_14_method_7_code 91 = .ok (.iastore, 1) := by decide +kernel
theorem d_Mo_man_92 : decode prog_14_method_7_code 92 = .ok (.iconst 0, 1) := by decide +kernel
theorem d_Mo_man_93 : decode prog_14_method_7_code 93 = .ok (.istore_n 3, 1) := by decide +kernel
theorem d_Mo_man_94 : decode prog_14_method_7_code 94 = .ok (.iload_n 3, 1) := by decide +kernel
theorem d_Mo_man_95 : decode prog_14_method_7_code 95 = .ok (.iconst 4, 1) := by decide +kernel
theorem d_Mo_man_96 : decode prog_14_method_7_code 96 = .ok (.if_icmp .ge 23, 3) := by decide +kernel
theorem d_Mo_man_99 : decode prog_14_method_7_code 99 = .ok (.aload_n 0, 1) := by decide +kernel
theorem d_Mo_man_100 : decode prog_14_method_7_code 100 = .ok (.getfield 38, 3) := by decide +kernel
theorem d_Mo_man_103 : decode prog_14_method_7_code 103 = .ok (.iconst 4, 1) := by decide +kernel
theorem d_Mo_man_104 : decode prog_14_method_7_code 104 = .ok (.aload_n 0, 1) := by decide +kernel
theorem d_Mo_man_105 : decode prog_14_method_7_code 105 = .ok (.getfield 7, 3) := by decide +kernel
theorem d_Mo_man_108 : decode prog_14_method_7_code 108 = .ok (.imul, 1) := by decide +kernel
theorem d_Mo_man_109 : decode prog_14_method_7_code 109 = .ok (.iload_n 3, 1) := by decide +kernel
theorem d_Mo_man_110 : decode prog_14_method_7_code 110 = .ok (.iadd, 1) := by decide +kernel
theorem d_Mo_man_111 : decode prog_14_method_7_code 111 = .ok (.iconst 0, 1) := by decide +kernel
theorem d_Mo_man_112 : decode prog_14_method_7_code 112 = .ok (.iastore, 1) := by decide +kernel
theorem d_Mo_man_113 : decode prog_14_method_7_code 113 = .ok (.iinc 3 1, 3) := by decide +kernel
theorem d_Mo_man_116 : decode prog_14_method_7_code 116 = .ok (.goto (-22), 3) := by decide +kernel
theorem d_Mo_man_119 : decode prog_14_method_7_code 119 = .ok (.aload_n 0, 1) := by decide +kernel
theorem d_Mo_man_120 : decode prog_14_method_7_code 120 = .ok (.dup, 1) := by decide +kernel
theorem d_Mo_man_121 : decode prog_14_method_7_code 121 = .ok (.getfield 7, 3) := by decide +kernel
theorem d_Mo_man_124 : decode prog_14_method_7_code 124 = .ok (.iconst 1, 1) := by decide +kernel
theorem d_Mo_man_125 : decode prog_14_method_7_code 125 = .ok (.iadd, 1) := by decide +kernel
theorem d_Mo_man_126 : decode prog_14_method_7_code 126 = .ok (.putfield 7, 3) := by decide +kernel
theorem d_Mo_man_129 : decode prog_14_method_7_code 129 = .ok (.aload_n 0, 1) := by decide +kernel
theorem d_Mo_man_130 : decode prog_14_method_7_code 130 = .ok (.aload_n 0, 1) := by decide +kernel
theorem d_Mo_man_131 : decode prog_14_method_7_code 131 = .ok (.getfield 7, 3) := by decide +kernel
theorem d_Mo_man_134 : decode prog_14_method_7_code 134 = .ok (.putfield 13, 3) := by decide +kernel
theorem d_Mo_man_137 : decode prog_14_method_7_code 137 = .ok (.aload_n 0, 1) := by decide +kernel
theorem d_Mo_man_138 : decode prog_14_method_7_code 138 = .ok (.getfield 7, 3) := by decide +kernel
theorem d_Mo_man_141 : decode prog_14_method_7_code 141 = .ok (.iconst 1, 1) := by decide +kernel
theorem d_Mo_man_142 : decode prog_14_method_7_code 142 = .ok (.isub, 1) := by decide +kernel
theorem d_Mo_man_143 : decode prog_14_method_7_code 143 = .ok (.ireturn, 1) := by decide +kernel
theorem d_Mo_in_0 : decode prog_14_method_2_code 0 = .ok (.iload_n 1, 1) := by decide +kernel
theorem d_Mo_in_1 : decode prog_14_method_2_code 1 = .ok (.iload_n 2, 1) := by decide +kernel
theorem d_Mo_in_2 : decode prog_14_method_2_code 2 = .ok (.if_icmp .lt 12, 3) := by decide +kernel
theorem d_Mo_in_5 : decode prog_14_method_2_code 5 = .ok (.iload_n 1, 1) := by decide +kernel
theorem d_Mo_in_6 : decode prog_14_method_2_code 6 = .ok (.iload_n 3, 1) := by decide +kernel
theorem d_Mo_in_7 : decode prog_14_method_2_code 7 = .ok (.if_icmp .gt 7, 3) := by decide +kernel
theorem d_Mo_in_10 : decode prog_14_method_2_code 10 = .ok (.iconst 1, 1) := by decide +kernel
theorem d_Mo_in_11 : decode prog_14_method_2_code 11 = .ok (.goto 4, 3) := by decide +kernel
theorem d_Mo_in_14 : decode prog_14_method_2_code 14 = .ok (.iconst 0, 1) := by decide +kernel
theorem d_Mo_in_15 : decode prog_14_method_2_code 15 = .ok (.ireturn, 1) := by decide +kernel
theorem d_Mo_held_0 : decode prog_14_method_8_code 0 = .ok (.aload_n 0, 1) := by decide +kernel
theorem d_Mo_held_1 : decode prog_14_method_8_code 1 = .ok (.iload_n 1, 1) := by decide +kernel
theorem d_Mo_held_2 : decode prog_14_method_8_code 2 = .ok (.invokevirtual 228, 3) := by decide +kernel
theorem d_Mo_held_5 : decode prog_14_method_8_code 5 = .ok (.ifCond .ne 5, 3) := by decide +kernel
theorem d_Mo_held_8 : decode prog_14_method_8_code 8 = .ok (.iconst (-1), 1) := by decide +kernel
theorem d_Mo_held_9 : decode prog_14_method_8_code 9 = .ok (.ireturn, 1) := by decide +kernel
theorem d_Mo_held_10 : decode prog_14_method_8_code 10 = .ok (.aload_n 0, 1) := by decide +kernel
theorem d_Mo_held_11 : decode prog_14_method_8_code 11 = .ok (.iload_n 2, 1) := by decide +kernel
theorem d_Mo_held_12 : decode prog_14_method_8_code 12 = .ok (.iconst 0, 1) := by decide +kernel
theorem d_Mo_held_13 : decode prog_14_method_8_code 13 = .ok (.sipush 9999, 3) := by decide +kernel
theorem d_Mo_held_16 : decode prog_14_method_8_code 16 = .ok (.invokevirtual 224, 3) := by decide +kernel
theorem d_Mo_held_19 : decode prog_14_method_8_code 19 = .ok (.ifCond .ne 6, 3) := by decide +kernel
theorem d_Mo_held_22 : decode prog_14_method_8_code 22 = .ok (.bipush (-2), 2) := by decide +kernel
theorem d_Mo_held_24 : decode prog_14_method_8_code 24 = .ok (.ireturn, 1) := by decide +kernel
theorem d_Mo_held_25 : decode prog_14_method_8_code 25 = .ok (.aload_n 0, 1) := by decide +kernel
theorem d_Mo_held_26 : decode prog_14_method_8_code 26 = .ok (.getfield 32, 3) := by decide +kernel
theorem d_Mo_held_29 : decode prog_14_method_8_code 29 = .ok (.iload_n 1, 1) := by decide +kernel
theorem d_Mo_held_30 : decode prog_14_method_8_code 30 = .ok (.iaload, 1) := by decide +kernel
theorem d_Mo_held_31 : decode prog_14_method_8_code 31 = .ok (.istore_n 3, 1) := by decide +kernel
theorem d_Mo_held_32 : decode prog_14_method_8_code 32 = .ok (.aload_n 0, 1) := by decide +kernel
theorem d_Mo_held_33 : decode prog_14_method_8_code 33 = .ok (.getfield 32, 3) := by decide +kernel
theorem d_Mo_held_36 : decode prog_14_method_8_code 36 = .ok (.iload_n 1, 1) := by decide +kernel
theorem d_Mo_held_37 : decode prog_14_method_8_code 37 = .ok (.iload_n 2, 1) := by decide +kernel
theorem d_Mo_held_38 : decode prog_14_method_8_code 38 = .ok (.iastore, 1) := by decide +kernel
theorem d_Mo_held_39 : decode prog_14_method_8_code 39 = .ok (.iload_n 3, 1) := by decide +kernel
theorem d_Mo_held_40 : decode prog_14_method_8_code 40 = .ok (.ireturn, 1) := by decide +kernel
theorem d_Mo_isMan_0 : decode prog_14_method_5_code 0 = .ok (.aload_n 0, 1) := by decide +kernel
theorem d_Mo_isMan_1 : decode prog_14_method_5_code 1 = .ok (.iload_n 1, 1) := by decide +kernel
theorem d_Mo_isMan_2 : decode prog_14_method_5_code 2 = .ok (.iconst 0, 1) := by decide +kernel
theorem d_Mo_isMan_3 : decode prog_14_method_5_code 3 = .ok (.aload_n 0, 1) := by decide +kernel
theorem d_Mo_isMan_4 : decode prog_14_method_5_code 4 = .ok (.getfield 7, 3) := by decide +kernel
theorem d_Mo_isMan_7 : decode prog_14_method_5_code 7 = .ok (.iconst 1, 1) := by decide +kernel
theorem d_Mo_isMan_8 : decode prog_14_method_5_code 8 = .ok (.isub, 1) := by decide +kernel
theorem d_Mo_isMan_9 : decode prog_14_method_5_code 9 = .ok (.invokevirtual 224, 3) := by decide +kernel
theorem d_Mo_isMan_12 : decode prog_14_method_5_code 12 = .ok (.ireturn, 1) := by decide +kernel
theorem d_Mo_row_0 : decode prog_14_method_9_code 0 = .ok (.aload_n 0, 1) := by decide +kernel
theorem d_Mo_row_1 : decode prog_14_method_9_code 1 = .ok (.iload_n 1, 1) := by decide +kernel
theorem d_Mo_row_2 : decode prog_14_method_9_code 2 = .ok (.invokevirtual 228, 3) := by decide +kernel
theorem d_Mo_row_5 : decode prog_14_method_9_code 5 = .ok (.ifCond .eq 13, 3) := by decide +kernel
theorem d_Mo_row_8 : decode prog_14_method_9_code 8 = .ok (.aload_n 0, 1) := by decide +kernel
theorem d_Mo_row_9 : decode prog_14_method_9_code 9 = .ok (.iload_n 2, 1) := by decide +kernel
theorem d_Mo_row_10 : decode prog_14_method_9_code 10 = .ok (.iconst 0, 1) := by decide +kernel
theorem d_Mo_row_11 : decode prog_14_method_9_code 11 = .ok (.iconst 3, 1) := by decide +kernel
theorem d_Mo_row_12 : decode prog_14_method_9_code 12 = .ok (.invokevirtual 224, 3) := by decide +kernel
theorem d_Mo_row_15 : decode prog_14_method_9_code 15 = .ok (.ifCond .ne 5, 3) := by decide +kernel
theorem d_Mo_row_18 : decode prog_14_method_9_code 18 = .ok (.iconst (-1), 1) := by decide +kernel
theorem d_Mo_row_19 : decode prog_14_method_9_code 19 = .ok (.ireturn, 1) := by decide +kernel
theorem d_Mo_row_20 : decode prog_14_method_9_code 20 = .ok (.aload_n 0, 1) := by decide +kernel
theorem d_Mo_row_21 : decode prog_14_method_9_code 21 = .ok (.iload_n 3, 1) := by decide +kernel
theorem d_Mo_row_22 : decode prog_14_method_9_code 22 = .ok (.iconst 0, 1) := by decide +kernel
theorem d_Mo_row_23 : decode prog_14_method_9_code 23 = .ok (.bipush 9, 2) := by decide +kernel
theorem d_Mo_row_25 : decode prog_14_method_9_code 25 = .ok (.invokevirtual 224, 3) := by decide +kernel
theorem d_Mo_row_28 : decode prog_14_method_9_code 28 = .ok (.ifCond .ne 6, 3) := by decide +kernel
theorem d_Mo_row_31 : decode prog_14_method_9_code 31 = .ok (.bipush (-2), 2) := by decide +kernel
theorem d_Mo_row_33 : decode prog_14_method_9_code 33 = .ok (.ireturn, 1) := by decide +kernel
theorem d_Mo_row_34 : decode prog_14_method_9_code 34 = .ok (.aload_n 0, 1) := by decide +kernel
theorem d_Mo_row_35 : decode prog_14_method_9_code 35 = .ok (.getfield 25, 3) := by decide +kernel
theorem d_Mo_row_38 : decode prog_14_method_9_code 38 = .ok (.iload_n 1, 1) := by decide +kernel
theorem d_Mo_row_39 : decode prog_14_method_9_code 39 = .ok (.iaload, 1) := by decide +kernel
theorem d_Mo_row_40 : decode prog_14_method_9_code 40 = .ok (.bipush 6, 2) := by decide +kernel
theorem d_Mo_row_42 : decode prog_14_method_9_code 42 = .ok (.if_icmp .eq 6, 3) := by decide +kernel
theorem d_Mo_row_45 : decode prog_14_method_9_code 45 = .ok (.bipush (-3), 2) := by decide +kernel
theorem d_Mo_row_47 : decode prog_14_method_9_code 47 = .ok (.ireturn, 1) := by decide +kernel
theorem d_Mo_row_48 : decode prog_14_method_9_code 48 = .ok (.aload_n 0, 1) := by decide +kernel
theorem d_Mo_row_49 : decode prog_14_method_9_code 49 = .ok (.getfield 38, 3) := by decide +kernel
theorem d_Mo_row_52 : decode prog_14_method_9_code 52 = .ok (.iconst 4, 1) := by decide +kernel
theorem d_Mo_row_53 : decode prog_14_method_9_code 53 = .ok (.iload_n 1, 1) := by decide +kernel
theorem d_Mo_row_54 : decode prog_14_method_9_code 54 = .ok (.imul, 1) := by decide +kernel
theorem d_Mo_row_55 : decode prog_14_method_9_code 55 = .ok (.iload_n 2, 1) := by decide +kernel
theorem d_Mo_row_56 : decode prog_14_method_9_code 56 = .ok (.iadd, 1) := by decide +kernel
theorem d_Mo_row_57 : decode prog_14_method_9_code 57 = .ok (.iaload, 1) := by decide +kernel
theorem d_Mo_row_58 : decode prog_14_method_9_code 58 = .ok (.istore 4, 2) := by decide +kernel
theorem d_Mo_row_60 : decode prog_14_method_9_code 60 = .ok (.aload_n 0, 1) := by decide +kernel
theorem d_Mo_row_61 : decode prog_14_method_9_code 61 = .ok (.getfield 38, 3) := by decide +kernel
theorem d_Mo_row_64 : decode prog_14_method_9_code 64 = .ok (.iconst 4, 1) := by decide +kernel
theorem d_Mo_row_65 : decode prog_14_method_9_code 65 = .ok (.iload_n 1, 1) := by decide +kernel
theorem d_Mo_row_66 : decode prog_14_method_9_code 66 = .ok (.imul, 1) := by decide +kernel
theorem d_Mo_row_67 : decode prog_14_method_9_code 67 = .ok (.iload_n 2, 1) := by decide +kernel
theorem d_Mo_row_68 : decode prog_14_method_9_code 68 = .ok (.iadd, 1) := by decide +kernel
theorem d_Mo_row_69 : decode prog_14_method_9_code 69 = .ok (.iload_n 3, 1) := by decide +kernel
theorem d_Mo_row_70 : decode prog_14_method_9_code 70 = .ok (.iastore, 1) := by decide +kernel
theorem d_Mo_row_71 : decode prog_14_method_9_code 71 = .ok (.iload 4, 2) := by decide +kernel
theorem d_Mo_row_73 : decode prog_14_method_9_code 73 = .ok (.ireturn, 1) := by decide +kernel
theorem d_Mo_place_0 : decode prog_14_method_11_code 0 = .ok (.aload_n 0, 1) := by decide +kernel
theorem d_Mo_place_1 : decode prog_14_method_11_code 1 = .ok (.iload_n 1, 1) := by decide +kernel
theorem d_Mo_place_2 : decode prog_14_method_11_code 2 = .ok (.invokevirtual 228, 3) := by decide +kernel
theorem d_Mo_place_5 : decode prog_14_method_11_code 5 = .ok (.ifCond .eq 18, 3) := by decide +kernel
theorem d_Mo_place_8 : decode prog_14_method_11_code 8 = .ok (.aload_n 0, 1) := by decide +kernel
theorem d_Mo_place_9 : decode prog_14_method_11_code 9 = .ok (.iload_n 2, 1) := by decide +kernel
theorem d_Mo_place_10 : decode prog_14_method_11_code 10 = .ok (.iconst 0, 1) := by decide +kernel
theorem d_Mo_place_11 : decode prog_14_method_11_code 11 = .ok (.aload_n 0, 1) := by decide +kernel
theorem d_Mo_place_12 : decode prog_14_method_11_code 12 = .ok (.getfield 7, 3) := by decide +kernel
theorem d_Mo_place_15 : decode prog_14_method_11_code 15 = .ok (.iconst 1, 1) := by decide +kernel
theorem d_Mo_place_16 : decode prog_14_method_11_code 16 = .ok (.isub, 1) := by decide +kernel
theorem d_Mo_place_17 : decode prog_14_method_11_code 17 = .ok (.invokevirtual 224, 3) := by decide +kernel
theorem d_Mo_place_20 : decode prog_14_method_11_code 20 = .ok (.ifCond .ne 5, 3) := by decide +kernel
theorem d_Mo_place_23 : decode prog_14_method_11_code 23 = .ok (.iconst (-1), 1) := by decide +kernel
theorem d_Mo_place_24 : decode prog_14_method_11_code 24 = .ok (.ireturn, 1) := by decide +kernel
theorem d_Mo_place_25 : decode prog_14_method_11_code 25 = .ok (.aload_n 0, 1) := by decide +kernel
theorem d_Mo_place_26 : decode prog_14_method_11_code 26 = .ok (.iload_n 1, 1) := by decide +kernel
theorem d_Mo_place_27 : decode prog_14_method_11_code 27 = .ok (.invokevirtual 232, 3) := by decide +kernel
theorem d_Mo_place_30 : decode prog_14_method_11_code 30 = .ok (.istore_n 3, 1) := by decide +kernel
theorem d_Mo_place_31 : decode prog_14_method_11_code 31 = .ok (.iload_n 3, 1) := by decide +kernel
theorem d_Mo_place_32 : decode prog_14_method_11_code 32 = .ok (.istore 4, 2) := by decide +kernel
theorem d_Mo_place_34 : decode prog_14_method_11_code 34 = .ok (.iload 4, 2) := by decide +kernel
theorem d_Mo_place_36 : decode prog_14_method_11_code 36 = .ok (.iload_n 2, 1) := by decide +kernel
theorem d_Mo_place_37 : decode prog_14_method_11_code 37 = .ok (.if_icmp .ge 25, 3) := by decide +kernel
theorem d_Mo_place_40 : decode prog_14_method_11_code 40 = .ok (.aload_n 0, 1) := by decide +kernel
theorem d_Mo_place_41 : decode prog_14_method_11_code 41 = .ok (.getfield 41, 3) := by decide +kernel
theorem d_Mo_place_44 : decode prog_14_method_11_code 44 = .ok (.iload 4, 2) := by decide +kernel
theorem d_Mo_place_46 : decode prog_14_method_11_code 46 = .ok (.aload_n 0, 1) := by decide +kernel
theorem d_Mo_place_47 : decode prog_14_method_11_code 47 = .ok (.getfield 41, 3) := by decide +kernel
theorem d_Mo_place_50 : decode prog_14_method_11_code 50 = .ok (.iload 4, 2) := by decide +kernel
theorem d_Mo_place_52 : decode prog_14_method_11_code 52 = .ok (.iconst 1, 1) := by decide +kernel
theorem d_Mo_place_53 : decode prog_14_method_11_code 53 = .ok (.iadd, 1) := by decide +kernel
theorem d_Mo_place_54 : decode prog_14_method_11_code 54 = .ok (.iaload, 1) := by decide +kernel
theorem d_Mo_place_55 : decode prog_14_method_11_code 55 = .ok (.iastore, 1) := by decide +kernel
theorem d_Mo_place_56 : decode prog_14_method_11_code 56 = .ok (.iinc 4 1, 3) := by decide +kernel
theorem d_Mo_place_59 : decode prog_14_method_11_code 59 = .ok (.goto (-25), 3) := by decide +kernel
theorem d_Mo_place_62 : decode prog_14_method_11_code 62 = .ok (.iload_n 3, 1) := by decide +kernel
theorem d_Mo_place_63 : decode prog_14_method_11_code 63 = .ok (.istore 4, 2) := by decide +kernel
theorem d_Mo_place_65 : decode prog_14_method_11_code 65 = .ok (.iload 4, 2) := by decide +kernel
theorem d_Mo_place_67 : decode prog_14_method_11_code 67 = .ok (.iload_n 2, 1) := by decide +kernel
theorem d_Mo_place_68 : decode prog_14_method_11_code 68 = .ok (.if_icmp .le 25, 3) := by decide +kernel
theorem d_Mo_place_71 : decode prog_14_method_11_code 71 = .ok (.aload_n 0, 1) := by decide +kernel
theorem d_Mo_place_72 : decode prog_14_method_11_code 72 = .ok (.getfield 41, 3) := by decide +kernel
theorem d_Mo_place_75 : decode prog_14_method_11_code 75 = .ok (.iload 4, 2) := by decide +kernel
theorem d_Mo_place_77 : decode prog_14_method_11_code 77 = .ok (.aload_n 0, 1) := by decide +kernel
theorem d_Mo_place_78 : decode prog_14_method_11_code 78 = .ok (.getfield 41, 3) := by decide +kernel
theorem d_Mo_place_81 : decode prog_14_method_11_code 81 = .ok (.iload 4, 2) := by decide +kernel
theorem d_Mo_place_83 : decode prog_14_method_11_code 83 = .ok (.iconst 1, 1) := by decide +kernel
theorem d_Mo_place_84 : decode prog_14_method_11_code 84 = .ok (.isub, 1) := by decide +kernel
theorem d_Mo_place_85 : decode prog_14_method_11_code 85 = .ok (.iaload, 1) := by decide +kernel
theorem d_Mo_place_86 : decode prog_14_method_11_code 86 = .ok (.iastore, 1) := by decide +kernel
theorem d_Mo_place_87 : decode prog_14_method_11_code 87 = .ok (.iinc 4 (-1), 3) := by decide +kernel
theorem d_Mo_place_90 : decode prog_14_method_11_code 90 = .ok (.goto (-25), 3) := by decide +kernel
theorem d_Mo_place_93 : decode prog_14_method_11_code 93 = .ok (.aload_n 0, 1) := by decide +kernel
theorem d_Mo_place_94 : decode prog_14_method_11_code 94 = .ok (.getfield 41, 3) := by decide +kernel
theorem d_Mo_place_97 : decode prog_14_method_11_code 97 = .ok (.iload_n 2, 1) := by decide +kernel
theorem d_Mo_place_98 : decode prog_14_method_11_code 98 = .ok (.iload_n 1, 1) := by decide +kernel
theorem d_Mo_place_99 : decode prog_14_method_11_code 99 = .ok (.iastore, 1) := by decide +kernel
theorem d_Mo_place_100 : decode prog_14_method_11_code 100 = .ok (.iload_n 3, 1) := by decide +kernel
theorem d_Mo_place_101 : decode prog_14_method_11_code 101 = .ok (.ireturn, 1) := by decide +kernel
theorem d_Mo_placeOf_0 : decode prog_14_method_10_code 0 = .ok (.iconst 0, 1) := by decide +kernel
theorem d_Mo_placeOf_1 : decode prog_14_method_10_code 1 = .ok (.istore_n 2, 1) := by decide +kernel
theorem d_Mo_placeOf_2 : decode prog_14_method_10_code 2 = .ok (.aload_n 0, 1) := by decide +kernel
theorem d_Mo_placeOf_3 : decode prog_14_method_10_code 3 = .ok (.getfield 41, 3) := by decide +kernel
theorem d_Mo_placeOf_6 : decode prog_14_method_10_code 6 = .ok (.iload_n 2, 1) := by decide +kernel
theorem d_Mo_placeOf_7 : decode prog_14_method_10_code 7 = .ok (.iaload, 1) := by decide +kernel
theorem d_Mo_placeOf_8 : decode prog_14_method_10_code 8 = .ok (.iload_n 1, 1) := by decide +kernel
theorem d_Mo_placeOf_9 : decode prog_14_method_10_code 9 = .ok (.if_icmp .eq 9, 3) := by decide +kernel
theorem d_Mo_placeOf_12 : decode prog_14_method_10_code 12 = .ok (.iinc 2 1, 3) := by decide +kernel
theorem d_Mo_placeOf_15 : decode prog_14_method_10_code 15 = .ok (.goto (-13), 3) := by decide +kernel
theorem d_Mo_placeOf_18 : decode prog_14_method_10_code 18 = .ok (.iload_n 2, 1) := by decide +kernel
theorem d_Mo_placeOf_19 : decode prog_14_method_10_code 19 = .ok (.ireturn, 1) := by decide +kernel
theorem d_Mo_feed_0 : decode prog_14_method_12_code 0 = .ok (.aload_n 0, 1) := by decide +kernel
theorem d_Mo_feed_1 : decode prog_14_method_12_code 1 = .ok (.iload_n 1, 1) := by decide +kernel
theorem d_Mo_feed_2 : decode prog_14_method_12_code 2 = .ok (.iconst 0, 1) := by decide +kernel
theorem d_Mo_feed_3 : decode prog_14_method_12_code 3 = .ok (.bipush 127, 2) := by decide +kernel
theorem d_Mo_feed_5 : decode prog_14_method_12_code 5 = .ok (.invokevirtual 224, 3) := by decide +kernel
theorem d_Mo_feed_8 : decode prog_14_method_12_code 8 = .ok (.ifCond .ne 6, 3) := by decide +kernel
theorem d_Mo_feed_11 : decode prog_14_method_12_code 11 = .ok (.bipush (-2), 2) := by decide +kernel
theorem d_Mo_feed_13 : decode prog_14_method_12_code 13 = .ok (.ireturn, 1) := by decide +kernel
theorem d_Mo_feed_14 : decode prog_14_method_12_code 14 = .ok (.aload_n 0, 1) := by decide +kernel
theorem d_Mo_feed_15 : decode prog_14_method_12_code 15 = .ok (.getfield 50, 3) := by decide +kernel
theorem d_Mo_feed_18 : decode prog_14_method_12_code 18 = .ok (.bipush 100, 2) := by decide +kernel
theorem d_Mo_feed_20 : decode prog_14_method_12_code 20 = .ok (.if_icmp .ne 6, 3) := by decide +kernel
theorem d_Mo_feed_23 : decode prog_14_method_12_code 23 = .ok (.bipush (-4), 2) := by decide +kernel
theorem d_Mo_feed_25 : decode prog_14_method_12_code 25 = .ok (.ireturn, 1) := by decide +kernel
theorem d_Mo_feed_26 : decode prog_14_method_12_code 26 = .ok (.aload_n 0, 1) := by decide +kernel
theorem d_Mo_feed_27 : decode prog_14_method_12_code 27 = .ok (.getfield 59, 3) := by decide +kernel
theorem d_Mo_feed_30 : decode prog_14_method_12_code 30 = .ok (.aload_n 0, 1) := by decide +kernel
theorem d_Mo_feed_31 : decode prog_14_method_12_code 31 = .ok (.getfield 50, 3) := by decide +kernel
theorem d_Mo_feed_34 : decode prog_14_method_12_code 34 = .ok (.iload_n 1, 1) := by decide +kernel
theorem d_Mo_feed_35 : decode prog_14_method_12_code 35 = .ok (.iastore, 1) := by decide +kernel
theorem d_Mo_feed_36 : decode prog_14_method_12_code 36 = .ok (.aload_n 0, 1) := by decide +kernel
theorem d_Mo_feed_37 : decode prog_14_method_12_code 37 = .ok (.dup, 1) := by decide +kernel
theorem d_Mo_feed_38 : decode prog_14_method_12_code 38 = .ok (.getfield 50, 3) := by decide +kernel
theorem d_Mo_feed_41 : decode prog_14_method_12_code 41 = .ok (.iconst 1, 1) := by decide +kernel
theorem d_Mo_feed_42 : decode prog_14_method_12_code 42 = .ok (.iadd, 1) := by decide +kernel
theorem d_Mo_feed_43 : decode prog_14_method_12_code 43 = .ok (.putfield 50, 3) := by decide +kernel
theorem d_Mo_feed_46 : decode prog_14_method_12_code 46 = .ok (.aload_n 0, 1) := by decide +kernel
theorem d_Mo_feed_47 : decode prog_14_method_12_code 47 = .ok (.getfield 50, 3) := by decide +kernel
theorem d_Mo_feed_50 : decode prog_14_method_12_code 50 = .ok (.ireturn, 1) := by decide +kernel
theorem d_Mo_scaffold_0 : decode prog_14_method_28_code 0 = .ok (.aload_n 0, 1) := by decide +kernel
theorem d_Mo_scaffold_1 : decode prog_14_method_28_code 1 = .ok (.getfield 44, 3) := by decide +kernel
theorem d_Mo_scaffold_4 : decode prog_14_method_28_code 4 = .ok (.bipush 6, 2) := by decide +kernel
theorem d_Mo_scaffold_6 : decode prog_14_method_28_code 6 = .ok (.if_icmp .ne 6, 3) := by decide +kernel
theorem d_Mo_scaffold_9 : decode prog_14_method_28_code 9 = .ok (.bipush (-4), 2) := by decide +kernel
theorem d_Mo_scaffold_11 : decode prog_14_method_28_code 11 = .ok (.ireturn, 1) := by decide +kernel
theorem d_Mo_scaffold_12 : decode prog_14_method_28_code 12 = .ok (.aload_n 0, 1) := by decide +kernel
theorem d_Mo_scaffold_13 : decode prog_14_method_28_code 13 = .ok (.aload_n 0, 1) := by decide +kernel
theorem d_Mo_scaffold_14 : decode prog_14_method_28_code 14 = .ok (.getfield 44, 3) := by decide +kernel
theorem d_Mo_scaffold_17 : decode prog_14_method_28_code 17 = .ok (.invokevirtual 282, 3) := by decide +kernel
theorem d_Mo_scaffold_20 : decode prog_14_method_28_code 20 = .ok (.istore_n 1, 1) := by decide +kernel
theorem d_Mo_scaffold_21 : decode prog_14_method_28_code 21 = .ok (.aload_n 0, 1) := by decide +kernel
theorem d_Mo_scaffold_22 : decode prog_14_method_28_code 22 = .ok (.iconst 0, 1) := by decide +kernel
theorem d_Mo_scaffold_23 : decode prog_14_method_28_code 23 = .ok (.putfield 50, 3) := by decide +kernel
theorem d_Mo_scaffold_26 : decode prog_14_method_28_code 26 = .ok (.iload_n 1, 1) := by decide +kernel
theorem d_Mo_scaffold_27 : decode prog_14_method_28_code 27 = .ok (.ifCond .ne 11, 3) := by decide +kernel
theorem d_Mo_scaffold_30 : decode prog_14_method_28_code 30 = .ok (.bipush (-10), 2) := by decide +kernel
theorem d_Mo_scaffold_32 : decode prog_14_method_28_code 32 = .ok (.aload_n 0, 1) := by decide +kernel
theorem d_Mo_scaffold_33 : decode prog_14_method_28_code 33 = .ok (.getfield 53, 3) := by decide +kernel
theorem d_Mo_scaffold_36 : decode prog_14_method_28_code 36 = .ok (.isub, 1) := by decide +kernel
theorem d_Mo_scaffold_37 : decode prog_14_method_28_code 37 = .ok (.ireturn, 1) := by decide +kernel
theorem d_Mo_scaffold_38 : decode prog_14_method_28_code 38 = .ok (.aload_n 0, 1) := by decide +kernel
theorem d_Mo_scaffold_39 : decode prog_14_method_28_code 39 = .ok (.aload_n 0, 1) := by decide +kernel
theorem d_Mo_scaffold_40 : decode prog_14_method_28_code 40 = .ok (.getfield 44, 3) := by decide +kernel
theorem d_Mo_scaffold_43 : decode prog_14_method_28_code 43 = .ok (.putfield 47, 3) := by decide +kernel
theorem d_Mo_scaffold_46 : decode prog_14_method_28_code 46 = .ok (.aload_n 0, 1) := by decide +kernel
theorem d_Mo_scaffold_47 : decode prog_14_method_28_code 47 = .ok (.dup, 1) := by decide +kernel
theorem d_Mo_scaffold_48 : decode prog_14_method_28_code 48 = .ok (.getfield 44, 3) := by decide +kernel
theorem d_Mo_scaffold_51 : decode prog_14_method_28_code 51 = .ok (.iconst 1, 1) := by decide +kernel
theorem d_Mo_scaffold_52 : decode prog_14_method_28_code 52 = .ok (.iadd, 1) := by decide +kernel
theorem d_Mo_scaffold_53 : decode prog_14_method_28_code 53 = .ok (.putfield 44, 3) := by decide +kernel
theorem d_Mo_scaffold_56 : decode prog_14_method_28_code 56 = .ok (.aload_n 0, 1) := by decide +kernel
theorem d_Mo_scaffold_57 : decode prog_14_method_28_code 57 = .ok (.getfield 47, 3) := by decide +kernel
theorem d_Mo_scaffold_60 : decode prog_14_method_28_code 60 = .ok (.ireturn, 1) := by decide +kernel
theorem d_Mo_goesText_0 : decode prog_14_method_27_code 0 = .ok (.aload_n 0, 1) := by decide +kernel
theorem d_Mo_goesText_1 : decode prog_14_method_27_code 1 = .ok (.iconst 0, 1) := by decide +kernel
theorem d_Mo_goesText_2 : decode prog_14_method_27_code 2 = .ok (.putfield 53, 3) := by decide +kernel
theorem d_Mo_goesText_5 : decode prog_14_method_27_code 5 = .ok (.aload_n 0, 1) := by decide +kernel
theorem d_Mo_goesText_6 : decode prog_14_method_27_code 6 = .ok (.bipush 100, 2) := by decide +kernel
theorem d_Mo_goesText_8 : decode prog_14_method_27_code 8 = .ok (.iload_n 1, 1) := by decide +kernel
theorem d_Mo_goesText_9 : decode prog_14_method_27_code 9 = .ok (.imul, 1) := by decide +kernel
theorem d_Mo_goesText_10 : decode prog_14_method_27_code 10 = .ok (.putfield 83, 3) := by decide +kernel
theorem d_Mo_goesText_13 : decode prog_14_method_27_code 13 = .ok (.iconst 0, 1) := by decide +kernel
theorem d_Mo_goesText_14 : decode prog_14_method_27_code 14 = .ok (.istore_n 2, 1) := by decide +kernel
theorem d_Mo_goesText_15 : decode prog_14_method_27_code 15 = .ok (.aload_n 0, 1) := by decide +kernel
theorem d_Mo_goesText_16 : decode prog_14_method_27_code 16 = .ok (.bipush 10, 2) := by decide +kernel
theorem d_Mo_goesText_18 : decode prog_14_method_27_code 18 = .ok (.iload_n 1, 1) := by decide +kernel
theorem d_Mo_goesText_19 : decode prog_14_method_27_code 19 = .ok (.imul, 1) := by decide +kernel
theorem d_Mo_goesText_20 : decode prog_14_method_27_code 20 = .ok (.iload_n 2, 1) := by decide +kernel
theorem d_Mo_goesText_21 : decode prog_14_method_27_code 21 = .ok (.iadd, 1) := by decide +kernel
theorem d_Mo_goesText_22 : decode prog_14_method_27_code 22 = .ok (.invokevirtual 279, 3) := by decide +kernel
theorem d_Mo_goesText_25 : decode prog_14_method_27_code 25 = .ok (.ifCond .ne 5, 3) := by decide +kernel
theorem d_Mo_goesText_28 : decode prog_14_method_27_code 28 = .ok (.iconst 0, 1) := by decide +kernel
theorem d_Mo_goesText_29 : decode prog_14_method_27_code 29 = .ok (.ireturn, 1) := by decide +kernel
theorem d_Mo_goesText_30 : decode prog_14_method_27_code 30 = .ok (.iinc 2 1, 3) := by decide +kernel
theorem d_Mo_goesText_33 : decode prog_14_method_27_code 33 = .ok (.aload_n 0, 1) := by decide +kernel
theorem d_Mo_goesText_34 : decode prog_14_method_27_code 34 = .ok (.getfield 62, 3) := by decide +kernel
theorem d_Mo_goesText_37 : decode prog_14_method_27_code 37 = .ok (.iload_n 1, 1) := by decide +kernel
theorem d_Mo_goesText_38 : decode prog_14_method_27_code 38 = .ok (.iload_n 2, 1) := by decide +kernel
theorem d_Mo_goesText_39 : decode prog_14_method_27_code 39 = .ok (.iastore, 1) := by decide +kernel
theorem d_Mo_goesText_40 : decode prog_14_method_27_code 40 = .ok (.aload_n 0, 1) := by decide +kernel
theorem d_Mo_goesText_41 : decode prog_14_method_27_code 41 = .ok (.getfield 53, 3) := by decide +kernel
theorem d_Mo_goesText_44 : decode prog_14_method_27_code 44 = .ok (.aload_n 0, 1) := by decide +kernel
theorem d_Mo_goesText_45 : decode prog_14_method_27_code 45 = .ok (.getfield 50, 3) := by decide +kernel
theorem d_Mo_goesText_48 : decode prog_14_method_27_code 48 = .ok (.if_icmp .ne 5, 3) := by decide +kernel
theorem d_Mo_goesText_51 : decode prog_14_method_27_code 51 = .ok (.iconst 1, 1) := by decide +kernel
theorem d_Mo_goesText_52 : decode prog_14_method_27_code 52 = .ok (.ireturn, 1) := by decide +kernel
theorem d_Mo_goesText_53 : decode prog_14_method_27_code 53 = .ok (.iload_n 2, 1) := by decide +kernel
theorem d_Mo_goesText_54 : decode prog_14_method_27_code 54 = .ok (.bipush 10, 2) := by decide +kernel
theorem d_Mo_goesText_56 : decode prog_14_method_27_code 56 = .ok (.if_icmp .eq 12, 3) := by decide +kernel
theorem d_Mo_goesText_59 : decode prog_14_method_27_code 59 = .ok (.aload_n 0, 1) := by decide +kernel
theorem d_Mo_goesText_60 : decode prog_14_method_27_code 60 = .ok (.bipush 59, 2) := by decide +kernel
theorem d_Mo_goesText_62 : decode prog_14_method_27_code 62 = .ok (.invokevirtual 240, 3) := by decide +kernel
theorem d_Mo_goesText_65 : decode prog_14_method_27_code 65 = .ok (.ifCond .ne (-50), 3) := by decide +kernel
theorem d_Mo_goesText_68 : decode prog_14_method_27_code 68 = .ok (.iconst 0, 1) := by decide +kernel
theorem d_Mo_goesText_69 : decode prog_14_method_27_code 69 = .ok (.ireturn, 1) := by decide +kernel
theorem d_Mo_takesClause_0 : decode prog_14_method_26_code 0 = .ok (.aload_n 0, 1) := by decide +kernel
theorem d_Mo_takesClause_1 : decode prog_14_method_26_code 1 = .ok (.iload_n 1, 1) := by decide +kernel
theorem d_Mo_takesClause_2 : decode prog_14_method_26_code 2 = .ok (.invokevirtual 273, 3) := by decide +kernel
theorem d_Mo_takesClause_5 : decode prog_14_method_26_code 5 = .ok (.ifCond .eq 10, 3) := by decide +kernel
theorem d_Mo_takesClause_8 : decode prog_14_method_26_code 8 = .ok (.aload_n 0, 1) := by decide +kernel
theorem d_Mo_takesClause_9 : decode prog_14_method_26_code 9 = .ok (.invokevirtual 254, 3) := by decide +kernel
theorem d_Mo_takesClause_12 : decode prog_14_method_26_code 12 = .ok (.ifCond .ne 5, 3) := by decide +kernel
theorem d_Mo_takesClause_15 : decode prog_14_method_26_code 15 = .ok (.iconst 0, 1) := by decide +kernel
theorem d_Mo_takesClause_16 : decode prog_14_method_26_code 16 = .ok (.ireturn, 1) := by decide +kernel
theorem d_Mo_takesClause_17 : decode prog_14_method_26_code 17 = .ok (.aload_n 0, 1) := by decide +kernel
theorem d_Mo_takesClause_18 : decode prog_14_method_26_code 18 = .ok (.getfield 68, 3) := by decide +kernel
theorem d_Mo_takesClause_21 : decode prog_14_method_26_code 21 = .ok (.iload_n 1, 1) := by decide +kernel
theorem d_Mo_takesClause_22 : decode prog_14_method_26_code 22 = .ok (.aload_n 0, 1) := by decide +kernel
theorem d_Mo_takesClause_23 : decode prog_14_method_26_code 23 = .ok (.getfield 56, 3) := by decide +kernel
theorem d_Mo_takesClause_26 : decode prog_14_method_26_code 26 = .ok (.iastore, 1) := by decide +kernel
theorem d_Mo_takesClause_27 : decode prog_14_method_26_code 27 = .ok (.aload_n 0, 1) := by decide +kernel
theorem d_Mo_takesClause_28 : decode prog_14_method_26_code 28 = .ok (.getfield 65, 3) := by decide +kernel
theorem d_Mo_takesClause_31 : decode prog_14_method_26_code 31 = .ok (.iload_n 1, 1) := by decide +kernel
theorem d_Mo_takesClause_32 : decode prog_14_method_26_code 32 = .ok (.iaload, 1) := by decide +kernel
theorem d_Mo_takesClause_33 : decode prog_14_method_26_code 33 = .ok (.iconst 2, 1) := by decide +kernel
theorem d_Mo_takesClause_34 : decode prog_14_method_26_code 34 = .ok (.if_icmp .ge 20, 3) := by decide +kernel
theorem d_Mo_takesClause_37 : decode prog_14_method_26_code 37 = .ok (.aload_n 0, 1) := by decide +kernel
theorem d_Mo_takesClause_38 : decode prog_14_method_26_code 38 = .ok (.bipush 32, 2) := by decide +kernel
theorem d_Mo_takesClause_40 : decode prog_14_method_26_code 40 = .ok (.invokevirtual 240, 3) := by decide +kernel
theorem d_Mo_takesClause_43 : decode prog_14_method_26_code 43 = .ok (.ifCond .eq 15, 3) := by decide +kernel
theorem d_Mo_takesClause_46 : decode prog_14_method_26_code 46 = .ok (.aload_n 0, 1) := by decide +kernel
theorem d_Mo_takesClause_47 : decode prog_14_method_26_code 47 = .ok (.iload_n 1, 1) := by decide +kernel
theorem d_Mo_takesClause_48 : decode prog_14_method_26_code 48 = .ok (.invokevirtual 276, 3) := by decide +kernel
theorem d_Mo_takesClause_51 : decode prog_14_method_26_code 51 = .ok (.ifCond .eq 7, 3) := by decide +kernel
theorem d_Mo_takesClause_54 : decode prog_14_method_26_code 54 = .ok (.iconst 1, 1) := by decide +kernel
theorem d_Mo_takesClause_55 : decode prog_14_method_26_code 55 = .ok (.goto 4, 3) := by decide +kernel
theorem d_Mo_takesClause_58 : decode prog_14_method_26_code 58 = .ok (.iconst 0, 1) := by decide +kernel
theorem d_Mo_takesClause_59 : decode prog_14_method_26_code 59 = .ok (.ireturn, 1) := by decide +kernel
theorem d_Mo_takesHead_0 : decode prog_14_method_25_code 0 = .ok (.aload_n 0, 1) := by decide +kernel
theorem d_Mo_takesHead_1 : decode prog_14_method_25_code 1 = .ok (.invokevirtual 236, 3) := by decide +kernel
theorem d_Mo_takesHead_4 : decode prog_14_method_25_code 4 = .ok (.tableswitch 75 112 115 #[60, 46, 75, 32], 32) := by decide +kernel
theorem d_Mo_takesHead_36 : decode prog_14_method_25_code 36 = .ok (.aload_n 0, 1) := by decide +kernel
theorem d_Mo_takesHead_37 : decode prog_14_method_25_code 37 = .ok (.getfield 65, 3) := by decide +kernel
theorem d_Mo_takesHead_40 : decode prog_14_method_25_code 40 = .ok (.iload_n 1, 1) := by decide +kernel
theorem d_Mo_takesHead_41 : decode prog_14_method_25_code 41 = .ok (.iconst 0, 1) := by decide +kernel
theorem d_Mo_takesHead_42 : decode prog_14_method_25_code 42 = .ok (.iastore, 1) := by decide +kernel
theorem d_Mo_takesHead_43 : decode prog_14_method_25_code 43 = .ok (.aload_n 0, 1) := by decide +kernel
theorem d_Mo_takesHead_44 : decode prog_14_method_25_code 44 = .ok (.iconst 0, 1) := by decide +kernel
theorem d_Mo_takesHead_45 : decode prog_14_method_25_code 45 = .ok (.iconst 4, 1) := by decide +kernel
theorem d_Mo_takesHead_46 : decode prog_14_method_25_code 46 = .ok (.invokevirtual 266, 3) := by decide +kernel
theorem d_Mo_takesHead_49 : decode prog_14_method_25_code 49 = .ok (.ireturn, 1) := by decide +kernel
theorem d_Mo_takesHead_50 : decode prog_14_method_25_code 50 = .ok (.aload_n 0, 1) := by decide +kernel
theorem d_Mo_takesHead_51 : decode prog_14_method_25_code 51 = .ok (.getfield 65, 3) := by decide +kernel
theorem d_Mo_takesHead_54 : decode prog_14_method_25_code 54 = .ok (.iload_n 1, 1) := by decide +kernel
theorem d_Mo_takesHead_55 : decode prog_14_method_25_code 55 = .ok (.iconst 1, 1) := by decide +kernel
theorem d_Mo_takesHead_56 : decode prog_14_method_25_code 56 = .ok (.iastore, 1) := by decide +kernel
theorem d_Mo_takesHead_57 : decode prog_14_method_25_code 57 = .ok (.aload_n 0, 1) := by decide +kernel
theorem d_Mo_takesHead_58 : decode prog_14_method_25_code 58 = .ok (.iconst 4, 1) := by decide +kernel
theorem d_Mo_takesHead_59 : decode prog_14_method_25_code 59 = .ok (.iconst 5, 1) := by decide +kernel
theorem d_Mo_takesHead_60 : decode prog_14_method_25_code 60 = .ok (.invokevirtual 266, 3) := by decide +kernel
theorem d_Mo_takesHead_63 : decode prog_14_method_25_code 63 = .ok (.ireturn, 1) := by decide +kernel
theorem d_Mo_takesHead_64 : decode prog_14_method_25_code 64 = .ok (.aload_n 0, 1) := by decide +kernel
theorem d_Mo_takesHead_65 : decode prog_14_method_25_code 65 = .ok (.getfield 65, 3) := by decide +kernel
theorem d_Mo_takesHead_68 : decode prog_14_method_25_code 68 = .ok (.iload_n 1, 1) := by decide +kernel
theorem d_Mo_takesHead_69 : decode prog_14_method_25_code 69 = .ok (.iconst 4, 1) := by decide +kernel
theorem d_Mo_takesHead_70 : decode prog_14_method_25_code 70 = .ok (.iastore, 1) := by decide +kernel
theorem d_Mo_takesHead_71 : decode prog_14_method_25_code 71 = .ok (.aload_n 0, 1) := by decide +kernel
theorem d_Mo_takesHead_72 : decode prog_14_method_25_code 72 = .ok (.bipush 17, 2) := by decide +kernel
theorem d_Mo_takesHead_74 : decode prog_14_method_25_code 74 = .ok (.iconst 4, 1) := by decide +kernel
theorem d_Mo_takesHead_75 : decode prog_14_method_25_code 75 = .ok (.invokevirtual 266, 3) := by decide +kernel
theorem d_Mo_takesHead_78 : decode prog_14_method_25_code 78 = .ok (.ireturn, 1) := by decide +kernel
theorem d_Mo_takesHead_79 : decode prog_14_method_25_code 79 = .ok (.aload_n 0, 1) := by decide +kernel
theorem d_Mo_takesHead_80 : decode prog_14_method_25_code 80 = .ok (.getfield 65, 3) := by decide +kernel
theorem d_Mo_takesHead_83 : decode prog_14_method_25_code 83 = .ok (.iload_n 1, 1) := by decide +kernel
theorem d_Mo_takesHead_84 : decode prog_14_method_25_code 84 = .ok (.aload_n 0, 1) := by decide +kernel
theorem d_Mo_takesHead_85 : decode prog_14_method_25_code 85 = .ok (.invokevirtual 270, 3) := by decide +kernel
theorem d_Mo_takesHead_88 : decode prog_14_method_25_code 88 = .ok (.bipush 105, 2) := by decide +kernel
theorem d_Mo_takesHead_90 : decode prog_14_method_25_code 90 = .ok (.if_icmp .ne 7, 3) := by decide +kernel
theorem d_Mo_takesHead_93 : decode prog_14_method_25_code 93 = .ok (.iconst 2, 1) := by decide +kernel
theorem d_Mo_takesHead_94 : decode prog_14_method_25_code 94 = .ok (.goto 4, 3) := by decide +kernel
theorem d_Mo_takesHead_97 : decode prog_14_method_25_code 97 = .ok (.iconst 3, 1) := by decide +kernel
theorem d_Mo_takesHead_98 : decode prog_14_method_25_code 98 = .ok (.iastore, 1) := by decide +kernel
theorem d_Mo_takesHead_99 : decode prog_14_method_25_code 99 = .ok (.aload_n 0, 1) := by decide +kernel
theorem d_Mo_takesHead_100 : decode prog_14_method_25_code 100 = .ok (.getfield 65, 3) := by decide +kernel
theorem d_Mo_takesHead_103 : decode prog_14_method_25_code 103 = .ok (.iload_n 1, 1) := by decide +kernel
theorem d_Mo_takesHead_104 : decode prog_14_method_25_code 104 = .ok (.iaload, 1) := by decide +kernel
theorem d_Mo_takesHead_105 : decode prog_14_method_25_code 105 = .ok (.iconst 2, 1) := by decide +kernel
theorem d_Mo_takesHead_106 : decode prog_14_method_25_code 106 = .ok (.if_icmp .ne 13, 3) := by decide +kernel
theorem d_Mo_takesHead_109 : decode prog_14_method_25_code 109 = .ok (.aload_n 0, 1) := by decide +kernel
theorem d_Mo_takesHead_110 : decode prog_14_method_25_code 110 = .ok (.bipush 9, 2) := by decide +kernel
theorem d_Mo_takesHead_112 : decode prog_14_method_25_code 112 = .ok (.iconst 4, 1) := by decide +kernel
theorem d_Mo_takesHead_113 : decode prog_14_method_25_code 113 = .ok (.invokevirtual 266, 3) := by decide +kernel
theorem d_Mo_takesHead_116 : decode prog_14_method_25_code 116 = .ok (.goto 10, 3) := by decide +kernel
theorem d_Mo_takesHead_119 : decode prog_14_method_25_code 119 = .ok (.aload_n 0, 1) := by decide +kernel
theorem d_Mo_takesHead_120 : decode prog_14_method_25_code 120 = .ok (.bipush 13, 2) := by decide +kernel
theorem d_Mo_takesHead_122 : decode prog_14_method_25_code 122 = .ok (.iconst 4, 1) := by decide +kernel
theorem d_Mo_takesHead_123 : decode prog_14_method_25_code 123 = .ok (.invokevirtual 266, 3) := by decide +kernel
theorem d_Mo_takesHead_126 : decode prog_14_method_25_code 126 = .ok (.ireturn, 1) := by decide +kernel
theorem d_Mo_next_0 : decode prog_14_method_13_code 0 = .ok (.aload_n 0, 1) := by decide +kernel
theorem d_Mo_next_1 : decode prog_14_method_13_code 1 = .ok (.getfield 53, 3) := by decide +kernel
theorem d_Mo_next_4 : decode prog_14_method_13_code 4 = .ok (.aload_n 0, 1) := by decide +kernel
theorem d_Mo_next_5 : decode prog_14_method_13_code 5 = .ok (.getfield 50, 3) := by decide +kernel
theorem d_Mo_next_8 : decode prog_14_method_13_code 8 = .ok (.if_icmp .ge 15, 3) := by decide +kernel
theorem d_Mo_next_11 : decode prog_14_method_13_code 11 = .ok (.aload_n 0, 1) := by decide +kernel
theorem d_Mo_next_12 : decode prog_14_method_13_code 12 = .ok (.getfield 59, 3) := by decide +kernel
theorem d_Mo_next_15 : decode prog_14_method_13_code 15 = .ok (.aload_n 0, 1) := by decide +kernel
theorem d_Mo_next_16 : decode prog_14_method_13_code 16 = .ok (.getfield 53, 3) := by decide +kernel
theorem d_Mo_next_19 : decode prog_14_method_13_code 19 = .ok (.iaload, 1) := by decide +kernel
theorem d_Mo_next_20 : decode prog_14_method_13_code 20 = .ok (.goto 4, 3) := by decide +kernel
theorem d_Mo_next_23 : decode prog_14_method_13_code 23 = .ok (.iconst (-1), 1) := by decide +kernel
theorem d_Mo_next_24 : decode prog_14_method_13_code 24 = .ok (.ireturn, 1) := by decide +kernel
theorem d_Mo_takesWord_0 : decode prog_14_method_16_code 0 = .ok (.iconst 0, 1) := by decide +kernel
theorem d_Mo_takesWord_1 : decode prog_14_method_16_code 1 = .ok (.istore_n 3, 1) := by decide +kernel
theorem d_Mo_takesWord_2 : decode prog_14_method_16_code 2 = .ok (.iload_n 3, 1) := by decide +kernel
theorem d_Mo_takesWord_3 : decode prog_14_method_16_code 3 = .ok (.iload_n 2, 1) := by decide +kernel
theorem d_Mo_takesWord_4 : decode prog_14_method_16_code 4 = .ok (.if_icmp .ge 26, 3) := by decide +kernel
theorem d_Mo_takesWord_7 : decode prog_14_method_16_code 7 = .ok (.aload_n 0, 1) := by decide +kernel
theorem d_Mo_takesWord_8 : decode prog_14_method_16_code 8 = .ok (.aload_n 0, 1) := by decide +kernel
theorem d_Mo_takesWord_9 : decode prog_14_method_16_code 9 = .ok (.getfield 92, 3) := by decide +kernel
theorem d_Mo_takesWord_12 : decode prog_14_method_16_code 12 = .ok (.iload_n 1, 1) := by decide +kernel
theorem d_Mo_takesWord_13 : decode prog_14_method_16_code 13 = .ok (.iload_n 3, 1) := by decide +kernel
theorem d_Mo_takesWord_14 : decode prog_14_method_16_code 14 = .ok (.iadd, 1) := by decide +kernel
theorem d_Mo_takesWord_15 : decode prog_14_method_16_code 15 = .ok (.iaload, 1) := by decide +kernel
theorem d_Mo_takesWord_16 : decode prog_14_method_16_code 16 = .ok (.invokevirtual 240, 3) := by decide +kernel
theorem d_Mo_takesWord_19 : decode prog_14_method_16_code 19 = .ok (.ifCond .ne 5, 3) := by decide +kernel
theorem d_Mo_takesWord_22 : decode prog_14_method_16_code 22 = .ok (.iconst 0, 1) := by decide +kernel
theorem d_Mo_takesWord_23 : decode prog_14_method_16_code 23 = .ok (.ireturn, 1) := by decide +kernel
theorem d_Mo_takesWord_24 : decode prog_14_method_16_code 24 = .ok (.iinc 3 1, 3) := by decide +kernel
theorem d_Mo_takesWord_27 : decode prog_14_method_16_code 27 = .ok (.goto (-25), 3) := by decide +kernel
theorem d_Mo_takesWord_30 : decode prog_14_method_16_code 30 = .ok (.aload_n 0, 1) := by decide +kernel
theorem d_Mo_takesWord_31 : decode prog_14_method_16_code 31 = .ok (.bipush 32, 2) := by decide +kernel
theorem d_Mo_takesWord_33 : decode prog_14_method_16_code 33 = .ok (.invokevirtual 240, 3) := by decide +kernel
theorem d_Mo_takesWord_36 : decode prog_14_method_16_code 36 = .ok (.ireturn, 1) := by decide +kernel
theorem d_Mo_takes_0 : decode prog_14_method_15_code 0 = .ok (.aload_n 0, 1) := by decide +kernel
theorem d_Mo_takes_1 : decode prog_14_method_15_code 1 = .ok (.invokevirtual 236, 3) := by decide +kernel
theorem d_Mo_takes_4 : decode prog_14_method_15_code 4 = .ok (.iload_n 1, 1) := by decide +kernel
theorem d_Mo_takes_5 : decode prog_14_method_15_code 5 = .ok (.if_icmp .eq 5, 3) := by decide +kernel
theorem d_Mo_takes_8 : decode prog_14_method_15_code 8 = .ok (.iconst 0, 1) := by decide +kernel
theorem d_Mo_takes_9 : decode prog_14_method_15_code 9 = .ok (.ireturn, 1) := by decide +kernel
theorem d_Mo_takes_10 : decode prog_14_method_15_code 10 = .ok (.aload_n 0, 1) := by decide +kernel
theorem d_Mo_takes_11 : decode prog_14_method_15_code 11 = .ok (.dup, 1) := by decide +kernel
theorem d_Mo_takes_12 : decode prog_14_method_15_code 12 = .ok (.getfield 53, 3) := by decide +kernel
theorem d_Mo_takes_15 : decode prog_14_method_15_code 15 = .ok (.iconst 1, 1) := by decide +kernel
theorem d_Mo_takes_16 : decode prog_14_method_15_code 16 = .ok (.iadd, 1) := by decide +kernel
theorem d_Mo_takes_17 : decode prog_14_method_15_code 17 = .ok (.putfield 53, 3) := by decide +kernel
theorem d_Mo_takes_20 : decode prog_14_method_15_code 20 = .ok (.iconst 1, 1) := by decide +kernel
theorem d_Mo_takes_21 : decode prog_14_method_15_code 21 = .ok (.ireturn, 1) := by decide +kernel
theorem d_Mo_second_0 : decode prog_14_method_14_code 0 = .ok (.aload_n 0, 1) := by decide +kernel
theorem d_Mo_second_1 : decode prog_14_method_14_code 1 = .ok (.getfield 53, 3) := by decide +kernel
theorem d_Mo_second_4 : decode prog_14_method_14_code 4 = .ok (.iconst 1, 1) := by decide +kernel
theorem d_Mo_second_5 : decode prog_14_method_14_code 5 = .ok (.iadd, 1) := by decide +kernel
theorem d_Mo_second_6 : decode prog_14_method_14_code 6 = .ok (.aload_n 0, 1) := by decide +kernel
theorem d_Mo_second_7 : decode prog_14_method_14_code 7 = .ok (.getfield 50, 3) := by decide +kernel
theorem d_Mo_second_10 : decode prog_14_method_14_code 10 = .ok (.if_icmp .ge 17, 3) := by decide +kernel
theorem d_Mo_second_13 : decode prog_14_method_14_code 13 = .ok (.aload_n 0, 1) := by decide +kernel
theorem d_Mo_second_14 : decode prog_14_method_14_code 14 = .ok (.getfield 59, 3) := by decide +kernel
theorem d_Mo_second_17 : decode prog_14_method_14_code 17 = .ok (.aload_n 0, 1) := by decide +kernel
theorem d_Mo_second_18 : decode prog_14_method_14_code 18 = .ok (.getfield 53, 3) := by decide +kernel
theorem d_Mo_second_21 : decode prog_14_method_14_code 21 = .ok (.iconst 1, 1) := by decide +kernel
theorem d_Mo_second_22 : decode prog_14_method_14_code 22 = .ok (.iadd, 1) := by decide +kernel
theorem d_Mo_second_23 : decode prog_14_method_14_code 23 = .ok (.iaload, 1) := by decide +kernel
theorem d_Mo_second_24 : decode prog_14_method_14_code 24 = .ok (.goto 4, 3) := by decide +kernel
theorem d_Mo_second_27 : decode prog_14_method_14_code 27 = .ok (.iconst (-1), 1) := by decide +kernel
theorem d_Mo_second_28 : decode prog_14_method_14_code 28 = .ok (.ireturn, 1) := by decide +kernel
theorem d_Mo_takesNumber_0 : decode prog_14_method_18_code 0 = .ok (.aload_n 0, 1) := by decide +kernel
theorem d_Mo_takesNumber_1 : decode prog_14_method_18_code 1 = .ok (.invokevirtual 243, 3) := by decide +kernel
theorem d_Mo_takesNumber_4 : decode prog_14_method_18_code 4 = .ok (.ifCond .ne 5, 3) := by decide +kernel
theorem d_Mo_takesNumber_7 : decode prog_14_method_18_code 7 = .ok (.iconst 0, 1) := by decide +kernel
theorem d_Mo_takesNumber_8 : decode prog_14_method_18_code 8 = .ok (.ireturn, 1) := by decide +kernel
theorem d_Mo_takesNumber_9 : decode prog_14_method_18_code 9 = .ok (.aload_n 0, 1) := by decide +kernel
theorem d_Mo_takesNumber_10 : decode prog_14_method_18_code 10 = .ok (.iconst 0, 1) := by decide +kernel
theorem d_Mo_takesNumber_11 : decode prog_14_method_18_code 11 = .ok (.putfield 56, 3) := by decide +kernel
theorem d_Mo_takesNumber_14 : decode prog_14_method_18_code 14 = .ok (.iconst 0, 1) := by decide +kernel
theorem d_Mo_takesNumber_15 : decode prog_14_method_18_code 15 = .ok (.istore_n 1, 1) := by decide +kernel
theorem d_Mo_takesNumber_16 : decode prog_14_method_18_code 16 = .ok (.iload_n 1, 1) := by decide +kernel
theorem d_Mo_takesNumber_17 : decode prog_14_method_18_code 17 = .ok (.iconst 2, 1) := by decide +kernel
theorem d_Mo_takesNumber_18 : decode prog_14_method_18_code 18 = .ok (.if_icmp .ge 45, 3) := by decide +kernel
theorem d_Mo_takesNumber_21 : decode prog_14_method_18_code 21 = .ok (.aload_n 0, 1) := by decide +kernel
theorem d_Mo_takesNumber_22 : decode prog_14_method_18_code 22 = .ok (.invokevirtual 243, 3) := by decide +kernel
theorem d_Mo_takesNumber_25 : decode prog_14_method_18_code 25 = .ok (.ifCond .eq 38, 3) := by decide +kernel
theorem d_Mo_takesNumber_28 : decode prog_14_method_18_code 28 = .ok (.aload_n 0, 1) := by decide +kernel
theorem d_Mo_takesNumber_29 : decode prog_14_method_18_code 29 = .ok (.bipush 10, 2) := by decide +kernel
theorem d_Mo_takesNumber_31 : decode prog_14_method_18_code 31 = .ok (.aload_n 0, 1) := by decide +kernel
theorem d_Mo_takesNumber_32 : decode prog_14_method_18_code 32 = .ok (.getfield 56, 3) := by decide +kernel
theorem d_Mo_takesNumber_35 : decode prog_14_method_18_code 35 = .ok (.imul, 1) := by decide +kernel
theorem d_Mo_takesNumber_36 : decode prog_14_method_18_code 36 = .ok (.aload_n 0, 1) := by decide +kernel
theorem d_Mo_takesNumber_37 : decode prog_14_method_18_code 37 = .ok (.invokevirtual 236, 3) := by decide +kernel
theorem d_Mo_takesNumber_40 : decode prog_14_method_18_code 40 = .ok (.iadd, 1) := by decide +kernel
theorem d_Mo_takesNumber_41 : decode prog_14_method_18_code 41 = .ok (.bipush 48, 2) := by decide +kernel
theorem d_Mo_takesNumber_43 : decode prog_14_method_18_code 43 = .ok (.isub, 1) := by decide +kernel
theorem d_Mo_takesNumber_44 : decode prog_14_method_18_code 44 = .ok (.putfield 56, 3) := by decide +kernel
theorem d_Mo_takesNumber_47 : decode prog_14_method_18_code 47 = .ok (.aload_n 0, 1) := by decide +kernel
theorem d_Mo_takesNumber_48 : decode prog_14_method_18_code 48 = .ok (.dup, 1) := by decide +kernel
theorem d_Mo_takesNumber_49 : decode prog_14_method_18_code 49 = .ok (.getfield 53, 3) := by decide +kernel
theorem d_Mo_takesNumber_52 : decode prog_14_method_18_code 52 = .ok (.iconst 1, 1) := by decide +kernel
theorem d_Mo_takesNumber_53 : decode prog_14_method_18_code 53 = .ok (.iadd, 1) := by decide +kernel
theorem d_Mo_takesNumber_54 : decode prog_14_method_18_code 54 = .ok (.putfield 53, 3) := by decide +kernel
theorem d_Mo_takesNumber_57 : decode prog_14_method_18_code 57 = .ok (.iinc 1 1, 3) := by decide +kernel
theorem d_Mo_takesNumber_60 : decode prog_14_method_18_code 60 = .ok (.goto (-44), 3) := by decide +kernel
theorem d_Mo_takesNumber_63 : decode prog_14_method_18_code 63 = .ok (.iconst 1, 1) := by decide +kernel
theorem d_Mo_takesNumber_64 : decode prog_14_method_18_code 64 = .ok (.ireturn, 1) := by decide +kernel
theorem d_Mo_isDigit_0 : decode prog_14_method_17_code 0 = .ok (.aload_n 0, 1) := by decide +kernel
theorem d_Mo_isDigit_1 : decode prog_14_method_17_code 1 = .ok (.aload_n 0, 1) := by decide +kernel
theorem d_Mo_isDigit_2 : decode prog_14_method_17_code 2 = .ok (.invokevirtual 236, 3) := by decide +kernel
theorem d_Mo_isDigit_5 : decode prog_14_method_17_code 5 = .ok (.bipush 48, 2) := by decide +kernel
theorem d_Mo_isDigit_7 : decode prog_14_method_17_code 7 = .ok (.bipush 57, 2) := by decide +kernel
theorem d_Mo_isDigit_9 : decode prog_14_method_17_code 9 = .ok (.invokevirtual 224, 3) := by decide +kernel
theorem d_Mo_isDigit_12 : decode prog_14_method_17_code 12 = .ok (.ireturn, 1) := by decide +kernel
theorem d_Mo_takesE_0 : decode prog_14_method_24_code 0 = .ok (.aload_n 0, 1) := by decide +kernel
theorem d_Mo_takesE_1 : decode prog_14_method_24_code 1 = .ok (.iconst 0, 1) := by decide +kernel
theorem d_Mo_takesE_2 : decode prog_14_method_24_code 2 = .ok (.putfield 86, 3) := by decide +kernel
theorem d_Mo_takesE_5 : decode prog_14_method_24_code 5 = .ok (.aload_n 0, 1) := by decide +kernel
theorem d_Mo_takesE_6 : decode prog_14_method_24_code 6 = .ok (.iconst 0, 1) := by decide +kernel
theorem d_Mo_takesE_7 : decode prog_14_method_24_code 7 = .ok (.putfield 89, 3) := by decide +kernel
theorem d_Mo_takesE_10 : decode prog_14_method_24_code 10 = .ok (.aload_n 0, 1) := by decide +kernel
theorem d_Mo_takesE_11 : decode prog_14_method_24_code 11 = .ok (.getfield 71, 3) := by decide +kernel
theorem d_Mo_takesE_14 : decode prog_14_method_24_code 14 = .ok (.iload_n 1, 1) := by decide +kernel
theorem d_Mo_takesE_15 : decode prog_14_method_24_code 15 = .ok (.aload_n 0, 1) := by decide +kernel
theorem d_Mo_takesE_16 : decode prog_14_method_24_code 16 = .ok (.getfield 83, 3) := by decide +kernel
theorem d_Mo_takesE_19 : decode prog_14_method_24_code 19 = .ok (.iastore, 1) := by decide +kernel
theorem d_Mo_takesE_20 : decode prog_14_method_24_code 20 = .ok (.iconst 1, 1) := by decide +kernel
theorem d_Mo_takesE_21 : decode prog_14_method_24_code 21 = .ok (.istore_n 2, 1) := by decide +kernel
theorem d_Mo_takesE_22 : decode prog_14_method_24_code 22 = .ok (.aload_n 0, 1) := by decide +kernel
theorem d_Mo_takesE_23 : decode prog_14_method_24_code 23 = .ok (.invokevirtual 236, 3) := by decide +kernel
theorem d_Mo_takesE_26 : decode prog_14_method_24_code 26 = .ok (.istore_n 3, 1) := by decide +kernel
theorem d_Mo_takesE_27 : decode prog_14_method_24_code 27 = .ok (.iload_n 2, 1) := by decide +kernel
theorem d_Mo_takesE_28 : decode prog_14_method_24_code 28 = .ok (.ifCond .eq 82, 3) := by decide +kernel
theorem d_Mo_takesE_31 : decode prog_14_method_24_code 31 = .ok (.iload_n 3, 1) := by decide +kernel
theorem d_Mo_takesE_32 : decode prog_14_method_24_code 32 = .ok (.bipush 33, 2) := by decide +kernel
theorem d_Mo_takesE_34 : decode prog_14_method_24_code 34 = .ok (.if_icmp .eq 9, 3) := by decide +kernel
theorem d_Mo_takesE_37 : decode prog_14_method_24_code 37 = .ok (.iload_n 3, 1) := by decide +kernel
theorem d_Mo_takesE_38 : decode prog_14_method_24_code 38 = .ok (.bipush 40, 2) := by decide +kernel
theorem d_Mo_takesE_40 : decode prog_14_method_24_code 40 = .ok (.if_icmp .ne 56, 3) := by decide +kernel
theorem d_Mo_takesE_43 : decode prog_14_method_24_code 43 = .ok (.aload_n 0, 1) := by decide +kernel
theorem d_Mo_takesE_44 : decode prog_14_method_24_code 44 = .ok (.getfield 89, 3) := by decide +kernel
theorem d_Mo_takesE_47 : decode prog_14_method_24_code 47 = .ok (.iconst 4, 1) := by decide +kernel
theorem d_Mo_takesE_48 : decode prog_14_method_24_code 48 = .ok (.if_icmp .ne 5, 3) := by decide +kernel
theorem d_Mo_takesE_51 : decode prog_14_method_24_code 51 = .ok (.iconst 0, 1) := by decide +kernel
theorem d_Mo_takesE_52 : decode prog_14_method_24_code 52 = .ok (.ireturn, 1) := by decide +kernel
theorem d_Mo_takesE_53 : decode prog_14_method_24_code 53 = .ok (.aload_n 0, 1) := by decide +kernel
theorem d_Mo_takesE_54 : decode prog_14_method_24_code 54 = .ok (.dup, 1) := by decide +kernel
theorem d_Mo_takesE_55 : decode prog_14_method_24_code 55 = .ok (.getfield 89, 3) := by decide +kernel
theorem d_Mo_takesE_58 : decode prog_14_method_24_code 58 = .ok (.iconst 1, 1) := by decide +kernel
theorem d_Mo_takesE_59 : decode prog_14_method_24_code 59 = .ok (.iadd, 1) := by decide +kernel
theorem d_Mo_takesE_60 : decode prog_14_method_24_code 60 = .ok (.putfield 89, 3) := by decide +kernel
theorem d_Mo_takesE_63 : decode prog_14_method_24_code 63 = .ok (.aload_n 0, 1) := by decide +kernel
theorem d_Mo_takesE_64 : decode prog_14_method_24_code 64 = .ok (.getfield 80, 3) := by decide +kernel
theorem d_Mo_takesE_67 : decode prog_14_method_24_code 67 = .ok (.aload_n 0, 1) := by decide +kernel
theorem d_Mo_takesE_68 : decode prog_14_method_24_code 68 = .ok (.getfield 86, 3) := by decide +kernel
theorem d_Mo_takesE_71 : decode prog_14_method_24_code 71 = .ok (.iload_n 3, 1) := by decide +kernel
theorem d_Mo_takesE_72 : decode prog_14_method_24_code 72 = .ok (.iastore, 1) := by decide +kernel
theorem d_Mo_takesE_73 : decode prog_14_method_24_code 73 = .ok (.aload_n 0, 1) := by decide +kernel
theorem d_Mo_takesE_74 : decode prog_14_method_24_code 74 = .ok (.dup, 1) := by decide +kernel
theorem d_Mo_takesE_75 : decode prog_14_method_24_code 75 = .ok (.getfield 86, 3) := by decide +kernel
theorem d_Mo_takesE_78 : decode prog_14_method_24_code 78 = .ok (.iconst 1, 1) := by decide +kernel
theorem d_Mo_takesE_79 : decode prog_14_method_24_code 79 = .ok (.iadd, 1) := by decide +kernel
theorem d_Mo_takesE_80 : decode prog_14_method_24_code 80 = .ok (.putfield 86, 3) := by decide +kernel
theorem d_Mo_takesE_83 : decode prog_14_method_24_code 83 = .ok (.aload_n 0, 1) := by decide +kernel
theorem d_Mo_takesE_84 : decode prog_14_method_24_code 84 = .ok (.dup, 1) := by decide +kernel
theorem d_Mo_takesE_85 : decode prog_14_method_24_code 85 = .ok (.getfield 53, 3) := by decide +kernel
theorem d_Mo_takesE_88 : decode prog_14_method_24_code 88 = .ok (.iconst 1, 1) := by decide +kernel
theorem d_Mo_takesE_89 : decode prog_14_method_24_code 89 = .ok (.iadd, 1) := by decide +kernel
theorem d_Mo_takesE_90 : decode prog_14_method_24_code 90 = .ok (.putfield 53, 3) := by decide +kernel
theorem d_Mo_takesE_93 : decode prog_14_method_24_code 93 = .ok (.goto (-71), 3) := by decide +kernel
theorem d_Mo_takesE_96 : decode prog_14_method_24_code 96 = .ok (.aload_n 0, 1) := by decide +kernel
theorem d_Mo_takesE_97 : decode prog_14_method_24_code 97 = .ok (.invokevirtual 260, 3) := by decide +kernel
theorem d_Mo_takesE_100 : decode prog_14_method_24_code 100 = .ok (.ifCond .eq 8, 3) := by decide +kernel
theorem d_Mo_takesE_103 : decode prog_14_method_24_code 103 = .ok (.iconst 0, 1) := by decide +kernel
theorem d_Mo_takesE_104 : decode prog_14_method_24_code 104 = .ok (.istore_n 2, 1) := by decide +kernel
theorem d_Mo_takesE_105 : decode prog_14_method_24_code 105 = .ok (.goto (-83), 3) := by decide +kernel
theorem d_Mo_takesE_108 : decode prog_14_method_24_code 108 = .ok (.iconst 0, 1) := by decide +kernel
theorem d_Mo_takesE_109 : decode prog_14_method_24_code 109 = .ok (.ireturn, 1) := by decide +kernel
theorem d_Mo_takesE_110 : decode prog_14_method_24_code 110 = .ok (.iload_n 3, 1) := by decide +kernel
theorem d_Mo_takesE_111 : decode prog_14_method_24_code 111 = .ok (.bipush 38, 2) := by decide +kernel
theorem d_Mo_takesE_113 : decode prog_14_method_24_code 113 = .ok (.if_icmp .eq 9, 3) := by decide +kernel
theorem d_Mo_takesE_116 : decode prog_14_method_24_code 116 = .ok (.iload_n 3, 1) := by decide +kernel
theorem d_Mo_takesE_117 : decode prog_14_method_24_code 117 = .ok (.bipush 124, 2) := by decide +kernel
theorem d_Mo_takesE_119 : decode prog_14_method_24_code 119 = .ok (.if_icmp .ne 43, 3) := by decide +kernel
theorem d_Mo_takesE_122 : decode prog_14_method_24_code 122 = .ok (.aload_n 0, 1) := by decide +kernel
theorem d_Mo_takesE_123 : decode prog_14_method_24_code 123 = .ok (.iload_n 3, 1) := by decide +kernel
theorem d_Mo_takesE_124 : decode prog_14_method_24_code 124 = .ok (.invokevirtual 263, 3) := by decide +kernel
theorem d_Mo_takesE_127 : decode prog_14_method_24_code 127 = .ok (.aload_n 0, 1) := by decide +kernel
theorem d_Mo_takesE_128 : decode prog_14_method_24_code 128 = .ok (.getfield 80, 3) := by decide +kernel
theorem d_Mo_takesE_131 : decode prog_14_method_24_code 131 = .ok (.aload_n 0, 1) := by decide +kernel
theorem d_Mo_takesE_132 : decode prog_14_method_24_code 132 = .ok (.getfield 86, 3) := by decide +kernel
theorem d_Mo_takesE_135 : decode prog_14_method_24_code 135 = .ok (.iload_n 3, 1) := by decide +kernel
theorem d_Mo_takesE_136 : decode prog_14_method_24_code 136 = .ok (.iastore, 1) := by decide +kernel
theorem d_Mo_takesE_137 : decode prog_14_method_24_code 137 = .ok (.aload_n 0, 1) := by decide +kernel
theorem d_Mo_takesE_138 : decode prog_14_method_24_code 138 = .ok (.dup, 1) := by decide +kernel
theorem d_Mo_takesE_139 : decode prog_14_method_24_code 139 = .ok (.getfield 86, 3) := by decide +kernel
theorem d_Mo_takesE_142 : decode prog_14_method_24_code 142 = .ok (.iconst 1, 1) := by decide +kernel
theorem d_Mo_takesE_143 : decode prog_14_method_24_code 143 = .ok (.iadd, 1) := by decide +kernel
theorem d_Mo_takesE_144 : decode prog_14_method_24_code 144 = .ok (.putfield 86, 3) := by decide +kernel
theorem d_Mo_takesE_147 : decode prog_14_method_24_code 147 = .ok (.iconst 1, 1) := by decide +kernel
theorem d_Mo_takesE_148 : decode prog_14_method_24_code 148 = .ok (.istore_n 2, 1) := by decide +kernel
theorem d_Mo_takesE_149 : decode prog_14_method_24_code 149 = .ok (.aload_n 0, 1) := by decide +kernel
theorem d_Mo_takesE_150 : decode prog_14_method_24_code 150 = .ok (.dup, 1) := by decide +kernel
theorem d_Mo_takesE_151 : decode prog_14_method_24_code 151 = .ok (.getfield 53, 3) := by decide +kernel
theorem d_Mo_takesE_154 : decode prog_14_method_24_code 154 = .ok (.iconst 1, 1) := by decide +kernel
theorem d_Mo_takesE_155 : decode prog_14_method_24_code 155 = .ok (.iadd, 1) := by decide +kernel
theorem d_Mo_takesE_156 : decode prog_14_method_24_code 156 = .ok (.putfield 53, 3) := by decide +kernel
theorem d_Mo_takesE_159 : decode prog_14_method_24_code 159 = .ok (.goto (-137), 3) := by decide +kernel
theorem d_Mo_takesE_162 : decode prog_14_method_24_code 162 = .ok (.aload_n 0, 1) := by decide +kernel
theorem d_Mo_takesE_163 : decode prog_14_method_24_code 163 = .ok (.bipush 124, 2) := by decide +kernel
theorem d_Mo_takesE_165 : decode prog_14_method_24_code 165 = .ok (.invokevirtual 263, 3) := by decide +kernel
theorem d_Mo_takesE_168 : decode prog_14_method_24_code 168 = .ok (.aload_n 0, 1) := by decide +kernel
theorem d_Mo_takesE_169 : decode prog_14_method_24_code 169 = .ok (.getfield 74, 3) := by decide +kernel
theorem d_Mo_takesE_172 : decode prog_14_method_24_code 172 = .ok (.iload_n 1, 1) := by decide +kernel
theorem d_Mo_takesE_173 : decode prog_14_method_24_code 173 = .ok (.aload_n 0, 1) := by decide +kernel
theorem d_Mo_takesE_174 : decode prog_14_method_24_code 174 = .ok (.getfield 83, 3) := by decide +kernel
theorem d_Mo_takesE_177 : decode prog_14_method_24_code 177 = .ok (.iastore, 1) := by decide +kernel
theorem d_Mo_takesE_178 : decode prog_14_method_24_code 178 = .ok (.aload_n 0, 1) := by decide +kernel
theorem d_Mo_takesE_179 : decode prog_14_method_24_code 179 = .ok (.getfield 86, 3) := by decide +kernel
theorem d_Mo_takesE_182 : decode prog_14_method_24_code 182 = .ok (.ifCond .ne 5, 3) := by decide +kernel
theorem d_Mo_takesE_185 : decode prog_14_method_24_code 185 = .ok (.iconst 1, 1) := by decide +kernel
theorem d_Mo_takesE_186 : decode prog_14_method_24_code 186 = .ok (.ireturn, 1) := by decide +kernel
theorem d_Mo_takesE_187 : decode prog_14_method_24_code 187 = .ok (.iload_n 3, 1) := by decide +kernel
theorem d_Mo_takesE_188 : decode prog_14_method_24_code 188 = .ok (.bipush 41, 2) := by decide +kernel
theorem d_Mo_takesE_190 : decode prog_14_method_24_code 190 = .ok (.if_icmp .eq 5, 3) := by decide +kernel
theorem d_Mo_takesE_193 : decode prog_14_method_24_code 193 = .ok (.iconst 0, 1) := by decide +kernel
theorem d_Mo_takesE_194 : decode prog_14_method_24_code 194 = .ok (.ireturn, 1) := by decide +kernel
theorem d_Mo_takesE_195 : decode prog_14_method_24_code 195 = .ok (.aload_n 0, 1) := by decide +kernel
theorem d_Mo_takesE_196 : decode prog_14_method_24_code 196 = .ok (.dup, 1) := by decide +kernel
theorem d_Mo_takesE_197 : decode prog_14_method_24_code 197 = .ok (.getfield 86, 3) := by decide +kernel
theorem d_Mo_takesE_200 : decode prog_14_method_24_code 200 = .ok (.iconst 1, 1) := by decide +kernel
theorem d_Mo_takesE_201 : decode prog_14_method_24_code 201 = .ok (.isub, 1) := by decide +kernel
theorem d_Mo_takesE_202 : decode prog_14_method_24_code 202 = .ok (.putfield 86, 3) := by decide +kernel
theorem d_Mo_takesE_205 : decode prog_14_method_24_code 205 = .ok (.aload_n 0, 1) := by decide +kernel
theorem d_Mo_takesE_206 : decode prog_14_method_24_code 206 = .ok (.dup, 1) := by decide +kernel
theorem d_Mo_takesE_207 : decode prog_14_method_24_code 207 = .ok (.getfield 89, 3) := by decide +kernel
theorem d_Mo_takesE_210 : decode prog_14_method_24_code 210 = .ok (.iconst 1, 1) := by decide +kernel
theorem d_Mo_takesE_211 : decode prog_14_method_24_code 211 = .ok (.isub, 1) := by decide +kernel
theorem d_Mo_takesE_212 : decode prog_14_method_24_code 212 = .ok (.putfield 89, 3) := by decide +kernel
theorem d_Mo_takesE_215 : decode prog_14_method_24_code 215 = .ok (.aload_n 0, 1) := by decide +kernel
theorem d_Mo_takesE_216 : decode prog_14_method_24_code 216 = .ok (.dup, 1) := by decide +kernel
theorem d_Mo_takesE_217 : decode prog_14_method_24_code 217 = .ok (.getfield 53, 3) := by decide +kernel
theorem d_Mo_takesE_220 : decode prog_14_method_24_code 220 = .ok (.iconst 1, 1) := by decide +kernel
theorem d_Mo_takesE_221 : decode prog_14_method_24_code 221 = .ok (.iadd, 1) := by decide +kernel
theorem d_Mo_takesE_222 : decode prog_14_method_24_code 222 = .ok (.putfield 53, 3) := by decide +kernel
theorem d_Mo_takesE_225 : decode prog_14_method_24_code 225 = .ok (.aload_n 0, 1) := by decide +kernel
theorem d_Mo_takesE_226 : decode prog_14_method_24_code 226 = .ok (.invokevirtual 257, 3) := by decide +kernel
theorem d_Mo_takesE_229 : decode prog_14_method_24_code 229 = .ok (.goto (-207), 3) := by decide +kernel
theorem d_Mo_takesTest_0 : decode prog_14_method_23_code 0 = .ok (.aload_n 0, 1) := by decide +kernel
theorem d_Mo_takesTest_1 : decode prog_14_method_23_code 1 = .ok (.aload_n 0, 1) := by decide +kernel
theorem d_Mo_takesTest_2 : decode prog_14_method_23_code 2 = .ok (.invokevirtual 236, 3) := by decide +kernel
theorem d_Mo_takesTest_5 : decode prog_14_method_23_code 5 = .ok (.invokevirtual 251, 3) := by decide +kernel
theorem d_Mo_takesTest_8 : decode prog_14_method_23_code 8 = .ok (.istore_n 1, 1) := by decide +kernel
theorem d_Mo_takesTest_9 : decode prog_14_method_23_code 9 = .ok (.iload_n 1, 1) := by decide +kernel
theorem d_Mo_takesTest_10 : decode prog_14_method_23_code 10 = .ok (.ifCond .ge 5, 3) := by decide +kernel
theorem d_Mo_takesTest_13 : decode prog_14_method_23_code 13 = .ok (.iconst 0, 1) := by decide +kernel
theorem d_Mo_takesTest_14 : decode prog_14_method_23_code 14 = .ok (.ireturn, 1) := by decide +kernel
theorem d_Mo_takesTest_15 : decode prog_14_method_23_code 15 = .ok (.aload_n 0, 1) := by decide +kernel
theorem d_Mo_takesTest_16 : decode prog_14_method_23_code 16 = .ok (.dup, 1) := by decide +kernel
theorem d_Mo_takesTest_17 : decode prog_14_method_23_code 17 = .ok (.getfield 53, 3) := by decide +kernel
theorem d_Mo_takesTest_20 : decode prog_14_method_23_code 20 = .ok (.iconst 1, 1) := by decide +kernel
theorem d_Mo_takesTest_21 : decode prog_14_method_23_code 21 = .ok (.iadd, 1) := by decide +kernel
theorem d_Mo_takesTest_22 : decode prog_14_method_23_code 22 = .ok (.putfield 53, 3) := by decide +kernel
theorem d_Mo_takesTest_25 : decode prog_14_method_23_code 25 = .ok (.aload_n 0, 1) := by decide +kernel
theorem d_Mo_takesTest_26 : decode prog_14_method_23_code 26 = .ok (.invokevirtual 236, 3) := by decide +kernel
theorem d_Mo_takesTest_29 : decode prog_14_method_23_code 29 = .ok (.istore_n 2, 1) := by decide +kernel
theorem d_Mo_takesTest_30 : decode prog_14_method_23_code 30 = .ok (.aload_n 0, 1) := by decide +kernel
theorem d_Mo_takesTest_31 : decode prog_14_method_23_code 31 = .ok (.iload_n 2, 1) := by decide +kernel
theorem d_Mo_takesTest_32 : decode prog_14_method_23_code 32 = .ok (.bipush 60, 2) := by decide +kernel
theorem d_Mo_takesTest_34 : decode prog_14_method_23_code 34 = .ok (.bipush 62, 2) := by decide +kernel
theorem d_Mo_takesTest_36 : decode prog_14_method_23_code 36 = .ok (.invokevirtual 224, 3) := by decide +kernel
theorem d_Mo_takesTest_39 : decode prog_14_method_23_code 39 = .ok (.ifCond .ne 5, 3) := by decide +kernel
theorem d_Mo_takesTest_42 : decode prog_14_method_23_code 42 = .ok (.iconst 0, 1) := by decide +kernel
theorem d_Mo_takesTest_43 : decode prog_14_method_23_code 43 = .ok (.ireturn, 1) := by decide +kernel
theorem d_Mo_takesTest_44 : decode prog_14_method_23_code 44 = .ok (.aload_n 0, 1) := by decide +kernel
theorem d_Mo_takesTest_45 : decode prog_14_method_23_code 45 = .ok (.dup, 1) := by decide +kernel
theorem d_Mo_takesTest_46 : decode prog_14_method_23_code 46 = .ok (.getfield 53, 3) := by decide +kernel
theorem d_Mo_takesTest_49 : decode prog_14_method_23_code 49 = .ok (.iconst 1, 1) := by decide +kernel
theorem d_Mo_takesTest_50 : decode prog_14_method_23_code 50 = .ok (.iadd, 1) := by decide +kernel
theorem d_Mo_takesTest_51 : decode prog_14_method_23_code 51 = .ok (.putfield 53, 3) := by decide +kernel
theorem d_Mo_takesTest_54 : decode prog_14_method_23_code 54 = .ok (.aload_n 0, 1) := by decide +kernel
theorem d_Mo_takesTest_55 : decode prog_14_method_23_code 55 = .ok (.invokevirtual 254, 3) := by decide +kernel
theorem d_Mo_takesTest_58 : decode prog_14_method_23_code 58 = .ok (.ifCond .ne 5, 3) := by decide +kernel
theorem d_Mo_takesTest_61 : decode prog_14_method_23_code 61 = .ok (.iconst 0, 1) := by decide +kernel
theorem d_Mo_takesTest_62 : decode prog_14_method_23_code 62 = .ok (.ireturn, 1) := by decide +kernel
theorem d_Mo_takesTest_63 : decode prog_14_method_23_code 63 = .ok (.aload_n 0, 1) := by decide +kernel
theorem d_Mo_takesTest_64 : decode prog_14_method_23_code 64 = .ok (.sipush 1000, 3) := by decide +kernel
theorem d_Mo_takesTest_67 : decode prog_14_method_23_code 67 = .ok (.iload_n 1, 1) := by decide +kernel
theorem d_Mo_takesTest_68 : decode prog_14_method_23_code 68 = .ok (.imul, 1) := by decide +kernel
theorem d_Mo_takesTest_69 : decode prog_14_method_23_code 69 = .ok (.bipush 100, 2) := by decide +kernel
theorem d_Mo_takesTest_71 : decode prog_14_method_23_code 71 = .ok (.iload_n 2, 1) := by decide +kernel
theorem d_Mo_takesTest_72 : decode prog_14_method_23_code 72 = .ok (.bipush 60, 2) := by decide +kernel
theorem d_Mo_takesTest_74 : decode prog_14_method_23_code 74 = .ok (.isub, 1) := by decide +kernel
theorem d_Mo_takesTest_75 : decode prog_14_method_23_code 75 = .ok (.imul, 1) := by decide +kernel
theorem d_Mo_takesTest_76 : decode prog_14_method_23_code 76 = .ok (.iadd, 1) := by decide +kernel
theorem d_Mo_takesTest_77 : decode prog_14_method_23_code 77 = .ok (.aload_n 0, 1) := by decide +kernel
theorem d_Mo_takesTest_78 : decode prog_14_method_23_code 78 = .ok (.getfield 56, 3) := by decide +kernel
theorem d_Mo_takesTest_81 : decode prog_14_method_23_code 81 = .ok (.iadd, 1) := by decide +kernel
theorem d_Mo_takesTest_82 : decode prog_14_method_23_code 82 = .ok (.invokevirtual 247, 3) := by decide +kernel
theorem d_Mo_takesTest_85 : decode prog_14_method_23_code 85 = .ok (.aload_n 0, 1) := by decide +kernel
theorem d_Mo_takesTest_86 : decode prog_14_method_23_code 86 = .ok (.invokevirtual 257, 3) := by decide +kernel
theorem d_Mo_takesTest_89 : decode prog_14_method_23_code 89 = .ok (.iconst 1, 1) := by decide +kernel
theorem d_Mo_takesTest_90 : decode prog_14_method_23_code 90 = .ok (.ireturn, 1) := by decide +kernel
theorem d_Mo_letterAt_0 : decode prog_14_method_22_code 0 = .ok (.iload_n 1, 1) := by decide +kernel
theorem d_Mo_letterAt_1 : decode prog_14_method_22_code 1 = .ok (.tableswitch 87 104 118 #[81, 87, 87, 77, 79, 75, 87, 87, 87, 87, 87, 87, 83, 87, 85], 75) := by decide +kernel
theorem d_Mo_letterAt_76 : decode prog_14_method_22_code 76 = .ok (.iconst 0, 1) := by decide +kernel
theorem d_Mo_letterAt_77 : decode prog_14_method_22_code 77 = .ok (.ireturn, 1) := by decide +kernel
theorem d_Mo_letterAt_78 : decode prog_14_method_22_code 78 = .ok (.iconst 1, 1) := by decide +kernel
theorem d_Mo_letterAt_79 : decode prog_14_method_22_code 79 = .ok (.ireturn, 1) := by decide +kernel
theorem d_Mo_letterAt_80 : decode prog_14_method_22_code 80 = .ok (.iconst 2, 1) := by decide +kernel
theorem d_Mo_letterAt_81 : decode prog_14_method_22_code 81 = .ok (.ireturn, 1) := by decide +kernel
theorem d_Mo_letterAt_82 : decode prog_14_method_22_code 82 = .ok (.iconst 3, 1) := by decide +kernel
theorem d_Mo_letterAt_83 : decode prog_14_method_22_code 83 = .ok (.ireturn, 1) := by decide +kernel
theorem d_Mo_letterAt_84 : decode prog_14_method_22_code 84 = .ok (.iconst 4, 1) := by decide +kernel
theorem d_Mo_letterAt_85 : decode prog_14_method_22_code 85 = .ok (.ireturn, 1) := by decide +kernel
theorem d_Mo_letterAt_86 : decode prog_14_method_22_code 86 = .ok (.iconst 5, 1) := by decide +kernel
theorem d_Mo_letterAt_87 : decode prog_14_method_22_code 87 = .ok (.ireturn, 1) := by decide +kernel
theorem d_Mo_letterAt_88 : decode prog_14_method_22_code 88 = .ok (.iconst (-1), 1) := by decide +kernel
theorem d_Mo_letterAt_89 : decode prog_14_method_22_code 89 = .ok (.ireturn, 1) := by decide +kernel
theorem d_Mo_emits_0 : decode prog_14_method_19_code 0 = .ok (.aload_n 0, 1) := by decide +kernel
theorem d_Mo_emits_1 : decode prog_14_method_19_code 1 = .ok (.getfield 77, 3) := by decide +kernel
theorem d_Mo_emits_4 : decode prog_14_method_19_code 4 = .ok (.aload_n 0, 1) := by decide +kernel
theorem d_Mo_emits_5 : decode prog_14_method_19_code 5 = .ok (.getfield 83, 3) := by decide +kernel
theorem d_Mo_emits_8 : decode prog_14_method_19_code 8 = .ok (.iload_n 1, 1) := by decide +kernel
theorem d_Mo_emits_9 : decode prog_14_method_19_code 9 = .ok (.iastore, 1) := by decide +kernel
theorem d_Mo_emits_10 : decode prog_14_method_19_code 10 = .ok (.aload_n 0, 1) := by decide +kernel
theorem d_Mo_emits_11 : decode prog_14_method_19_code 11 = .ok (.dup, 1) := by decide +kernel
theorem d_Mo_emits_12 : decode prog_14_method_19_code 12 = .ok (.getfield 83, 3) := by decide +kernel
theorem d_Mo_emits_15 : decode prog_14_method_19_code 15 = .ok (.iconst 1, 1) := by decide +kernel
theorem d_Mo_emits_16 : decode prog_14_method_19_code 16 = .ok (.iadd, 1) := by decide +kernel
theorem d_Mo_emits_17 : decode prog_14_method_19_code 17 = .ok (.putfield 83, 3) := by decide +kernel
theorem d_Mo_emits_20 : decode prog_14_method_19_code 20 = .ok (.return_, 1) := by decide +kernel
theorem d_Mo_whole_0 : decode prog_14_method_20_code 0 = .ok (.aload_n 0, 1) := by decide +kernel
theorem d_Mo_whole_1 : decode prog_14_method_20_code 1 = .ok (.getfield 86, 3) := by decide +kernel
theorem d_Mo_whole_4 : decode prog_14_method_20_code 4 = .ok (.ifCond .le 48, 3) := by decide +kernel
theorem d_Mo_whole_7 : decode prog_14_method_20_code 7 = .ok (.aload_n 0, 1) := by decide +kernel
theorem d_Mo_whole_8 : decode prog_14_method_20_code 8 = .ok (.getfield 80, 3) := by decide +kernel
theorem d_Mo_whole_11 : decode prog_14_method_20_code 11 = .ok (.aload_n 0, 1) := by decide +kernel
theorem d_Mo_whole_12 : decode prog_14_method_20_code 12 = .ok (.getfield 86, 3) := by decide +kernel
theorem d_Mo_whole_15 : decode prog_14_method_20_code 15 = .ok (.iconst 1, 1) := by decide +kernel
theorem d_Mo_whole_16 : decode prog_14_method_20_code 16 = .ok (.isub, 1) := by decide +kernel
theorem d_Mo_whole_17 : decode prog_14_method_20_code 17 = .ok (.iaload, 1) := by decide +kernel
theorem d_Mo_whole_18 : decode prog_14_method_20_code 18 = .ok (.bipush 33, 2) := by decide +kernel
theorem d_Mo_whole_20 : decode prog_14_method_20_code 20 = .ok (.if_icmp .ne 32, 3) := by decide +kernel
theorem d_Mo_whole_23 : decode prog_14_method_20_code 23 = .ok (.aload_n 0, 1) := by decide +kernel
theorem d_Mo_whole_24 : decode prog_14_method_20_code 24 = .ok (.bipush (-33), 2) := by decide +kernel
theorem d_Mo_whole_26 : decode prog_14_method_20_code 26 = .ok (.invokevirtual 247, 3) := by decide +kernel
theorem d_Mo_whole_29 : decode prog_14_method_20_code 29 = .ok (.aload_n 0, 1) := by decide +kernel
theorem d_Mo_whole_30 : decode prog_14_method_20_code 30 = .ok (.dup, 1) := by decide +kernel
theorem d_Mo_whole_31 : decode prog_14_method_20_code 31 = .ok (.getfield 86, 3) := by decide +kernel
theorem d_Mo_whole_34 : decode prog_14_method_20_code 34 = .ok (.iconst 1, 1) := by decide +kernel
theorem d_Mo_whole_35 : decode prog_14_method_20_code 35 = .ok (.isub, 1) := by decide +kernel
theorem d_Mo_whole_36 : decode prog_14_method_20_code 36 = .ok (.putfield 86, 3) := by decide +kernel
theorem d_Mo_whole_39 : decode prog_14_method_20_code 39 = .ok (.aload_n 0, 1) := by decide +kernel
theorem d_Mo_whole_40 : decode prog_14_method_20_code 40 = .ok (.dup, 1) := by decide +kernel
theorem d_Mo_whole_41 : decode prog_14_method_20_code 41 = .ok (.getfield 89, 3) := by decide +kernel
theorem d_Mo_whole_44 : decode prog_14_method_20_code 44 = .ok (.iconst 1, 1) := by decide +kernel
theorem d_Mo_whole_45 : decode prog_14_method_20_code 45 = .ok (.isub, 1) := by decide +kernel
theorem d_Mo_whole_46 : decode prog_14_method_20_code 46 = .ok (.putfield 89, 3) := by decide +kernel
theorem d_Mo_whole_49 : decode prog_14_method_20_code 49 = .ok (.goto (-49), 3) := by decide +kernel
theorem d_Mo_whole_52 : decode prog_14_method_20_code 52 = .ok (.return_, 1) := by decide +kernel
theorem d_Mo_settle_0 : decode prog_14_method_21_code 0 = .ok (.aload_n 0, 1) := by decide +kernel
theorem d_Mo_settle_1 : decode prog_14_method_21_code 1 = .ok (.getfield 86, 3) := by decide +kernel
theorem d_Mo_settle_4 : decode prog_14_method_21_code 4 = .ok (.ifCond .le 68, 3) := by decide +kernel
theorem d_Mo_settle_7 : decode prog_14_method_21_code 7 = .ok (.aload_n 0, 1) := by decide +kernel
theorem d_Mo_settle_8 : decode prog_14_method_21_code 8 = .ok (.getfield 80, 3) := by decide +kernel
theorem d_Mo_settle_11 : decode prog_14_method_21_code 11 = .ok (.aload_n 0, 1) := by decide +kernel
theorem d_Mo_settle_12 : decode prog_14_method_21_code 12 = .ok (.getfield 86, 3) := by decide +kernel
theorem d_Mo_settle_15 : decode prog_14_method_21_code 15 = .ok (.iconst 1, 1) := by decide +kernel
theorem d_Mo_settle_16 : decode prog_14_method_21_code 16 = .ok (.isub, 1) := by decide +kernel
theorem d_Mo_settle_17 : decode prog_14_method_21_code 17 = .ok (.iaload, 1) := by decide +kernel
theorem d_Mo_settle_18 : decode prog_14_method_21_code 18 = .ok (.bipush 38, 2) := by decide +kernel
theorem d_Mo_settle_20 : decode prog_14_method_21_code 20 = .ok (.if_icmp .eq 25, 3) := by decide +kernel
theorem d_Mo_settle_23 : decode prog_14_method_21_code 23 = .ok (.aload_n 0, 1) := by decide +kernel
theorem d_Mo_settle_24 : decode prog_14_method_21_code 24 = .ok (.getfield 80, 3) := by decide +kernel
theorem d_Mo_settle_27 : decode prog_14_method_21_code 27 = .ok (.aload_n 0, 1) := by decide +kernel
theorem d_Mo_settle_28 : decode prog_14_method_21_code 28 = .ok (.getfield 86, 3) := by decide +kernel
theorem d_Mo_settle_31 : decode prog_14_method_21_code 31 = .ok (.iconst 1, 1) := by decide +kernel
theorem d_Mo_settle_32 : decode prog_14_method_21_code 32 = .ok (.isub, 1) := by decide +kernel
theorem d_Mo_settle_33 : decode prog_14_method_21_code 33 = .ok (.iaload, 1) := by decide +kernel
theorem d_Mo_settle_34 : decode prog_14_method_21_code 34 = .ok (.bipush 124, 2) := by decide +kernel
theorem d_Mo_settle_36 : decode prog_14_method_21_code 36 = .ok (.if_icmp .ne 36, 3) := by decide +kernel
theorem d_Mo_settle_39 : decode prog_14_method_21_code 39 = .ok (.iload_n 1, 1) := by decide +kernel
theorem d_Mo_settle_40 : decode prog_14_method_21_code 40 = .ok (.bipush 38, 2) := by decide +kernel
theorem d_Mo_settle_42 : decode prog_14_method_21_code 42 = .ok (.if_icmp .eq 30, 3) := by decide +kernel
theorem d_Mo_settle_45 : decode prog_14_method_21_code 45 = .ok (.aload_n 0, 1) := by decide +kernel
theorem d_Mo_settle_46 : decode prog_14_method_21_code 46 = .ok (.dup, 1) := by decide +kernel
theorem d_Mo_settle_47 : decode prog_14_method_21_code 47 = .ok (.getfield 86, 3) := by decide +kernel
theorem d_Mo_settle_50 : decode prog_14_method_21_code 50 = .ok (.iconst 1, 1) := by decide +kernel
theorem d_Mo_settle_51 : decode prog_14_method_21_code 51 = .ok (.isub, 1) := by decide +kernel
theorem d_Mo_settle_52 : decode prog_14_method_21_code 52 = .ok (.putfield 86, 3) := by decide +kernel
theorem d_Mo_settle_55 : decode prog_14_method_21_code 55 = .ok (.aload_n 0, 1) := by decide +kernel
theorem d_Mo_settle_56 : decode prog_14_method_21_code 56 = .ok (.aload_n 0, 1) := by decide +kernel
theorem d_Mo_settle_57 : decode prog_14_method_21_code 57 = .ok (.getfield 80, 3) := by decide +kernel
theorem d_Mo_settle_60 : decode prog_14_method_21_code 60 = .ok (.aload_n 0, 1) := by decide +kernel
theorem d_Mo_settle_61 : decode prog_14_method_21_code 61 = .ok (.getfield 86, 3) := by decide +kernel
theorem d_Mo_settle_64 : decode prog_14_method_21_code 64 = .ok (.iaload, 1) := by decide +kernel
theorem d_Mo_settle_65 : decode prog_14_method_21_code 65 = .ok (.ineg, 1) := by decide +kernel
theorem d_Mo_settle_66 : decode prog_14_method_21_code 66 = .ok (.invokevirtual 247, 3) := by decide +kernel
theorem d_Mo_settle_69 : decode prog_14_method_21_code 69 = .ok (.goto (-69), 3) := by decide +kernel
theorem d_Mo_settle_72 : decode prog_14_method_21_code 72 = .ok (.return_, 1) := by decide +kernel
theorem d_Mo_of_0 : decode prog_14_method_40_code 0 = .ok (.aload_n 0, 1) := by decide +kernel
theorem d_Mo_of_1 : decode prog_14_method_40_code 1 = .ok (.iload_n 1, 1) := by decide +kernel
theorem d_Mo_of_2 : decode prog_14_method_40_code 2 = .ok (.invokevirtual 228, 3) := by decide +kernel
theorem d_Mo_of_5 : decode prog_14_method_40_code 5 = .ok (.ifCond .ne 5, 3) := by decide +kernel
theorem d_Mo_of_8 : decode prog_14_method_40_code 8 = .ok (.iconst (-1), 1) := by decide +kernel
theorem d_Mo_of_9 : decode prog_14_method_40_code 9 = .ok (.ireturn, 1) := by decide +kernel
theorem d_Mo_of_10 : decode prog_14_method_40_code 10 = .ok (.iload_n 2, 1) := by decide +kernel
theorem d_Mo_of_11 : decode prog_14_method_40_code 11 = .ok (.tableswitch 95 0 6 #[41, 48, 55, 62, 69, 75, 85], 41) := by decide +kernel
theorem d_Mo_of_52 : decode prog_14_method_40_code 52 = .ok (.aload_n 0, 1) := by decide +kernel
theorem d_Mo_of_53 : decode prog_14_method_40_code 53 = .ok (.getfield 25, 3) := by decide +kernel
theorem d_Mo_of_56 : decode prog_14_method_40_code 56 = .ok (.iload_n 1, 1) := by decide +kernel
theorem d_Mo_of_57 : decode prog_14_method_40_code 57 = .ok (.iaload, 1) := by decide +kernel
theorem d_Mo_of_58 : decode prog_14_method_40_code 58 = .ok (.ireturn, 1) := by decide +kernel
theorem d_Mo_of_59 : decode prog_14_method_40_code 59 = .ok (.aload_n 0, 1) := by decide +kernel
theorem d_Mo_of_60 : decode prog_14_method_40_code 60 = .ok (.getfield 29, 3) := by decide +kernel
theorem d_Mo_of_63 : decode prog_14_method_40_code 63 = .ok (.iload_n 1, 1) := by decide +kernel
theorem d_Mo_of_64 : decode prog_14_method_40_code 64 = .ok (.iaload, 1) := by decide +kernel
theorem d_Mo_of_65 : decode prog_14_method_40_code 65 = .ok (.ireturn, 1) := by decide +kernel
theorem d_Mo_of_66 : decode prog_14_method_40_code 66 = .ok (.aload_n 0, 1) := by decide +kernel
theorem d_Mo_of_67 : decode prog_14_method_40_code 67 = .ok (.getfield 32, 3) := by decide +kernel
theorem d_Mo_of_70 : decode prog_14_method_40_code 70 = .ok (.iload_n 1, 1) := by decide +kernel
theorem d_Mo_of_71 : decode prog_14_method_40_code 71 = .ok (.iaload, 1) := by decide +kernel
theorem d_Mo_of_72 : decode prog_14_method_40_code 72 = .ok (.ireturn, 1) := by decide +kernel
theorem d_Mo_of_73 : decode prog_14_method_40_code 73 = .ok (.aload_n 0, 1) := by decide +kernel
theorem d_Mo_of_74 : decode prog_14_method_40_code 74 = .ok (.getfield 35, 3) := by decide +kernel
theorem d_Mo_of_77 : decode prog_14_method_40_code 77 = .ok (.iload_n 1, 1) := by decide +kernel
theorem d_Mo_of_78 : decode prog_14_method_40_code 78 = .ok (.iaload, 1) := by decide +kernel
theorem d_Mo_of_79 : decode prog_14_method_40_code 79 = .ok (.ireturn, 1) := by decide +kernel
theorem d_Mo_of_80 : decode prog_14_method_40_code 80 = .ok (.aload_n 0, 1) := by decide +kernel
theorem d_Mo_of_81 : decode prog_14_method_40_code 81 = .ok (.iload_n 1, 1) := by decide +kernel
theorem d_Mo_of_82 : decode prog_14_method_40_code 82 = .ok (.invokevirtual 232, 3) := by decide +kernel
theorem d_Mo_of_85 : decode prog_14_method_40_code 85 = .ok (.ireturn, 1) := by decide +kernel
theorem d_Mo_of_86 : decode prog_14_method_40_code 86 = .ok (.aload_n 0, 1) := by decide +kernel
theorem d_Mo_of_87 : decode prog_14_method_40_code 87 = .ok (.aload_n 0, 1) := by decide +kernel
theorem d_Mo_of_88 : decode prog_14_method_40_code 88 = .ok (.iload_n 1, 1) := by decide +kernel
theorem d_Mo_of_89 : decode prog_14_method_40_code 89 = .ok (.invokevirtual 232, 3) := by decide +kernel
theorem d_Mo_of_92 : decode prog_14_method_40_code 92 = .ok (.invokevirtual 304, 3) := by decide +kernel
theorem d_Mo_of_95 : decode prog_14_method_40_code 95 = .ok (.ireturn, 1) := by decide +kernel
theorem d_Mo_of_96 : decode prog_14_method_40_code 96 = .ok (.aload_n 0, 1) := by decide +kernel
theorem d_Mo_of_97 : decode prog_14_method_40_code 97 = .ok (.aload_n 0, 1) := by decide +kernel
theorem d_Mo_of_98 : decode prog_14_method_40_code 98 = .ok (.iload_n 1, 1) := by decide +kernel
theorem d_Mo_of_99 : decode prog_14_method_40_code 99 = .ok (.invokevirtual 232, 3) := by decide +kernel
theorem d_Mo_of_102 : decode prog_14_method_40_code 102 = .ok (.invokevirtual 310, 3) := by decide +kernel
theorem d_Mo_of_105 : decode prog_14_method_40_code 105 = .ok (.ireturn, 1) := by decide +kernel
theorem d_Mo_of_106 : decode prog_14_method_40_code 106 = .ok (.iconst (-1), 1) := by decide +kernel
theorem d_Mo_of_107 : decode prog_14_method_40_code 107 = .ok (.ireturn, 1) := by decide +kernel
theorem d_Mo_pace_0 : decode prog_14_method_37_code 0 = .ok (.aload_n 0, 1) := by decide +kernel
theorem d_Mo_pace_1 : decode prog_14_method_37_code 1 = .ok (.iload_n 1, 1) := by decide +kernel
theorem d_Mo_pace_2 : decode prog_14_method_37_code 2 = .ok (.putfield 99, 3) := by decide +kernel
theorem d_Mo_pace_5 : decode prog_14_method_37_code 5 = .ok (.bipush 8, 2) := by decide +kernel
theorem d_Mo_pace_7 : decode prog_14_method_37_code 7 = .ok (.istore_n 2, 1) := by decide +kernel
theorem d_Mo_pace_8 : decode prog_14_method_37_code 8 = .ok (.aload_n 0, 1) := by decide +kernel
theorem d_Mo_pace_9 : decode prog_14_method_37_code 9 = .ok (.invokevirtual 285, 3) := by decide +kernel
theorem d_Mo_pace_12 : decode prog_14_method_37_code 12 = .ok (.istore_n 3, 1) := by decide +kernel
theorem d_Mo_pace_13 : decode prog_14_method_37_code 13 = .ok (.iload_n 3, 1) := by decide +kernel
theorem d_Mo_pace_14 : decode prog_14_method_37_code 14 = .ok (.aload_n 0, 1) := by decide +kernel
theorem d_Mo_pace_15 : decode prog_14_method_37_code 15 = .ok (.invokevirtual 288, 3) := by decide +kernel
theorem d_Mo_pace_18 : decode prog_14_method_37_code 18 = .ok (.if_icmp .ge 64, 3) := by decide +kernel
theorem d_Mo_pace_21 : decode prog_14_method_37_code 21 = .ok (.aload_n 0, 1) := by decide +kernel
theorem d_Mo_pace_22 : decode prog_14_method_37_code 22 = .ok (.getfield 65, 3) := by decide +kernel
theorem d_Mo_pace_25 : decode prog_14_method_37_code 25 = .ok (.iload_n 3, 1) := by decide +kernel
theorem d_Mo_pace_26 : decode prog_14_method_37_code 26 = .ok (.iaload, 1) := by decide +kernel
theorem d_Mo_pace_27 : decode prog_14_method_37_code 27 = .ok (.iconst 1, 1) := by decide +kernel
theorem d_Mo_pace_28 : decode prog_14_method_37_code 28 = .ok (.if_icmp .gt 48, 3) := by decide +kernel
theorem d_Mo_pace_31 : decode prog_14_method_37_code 31 = .ok (.aload_n 0, 1) := by decide +kernel
theorem d_Mo_pace_32 : decode prog_14_method_37_code 32 = .ok (.iload_n 3, 1) := by decide +kernel
theorem d_Mo_pace_33 : decode prog_14_method_37_code 33 = .ok (.aload_n 0, 1) := by decide +kernel
theorem d_Mo_pace_34 : decode prog_14_method_37_code 34 = .ok (.getfield 41, 3) := by decide +kernel
theorem d_Mo_pace_37 : decode prog_14_method_37_code 37 = .ok (.iload_n 1, 1) := by decide +kernel
theorem d_Mo_pace_38 : decode prog_14_method_37_code 38 = .ok (.iaload, 1) := by decide +kernel
theorem d_Mo_pace_39 : decode prog_14_method_37_code 39 = .ok (.invokevirtual 301, 3) := by decide +kernel
theorem d_Mo_pace_42 : decode prog_14_method_37_code 42 = .ok (.ifCond .ne 6, 3) := by decide +kernel
theorem d_Mo_pace_45 : decode prog_14_method_37_code 45 = .ok (.goto 31, 3) := by decide +kernel
theorem d_Mo_pace_48 : decode prog_14_method_37_code 48 = .ok (.iload_n 2, 1) := by decide +kernel
theorem d_Mo_pace_49 : decode prog_14_method_37_code 49 = .ok (.aload_n 0, 1) := by decide +kernel
theorem d_Mo_pace_50 : decode prog_14_method_37_code 50 = .ok (.getfield 65, 3) := by decide +kernel
theorem d_Mo_pace_53 : decode prog_14_method_37_code 53 = .ok (.iload_n 3, 1) := by decide +kernel
theorem d_Mo_pace_54 : decode prog_14_method_37_code 54 = .ok (.iaload, 1) := by decide +kernel
theorem d_Mo_pace_55 : decode prog_14_method_37_code 55 = .ok (.ifCond .ne 12, 3) := by decide +kernel
theorem d_Mo_pace_58 : decode prog_14_method_37_code 58 = .ok (.aload_n 0, 1) := by decide +kernel
theorem d_Mo_pace_59 : decode prog_14_method_37_code 59 = .ok (.getfield 68, 3) := by decide +kernel
theorem d_Mo_pace_62 : decode prog_14_method_37_code 62 = .ok (.iload_n 3, 1) := by decide +kernel
theorem d_Mo_pace_63 : decode prog_14_method_37_code 63 = .ok (.iaload, 1) := by decide +kernel
theorem d_Mo_pace_64 : decode prog_14_method_37_code 64 = .ok (.goto 10, 3) := by decide +kernel
theorem d_Mo_pace_67 : decode prog_14_method_37_code 67 = .ok (.aload_n 0, 1) := by decide +kernel
theorem d_Mo_pace_68 : decode prog_14_method_37_code 68 = .ok (.getfield 68, 3) := by decide +kernel
theorem d_Mo_pace_71 : decode prog_14_method_37_code 71 = .ok (.iload_n 3, 1) := by decide +kernel
theorem d_Mo_pace_72 : decode prog_14_method_37_code 72 = .ok (.iaload, 1) := by decide +kernel
theorem d_Mo_pace_73 : decode prog_14_method_37_code 73 = .ok (.ineg, 1) := by decide +kernel
theorem d_Mo_pace_74 : decode prog_14_method_37_code 74 = .ok (.iadd, 1) := by decide +kernel
theorem d_Mo_pace_75 : decode prog_14_method_37_code 75 = .ok (.istore_n 2, 1) := by decide +kernel
theorem d_Mo_pace_76 : decode prog_14_method_37_code 76 = .ok (.iinc 3 1, 3) := by decide +kernel
theorem d_Mo_pace_79 : decode prog_14_method_37_code 79 = .ok (.goto (-66), 3) := by decide +kernel
theorem d_Mo_pace_82 : decode prog_14_method_37_code 82 = .ok (.aload_n 0, 1) := by decide +kernel
theorem d_Mo_pace_83 : decode prog_14_method_37_code 83 = .ok (.iload_n 2, 1) := by decide +kernel
theorem d_Mo_pace_84 : decode prog_14_method_37_code 84 = .ok (.invokevirtual 295, 3) := by decide +kernel
theorem d_Mo_pace_87 : decode prog_14_method_37_code 87 = .ok (.ireturn, 1) := by decide +kernel
theorem d_Mo_begin_0 : decode prog_14_method_29_code 0 = .ok (.aload_n 0, 1) := by decide +kernel
theorem d_Mo_begin_1 : decode prog_14_method_29_code 1 = .ok (.getfield 47, 3) := by decide +kernel
theorem d_Mo_begin_4 : decode prog_14_method_29_code 4 = .ok (.ifCond .ge 7, 3) := by decide +kernel
theorem d_Mo_begin_7 : decode prog_14_method_29_code 7 = .ok (.iconst 0, 1) := by decide +kernel
theorem d_Mo_begin_8 : decode prog_14_method_29_code 8 = .ok (.goto 10, 3) := by decide +kernel
theorem d_Mo_begin_11 : decode prog_14_method_29_code 11 = .ok (.bipush 10, 2) := by decide +kernel
theorem d_Mo_begin_13 : decode prog_14_method_29_code 13 = .ok (.aload_n 0, 1) := by decide +kernel
theorem d_Mo_begin_14 : decode prog_14_method_29_code 14 = .ok (.getfield 47, 3) := by decide +kernel
theorem d_Mo_begin_17 : decode prog_14_method_29_code 17 = .ok (.imul, 1) := by decide +kernel
theorem d_Mo_begin_18 : decode prog_14_method_29_code 18 = .ok (.ireturn, 1) := by decide +kernel
theorem d_Mo_behind_0 : decode prog_14_method_30_code 0 = .ok (.aload_n 0, 1) := by decide +kernel
theorem d_Mo_behind_1 : decode prog_14_method_30_code 1 = .ok (.getfield 47, 3) := by decide +kernel
theorem d_Mo_behind_4 : decode prog_14_method_30_code 4 = .ok (.ifCond .ge 7, 3) := by decide +kernel
theorem d_Mo_behind_7 : decode prog_14_method_30_code 7 = .ok (.iconst 0, 1) := by decide +kernel
theorem d_Mo_behind_8 : decode prog_14_method_30_code 8 = .ok (.goto 20, 3) := by decide +kernel
theorem d_Mo_behind_11 : decode prog_14_method_30_code 11 = .ok (.bipush 10, 2) := by decide +kernel
theorem d_Mo_behind_13 : decode prog_14_method_30_code 13 = .ok (.aload_n 0, 1) := by decide +kernel
theorem d_Mo_behind_14 : decode prog_14_method_30_code 14 = .ok (.getfield 47, 3) := by decide +kernel
theorem d_Mo_behind_17 : decode prog_14_method_30_code 17 = .ok (.imul, 1) := by decide +kernel
theorem d_Mo_behind_18 : decode prog_14_method_30_code 18 = .ok (.aload_n 0, 1) := by decide +kernel
theorem d_Mo_behind_19 : decode prog_14_method_30_code 19 = .ok (.getfield 62, 3) := by decide +kernel
theorem d_Mo_behind_22 : decode prog_14_method_30_code 22 = .ok (.aload_n 0, 1) := by decide +kernel
theorem d_Mo_behind_23 : decode prog_14_method_30_code 23 = .ok (.getfield 47, 3) := by decide +kernel
theorem d_Mo_behind_26 : decode prog_14_method_30_code 26 = .ok (.iaload, 1) := by decide +kernel
theorem d_Mo_behind_27 : decode prog_14_method_30_code 27 = .ok (.iadd, 1) := by decide +kernel
theorem d_Mo_behind_28 : decode prog_14_method_30_code 28 = .ok (.ireturn, 1) := by decide +kernel
theorem d_Mo_holdsTest_0 : decode prog_14_method_36_code 0 = .ok (.iconst 0, 1) := by decide +kernel
theorem d_Mo_holdsTest_1 : decode prog_14_method_36_code 1 = .ok (.istore_n 3, 1) := by decide +kernel
theorem d_Mo_holdsTest_2 : decode prog_14_method_36_code 2 = .ok (.aload_n 0, 1) := by decide +kernel
theorem d_Mo_holdsTest_3 : decode prog_14_method_36_code 3 = .ok (.getfield 71, 3) := by decide +kernel
theorem d_Mo_holdsTest_6 : decode prog_14_method_36_code 6 = .ok (.iload_n 1, 1) := by decide +kernel
theorem d_Mo_holdsTest_7 : decode prog_14_method_36_code 7 = .ok (.iaload, 1) := by decide +kernel
theorem d_Mo_holdsTest_8 : decode prog_14_method_36_code 8 = .ok (.istore 4, 2) := by decide +kernel
theorem d_Mo_holdsTest_10 : decode prog_14_method_36_code 10 = .ok (.iload 4, 2) := by decide +kernel
theorem d_Mo_holdsTest_12 : decode prog_14_method_36_code 12 = .ok (.aload_n 0, 1) := by decide +kernel
theorem d_Mo_holdsTest_13 : decode prog_14_method_36_code 13 = .ok (.getfield 74, 3) := by decide +kernel
theorem d_Mo_holdsTest_16 : decode prog_14_method_36_code 16 = .ok (.iload_n 1, 1) := by decide +kernel
theorem d_Mo_holdsTest_17 : decode prog_14_method_36_code 17 = .ok (.iaload, 1) := by decide +kernel
theorem d_Mo_holdsTest_18 : decode prog_14_method_36_code 18 = .ok (.if_icmp .ge 225, 3) := by decide +kernel
theorem d_Mo_holdsTest_21 : decode prog_14_method_36_code 21 = .ok (.aload_n 0, 1) := by decide +kernel
theorem d_Mo_holdsTest_22 : decode prog_14_method_36_code 22 = .ok (.getfield 77, 3) := by decide +kernel
theorem d_Mo_holdsTest_25 : decode prog_14_method_36_code 25 = .ok (.iload 4, 2) := by decide +kernel
theorem d_Mo_holdsTest_27 : decode prog_14_method_36_code 27 = .ok (.iaload, 1) := by decide +kernel
theorem d_Mo_holdsTest_28 : decode prog_14_method_36_code 28 = .ok (.istore 5, 2) := by decide +kernel
theorem d_Mo_holdsTest_30 : decode prog_14_method_36_code 30 = .ok (.iload 5, 2) := by decide +kernel
theorem d_Mo_holdsTest_32 : decode prog_14_method_36_code 32 = .ok (.bipush (-33), 2) := by decide +kernel
theorem d_Mo_holdsTest_34 : decode prog_14_method_36_code 34 = .ok (.if_icmp .ne 30, 3) := by decide +kernel
theorem d_Mo_holdsTest_37 : decode prog_14_method_36_code 37 = .ok (.aload_n 0, 1) := by decide +kernel
theorem d_Mo_holdsTest_38 : decode prog_14_method_36_code 38 = .ok (.getfield 95, 3) := by decide +kernel
theorem d_Mo_holdsTest_41 : decode prog_14_method_36_code 41 = .ok (.iload_n 3, 1) := by decide +kernel
theorem d_Mo_holdsTest_42 : decode prog_14_method_36_code 42 = .ok (.iconst 1, 1) := by decide +kernel
theorem d_Mo_holdsTest_43 : decode prog_14_method_36_code 43 = .ok (.isub, 1) := by decide +kernel
theorem d_Mo_holdsTest_44 : decode prog_14_method_36_code 44 = .ok (.aload_n 0, 1) := by decide +kernel
theorem d_Mo_holdsTest_45 : decode prog_14_method_36_code 45 = .ok (.getfield 95, 3) := by decide +kernel
theorem d_Mo_holdsTest_48 : decode prog_14_method_36_code 48 = .ok (.iload_n 3, 1) := by decide +kernel
theorem d_Mo_holdsTest_49 : decode prog_14_method_36_code 49 = .ok (.iconst 1, 1) := by decide +kernel
theorem d_Mo_holdsTest_50 : decode prog_14_method_36_code 50 = .ok (.isub, 1) := by decide +kernel
theorem d_Mo_holdsTest_51 : decode prog_14_method_36_code 51 = .ok (.baload, 1) := by decide +kernel
theorem d_Mo_holdsTest_52 : decode prog_14_method_36_code 52 = .ok (.ifCond .ne 7, 3) := by decide +kernel
theorem d_Mo_holdsTest_55 : decode prog_14_method_36_code 55 = .ok (.iconst 1, 1) := by decide +kernel
theorem d_Mo_holdsTest_56 : decode prog_14_method_36_code 56 = .ok (.goto 4, 3) := by decide +kernel
theorem d_Mo_holdsTest_59 : decode prog_14_method_36_code 59 = .ok (.iconst 0, 1) := by decide +kernel
theorem d_Mo_holdsTest_60 : decode prog_14_method_36_code 60 = .ok (.bastore, 1) := by decide +kernel
theorem d_Mo_holdsTest_61 : decode prog_14_method_36_code 61 = .ok (.goto 176, 3) := by decide +kernel
theorem d_Mo_holdsTest_64 : decode prog_14_method_36_code 64 = .ok (.iload 5, 2) := by decide +kernel
theorem d_Mo_holdsTest_66 : decode prog_14_method_36_code 66 = .ok (.ifCond .ge 77, 3) := by decide +kernel
theorem d_Mo_holdsTest_69 : decode prog_14_method_36_code 69 = .ok (.iinc 3 (-1), 3) := by decide +kernel
theorem d_Mo_holdsTest_72 : decode prog_14_method_36_code 72 = .ok (.aload_n 0, 1) := by decide +kernel
theorem d_Mo_holdsTest_73 : decode prog_14_method_36_code 73 = .ok (.getfield 95, 3) := by decide +kernel
theorem d_Mo_holdsTest_76 : decode prog_14_method_36_code 76 = .ok (.iload_n 3, 1) := by decide +kernel
theorem d_Mo_holdsTest_77 : decode prog_14_method_36_code 77 = .ok (.iconst 1, 1) := by decide +kernel
theorem d_Mo_holdsTest_78 : decode prog_14_method_36_code 78 = .ok (.isub, 1) := by decide +kernel
theorem d_Mo_holdsTest_79 : decode prog_14_method_36_code 79 = .ok (.iload 5, 2) := by decide +kernel
theorem d_Mo_holdsTest_81 : decode prog_14_method_36_code 81 = .ok (.bipush (-38), 2) := by decide +kernel
theorem d_Mo_holdsTest_83 : decode prog_14_method_36_code 83 = .ok (.if_icmp .ne 31, 3) := by decide +kernel
theorem d_Mo_holdsTest_86 : decode prog_14_method_36_code 86 = .ok (.aload_n 0, 1) := by decide +kernel
theorem d_Mo_holdsTest_87 : decode prog_14_method_36_code 87 = .ok (.getfield 95, 3) := by decide +kernel
theorem d_Mo_holdsTest_90 : decode prog_14_method_36_code 90 = .ok (.iload_n 3, 1) := by decide +kernel
theorem d_Mo_holdsTest_91 : decode prog_14_method_36_code 91 = .ok (.iconst 1, 1) := by decide +kernel
theorem d_Mo_holdsTest_92 : decode prog_14_method_36_code 92 = .ok (.isub, 1) := by decide +kernel
theorem d_Mo_holdsTest_93 : decode prog_14_method_36_code 93 = .ok (.baload, 1) := by decide +kernel
theorem d_Mo_holdsTest_94 : decode prog_14_method_36_code 94 = .ok (.ifCond .eq 16, 3) := by decide +kernel
theorem d_Mo_holdsTest_97 : decode prog_14_method_36_code 97 = .ok (.aload_n 0, 1) := by decide +kernel
theorem d_Mo_holdsTest_98 : decode prog_14_method_36_code 98 = .ok (.getfield 95, 3) := by decide +kernel
theorem d_Mo_holdsTest_101 : decode prog_14_method_36_code 101 = .ok (.iload_n 3, 1) := by decide +kernel
theorem d_Mo_holdsTest_102 : decode prog_14_method_36_code 102 = .ok (.baload, 1) := by decide +kernel
theorem d_Mo_holdsTest_103 : decode prog_14_method_36_code 103 = .ok (.ifCond .eq 7, 3) := by decide +kernel
theorem d_Mo_holdsTest_106 : decode prog_14_method_36_code 106 = .ok (.iconst 1, 1) := by decide +kernel
theorem d_Mo_holdsTest_107 : decode prog_14_method_36_code 107 = .ok (.goto 32, 3) := by decide +kernel
theorem d_Mo_holdsTest_110 : decode prog_14_method_36_code 110 = .ok (.iconst 0, 1) := by decide +kernel
theorem d_Mo_holdsTest_111 : decode prog_14_method_36_code 111 = .ok (.goto 28, 3) := by decide +kernel
theorem d_Mo_holdsTest_114 : decode prog_14_method_36_code 114 = .ok (.aload_n 0, 1) := by decide +kernel
theorem d_Mo_holdsTest_115 : decode prog_14_method_36_code 115 = .ok (.getfield 95, 3) := by decide +kernel
theorem d_Mo_holdsTest_118 : decode prog_14_method_36_code 118 = .ok (.iload_n 3, 1) := by decide +kernel
theorem d_Mo_holdsTest_119 : decode prog_14_method_36_code 119 = .ok (.iconst 1, 1) := by decide +kernel
theorem d_Mo_holdsTest_120 : decode prog_14_method_36_code 120 = .ok (.isub, 1) := by decide +kernel
theorem d_Mo_holdsTest_121 : decode prog_14_method_36_code 121 = .ok (.baload, 1) := by decide +kernel
theorem d_Mo_holdsTest_122 : decode prog_14_method_36_code 122 = .ok (.ifCond .ne 12, 3) := by decide +kernel
theorem d_Mo_holdsTest_125 : decode prog_14_method_36_code 125 = .ok (.aload_n 0, 1) := by decide +kernel
theorem d_Mo_holdsTest_126 : decode prog_14_method_36_code 126 = .ok (.getfield 95, 3) := by decide +kernel
theorem d_Mo_holdsTest_129 : decode prog_14_method_36_code 129 = .ok (.iload_n 3, 1) := by decide +kernel
theorem d_Mo_holdsTest_130 : decode prog_14_method_36_code 130 = .ok (.baload, 1) := by decide +kernel
theorem d_Mo_holdsTest_131 : decode prog_14_method_36_code 131 = .ok (.ifCond .eq 7, 3) := by decide +kernel
theorem d_Mo_holdsTest_134 : decode prog_14_method_36_code 134 = .ok (.iconst 1, 1) := by decide +kernel
theorem d_Mo_holdsTest_135 : decode prog_14_method_36_code 135 = .ok (.goto 4, 3) := by decide +kernel
theorem d_Mo_holdsTest_138 : decode prog_14_method_36_code 138 = .ok (.iconst 0, 1) := by decide +kernel
theorem d_Mo_holdsTest_139 : decode prog_14_method_36_code 139 = .ok (.bastore, 1) := by decide +kernel
theorem d_Mo_holdsTest_140 : decode prog_14_method_36_code 140 = .ok (.goto 97, 3) := by decide +kernel
theorem d_Mo_holdsTest_143 : decode prog_14_method_36_code 143 = .ok (.aload_n 0, 1) := by decide +kernel
theorem d_Mo_holdsTest_144 : decode prog_14_method_36_code 144 = .ok (.iload 5, 2) := by decide +kernel
theorem d_Mo_holdsTest_146 : decode prog_14_method_36_code 146 = .ok (.sipush 1000, 3) := by decide +kernel
theorem d_Mo_holdsTest_149 : decode prog_14_method_36_code 149 = .ok (.idiv, 1) := by decide +kernel
theorem d_Mo_holdsTest_150 : decode prog_14_method_36_code 150 = .ok (.iload_n 2, 1) := by decide +kernel
theorem d_Mo_holdsTest_151 : decode prog_14_method_36_code 151 = .ok (.invokevirtual 298, 3) := by decide +kernel
theorem d_Mo_holdsTest_154 : decode prog_14_method_36_code 154 = .ok (.istore 6, 2) := by decide +kernel
theorem d_Mo_holdsTest_156 : decode prog_14_method_36_code 156 = .ok (.iload 5, 2) := by decide +kernel
theorem d_Mo_holdsTest_158 : decode prog_14_method_36_code 158 = .ok (.bipush 100, 2) := by decide +kernel
theorem d_Mo_holdsTest_160 : decode prog_14_method_36_code 160 = .ok (.idiv, 1) := by decide +kernel
theorem d_Mo_holdsTest_161 : decode prog_14_method_36_code 161 = .ok (.bipush 10, 2) := by decide +kernel
theorem d_Mo_holdsTest_163 : decode prog_14_method_36_code 163 = .ok (.irem, 1) := by decide +kernel
theorem d_Mo_holdsTest_164 : decode prog_14_method_36_code 164 = .ok (.istore 7, 2) := by decide +kernel
theorem d_Mo_holdsTest_166 : decode prog_14_method_36_code 166 = .ok (.aload_n 0, 1) := by decide +kernel
theorem d_Mo_holdsTest_167 : decode prog_14_method_36_code 167 = .ok (.getfield 95, 3) := by decide +kernel
theorem d_Mo_holdsTest_170 : decode prog_14_method_36_code 170 = .ok (.iload_n 3, 1) := by decide +kernel
theorem d_Mo_holdsTest_171 : decode prog_14_method_36_code 171 = .ok (.iload 7, 2) := by decide +kernel
theorem d_Mo_holdsTest_173 : decode prog_14_method_36_code 173 = .ok (.ifCond .ne 21, 3) := by decide +kernel
theorem d_Mo_holdsTest_176 : decode prog_14_method_36_code 176 = .ok (.iload 6, 2) := by decide +kernel
theorem d_Mo_holdsTest_178 : decode prog_14_method_36_code 178 = .ok (.iload 5, 2) := by decide +kernel
theorem d_Mo_holdsTest_180 : decode prog_14_method_36_code 180 = .ok (.bipush 100, 2) := by decide +kernel
theorem d_Mo_holdsTest_182 : decode prog_14_method_36_code 182 = .ok (.irem, 1) := by decide +kernel
theorem d_Mo_holdsTest_183 : decode prog_14_method_36_code 183 = .ok (.if_icmp .ge 7, 3) := by decide +kernel
theorem d_Mo_holdsTest_186 : decode prog_14_method_36_code 186 = .ok (.iconst 1, 1) := by decide +kernel
theorem d_Mo_holdsTest_187 : decode prog_14_method_36_code 187 = .ok (.goto 46, 3) := by decide +kernel
theorem d_Mo_holdsTest_190 : decode prog_14_method_36_code 190 = .ok (.iconst 0, 1) := by decide +kernel
theorem d_Mo_holdsTest_191 : decode prog_14_method_36_code 191 = .ok (.goto 42, 3) := by decide +kernel
theorem d_Mo_holdsTest_194 : decode prog_14_method_36_code 194 = .ok (.iload 7, 2) := by decide +kernel
theorem d_Mo_holdsTest_196 : decode prog_14_method_36_code 196 = .ok (.iconst 1, 1) := by decide +kernel
theorem d_Mo_holdsTest_197 : decode prog_14_method_36_code 197 = .ok (.if_icmp .ne 21, 3) := by decide +kernel
theorem d_Mo_holdsTest_200 : decode prog_14_method_36_code 200 = .ok (.iload 6, 2) := by decide +kernel
theorem d_Mo_holdsTest_202 : decode prog_14_method_36_code 202 = .ok (.iload 5, 2) := by decide +kernel
theorem d_Mo_holdsTest_204 : decode prog_14_method_36_code 204 = .ok (.bipush 100, 2) := by decide +kernel
theorem d_Mo_holdsTest_206 : decode prog_14_method_36_code 206 = .ok (.irem, 1) := by decide +kernel
theorem d_Mo_holdsTest_207 : decode prog_14_method_36_code 207 = .ok (.if_icmp .ne 7, 3) := by decide +kernel
theorem d_Mo_holdsTest_210 : decode prog_14_method_36_code 210 = .ok (.iconst 1, 1) := by decide +kernel
theorem d_Mo_holdsTest_211 : decode prog_14_method_36_code 211 = .ok (.goto 22, 3) := by decide +kernel
theorem d_Mo_holdsTest_214 : decode prog_14_method_36_code 214 = .ok (.iconst 0, 1) := by decide +kernel
theorem d_Mo_holdsTest_215 : decode prog_14_method_36_code 215 = .ok (.goto 18, 3) := by decide +kernel
theorem d_Mo_holdsTest_218 : decode prog_14_method_36_code 218 = .ok (.iload 6, 2) := by decide +kernel
theorem d_Mo_holdsTest_220 : decode prog_14_method_36_code 220 = .ok (.iload 5, 2) := by decide +kernel
theorem d_Mo_holdsTest_222 : decode prog_14_method_36_code 222 = .ok (.bipush 100, 2) := by decide +kernel
theorem d_Mo_holdsTest_224 : decode prog_14_method_36_code 224 = .ok (.irem, 1) := by decide +kernel
theorem d_Mo_holdsTest_225 : decode prog_14_method_36_code 225 = .ok (.if_icmp .le 7, 3) := by decide +kernel
theorem d_Mo_holdsTest_228 : decode prog_14_method_36_code 228 = .ok (.iconst 1, 1) := by decide +kernel
theorem d_Mo_holdsTest_229 : decode prog_14_method_36_code 229 = .ok (.goto 4, 3) := by decide +kernel
theorem d_Mo_holdsTest_232 : decode prog_14_method_36_code 232 = .ok (.iconst 0, 1) := by decide +kernel
theorem d_Mo_holdsTest_233 : decode prog_14_method_36_code 233 = .ok (.bastore, 1) := by decide +kernel
theorem d_Mo_holdsTest_234 : decode prog_14_method_36_code 234 = .ok (.iinc 3 1, 3) := by decide +kernel
theorem d_Mo_holdsTest_237 : decode prog_14_method_36_code 237 = .ok (.iinc 4 1, 3) := by decide +kernel
theorem d_Mo_holdsTest_240 : decode prog_14_method_36_code 240 = .ok (.goto (-230), 3) := by decide +kernel
theorem d_Mo_holdsTest_243 : decode prog_14_method_36_code 243 = .ok (.aload_n 0, 1) := by decide +kernel
theorem d_Mo_holdsTest_244 : decode prog_14_method_36_code 244 = .ok (.getfield 95, 3) := by decide +kernel
theorem d_Mo_holdsTest_247 : decode prog_14_method_36_code 247 = .ok (.iconst 0, 1) := by decide +kernel
theorem d_Mo_holdsTest_248 : decode prog_14_method_36_code 248 = .ok (.baload, 1) := by decide +kernel
theorem d_Mo_holdsTest_249 : decode prog_14_method_36_code 249 = .ok (.ireturn, 1) := by decide +kernel
theorem d_Mo_factOf_0 : decode prog_14_method_35_code 0 = .ok (.iload_n 1, 1) := by decide +kernel
theorem d_Mo_factOf_1 : decode prog_14_method_35_code 1 = .ok (.tableswitch 88 0 4 #[35, 37, 44, 49, 59], 35) := by decide +kernel
theorem d_Mo_factOf_36 : decode prog_14_method_35_code 36 = .ok (.iload_n 2, 1) := by decide +kernel
theorem d_Mo_factOf_37 : decode prog_14_method_35_code 37 = .ok (.ireturn, 1) := by decide +kernel
theorem d_Mo_factOf_38 : decode prog_14_method_35_code 38 = .ok (.aload_n 0, 1) := by decide +kernel
theorem d_Mo_factOf_39 : decode prog_14_method_35_code 39 = .ok (.getfield 25, 3) := by decide +kernel
theorem d_Mo_factOf_42 : decode prog_14_method_35_code 42 = .ok (.iload_n 2, 1) := by decide +kernel
theorem d_Mo_factOf_43 : decode prog_14_method_35_code 43 = .ok (.iaload, 1) := by decide +kernel
theorem d_Mo_factOf_44 : decode prog_14_method_35_code 44 = .ok (.ireturn, 1) := by decide +kernel
theorem d_Mo_factOf_45 : decode prog_14_method_35_code 45 = .ok (.aload_n 0, 1) := by decide +kernel
theorem d_Mo_factOf_46 : decode prog_14_method_35_code 46 = .ok (.getfield 99, 3) := by decide +kernel
theorem d_Mo_factOf_49 : decode prog_14_method_35_code 49 = .ok (.ireturn, 1) := by decide +kernel
theorem d_Mo_factOf_50 : decode prog_14_method_35_code 50 = .ok (.aload_n 0, 1) := by decide +kernel
theorem d_Mo_factOf_51 : decode prog_14_method_35_code 51 = .ok (.getfield 32, 3) := by decide +kernel
theorem d_Mo_factOf_54 : decode prog_14_method_35_code 54 = .ok (.iload_n 2, 1) := by decide +kernel
theorem d_Mo_factOf_55 : decode prog_14_method_35_code 55 = .ok (.iaload, 1) := by decide +kernel
theorem d_Mo_factOf_56 : decode prog_14_method_35_code 56 = .ok (.bipush 10, 2) := by decide +kernel
theorem d_Mo_factOf_58 : decode prog_14_method_35_code 58 = .ok (.irem, 1) := by decide +kernel
theorem d_Mo_factOf_59 : decode prog_14_method_35_code 59 = .ok (.ireturn, 1) := by decide +kernel
theorem d_Mo_factOf_60 : decode prog_14_method_35_code 60 = .ok (.aload_n 0, 1) := by decide +kernel
theorem d_Mo_factOf_61 : decode prog_14_method_35_code 61 = .ok (.getfield 32, 3) := by decide +kernel
theorem d_Mo_factOf_64 : decode prog_14_method_35_code 64 = .ok (.iload_n 2, 1) := by decide +kernel
theorem d_Mo_factOf_65 : decode prog_14_method_35_code 65 = .ok (.iaload, 1) := by decide +kernel
theorem d_Mo_factOf_66 : decode prog_14_method_35_code 66 = .ok (.bipush 10, 2) := by decide +kernel
theorem d_Mo_factOf_68 : decode prog_14_method_35_code 68 = .ok (.idiv, 1) := by decide +kernel
theorem d_Mo_factOf_69 : decode prog_14_method_35_code 69 = .ok (.bipush 99, 2) := by decide +kernel
theorem d_Mo_factOf_71 : decode prog_14_method_35_code 71 = .ok (.if_icmp .le 8, 3) := by decide +kernel
theorem d_Mo_factOf_74 : decode prog_14_method_35_code 74 = .ok (.bipush 99, 2) := by decide +kernel
theorem d_Mo_factOf_76 : decode prog_14_method_35_code 76 = .ok (.goto 12, 3) := by decide +kernel
theorem d_Mo_factOf_79 : decode prog_14_method_35_code 79 = .ok (.aload_n 0, 1) := by decide +kernel
theorem d_Mo_factOf_80 : decode prog_14_method_35_code 80 = .ok (.getfield 32, 3) := by decide +kernel
theorem d_Mo_factOf_83 : decode prog_14_method_35_code 83 = .ok (.iload_n 2, 1) := by decide +kernel
theorem d_Mo_factOf_84 : decode prog_14_method_35_code 84 = .ok (.iaload, 1) := by decide +kernel
theorem d_Mo_factOf_85 : decode prog_14_method_35_code 85 = .ok (.bipush 10, 2) := by decide +kernel
theorem d_Mo_factOf_87 : decode prog_14_method_35_code 87 = .ok (.idiv, 1) := by decide +kernel
theorem d_Mo_factOf_88 : decode prog_14_method_35_code 88 = .ok (.ireturn, 1) := by decide +kernel
theorem d_Mo_factOf_89 : decode prog_14_method_35_code 89 = .ok (.aload_n 0, 1) := by decide +kernel
theorem d_Mo_factOf_90 : decode prog_14_method_35_code 90 = .ok (.getfield 29, 3) := by decide +kernel
theorem d_Mo_factOf_93 : decode prog_14_method_35_code 93 = .ok (.iload_n 2, 1) := by decide +kernel
theorem d_Mo_factOf_94 : decode prog_14_method_35_code 94 = .ok (.iaload, 1) := by decide +kernel
theorem d_Mo_factOf_95 : decode prog_14_method_35_code 95 = .ok (.ireturn, 1) := by decide +kernel
theorem d_Mo_atLeastOne_0 : decode prog_14_method_4_code 0 = .ok (.iload_n 1, 1) := by decide +kernel
theorem d_Mo_atLeastOne_1 : decode prog_14_method_4_code 1 = .ok (.iconst 1, 1) := by decide +kernel
theorem d_Mo_atLeastOne_2 : decode prog_14_method_4_code 2 = .ok (.if_icmp .ge 7, 3) := by decide +kernel
theorem d_Mo_atLeastOne_5 : decode prog_14_method_4_code 5 = .ok (.iconst 1, 1) := by decide +kernel
theorem d_Mo_atLeastOne_6 : decode prog_14_method_4_code 6 = .ok (.goto 4, 3) := by decide +kernel
theorem d_Mo_atLeastOne_9 : decode prog_14_method_4_code 9 = .ok (.iload_n 1, 1) := by decide +kernel
theorem d_Mo_atLeastOne_10 : decode prog_14_method_4_code 10 = .ok (.ireturn, 1) := by decide +kernel
theorem d_Mo_holdsFor_0 : decode prog_14_method_39_code 0 = .ok (.aload_n 0, 1) := by decide +kernel
theorem d_Mo_holdsFor_1 : decode prog_14_method_39_code 1 = .ok (.getfield 41, 3) := by decide +kernel
theorem d_Mo_holdsFor_4 : decode prog_14_method_39_code 4 = .ok (.iload_n 1, 1) := by decide +kernel
theorem d_Mo_holdsFor_5 : decode prog_14_method_39_code 5 = .ok (.iaload, 1) := by decide +kernel
theorem d_Mo_holdsFor_6 : decode prog_14_method_39_code 6 = .ok (.istore_n 2, 1) := by decide +kernel
theorem d_Mo_holdsFor_7 : decode prog_14_method_39_code 7 = .ok (.aload_n 0, 1) := by decide +kernel
theorem d_Mo_holdsFor_8 : decode prog_14_method_39_code 8 = .ok (.iload_n 1, 1) := by decide +kernel
theorem d_Mo_holdsFor_9 : decode prog_14_method_39_code 9 = .ok (.invokevirtual 304, 3) := by decide +kernel
theorem d_Mo_holdsFor_12 : decode prog_14_method_39_code 12 = .ok (.istore_n 3, 1) := by decide +kernel
theorem d_Mo_holdsFor_13 : decode prog_14_method_39_code 13 = .ok (.aload_n 0, 1) := by decide +kernel
theorem d_Mo_holdsFor_14 : decode prog_14_method_39_code 14 = .ok (.getfield 25, 3) := by decide +kernel
theorem d_Mo_holdsFor_17 : decode prog_14_method_39_code 17 = .ok (.iload_n 2, 1) := by decide +kernel
theorem d_Mo_holdsFor_18 : decode prog_14_method_39_code 18 = .ok (.iaload, 1) := by decide +kernel
theorem d_Mo_holdsFor_19 : decode prog_14_method_39_code 19 = .ok (.tableswitch 103 1 6 #[37, 44, 48, 60, 44, 73], 37) := by decide +kernel
theorem d_Mo_holdsFor_56 : decode prog_14_method_39_code 56 = .ok (.aload_n 0, 1) := by decide +kernel
theorem d_Mo_holdsFor_57 : decode prog_14_method_39_code 57 = .ok (.iload_n 2, 1) := by decide +kernel
theorem d_Mo_holdsFor_58 : decode prog_14_method_39_code 58 = .ok (.iload_n 3, 1) := by decide +kernel
theorem d_Mo_holdsFor_59 : decode prog_14_method_39_code 59 = .ok (.invokevirtual 307, 3) := by decide +kernel
theorem d_Mo_holdsFor_62 : decode prog_14_method_39_code 62 = .ok (.ireturn, 1) := by decide +kernel
theorem d_Mo_holdsFor_63 : decode prog_14_method_39_code 63 = .ok (.iload_n 3, 1) := by decide +kernel
theorem d_Mo_holdsFor_64 : decode prog_14_method_39_code 64 = .ok (.iconst 2, 1) := by decide +kernel
theorem d_Mo_holdsFor_65 : decode prog_14_method_39_code 65 = .ok (.iadd, 1) := by decide +kernel
theorem d_Mo_holdsFor_66 : decode prog_14_method_39_code 66 = .ok (.ireturn, 1) := by decide +kernel
theorem d_Mo_holdsFor_67 : decode prog_14_method_39_code 67 = .ok (.iload_n 3, 1) := by decide +kernel
theorem d_Mo_holdsFor_68 : decode prog_14_method_39_code 68 = .ok (.aload_n 0, 1) := by decide +kernel
theorem d_Mo_holdsFor_69 : decode prog_14_method_39_code 69 = .ok (.getfield 32, 3) := by decide +kernel
theorem d_Mo_holdsFor_72 : decode prog_14_method_39_code 72 = .ok (.iload_n 2, 1) := by decide +kernel
theorem d_Mo_holdsFor_73 : decode prog_14_method_39_code 73 = .ok (.iaload, 1) := by decide +kernel
theorem d_Mo_holdsFor_74 : decode prog_14_method_39_code 74 = .ok (.bipush 8, 2) := by decide +kernel
theorem d_Mo_holdsFor_76 : decode prog_14_method_39_code 76 = .ok (.idiv, 1) := by decide +kernel
theorem d_Mo_holdsFor_77 : decode prog_14_method_39_code 77 = .ok (.iadd, 1) := by decide +kernel
theorem d_Mo_holdsFor_78 : decode prog_14_method_39_code 78 = .ok (.ireturn, 1) := by decide +kernel
theorem d_Mo_holdsFor_79 : decode prog_14_method_39_code 79 = .ok (.aload_n 0, 1) := by decide +kernel
theorem d_Mo_holdsFor_80 : decode prog_14_method_39_code 80 = .ok (.aload_n 0, 1) := by decide +kernel
theorem d_Mo_holdsFor_81 : decode prog_14_method_39_code 81 = .ok (.iload_n 2, 1) := by decide +kernel
theorem d_Mo_holdsFor_82 : decode prog_14_method_39_code 82 = .ok (.iload_n 3, 1) := by decide +kernel
theorem d_Mo_holdsFor_83 : decode prog_14_method_39_code 83 = .ok (.invokevirtual 307, 3) := by decide +kernel
theorem d_Mo_holdsFor_86 : decode prog_14_method_39_code 86 = .ok (.iconst 2, 1) := by decide +kernel
theorem d_Mo_holdsFor_87 : decode prog_14_method_39_code 87 = .ok (.idiv, 1) := by decide +kernel
theorem d_Mo_holdsFor_88 : decode prog_14_method_39_code 88 = .ok (.invokevirtual 295, 3) := by decide +kernel
theorem d_Mo_holdsFor_91 : decode prog_14_method_39_code 91 = .ok (.ireturn, 1) := by decide +kernel
theorem d_Mo_holdsFor_92 : decode prog_14_method_39_code 92 = .ok (.iload_n 3, 1) := by decide +kernel
theorem d_Mo_holdsFor_93 : decode prog_14_method_39_code 93 = .ok (.aload_n 0, 1) := by decide +kernel
theorem d_Mo_holdsFor_94 : decode prog_14_method_39_code 94 = .ok (.getfield 32, 3) := by decide +kernel
theorem d_Mo_holdsFor_97 : decode prog_14_method_39_code 97 = .ok (.iload_n 2, 1) := by decide +kernel
theorem d_Mo_holdsFor_98 : decode prog_14_method_39_code 98 = .ok (.iaload, 1) := by decide +kernel
theorem d_Mo_holdsFor_99 : decode prog_14_method_39_code 99 = .ok (.bipush 8, 2) := by decide +kernel
theorem d_Mo_holdsFor_101 : decode prog_14_method_39_code 101 = .ok (.idiv, 1) := by decide +kernel
theorem d_Mo_holdsFor_102 : decode prog_14_method_39_code 102 = .ok (.iadd, 1) := by decide +kernel
theorem d_Mo_holdsFor_103 : decode prog_14_method_39_code 103 = .ok (.aload_n 0, 1) := by decide +kernel
theorem d_Mo_holdsFor_104 : decode prog_14_method_39_code 104 = .ok (.getfield 38, 3) := by decide +kernel
theorem d_Mo_holdsFor_107 : decode prog_14_method_39_code 107 = .ok (.iconst 4, 1) := by decide +kernel
theorem d_Mo_holdsFor_108 : decode prog_14_method_39_code 108 = .ok (.iload_n 2, 1) := by decide +kernel
theorem d_Mo_holdsFor_109 : decode prog_14_method_39_code 109 = .ok (.imul, 1) := by decide +kernel
theorem d_Mo_holdsFor_110 : decode prog_14_method_39_code 110 = .ok (.aload_n 0, 1) := by decide +kernel
theorem d_Mo_holdsFor_111 : decode prog_14_method_39_code 111 = .ok (.getfield 32, 3) := by decide +kernel
theorem d_Mo_holdsFor_114 : decode prog_14_method_39_code 114 = .ok (.iload_n 2, 1) := by decide +kernel
theorem d_Mo_holdsFor_115 : decode prog_14_method_39_code 115 = .ok (.iaload, 1) := by decide +kernel
theorem d_Mo_holdsFor_116 : decode prog_14_method_39_code 116 = .ok (.iconst 4, 1) := by decide +kernel
theorem d_Mo_holdsFor_117 : decode prog_14_method_39_code 117 = .ok (.irem, 1) := by decide +kernel
theorem d_Mo_holdsFor_118 : decode prog_14_method_39_code 118 = .ok (.iadd, 1) := by decide +kernel
theorem d_Mo_holdsFor_119 : decode prog_14_method_39_code 119 = .ok (.iaload, 1) := by decide +kernel
theorem d_Mo_holdsFor_120 : decode prog_14_method_39_code 120 = .ok (.iadd, 1) := by decide +kernel
theorem d_Mo_holdsFor_121 : decode prog_14_method_39_code 121 = .ok (.ireturn, 1) := by decide +kernel
theorem d_Mo_holdsFor_122 : decode prog_14_method_39_code 122 = .ok (.iload_n 3, 1) := by decide +kernel
theorem d_Mo_holdsFor_123 : decode prog_14_method_39_code 123 = .ok (.ireturn, 1) := by decide +kernel
theorem d_Mo_strongly_0 : decode prog_14_method_38_code 0 = .ok (.aload_n 0, 1) := by decide +kernel
theorem d_Mo_strongly_1 : decode prog_14_method_38_code 1 = .ok (.iload_n 2, 1) := by decide +kernel
theorem d_Mo_strongly_2 : decode prog_14_method_38_code 2 = .ok (.aload_n 0, 1) := by decide +kernel
theorem d_Mo_strongly_3 : decode prog_14_method_38_code 3 = .ok (.getfield 29, 3) := by decide +kernel
theorem d_Mo_strongly_6 : decode prog_14_method_38_code 6 = .ok (.iload_n 1, 1) := by decide +kernel
theorem d_Mo_strongly_7 : decode prog_14_method_38_code 7 = .ok (.iaload, 1) := by decide +kernel
theorem d_Mo_strongly_8 : decode prog_14_method_38_code 8 = .ok (.iconst 2, 1) := by decide +kernel
theorem d_Mo_strongly_9 : decode prog_14_method_38_code 9 = .ok (.idiv, 1) := by decide +kernel
theorem d_Mo_strongly_10 : decode prog_14_method_38_code 10 = .ok (.isub, 1) := by decide +kernel
theorem d_Mo_strongly_11 : decode prog_14_method_38_code 11 = .ok (.invokevirtual 295, 3) := by decide +kernel
theorem d_Mo_strongly_14 : decode prog_14_method_38_code 14 = .ok (.ireturn, 1) := by decide +kernel
theorem d_Mo_told_0 : decode prog_14_method_41_code 0 = .ok (.aload_n 0, 1) := by decide +kernel
theorem d_Mo_told_1 : decode prog_14_method_41_code 1 = .ok (.iload_n 1, 1) := by decide +kernel
theorem d_Mo_told_2 : decode prog_14_method_41_code 2 = .ok (.bipush 10, 2) := by decide +kernel
theorem d_Mo_told_4 : decode prog_14_method_41_code 4 = .ok (.bipush 9, 2) := by decide +kernel
theorem d_Mo_told_6 : decode prog_14_method_41_code 6 = .ok (.aload_n 0, 1) := by decide +kernel
theorem d_Mo_told_7 : decode prog_14_method_41_code 7 = .ok (.getfield 7, 3) := by decide +kernel
theorem d_Mo_told_10 : decode prog_14_method_41_code 10 = .ok (.iadd, 1) := by decide +kernel
theorem d_Mo_told_11 : decode prog_14_method_41_code 11 = .ok (.invokevirtual 224, 3) := by decide +kernel
theorem d_Mo_told_14 : decode prog_14_method_41_code 14 = .ok (.ifCond .eq 13, 3) := by decide +kernel
theorem d_Mo_told_17 : decode prog_14_method_41_code 17 = .ok (.aload_n 0, 1) := by decide +kernel
theorem d_Mo_told_18 : decode prog_14_method_41_code 18 = .ok (.getfield 41, 3) := by decide +kernel
theorem d_Mo_told_21 : decode prog_14_method_41_code 21 = .ok (.iload_n 1, 1) := by decide +kernel
theorem d_Mo_told_22 : decode prog_14_method_41_code 22 = .ok (.bipush 10, 2) := by decide +kernel
theorem d_Mo_told_24 : decode prog_14_method_41_code 24 = .ok (.isub, 1) := by decide +kernel
theorem d_Mo_told_25 : decode prog_14_method_41_code 25 = .ok (.iaload, 1) := by decide +kernel
theorem d_Mo_told_26 : decode prog_14_method_41_code 26 = .ok (.ireturn, 1) := by decide +kernel
theorem d_Mo_told_27 : decode prog_14_method_41_code 27 = .ok (.iload_n 1, 1) := by decide +kernel
theorem d_Mo_told_28 : decode prog_14_method_41_code 28 = .ok (.tableswitch 70 0 5 #[40, 45, 50, 55, 60, 65], 40) := by decide +kernel
theorem d_Mo_told_68 : decode prog_14_method_41_code 68 = .ok (.aload_n 0, 1) := by decide +kernel
theorem d_Mo_told_69 : decode prog_14_method_41_code 69 = .ok (.getfield 16, 3) := by decide +kernel
theorem d_Mo_told_72 : decode prog_14_method_41_code 72 = .ok (.ireturn, 1) := by decide +kernel
theorem d_Mo_told_73 : decode prog_14_method_41_code 73 = .ok (.aload_n 0, 1) := by decide +kernel
theorem d_Mo_told_74 : decode prog_14_method_41_code 74 = .ok (.getfield 19, 3) := by decide +kernel
theorem d_Mo_told_77 : decode prog_14_method_41_code 77 = .ok (.ireturn, 1) := by decide +kernel
theorem d_Mo_told_78 : decode prog_14_method_41_code 78 = .ok (.aload_n 0, 1) := by decide +kernel
theorem d_Mo_told_79 : decode prog_14_method_41_code 79 = .ok (.getfield 22, 3) := by decide +kernel
theorem d_Mo_told_82 : decode prog_14_method_41_code 82 = .ok (.ireturn, 1) := by decide +kernel
theorem d_Mo_told_83 : decode prog_14_method_41_code 83 = .ok (.aload_n 0, 1) := by decide +kernel
theorem d_Mo_told_84 : decode prog_14_method_41_code 84 = .ok (.invokevirtual 313, 3) := by decide +kernel
theorem d_Mo_told_87 : decode prog_14_method_41_code 87 = .ok (.ireturn, 1) := by decide +kernel
theorem d_Mo_told_88 : decode prog_14_method_41_code 88 = .ok (.aload_n 0, 1) := by decide +kernel
theorem d_Mo_told_89 : decode prog_14_method_41_code 89 = .ok (.invokevirtual 316, 3) := by decide +kernel
theorem d_Mo_told_92 : decode prog_14_method_41_code 92 = .ok (.ireturn, 1) := by decide +kernel
theorem d_Mo_told_93 : decode prog_14_method_41_code 93 = .ok (.aload_n 0, 1) := by decide +kernel
theorem d_Mo_told_94 : decode prog_14_method_41_code 94 = .ok (.invokevirtual 319, 3) := by decide +kernel
theorem d_Mo_told_97 : decode prog_14_method_41_code 97 = .ok (.ireturn, 1) := by decide +kernel
theorem d_Mo_told_98 : decode prog_14_method_41_code 98 = .ok (.iconst (-1), 1) := by decide +kernel
theorem d_Mo_told_99 : decode prog_14_method_41_code 99 = .ok (.ireturn, 1) := by decide +kernel
theorem d_Mo_rise_0 : decode prog_14_method_32_code 0 = .ok (.aload_n 0, 1) := by decide +kernel
theorem d_Mo_rise_1 : decode prog_14_method_32_code 1 = .ok (.iconst 2, 1) := by decide +kernel
theorem d_Mo_rise_2 : decode prog_14_method_32_code 2 = .ok (.iconst 5, 1) := by decide +kernel
theorem d_Mo_rise_3 : decode prog_14_method_32_code 3 = .ok (.invokevirtual 291, 3) := by decide +kernel
theorem d_Mo_rise_6 : decode prog_14_method_32_code 6 = .ok (.ireturn, 1) := by decide +kernel
theorem d_Mo_lastOf_0 : decode prog_14_method_31_code 0 = .ok (.iload_n 2, 1) := by decide +kernel
theorem d_Mo_lastOf_1 : decode prog_14_method_31_code 1 = .ok (.istore_n 3, 1) := by decide +kernel
theorem d_Mo_lastOf_2 : decode prog_14_method_31_code 2 = .ok (.aload_n 0, 1) := by decide +kernel
theorem d_Mo_lastOf_3 : decode prog_14_method_31_code 3 = .ok (.invokevirtual 285, 3) := by decide +kernel
theorem d_Mo_lastOf_6 : decode prog_14_method_31_code 6 = .ok (.istore 4, 2) := by decide +kernel
theorem d_Mo_lastOf_8 : decode prog_14_method_31_code 8 = .ok (.iload 4, 2) := by decide +kernel
theorem d_Mo_lastOf_10 : decode prog_14_method_31_code 10 = .ok (.aload_n 0, 1) := by decide +kernel
theorem d_Mo_lastOf_11 : decode prog_14_method_31_code 11 = .ok (.invokevirtual 288, 3) := by decide +kernel
theorem d_Mo_lastOf_14 : decode prog_14_method_31_code 14 = .ok (.if_icmp .ge 32, 3) := by decide +kernel
theorem d_Mo_lastOf_17 : decode prog_14_method_31_code 17 = .ok (.aload_n 0, 1) := by decide +kernel
theorem d_Mo_lastOf_18 : decode prog_14_method_31_code 18 = .ok (.getfield 65, 3) := by decide +kernel
theorem d_Mo_lastOf_21 : decode prog_14_method_31_code 21 = .ok (.iload 4, 2) := by decide +kernel
theorem d_Mo_lastOf_23 : decode prog_14_method_31_code 23 = .ok (.iaload, 1) := by decide +kernel
theorem d_Mo_lastOf_24 : decode prog_14_method_31_code 24 = .ok (.iload_n 1, 1) := by decide +kernel
theorem d_Mo_lastOf_25 : decode prog_14_method_31_code 25 = .ok (.if_icmp .ne 13, 3) := by decide +kernel
theorem d_Mo_lastOf_28 : decode prog_14_method_31_code 28 = .ok (.aload_n 0, 1) := by decide +kernel
theorem d_Mo_lastOf_29 : decode prog_14_method_31_code 29 = .ok (.getfield 68, 3) := by decide +kernel
theorem d_Mo_lastOf_32 : decode prog_14_method_31_code 32 = .ok (.iload 4, 2) := by decide +kernel
theorem d_Mo_lastOf_34 : decode prog_14_method_31_code 34 = .ok (.iaload, 1) := by decide +kernel
theorem d_Mo_lastOf_35 : decode prog_14_method_31_code 35 = .ok (.goto 4, 3) := by decide +kernel
theorem d_Mo_lastOf_38 : decode prog_14_method_31_code 38 = .ok (.iload_n 3, 1) := by decide +kernel
theorem d_Mo_lastOf_39 : decode prog_14_method_31_code 39 = .ok (.istore_n 3, 1) := by decide +kernel
theorem d_Mo_lastOf_40 : decode prog_14_method_31_code 40 = .ok (.iinc 4 1, 3) := by decide +kernel
theorem d_Mo_lastOf_43 : decode prog_14_method_31_code 43 = .ok (.goto (-35), 3) := by decide +kernel
theorem d_Mo_lastOf_46 : decode prog_14_method_31_code 46 = .ok (.iload_n 3, 1) := by decide +kernel
theorem d_Mo_lastOf_47 : decode prog_14_method_31_code 47 = .ok (.ireturn, 1) := by decide +kernel
theorem d_Mo_rest_0 : decode prog_14_method_33_code 0 = .ok (.aload_n 0, 1) := by decide +kernel
theorem d_Mo_rest_1 : decode prog_14_method_33_code 1 = .ok (.iconst 3, 1) := by decide +kernel
theorem d_Mo_rest_2 : decode prog_14_method_33_code 2 = .ok (.iconst 3, 1) := by decide +kernel
theorem d_Mo_rest_3 : decode prog_14_method_33_code 3 = .ok (.invokevirtual 291, 3) := by decide +kernel
theorem d_Mo_rest_6 : decode prog_14_method_33_code 6 = .ok (.ireturn, 1) := by decide +kernel
theorem d_Mo_pull_0 : decode prog_14_method_34_code 0 = .ok (.aload_n 0, 1) := by decide +kernel
theorem d_Mo_pull_1 : decode prog_14_method_34_code 1 = .ok (.aload_n 0, 1) := by decide +kernel
theorem d_Mo_pull_2 : decode prog_14_method_34_code 2 = .ok (.iconst 4, 1) := by decide +kernel
theorem d_Mo_pull_3 : decode prog_14_method_34_code 3 = .ok (.bipush 40, 2) := by decide +kernel
theorem d_Mo_pull_5 : decode prog_14_method_34_code 5 = .ok (.invokevirtual 291, 3) := by decide +kernel
theorem d_Mo_pull_8 : decode prog_14_method_34_code 8 = .ok (.invokevirtual 295, 3) := by decide +kernel
theorem d_Mo_pull_11 : decode prog_14_method_34_code 11 = .ok (.ireturn, 1) := by decide +kernel
theorem d_Mo_up_0 : decode prog_14_method_44_code 0 = .ok (.aload_n 0, 1) := by decide +kernel
theorem d_Mo_up_1 : decode prog_14_method_44_code 1 = .ok (.iload_n 1, 1) := by decide +kernel
theorem d_Mo_up_2 : decode prog_14_method_44_code 2 = .ok (.invokevirtual 325, 3) := by decide +kernel
theorem d_Mo_up_5 : decode prog_14_method_44_code 5 = .ok (.ifCond .ne 6, 3) := by decide +kernel
theorem d_Mo_up_8 : decode prog_14_method_44_code 8 = .ok (.bipush (-2), 2) := by decide +kernel
theorem d_Mo_up_10 : decode prog_14_method_44_code 10 = .ok (.ireturn, 1) := by decide +kernel
theorem d_Mo_up_11 : decode prog_14_method_44_code 11 = .ok (.aload_n 0, 1) := by decide +kernel
theorem d_Mo_up_12 : decode prog_14_method_44_code 12 = .ok (.getfield 16, 3) := by decide +kernel
theorem d_Mo_up_15 : decode prog_14_method_44_code 15 = .ok (.iload_n 1, 1) := by decide +kernel
theorem d_Mo_up_16 : decode prog_14_method_44_code 16 = .ok (.iadd, 1) := by decide +kernel
theorem d_Mo_up_17 : decode prog_14_method_44_code 17 = .ok (.ldc_w 328, 3) := by decide +kernel
theorem d_Mo_up_20 : decode prog_14_method_44_code 20 = .ok (.if_icmp .gt 23, 3) := by decide +kernel
theorem d_Mo_up_23 : decode prog_14_method_44_code 23 = .ok (.aload_n 0, 1) := by decide +kernel
theorem d_Mo_up_24 : decode prog_14_method_44_code 24 = .ok (.getfield 19, 3) := by decide +kernel
theorem d_Mo_up_27 : decode prog_14_method_44_code 27 = .ok (.sipush 9999, 3) := by decide +kernel
theorem d_Mo_up_30 : decode prog_14_method_44_code 30 = .ok (.if_icmp .eq 13, 3) := by decide +kernel
theorem d_Mo_up_33 : decode prog_14_method_44_code 33 = .ok (.aload_n 0, 1) := by decide +kernel
theorem d_Mo_up_34 : decode prog_14_method_44_code 34 = .ok (.getfield 22, 3) := by decide +kernel
theorem d_Mo_up_37 : decode prog_14_method_44_code 37 = .ok (.sipush 9999, 3) := by decide +kernel
theorem d_Mo_up_40 : decode prog_14_method_44_code 40 = .ok (.if_icmp .ne 6, 3) := by decide +kernel
theorem d_Mo_up_43 : decode prog_14_method_44_code 43 = .ok (.bipush (-3), 2) := by decide +kernel
theorem d_Mo_up_45 : decode prog_14_method_44_code 45 = .ok (.ireturn, 1) := by decide +kernel
theorem d_Mo_up_46 : decode prog_14_method_44_code 46 = .ok (.aload_n 0, 1) := by decide +kernel
theorem d_Mo_up_47 : decode prog_14_method_44_code 47 = .ok (.getfield 16, 3) := by decide +kernel
theorem d_Mo_up_50 : decode prog_14_method_44_code 50 = .ok (.istore_n 2, 1) := by decide +kernel
theorem d_Mo_up_51 : decode prog_14_method_44_code 51 = .ok (.aload_n 0, 1) := by decide +kernel
theorem d_Mo_up_52 : decode prog_14_method_44_code 52 = .ok (.invokevirtual 329, 3) := by decide +kernel
theorem d_Mo_up_55 : decode prog_14_method_44_code 55 = .ok (.istore_n 3, 1) := by decide +kernel
theorem d_Mo_up_56 : decode prog_14_method_44_code 56 = .ok (.aload_n 0, 1) := by decide +kernel
theorem d_Mo_up_57 : decode prog_14_method_44_code 57 = .ok (.dup, 1) := by decide +kernel
theorem d_Mo_up_58 : decode prog_14_method_44_code 58 = .ok (.getfield 16, 3) := by decide +kernel
theorem d_Mo_up_61 : decode prog_14_method_44_code 61 = .ok (.iload_n 1, 1) := by decide +kernel
theorem d_Mo_up_62 : decode prog_14_method_44_code 62 = .ok (.iadd, 1) := by decide +kernel
theorem d_Mo_up_63 : decode prog_14_method_44_code 63 = .ok (.putfield 16, 3) := by decide +kernel
theorem d_Mo_up_66 : decode prog_14_method_44_code 66 = .ok (.iload_n 3, 1) := by decide +kernel
theorem d_Mo_up_67 : decode prog_14_method_44_code 67 = .ok (.ifCond .eq 16, 3) := by decide +kernel
theorem d_Mo_up_70 : decode prog_14_method_44_code 70 = .ok (.aload_n 0, 1) := by decide +kernel
theorem d_Mo_up_71 : decode prog_14_method_44_code 71 = .ok (.dup, 1) := by decide +kernel
theorem d_Mo_up_72 : decode prog_14_method_44_code 72 = .ok (.getfield 19, 3) := by decide +kernel
theorem d_Mo_up_75 : decode prog_14_method_44_code 75 = .ok (.iconst 1, 1) := by decide +kernel
theorem d_Mo_up_76 : decode prog_14_method_44_code 76 = .ok (.iadd, 1) := by decide +kernel
theorem d_Mo_up_77 : decode prog_14_method_44_code 77 = .ok (.putfield 19, 3) := by decide +kernel
theorem d_Mo_up_80 : decode prog_14_method_44_code 80 = .ok (.goto 13, 3) := by decide +kernel
theorem d_Mo_up_83 : decode prog_14_method_44_code 83 = .ok (.aload_n 0, 1) := by decide +kernel
theorem d_Mo_up_84 : decode prog_14_method_44_code 84 = .ok (.dup, 1) := by decide +kernel
theorem d_Mo_up_85 : decode prog_14_method_44_code 85 = .ok (.getfield 22, 3) := by decide +kernel
theorem d_Mo_up_88 : decode prog_14_method_44_code 88 = .ok (.iconst 1, 1) := by decide +kernel
theorem d_Mo_up_89 : decode prog_14_method_44_code 89 = .ok (.iadd, 1) := by decide +kernel
theorem d_Mo_up_90 : decode prog_14_method_44_code 90 = .ok (.putfield 22, 3) := by decide +kernel
theorem d_Mo_up_93 : decode prog_14_method_44_code 93 = .ok (.iload_n 3, 1) := by decide +kernel
theorem d_Mo_up_94 : decode prog_14_method_44_code 94 = .ok (.ifCond .eq 12, 3) := by decide +kernel
theorem d_Mo_up_97 : decode prog_14_method_44_code 97 = .ok (.aload_n 0, 1) := by decide +kernel
theorem d_Mo_up_98 : decode prog_14_method_44_code 98 = .ok (.getfield 105, 3) := by decide +kernel
theorem d_Mo_up_101 : decode prog_14_method_44_code 101 = .ok (.iload_n 2, 1) := by decide +kernel
theorem d_Mo_up_102 : decode prog_14_method_44_code 102 = .ok (.isub, 1) := by decide +kernel
theorem d_Mo_up_103 : decode prog_14_method_44_code 103 = .ok (.goto 10, 3) := by decide +kernel
theorem d_Mo_up_106 : decode prog_14_method_44_code 106 = .ok (.bipush (-10), 2) := by decide +kernel
theorem d_Mo_up_108 : decode prog_14_method_44_code 108 = .ok (.aload_n 0, 1) := by decide +kernel
theorem d_Mo_up_109 : decode prog_14_method_44_code 109 = .ok (.getfield 102, 3) := by decide +kernel
theorem d_Mo_up_112 : decode prog_14_method_44_code 112 = .ok (.isub, 1) := by decide +kernel
theorem d_Mo_up_113 : decode prog_14_method_44_code 113 = .ok (.ireturn, 1) := by decide +kernel
theorem d_Mo_isBeat_0 : decode prog_14_method_6_code 0 = .ok (.aload_n 0, 1) := by decide +kernel
theorem d_Mo_isBeat_1 : decode prog_14_method_6_code 1 = .ok (.iload_n 1, 1) := by decide +kernel
theorem d_Mo_isBeat_2 : decode prog_14_method_6_code 2 = .ok (.iconst 1, 1) := by decide +kernel
theorem d_Mo_isBeat_3 : decode prog_14_method_6_code 3 = .ok (.bipush 99, 2) := by decide +kernel
theorem d_Mo_isBeat_5 : decode prog_14_method_6_code 5 = .ok (.invokevirtual 224, 3) := by decide +kernel
theorem d_Mo_isBeat_8 : decode prog_14_method_6_code 8 = .ok (.ireturn, 1) := by decide +kernel
theorem d_Mo_goTube_0 : decode prog_14_method_43_code 0 = .ok (.aload_n 0, 1) := by decide +kernel
theorem d_Mo_goTube_1 : decode prog_14_method_43_code 1 = .ok (.getfield 16, 3) := by decide +kernel
theorem d_Mo_goTube_4 : decode prog_14_method_43_code 4 = .ok (.aload_n 0, 1) := by decide +kernel
theorem d_Mo_goTube_5 : decode prog_14_method_43_code 5 = .ok (.invokevirtual 313, 3) := by decide +kernel
theorem d_Mo_goTube_8 : decode prog_14_method_43_code 8 = .ok (.iadd, 1) := by decide +kernel
theorem d_Mo_goTube_9 : decode prog_14_method_43_code 9 = .ok (.istore_n 1, 1) := by decide +kernel
theorem d_Mo_goTube_10 : decode prog_14_method_43_code 10 = .ok (.aload_n 0, 1) := by decide +kernel
theorem d_Mo_goTube_11 : decode prog_14_method_43_code 11 = .ok (.iconst (-1), 1) := by decide +kernel
theorem d_Mo_goTube_12 : decode prog_14_method_43_code 12 = .ok (.putfield 102, 3) := by decide +kernel
theorem d_Mo_goTube_15 : decode prog_14_method_43_code 15 = .ok (.iconst 0, 1) := by decide +kernel
theorem d_Mo_goTube_16 : decode prog_14_method_43_code 16 = .ok (.istore_n 2, 1) := by decide +kernel
theorem d_Mo_goTube_17 : decode prog_14_method_43_code 17 = .ok (.iload_n 2, 1) := by decide +kernel
theorem d_Mo_goTube_18 : decode prog_14_method_43_code 18 = .ok (.aload_n 0, 1) := by decide +kernel
theorem d_Mo_goTube_19 : decode prog_14_method_43_code 19 = .ok (.getfield 13, 3) := by decide +kernel
theorem d_Mo_goTube_22 : decode prog_14_method_43_code 22 = .ok (.if_icmp .ge 112, 3) := by decide +kernel
theorem d_Mo_goTube_25 : decode prog_14_method_43_code 25 = .ok (.aload_n 0, 1) := by decide +kernel
theorem d_Mo_goTube_26 : decode prog_14_method_43_code 26 = .ok (.getfield 41, 3) := by decide +kernel
theorem d_Mo_goTube_29 : decode prog_14_method_43_code 29 = .ok (.iload_n 2, 1) := by decide +kernel
theorem d_Mo_goTube_30 : decode prog_14_method_43_code 30 = .ok (.iaload, 1) := by decide +kernel
theorem d_Mo_goTube_31 : decode prog_14_method_43_code 31 = .ok (.istore_n 3, 1) := by decide +kernel
theorem d_Mo_goTube_32 : decode prog_14_method_43_code 32 = .ok (.iload_n 1, 1) := by decide +kernel
theorem d_Mo_goTube_33 : decode prog_14_method_43_code 33 = .ok (.aload_n 0, 1) := by decide +kernel
theorem d_Mo_goTube_34 : decode prog_14_method_43_code 34 = .ok (.getfield 35, 3) := by decide +kernel
theorem d_Mo_goTube_37 : decode prog_14_method_43_code 37 = .ok (.iload_n 3, 1) := by decide +kernel
theorem d_Mo_goTube_38 : decode prog_14_method_43_code 38 = .ok (.iaload, 1) := by decide +kernel
theorem d_Mo_goTube_39 : decode prog_14_method_43_code 39 = .ok (.if_icmp .ge 10, 3) := by decide +kernel
theorem d_Mo_goTube_42 : decode prog_14_method_43_code 42 = .ok (.aload_n 0, 1) := by decide +kernel
theorem d_Mo_goTube_43 : decode prog_14_method_43_code 43 = .ok (.iload_n 3, 1) := by decide +kernel
theorem d_Mo_goTube_44 : decode prog_14_method_43_code 44 = .ok (.putfield 102, 3) := by decide +kernel
theorem d_Mo_goTube_47 : decode prog_14_method_43_code 47 = .ok (.iconst 0, 1) := by decide +kernel
theorem d_Mo_goTube_48 : decode prog_14_method_43_code 48 = .ok (.ireturn, 1) := by decide +kernel
theorem d_Mo_goTube_49 : decode prog_14_method_43_code 49 = .ok (.aload_n 0, 1) := by decide +kernel
theorem d_Mo_goTube_50 : decode prog_14_method_43_code 50 = .ok (.getfield 25, 3) := by decide +kernel
theorem d_Mo_goTube_53 : decode prog_14_method_43_code 53 = .ok (.iload_n 3, 1) := by decide +kernel
theorem d_Mo_goTube_54 : decode prog_14_method_43_code 54 = .ok (.iaload, 1) := by decide +kernel
theorem d_Mo_goTube_55 : decode prog_14_method_43_code 55 = .ok (.iconst 5, 1) := by decide +kernel
theorem d_Mo_goTube_56 : decode prog_14_method_43_code 56 = .ok (.if_icmp .ne 35, 3) := by decide +kernel
theorem d_Mo_goTube_59 : decode prog_14_method_43_code 59 = .ok (.aload_n 0, 1) := by decide +kernel
theorem d_Mo_goTube_60 : decode prog_14_method_43_code 60 = .ok (.getfield 32, 3) := by decide +kernel
theorem d_Mo_goTube_63 : decode prog_14_method_43_code 63 = .ok (.iload_n 3, 1) := by decide +kernel
theorem d_Mo_goTube_64 : decode prog_14_method_43_code 64 = .ok (.iaload, 1) := by decide +kernel
theorem d_Mo_goTube_65 : decode prog_14_method_43_code 65 = .ok (.iconst 1, 1) := by decide +kernel
theorem d_Mo_goTube_66 : decode prog_14_method_43_code 66 = .ok (.iadd, 1) := by decide +kernel
theorem d_Mo_goTube_67 : decode prog_14_method_43_code 67 = .ok (.aload_n 0, 1) := by decide +kernel
theorem d_Mo_goTube_68 : decode prog_14_method_43_code 68 = .ok (.getfield 29, 3) := by decide +kernel
theorem d_Mo_goTube_71 : decode prog_14_method_43_code 71 = .ok (.iload_n 3, 1) := by decide +kernel
theorem d_Mo_goTube_72 : decode prog_14_method_43_code 72 = .ok (.iaload, 1) := by decide +kernel
theorem d_Mo_goTube_73 : decode prog_14_method_43_code 73 = .ok (.iconst 2, 1) := by decide +kernel
theorem d_Mo_goTube_74 : decode prog_14_method_43_code 74 = .ok (.iadd, 1) := by decide +kernel
theorem d_Mo_goTube_75 : decode prog_14_method_43_code 75 = .ok (.irem, 1) := by decide +kernel
theorem d_Mo_goTube_76 : decode prog_14_method_43_code 76 = .ok (.ifCond .ne 15, 3) := by decide +kernel
theorem d_Mo_goTube_79 : decode prog_14_method_43_code 79 = .ok (.aload_n 0, 1) := by decide +kernel
theorem d_Mo_goTube_80 : decode prog_14_method_43_code 80 = .ok (.iload_n 3, 1) := by decide +kernel
theorem d_Mo_goTube_81 : decode prog_14_method_43_code 81 = .ok (.invokevirtual 322, 3) := by decide +kernel
theorem d_Mo_goTube_84 : decode prog_14_method_43_code 84 = .ok (.aload_n 0, 1) := by decide +kernel
theorem d_Mo_goTube_85 : decode prog_14_method_43_code 85 = .ok (.iload_n 3, 1) := by decide +kernel
theorem d_Mo_goTube_86 : decode prog_14_method_43_code 86 = .ok (.putfield 102, 3) := by decide +kernel
theorem d_Mo_goTube_89 : decode prog_14_method_43_code 89 = .ok (.iconst 0, 1) := by decide +kernel
theorem d_Mo_goTube_90 : decode prog_14_method_43_code 90 = .ok (.ireturn, 1) := by decide +kernel
theorem d_Mo_goTube_91 : decode prog_14_method_43_code 91 = .ok (.aload_n 0, 1) := by decide +kernel
theorem d_Mo_goTube_92 : decode prog_14_method_43_code 92 = .ok (.iload_n 2, 1) := by decide +kernel
theorem d_Mo_goTube_93 : decode prog_14_method_43_code 93 = .ok (.invokevirtual 310, 3) := by decide +kernel
theorem d_Mo_goTube_96 : decode prog_14_method_43_code 96 = .ok (.istore 4, 2) := by decide +kernel
theorem d_Mo_goTube_98 : decode prog_14_method_43_code 98 = .ok (.aload_n 0, 1) := by decide +kernel
theorem d_Mo_goTube_99 : decode prog_14_method_43_code 99 = .ok (.iload_n 3, 1) := by decide +kernel
theorem d_Mo_goTube_100 : decode prog_14_method_43_code 100 = .ok (.invokevirtual 322, 3) := by decide +kernel
theorem d_Mo_goTube_103 : decode prog_14_method_43_code 103 = .ok (.aload_n 0, 1) := by decide +kernel
theorem d_Mo_goTube_104 : decode prog_14_method_43_code 104 = .ok (.getfield 35, 3) := by decide +kernel
theorem d_Mo_goTube_107 : decode prog_14_method_43_code 107 = .ok (.iload_n 3, 1) := by decide +kernel
theorem d_Mo_goTube_108 : decode prog_14_method_43_code 108 = .ok (.iload_n 1, 1) := by decide +kernel
theorem d_Mo_goTube_109 : decode prog_14_method_43_code 109 = .ok (.iload 4, 2) := by decide +kernel
theorem d_Mo_goTube_111 : decode prog_14_method_43_code 111 = .ok (.iadd, 1) := by decide +kernel
theorem d_Mo_goTube_112 : decode prog_14_method_43_code 112 = .ok (.aload_n 0, 1) := by decide +kernel
theorem d_Mo_goTube_113 : decode prog_14_method_43_code 113 = .ok (.invokevirtual 316, 3) := by decide +kernel
theorem d_Mo_goTube_116 : decode prog_14_method_43_code 116 = .ok (.iadd, 1) := by decide +kernel
theorem d_Mo_goTube_117 : decode prog_14_method_43_code 117 = .ok (.iastore, 1) := by decide +kernel
theorem d_Mo_goTube_118 : decode prog_14_method_43_code 118 = .ok (.iload_n 1, 1) := by decide +kernel
theorem d_Mo_goTube_119 : decode prog_14_method_43_code 119 = .ok (.iload 4, 2) := by decide +kernel
theorem d_Mo_goTube_121 : decode prog_14_method_43_code 121 = .ok (.aload_n 0, 1) := by decide +kernel
theorem d_Mo_goTube_122 : decode prog_14_method_43_code 122 = .ok (.invokevirtual 313, 3) := by decide +kernel
theorem d_Mo_goTube_125 : decode prog_14_method_43_code 125 = .ok (.iadd, 1) := by decide +kernel
theorem d_Mo_goTube_126 : decode prog_14_method_43_code 126 = .ok (.iadd, 1) := by decide +kernel
theorem d_Mo_goTube_127 : decode prog_14_method_43_code 127 = .ok (.istore_n 1, 1) := by decide +kernel
theorem d_Mo_goTube_128 : decode prog_14_method_43_code 128 = .ok (.iinc 2 1, 3) := by decide +kernel
theorem d_Mo_goTube_131 : decode prog_14_method_43_code 131 = .ok (.goto (-114), 3) := by decide +kernel
theorem d_Mo_goTube_134 : decode prog_14_method_43_code 134 = .ok (.aload_n 0, 1) := by decide +kernel
theorem d_Mo_goTube_135 : decode prog_14_method_43_code 135 = .ok (.iload_n 1, 1) := by decide +kernel
theorem d_Mo_goTube_136 : decode prog_14_method_43_code 136 = .ok (.putfield 105, 3) := by decide +kernel
theorem d_Mo_goTube_139 : decode prog_14_method_43_code 139 = .ok (.iconst 1, 1) := by decide +kernel
theorem d_Mo_goTube_140 : decode prog_14_method_43_code 140 = .ok (.ireturn, 1) := by decide +kernel
theorem d_Mo_holdsOnce_0 : decode prog_14_method_42_code 0 = .ok (.aload_n 0, 1) := by decide +kernel
theorem d_Mo_holdsOnce_1 : decode prog_14_method_42_code 1 = .ok (.getfield 32, 3) := by decide +kernel
theorem d_Mo_holdsOnce_4 : decode prog_14_method_42_code 4 = .ok (.iload_n 1, 1) := by decide +kernel
theorem d_Mo_holdsOnce_5 : decode prog_14_method_42_code 5 = .ok (.aload_n 0, 1) := by decide +kernel
theorem d_Mo_holdsOnce_6 : decode prog_14_method_42_code 6 = .ok (.getfield 32, 3) := by decide +kernel
theorem d_Mo_holdsOnce_9 : decode prog_14_method_42_code 9 = .ok (.iload_n 1, 1) := by decide +kernel
theorem d_Mo_holdsOnce_10 : decode prog_14_method_42_code 10 = .ok (.iaload, 1) := by decide +kernel
theorem d_Mo_holdsOnce_11 : decode prog_14_method_42_code 11 = .ok (.aload_n 0, 1) := by decide +kernel
theorem d_Mo_holdsOnce_12 : decode prog_14_method_42_code 12 = .ok (.getfield 108, 3) := by decide +kernel
theorem d_Mo_holdsOnce_15 : decode prog_14_method_42_code 15 = .ok (.if_icmp .ge 14, 3) := by decide +kernel
theorem d_Mo_holdsOnce_18 : decode prog_14_method_42_code 18 = .ok (.aload_n 0, 1) := by decide +kernel
theorem d_Mo_holdsOnce_19 : decode prog_14_method_42_code 19 = .ok (.getfield 32, 3) := by decide +kernel
theorem d_Mo_holdsOnce_22 : decode prog_14_method_42_code 22 = .ok (.iload_n 1, 1) := by decide +kernel
theorem d_Mo_holdsOnce_23 : decode prog_14_method_42_code 23 = .ok (.iaload, 1) := by decide +kernel
theorem d_Mo_holdsOnce_24 : decode prog_14_method_42_code 24 = .ok (.iconst 1, 1) := by decide +kernel
theorem d_Mo_holdsOnce_25 : decode prog_14_method_42_code 25 = .ok (.iadd, 1) := by decide +kernel
theorem d_Mo_holdsOnce_26 : decode prog_14_method_42_code 26 = .ok (.goto 7, 3) := by decide +kernel
theorem d_Mo_holdsOnce_29 : decode prog_14_method_42_code 29 = .ok (.aload_n 0, 1) := by decide +kernel
theorem d_Mo_holdsOnce_30 : decode prog_14_method_42_code 30 = .ok (.getfield 108, 3) := by decide +kernel
theorem d_Mo_holdsOnce_33 : decode prog_14_method_42_code 33 = .ok (.iastore, 1) := by decide +kernel
theorem d_Mo_holdsOnce_34 : decode prog_14_method_42_code 34 = .ok (.return_, 1) := by decide +kernel
theorem d_Mo_pause_0 : decode prog_14_method_45_code 0 = .ok (.aload_n 0, 1) := by decide +kernel
theorem d_Mo_pause_1 : decode prog_14_method_45_code 1 = .ok (.iload_n 1, 1) := by decide +kernel
theorem d_Mo_pause_2 : decode prog_14_method_45_code 2 = .ok (.iconst 0, 1) := by decide +kernel
theorem d_Mo_pause_3 : decode prog_14_method_45_code 3 = .ok (.sipush 9999, 3) := by decide +kernel
theorem d_Mo_pause_6 : decode prog_14_method_45_code 6 = .ok (.invokevirtual 224, 3) := by decide +kernel
theorem d_Mo_pause_9 : decode prog_14_method_45_code 9 = .ok (.ifCond .ne 6, 3) := by decide +kernel
theorem d_Mo_pause_12 : decode prog_14_method_45_code 12 = .ok (.bipush (-2), 2) := by decide +kernel
theorem d_Mo_pause_14 : decode prog_14_method_45_code 14 = .ok (.ireturn, 1) := by decide +kernel
theorem d_Mo_pause_15 : decode prog_14_method_45_code 15 = .ok (.aload_n 0, 1) := by decide +kernel
theorem d_Mo_pause_16 : decode prog_14_method_45_code 16 = .ok (.getfield 16, 3) := by decide +kernel
theorem d_Mo_pause_19 : decode prog_14_method_45_code 19 = .ok (.iload_n 1, 1) := by decide +kernel
theorem d_Mo_pause_20 : decode prog_14_method_45_code 20 = .ok (.iadd, 1) := by decide +kernel
theorem d_Mo_pause_21 : decode prog_14_method_45_code 21 = .ok (.ldc_w 328, 3) := by decide +kernel
theorem d_Mo_pause_24 : decode prog_14_method_45_code 24 = .ok (.if_icmp .le 6, 3) := by decide +kernel
theorem d_Mo_pause_27 : decode prog_14_method_45_code 27 = .ok (.bipush (-3), 2) := by decide +kernel
theorem d_Mo_pause_29 : decode prog_14_method_45_code 29 = .ok (.ireturn, 1) := by decide +kernel
theorem d_Mo_pause_30 : decode prog_14_method_45_code 30 = .ok (.aload_n 0, 1) := by decide +kernel
theorem d_Mo_pause_31 : decode prog_14_method_45_code 31 = .ok (.dup, 1) := by decide +kernel
theorem d_Mo_pause_32 : decode prog_14_method_45_code 32 = .ok (.getfield 16, 3) := by decide +kernel
theorem d_Mo_pause_35 : decode prog_14_method_45_code 35 = .ok (.iload_n 1, 1) := by decide +kernel
theorem d_Mo_pause_36 : decode prog_14_method_45_code 36 = .ok (.iadd, 1) := by decide +kernel
theorem d_Mo_pause_37 : decode prog_14_method_45_code 37 = .ok (.putfield 16, 3) := by decide +kernel
theorem d_Mo_pause_40 : decode prog_14_method_45_code 40 = .ok (.aload_n 0, 1) := by decide +kernel
theorem d_Mo_pause_41 : decode prog_14_method_45_code 41 = .ok (.getfield 16, 3) := by decide +kernel
theorem d_Mo_pause_44 : decode prog_14_method_45_code 44 = .ok (.ireturn, 1) := by decide +kernel
theorem d_Mo_on_0 : decode prog_14_method_51_code 0 = .ok (.aload_n 0, 1) := by decide +kernel
theorem d_Mo_on_1 : decode prog_14_method_51_code 1 = .ok (.iload_n 3, 1) := by decide +kernel
theorem d_Mo_on_2 : decode prog_14_method_51_code 2 = .ok (.iconst 0, 1) := by decide +kernel
theorem d_Mo_on_3 : decode prog_14_method_51_code 3 = .ok (.iconst 3, 1) := by decide +kernel
theorem d_Mo_on_4 : decode prog_14_method_51_code 4 = .ok (.invokevirtual 224, 3) := by decide +kernel
theorem d_Mo_on_7 : decode prog_14_method_51_code 7 = .ok (.ifCond .ne 5, 3) := by decide +kernel
theorem d_Mo_on_10 : decode prog_14_method_51_code 10 = .ok (.iconst (-1), 1) := by decide +kernel
theorem d_Mo_on_11 : decode prog_14_method_51_code 11 = .ok (.ireturn, 1) := by decide +kernel
theorem d_Mo_on_12 : decode prog_14_method_51_code 12 = .ok (.aload_n 0, 1) := by decide +kernel
theorem d_Mo_on_13 : decode prog_14_method_51_code 13 = .ok (.iload_n 1, 1) := by decide +kernel
theorem d_Mo_on_14 : decode prog_14_method_51_code 14 = .ok (.iconst 0, 1) := by decide +kernel
theorem d_Mo_on_15 : decode prog_14_method_51_code 15 = .ok (.bipush 30, 2) := by decide +kernel
theorem d_Mo_on_17 : decode prog_14_method_51_code 17 = .ok (.invokevirtual 224, 3) := by decide +kernel
theorem d_Mo_on_20 : decode prog_14_method_51_code 20 = .ok (.ifCond .eq 11, 3) := by decide +kernel
theorem d_Mo_on_23 : decode prog_14_method_51_code 23 = .ok (.aload_n 0, 1) := by decide +kernel
theorem d_Mo_on_24 : decode prog_14_method_51_code 24 = .ok (.iload_n 2, 1) := by decide +kernel
theorem d_Mo_on_25 : decode prog_14_method_51_code 25 = .ok (.invokevirtual 325, 3) := by decide +kernel
theorem d_Mo_on_28 : decode prog_14_method_51_code 28 = .ok (.ifCond .ne 6, 3) := by decide +kernel
theorem d_Mo_on_31 : decode prog_14_method_51_code 31 = .ok (.bipush (-2), 2) := by decide +kernel
theorem d_Mo_on_33 : decode prog_14_method_51_code 33 = .ok (.ireturn, 1) := by decide +kernel
theorem d_Mo_on_34 : decode prog_14_method_51_code 34 = .ok (.aload_n 0, 1) := by decide +kernel
theorem d_Mo_on_35 : decode prog_14_method_51_code 35 = .ok (.iload_n 1, 1) := by decide +kernel
theorem d_Mo_on_36 : decode prog_14_method_51_code 36 = .ok (.iload_n 2, 1) := by decide +kernel
theorem d_Mo_on_37 : decode prog_14_method_51_code 37 = .ok (.iconst 0, 1) := by decide +kernel
theorem d_Mo_on_38 : decode prog_14_method_51_code 38 = .ok (.iconst 0, 1) := by decide +kernel
theorem d_Mo_on_39 : decode prog_14_method_51_code 39 = .ok (.invokevirtual 339, 3) := by decide +kernel
theorem d_Mo_on_42 : decode prog_14_method_51_code 42 = .ok (.aload_n 0, 1) := by decide +kernel
theorem d_Mo_on_43 : decode prog_14_method_51_code 43 = .ok (.invokevirtual 343, 3) := by decide +kernel
theorem d_Mo_on_46 : decode prog_14_method_51_code 46 = .ok (.istore 4, 2) := by decide +kernel
theorem d_Mo_on_48 : decode prog_14_method_51_code 48 = .ok (.iload_n 3, 1) := by decide +kernel
theorem d_Mo_on_49 : decode prog_14_method_51_code 49 = .ok (.ifCond .ne 10, 3) := by decide +kernel
theorem d_Mo_on_52 : decode prog_14_method_51_code 52 = .ok (.aload_n 0, 1) := by decide +kernel
theorem d_Mo_on_53 : decode prog_14_method_51_code 53 = .ok (.getfield 120, 3) := by decide +kernel
theorem d_Mo_on_56 : decode prog_14_method_51_code 56 = .ok (.goto 41, 3) := by decide +kernel
theorem d_Mo_on_59 : decode prog_14_method_51_code 59 = .ok (.iload_n 3, 1) := by decide +kernel
theorem d_Mo_on_60 : decode prog_14_method_51_code 60 = .ok (.iconst 1, 1) := by decide +kernel
theorem d_Mo_on_61 : decode prog_14_method_51_code 61 = .ok (.if_icmp .ne 10, 3) := by decide +kernel
theorem d_Mo_on_64 : decode prog_14_method_51_code 64 = .ok (.aload_n 0, 1) := by decide +kernel
theorem d_Mo_on_65 : decode prog_14_method_51_code 65 = .ok (.getfield 126, 3) := by decide +kernel
theorem d_Mo_on_68 : decode prog_14_method_51_code 68 = .ok (.goto 29, 3) := by decide +kernel
theorem d_Mo_on_71 : decode prog_14_method_51_code 71 = .ok (.iload_n 3, 1) := by decide +kernel
theorem d_Mo_on_72 : decode prog_14_method_51_code 72 = .ok (.iconst 2, 1) := by decide +kernel
theorem d_Mo_on_73 : decode prog_14_method_51_code 73 = .ok (.if_icmp .ne 8, 3) := by decide +kernel
theorem d_Mo_on_76 : decode prog_14_method_51_code 76 = .ok (.iload 4, 2) := by decide +kernel
theorem d_Mo_on_78 : decode prog_14_method_51_code 78 = .ok (.goto 19, 3) := by decide +kernel
theorem d_Mo_on_81 : decode prog_14_method_51_code 81 = .ok (.iload 4, 2) := by decide +kernel
theorem d_Mo_on_83 : decode prog_14_method_51_code 83 = .ok (.ifCond .ge 7, 3) := by decide +kernel
theorem d_Mo_on_86 : decode prog_14_method_51_code 86 = .ok (.iconst 0, 1) := by decide +kernel
theorem d_Mo_on_87 : decode prog_14_method_51_code 87 = .ok (.goto 10, 3) := by decide +kernel
theorem d_Mo_on_90 : decode prog_14_method_51_code 90 = .ok (.aload_n 0, 1) := by decide +kernel
theorem d_Mo_on_91 : decode prog_14_method_51_code 91 = .ok (.getfield 129, 3) := by decide +kernel
theorem d_Mo_on_94 : decode prog_14_method_51_code 94 = .ok (.iload 4, 2) := by decide +kernel
theorem d_Mo_on_96 : decode prog_14_method_51_code 96 = .ok (.iaload, 1) := by decide +kernel
theorem d_Mo_on_97 : decode prog_14_method_51_code 97 = .ok (.ireturn, 1) := by decide +kernel
theorem d_Mo_layTubes_0 : decode prog_14_method_48_code 0 = .ok (.aload_n 0, 1) := by decide +kernel
theorem d_Mo_layTubes_1 : decode prog_14_method_48_code 1 = .ok (.invokevirtual 333, 3) := by decide +kernel
theorem d_Mo_layTubes_4 : decode prog_14_method_48_code 4 = .ok (.aload_n 0, 1) := by decide +kernel
theorem d_Mo_layTubes_5 : decode prog_14_method_48_code 5 = .ok (.iconst 0, 1) := by decide +kernel
theorem d_Mo_layTubes_6 : decode prog_14_method_48_code 6 = .ok (.putfield 120, 3) := by decide +kernel
theorem d_Mo_layTubes_9 : decode prog_14_method_48_code 9 = .ok (.aload_n 0, 1) := by decide +kernel
theorem d_Mo_layTubes_10 : decode prog_14_method_48_code 10 = .ok (.iconst 0, 1) := by decide +kernel
theorem d_Mo_layTubes_11 : decode prog_14_method_48_code 11 = .ok (.putfield 123, 3) := by decide +kernel
theorem d_Mo_layTubes_14 : decode prog_14_method_48_code 14 = .ok (.aload_n 0, 1) := by decide +kernel
theorem d_Mo_layTubes_15 : decode prog_14_method_48_code 15 = .ok (.iconst 0, 1) := by decide +kernel
theorem d_Mo_layTubes_16 : decode prog_14_method_48_code 16 = .ok (.putfield 126, 3) := by decide +kernel
theorem d_Mo_layTubes_19 : decode prog_14_method_48_code 19 = .ok (.iconst 0, 1) := by decide +kernel
theorem d_Mo_layTubes_20 : decode prog_14_method_48_code 20 = .ok (.istore 5, 2) := by decide +kernel
theorem d_Mo_layTubes_22 : decode prog_14_method_48_code 22 = .ok (.iload 5, 2) := by decide +kernel
theorem d_Mo_layTubes_24 : decode prog_14_method_48_code 24 = .ok (.bipush 6, 2) := by decide +kernel
theorem d_Mo_layTubes_26 : decode prog_14_method_48_code 26 = .ok (.if_icmp .ge 17, 3) := by decide +kernel
theorem d_Mo_layTubes_29 : decode prog_14_method_48_code 29 = .ok (.aload_n 0, 1) := by decide +kernel
theorem d_Mo_layTubes_30 : decode prog_14_method_48_code 30 = .ok (.getfield 129, 3) := by decide +kernel
theorem d_Mo_layTubes_33 : decode prog_14_method_48_code 33 = .ok (.iload 5, 2) := by decide +kernel
theorem d_Mo_layTubes_35 : decode prog_14_method_48_code 35 = .ok (.iconst 0, 1) := by decide +kernel
theorem d_Mo_layTubes_36 : decode prog_14_method_48_code 36 = .ok (.iastore, 1) := by decide +kernel
theorem d_Mo_layTubes_37 : decode prog_14_method_48_code 37 = .ok (.iinc 5 1, 3) := by decide +kernel
theorem d_Mo_layTubes_40 : decode prog_14_method_48_code 40 = .ok (.goto (-18), 3) := by decide +kernel
theorem d_Mo_layTubes_43 : decode prog_14_method_48_code 43 = .ok (.iconst 0, 1) := by decide +kernel
theorem d_Mo_layTubes_44 : decode prog_14_method_48_code 44 = .ok (.istore 5, 2) := by decide +kernel
theorem d_Mo_layTubes_46 : decode prog_14_method_48_code 46 = .ok (.iload 5, 2) := by decide +kernel
theorem d_Mo_layTubes_48 : decode prog_14_method_48_code 48 = .ok (.iload_n 1, 1) := by decide +kernel
theorem d_Mo_layTubes_49 : decode prog_14_method_48_code 49 = .ok (.if_icmp .ge 121, 3) := by decide +kernel
theorem d_Mo_layTubes_52 : decode prog_14_method_48_code 52 = .ok (.aload_n 0, 1) := by decide +kernel
theorem d_Mo_layTubes_53 : decode prog_14_method_48_code 53 = .ok (.invokevirtual 329, 3) := by decide +kernel
theorem d_Mo_layTubes_56 : decode prog_14_method_48_code 56 = .ok (.ifCond .eq 65, 3) := by decide +kernel
theorem d_Mo_layTubes_59 : decode prog_14_method_48_code 59 = .ok (.aload_n 0, 1) := by decide +kernel
theorem d_Mo_layTubes_60 : decode prog_14_method_48_code 60 = .ok (.dup, 1) := by decide +kernel
theorem d_Mo_layTubes_61 : decode prog_14_method_48_code 61 = .ok (.getfield 120, 3) := by decide +kernel
theorem d_Mo_layTubes_64 : decode prog_14_method_48_code 64 = .ok (.iconst 1, 1) := by decide +kernel
theorem d_Mo_layTubes_65 : decode prog_14_method_48_code 65 = .ok (.iadd, 1) := by decide +kernel
theorem d_Mo_layTubes_66 : decode prog_14_method_48_code 66 = .ok (.putfield 120, 3) := by decide +kernel
theorem d_Mo_layTubes_69 : decode prog_14_method_48_code 69 = .ok (.aload_n 0, 1) := by decide +kernel
theorem d_Mo_layTubes_70 : decode prog_14_method_48_code 70 = .ok (.dup, 1) := by decide +kernel
theorem d_Mo_layTubes_71 : decode prog_14_method_48_code 71 = .ok (.getfield 123, 3) := by decide +kernel
theorem d_Mo_layTubes_74 : decode prog_14_method_48_code 74 = .ok (.iconst 1, 1) := by decide +kernel
theorem d_Mo_layTubes_75 : decode prog_14_method_48_code 75 = .ok (.iload 5, 2) := by decide +kernel
theorem d_Mo_layTubes_77 : decode prog_14_method_48_code 77 = .ok (.ishl, 1) := by decide +kernel
theorem d_Mo_layTubes_78 : decode prog_14_method_48_code 78 = .ok (.ior, 1) := by decide +kernel
theorem d_Mo_layTubes_79 : decode prog_14_method_48_code 79 = .ok (.putfield 123, 3) := by decide +kernel
theorem d_Mo_layTubes_82 : decode prog_14_method_48_code 82 = .ok (.aload_n 0, 1) := by decide +kernel
theorem d_Mo_layTubes_83 : decode prog_14_method_48_code 83 = .ok (.aload_n 0, 1) := by decide +kernel
theorem d_Mo_layTubes_84 : decode prog_14_method_48_code 84 = .ok (.getfield 105, 3) := by decide +kernel
theorem d_Mo_layTubes_87 : decode prog_14_method_48_code 87 = .ok (.aload_n 0, 1) := by decide +kernel
theorem d_Mo_layTubes_88 : decode prog_14_method_48_code 88 = .ok (.getfield 111, 3) := by decide +kernel
theorem d_Mo_layTubes_91 : decode prog_14_method_48_code 91 = .ok (.isub, 1) := by decide +kernel
theorem d_Mo_layTubes_92 : decode prog_14_method_48_code 92 = .ok (.aload_n 0, 1) := by decide +kernel
theorem d_Mo_layTubes_93 : decode prog_14_method_48_code 93 = .ok (.getfield 126, 3) := by decide +kernel
theorem d_Mo_layTubes_96 : decode prog_14_method_48_code 96 = .ok (.if_icmp .le 15, 3) := by decide +kernel
theorem d_Mo_layTubes_99 : decode prog_14_method_48_code 99 = .ok (.aload_n 0, 1) := by decide +kernel
theorem d_Mo_layTubes_100 : decode prog_14_method_48_code 100 = .ok (.getfield 105, 3) := by decide +kernel
theorem d_Mo_layTubes_103 : decode prog_14_method_48_code 103 = .ok (.aload_n 0, 1) := by decide +kernel
theorem d_Mo_layTubes_104 : decode prog_14_method_48_code 104 = .ok (.getfield 111, 3) := by decide +kernel
theorem d_Mo_layTubes_107 : decode prog_14_method_48_code 107 = .ok (.isub, 1) := by decide +kernel
theorem d_Mo_layTubes_108 : decode prog_14_method_48_code 108 = .ok (.goto 7, 3) := by decide +kernel
theorem d_Mo_layTubes_111 : decode prog_14_method_48_code 111 = .ok (.aload_n 0, 1) := by decide +kernel
theorem d_Mo_layTubes_112 : decode prog_14_method_48_code 112 = .ok (.getfield 126, 3) := by decide +kernel
theorem d_Mo_layTubes_115 : decode prog_14_method_48_code 115 = .ok (.putfield 126, 3) := by decide +kernel
theorem d_Mo_layTubes_118 : decode prog_14_method_48_code 118 = .ok (.goto 16, 3) := by decide +kernel
theorem d_Mo_layTubes_121 : decode prog_14_method_48_code 121 = .ok (.aload_n 0, 1) := by decide +kernel
theorem d_Mo_layTubes_122 : decode prog_14_method_48_code 122 = .ok (.getfield 129, 3) := by decide +kernel
theorem d_Mo_layTubes_125 : decode prog_14_method_48_code 125 = .ok (.aload_n 0, 1) := by decide +kernel
theorem d_Mo_layTubes_126 : decode prog_14_method_48_code 126 = .ok (.getfield 102, 3) := by decide +kernel
theorem d_Mo_layTubes_129 : decode prog_14_method_48_code 129 = .ok (.dup2, 1) := by decide +kernel
theorem d_Mo_layTubes_130 : decode prog_14_method_48_code 130 = .ok (.iaload, 1) := by decide +kernel
theorem d_Mo_layTubes_131 : decode prog_14_method_48_code 131 = .ok (.iconst 1, 1) := by decide +kernel
theorem d_Mo_layTubes_132 : decode prog_14_method_48_code 132 = .ok (.iadd, 1) := by decide +kernel
theorem d_Mo_layTubes_133 : decode prog_14_method_48_code 133 = .ok (.iastore, 1) := by decide +kernel
theorem d_Mo_layTubes_134 : decode prog_14_method_48_code 134 = .ok (.aload_n 0, 1) := by decide +kernel
theorem d_Mo_layTubes_135 : decode prog_14_method_48_code 135 = .ok (.dup, 1) := by decide +kernel
theorem d_Mo_layTubes_136 : decode prog_14_method_48_code 136 = .ok (.getfield 16, 3) := by decide +kernel
theorem d_Mo_layTubes_139 : decode prog_14_method_48_code 139 = .ok (.iload_n 3, 1) := by decide +kernel
theorem d_Mo_layTubes_140 : decode prog_14_method_48_code 140 = .ok (.ifCond .le 19, 3) := by decide +kernel
theorem d_Mo_layTubes_143 : decode prog_14_method_48_code 143 = .ok (.iload 5, 2) := by decide +kernel
theorem d_Mo_layTubes_145 : decode prog_14_method_48_code 145 = .ok (.iconst 1, 1) := by decide +kernel
theorem d_Mo_layTubes_146 : decode prog_14_method_48_code 146 = .ok (.iadd, 1) := by decide +kernel
theorem d_Mo_layTubes_147 : decode prog_14_method_48_code 147 = .ok (.iload_n 3, 1) := by decide +kernel
theorem d_Mo_layTubes_148 : decode prog_14_method_48_code 148 = .ok (.irem, 1) := by decide +kernel
theorem d_Mo_layTubes_149 : decode prog_14_method_48_code 149 = .ok (.ifCond .ne 10, 3) := by decide +kernel
theorem d_Mo_layTubes_152 : decode prog_14_method_48_code 152 = .ok (.iload_n 2, 1) := by decide +kernel
theorem d_Mo_layTubes_153 : decode prog_14_method_48_code 153 = .ok (.iload 4, 2) := by decide +kernel
theorem d_Mo_layTubes_155 : decode prog_14_method_48_code 155 = .ok (.iadd, 1) := by decide +kernel
theorem d_Mo_layTubes_156 : decode prog_14_method_48_code 156 = .ok (.goto 4, 3) := by decide +kernel
theorem d_Mo_layTubes_159 : decode prog_14_method_48_code 159 = .ok (.iload_n 2, 1) := by decide +kernel
theorem d_Mo_layTubes_160 : decode prog_14_method_48_code 160 = .ok (.iadd, 1) := by decide +kernel
theorem d_Mo_layTubes_161 : decode prog_14_method_48_code 161 = .ok (.putfield 16, 3) := by decide +kernel
theorem d_Mo_layTubes_164 : decode prog_14_method_48_code 164 = .ok (.iinc 5 1, 3) := by decide +kernel
theorem d_Mo_layTubes_167 : decode prog_14_method_48_code 167 = .ok (.goto (-121), 3) := by decide +kernel
theorem d_Mo_layTubes_170 : decode prog_14_method_48_code 170 = .ok (.aload_n 0, 1) := by decide +kernel
theorem d_Mo_layTubes_171 : decode prog_14_method_48_code 171 = .ok (.invokevirtual 336, 3) := by decide +kernel
theorem d_Mo_layTubes_174 : decode prog_14_method_48_code 174 = .ok (.return_, 1) := by decide +kernel
theorem d_Mo_save_0 : decode prog_14_method_46_code 0 = .ok (.aload_n 0, 1) := by decide +kernel
theorem d_Mo_save_1 : decode prog_14_method_46_code 1 = .ok (.ldc_w 332, 3) := by decide +kernel
theorem d_Mo_save_4 : decode prog_14_method_46_code 4 = .ok (.putfield 108, 3) := by decide +kernel
theorem d_Mo_save_7 : decode prog_14_method_46_code 7 = .ok (.aload_n 0, 1) := by decide +kernel
theorem d_Mo_save_8 : decode prog_14_method_46_code 8 = .ok (.aload_n 0, 1) := by decide +kernel
theorem d_Mo_save_9 : decode prog_14_method_46_code 9 = .ok (.getfield 16, 3) := by decide +kernel
theorem d_Mo_save_12 : decode prog_14_method_46_code 12 = .ok (.putfield 111, 3) := by decide +kernel
theorem d_Mo_save_15 : decode prog_14_method_46_code 15 = .ok (.iconst 0, 1) := by decide +kernel
theorem d_Mo_save_16 : decode prog_14_method_46_code 16 = .ok (.istore_n 1, 1) := by decide +kernel
theorem d_Mo_save_17 : decode prog_14_method_46_code 17 = .ok (.iload_n 1, 1) := by decide +kernel
theorem d_Mo_save_18 : decode prog_14_method_46_code 18 = .ok (.bipush 6, 2) := by decide +kernel
theorem d_Mo_save_20 : decode prog_14_method_46_code 20 = .ok (.if_icmp .ge 33, 3) := by decide +kernel
theorem d_Mo_save_23 : decode prog_14_method_46_code 23 = .ok (.aload_n 0, 1) := by decide +kernel
theorem d_Mo_save_24 : decode prog_14_method_46_code 24 = .ok (.getfield 114, 3) := by decide +kernel
theorem d_Mo_save_27 : decode prog_14_method_46_code 27 = .ok (.iload_n 1, 1) := by decide +kernel
theorem d_Mo_save_28 : decode prog_14_method_46_code 28 = .ok (.aload_n 0, 1) := by decide +kernel
theorem d_Mo_save_29 : decode prog_14_method_46_code 29 = .ok (.getfield 32, 3) := by decide +kernel
theorem d_Mo_save_32 : decode prog_14_method_46_code 32 = .ok (.iload_n 1, 1) := by decide +kernel
theorem d_Mo_save_33 : decode prog_14_method_46_code 33 = .ok (.iaload, 1) := by decide +kernel
theorem d_Mo_save_34 : decode prog_14_method_46_code 34 = .ok (.iastore, 1) := by decide +kernel
theorem d_Mo_save_35 : decode prog_14_method_46_code 35 = .ok (.aload_n 0, 1) := by decide +kernel
theorem d_Mo_save_36 : decode prog_14_method_46_code 36 = .ok (.getfield 117, 3) := by decide +kernel
theorem d_Mo_save_39 : decode prog_14_method_46_code 39 = .ok (.iload_n 1, 1) := by decide +kernel
theorem d_Mo_save_40 : decode prog_14_method_46_code 40 = .ok (.aload_n 0, 1) := by decide +kernel
theorem d_Mo_save_41 : decode prog_14_method_46_code 41 = .ok (.getfield 35, 3) := by decide +kernel
theorem d_Mo_save_44 : decode prog_14_method_46_code 44 = .ok (.iload_n 1, 1) := by decide +kernel
theorem d_Mo_save_45 : decode prog_14_method_46_code 45 = .ok (.iaload, 1) := by decide +kernel
theorem d_Mo_save_46 : decode prog_14_method_46_code 46 = .ok (.iastore, 1) := by decide +kernel
theorem d_Mo_save_47 : decode prog_14_method_46_code 47 = .ok (.iinc 1 1, 3) := by decide +kernel
theorem d_Mo_save_50 : decode prog_14_method_46_code 50 = .ok (.goto (-33), 3) := by decide +kernel
theorem d_Mo_save_53 : decode prog_14_method_46_code 53 = .ok (.return_, 1) := by decide +kernel
theorem d_Mo_putBack_0 : decode prog_14_method_47_code 0 = .ok (.aload_n 0, 1) := by decide +kernel
theorem d_Mo_putBack_1 : decode prog_14_method_47_code 1 = .ok (.sipush 9999, 3) := by decide +kernel
theorem d_Mo_putBack_4 : decode prog_14_method_47_code 4 = .ok (.putfield 108, 3) := by decide +kernel
theorem d_Mo_putBack_7 : decode prog_14_method_47_code 7 = .ok (.aload_n 0, 1) := by decide +kernel
theorem d_Mo_putBack_8 : decode prog_14_method_47_code 8 = .ok (.aload_n 0, 1) := by decide +kernel
theorem d_Mo_putBack_9 : decode prog_14_method_47_code 9 = .ok (.getfield 111, 3) := by decide +kernel
theorem d_Mo_putBack_12 : decode prog_14_method_47_code 12 = .ok (.putfield 16, 3) := by decide +kernel
theorem d_Mo_putBack_15 : decode prog_14_method_47_code 15 = .ok (.iconst 0, 1) := by decide +kernel
theorem d_Mo_putBack_16 : decode prog_14_method_47_code 16 = .ok (.istore_n 1, 1) := by decide +kernel
theorem d_Mo_putBack_17 : decode prog_14_method_47_code 17 = .ok (.iload_n 1, 1) := by decide +kernel
theorem d_Mo_putBack_18 : decode prog_14_method_47_code 18 = .ok (.bipush 6, 2) := by decide +kernel
theorem d_Mo_putBack_20 : decode prog_14_method_47_code 20 = .ok (.if_icmp .ge 33, 3) := by decide +kernel
theorem d_Mo_putBack_23 : decode prog_14_method_47_code 23 = .ok (.aload_n 0, 1) := by decide +kernel
theorem d_Mo_putBack_24 : decode prog_14_method_47_code 24 = .ok (.getfield 32, 3) := by decide +kernel
theorem d_Mo_putBack_27 : decode prog_14_method_47_code 27 = .ok (.iload_n 1, 1) := by decide +kernel
theorem d_Mo_putBack_28 : decode prog_14_method_47_code 28 = .ok (.aload_n 0, 1) := by decide +kernel
theorem d_Mo_putBack_29 : decode prog_14_method_47_code 29 = .ok (.getfield 114, 3) := by decide +kernel
theorem d_Mo_putBack_32 : decode prog_14_method_47_code 32 = .ok (.iload_n 1, 1) := by decide +kernel
theorem d_Mo_putBack_33 : decode prog_14_method_47_code 33 = .ok (.iaload, 1) := by decide +kernel
theorem d_Mo_putBack_34 : decode prog_14_method_47_code 34 = .ok (.iastore, 1) := by decide +kernel
theorem d_Mo_putBack_35 : decode prog_14_method_47_code 35 = .ok (.aload_n 0, 1) := by decide +kernel
theorem d_Mo_putBack_36 : decode prog_14_method_47_code 36 = .ok (.getfield 35, 3) := by decide +kernel
theorem d_Mo_putBack_39 : decode prog_14_method_47_code 39 = .ok (.iload_n 1, 1) := by decide +kernel
theorem d_Mo_putBack_40 : decode prog_14_method_47_code 40 = .ok (.aload_n 0, 1) := by decide +kernel
theorem d_Mo_putBack_41 : decode prog_14_method_47_code 41 = .ok (.getfield 117, 3) := by decide +kernel
theorem d_Mo_putBack_44 : decode prog_14_method_47_code 44 = .ok (.iload_n 1, 1) := by decide +kernel
theorem d_Mo_putBack_45 : decode prog_14_method_47_code 45 = .ok (.iaload, 1) := by decide +kernel
theorem d_Mo_putBack_46 : decode prog_14_method_47_code 46 = .ok (.iastore, 1) := by decide +kernel
theorem d_Mo_putBack_47 : decode prog_14_method_47_code 47 = .ok (.iinc 1 1, 3) := by decide +kernel
theorem d_Mo_putBack_50 : decode prog_14_method_47_code 50 = .ok (.goto (-33), 3) := by decide +kernel
theorem d_Mo_putBack_53 : decode prog_14_method_47_code 53 = .ok (.return_, 1) := by decide +kernel
theorem d_Mo_mostDrops_0 : decode prog_14_method_50_code 0 = .ok (.bipush (-5), 2) := by decide +kernel
theorem d_Mo_mostDrops_2 : decode prog_14_method_50_code 2 = .ok (.istore_n 1, 1) := by decide +kernel
theorem d_Mo_mostDrops_3 : decode prog_14_method_50_code 3 = .ok (.iconst 0, 1) := by decide +kernel
theorem d_Mo_mostDrops_4 : decode prog_14_method_50_code 4 = .ok (.istore_n 2, 1) := by decide +kernel
theorem d_Mo_mostDrops_5 : decode prog_14_method_50_code 5 = .ok (.iload_n 2, 1) := by decide +kernel
theorem d_Mo_mostDrops_6 : decode prog_14_method_50_code 6 = .ok (.aload_n 0, 1) := by decide +kernel
theorem d_Mo_mostDrops_7 : decode prog_14_method_50_code 7 = .ok (.getfield 7, 3) := by decide +kernel
theorem d_Mo_mostDrops_10 : decode prog_14_method_50_code 10 = .ok (.if_icmp .ge 39, 3) := by decide +kernel
theorem d_Mo_mostDrops_13 : decode prog_14_method_50_code 13 = .ok (.aload_n 0, 1) := by decide +kernel
theorem d_Mo_mostDrops_14 : decode prog_14_method_50_code 14 = .ok (.getfield 129, 3) := by decide +kernel
theorem d_Mo_mostDrops_17 : decode prog_14_method_50_code 17 = .ok (.iload_n 2, 1) := by decide +kernel
theorem d_Mo_mostDrops_18 : decode prog_14_method_50_code 18 = .ok (.iaload, 1) := by decide +kernel
theorem d_Mo_mostDrops_19 : decode prog_14_method_50_code 19 = .ok (.ifCond .le 24, 3) := by decide +kernel
theorem d_Mo_mostDrops_22 : decode prog_14_method_50_code 22 = .ok (.iload_n 1, 1) := by decide +kernel
theorem d_Mo_mostDrops_23 : decode prog_14_method_50_code 23 = .ok (.ifCond .lt 18, 3) := by decide +kernel
theorem d_Mo_mostDrops_26 : decode prog_14_method_50_code 26 = .ok (.aload_n 0, 1) := by decide +kernel
theorem d_Mo_mostDrops_27 : decode prog_14_method_50_code 27 = .ok (.getfield 129, 3) := by decide +kernel
theorem d_Mo_mostDrops_30 : decode prog_14_method_50_code 30 = .ok (.iload_n 2, 1) := by decide +kernel
theorem d_Mo_mostDrops_31 : decode prog_14_method_50_code 31 = .ok (.iaload, 1) := by decide +kernel
theorem d_Mo_mostDrops_32 : decode prog_14_method_50_code 32 = .ok (.aload_n 0, 1) := by decide +kernel
theorem d_Mo_mostDrops_33 : decode prog_14_method_50_code 33 = .ok (.getfield 129, 3) := by decide +kernel
theorem d_Mo_mostDrops_36 : decode prog_14_method_50_code 36 = .ok (.iload_n 1, 1) := by decide +kernel
theorem d_Mo_mostDrops_37 : decode prog_14_method_50_code 37 = .ok (.iaload, 1) := by decide +kernel
theorem d_Mo_mostDrops_38 : decode prog_14_method_50_code 38 = .ok (.if_icmp .le 5, 3) := by decide +kernel
theorem d_Mo_mostDrops_41 : decode prog_14_method_50_code 41 = .ok (.iload_n 2, 1) := by decide +kernel
theorem d_Mo_mostDrops_42 : decode prog_14_method_50_code 42 = .ok (.istore_n 1, 1) := by decide +kernel
theorem d_Mo_mostDrops_43 : decode prog_14_method_50_code 43 = .ok (.iinc 2 1, 3) := by decide +kernel
theorem d_Mo_mostDrops_46 : decode prog_14_method_50_code 46 = .ok (.goto (-41), 3) := by decide +kernel
theorem d_Mo_mostDrops_49 : decode prog_14_method_50_code 49 = .ok (.iload_n 1, 1) := by decide +kernel
theorem d_Mo_mostDrops_50 : decode prog_14_method_50_code 50 = .ok (.ireturn, 1) := by decide +kernel
theorem d_Mo_safe_0 : decode prog_14_method_53_code 0 = .ok (.aload_n 0, 1) := by decide +kernel
theorem d_Mo_safe_1 : decode prog_14_method_53_code 1 = .ok (.iload_n 1, 1) := by decide +kernel
theorem d_Mo_safe_2 : decode prog_14_method_53_code 2 = .ok (.iconst 1, 1) := by decide +kernel
theorem d_Mo_safe_3 : decode prog_14_method_53_code 3 = .ok (.bipush 20, 2) := by decide +kernel
theorem d_Mo_safe_5 : decode prog_14_method_53_code 5 = .ok (.invokevirtual 224, 3) := by decide +kernel
theorem d_Mo_safe_8 : decode prog_14_method_53_code 8 = .ok (.ifCond .eq 11, 3) := by decide +kernel
theorem d_Mo_safe_11 : decode prog_14_method_53_code 11 = .ok (.aload_n 0, 1) := by decide +kernel
theorem d_Mo_safe_12 : decode prog_14_method_53_code 12 = .ok (.iload_n 1, 1) := by decide +kernel
theorem d_Mo_safe_13 : decode prog_14_method_53_code 13 = .ok (.invokevirtual 349, 3) := by decide +kernel
theorem d_Mo_safe_16 : decode prog_14_method_53_code 16 = .ok (.goto 5, 3) := by decide +kernel
theorem d_Mo_safe_19 : decode prog_14_method_53_code 19 = .ok (.bipush (-2), 2) := by decide +kernel
theorem d_Mo_safe_21 : decode prog_14_method_53_code 21 = .ok (.ireturn, 1) := by decide +kernel
theorem d_Mo_safeNow_0 : decode prog_14_method_52_code 0 = .ok (.iconst 1, 1) := by decide +kernel
theorem d_Mo_safeNow_1 : decode prog_14_method_52_code 1 = .ok (.istore_n 2, 1) := by decide +kernel
theorem d_Mo_safeNow_2 : decode prog_14_method_52_code 2 = .ok (.iload_n 2, 1) := by decide +kernel
theorem d_Mo_safeNow_3 : decode prog_14_method_52_code 3 = .ok (.bipush 100, 2) := by decide +kernel
theorem d_Mo_safeNow_5 : decode prog_14_method_52_code 5 = .ok (.if_icmp .ge 21, 3) := by decide +kernel
theorem d_Mo_safeNow_8 : decode prog_14_method_52_code 8 = .ok (.aload_n 0, 1) := by decide +kernel
theorem d_Mo_safeNow_9 : decode prog_14_method_52_code 9 = .ok (.iload_n 1, 1) := by decide +kernel
theorem d_Mo_safeNow_10 : decode prog_14_method_52_code 10 = .ok (.iload_n 2, 1) := by decide +kernel
theorem d_Mo_safeNow_11 : decode prog_14_method_52_code 11 = .ok (.invokevirtual 346, 3) := by decide +kernel
theorem d_Mo_safeNow_14 : decode prog_14_method_52_code 14 = .ok (.iload_n 1, 1) := by decide +kernel
theorem d_Mo_safeNow_15 : decode prog_14_method_52_code 15 = .ok (.if_icmp .ne 5, 3) := by decide +kernel
theorem d_Mo_safeNow_18 : decode prog_14_method_52_code 18 = .ok (.iload_n 2, 1) := by decide +kernel
theorem d_Mo_safeNow_19 : decode prog_14_method_52_code 19 = .ok (.ireturn, 1) := by decide +kernel
theorem d_Mo_safeNow_20 : decode prog_14_method_52_code 20 = .ok (.iinc 2 1, 3) := by decide +kernel
theorem d_Mo_safeNow_23 : decode prog_14_method_52_code 23 = .ok (.goto (-21), 3) := by decide +kernel
theorem d_Mo_safeNow_26 : decode prog_14_method_52_code 26 = .ok (.bipush (-5), 2) := by decide +kernel
theorem d_Mo_safeNow_28 : decode prog_14_method_52_code 28 = .ok (.ireturn, 1) := by decide +kernel
theorem d_Mo_upBy_0 : decode prog_14_method_49_code 0 = .ok (.aload_n 0, 1) := by decide +kernel
theorem d_Mo_upBy_1 : decode prog_14_method_49_code 1 = .ok (.iload_n 1, 1) := by decide +kernel
theorem d_Mo_upBy_2 : decode prog_14_method_49_code 2 = .ok (.iload_n 2, 1) := by decide +kernel
theorem d_Mo_upBy_3 : decode prog_14_method_49_code 3 = .ok (.iconst 0, 1) := by decide +kernel
theorem d_Mo_upBy_4 : decode prog_14_method_49_code 4 = .ok (.iconst 0, 1) := by decide +kernel
theorem d_Mo_upBy_5 : decode prog_14_method_49_code 5 = .ok (.invokevirtual 339, 3) := by decide +kernel
theorem d_Mo_upBy_8 : decode prog_14_method_49_code 8 = .ok (.aload_n 0, 1) := by decide +kernel
theorem d_Mo_upBy_9 : decode prog_14_method_49_code 9 = .ok (.getfield 120, 3) := by decide +kernel
theorem d_Mo_upBy_12 : decode prog_14_method_49_code 12 = .ok (.ireturn, 1) := by decide +kernel
theorem d_Mo_best_0 : decode prog_14_method_54_code 0 = .ok (.aload_n 0, 1) := by decide +kernel
theorem d_Mo_best_1 : decode prog_14_method_54_code 1 = .ok (.iload_n 2, 1) := by decide +kernel
theorem d_Mo_best_2 : decode prog_14_method_54_code 2 = .ok (.iconst 0, 1) := by decide +kernel
theorem d_Mo_best_3 : decode prog_14_method_54_code 3 = .ok (.iconst 1, 1) := by decide +kernel
theorem d_Mo_best_4 : decode prog_14_method_54_code 4 = .ok (.invokevirtual 224, 3) := by decide +kernel
theorem d_Mo_best_7 : decode prog_14_method_54_code 7 = .ok (.ifCond .ne 5, 3) := by decide +kernel
theorem d_Mo_best_10 : decode prog_14_method_54_code 10 = .ok (.iconst (-1), 1) := by decide +kernel
theorem d_Mo_best_11 : decode prog_14_method_54_code 11 = .ok (.ireturn, 1) := by decide +kernel
theorem d_Mo_best_12 : decode prog_14_method_54_code 12 = .ok (.aload_n 0, 1) := by decide +kernel
theorem d_Mo_best_13 : decode prog_14_method_54_code 13 = .ok (.iload_n 1, 1) := by decide +kernel
theorem d_Mo_best_14 : decode prog_14_method_54_code 14 = .ok (.iconst 1, 1) := by decide +kernel
theorem d_Mo_best_15 : decode prog_14_method_54_code 15 = .ok (.bipush 20, 2) := by decide +kernel
theorem d_Mo_best_17 : decode prog_14_method_54_code 17 = .ok (.invokevirtual 224, 3) := by decide +kernel
theorem d_Mo_best_20 : decode prog_14_method_54_code 20 = .ok (.ifCond .ne 6, 3) := by decide +kernel
theorem d_Mo_best_23 : decode prog_14_method_54_code 23 = .ok (.bipush (-2), 2) := by decide +kernel
theorem d_Mo_best_25 : decode prog_14_method_54_code 25 = .ok (.ireturn, 1) := by decide +kernel
theorem d_Mo_best_26 : decode prog_14_method_54_code 26 = .ok (.iconst 0, 1) := by decide +kernel
theorem d_Mo_best_27 : decode prog_14_method_54_code 27 = .ok (.istore_n 3, 1) := by decide +kernel
theorem d_Mo_best_28 : decode prog_14_method_54_code 28 = .ok (.iconst (-1), 1) := by decide +kernel
theorem d_Mo_best_29 : decode prog_14_method_54_code 29 = .ok (.istore 4, 2) := by decide +kernel
theorem d_Mo_best_31 : decode prog_14_method_54_code 31 = .ok (.iconst 0, 1) := by decide +kernel
theorem d_Mo_best_32 : decode prog_14_method_54_code 32 = .ok (.istore 5, 2) := by decide +kernel
theorem d_Mo_best_34 : decode prog_14_method_54_code 34 = .ok (.iconst 1, 1) := by decide +kernel
theorem d_Mo_best_35 : decode prog_14_method_54_code 35 = .ok (.istore 6, 2) := by decide +kernel
theorem d_Mo_best_37 : decode prog_14_method_54_code 37 = .ok (.iload 6, 2) := by decide +kernel
theorem d_Mo_best_39 : decode prog_14_method_54_code 39 = .ok (.bipush 100, 2) := by decide +kernel
theorem d_Mo_best_41 : decode prog_14_method_54_code 41 = .ok (.if_icmp .ge 57, 3) := by decide +kernel
theorem d_Mo_best_44 : decode prog_14_method_54_code 44 = .ok (.aload_n 0, 1) := by decide +kernel
theorem d_Mo_best_45 : decode prog_14_method_54_code 45 = .ok (.iload_n 1, 1) := by decide +kernel
theorem d_Mo_best_46 : decode prog_14_method_54_code 46 = .ok (.iload 6, 2) := by decide +kernel
theorem d_Mo_best_48 : decode prog_14_method_54_code 48 = .ok (.invokevirtual 346, 3) := by decide +kernel
theorem d_Mo_best_51 : decode prog_14_method_54_code 51 = .ok (.istore 7, 2) := by decide +kernel
theorem d_Mo_best_53 : decode prog_14_method_54_code 53 = .ok (.iload 7, 2) := by decide +kernel
theorem d_Mo_best_55 : decode prog_14_method_54_code 55 = .ok (.iload 4, 2) := by decide +kernel
theorem d_Mo_best_57 : decode prog_14_method_54_code 57 = .ok (.if_icmp .lt 35, 3) := by decide +kernel
theorem d_Mo_best_60 : decode prog_14_method_54_code 60 = .ok (.iload 7, 2) := by decide +kernel
theorem d_Mo_best_62 : decode prog_14_method_54_code 62 = .ok (.iload 4, 2) := by decide +kernel
theorem d_Mo_best_64 : decode prog_14_method_54_code 64 = .ok (.if_icmp .ne 15, 3) := by decide +kernel
theorem d_Mo_best_67 : decode prog_14_method_54_code 67 = .ok (.aload_n 0, 1) := by decide +kernel
theorem d_Mo_best_68 : decode prog_14_method_54_code 68 = .ok (.getfield 126, 3) := by decide +kernel
theorem d_Mo_best_71 : decode prog_14_method_54_code 71 = .ok (.iload 5, 2) := by decide +kernel
theorem d_Mo_best_73 : decode prog_14_method_54_code 73 = .ok (.if_icmp .lt 6, 3) := by decide +kernel
theorem d_Mo_best_76 : decode prog_14_method_54_code 76 = .ok (.goto 16, 3) := by decide +kernel
theorem d_Mo_best_79 : decode prog_14_method_54_code 79 = .ok (.iload 6, 2) := by decide +kernel
theorem d_Mo_best_81 : decode prog_14_method_54_code 81 = .ok (.istore_n 3, 1) := by decide +kernel
theorem d_Mo_best_82 : decode prog_14_method_54_code 82 = .ok (.iload 7, 2) := by decide +kernel
theorem d_Mo_best_84 : decode prog_14_method_54_code 84 = .ok (.istore 4, 2) := by decide +kernel
theorem d_Mo_best_86 : decode prog_14_method_54_code 86 = .ok (.aload_n 0, 1) := by decide +kernel
theorem d_Mo_best_87 : decode prog_14_method_54_code 87 = .ok (.getfield 126, 3) := by decide +kernel
theorem d_Mo_best_90 : decode prog_14_method_54_code 90 = .ok (.istore 5, 2) := by decide +kernel
theorem d_Mo_best_92 : decode prog_14_method_54_code 92 = .ok (.iinc 6 1, 3) := by decide +kernel
theorem d_Mo_best_95 : decode prog_14_method_54_code 95 = .ok (.goto (-58), 3) := by decide +kernel
theorem d_Mo_best_98 : decode prog_14_method_54_code 98 = .ok (.iload_n 2, 1) := by decide +kernel
theorem d_Mo_best_99 : decode prog_14_method_54_code 99 = .ok (.ifCond .ne 7, 3) := by decide +kernel
theorem d_Mo_best_102 : decode prog_14_method_54_code 102 = .ok (.iload_n 3, 1) := by decide +kernel
theorem d_Mo_best_103 : decode prog_14_method_54_code 103 = .ok (.goto 5, 3) := by decide +kernel
theorem d_Mo_best_106 : decode prog_14_method_54_code 106 = .ok (.iload 4, 2) := by decide +kernel
theorem d_Mo_best_108 : decode prog_14_method_54_code 108 = .ok (.ireturn, 1) := by decide +kernel
theorem d_Mo_slowest_0 : decode prog_14_method_55_code 0 = .ok (.bipush (-5), 2) := by decide +kernel
theorem d_Mo_slowest_2 : decode prog_14_method_55_code 2 = .ok (.istore_n 1, 1) := by decide +kernel
theorem d_Mo_slowest_3 : decode prog_14_method_55_code 3 = .ok (.iconst 0, 1) := by decide +kernel
theorem d_Mo_slowest_4 : decode prog_14_method_55_code 4 = .ok (.istore_n 2, 1) := by decide +kernel
theorem d_Mo_slowest_5 : decode prog_14_method_55_code 5 = .ok (.iconst 0, 1) := by decide +kernel
theorem d_Mo_slowest_6 : decode prog_14_method_55_code 6 = .ok (.istore_n 3, 1) := by decide +kernel
theorem d_Mo_slowest_7 : decode prog_14_method_55_code 7 = .ok (.iload_n 3, 1) := by decide +kernel
theorem d_Mo_slowest_8 : decode prog_14_method_55_code 8 = .ok (.aload_n 0, 1) := by decide +kernel
theorem d_Mo_slowest_9 : decode prog_14_method_55_code 9 = .ok (.getfield 7, 3) := by decide +kernel
theorem d_Mo_slowest_12 : decode prog_14_method_55_code 12 = .ok (.if_icmp .ge 39, 3) := by decide +kernel
theorem d_Mo_slowest_15 : decode prog_14_method_55_code 15 = .ok (.aload_n 0, 1) := by decide +kernel
theorem d_Mo_slowest_16 : decode prog_14_method_55_code 16 = .ok (.iload_n 3, 1) := by decide +kernel
theorem d_Mo_slowest_17 : decode prog_14_method_55_code 17 = .ok (.invokevirtual 310, 3) := by decide +kernel
theorem d_Mo_slowest_20 : decode prog_14_method_55_code 20 = .ok (.istore 4, 2) := by decide +kernel
theorem d_Mo_slowest_22 : decode prog_14_method_55_code 22 = .ok (.iload_n 1, 1) := by decide +kernel
theorem d_Mo_slowest_23 : decode prog_14_method_55_code 23 = .ok (.ifCond .lt 12, 3) := by decide +kernel
theorem d_Mo_slowest_26 : decode prog_14_method_55_code 26 = .ok (.iload 4, 2) := by decide +kernel
theorem d_Mo_slowest_28 : decode prog_14_method_55_code 28 = .ok (.iload_n 2, 1) := by decide +kernel
theorem d_Mo_slowest_29 : decode prog_14_method_55_code 29 = .ok (.if_icmp .gt 6, 3) := by decide +kernel
theorem d_Mo_slowest_32 : decode prog_14_method_55_code 32 = .ok (.goto 13, 3) := by decide +kernel
theorem d_Mo_slowest_35 : decode prog_14_method_55_code 35 = .ok (.aload_n 0, 1) := by decide +kernel
theorem d_Mo_slowest_36 : decode prog_14_method_55_code 36 = .ok (.getfield 41, 3) := by decide +kernel
theorem d_Mo_slowest_39 : decode prog_14_method_55_code 39 = .ok (.iload_n 3, 1) := by decide +kernel
theorem d_Mo_slowest_40 : decode prog_14_method_55_code 40 = .ok (.iaload, 1) := by decide +kernel
theorem d_Mo_slowest_41 : decode prog_14_method_55_code 41 = .ok (.istore_n 1, 1) := by decide +kernel
theorem d_Mo_slowest_42 : decode prog_14_method_55_code 42 = .ok (.iload 4, 2) := by decide +kernel
theorem d_Mo_slowest_44 : decode prog_14_method_55_code 44 = .ok (.istore_n 2, 1) := by decide +kernel
theorem d_Mo_slowest_45 : decode prog_14_method_55_code 45 = .ok (.iinc 3 1, 3) := by decide +kernel
theorem d_Mo_slowest_48 : decode prog_14_method_55_code 48 = .ok (.goto (-41), 3) := by decide +kernel
theorem d_Mo_slowest_51 : decode prog_14_method_55_code 51 = .ok (.iload_n 1, 1) := by decide +kernel
theorem d_Mo_slowest_52 : decode prog_14_method_55_code 52 = .ok (.ireturn, 1) := by decide +kernel
theorem d_Mo_order_0 : decode prog_14_method_59_code 0 = .ok (.aload_n 0, 1) := by decide +kernel
theorem d_Mo_order_1 : decode prog_14_method_59_code 1 = .ok (.iload_n 2, 1) := by decide +kernel
theorem d_Mo_order_2 : decode prog_14_method_59_code 2 = .ok (.iconst (-1), 1) := by decide +kernel
theorem d_Mo_order_3 : decode prog_14_method_59_code 3 = .ok (.iconst 3, 1) := by decide +kernel
theorem d_Mo_order_4 : decode prog_14_method_59_code 4 = .ok (.invokevirtual 224, 3) := by decide +kernel
theorem d_Mo_order_7 : decode prog_14_method_59_code 7 = .ok (.ifCond .ne 5, 3) := by decide +kernel
theorem d_Mo_order_10 : decode prog_14_method_59_code 10 = .ok (.iconst (-1), 1) := by decide +kernel
theorem d_Mo_order_11 : decode prog_14_method_59_code 11 = .ok (.ireturn, 1) := by decide +kernel
theorem d_Mo_order_12 : decode prog_14_method_59_code 12 = .ok (.aload_n 0, 1) := by decide +kernel
theorem d_Mo_order_13 : decode prog_14_method_59_code 13 = .ok (.iload_n 1, 1) := by decide +kernel
theorem d_Mo_order_14 : decode prog_14_method_59_code 14 = .ok (.iconst 1, 1) := by decide +kernel
theorem d_Mo_order_15 : decode prog_14_method_59_code 15 = .ok (.bipush 8, 2) := by decide +kernel
theorem d_Mo_order_17 : decode prog_14_method_59_code 17 = .ok (.invokevirtual 224, 3) := by decide +kernel
theorem d_Mo_order_20 : decode prog_14_method_59_code 20 = .ok (.ifCond .ne 6, 3) := by decide +kernel
theorem d_Mo_order_23 : decode prog_14_method_59_code 23 = .ok (.bipush (-2), 2) := by decide +kernel
theorem d_Mo_order_25 : decode prog_14_method_59_code 25 = .ok (.ireturn, 1) := by decide +kernel
theorem d_Mo_order_26 : decode prog_14_method_59_code 26 = .ok (.aload_n 0, 1) := by decide +kernel
theorem d_Mo_order_27 : decode prog_14_method_59_code 27 = .ok (.getfield 7, 3) := by decide +kernel
theorem d_Mo_order_30 : decode prog_14_method_59_code 30 = .ok (.iconst 4, 1) := by decide +kernel
theorem d_Mo_order_31 : decode prog_14_method_59_code 31 = .ok (.if_icmp .le 6, 3) := by decide +kernel
theorem d_Mo_order_34 : decode prog_14_method_59_code 34 = .ok (.bipush (-9), 2) := by decide +kernel
theorem d_Mo_order_36 : decode prog_14_method_59_code 36 = .ok (.ireturn, 1) := by decide +kernel
theorem d_Mo_order_37 : decode prog_14_method_59_code 37 = .ok (.aload_n 0, 1) := by decide +kernel
theorem d_Mo_order_38 : decode prog_14_method_59_code 38 = .ok (.invokevirtual 355, 3) := by decide +kernel
theorem d_Mo_order_41 : decode prog_14_method_59_code 41 = .ok (.sipush 1000, 3) := by decide +kernel
theorem d_Mo_order_44 : decode prog_14_method_59_code 44 = .ok (.istore_n 3, 1) := by decide +kernel
theorem d_Mo_order_45 : decode prog_14_method_59_code 45 = .ok (.iconst 0, 1) := by decide +kernel
theorem d_Mo_order_46 : decode prog_14_method_59_code 46 = .ok (.istore 4, 2) := by decide +kernel
theorem d_Mo_order_48 : decode prog_14_method_59_code 48 = .ok (.aload_n 0, 1) := by decide +kernel
theorem d_Mo_order_49 : decode prog_14_method_59_code 49 = .ok (.iload 4, 2) := by decide +kernel
theorem d_Mo_order_51 : decode prog_14_method_59_code 51 = .ok (.invokevirtual 358, 3) := by decide +kernel
theorem d_Mo_order_54 : decode prog_14_method_59_code 54 = .ok (.ifCond .eq 72, 3) := by decide +kernel
theorem d_Mo_order_57 : decode prog_14_method_59_code 57 = .ok (.aload_n 0, 1) := by decide +kernel
theorem d_Mo_order_58 : decode prog_14_method_59_code 58 = .ok (.iload_n 1, 1) := by decide +kernel
theorem d_Mo_order_59 : decode prog_14_method_59_code 59 = .ok (.invokevirtual 349, 3) := by decide +kernel
theorem d_Mo_order_62 : decode prog_14_method_59_code 62 = .ok (.istore 5, 2) := by decide +kernel
theorem d_Mo_order_64 : decode prog_14_method_59_code 64 = .ok (.iload 5, 2) := by decide +kernel
theorem d_Mo_order_66 : decode prog_14_method_59_code 66 = .ok (.ifCond .ge 8, 3) := by decide +kernel
theorem d_Mo_order_69 : decode prog_14_method_59_code 69 = .ok (.bipush 100, 2) := by decide +kernel
theorem d_Mo_order_71 : decode prog_14_method_59_code 71 = .ok (.goto 5, 3) := by decide +kernel
theorem d_Mo_order_74 : decode prog_14_method_59_code 74 = .ok (.iload 5, 2) := by decide +kernel
theorem d_Mo_order_76 : decode prog_14_method_59_code 76 = .ok (.istore 6, 2) := by decide +kernel
theorem d_Mo_order_78 : decode prog_14_method_59_code 78 = .ok (.iload 6, 2) := by decide +kernel
theorem d_Mo_order_80 : decode prog_14_method_59_code 80 = .ok (.iload_n 3, 1) := by decide +kernel
theorem d_Mo_order_81 : decode prog_14_method_59_code 81 = .ok (.if_icmp .lt 6, 3) := by decide +kernel
theorem d_Mo_order_84 : decode prog_14_method_59_code 84 = .ok (.goto 36, 3) := by decide +kernel
theorem d_Mo_order_87 : decode prog_14_method_59_code 87 = .ok (.iload 6, 2) := by decide +kernel
theorem d_Mo_order_89 : decode prog_14_method_59_code 89 = .ok (.istore_n 3, 1) := by decide +kernel
theorem d_Mo_order_90 : decode prog_14_method_59_code 90 = .ok (.iconst 0, 1) := by decide +kernel
theorem d_Mo_order_91 : decode prog_14_method_59_code 91 = .ok (.istore 7, 2) := by decide +kernel
theorem d_Mo_order_93 : decode prog_14_method_59_code 93 = .ok (.iload 7, 2) := by decide +kernel
theorem d_Mo_order_95 : decode prog_14_method_59_code 95 = .ok (.bipush 6, 2) := by decide +kernel
theorem d_Mo_order_97 : decode prog_14_method_59_code 97 = .ok (.if_icmp .ge 23, 3) := by decide +kernel
theorem d_Mo_order_100 : decode prog_14_method_59_code 100 = .ok (.aload_n 0, 1) := by decide +kernel
theorem d_Mo_order_101 : decode prog_14_method_59_code 101 = .ok (.getfield 135, 3) := by decide +kernel
theorem d_Mo_order_104 : decode prog_14_method_59_code 104 = .ok (.iload 7, 2) := by decide +kernel
theorem d_Mo_order_106 : decode prog_14_method_59_code 106 = .ok (.aload_n 0, 1) := by decide +kernel
theorem d_Mo_order_107 : decode prog_14_method_59_code 107 = .ok (.getfield 41, 3) := by decide +kernel
theorem d_Mo_order_110 : decode prog_14_method_59_code 110 = .ok (.iload 7, 2) := by decide +kernel
theorem d_Mo_order_112 : decode prog_14_method_59_code 112 = .ok (.iaload, 1) := by decide +kernel
theorem d_Mo_order_113 : decode prog_14_method_59_code 113 = .ok (.iastore, 1) := by decide +kernel
theorem d_Mo_order_114 : decode prog_14_method_59_code 114 = .ok (.iinc 7 1, 3) := by decide +kernel
theorem d_Mo_order_117 : decode prog_14_method_59_code 117 = .ok (.goto (-24), 3) := by decide +kernel
theorem d_Mo_order_120 : decode prog_14_method_59_code 120 = .ok (.iinc 4 1, 3) := by decide +kernel
theorem d_Mo_order_123 : decode prog_14_method_59_code 123 = .ok (.goto (-75), 3) := by decide +kernel
theorem d_Mo_order_126 : decode prog_14_method_59_code 126 = .ok (.aload_n 0, 1) := by decide +kernel
theorem d_Mo_order_127 : decode prog_14_method_59_code 127 = .ok (.invokevirtual 361, 3) := by decide +kernel
theorem d_Mo_order_130 : decode prog_14_method_59_code 130 = .ok (.iload_n 2, 1) := by decide +kernel
theorem d_Mo_order_131 : decode prog_14_method_59_code 131 = .ok (.ifCond .ge 16, 3) := by decide +kernel
theorem d_Mo_order_134 : decode prog_14_method_59_code 134 = .ok (.iload_n 3, 1) := by decide +kernel
theorem d_Mo_order_135 : decode prog_14_method_59_code 135 = .ok (.bipush 100, 2) := by decide +kernel
theorem d_Mo_order_137 : decode prog_14_method_59_code 137 = .ok (.if_icmp .ne 8, 3) := by decide +kernel
theorem d_Mo_order_140 : decode prog_14_method_59_code 140 = .ok (.bipush (-5), 2) := by decide +kernel
theorem d_Mo_order_142 : decode prog_14_method_59_code 142 = .ok (.goto 4, 3) := by decide +kernel
theorem d_Mo_order_145 : decode prog_14_method_59_code 145 = .ok (.iload_n 3, 1) := by decide +kernel
theorem d_Mo_order_146 : decode prog_14_method_59_code 146 = .ok (.ireturn, 1) := by decide +kernel
theorem d_Mo_order_147 : decode prog_14_method_59_code 147 = .ok (.iload_n 2, 1) := by decide +kernel
theorem d_Mo_order_148 : decode prog_14_method_59_code 148 = .ok (.aload_n 0, 1) := by decide +kernel
theorem d_Mo_order_149 : decode prog_14_method_59_code 149 = .ok (.getfield 7, 3) := by decide +kernel
theorem d_Mo_order_152 : decode prog_14_method_59_code 152 = .ok (.if_icmp .ge 12, 3) := by decide +kernel
theorem d_Mo_order_155 : decode prog_14_method_59_code 155 = .ok (.aload_n 0, 1) := by decide +kernel
theorem d_Mo_order_156 : decode prog_14_method_59_code 156 = .ok (.getfield 135, 3) := by decide +kernel
theorem d_Mo_order_159 : decode prog_14_method_59_code 159 = .ok (.iload_n 2, 1) := by decide +kernel
theorem d_Mo_order_160 : decode prog_14_method_59_code 160 = .ok (.iaload, 1) := by decide +kernel
theorem d_Mo_order_161 : decode prog_14_method_59_code 161 = .ok (.goto 5, 3) := by decide +kernel
theorem d_Mo_order_164 : decode prog_14_method_59_code 164 = .ok (.bipush (-5), 2) := by decide +kernel
theorem d_Mo_order_166 : decode prog_14_method_59_code 166 = .ok (.ireturn, 1) := by decide +kernel
theorem d_Mo_keepChain_0 : decode prog_14_method_56_code 0 = .ok (.iconst 0, 1) := by decide +kernel
theorem d_Mo_keepChain_1 : decode prog_14_method_56_code 1 = .ok (.istore_n 1, 1) := by decide +kernel
theorem d_Mo_keepChain_2 : decode prog_14_method_56_code 2 = .ok (.iload_n 1, 1) := by decide +kernel
theorem d_Mo_keepChain_3 : decode prog_14_method_56_code 3 = .ok (.bipush 6, 2) := by decide +kernel
theorem d_Mo_keepChain_5 : decode prog_14_method_56_code 5 = .ok (.if_icmp .ge 21, 3) := by decide +kernel
theorem d_Mo_keepChain_8 : decode prog_14_method_56_code 8 = .ok (.aload_n 0, 1) := by decide +kernel
theorem d_Mo_keepChain_9 : decode prog_14_method_56_code 9 = .ok (.getfield 132, 3) := by decide +kernel
theorem d_Mo_keepChain_12 : decode prog_14_method_56_code 12 = .ok (.iload_n 1, 1) := by decide +kernel
theorem d_Mo_keepChain_13 : decode prog_14_method_56_code 13 = .ok (.aload_n 0, 1) := by decide +kernel
theorem d_Mo_keepChain_14 : decode prog_14_method_56_code 14 = .ok (.getfield 41, 3) := by decide +kernel
theorem d_Mo_keepChain_17 : decode prog_14_method_56_code 17 = .ok (.iload_n 1, 1) := by decide +kernel
theorem d_Mo_keepChain_18 : decode prog_14_method_56_code 18 = .ok (.iaload, 1) := by decide +kernel
theorem d_Mo_keepChain_19 : decode prog_14_method_56_code 19 = .ok (.iastore, 1) := by decide +kernel
theorem d_Mo_keepChain_20 : decode prog_14_method_56_code 20 = .ok (.iinc 1 1, 3) := by decide +kernel
theorem d_Mo_keepChain_23 : decode prog_14_method_56_code 23 = .ok (.goto (-21), 3) := by decide +kernel
theorem d_Mo_keepChain_26 : decode prog_14_method_56_code 26 = .ok (.return_, 1) := by decide +kernel
theorem d_Mo_layOrder_0 : decode prog_14_method_58_code 0 = .ok (.iconst 1, 1) := by decide +kernel
theorem d_Mo_layOrder_1 : decode prog_14_method_58_code 1 = .ok (.istore_n 2, 1) := by decide +kernel
theorem d_Mo_layOrder_2 : decode prog_14_method_58_code 2 = .ok (.iconst 2, 1) := by decide +kernel
theorem d_Mo_layOrder_3 : decode prog_14_method_58_code 3 = .ok (.istore_n 3, 1) := by decide +kernel
theorem d_Mo_layOrder_4 : decode prog_14_method_58_code 4 = .ok (.iload_n 3, 1) := by decide +kernel
theorem d_Mo_layOrder_5 : decode prog_14_method_58_code 5 = .ok (.aload_n 0, 1) := by decide +kernel
theorem d_Mo_layOrder_6 : decode prog_14_method_58_code 6 = .ok (.getfield 7, 3) := by decide +kernel
theorem d_Mo_layOrder_9 : decode prog_14_method_58_code 9 = .ok (.if_icmp .gt 13, 3) := by decide +kernel
theorem d_Mo_layOrder_12 : decode prog_14_method_58_code 12 = .ok (.iload_n 2, 1) := by decide +kernel
theorem d_Mo_layOrder_13 : decode prog_14_method_58_code 13 = .ok (.iload_n 3, 1) := by decide +kernel
theorem d_Mo_layOrder_14 : decode prog_14_method_58_code 14 = .ok (.imul, 1) := by decide +kernel
theorem d_Mo_layOrder_15 : decode prog_14_method_58_code 15 = .ok (.istore_n 2, 1) := by decide +kernel
theorem d_Mo_layOrder_16 : decode prog_14_method_58_code 16 = .ok (.iinc 3 1, 3) := by decide +kernel
theorem d_Mo_layOrder_19 : decode prog_14_method_58_code 19 = .ok (.goto (-15), 3) := by decide +kernel
theorem d_Mo_layOrder_22 : decode prog_14_method_58_code 22 = .ok (.iload_n 1, 1) := by decide +kernel
theorem d_Mo_layOrder_23 : decode prog_14_method_58_code 23 = .ok (.iload_n 2, 1) := by decide +kernel
theorem d_Mo_layOrder_24 : decode prog_14_method_58_code 24 = .ok (.if_icmp .lt 5, 3) := by decide +kernel
theorem d_Mo_layOrder_27 : decode prog_14_method_58_code 27 = .ok (.iconst 0, 1) := by decide +kernel
theorem d_Mo_layOrder_28 : decode prog_14_method_58_code 28 = .ok (.ireturn, 1) := by decide +kernel
theorem d_Mo_layOrder_29 : decode prog_14_method_58_code 29 = .ok (.iconst 1, 1) := by decide +kernel
theorem d_Mo_layOrder_30 : decode prog_14_method_58_code 30 = .ok (.aload_n 0, 1) := by decide +kernel
theorem d_Mo_layOrder_31 : decode prog_14_method_58_code 31 = .ok (.getfield 7, 3) := by decide +kernel
theorem d_Mo_layOrder_34 : decode prog_14_method_58_code 34 = .ok (.ishl, 1) := by decide +kernel
theorem d_Mo_layOrder_35 : decode prog_14_method_58_code 35 = .ok (.iconst 1, 1) := by decide +kernel
theorem d_Mo_layOrder_36 : decode prog_14_method_58_code 36 = .ok (.isub, 1) := by decide +kernel
theorem d_Mo_layOrder_37 : decode prog_14_method_58_code 37 = .ok (.istore_n 3, 1) := by decide +kernel
theorem d_Mo_layOrder_38 : decode prog_14_method_58_code 38 = .ok (.iload_n 1, 1) := by decide +kernel
theorem d_Mo_layOrder_39 : decode prog_14_method_58_code 39 = .ok (.istore 4, 2) := by decide +kernel
theorem d_Mo_layOrder_41 : decode prog_14_method_58_code 41 = .ok (.iconst 0, 1) := by decide +kernel
theorem d_Mo_layOrder_42 : decode prog_14_method_58_code 42 = .ok (.istore 5, 2) := by decide +kernel
theorem d_Mo_layOrder_44 : decode prog_14_method_58_code 44 = .ok (.iload 5, 2) := by decide +kernel
theorem d_Mo_layOrder_46 : decode prog_14_method_58_code 46 = .ok (.aload_n 0, 1) := by decide +kernel
theorem d_Mo_layOrder_47 : decode prog_14_method_58_code 47 = .ok (.getfield 7, 3) := by decide +kernel
theorem d_Mo_layOrder_50 : decode prog_14_method_58_code 50 = .ok (.if_icmp .ge 93, 3) := by decide +kernel
theorem d_Mo_layOrder_53 : decode prog_14_method_58_code 53 = .ok (.iload_n 2, 1) := by decide +kernel
theorem d_Mo_layOrder_54 : decode prog_14_method_58_code 54 = .ok (.aload_n 0, 1) := by decide +kernel
theorem d_Mo_layOrder_55 : decode prog_14_method_58_code 55 = .ok (.getfield 7, 3) := by decide +kernel
theorem d_Mo_layOrder_58 : decode prog_14_method_58_code 58 = .ok (.iload 5, 2) := by decide +kernel
theorem d_Mo_layOrder_60 : decode prog_14_method_58_code 60 = .ok (.isub, 1) := by decide +kernel
theorem d_Mo_layOrder_61 : decode prog_14_method_58_code 61 = .ok (.idiv, 1) := by decide +kernel
theorem d_Mo_layOrder_62 : decode prog_14_method_58_code 62 = .ok (.istore_n 2, 1) := by decide +kernel
theorem d_Mo_layOrder_63 : decode prog_14_method_58_code 63 = .ok (.iload 4, 2) := by decide +kernel
theorem d_Mo_layOrder_65 : decode prog_14_method_58_code 65 = .ok (.iload_n 2, 1) := by decide +kernel
theorem d_Mo_layOrder_66 : decode prog_14_method_58_code 66 = .ok (.idiv, 1) := by decide +kernel
theorem d_Mo_layOrder_67 : decode prog_14_method_58_code 67 = .ok (.istore 6, 2) := by decide +kernel
theorem d_Mo_layOrder_69 : decode prog_14_method_58_code 69 = .ok (.iload 4, 2) := by decide +kernel
theorem d_Mo_layOrder_71 : decode prog_14_method_58_code 71 = .ok (.iload_n 2, 1) := by decide +kernel
theorem d_Mo_layOrder_72 : decode prog_14_method_58_code 72 = .ok (.irem, 1) := by decide +kernel
theorem d_Mo_layOrder_73 : decode prog_14_method_58_code 73 = .ok (.istore 4, 2) := by decide +kernel
theorem d_Mo_layOrder_75 : decode prog_14_method_58_code 75 = .ok (.iconst 0, 1) := by decide +kernel
theorem d_Mo_layOrder_76 : decode prog_14_method_58_code 76 = .ok (.istore 7, 2) := by decide +kernel
theorem d_Mo_layOrder_78 : decode prog_14_method_58_code 78 = .ok (.aload_n 0, 1) := by decide +kernel
theorem d_Mo_layOrder_79 : decode prog_14_method_58_code 79 = .ok (.iload_n 3, 1) := by decide +kernel
theorem d_Mo_layOrder_80 : decode prog_14_method_58_code 80 = .ok (.iload 7, 2) := by decide +kernel
theorem d_Mo_layOrder_82 : decode prog_14_method_58_code 82 = .ok (.invokevirtual 352, 3) := by decide +kernel
theorem d_Mo_layOrder_85 : decode prog_14_method_58_code 85 = .ok (.ifCond .eq 8, 3) := by decide +kernel
theorem d_Mo_layOrder_88 : decode prog_14_method_58_code 88 = .ok (.iload 6, 2) := by decide +kernel
theorem d_Mo_layOrder_90 : decode prog_14_method_58_code 90 = .ok (.ifCond .le 29, 3) := by decide +kernel
theorem d_Mo_layOrder_93 : decode prog_14_method_58_code 93 = .ok (.iload 6, 2) := by decide +kernel
theorem d_Mo_layOrder_95 : decode prog_14_method_58_code 95 = .ok (.aload_n 0, 1) := by decide +kernel
theorem d_Mo_layOrder_96 : decode prog_14_method_58_code 96 = .ok (.iload_n 3, 1) := by decide +kernel
theorem d_Mo_layOrder_97 : decode prog_14_method_58_code 97 = .ok (.iload 7, 2) := by decide +kernel
theorem d_Mo_layOrder_99 : decode prog_14_method_58_code 99 = .ok (.invokevirtual 352, 3) := by decide +kernel
theorem d_Mo_layOrder_102 : decode prog_14_method_58_code 102 = .ok (.ifCond .eq 7, 3) := by decide +kernel
theorem d_Mo_layOrder_105 : decode prog_14_method_58_code 105 = .ok (.iconst 1, 1) := by decide +kernel
theorem d_Mo_layOrder_106 : decode prog_14_method_58_code 106 = .ok (.goto 4, 3) := by decide +kernel
theorem d_Mo_layOrder_109 : decode prog_14_method_58_code 109 = .ok (.iconst 0, 1) := by decide +kernel
theorem d_Mo_layOrder_110 : decode prog_14_method_58_code 110 = .ok (.isub, 1) := by decide +kernel
theorem d_Mo_layOrder_111 : decode prog_14_method_58_code 111 = .ok (.istore 6, 2) := by decide +kernel
theorem d_Mo_layOrder_113 : decode prog_14_method_58_code 113 = .ok (.iinc 7 1, 3) := by decide +kernel
theorem d_Mo_layOrder_116 : decode prog_14_method_58_code 116 = .ok (.goto (-38), 3) := by decide +kernel
theorem d_Mo_layOrder_119 : decode prog_14_method_58_code 119 = .ok (.aload_n 0, 1) := by decide +kernel
theorem d_Mo_layOrder_120 : decode prog_14_method_58_code 120 = .ok (.getfield 41, 3) := by decide +kernel
theorem d_Mo_layOrder_123 : decode prog_14_method_58_code 123 = .ok (.iload 5, 2) := by decide +kernel
theorem d_Mo_layOrder_125 : decode prog_14_method_58_code 125 = .ok (.iload 7, 2) := by decide +kernel
theorem d_Mo_layOrder_127 : decode prog_14_method_58_code 127 = .ok (.iastore, 1) := by decide +kernel
theorem d_Mo_layOrder_128 : decode prog_14_method_58_code 128 = .ok (.iload_n 3, 1) := by decide +kernel
theorem d_Mo_layOrder_129 : decode prog_14_method_58_code 129 = .ok (.iconst 1, 1) := by decide +kernel
theorem d_Mo_layOrder_130 : decode prog_14_method_58_code 130 = .ok (.iload 7, 2) := by decide +kernel
theorem d_Mo_layOrder_132 : decode prog_14_method_58_code 132 = .ok (.ishl, 1) := by decide +kernel
theorem d_Mo_layOrder_133 : decode prog_14_method_58_code 133 = .ok (.iconst (-1), 1) := by decide +kernel
theorem d_Mo_layOrder_134 : decode prog_14_method_58_code 134 = .ok (.ixor, 1) := by decide +kernel
theorem d_Mo_layOrder_135 : decode prog_14_method_58_code 135 = .ok (.iand, 1) := by decide +kernel
theorem d_Mo_layOrder_136 : decode prog_14_method_58_code 136 = .ok (.istore_n 3, 1) := by decide +kernel
theorem d_Mo_layOrder_137 : decode prog_14_method_58_code 137 = .ok (.iinc 5 1, 3) := by decide +kernel
theorem d_Mo_layOrder_140 : decode prog_14_method_58_code 140 = .ok (.goto (-96), 3) := by decide +kernel
theorem d_Mo_layOrder_143 : decode prog_14_method_58_code 143 = .ok (.iconst 1, 1) := by decide +kernel
theorem d_Mo_layOrder_144 : decode prog_14_method_58_code 144 = .ok (.ireturn, 1) := by decide +kernel
theorem d_Mo_has_0 : decode prog_14_method_3_code 0 = .ok (.iload_n 1, 1) := by decide +kernel
theorem d_Mo_has_1 : decode prog_14_method_3_code 1 = .ok (.iload_n 2, 1) := by decide +kernel
theorem d_Mo_has_2 : decode prog_14_method_3_code 2 = .ok (.ishr, 1) := by decide +kernel
theorem d_Mo_has_3 : decode prog_14_method_3_code 3 = .ok (.iconst 1, 1) := by decide +kernel
theorem d_Mo_has_4 : decode prog_14_method_3_code 4 = .ok (.iand, 1) := by decide +kernel
theorem d_Mo_has_5 : decode prog_14_method_3_code 5 = .ok (.iconst 1, 1) := by decide +kernel
theorem d_Mo_has_6 : decode prog_14_method_3_code 6 = .ok (.if_icmp .ne 7, 3) := by decide +kernel
theorem d_Mo_has_9 : decode prog_14_method_3_code 9 = .ok (.iconst 1, 1) := by decide +kernel
theorem d_Mo_has_10 : decode prog_14_method_3_code 10 = .ok (.goto 4, 3) := by decide +kernel
theorem d_Mo_has_13 : decode prog_14_method_3_code 13 = .ok (.iconst 0, 1) := by decide +kernel
theorem d_Mo_has_14 : decode prog_14_method_3_code 14 = .ok (.ireturn, 1) := by decide +kernel
theorem d_Mo_putChain_0 : decode prog_14_method_57_code 0 = .ok (.iconst 0, 1) := by decide +kernel
theorem d_Mo_putChain_1 : decode prog_14_method_57_code 1 = .ok (.istore_n 1, 1) := by decide +kernel
theorem d_Mo_putChain_2 : decode prog_14_method_57_code 2 = .ok (.iload_n 1, 1) := by decide +kernel
theorem d_Mo_putChain_3 : decode prog_14_method_57_code 3 = .ok (.bipush 6, 2) := by decide +kernel
theorem d_Mo_putChain_5 : decode prog_14_method_57_code 5 = .ok (.if_icmp .ge 21, 3) := by decide +kernel
theorem d_Mo_putChain_8 : decode prog_14_method_57_code 8 = .ok (.aload_n 0, 1) := by decide +kernel
theorem d_Mo_putChain_9 : decode prog_14_method_57_code 9 = .ok (.getfield 41, 3) := by decide +kernel
theorem d_Mo_putChain_12 : decode prog_14_method_57_code 12 = .ok (.iload_n 1, 1) := by decide +kernel
theorem d_Mo_putChain_13 : decode prog_14_method_57_code 13 = .ok (.aload_n 0, 1) := by decide +kernel
theorem d_Mo_putChain_14 : decode prog_14_method_57_code 14 = .ok (.getfield 132, 3) := by decide +kernel
theorem d_Mo_putChain_17 : decode prog_14_method_57_code 17 = .ok (.iload_n 1, 1) := by decide +kernel
theorem d_Mo_putChain_18 : decode prog_14_method_57_code 18 = .ok (.iaload, 1) := by decide +kernel
theorem d_Mo_putChain_19 : decode prog_14_method_57_code 19 = .ok (.iastore, 1) := by decide +kernel
theorem d_Mo_putChain_20 : decode prog_14_method_57_code 20 = .ok (.iinc 1 1, 3) := by decide +kernel
theorem d_Mo_putChain_23 : decode prog_14_method_57_code 23 = .ok (.goto (-21), 3) := by decide +kernel
theorem d_Mo_putChain_26 : decode prog_14_method_57_code 26 = .ok (.return_, 1) := by decide +kernel
theorem d_Mo_without_0 : decode prog_14_method_60_code 0 = .ok (.aload_n 0, 1) := by decide +kernel
theorem d_Mo_without_1 : decode prog_14_method_60_code 1 = .ok (.iload_n 1, 1) := by decide +kernel
theorem d_Mo_without_2 : decode prog_14_method_60_code 2 = .ok (.invokevirtual 228, 3) := by decide +kernel
theorem d_Mo_without_5 : decode prog_14_method_60_code 5 = .ok (.ifCond .ne 5, 3) := by decide +kernel
theorem d_Mo_without_8 : decode prog_14_method_60_code 8 = .ok (.iconst (-1), 1) := by decide +kernel
theorem d_Mo_without_9 : decode prog_14_method_60_code 9 = .ok (.ireturn, 1) := by decide +kernel
theorem d_Mo_without_10 : decode prog_14_method_60_code 10 = .ok (.aload_n 0, 1) := by decide +kernel
theorem d_Mo_without_11 : decode prog_14_method_60_code 11 = .ok (.iload_n 2, 1) := by decide +kernel
theorem d_Mo_without_12 : decode prog_14_method_60_code 12 = .ok (.iconst 1, 1) := by decide +kernel
theorem d_Mo_without_13 : decode prog_14_method_60_code 13 = .ok (.bipush 30, 2) := by decide +kernel
theorem d_Mo_without_15 : decode prog_14_method_60_code 15 = .ok (.invokevirtual 224, 3) := by decide +kernel
theorem d_Mo_without_18 : decode prog_14_method_60_code 18 = .ok (.ifCond .eq 11, 3) := by decide +kernel
theorem d_Mo_without_21 : decode prog_14_method_60_code 21 = .ok (.aload_n 0, 1) := by decide +kernel
theorem d_Mo_without_22 : decode prog_14_method_60_code 22 = .ok (.iload_n 3, 1) := by decide +kernel
theorem d_Mo_without_23 : decode prog_14_method_60_code 23 = .ok (.invokevirtual 325, 3) := by decide +kernel
theorem d_Mo_without_26 : decode prog_14_method_60_code 26 = .ok (.ifCond .ne 6, 3) := by decide +kernel
theorem d_Mo_without_29 : decode prog_14_method_60_code 29 = .ok (.bipush (-2), 2) := by decide +kernel
theorem d_Mo_without_31 : decode prog_14_method_60_code 31 = .ok (.ireturn, 1) := by decide +kernel
theorem d_Mo_without_32 : decode prog_14_method_60_code 32 = .ok (.aload_n 0, 1) := by decide +kernel
theorem d_Mo_without_33 : decode prog_14_method_60_code 33 = .ok (.invokevirtual 355, 3) := by decide +kernel
theorem d_Mo_without_36 : decode prog_14_method_60_code 36 = .ok (.aload_n 0, 1) := by decide +kernel
theorem d_Mo_without_37 : decode prog_14_method_60_code 37 = .ok (.iload_n 1, 1) := by decide +kernel
theorem d_Mo_without_38 : decode prog_14_method_60_code 38 = .ok (.invokevirtual 232, 3) := by decide +kernel
theorem d_Mo_without_41 : decode prog_14_method_60_code 41 = .ok (.istore 4, 2) := by decide +kernel
theorem d_Mo_without_43 : decode prog_14_method_60_code 43 = .ok (.iload 4, 2) := by decide +kernel
theorem d_Mo_without_45 : decode prog_14_method_60_code 45 = .ok (.istore 5, 2) := by decide +kernel
theorem d_Mo_without_47 : decode prog_14_method_60_code 47 = .ok (.iload 5, 2) := by decide +kernel
theorem d_Mo_without_49 : decode prog_14_method_60_code 49 = .ok (.iconst 1, 1) := by decide +kernel
theorem d_Mo_without_50 : decode prog_14_method_60_code 50 = .ok (.iadd, 1) := by decide +kernel
theorem d_Mo_without_51 : decode prog_14_method_60_code 51 = .ok (.aload_n 0, 1) := by decide +kernel
theorem d_Mo_without_52 : decode prog_14_method_60_code 52 = .ok (.getfield 7, 3) := by decide +kernel
theorem d_Mo_without_55 : decode prog_14_method_60_code 55 = .ok (.if_icmp .ge 25, 3) := by decide +kernel
theorem d_Mo_without_58 : decode prog_14_method_60_code 58 = .ok (.aload_n 0, 1) := by decide +kernel
theorem d_Mo_without_59 : decode prog_14_method_60_code 59 = .ok (.getfield 41, 3) := by decide +kernel
theorem d_Mo_without_62 : decode prog_14_method_60_code 62 = .ok (.iload 5, 2) := by decide +kernel
theorem d_Mo_without_64 : decode prog_14_method_60_code 64 = .ok (.aload_n 0, 1) := by decide +kernel
theorem d_Mo_without_65 : decode prog_14_method_60_code 65 = .ok (.getfield 41, 3) := by decide +kernel
theorem d_Mo_without_68 : decode prog_14_method_60_code 68 = .ok (.iload 5, 2) := by decide +kernel
theorem d_Mo_without_70 : decode prog_14_method_60_code 70 = .ok (.iconst 1, 1) := by decide +kernel
theorem d_Mo_without_71 : decode prog_14_method_60_code 71 = .ok (.iadd, 1) := by decide +kernel
theorem d_Mo_without_72 : decode prog_14_method_60_code 72 = .ok (.iaload, 1) := by decide +kernel
theorem d_Mo_without_73 : decode prog_14_method_60_code 73 = .ok (.iastore, 1) := by decide +kernel
theorem d_Mo_without_74 : decode prog_14_method_60_code 74 = .ok (.iinc 5 1, 3) := by decide +kernel
theorem d_Mo_without_77 : decode prog_14_method_60_code 77 = .ok (.goto (-30), 3) := by decide +kernel
theorem d_Mo_without_80 : decode prog_14_method_60_code 80 = .ok (.aload_n 0, 1) := by decide +kernel
theorem d_Mo_without_81 : decode prog_14_method_60_code 81 = .ok (.aload_n 0, 1) := by decide +kernel
theorem d_Mo_without_82 : decode prog_14_method_60_code 82 = .ok (.getfield 7, 3) := by decide +kernel
theorem d_Mo_without_85 : decode prog_14_method_60_code 85 = .ok (.iconst 1, 1) := by decide +kernel
theorem d_Mo_without_86 : decode prog_14_method_60_code 86 = .ok (.isub, 1) := by decide +kernel
theorem d_Mo_without_87 : decode prog_14_method_60_code 87 = .ok (.putfield 13, 3) := by decide +kernel
theorem d_Mo_without_90 : decode prog_14_method_60_code 90 = .ok (.aload_n 0, 1) := by decide +kernel
theorem d_Mo_without_91 : decode prog_14_method_60_code 91 = .ok (.iload_n 2, 1) := by decide +kernel
theorem d_Mo_without_92 : decode prog_14_method_60_code 92 = .ok (.iload_n 3, 1) := by decide +kernel
theorem d_Mo_without_93 : decode prog_14_method_60_code 93 = .ok (.invokevirtual 346, 3) := by decide +kernel
theorem d_Mo_without_96 : decode prog_14_method_60_code 96 = .ok (.istore 5, 2) := by decide +kernel
theorem d_Mo_without_98 : decode prog_14_method_60_code 98 = .ok (.aload_n 0, 1) := by decide +kernel
theorem d_Mo_without_99 : decode prog_14_method_60_code 99 = .ok (.aload_n 0, 1) := by decide +kernel
theorem d_Mo_without_100 : decode prog_14_method_60_code 100 = .ok (.getfield 7, 3) := by decide +kernel
theorem d_Mo_without_103 : decode prog_14_method_60_code 103 = .ok (.putfield 13, 3) := by decide +kernel
theorem d_Mo_without_106 : decode prog_14_method_60_code 106 = .ok (.aload_n 0, 1) := by decide +kernel
theorem d_Mo_without_107 : decode prog_14_method_60_code 107 = .ok (.invokevirtual 361, 3) := by decide +kernel
theorem d_Mo_without_110 : decode prog_14_method_60_code 110 = .ok (.iload 5, 2) := by decide +kernel
theorem d_Mo_without_112 : decode prog_14_method_60_code 112 = .ok (.ireturn, 1) := by decide +kernel
theorem d_Mo_pulley_0 : decode prog_14_method_62_code 0 = .ok (.aload_n 0, 1) := by decide +kernel
theorem d_Mo_pulley_1 : decode prog_14_method_62_code 1 = .ok (.iload_n 1, 1) := by decide +kernel
theorem d_Mo_pulley_2 : decode prog_14_method_62_code 2 = .ok (.iconst 1, 1) := by decide +kernel
theorem d_Mo_pulley_3 : decode prog_14_method_62_code 3 = .ok (.bipush 30, 2) := by decide +kernel
theorem d_Mo_pulley_5 : decode prog_14_method_62_code 5 = .ok (.invokevirtual 224, 3) := by decide +kernel
theorem d_Mo_pulley_8 : decode prog_14_method_62_code 8 = .ok (.ifCond .eq 20, 3) := by decide +kernel
theorem d_Mo_pulley_11 : decode prog_14_method_62_code 11 = .ok (.aload_n 0, 1) := by decide +kernel
theorem d_Mo_pulley_12 : decode prog_14_method_62_code 12 = .ok (.iload_n 2, 1) := by decide +kernel
theorem d_Mo_pulley_13 : decode prog_14_method_62_code 13 = .ok (.invokevirtual 325, 3) := by decide +kernel
theorem d_Mo_pulley_16 : decode prog_14_method_62_code 16 = .ok (.ifCond .eq 12, 3) := by decide +kernel
theorem d_Mo_pulley_19 : decode prog_14_method_62_code 19 = .ok (.aload_n 0, 1) := by decide +kernel
theorem d_Mo_pulley_20 : decode prog_14_method_62_code 20 = .ok (.iload_n 1, 1) := by decide +kernel
theorem d_Mo_pulley_21 : decode prog_14_method_62_code 21 = .ok (.iload_n 2, 1) := by decide +kernel
theorem d_Mo_pulley_22 : decode prog_14_method_62_code 22 = .ok (.invokevirtual 365, 3) := by decide +kernel
theorem d_Mo_pulley_25 : decode prog_14_method_62_code 25 = .ok (.goto 6, 3) := by decide +kernel
theorem d_Mo_pulley_28 : decode prog_14_method_62_code 28 = .ok (.ldc_w 368, 3) := by decide +kernel
theorem d_Mo_pulley_31 : decode prog_14_method_62_code 31 = .ok (.ireturn, 1) := by decide +kernel
theorem d_Mo_pulleyOf_0 : decode prog_14_method_61_code 0 = .ok (.aload_n 0, 1) := by decide +kernel
theorem d_Mo_pulleyOf_1 : decode prog_14_method_61_code 1 = .ok (.iload_n 1, 1) := by decide +kernel
theorem d_Mo_pulleyOf_2 : decode prog_14_method_61_code 2 = .ok (.iload_n 2, 1) := by decide +kernel
theorem d_Mo_pulleyOf_3 : decode prog_14_method_61_code 3 = .ok (.invokevirtual 346, 3) := by decide +kernel
theorem d_Mo_pulleyOf_6 : decode prog_14_method_61_code 6 = .ok (.iload_n 1, 1) := by decide +kernel
theorem d_Mo_pulleyOf_7 : decode prog_14_method_61_code 7 = .ok (.if_icmp .ge 9, 3) := by decide +kernel
theorem d_Mo_pulleyOf_10 : decode prog_14_method_61_code 10 = .ok (.ldc_w 364, 3) := by decide +kernel
theorem d_Mo_pulleyOf_13 : decode prog_14_method_61_code 13 = .ok (.goto 24, 3) := by decide +kernel
theorem d_Mo_pulleyOf_16 : decode prog_14_method_61_code 16 = .ok (.iload_n 1, 1) := by decide +kernel
theorem d_Mo_pulleyOf_17 : decode prog_14_method_61_code 17 = .ok (.aload_n 0, 1) := by decide +kernel
theorem d_Mo_pulleyOf_18 : decode prog_14_method_61_code 18 = .ok (.invokevirtual 319, 3) := by decide +kernel
theorem d_Mo_pulleyOf_21 : decode prog_14_method_61_code 21 = .ok (.imul, 1) := by decide +kernel
theorem d_Mo_pulleyOf_22 : decode prog_14_method_61_code 22 = .ok (.aload_n 0, 1) := by decide +kernel
theorem d_Mo_pulleyOf_23 : decode prog_14_method_61_code 23 = .ok (.invokevirtual 313, 3) := by decide +kernel
theorem d_Mo_pulleyOf_26 : decode prog_14_method_61_code 26 = .ok (.aload_n 0, 1) := by decide +kernel
theorem d_Mo_pulleyOf_27 : decode prog_14_method_61_code 27 = .ok (.getfield 7, 3) := by decide +kernel
theorem d_Mo_pulleyOf_30 : decode prog_14_method_61_code 30 = .ok (.imul, 1) := by decide +kernel
theorem d_Mo_pulleyOf_31 : decode prog_14_method_61_code 31 = .ok (.iadd, 1) := by decide +kernel
theorem d_Mo_pulleyOf_32 : decode prog_14_method_61_code 32 = .ok (.aload_n 0, 1) := by decide +kernel
theorem d_Mo_pulleyOf_33 : decode prog_14_method_61_code 33 = .ok (.getfield 126, 3) := by decide +kernel
theorem d_Mo_pulleyOf_36 : decode prog_14_method_61_code 36 = .ok (.isub, 1) := by decide +kernel
theorem d_Mo_pulleyOf_37 : decode prog_14_method_61_code 37 = .ok (.ireturn, 1) := by decide +kernel
theorem d_Mo_from_0 : decode prog_14_method_63_code 0 = .ok (.aload_n 0, 1) := by decide +kernel
theorem d_Mo_from_1 : decode prog_14_method_63_code 1 = .ok (.iload_n 1, 1) := by decide +kernel
theorem d_Mo_from_2 : decode prog_14_method_63_code 2 = .ok (.invokevirtual 325, 3) := by decide +kernel
theorem d_Mo_from_5 : decode prog_14_method_63_code 5 = .ok (.ifCond .ne 6, 3) := by decide +kernel
theorem d_Mo_from_8 : decode prog_14_method_63_code 8 = .ok (.bipush (-2), 2) := by decide +kernel
theorem d_Mo_from_10 : decode prog_14_method_63_code 10 = .ok (.ireturn, 1) := by decide +kernel
theorem d_Mo_from_11 : decode prog_14_method_63_code 11 = .ok (.iconst 1, 1) := by decide +kernel
theorem d_Mo_from_12 : decode prog_14_method_63_code 12 = .ok (.istore_n 2, 1) := by decide +kernel
theorem d_Mo_from_13 : decode prog_14_method_63_code 13 = .ok (.iload_n 2, 1) := by decide +kernel
theorem d_Mo_from_14 : decode prog_14_method_63_code 14 = .ok (.bipush 31, 2) := by decide +kernel
theorem d_Mo_from_16 : decode prog_14_method_63_code 16 = .ok (.if_icmp .ge 20, 3) := by decide +kernel
theorem d_Mo_from_19 : decode prog_14_method_63_code 19 = .ok (.aload_n 0, 1) := by decide +kernel
theorem d_Mo_from_20 : decode prog_14_method_63_code 20 = .ok (.iload_n 2, 1) := by decide +kernel
theorem d_Mo_from_21 : decode prog_14_method_63_code 21 = .ok (.iload_n 1, 1) := by decide +kernel
theorem d_Mo_from_22 : decode prog_14_method_63_code 22 = .ok (.invokevirtual 365, 3) := by decide +kernel
theorem d_Mo_from_25 : decode prog_14_method_63_code 25 = .ok (.ifCond .le 5, 3) := by decide +kernel
theorem d_Mo_from_28 : decode prog_14_method_63_code 28 = .ok (.iload_n 2, 1) := by decide +kernel
theorem d_Mo_from_29 : decode prog_14_method_63_code 29 = .ok (.ireturn, 1) := by decide +kernel
theorem d_Mo_from_30 : decode prog_14_method_63_code 30 = .ok (.iinc 2 1, 3) := by decide +kernel
theorem d_Mo_from_33 : decode prog_14_method_63_code 33 = .ok (.goto (-20), 3) := by decide +kernel
theorem d_Mo_from_36 : decode prog_14_method_63_code 36 = .ok (.bipush (-5), 2) := by decide +kernel
theorem d_Mo_from_38 : decode prog_14_method_63_code 38 = .ok (.ireturn, 1) := by decide +kernel
theorem d_Mo_rested_0 : decode prog_14_method_64_code 0 = .ok (.aload_n 0, 1) := by decide +kernel
theorem d_Mo_rested_1 : decode prog_14_method_64_code 1 = .ok (.iload_n 1, 1) := by decide +kernel
theorem d_Mo_rested_2 : decode prog_14_method_64_code 2 = .ok (.iconst 1, 1) := by decide +kernel
theorem d_Mo_rested_3 : decode prog_14_method_64_code 3 = .ok (.bipush 20, 2) := by decide +kernel
theorem d_Mo_rested_5 : decode prog_14_method_64_code 5 = .ok (.invokevirtual 224, 3) := by decide +kernel
theorem d_Mo_rested_8 : decode prog_14_method_64_code 8 = .ok (.ifCond .eq 22, 3) := by decide +kernel
theorem d_Mo_rested_11 : decode prog_14_method_64_code 11 = .ok (.aload_n 0, 1) := by decide +kernel
theorem d_Mo_rested_12 : decode prog_14_method_64_code 12 = .ok (.iload_n 2, 1) := by decide +kernel
theorem d_Mo_rested_13 : decode prog_14_method_64_code 13 = .ok (.invokevirtual 325, 3) := by decide +kernel
theorem d_Mo_rested_16 : decode prog_14_method_64_code 16 = .ok (.ifCond .eq 14, 3) := by decide +kernel
theorem d_Mo_rested_19 : decode prog_14_method_64_code 19 = .ok (.aload_n 0, 1) := by decide +kernel
theorem d_Mo_rested_20 : decode prog_14_method_64_code 20 = .ok (.iload_n 3, 1) := by decide +kernel
theorem d_Mo_rested_21 : decode prog_14_method_64_code 21 = .ok (.iconst 1, 1) := by decide +kernel
theorem d_Mo_rested_22 : decode prog_14_method_64_code 22 = .ok (.bipush 60, 2) := by decide +kernel
theorem d_Mo_rested_24 : decode prog_14_method_64_code 24 = .ok (.invokevirtual 224, 3) := by decide +kernel
theorem d_Mo_rested_27 : decode prog_14_method_64_code 27 = .ok (.ifCond .ne 6, 3) := by decide +kernel
theorem d_Mo_rested_30 : decode prog_14_method_64_code 30 = .ok (.bipush (-2), 2) := by decide +kernel
theorem d_Mo_rested_32 : decode prog_14_method_64_code 32 = .ok (.ireturn, 1) := by decide +kernel
theorem d_Mo_rested_33 : decode prog_14_method_64_code 33 = .ok (.bipush 20, 2) := by decide +kernel
theorem d_Mo_rested_35 : decode prog_14_method_64_code 35 = .ok (.istore 4, 2) := by decide +kernel
theorem d_Mo_rested_37 : decode prog_14_method_64_code 37 = .ok (.iload 4, 2) := by decide +kernel
theorem d_Mo_rested_39 : decode prog_14_method_64_code 39 = .ok (.ifCond .le 29, 3) := by decide +kernel
theorem d_Mo_rested_42 : decode prog_14_method_64_code 42 = .ok (.aload_n 0, 1) := by decide +kernel
theorem d_Mo_rested_43 : decode prog_14_method_64_code 43 = .ok (.iload_n 1, 1) := by decide +kernel
theorem d_Mo_rested_44 : decode prog_14_method_64_code 44 = .ok (.iload_n 2, 1) := by decide +kernel
theorem d_Mo_rested_45 : decode prog_14_method_64_code 45 = .ok (.iload 4, 2) := by decide +kernel
theorem d_Mo_rested_47 : decode prog_14_method_64_code 47 = .ok (.iload_n 3, 1) := by decide +kernel
theorem d_Mo_rested_48 : decode prog_14_method_64_code 48 = .ok (.invokevirtual 339, 3) := by decide +kernel
theorem d_Mo_rested_51 : decode prog_14_method_64_code 51 = .ok (.aload_n 0, 1) := by decide +kernel
theorem d_Mo_rested_52 : decode prog_14_method_64_code 52 = .ok (.getfield 120, 3) := by decide +kernel
theorem d_Mo_rested_55 : decode prog_14_method_64_code 55 = .ok (.iload_n 1, 1) := by decide +kernel
theorem d_Mo_rested_56 : decode prog_14_method_64_code 56 = .ok (.if_icmp .ne 6, 3) := by decide +kernel
theorem d_Mo_rested_59 : decode prog_14_method_64_code 59 = .ok (.iload 4, 2) := by decide +kernel
theorem d_Mo_rested_61 : decode prog_14_method_64_code 61 = .ok (.ireturn, 1) := by decide +kernel
theorem d_Mo_rested_62 : decode prog_14_method_64_code 62 = .ok (.iinc 4 (-1), 3) := by decide +kernel
theorem d_Mo_rested_65 : decode prog_14_method_64_code 65 = .ok (.goto (-28), 3) := by decide +kernel
theorem d_Mo_rested_68 : decode prog_14_method_64_code 68 = .ok (.bipush (-5), 2) := by decide +kernel
theorem d_Mo_rested_70 : decode prog_14_method_64_code 70 = .ok (.ireturn, 1) := by decide +kernel
theorem d_Mo_change_0 : decode prog_14_method_66_code 0 = .ok (.aload_n 0, 1) := by decide +kernel
theorem d_Mo_change_1 : decode prog_14_method_66_code 1 = .ok (.iload_n 1, 1) := by decide +kernel
theorem d_Mo_change_2 : decode prog_14_method_66_code 2 = .ok (.iconst 1, 1) := by decide +kernel
theorem d_Mo_change_3 : decode prog_14_method_66_code 3 = .ok (.bipush 30, 2) := by decide +kernel
theorem d_Mo_change_5 : decode prog_14_method_66_code 5 = .ok (.invokevirtual 224, 3) := by decide +kernel
theorem d_Mo_change_8 : decode prog_14_method_66_code 8 = .ok (.ifCond .eq 11, 3) := by decide +kernel
theorem d_Mo_change_11 : decode prog_14_method_66_code 11 = .ok (.aload_n 0, 1) := by decide +kernel
theorem d_Mo_change_12 : decode prog_14_method_66_code 12 = .ok (.iload_n 2, 1) := by decide +kernel
theorem d_Mo_change_13 : decode prog_14_method_66_code 13 = .ok (.invokevirtual 325, 3) := by decide +kernel
theorem d_Mo_change_16 : decode prog_14_method_66_code 16 = .ok (.ifCond .ne 6, 3) := by decide +kernel
theorem d_Mo_change_19 : decode prog_14_method_66_code 19 = .ok (.bipush (-2), 2) := by decide +kernel
theorem d_Mo_change_21 : decode prog_14_method_66_code 21 = .ok (.ireturn, 1) := by decide +kernel
theorem d_Mo_change_22 : decode prog_14_method_66_code 22 = .ok (.aload_n 0, 1) := by decide +kernel
theorem d_Mo_change_23 : decode prog_14_method_66_code 23 = .ok (.iload_n 1, 1) := by decide +kernel
theorem d_Mo_change_24 : decode prog_14_method_66_code 24 = .ok (.iload_n 2, 1) := by decide +kernel
theorem d_Mo_change_25 : decode prog_14_method_66_code 25 = .ok (.invokevirtual 346, 3) := by decide +kernel
theorem d_Mo_change_28 : decode prog_14_method_66_code 28 = .ok (.istore_n 3, 1) := by decide +kernel
theorem d_Mo_change_29 : decode prog_14_method_66_code 29 = .ok (.bipush (-5), 2) := by decide +kernel
theorem d_Mo_change_31 : decode prog_14_method_66_code 31 = .ok (.istore 4, 2) := by decide +kernel
theorem d_Mo_change_33 : decode prog_14_method_66_code 33 = .ok (.iconst 0, 1) := by decide +kernel
theorem d_Mo_change_34 : decode prog_14_method_66_code 34 = .ok (.istore 5, 2) := by decide +kernel
theorem d_Mo_change_36 : decode prog_14_method_66_code 36 = .ok (.iload 5, 2) := by decide +kernel
theorem d_Mo_change_38 : decode prog_14_method_66_code 38 = .ok (.aload_n 0, 1) := by decide +kernel
theorem d_Mo_change_39 : decode prog_14_method_66_code 39 = .ok (.getfield 7, 3) := by decide +kernel
theorem d_Mo_change_42 : decode prog_14_method_66_code 42 = .ok (.if_icmp .ge 76, 3) := by decide +kernel
theorem d_Mo_change_45 : decode prog_14_method_66_code 45 = .ok (.iload 5, 2) := by decide +kernel
theorem d_Mo_change_47 : decode prog_14_method_66_code 47 = .ok (.iconst 1, 1) := by decide +kernel
theorem d_Mo_change_48 : decode prog_14_method_66_code 48 = .ok (.iadd, 1) := by decide +kernel
theorem d_Mo_change_49 : decode prog_14_method_66_code 49 = .ok (.istore 6, 2) := by decide +kernel
theorem d_Mo_change_51 : decode prog_14_method_66_code 51 = .ok (.iload 6, 2) := by decide +kernel
theorem d_Mo_change_53 : decode prog_14_method_66_code 53 = .ok (.aload_n 0, 1) := by decide +kernel
theorem d_Mo_change_54 : decode prog_14_method_66_code 54 = .ok (.getfield 7, 3) := by decide +kernel
theorem d_Mo_change_57 : decode prog_14_method_66_code 57 = .ok (.if_icmp .ge 55, 3) := by decide +kernel
theorem d_Mo_change_60 : decode prog_14_method_66_code 60 = .ok (.aload_n 0, 1) := by decide +kernel
theorem d_Mo_change_61 : decode prog_14_method_66_code 61 = .ok (.iload 5, 2) := by decide +kernel
theorem d_Mo_change_63 : decode prog_14_method_66_code 63 = .ok (.iload 6, 2) := by decide +kernel
theorem d_Mo_change_65 : decode prog_14_method_66_code 65 = .ok (.invokevirtual 369, 3) := by decide +kernel
theorem d_Mo_change_68 : decode prog_14_method_66_code 68 = .ok (.aload_n 0, 1) := by decide +kernel
theorem d_Mo_change_69 : decode prog_14_method_66_code 69 = .ok (.iload_n 1, 1) := by decide +kernel
theorem d_Mo_change_70 : decode prog_14_method_66_code 70 = .ok (.iload_n 2, 1) := by decide +kernel
theorem d_Mo_change_71 : decode prog_14_method_66_code 71 = .ok (.invokevirtual 346, 3) := by decide +kernel
theorem d_Mo_change_74 : decode prog_14_method_66_code 74 = .ok (.istore 7, 2) := by decide +kernel
theorem d_Mo_change_76 : decode prog_14_method_66_code 76 = .ok (.aload_n 0, 1) := by decide +kernel
theorem d_Mo_change_77 : decode prog_14_method_66_code 77 = .ok (.iload 5, 2) := by decide +kernel
theorem d_Mo_change_79 : decode prog_14_method_66_code 79 = .ok (.iload 6, 2) := by decide +kernel
theorem d_Mo_change_81 : decode prog_14_method_66_code 81 = .ok (.invokevirtual 369, 3) := by decide +kernel
theorem d_Mo_change_84 : decode prog_14_method_66_code 84 = .ok (.iload 7, 2) := by decide +kernel
theorem d_Mo_change_86 : decode prog_14_method_66_code 86 = .ok (.iload_n 3, 1) := by decide +kernel
theorem d_Mo_change_87 : decode prog_14_method_66_code 87 = .ok (.if_icmp .gt 6, 3) := by decide +kernel
theorem d_Mo_change_90 : decode prog_14_method_66_code 90 = .ok (.goto 16, 3) := by decide +kernel
theorem d_Mo_change_93 : decode prog_14_method_66_code 93 = .ok (.bipush 10, 2) := by decide +kernel
theorem d_Mo_change_95 : decode prog_14_method_66_code 95 = .ok (.iload 5, 2) := by decide +kernel
theorem d_Mo_change_97 : decode prog_14_method_66_code 97 = .ok (.imul, 1) := by decide +kernel
theorem d_Mo_change_98 : decode prog_14_method_66_code 98 = .ok (.iload 6, 2) := by decide +kernel
theorem d_Mo_change_100 : decode prog_14_method_66_code 100 = .ok (.iadd, 1) := by decide +kernel
theorem d_Mo_change_101 : decode prog_14_method_66_code 101 = .ok (.istore 4, 2) := by decide +kernel
theorem d_Mo_change_103 : decode prog_14_method_66_code 103 = .ok (.iload 7, 2) := by decide +kernel
theorem d_Mo_change_105 : decode prog_14_method_66_code 105 = .ok (.istore_n 3, 1) := by decide +kernel
theorem d_Mo_change_106 : decode prog_14_method_66_code 106 = .ok (.iinc 6 1, 3) := by decide +kernel
theorem d_Mo_change_109 : decode prog_14_method_66_code 109 = .ok (.goto (-58), 3) := by decide +kernel
theorem d_Mo_change_112 : decode prog_14_method_66_code 112 = .ok (.iinc 5 1, 3) := by decide +kernel
theorem d_Mo_change_115 : decode prog_14_method_66_code 115 = .ok (.goto (-79), 3) := by decide +kernel
theorem d_Mo_change_118 : decode prog_14_method_66_code 118 = .ok (.iload 4, 2) := by decide +kernel
theorem d_Mo_change_120 : decode prog_14_method_66_code 120 = .ok (.ireturn, 1) := by decide +kernel
theorem d_Mo_swaps_0 : decode prog_14_method_65_code 0 = .ok (.aload_n 0, 1) := by decide +kernel
theorem d_Mo_swaps_1 : decode prog_14_method_65_code 1 = .ok (.getfield 41, 3) := by decide +kernel
theorem d_Mo_swaps_4 : decode prog_14_method_65_code 4 = .ok (.iload_n 1, 1) := by decide +kernel
theorem d_Mo_swaps_5 : decode prog_14_method_65_code 5 = .ok (.iaload, 1) := by decide +kernel
theorem d_Mo_swaps_6 : decode prog_14_method_65_code 6 = .ok (.istore_n 3, 1) := by decide +kernel
theorem d_Mo_swaps_7 : decode prog_14_method_65_code 7 = .ok (.aload_n 0, 1) := by decide +kernel
theorem d_Mo_swaps_8 : decode prog_14_method_65_code 8 = .ok (.getfield 41, 3) := by decide +kernel
theorem d_Mo_swaps_11 : decode prog_14_method_65_code 11 = .ok (.iload_n 1, 1) := by decide +kernel
theorem d_Mo_swaps_12 : decode prog_14_method_65_code 12 = .ok (.aload_n 0, 1) := by decide +kernel
theorem d_Mo_swaps_13 : decode prog_14_method_65_code 13 = .ok (.getfield 41, 3) := by decide +kernel
theorem d_Mo_swaps_16 : decode prog_14_method_65_code 16 = .ok (.iload_n 2, 1) := by decide +kernel
theorem d_Mo_swaps_17 : decode prog_14_method_65_code 17 = .ok (.iaload, 1) := by decide +kernel
theorem d_Mo_swaps_18 : decode prog_14_method_65_code 18 = .ok (.iastore, 1) := by decide +kernel
theorem d_Mo_swaps_19 : decode prog_14_method_65_code 19 = .ok (.aload_n 0, 1) := by decide +kernel
theorem d_Mo_swaps_20 : decode prog_14_method_65_code 20 = .ok (.getfield 41, 3) := by decide +kernel
theorem d_Mo_swaps_23 : decode prog_14_method_65_code 23 = .ok (.iload_n 2, 1) := by decide +kernel
theorem d_Mo_swaps_24 : decode prog_14_method_65_code 24 = .ok (.iload_n 3, 1) := by decide +kernel
theorem d_Mo_swaps_25 : decode prog_14_method_65_code 25 = .ok (.iastore, 1) := by decide +kernel
theorem d_Mo_swaps_26 : decode prog_14_method_65_code 26 = .ok (.return_, 1) := by decide +kernel
theorem d_Mo_see_0 : decode prog_14_method_67_code 0 = .ok (.iload_n 1, 1) := by decide +kernel
theorem d_Mo_see_1 : decode prog_14_method_67_code 1 = .ok (.iconst (-1), 1) := by decide +kernel
theorem d_Mo_see_2 : decode prog_14_method_67_code 2 = .ok (.if_icmp .ne 10, 3) := by decide +kernel
theorem d_Mo_see_5 : decode prog_14_method_67_code 5 = .ok (.aload_n 0, 1) := by decide +kernel
theorem d_Mo_see_6 : decode prog_14_method_67_code 6 = .ok (.iconst 0, 1) := by decide +kernel
theorem d_Mo_see_7 : decode prog_14_method_67_code 7 = .ok (.putfield 138, 3) := by decide +kernel
theorem d_Mo_see_10 : decode prog_14_method_67_code 10 = .ok (.iconst 0, 1) := by decide +kernel
theorem d_Mo_see_11 : decode prog_14_method_67_code 11 = .ok (.ireturn, 1) := by decide +kernel
theorem d_Mo_see_12 : decode prog_14_method_67_code 12 = .ok (.aload_n 0, 1) := by decide +kernel
theorem d_Mo_see_13 : decode prog_14_method_67_code 13 = .ok (.iload_n 1, 1) := by decide +kernel
theorem d_Mo_see_14 : decode prog_14_method_67_code 14 = .ok (.iconst 0, 1) := by decide +kernel
theorem d_Mo_see_15 : decode prog_14_method_67_code 15 = .ok (.bipush 19, 2) := by decide +kernel
theorem d_Mo_see_17 : decode prog_14_method_67_code 17 = .ok (.invokevirtual 224, 3) := by decide +kernel
theorem d_Mo_see_20 : decode prog_14_method_67_code 20 = .ok (.ifCond .ne 6, 3) := by decide +kernel
theorem d_Mo_see_23 : decode prog_14_method_67_code 23 = .ok (.bipush (-2), 2) := by decide +kernel
theorem d_Mo_see_25 : decode prog_14_method_67_code 25 = .ok (.ireturn, 1) := by decide +kernel
theorem d_Mo_see_26 : decode prog_14_method_67_code 26 = .ok (.aload_n 0, 1) := by decide +kernel
theorem d_Mo_see_27 : decode prog_14_method_67_code 27 = .ok (.getfield 138, 3) := by decide +kernel
theorem d_Mo_see_30 : decode prog_14_method_67_code 30 = .ok (.bipush 6, 2) := by decide +kernel
theorem d_Mo_see_32 : decode prog_14_method_67_code 32 = .ok (.if_icmp .ne 6, 3) := by decide +kernel
theorem d_Mo_see_35 : decode prog_14_method_67_code 35 = .ok (.bipush (-4), 2) := by decide +kernel
theorem d_Mo_see_37 : decode prog_14_method_67_code 37 = .ok (.ireturn, 1) := by decide +kernel
theorem d_Mo_see_38 : decode prog_14_method_67_code 38 = .ok (.aload_n 0, 1) := by decide +kernel
theorem d_Mo_see_39 : decode prog_14_method_67_code 39 = .ok (.getfield 141, 3) := by decide +kernel
theorem d_Mo_see_42 : decode prog_14_method_67_code 42 = .ok (.aload_n 0, 1) := by decide +kernel
theorem d_Mo_see_43 : decode prog_14_method_67_code 43 = .ok (.getfield 138, 3) := by decide +kernel
theorem d_Mo_see_46 : decode prog_14_method_67_code 46 = .ok (.iload_n 1, 1) := by decide +kernel
theorem d_Mo_see_47 : decode prog_14_method_67_code 47 = .ok (.iastore, 1) := by decide +kernel
theorem d_Mo_see_48 : decode prog_14_method_67_code 48 = .ok (.aload_n 0, 1) := by decide +kernel
theorem d_Mo_see_49 : decode prog_14_method_67_code 49 = .ok (.dup, 1) := by decide +kernel
theorem d_Mo_see_50 : decode prog_14_method_67_code 50 = .ok (.getfield 138, 3) := by decide +kernel
theorem d_Mo_see_53 : decode prog_14_method_67_code 53 = .ok (.iconst 1, 1) := by decide +kernel
theorem d_Mo_see_54 : decode prog_14_method_67_code 54 = .ok (.iadd, 1) := by decide +kernel
theorem d_Mo_see_55 : decode prog_14_method_67_code 55 = .ok (.putfield 138, 3) := by decide +kernel
theorem d_Mo_see_58 : decode prog_14_method_67_code 58 = .ok (.aload_n 0, 1) := by decide +kernel
theorem d_Mo_see_59 : decode prog_14_method_67_code 59 = .ok (.getfield 138, 3) := by decide +kernel
theorem d_Mo_see_62 : decode prog_14_method_67_code 62 = .ok (.ireturn, 1) := by decide +kernel
theorem d_Mo_who_0 : decode prog_14_method_68_code 0 = .ok (.aload_n 0, 1) := by decide +kernel
theorem d_Mo_who_1 : decode prog_14_method_68_code 1 = .ok (.iload_n 1, 1) := by decide +kernel
theorem d_Mo_who_2 : decode prog_14_method_68_code 2 = .ok (.invokevirtual 325, 3) := by decide +kernel
theorem d_Mo_who_5 : decode prog_14_method_68_code 5 = .ok (.ifCond .ne 6, 3) := by decide +kernel
theorem d_Mo_who_8 : decode prog_14_method_68_code 8 = .ok (.bipush (-2), 2) := by decide +kernel
theorem d_Mo_who_10 : decode prog_14_method_68_code 10 = .ok (.ireturn, 1) := by decide +kernel
theorem d_Mo_who_11 : decode prog_14_method_68_code 11 = .ok (.iconst 0, 1) := by decide +kernel
theorem d_Mo_who_12 : decode prog_14_method_68_code 12 = .ok (.istore_n 2, 1) := by decide +kernel
theorem d_Mo_who_13 : decode prog_14_method_68_code 13 = .ok (.iconst 0, 1) := by decide +kernel
theorem d_Mo_who_14 : decode prog_14_method_68_code 14 = .ok (.istore_n 3, 1) := by decide +kernel
theorem d_Mo_who_15 : decode prog_14_method_68_code 15 = .ok (.iload_n 3, 1) := by decide +kernel
theorem d_Mo_who_16 : decode prog_14_method_68_code 16 = .ok (.aload_n 0, 1) := by decide +kernel
theorem d_Mo_who_17 : decode prog_14_method_68_code 17 = .ok (.getfield 138, 3) := by decide +kernel
theorem d_Mo_who_20 : decode prog_14_method_68_code 20 = .ok (.if_icmp .ge 20, 3) := by decide +kernel
theorem d_Mo_who_23 : decode prog_14_method_68_code 23 = .ok (.iload_n 2, 1) := by decide +kernel
theorem d_Mo_who_24 : decode prog_14_method_68_code 24 = .ok (.iconst 1, 1) := by decide +kernel
theorem d_Mo_who_25 : decode prog_14_method_68_code 25 = .ok (.aload_n 0, 1) := by decide +kernel
theorem d_Mo_who_26 : decode prog_14_method_68_code 26 = .ok (.getfield 141, 3) := by decide +kernel
theorem d_Mo_who_29 : decode prog_14_method_68_code 29 = .ok (.iload_n 3, 1) := by decide +kernel
theorem d_Mo_who_30 : decode prog_14_method_68_code 30 = .ok (.iaload, 1) := by decide +kernel
theorem d_Mo_who_31 : decode prog_14_method_68_code 31 = .ok (.ishl, 1) := by decide +kernel
theorem d_Mo_who_32 : decode prog_14_method_68_code 32 = .ok (.ior, 1) := by decide +kernel
theorem d_Mo_who_33 : decode prog_14_method_68_code 33 = .ok (.istore_n 2, 1) := by decide +kernel
theorem d_Mo_who_34 : decode prog_14_method_68_code 34 = .ok (.iinc 3 1, 3) := by decide +kernel
theorem d_Mo_who_37 : decode prog_14_method_68_code 37 = .ok (.goto (-22), 3) := by decide +kernel
theorem d_Mo_who_40 : decode prog_14_method_68_code 40 = .ok (.iconst 0, 1) := by decide +kernel
theorem d_Mo_who_41 : decode prog_14_method_68_code 41 = .ok (.istore_n 3, 1) := by decide +kernel
theorem d_Mo_who_42 : decode prog_14_method_68_code 42 = .ok (.iconst 0, 1) := by decide +kernel
theorem d_Mo_who_43 : decode prog_14_method_68_code 43 = .ok (.istore 4, 2) := by decide +kernel
theorem d_Mo_who_45 : decode prog_14_method_68_code 45 = .ok (.iload 4, 2) := by decide +kernel
theorem d_Mo_who_47 : decode prog_14_method_68_code 47 = .ok (.aload_n 0, 1) := by decide +kernel
theorem d_Mo_who_48 : decode prog_14_method_68_code 48 = .ok (.getfield 7, 3) := by decide +kernel
theorem d_Mo_who_51 : decode prog_14_method_68_code 51 = .ok (.if_icmp .ge 65, 3) := by decide +kernel
theorem d_Mo_who_54 : decode prog_14_method_68_code 54 = .ok (.aload_n 0, 1) := by decide +kernel
theorem d_Mo_who_55 : decode prog_14_method_68_code 55 = .ok (.getfield 32, 3) := by decide +kernel
theorem d_Mo_who_58 : decode prog_14_method_68_code 58 = .ok (.iload 4, 2) := by decide +kernel
theorem d_Mo_who_60 : decode prog_14_method_68_code 60 = .ok (.dup2, 1) := by decide +kernel
theorem d_Mo_who_61 : decode prog_14_method_68_code 61 = .ok (.iaload, 1) := by decide +kernel
theorem d_Mo_who_62 : decode prog_14_method_68_code 62 = .ok (.bipush 40, 2) := by decide +kernel
theorem d_Mo_who_64 : decode prog_14_method_68_code 64 = .ok (.iadd, 1) := by decide +kernel
theorem d_Mo_who_65 : decode prog_14_method_68_code 65 = .ok (.iastore, 1) := by decide +kernel
theorem d_Mo_who_66 : decode prog_14_method_68_code 66 = .ok (.aload_n 0, 1) := by decide +kernel
theorem d_Mo_who_67 : decode prog_14_method_68_code 67 = .ok (.bipush 20, 2) := by decide +kernel
theorem d_Mo_who_69 : decode prog_14_method_68_code 69 = .ok (.iload_n 1, 1) := by decide +kernel
theorem d_Mo_who_70 : decode prog_14_method_68_code 70 = .ok (.iconst 0, 1) := by decide +kernel
theorem d_Mo_who_71 : decode prog_14_method_68_code 71 = .ok (.iconst 0, 1) := by decide +kernel
theorem d_Mo_who_72 : decode prog_14_method_68_code 72 = .ok (.invokevirtual 339, 3) := by decide +kernel
theorem d_Mo_who_75 : decode prog_14_method_68_code 75 = .ok (.aload_n 0, 1) := by decide +kernel
theorem d_Mo_who_76 : decode prog_14_method_68_code 76 = .ok (.getfield 32, 3) := by decide +kernel
theorem d_Mo_who_79 : decode prog_14_method_68_code 79 = .ok (.iload 4, 2) := by decide +kernel
theorem d_Mo_who_81 : decode prog_14_method_68_code 81 = .ok (.dup2, 1) := by decide +kernel
theorem d_Mo_who_82 : decode prog_14_method_68_code 82 = .ok (.iaload, 1) := by decide +kernel
theorem d_Mo_who_83 : decode prog_14_method_68_code 83 = .ok (.bipush 40, 2) := by decide +kernel
theorem d_Mo_who_85 : decode prog_14_method_68_code 85 = .ok (.isub, 1) := by decide +kernel
theorem d_Mo_who_86 : decode prog_14_method_68_code 86 = .ok (.iastore, 1) := by decide +kernel
theorem d_Mo_who_87 : decode prog_14_method_68_code 87 = .ok (.iload_n 3, 1) := by decide +kernel
theorem d_Mo_who_88 : decode prog_14_method_68_code 88 = .ok (.aload_n 0, 1) := by decide +kernel
theorem d_Mo_who_89 : decode prog_14_method_68_code 89 = .ok (.getfield 123, 3) := by decide +kernel
theorem d_Mo_who_92 : decode prog_14_method_68_code 92 = .ok (.iload_n 2, 1) := by decide +kernel
theorem d_Mo_who_93 : decode prog_14_method_68_code 93 = .ok (.ixor, 1) := by decide +kernel
theorem d_Mo_who_94 : decode prog_14_method_68_code 94 = .ok (.ldc_w 373, 3) := by decide +kernel
theorem d_Mo_who_97 : decode prog_14_method_68_code 97 = .ok (.if_icmp .ne 10, 3) := by decide +kernel
theorem d_Mo_who_100 : decode prog_14_method_68_code 100 = .ok (.iconst 1, 1) := by decide +kernel
theorem d_Mo_who_101 : decode prog_14_method_68_code 101 = .ok (.iload 4, 2) := by decide +kernel
theorem d_Mo_who_103 : decode prog_14_method_68_code 103 = .ok (.ishl, 1) := by decide +kernel
theorem d_Mo_who_104 : decode prog_14_method_68_code 104 = .ok (.goto 4, 3) := by decide +kernel
theorem d_Mo_who_107 : decode prog_14_method_68_code 107 = .ok (.iconst 0, 1) := by decide +kernel
theorem d_Mo_who_108 : decode prog_14_method_68_code 108 = .ok (.ior, 1) := by decide +kernel
theorem d_Mo_who_109 : decode prog_14_method_68_code 109 = .ok (.istore_n 3, 1) := by decide +kernel
theorem d_Mo_who_110 : decode prog_14_method_68_code 110 = .ok (.iinc 4 1, 3) := by decide +kernel
theorem d_Mo_who_113 : decode prog_14_method_68_code 113 = .ok (.goto (-68), 3) := by decide +kernel
theorem d_Mo_who_116 : decode prog_14_method_68_code 116 = .ok (.iload_n 3, 1) := by decide +kernel
theorem d_Mo_who_117 : decode prog_14_method_68_code 117 = .ok (.ireturn, 1) := by decide +kernel
theorem d_Mo_odds_0 : decode prog_14_method_71_code 0 = .ok (.aload_n 0, 1) := by decide +kernel
theorem d_Mo_odds_1 : decode prog_14_method_71_code 1 = .ok (.iload_n 1, 1) := by decide +kernel
theorem d_Mo_odds_2 : decode prog_14_method_71_code 2 = .ok (.iconst 1, 1) := by decide +kernel
theorem d_Mo_odds_3 : decode prog_14_method_71_code 3 = .ok (.bipush 20, 2) := by decide +kernel
theorem d_Mo_odds_5 : decode prog_14_method_71_code 5 = .ok (.invokevirtual 224, 3) := by decide +kernel
theorem d_Mo_odds_8 : decode prog_14_method_71_code 8 = .ok (.ifCond .eq 28, 3) := by decide +kernel
theorem d_Mo_odds_11 : decode prog_14_method_71_code 11 = .ok (.aload_n 0, 1) := by decide +kernel
theorem d_Mo_odds_12 : decode prog_14_method_71_code 12 = .ok (.iload_n 2, 1) := by decide +kernel
theorem d_Mo_odds_13 : decode prog_14_method_71_code 13 = .ok (.invokevirtual 325, 3) := by decide +kernel
theorem d_Mo_odds_16 : decode prog_14_method_71_code 16 = .ok (.ifCond .eq 20, 3) := by decide +kernel
theorem d_Mo_odds_19 : decode prog_14_method_71_code 19 = .ok (.aload_n 0, 1) := by decide +kernel
theorem d_Mo_odds_20 : decode prog_14_method_71_code 20 = .ok (.iload_n 3, 1) := by decide +kernel
theorem d_Mo_odds_21 : decode prog_14_method_71_code 21 = .ok (.iconst 0, 1) := by decide +kernel
theorem d_Mo_odds_22 : decode prog_14_method_71_code 22 = .ok (.iconst 1, 1) := by decide +kernel
theorem d_Mo_odds_23 : decode prog_14_method_71_code 23 = .ok (.invokevirtual 224, 3) := by decide +kernel
theorem d_Mo_odds_26 : decode prog_14_method_71_code 26 = .ok (.ifCond .eq 10, 3) := by decide +kernel
theorem d_Mo_odds_29 : decode prog_14_method_71_code 29 = .ok (.aload_n 0, 1) := by decide +kernel
theorem d_Mo_odds_30 : decode prog_14_method_71_code 30 = .ok (.getfield 7, 3) := by decide +kernel
theorem d_Mo_odds_33 : decode prog_14_method_71_code 33 = .ok (.ifCond .ne 7, 3) := by decide +kernel
theorem d_Mo_odds_36 : decode prog_14_method_71_code 36 = .ok (.ldc2_w 377, 3) := by decide +kernel
theorem d_Mo_odds_39 : decode prog_14_method_71_code 39 = .ok (.lreturn, 1) := by decide +kernel
theorem d_Mo_odds_40 : decode prog_14_method_71_code 40 = .ok (.iconst 0, 1) := by decide +kernel
theorem d_Mo_odds_41 : decode prog_14_method_71_code 41 = .ok (.istore 4, 2) := by decide +kernel
theorem d_Mo_odds_43 : decode prog_14_method_71_code 43 = .ok (.iconst 0, 1) := by decide +kernel
theorem d_Mo_odds_44 : decode prog_14_method_71_code 44 = .ok (.istore 5, 2) := by decide +kernel
theorem d_Mo_odds_46 : decode prog_14_method_71_code 46 = .ok (.iload 5, 2) := by decide +kernel
theorem d_Mo_odds_48 : decode prog_14_method_71_code 48 = .ok (.aload_n 0, 1) := by decide +kernel
theorem d_Mo_odds_49 : decode prog_14_method_71_code 49 = .ok (.getfield 7, 3) := by decide +kernel
theorem d_Mo_odds_52 : decode prog_14_method_71_code 52 = .ok (.if_icmp .ge 53, 3) := by decide +kernel
theorem d_Mo_odds_55 : decode prog_14_method_71_code 55 = .ok (.aload_n 0, 1) := by decide +kernel
theorem d_Mo_odds_56 : decode prog_14_method_71_code 56 = .ok (.getfield 32, 3) := by decide +kernel
theorem d_Mo_odds_59 : decode prog_14_method_71_code 59 = .ok (.iload 5, 2) := by decide +kernel
theorem d_Mo_odds_61 : decode prog_14_method_71_code 61 = .ok (.dup2, 1) := by decide +kernel
theorem d_Mo_odds_62 : decode prog_14_method_71_code 62 = .ok (.iaload, 1) := by decide +kernel
theorem d_Mo_odds_63 : decode prog_14_method_71_code 63 = .ok (.bipush 40, 2) := by decide +kernel
theorem d_Mo_odds_65 : decode prog_14_method_71_code 65 = .ok (.iadd, 1) := by decide +kernel
theorem d_Mo_odds_66 : decode prog_14_method_71_code 66 = .ok (.iastore, 1) := by decide +kernel
theorem d_Mo_odds_67 : decode prog_14_method_71_code 67 = .ok (.iload 4, 2) := by decide +kernel
theorem d_Mo_odds_69 : decode prog_14_method_71_code 69 = .ok (.aload_n 0, 1) := by decide +kernel
theorem d_Mo_odds_70 : decode prog_14_method_71_code 70 = .ok (.iload_n 1, 1) := by decide +kernel
theorem d_Mo_odds_71 : decode prog_14_method_71_code 71 = .ok (.iload_n 2, 1) := by decide +kernel
theorem d_Mo_odds_72 : decode prog_14_method_71_code 72 = .ok (.invokevirtual 346, 3) := by decide +kernel
theorem d_Mo_odds_75 : decode prog_14_method_71_code 75 = .ok (.iload_n 1, 1) := by decide +kernel
theorem d_Mo_odds_76 : decode prog_14_method_71_code 76 = .ok (.if_icmp .ne 7, 3) := by decide +kernel
theorem d_Mo_odds_79 : decode prog_14_method_71_code 79 = .ok (.iconst 1, 1) := by decide +kernel
theorem d_Mo_odds_80 : decode prog_14_method_71_code 80 = .ok (.goto 4, 3) := by decide +kernel
theorem d_Mo_odds_83 : decode prog_14_method_71_code 83 = .ok (.iconst 0, 1) := by decide +kernel
theorem d_Mo_odds_84 : decode prog_14_method_71_code 84 = .ok (.iadd, 1) := by decide +kernel
theorem d_Mo_odds_85 : decode prog_14_method_71_code 85 = .ok (.istore 4, 2) := by decide +kernel
theorem d_Mo_odds_87 : decode prog_14_method_71_code 87 = .ok (.aload_n 0, 1) := by decide +kernel
theorem d_Mo_odds_88 : decode prog_14_method_71_code 88 = .ok (.getfield 32, 3) := by decide +kernel
theorem d_Mo_odds_91 : decode prog_14_method_71_code 91 = .ok (.iload 5, 2) := by decide +kernel
theorem d_Mo_odds_93 : decode prog_14_method_71_code 93 = .ok (.dup2, 1) := by decide +kernel
theorem d_Mo_odds_94 : decode prog_14_method_71_code 94 = .ok (.iaload, 1) := by decide +kernel
theorem d_Mo_odds_95 : decode prog_14_method_71_code 95 = .ok (.bipush 40, 2) := by decide +kernel
theorem d_Mo_odds_97 : decode prog_14_method_71_code 97 = .ok (.isub, 1) := by decide +kernel
theorem d_Mo_odds_98 : decode prog_14_method_71_code 98 = .ok (.iastore, 1) := by decide +kernel
theorem d_Mo_odds_99 : decode prog_14_method_71_code 99 = .ok (.iinc 5 1, 3) := by decide +kernel
theorem d_Mo_odds_102 : decode prog_14_method_71_code 102 = .ok (.goto (-56), 3) := by decide +kernel
theorem d_Mo_odds_105 : decode prog_14_method_71_code 105 = .ok (.aload_n 0, 1) := by decide +kernel
theorem d_Mo_odds_106 : decode prog_14_method_71_code 106 = .ok (.iload 4, 2) := by decide +kernel
theorem d_Mo_odds_108 : decode prog_14_method_71_code 108 = .ok (.aload_n 0, 1) := by decide +kernel
theorem d_Mo_odds_109 : decode prog_14_method_71_code 109 = .ok (.getfield 7, 3) := by decide +kernel
theorem d_Mo_odds_112 : decode prog_14_method_71_code 112 = .ok (.iload_n 3, 1) := by decide +kernel
theorem d_Mo_odds_113 : decode prog_14_method_71_code 113 = .ok (.invokevirtual 379, 3) := by decide +kernel
theorem d_Mo_odds_116 : decode prog_14_method_71_code 116 = .ok (.lreturn, 1) := by decide +kernel
theorem d_Mo_lowest_0 : decode prog_14_method_70_code 0 = .ok (.aload_n 0, 1) := by decide +kernel
theorem d_Mo_lowest_1 : decode prog_14_method_70_code 1 = .ok (.iload_n 1, 1) := by decide +kernel
theorem d_Mo_lowest_2 : decode prog_14_method_70_code 2 = .ok (.iload_n 2, 1) := by decide +kernel
theorem d_Mo_lowest_3 : decode prog_14_method_70_code 3 = .ok (.invokevirtual 374, 3) := by decide +kernel
theorem d_Mo_lowest_6 : decode prog_14_method_70_code 6 = .ok (.istore 4, 2) := by decide +kernel
theorem d_Mo_lowest_8 : decode prog_14_method_70_code 8 = .ok (.iload_n 3, 1) := by decide +kernel
theorem d_Mo_lowest_9 : decode prog_14_method_70_code 9 = .ok (.ifCond .ne 11, 3) := by decide +kernel
theorem d_Mo_lowest_12 : decode prog_14_method_70_code 12 = .ok (.iload_n 1, 1) := by decide +kernel
theorem d_Mo_lowest_13 : decode prog_14_method_70_code 13 = .ok (.iload 4, 2) := by decide +kernel
theorem d_Mo_lowest_15 : decode prog_14_method_70_code 15 = .ok (.idiv, 1) := by decide +kernel
theorem d_Mo_lowest_16 : decode prog_14_method_70_code 16 = .ok (.i2l, 1) := by decide +kernel
theorem d_Mo_lowest_17 : decode prog_14_method_70_code 17 = .ok (.goto 8, 3) := by decide +kernel
theorem d_Mo_lowest_20 : decode prog_14_method_70_code 20 = .ok (.iload_n 2, 1) := by decide +kernel
theorem d_Mo_lowest_21 : decode prog_14_method_70_code 21 = .ok (.iload 4, 2) := by decide +kernel
theorem d_Mo_lowest_23 : decode prog_14_method_70_code 23 = .ok (.idiv, 1) := by decide +kernel
theorem d_Mo_lowest_24 : decode prog_14_method_70_code 24 = .ok (.i2l, 1) := by decide +kernel
theorem d_Mo_lowest_25 : decode prog_14_method_70_code 25 = .ok (.lreturn, 1) := by decide +kernel
theorem d_Mo_divisor_0 : decode prog_14_method_69_code 0 = .ok (.iload_n 1, 1) := by decide +kernel
theorem d_Mo_divisor_1 : decode prog_14_method_69_code 1 = .ok (.istore_n 3, 1) := by decide +kernel
theorem d_Mo_divisor_2 : decode prog_14_method_69_code 2 = .ok (.iload_n 2, 1) := by decide +kernel
theorem d_Mo_divisor_3 : decode prog_14_method_69_code 3 = .ok (.istore 4, 2) := by decide +kernel
theorem d_Mo_divisor_5 : decode prog_14_method_69_code 5 = .ok (.iload 4, 2) := by decide +kernel
theorem d_Mo_divisor_7 : decode prog_14_method_69_code 7 = .ok (.ifCond .eq 19, 3) := by decide +kernel
theorem d_Mo_divisor_10 : decode prog_14_method_69_code 10 = .ok (.iload_n 3, 1) := by decide +kernel
theorem d_Mo_divisor_11 : decode prog_14_method_69_code 11 = .ok (.iload 4, 2) := by decide +kernel
theorem d_Mo_divisor_13 : decode prog_14_method_69_code 13 = .ok (.irem, 1) := by decide +kernel
theorem d_Mo_divisor_14 : decode prog_14_method_69_code 14 = .ok (.istore 5, 2) := by decide +kernel
theorem d_Mo_divisor_16 : decode prog_14_method_69_code 16 = .ok (.iload 4, 2) := by decide +kernel
theorem d_Mo_divisor_18 : decode prog_14_method_69_code 18 = .ok (.istore_n 3, 1) := by decide +kernel
theorem d_Mo_divisor_19 : decode prog_14_method_69_code 19 = .ok (.iload 5, 2) := by decide +kernel
theorem d_Mo_divisor_21 : decode prog_14_method_69_code 21 = .ok (.istore 4, 2) := by decide +kernel
theorem d_Mo_divisor_23 : decode prog_14_method_69_code 23 = .ok (.goto (-18), 3) := by decide +kernel
theorem d_Mo_divisor_26 : decode prog_14_method_69_code 26 = .ok (.iload_n 3, 1) := by decide +kernel
theorem d_Mo_divisor_27 : decode prog_14_method_69_code 27 = .ok (.ireturn, 1) := by decide +kernel
theorem d_Mo_mean_0 : decode prog_14_method_72_code 0 = .ok (.aload_n 0, 1) := by decide +kernel
theorem d_Mo_mean_1 : decode prog_14_method_72_code 1 = .ok (.iload_n 1, 1) := by decide +kernel
theorem d_Mo_mean_2 : decode prog_14_method_72_code 2 = .ok (.iconst 1, 1) := by decide +kernel
theorem d_Mo_mean_3 : decode prog_14_method_72_code 3 = .ok (.bipush 20, 2) := by decide +kernel
theorem d_Mo_mean_5 : decode prog_14_method_72_code 5 = .ok (.invokevirtual 224, 3) := by decide +kernel
theorem d_Mo_mean_8 : decode prog_14_method_72_code 8 = .ok (.ifCond .eq 13, 3) := by decide +kernel
theorem d_Mo_mean_11 : decode prog_14_method_72_code 11 = .ok (.aload_n 0, 1) := by decide +kernel
theorem d_Mo_mean_12 : decode prog_14_method_72_code 12 = .ok (.iload_n 2, 1) := by decide +kernel
theorem d_Mo_mean_13 : decode prog_14_method_72_code 13 = .ok (.iconst 0, 1) := by decide +kernel
theorem d_Mo_mean_14 : decode prog_14_method_72_code 14 = .ok (.iconst 1, 1) := by decide +kernel
theorem d_Mo_mean_15 : decode prog_14_method_72_code 15 = .ok (.invokevirtual 224, 3) := by decide +kernel
theorem d_Mo_mean_18 : decode prog_14_method_72_code 18 = .ok (.ifCond .ne 7, 3) := by decide +kernel
theorem d_Mo_mean_21 : decode prog_14_method_72_code 21 = .ok (.ldc2_w 377, 3) := by decide +kernel
theorem d_Mo_mean_24 : decode prog_14_method_72_code 24 = .ok (.lreturn, 1) := by decide +kernel
theorem d_Mo_mean_25 : decode prog_14_method_72_code 25 = .ok (.iconst 0, 1) := by decide +kernel
theorem d_Mo_mean_26 : decode prog_14_method_72_code 26 = .ok (.istore_n 3, 1) := by decide +kernel
theorem d_Mo_mean_27 : decode prog_14_method_72_code 27 = .ok (.iconst 1, 1) := by decide +kernel
theorem d_Mo_mean_28 : decode prog_14_method_72_code 28 = .ok (.istore 4, 2) := by decide +kernel
theorem d_Mo_mean_30 : decode prog_14_method_72_code 30 = .ok (.iload 4, 2) := by decide +kernel
theorem d_Mo_mean_32 : decode prog_14_method_72_code 32 = .ok (.bipush 21, 2) := by decide +kernel
theorem d_Mo_mean_34 : decode prog_14_method_72_code 34 = .ok (.if_icmp .ge 19, 3) := by decide +kernel
theorem d_Mo_mean_37 : decode prog_14_method_72_code 37 = .ok (.iload_n 3, 1) := by decide +kernel
theorem d_Mo_mean_38 : decode prog_14_method_72_code 38 = .ok (.aload_n 0, 1) := by decide +kernel
theorem d_Mo_mean_39 : decode prog_14_method_72_code 39 = .ok (.iload_n 1, 1) := by decide +kernel
theorem d_Mo_mean_40 : decode prog_14_method_72_code 40 = .ok (.iload 4, 2) := by decide +kernel
theorem d_Mo_mean_42 : decode prog_14_method_72_code 42 = .ok (.invokevirtual 346, 3) := by decide +kernel
theorem d_Mo_mean_45 : decode prog_14_method_72_code 45 = .ok (.iadd, 1) := by decide +kernel
theorem d_Mo_mean_46 : decode prog_14_method_72_code 46 = .ok (.istore_n 3, 1) := by decide +kernel
theorem d_Mo_mean_47 : decode prog_14_method_72_code 47 = .ok (.iinc 4 1, 3) := by decide +kernel
theorem d_Mo_mean_50 : decode prog_14_method_72_code 50 = .ok (.goto (-20), 3) := by decide +kernel
theorem d_Mo_mean_53 : decode prog_14_method_72_code 53 = .ok (.aload_n 0, 1) := by decide +kernel
theorem d_Mo_mean_54 : decode prog_14_method_72_code 54 = .ok (.iload_n 3, 1) := by decide +kernel
theorem d_Mo_mean_55 : decode prog_14_method_72_code 55 = .ok (.bipush 20, 2) := by decide +kernel
theorem d_Mo_mean_57 : decode prog_14_method_72_code 57 = .ok (.iload_n 2, 1) := by decide +kernel
theorem d_Mo_mean_58 : decode prog_14_method_72_code 58 = .ok (.invokevirtual 379, 3) := by decide +kernel
theorem d_Mo_mean_61 : decode prog_14_method_72_code 61 = .ok (.lreturn, 1) := by decide +kernel
theorem d_Mo_book_0 : decode prog_14_method_73_code 0 = .ok (.iload_n 1, 1) := by decide +kernel
theorem d_Mo_book_1 : decode prog_14_method_73_code 1 = .ok (.iconst (-1), 1) := by decide +kernel
theorem d_Mo_book_2 : decode prog_14_method_73_code 2 = .ok (.if_icmp .ne 10, 3) := by decide +kernel
theorem d_Mo_book_5 : decode prog_14_method_73_code 5 = .ok (.aload_n 0, 1) := by decide +kernel
theorem d_Mo_book_6 : decode prog_14_method_73_code 6 = .ok (.iconst 0, 1) := by decide +kernel
theorem d_Mo_book_7 : decode prog_14_method_73_code 7 = .ok (.putfield 144, 3) := by decide +kernel
theorem d_Mo_book_10 : decode prog_14_method_73_code 10 = .ok (.iconst 0, 1) := by decide +kernel
theorem d_Mo_book_11 : decode prog_14_method_73_code 11 = .ok (.ireturn, 1) := by decide +kernel
theorem d_Mo_book_12 : decode prog_14_method_73_code 12 = .ok (.aload_n 0, 1) := by decide +kernel
theorem d_Mo_book_13 : decode prog_14_method_73_code 13 = .ok (.iload_n 1, 1) := by decide +kernel
theorem d_Mo_book_14 : decode prog_14_method_73_code 14 = .ok (.iconst 0, 1) := by decide +kernel
theorem d_Mo_book_15 : decode prog_14_method_73_code 15 = .ok (.bipush 19, 2) := by decide +kernel
theorem d_Mo_book_17 : decode prog_14_method_73_code 17 = .ok (.invokevirtual 224, 3) := by decide +kernel
theorem d_Mo_book_20 : decode prog_14_method_73_code 20 = .ok (.ifCond .ne 6, 3) := by decide +kernel
theorem d_Mo_book_23 : decode prog_14_method_73_code 23 = .ok (.bipush (-2), 2) := by decide +kernel
theorem d_Mo_book_25 : decode prog_14_method_73_code 25 = .ok (.ireturn, 1) := by decide +kernel
theorem d_Mo_book_26 : decode prog_14_method_73_code 26 = .ok (.aload_n 0, 1) := by decide +kernel
theorem d_Mo_book_27 : decode prog_14_method_73_code 27 = .ok (.getfield 144, 3) := by decide +kernel
theorem d_Mo_book_30 : decode prog_14_method_73_code 30 = .ok (.bipush 8, 2) := by decide +kernel
theorem d_Mo_book_32 : decode prog_14_method_73_code 32 = .ok (.if_icmp .ne 6, 3) := by decide +kernel
theorem d_Mo_book_35 : decode prog_14_method_73_code 35 = .ok (.bipush (-4), 2) := by decide +kernel
theorem d_Mo_book_37 : decode prog_14_method_73_code 37 = .ok (.ireturn, 1) := by decide +kernel
theorem d_Mo_book_38 : decode prog_14_method_73_code 38 = .ok (.aload_n 0, 1) := by decide +kernel
theorem d_Mo_book_39 : decode prog_14_method_73_code 39 = .ok (.getfield 147, 3) := by decide +kernel
theorem d_Mo_book_42 : decode prog_14_method_73_code 42 = .ok (.aload_n 0, 1) := by decide +kernel
theorem d_Mo_book_43 : decode prog_14_method_73_code 43 = .ok (.getfield 144, 3) := by decide +kernel
theorem d_Mo_book_46 : decode prog_14_method_73_code 46 = .ok (.iload_n 1, 1) := by decide +kernel
theorem d_Mo_book_47 : decode prog_14_method_73_code 47 = .ok (.iastore, 1) := by decide +kernel
theorem d_Mo_book_48 : decode prog_14_method_73_code 48 = .ok (.aload_n 0, 1) := by decide +kernel
theorem d_Mo_book_49 : decode prog_14_method_73_code 49 = .ok (.getfield 150, 3) := by decide +kernel
theorem d_Mo_book_52 : decode prog_14_method_73_code 52 = .ok (.aload_n 0, 1) := by decide +kernel
theorem d_Mo_book_53 : decode prog_14_method_73_code 53 = .ok (.getfield 144, 3) := by decide +kernel
theorem d_Mo_book_56 : decode prog_14_method_73_code 56 = .ok (.iload_n 2, 1) := by decide +kernel
theorem d_Mo_book_57 : decode prog_14_method_73_code 57 = .ok (.bastore, 1) := by decide +kernel
theorem d_Mo_book_58 : decode prog_14_method_73_code 58 = .ok (.aload_n 0, 1) := by decide +kernel
theorem d_Mo_book_59 : decode prog_14_method_73_code 59 = .ok (.dup, 1) := by decide +kernel
theorem d_Mo_book_60 : decode prog_14_method_73_code 60 = .ok (.getfield 144, 3) := by decide +kernel
theorem d_Mo_book_63 : decode prog_14_method_73_code 63 = .ok (.iconst 1, 1) := by decide +kernel
theorem d_Mo_book_64 : decode prog_14_method_73_code 64 = .ok (.iadd, 1) := by decide +kernel
theorem d_Mo_book_65 : decode prog_14_method_73_code 65 = .ok (.putfield 144, 3) := by decide +kernel
theorem d_Mo_book_68 : decode prog_14_method_73_code 68 = .ok (.aload_n 0, 1) := by decide +kernel
theorem d_Mo_book_69 : decode prog_14_method_73_code 69 = .ok (.getfield 144, 3) := by decide +kernel
theorem d_Mo_book_72 : decode prog_14_method_73_code 72 = .ok (.ireturn, 1) := by decide +kernel
theorem d_Mo_looked_0 : decode prog_14_method_74_code 0 = .ok (.aload_n 0, 1) := by decide +kernel
theorem d_Mo_looked_1 : decode prog_14_method_74_code 1 = .ok (.iload_n 1, 1) := by decide +kernel
theorem d_Mo_looked_2 : decode prog_14_method_74_code 2 = .ok (.invokevirtual 325, 3) := by decide +kernel
theorem d_Mo_looked_5 : decode prog_14_method_74_code 5 = .ok (.ifCond .ne 6, 3) := by decide +kernel
theorem d_Mo_looked_8 : decode prog_14_method_74_code 8 = .ok (.bipush (-2), 2) := by decide +kernel
theorem d_Mo_looked_10 : decode prog_14_method_74_code 10 = .ok (.ireturn, 1) := by decide +kernel
theorem d_Mo_looked_11 : decode prog_14_method_74_code 11 = .ok (.aload_n 0, 1) := by decide +kernel
theorem d_Mo_looked_12 : decode prog_14_method_74_code 12 = .ok (.bipush 20, 2) := by decide +kernel
theorem d_Mo_looked_14 : decode prog_14_method_74_code 14 = .ok (.iload_n 1, 1) := by decide +kernel
theorem d_Mo_looked_15 : decode prog_14_method_74_code 15 = .ok (.iconst 0, 1) := by decide +kernel
theorem d_Mo_looked_16 : decode prog_14_method_74_code 16 = .ok (.iconst 0, 1) := by decide +kernel
theorem d_Mo_looked_17 : decode prog_14_method_74_code 17 = .ok (.invokevirtual 339, 3) := by decide +kernel
theorem d_Mo_looked_20 : decode prog_14_method_74_code 20 = .ok (.iconst 0, 1) := by decide +kernel
theorem d_Mo_looked_21 : decode prog_14_method_74_code 21 = .ok (.istore_n 2, 1) := by decide +kernel
theorem d_Mo_looked_22 : decode prog_14_method_74_code 22 = .ok (.iload_n 2, 1) := by decide +kernel
theorem d_Mo_looked_23 : decode prog_14_method_74_code 23 = .ok (.aload_n 0, 1) := by decide +kernel
theorem d_Mo_looked_24 : decode prog_14_method_74_code 24 = .ok (.getfield 144, 3) := by decide +kernel
theorem d_Mo_looked_27 : decode prog_14_method_74_code 27 = .ok (.if_icmp .ge 34, 3) := by decide +kernel
theorem d_Mo_looked_30 : decode prog_14_method_74_code 30 = .ok (.aload_n 0, 1) := by decide +kernel
theorem d_Mo_looked_31 : decode prog_14_method_74_code 31 = .ok (.aload_n 0, 1) := by decide +kernel
theorem d_Mo_looked_32 : decode prog_14_method_74_code 32 = .ok (.getfield 123, 3) := by decide +kernel
theorem d_Mo_looked_35 : decode prog_14_method_74_code 35 = .ok (.aload_n 0, 1) := by decide +kernel
theorem d_Mo_looked_36 : decode prog_14_method_74_code 36 = .ok (.getfield 147, 3) := by decide +kernel
theorem d_Mo_looked_39 : decode prog_14_method_74_code 39 = .ok (.iload_n 2, 1) := by decide +kernel
theorem d_Mo_looked_40 : decode prog_14_method_74_code 40 = .ok (.iaload, 1) := by decide +kernel
theorem d_Mo_looked_41 : decode prog_14_method_74_code 41 = .ok (.invokevirtual 352, 3) := by decide +kernel
theorem d_Mo_looked_44 : decode prog_14_method_74_code 44 = .ok (.aload_n 0, 1) := by decide +kernel
theorem d_Mo_looked_45 : decode prog_14_method_74_code 45 = .ok (.getfield 150, 3) := by decide +kernel
theorem d_Mo_looked_48 : decode prog_14_method_74_code 48 = .ok (.iload_n 2, 1) := by decide +kernel
theorem d_Mo_looked_49 : decode prog_14_method_74_code 49 = .ok (.baload, 1) := by decide +kernel
theorem d_Mo_looked_50 : decode prog_14_method_74_code 50 = .ok (.if_icmp .eq 5, 3) := by decide +kernel
theorem d_Mo_looked_53 : decode prog_14_method_74_code 53 = .ok (.iload_n 2, 1) := by decide +kernel
theorem d_Mo_looked_54 : decode prog_14_method_74_code 54 = .ok (.ireturn, 1) := by decide +kernel
theorem d_Mo_looked_55 : decode prog_14_method_74_code 55 = .ok (.iinc 2 1, 3) := by decide +kernel
theorem d_Mo_looked_58 : decode prog_14_method_74_code 58 = .ok (.goto (-36), 3) := by decide +kernel
theorem d_Mo_looked_61 : decode prog_14_method_74_code 61 = .ok (.bipush (-5), 2) := by decide +kernel
theorem d_Mo_looked_63 : decode prog_14_method_74_code 63 = .ok (.ireturn, 1) := by decide +kernel
theorem d_Mo_judge_0 : decode prog_14_method_75_code 0 = .ok (.aload_n 0, 1) := by decide +kernel
theorem d_Mo_judge_1 : decode prog_14_method_75_code 1 = .ok (.iload_n 1, 1) := by decide +kernel
theorem d_Mo_judge_2 : decode prog_14_method_75_code 2 = .ok (.invokevirtual 383, 3) := by decide +kernel
theorem d_Mo_judge_5 : decode prog_14_method_75_code 5 = .ok (.ifCond .ne 5, 3) := by decide +kernel
theorem d_Mo_judge_8 : decode prog_14_method_75_code 8 = .ok (.iconst (-1), 1) := by decide +kernel
theorem d_Mo_judge_9 : decode prog_14_method_75_code 9 = .ok (.ireturn, 1) := by decide +kernel
theorem d_Mo_judge_10 : decode prog_14_method_75_code 10 = .ok (.aload_n 0, 1) := by decide +kernel
theorem d_Mo_judge_11 : decode prog_14_method_75_code 11 = .ok (.getfield 211, 3) := by decide +kernel
theorem d_Mo_judge_14 : decode prog_14_method_75_code 14 = .ok (.iload_n 1, 1) := by decide +kernel
theorem d_Mo_judge_15 : decode prog_14_method_75_code 15 = .ok (.iaload, 1) := by decide +kernel
theorem d_Mo_judge_16 : decode prog_14_method_75_code 16 = .ok (.ifCond .lt 16, 3) := by decide +kernel
theorem d_Mo_judge_19 : decode prog_14_method_75_code 19 = .ok (.aload_n 0, 1) := by decide +kernel
theorem d_Mo_judge_20 : decode prog_14_method_75_code 20 = .ok (.getfield 211, 3) := by decide +kernel
theorem d_Mo_judge_23 : decode prog_14_method_75_code 23 = .ok (.iload_n 1, 1) := by decide +kernel
theorem d_Mo_judge_24 : decode prog_14_method_75_code 24 = .ok (.iaload, 1) := by decide +kernel
theorem d_Mo_judge_25 : decode prog_14_method_75_code 25 = .ok (.iconst 2, 1) := by decide +kernel
theorem d_Mo_judge_26 : decode prog_14_method_75_code 26 = .ok (.if_icmp .eq 6, 3) := by decide +kernel
theorem d_Mo_judge_29 : decode prog_14_method_75_code 29 = .ok (.bipush (-12), 2) := by decide +kernel
theorem d_Mo_judge_31 : decode prog_14_method_75_code 31 = .ok (.ireturn, 1) := by decide +kernel
theorem d_Mo_judge_32 : decode prog_14_method_75_code 32 = .ok (.iconst 0, 1) := by decide +kernel
theorem d_Mo_judge_33 : decode prog_14_method_75_code 33 = .ok (.istore_n 3, 1) := by decide +kernel
theorem d_Mo_judge_34 : decode prog_14_method_75_code 34 = .ok (.iload_n 3, 1) := by decide +kernel
theorem d_Mo_judge_35 : decode prog_14_method_75_code 35 = .ok (.aload_n 0, 1) := by decide +kernel
theorem d_Mo_judge_36 : decode prog_14_method_75_code 36 = .ok (.getfield 7, 3) := by decide +kernel
theorem d_Mo_judge_39 : decode prog_14_method_75_code 39 = .ok (.if_icmp .ge 67, 3) := by decide +kernel
theorem d_Mo_judge_42 : decode prog_14_method_75_code 42 = .ok (.aload_n 0, 1) := by decide +kernel
theorem d_Mo_judge_43 : decode prog_14_method_75_code 43 = .ok (.getfield 211, 3) := by decide +kernel
theorem d_Mo_judge_46 : decode prog_14_method_75_code 46 = .ok (.iload_n 1, 1) := by decide +kernel
theorem d_Mo_judge_47 : decode prog_14_method_75_code 47 = .ok (.iaload, 1) := by decide +kernel
theorem d_Mo_judge_48 : decode prog_14_method_75_code 48 = .ok (.ifCond .lt 21, 3) := by decide +kernel
theorem d_Mo_judge_51 : decode prog_14_method_75_code 51 = .ok (.iload_n 2, 1) := by decide +kernel
theorem d_Mo_judge_52 : decode prog_14_method_75_code 52 = .ok (.ifCond .lt 17, 3) := by decide +kernel
theorem d_Mo_judge_55 : decode prog_14_method_75_code 55 = .ok (.iload_n 2, 1) := by decide +kernel
theorem d_Mo_judge_56 : decode prog_14_method_75_code 56 = .ok (.aload_n 0, 1) := by decide +kernel
theorem d_Mo_judge_57 : decode prog_14_method_75_code 57 = .ok (.getfield 214, 3) := by decide +kernel
theorem d_Mo_judge_60 : decode prog_14_method_75_code 60 = .ok (.iload_n 1, 1) := by decide +kernel
theorem d_Mo_judge_61 : decode prog_14_method_75_code 61 = .ok (.iaload, 1) := by decide +kernel
theorem d_Mo_judge_62 : decode prog_14_method_75_code 62 = .ok (.iload_n 3, 1) := by decide +kernel
theorem d_Mo_judge_63 : decode prog_14_method_75_code 63 = .ok (.isub, 1) := by decide +kernel
theorem d_Mo_judge_64 : decode prog_14_method_75_code 64 = .ok (.iconst 1, 1) := by decide +kernel
theorem d_Mo_judge_65 : decode prog_14_method_75_code 65 = .ok (.isub, 1) := by decide +kernel
theorem d_Mo_judge_66 : decode prog_14_method_75_code 66 = .ok (.if_icmp .le 8, 3) := by decide +kernel
theorem d_Mo_judge_69 : decode prog_14_method_75_code 69 = .ok (.bipush 100, 2) := by decide +kernel
theorem d_Mo_judge_71 : decode prog_14_method_75_code 71 = .ok (.iload_n 3, 1) := by decide +kernel
theorem d_Mo_judge_72 : decode prog_14_method_75_code 72 = .ok (.iadd, 1) := by decide +kernel
theorem d_Mo_judge_73 : decode prog_14_method_75_code 73 = .ok (.ireturn, 1) := by decide +kernel
theorem d_Mo_judge_74 : decode prog_14_method_75_code 74 = .ok (.aload_n 0, 1) := by decide +kernel
theorem d_Mo_judge_75 : decode prog_14_method_75_code 75 = .ok (.getfield 217, 3) := by decide +kernel
theorem d_Mo_judge_78 : decode prog_14_method_75_code 78 = .ok (.bipush 60, 2) := by decide +kernel
theorem d_Mo_judge_80 : decode prog_14_method_75_code 80 = .ok (.iload_n 1, 1) := by decide +kernel
theorem d_Mo_judge_81 : decode prog_14_method_75_code 81 = .ok (.imul, 1) := by decide +kernel
theorem d_Mo_judge_82 : decode prog_14_method_75_code 82 = .ok (.iload_n 2, 1) := by decide +kernel
theorem d_Mo_judge_83 : decode prog_14_method_75_code 83 = .ok (.iadd, 1) := by decide +kernel
theorem d_Mo_judge_84 : decode prog_14_method_75_code 84 = .ok (.iload_n 3, 1) := by decide +kernel
theorem d_Mo_judge_85 : decode prog_14_method_75_code 85 = .ok (.iadd, 1) := by decide +kernel
theorem d_Mo_judge_86 : decode prog_14_method_75_code 86 = .ok (.laload, 1) := by decide +kernel
theorem d_Mo_judge_87 : decode prog_14_method_75_code 87 = .ok (.aload_n 0, 1) := by decide +kernel
theorem d_Mo_judge_88 : decode prog_14_method_75_code 88 = .ok (.getfield 35, 3) := by decide +kernel
theorem d_Mo_judge_91 : decode prog_14_method_75_code 91 = .ok (.iload_n 3, 1) := by decide +kernel
theorem d_Mo_judge_92 : decode prog_14_method_75_code 92 = .ok (.iaload, 1) := by decide +kernel
theorem d_Mo_judge_93 : decode prog_14_method_75_code 93 = .ok (.i2l, 1) := by decide +kernel
theorem d_Mo_judge_94 : decode prog_14_method_75_code 94 = .ok (.lcmp, 1) := by decide +kernel
theorem d_Mo_judge_95 : decode prog_14_method_75_code 95 = .ok (.ifCond .eq 5, 3) := by decide +kernel
theorem d_Mo_judge_98 : decode prog_14_method_75_code 98 = .ok (.iload_n 3, 1) := by decide +kernel
theorem d_Mo_judge_99 : decode prog_14_method_75_code 99 = .ok (.ireturn, 1) := by decide +kernel
theorem d_Mo_judge_100 : decode prog_14_method_75_code 100 = .ok (.iinc 3 1, 3) := by decide +kernel
theorem d_Mo_judge_103 : decode prog_14_method_75_code 103 = .ok (.goto (-69), 3) := by decide +kernel
theorem d_Mo_judge_106 : decode prog_14_method_75_code 106 = .ok (.bipush (-5), 2) := by decide +kernel
theorem d_Mo_judge_108 : decode prog_14_method_75_code 108 = .ok (.ireturn, 1) := by decide +kernel
theorem d_Mo_isTape_0 : decode prog_14_method_90_code 0 = .ok (.aload_n 0, 1) := by decide +kernel
theorem d_Mo_isTape_1 : decode prog_14_method_90_code 1 = .ok (.iload_n 1, 1) := by decide +kernel
theorem d_Mo_isTape_2 : decode prog_14_method_90_code 2 = .ok (.iconst 0, 1) := by decide +kernel
theorem d_Mo_isTape_3 : decode prog_14_method_90_code 3 = .ok (.iconst 5, 1) := by decide +kernel
theorem d_Mo_isTape_4 : decode prog_14_method_90_code 4 = .ok (.invokevirtual 224, 3) := by decide +kernel
theorem d_Mo_isTape_7 : decode prog_14_method_90_code 7 = .ok (.ireturn, 1) := by decide +kernel
theorem d_Mo_image_0 : decode prog_14_method_76_code 0 = .ok (.aload_n 0, 1) := by decide +kernel
theorem d_Mo_image_1 : decode prog_14_method_76_code 1 = .ok (.iconst 1, 1) := by decide +kernel
theorem d_Mo_image_2 : decode prog_14_method_76_code 2 = .ok (.putfield 153, 3) := by decide +kernel
theorem d_Mo_image_5 : decode prog_14_method_76_code 5 = .ok (.aload_n 0, 1) := by decide +kernel
theorem d_Mo_image_6 : decode prog_14_method_76_code 6 = .ok (.aload_n 0, 1) := by decide +kernel
theorem d_Mo_image_7 : decode prog_14_method_76_code 7 = .ok (.getfield 47, 3) := by decide +kernel
theorem d_Mo_image_10 : decode prog_14_method_76_code 10 = .ok (.putfield 157, 3) := by decide +kernel
theorem d_Mo_image_13 : decode prog_14_method_76_code 13 = .ok (.aload_n 0, 1) := by decide +kernel
theorem d_Mo_image_14 : decode prog_14_method_76_code 14 = .ok (.aload_n 0, 1) := by decide +kernel
theorem d_Mo_image_15 : decode prog_14_method_76_code 15 = .ok (.getfield 7, 3) := by decide +kernel
theorem d_Mo_image_18 : decode prog_14_method_76_code 18 = .ok (.putfield 160, 3) := by decide +kernel
theorem d_Mo_image_21 : decode prog_14_method_76_code 21 = .ok (.aload_n 0, 1) := by decide +kernel
theorem d_Mo_image_22 : decode prog_14_method_76_code 22 = .ok (.aload_n 0, 1) := by decide +kernel
theorem d_Mo_image_23 : decode prog_14_method_76_code 23 = .ok (.getfield 16, 3) := by decide +kernel
theorem d_Mo_image_26 : decode prog_14_method_76_code 26 = .ok (.putfield 163, 3) := by decide +kernel
theorem d_Mo_image_29 : decode prog_14_method_76_code 29 = .ok (.aload_n 0, 1) := by decide +kernel
theorem d_Mo_image_30 : decode prog_14_method_76_code 30 = .ok (.aload_n 0, 1) := by decide +kernel
theorem d_Mo_image_31 : decode prog_14_method_76_code 31 = .ok (.getfield 19, 3) := by decide +kernel
theorem d_Mo_image_34 : decode prog_14_method_76_code 34 = .ok (.putfield 166, 3) := by decide +kernel
theorem d_Mo_image_37 : decode prog_14_method_76_code 37 = .ok (.aload_n 0, 1) := by decide +kernel
theorem d_Mo_image_38 : decode prog_14_method_76_code 38 = .ok (.aload_n 0, 1) := by decide +kernel
theorem d_Mo_image_39 : decode prog_14_method_76_code 39 = .ok (.getfield 22, 3) := by decide +kernel
theorem d_Mo_image_42 : decode prog_14_method_76_code 42 = .ok (.putfield 169, 3) := by decide +kernel
theorem d_Mo_image_45 : decode prog_14_method_76_code 45 = .ok (.aload_n 0, 1) := by decide +kernel
theorem d_Mo_image_46 : decode prog_14_method_76_code 46 = .ok (.aload_n 0, 1) := by decide +kernel
theorem d_Mo_image_47 : decode prog_14_method_76_code 47 = .ok (.getfield 138, 3) := by decide +kernel
theorem d_Mo_image_50 : decode prog_14_method_76_code 50 = .ok (.putfield 172, 3) := by decide +kernel
theorem d_Mo_image_53 : decode prog_14_method_76_code 53 = .ok (.aload_n 0, 1) := by decide +kernel
theorem d_Mo_image_54 : decode prog_14_method_76_code 54 = .ok (.aload_n 0, 1) := by decide +kernel
theorem d_Mo_image_55 : decode prog_14_method_76_code 55 = .ok (.getfield 144, 3) := by decide +kernel
theorem d_Mo_image_58 : decode prog_14_method_76_code 58 = .ok (.putfield 175, 3) := by decide +kernel
theorem d_Mo_image_61 : decode prog_14_method_76_code 61 = .ok (.iconst 0, 1) := by decide +kernel
theorem d_Mo_image_62 : decode prog_14_method_76_code 62 = .ok (.istore_n 1, 1) := by decide +kernel
theorem d_Mo_image_63 : decode prog_14_method_76_code 63 = .ok (.iload_n 1, 1) := by decide +kernel
theorem d_Mo_image_64 : decode prog_14_method_76_code 64 = .ok (.bipush 6, 2) := by decide +kernel
theorem d_Mo_image_66 : decode prog_14_method_76_code 66 = .ok (.if_icmp .ge 81, 3) := by decide +kernel
theorem d_Mo_image_69 : decode prog_14_method_76_code 69 = .ok (.aload_n 0, 1) := by decide +kernel
theorem d_Mo_image_70 : decode prog_14_method_76_code 70 = .ok (.getfield 178, 3) := by decide +kernel
theorem d_Mo_image_73 : decode prog_14_method_76_code 73 = .ok (.iload_n 1, 1) := by decide +kernel
theorem d_Mo_image_74 : decode prog_14_method_76_code 74 = .ok (.aload_n 0, 1) := by decide +kernel
theorem d_Mo_image_75 : decode prog_14_method_76_code 75 = .ok (.getfield 25, 3) := by decide +kernel
theorem d_Mo_image_78 : decode prog_14_method_76_code 78 = .ok (.iload_n 1, 1) := by decide +kernel
theorem d_Mo_image_79 : decode prog_14_method_76_code 79 = .ok (.iaload, 1) := by decide +kernel
theorem d_Mo_image_80 : decode prog_14_method_76_code 80 = .ok (.iastore, 1) := by decide +kernel
theorem d_Mo_image_81 : decode prog_14_method_76_code 81 = .ok (.aload_n 0, 1) := by decide +kernel
theorem d_Mo_image_82 : decode prog_14_method_76_code 82 = .ok (.getfield 181, 3) := by decide +kernel
theorem d_Mo_image_85 : decode prog_14_method_76_code 85 = .ok (.iload_n 1, 1) := by decide +kernel
theorem d_Mo_image_86 : decode prog_14_method_76_code 86 = .ok (.aload_n 0, 1) := by decide +kernel
theorem d_Mo_image_87 : decode prog_14_method_76_code 87 = .ok (.getfield 29, 3) := by decide +kernel
theorem d_Mo_image_90 : decode prog_14_method_76_code 90 = .ok (.iload_n 1, 1) := by decide +kernel
theorem d_Mo_image_91 : decode prog_14_method_76_code 91 = .ok (.iaload, 1) := by decide +kernel
theorem d_Mo_image_92 : decode prog_14_method_76_code 92 = .ok (.iastore, 1) := by decide +kernel
theorem d_Mo_image_93 : decode prog_14_method_76_code 93 = .ok (.aload_n 0, 1) := by decide +kernel
theorem d_Mo_image_94 : decode prog_14_method_76_code 94 = .ok (.getfield 184, 3) := by decide +kernel
theorem d_Mo_image_97 : decode prog_14_method_76_code 97 = .ok (.iload_n 1, 1) := by decide +kernel
theorem d_Mo_image_98 : decode prog_14_method_76_code 98 = .ok (.aload_n 0, 1) := by decide +kernel
theorem d_Mo_image_99 : decode prog_14_method_76_code 99 = .ok (.getfield 32, 3) := by decide +kernel
theorem d_Mo_image_102 : decode prog_14_method_76_code 102 = .ok (.iload_n 1, 1) := by decide +kernel
theorem d_Mo_image_103 : decode prog_14_method_76_code 103 = .ok (.iaload, 1) := by decide +kernel
theorem d_Mo_image_104 : decode prog_14_method_76_code 104 = .ok (.iastore, 1) := by decide +kernel
theorem d_Mo_image_105 : decode prog_14_method_76_code 105 = .ok (.aload_n 0, 1) := by decide +kernel
theorem d_Mo_image_106 : decode prog_14_method_76_code 106 = .ok (.getfield 187, 3) := by decide +kernel
theorem d_Mo_image_109 : decode prog_14_method_76_code 109 = .ok (.iload_n 1, 1) := by decide +kernel
theorem d_Mo_image_110 : decode prog_14_method_76_code 110 = .ok (.aload_n 0, 1) := by decide +kernel
theorem d_Mo_image_111 : decode prog_14_method_76_code 111 = .ok (.getfield 35, 3) := by decide +kernel
theorem d_Mo_image_114 : decode prog_14_method_76_code 114 = .ok (.iload_n 1, 1) := by decide +kernel
theorem d_Mo_image_115 : decode prog_14_method_76_code 115 = .ok (.iaload, 1) := by decide +kernel
theorem d_Mo_image_116 : decode prog_14_method_76_code 116 = .ok (.iastore, 1) := by decide +kernel
theorem d_Mo_image_117 : decode prog_14_method_76_code 117 = .ok (.aload_n 0, 1) := by decide +kernel
theorem d_Mo_image_118 : decode prog_14_method_76_code 118 = .ok (.getfield 190, 3) := by decide +kernel
theorem d_Mo_image_121 : decode prog_14_method_76_code 121 = .ok (.iload_n 1, 1) := by decide +kernel
theorem d_Mo_image_122 : decode prog_14_method_76_code 122 = .ok (.aload_n 0, 1) := by decide +kernel
theorem d_Mo_image_123 : decode prog_14_method_76_code 123 = .ok (.getfield 41, 3) := by decide +kernel
theorem d_Mo_image_126 : decode prog_14_method_76_code 126 = .ok (.iload_n 1, 1) := by decide +kernel
theorem d_Mo_image_127 : decode prog_14_method_76_code 127 = .ok (.iaload, 1) := by decide +kernel
theorem d_Mo_image_128 : decode prog_14_method_76_code 128 = .ok (.iastore, 1) := by decide +kernel
theorem d_Mo_image_129 : decode prog_14_method_76_code 129 = .ok (.aload_n 0, 1) := by decide +kernel
theorem d_Mo_image_130 : decode prog_14_method_76_code 130 = .ok (.getfield 196, 3) := by decide +kernel
theorem d_Mo_image_133 : decode prog_14_method_76_code 133 = .ok (.iload_n 1, 1) := by decide +kernel
theorem d_Mo_image_134 : decode prog_14_method_76_code 134 = .ok (.aload_n 0, 1) := by decide +kernel
theorem d_Mo_image_135 : decode prog_14_method_76_code 135 = .ok (.getfield 141, 3) := by decide +kernel
theorem d_Mo_image_138 : decode prog_14_method_76_code 138 = .ok (.iload_n 1, 1) := by decide +kernel
theorem d_Mo_image_139 : decode prog_14_method_76_code 139 = .ok (.iaload, 1) := by decide +kernel
theorem d_Mo_image_140 : decode prog_14_method_76_code 140 = .ok (.iastore, 1) := by decide +kernel
theorem d_Mo_image_141 : decode prog_14_method_76_code 141 = .ok (.iinc 1 1, 3) := by decide +kernel
theorem d_Mo_image_144 : decode prog_14_method_76_code 144 = .ok (.goto (-81), 3) := by decide +kernel
theorem d_Mo_image_147 : decode prog_14_method_76_code 147 = .ok (.iconst 0, 1) := by decide +kernel
theorem d_Mo_image_148 : decode prog_14_method_76_code 148 = .ok (.istore_n 1, 1) := by decide +kernel
theorem d_Mo_image_149 : decode prog_14_method_76_code 149 = .ok (.iload_n 1, 1) := by decide +kernel
theorem d_Mo_image_150 : decode prog_14_method_76_code 150 = .ok (.bipush 24, 2) := by decide +kernel
theorem d_Mo_image_152 : decode prog_14_method_76_code 152 = .ok (.if_icmp .ge 21, 3) := by decide +kernel
theorem d_Mo_image_155 : decode prog_14_method_76_code 155 = .ok (.aload_n 0, 1) := by decide +kernel
theorem d_Mo_image_156 : decode prog_14_method_76_code 156 = .ok (.getfield 193, 3) := by decide +kernel
theorem d_Mo_image_159 : decode prog_14_method_76_code 159 = .ok (.iload_n 1, 1) := by decide +kernel
theorem d_Mo_image_160 : decode prog_14_method_76_code 160 = .ok (.aload_n 0, 1) := by decide +kernel
theorem d_Mo_image_161 : decode prog_14_method_76_code 161 = .ok (.getfield 38, 3) := by decide +kernel
theorem d_Mo_image_164 : decode prog_14_method_76_code 164 = .ok (.iload_n 1, 1) := by decide +kernel
theorem d_Mo_image_165 : decode prog_14_method_76_code 165 = .ok (.iaload, 1) := by decide +kernel
theorem d_Mo_image_166 : decode prog_14_method_76_code 166 = .ok (.iastore, 1) := by decide +kernel
theorem d_Mo_image_167 : decode prog_14_method_76_code 167 = .ok (.iinc 1 1, 3) := by decide +kernel
theorem d_Mo_image_170 : decode prog_14_method_76_code 170 = .ok (.goto (-21), 3) := by decide +kernel
theorem d_Mo_image_173 : decode prog_14_method_76_code 173 = .ok (.iconst 0, 1) := by decide +kernel
theorem d_Mo_image_174 : decode prog_14_method_76_code 174 = .ok (.istore_n 1, 1) := by decide +kernel
theorem d_Mo_image_175 : decode prog_14_method_76_code 175 = .ok (.iload_n 1, 1) := by decide +kernel
theorem d_Mo_image_176 : decode prog_14_method_76_code 176 = .ok (.bipush 8, 2) := by decide +kernel
theorem d_Mo_image_178 : decode prog_14_method_76_code 178 = .ok (.if_icmp .ge 33, 3) := by decide +kernel
theorem d_Mo_image_181 : decode prog_14_method_76_code 181 = .ok (.aload_n 0, 1) := by decide +kernel
theorem d_Mo_image_182 : decode prog_14_method_76_code 182 = .ok (.getfield 199, 3) := by decide +kernel
theorem d_Mo_image_185 : decode prog_14_method_76_code 185 = .ok (.iload_n 1, 1) := by decide +kernel
theorem d_Mo_image_186 : decode prog_14_method_76_code 186 = .ok (.aload_n 0, 1) := by decide +kernel
theorem d_Mo_image_187 : decode prog_14_method_76_code 187 = .ok (.getfield 147, 3) := by decide +kernel
theorem d_Mo_image_190 : decode prog_14_method_76_code 190 = .ok (.iload_n 1, 1) := by decide +kernel
theorem d_Mo_image_191 : decode prog_14_method_76_code 191 = .ok (.iaload, 1) := by decide +kernel
theorem d_Mo_image_192 : decode prog_14_method_76_code 192 = .ok (.iastore, 1) := by decide +kernel
theorem d_Mo_image_193 : decode prog_14_method_76_code 193 = .ok (.aload_n 0, 1) := by decide +kernel
theorem d_Mo_image_194 : decode prog_14_method_76_code 194 = .ok (.getfield 202, 3) := by decide +kernel
theorem d_Mo_image_197 : decode prog_14_method_76_code 197 = .ok (.iload_n 1, 1) := by decide +kernel
theorem d_Mo_image_198 : decode prog_14_method_76_code 198 = .ok (.aload_n 0, 1) := by decide +kernel
theorem d_Mo_image_199 : decode prog_14_method_76_code 199 = .ok (.getfield 150, 3) := by decide +kernel
theorem d_Mo_image_202 : decode prog_14_method_76_code 202 = .ok (.iload_n 1, 1) := by decide +kernel
theorem d_Mo_image_203 : decode prog_14_method_76_code 203 = .ok (.baload, 1) := by decide +kernel
theorem d_Mo_image_204 : decode prog_14_method_76_code 204 = .ok (.bastore, 1) := by decide +kernel
theorem d_Mo_image_205 : decode prog_14_method_76_code 205 = .ok (.iinc 1 1, 3) := by decide +kernel
theorem d_Mo_image_208 : decode prog_14_method_76_code 208 = .ok (.goto (-33), 3) := by decide +kernel
theorem d_Mo_image_211 : decode prog_14_method_76_code 211 = .ok (.aload_n 0, 1) := by decide +kernel
theorem d_Mo_image_212 : decode prog_14_method_76_code 212 = .ok (.getfield 7, 3) := by decide +kernel
theorem d_Mo_image_215 : decode prog_14_method_76_code 215 = .ok (.ireturn, 1) := by decide +kernel
theorem d_Mo_undo_0 : decode prog_14_method_77_code 0 = .ok (.aload_n 0, 1) := by decide +kernel
theorem d_Mo_undo_1 : decode prog_14_method_77_code 1 = .ok (.getfield 153, 3) := by decide +kernel
theorem d_Mo_undo_4 : decode prog_14_method_77_code 4 = .ok (.ifCond .ne 6, 3) := by decide +kernel
theorem d_Mo_undo_7 : decode prog_14_method_77_code 7 = .ok (.bipush (-3), 2) := by decide +kernel
theorem d_Mo_undo_9 : decode prog_14_method_77_code 9 = .ok (.ireturn, 1) := by decide +kernel
theorem d_Mo_undo_10 : decode prog_14_method_77_code 10 = .ok (.aload_n 0, 1) := by decide +kernel
theorem d_Mo_undo_11 : decode prog_14_method_77_code 11 = .ok (.aload_n 0, 1) := by decide +kernel
theorem d_Mo_undo_12 : decode prog_14_method_77_code 12 = .ok (.getfield 157, 3) := by decide +kernel
theorem d_Mo_undo_15 : decode prog_14_method_77_code 15 = .ok (.putfield 47, 3) := by decide +kernel
theorem d_Mo_undo_18 : decode prog_14_method_77_code 18 = .ok (.aload_n 0, 1) := by decide +kernel
theorem d_Mo_undo_19 : decode prog_14_method_77_code 19 = .ok (.aload_n 0, 1) := by decide +kernel
theorem d_Mo_undo_20 : decode prog_14_method_77_code 20 = .ok (.getfield 160, 3) := by decide +kernel
theorem d_Mo_undo_23 : decode prog_14_method_77_code 23 = .ok (.putfield 7, 3) := by decide +kernel
theorem d_Mo_undo_26 : decode prog_14_method_77_code 26 = .ok (.aload_n 0, 1) := by decide +kernel
theorem d_Mo_undo_27 : decode prog_14_method_77_code 27 = .ok (.aload_n 0, 1) := by decide +kernel
theorem d_Mo_undo_28 : decode prog_14_method_77_code 28 = .ok (.getfield 160, 3) := by decide +kernel
theorem d_Mo_undo_31 : decode prog_14_method_77_code 31 = .ok (.putfield 13, 3) := by decide +kernel
theorem d_Mo_undo_34 : decode prog_14_method_77_code 34 = .ok (.aload_n 0, 1) := by decide +kernel
theorem d_Mo_undo_35 : decode prog_14_method_77_code 35 = .ok (.aload_n 0, 1) := by decide +kernel
theorem d_Mo_undo_36 : decode prog_14_method_77_code 36 = .ok (.getfield 163, 3) := by decide +kernel
theorem d_Mo_undo_39 : decode prog_14_method_77_code 39 = .ok (.putfield 16, 3) := by decide +kernel
theorem d_Mo_undo_42 : decode prog_14_method_77_code 42 = .ok (.aload_n 0, 1) := by decide +kernel
theorem d_Mo_undo_43 : decode prog_14_method_77_code 43 = .ok (.aload_n 0, 1) := by decide +kernel
theorem d_Mo_undo_44 : decode prog_14_method_77_code 44 = .ok (.getfield 166, 3) := by decide +kernel
theorem d_Mo_undo_47 : decode prog_14_method_77_code 47 = .ok (.putfield 19, 3) := by decide +kernel
theorem d_Mo_undo_50 : decode prog_14_method_77_code 50 = .ok (.aload_n 0, 1) := by decide +kernel
theorem d_Mo_undo_51 : decode prog_14_method_77_code 51 = .ok (.aload_n 0, 1) := by decide +kernel
theorem d_Mo_undo_52 : decode prog_14_method_77_code 52 = .ok (.getfield 169, 3) := by decide +kernel
theorem d_Mo_undo_55 : decode prog_14_method_77_code 55 = .ok (.putfield 22, 3) := by decide +kernel
theorem d_Mo_undo_58 : decode prog_14_method_77_code 58 = .ok (.aload_n 0, 1) := by decide +kernel
theorem d_Mo_undo_59 : decode prog_14_method_77_code 59 = .ok (.aload_n 0, 1) := by decide +kernel
theorem d_Mo_undo_60 : decode prog_14_method_77_code 60 = .ok (.getfield 172, 3) := by decide +kernel
theorem d_Mo_undo_63 : decode prog_14_method_77_code 63 = .ok (.putfield 138, 3) := by decide +kernel
theorem d_Mo_undo_66 : decode prog_14_method_77_code 66 = .ok (.aload_n 0, 1) := by decide +kernel
theorem d_Mo_undo_67 : decode prog_14_method_77_code 67 = .ok (.aload_n 0, 1) := by decide +kernel
theorem d_Mo_undo_68 : decode prog_14_method_77_code 68 = .ok (.getfield 175, 3) := by decide +kernel
theorem d_Mo_undo_71 : decode prog_14_method_77_code 71 = .ok (.putfield 144, 3) := by decide +kernel
theorem d_Mo_undo_74 : decode prog_14_method_77_code 74 = .ok (.iconst 0, 1) := by decide +kernel
theorem d_Mo_undo_75 : decode prog_14_method_77_code 75 = .ok (.istore_n 1, 1) := by decide +kernel
theorem d_Mo_undo_76 : decode prog_14_method_77_code 76 = .ok (.iload_n 1, 1) := by decide +kernel
theorem d_Mo_undo_77 : decode prog_14_method_77_code 77 = .ok (.bipush 6, 2) := by decide +kernel
theorem d_Mo_undo_79 : decode prog_14_method_77_code 79 = .ok (.if_icmp .ge 81, 3) := by decide +kernel
theorem d_Mo_undo_82 : decode prog_14_method_77_code 82 = .ok (.aload_n 0, 1) := by decide +kernel
theorem d_Mo_undo_83 : decode prog_14_method_77_code 83 = .ok (.getfield 25, 3) := by decide +kernel
theorem d_Mo_undo_86 : decode prog_14_method_77_code 86 = .ok (.iload_n 1, 1) := by decide +kernel
theorem d_Mo_undo_87 : decode prog_14_method_77_code 87 = .ok (.aload_n 0, 1) := by decide +kernel
theorem d_Mo_undo_88 : decode prog_14_method_77_code 88 = .ok (.getfield 178, 3) := by decide +kernel
theorem d_Mo_undo_91 : decode prog_14_method_77_code 91 = .ok (.iload_n 1, 1) := by decide +kernel
theorem d_Mo_undo_92 : decode prog_14_method_77_code 92 = .ok (.iaload, 1) := by decide +kernel
theorem d_Mo_undo_93 : decode prog_14_method_77_code 93 = .ok (.iastore, 1) := by decide +kernel
theorem d_Mo_undo_94 : decode prog_14_method_77_code 94 = .ok (.aload_n 0, 1) := by decide +kernel
theorem d_Mo_undo_95 : decode prog_14_method_77_code 95 = .ok (.getfield 29, 3) := by decide +kernel
theorem d_Mo_undo_98 : decode prog_14_method_77_code 98 = .ok (.iload_n 1, 1) := by decide +kernel
theorem d_Mo_undo_99 : decode prog_14_method_77_code 99 = .ok (.aload_n 0, 1) := by decide +kernel
theorem d_Mo_undo_100 : decode prog_14_method_77_code 100 = .ok (.getfield 181, 3) := by decide +kernel
theorem d_Mo_undo_103 : decode prog_14_method_77_code 103 = .ok (.iload_n 1, 1) := by decide +kernel
theorem d_Mo_undo_104 : decode prog_14_method_77_code 104 = .ok (.iaload, 1) := by decide +kernel
theorem d_Mo_undo_105 : decode prog_14_method_77_code 105 = .ok (.iastore, 1) := by decide +kernel
theorem d_Mo_undo_106 : decode prog_14_method_77_code 106 = .ok (.aload_n 0, 1) := by decide +kernel
theorem d_Mo_undo_107 : decode prog_14_method_77_code 107 = .ok (.getfield 32, 3) := by decide +kernel
theorem d_Mo_undo_110 : decode prog_14_method_77_code 110 = .ok (.iload_n 1, 1) := by decide +kernel
theorem d_Mo_undo_111 : decode prog_14_method_77_code 111 = .ok (.aload_n 0, 1) := by decide +kernel
theorem d_Mo_undo_112 : decode prog_14_method_77_code 112 = .ok (.getfield 184, 3) := by decide +kernel
theorem d_Mo_undo_115 : decode prog_14_method_77_code 115 = .ok (.iload_n 1, 1) := by decide +kernel
theorem d_Mo_undo_116 : decode prog_14_method_77_code 116 = .ok (.iaload, 1) := by decide +kernel
theorem d_Mo_undo_117 : decode prog_14_method_77_code 117 = .ok (.iastore, 1) := by decide +kernel
theorem d_Mo_undo_118 : decode prog_14_method_77_code 118 = .ok (.aload_n 0, 1) := by decide +kernel
theorem d_Mo_undo_119 : decode prog_14_method_77_code 119 = .ok (.getfield 35, 3) := by decide +kernel
theorem d_Mo_undo_122 : decode prog_14_method_77_code 122 = .ok (.iload_n 1, 1) := by decide +kernel
theorem d_Mo_undo_123 : decode prog_14_method_77_code 123 = .ok (.aload_n 0, 1) := by decide +kernel
theorem d_Mo_undo_124 : decode prog_14_method_77_code 124 = .ok (.getfield 187, 3) := by decide +kernel
theorem d_Mo_undo_127 : decode prog_14_method_77_code 127 = .ok (.iload_n 1, 1) := by decide +kernel
theorem d_Mo_undo_128 : decode prog_14_method_77_code 128 = .ok (.iaload, 1) := by decide +kernel
theorem d_Mo_undo_129 : decode prog_14_method_77_code 129 = .ok (.iastore, 1) := by decide +kernel
theorem d_Mo_undo_130 : decode prog_14_method_77_code 130 = .ok (.aload_n 0, 1) := by decide +kernel
theorem d_Mo_undo_131 : decode prog_14_method_77_code 131 = .ok (.getfield 41, 3) := by decide +kernel
theorem d_Mo_undo_134 : decode prog_14_method_77_code 134 = .ok (.iload_n 1, 1) := by decide +kernel
theorem d_Mo_undo_135 : decode prog_14_method_77_code 135 = .ok (.aload_n 0, 1) := by decide +kernel
theorem d_Mo_undo_136 : decode prog_14_method_77_code 136 = .ok (.getfield 190, 3) := by decide +kernel
theorem d_Mo_undo_139 : decode prog_14_method_77_code 139 = .ok (.iload_n 1, 1) := by decide +kernel
theorem d_Mo_undo_140 : decode prog_14_method_77_code 140 = .ok (.iaload, 1) := by decide +kernel
theorem d_Mo_undo_141 : decode prog_14_method_77_code 141 = .ok (.iastore, 1) := by decide +kernel
theorem d_Mo_undo_142 : decode prog_14_method_77_code 142 = .ok (.aload_n 0, 1) := by decide +kernel
theorem d_Mo_undo_143 : decode prog_14_method_77_code 143 = .ok (.getfield 141, 3) := by decide +kernel
theorem d_Mo_undo_146 : decode prog_14_method_77_code 146 = .ok (.iload_n 1, 1) := by decide +kernel
theorem d_Mo_undo_147 : decode prog_14_method_77_code 147 = .ok (.aload_n 0, 1) := by decide +kernel
theorem d_Mo_undo_148 : decode prog_14_method_77_code 148 = .ok (.getfield 196, 3) := by decide +kernel
theorem d_Mo_undo_151 : decode prog_14_method_77_code 151 = .ok (.iload_n 1, 1) := by decide +kernel
theorem d_Mo_undo_152 : decode prog_14_method_77_code 152 = .ok (.iaload, 1) := by decide +kernel
theorem d_Mo_undo_153 : decode prog_14_method_77_code 153 = .ok (.iastore, 1) := by decide +kernel
theorem d_Mo_undo_154 : decode prog_14_method_77_code 154 = .ok (.iinc 1 1, 3) := by decide +kernel
theorem d_Mo_undo_157 : decode prog_14_method_77_code 157 = .ok (.goto (-81), 3) := by decide +kernel
theorem d_Mo_undo_160 : decode prog_14_method_77_code 160 = .ok (.iconst 0, 1) := by decide +kernel
theorem d_Mo_undo_161 : decode prog_14_method_77_code 161 = .ok (.istore_n 1, 1) := by decide +kernel
theorem d_Mo_undo_162 : decode prog_14_method_77_code 162 = .ok (.iload_n 1, 1) := by decide +kernel
theorem d_Mo_undo_163 : decode prog_14_method_77_code 163 = .ok (.bipush 24, 2) := by decide +kernel
theorem d_Mo_undo_165 : decode prog_14_method_77_code 165 = .ok (.if_icmp .ge 21, 3) := by decide +kernel
theorem d_Mo_undo_168 : decode prog_14_method_77_code 168 = .ok (.aload_n 0, 1) := by decide +kernel
theorem d_Mo_undo_169 : decode prog_14_method_77_code 169 = .ok (.getfield 38, 3) := by decide +kernel
theorem d_Mo_undo_172 : decode prog_14_method_77_code 172 = .ok (.iload_n 1, 1) := by decide +kernel
theorem d_Mo_undo_173 : decode prog_14_method_77_code 173 = .ok (.aload_n 0, 1) := by decide +kernel
theorem d_Mo_undo_174 : decode prog_14_method_77_code 174 = .ok (.getfield 193, 3) := by decide +kernel
theorem d_Mo_undo_177 : decode prog_14_method_77_code 177 = .ok (.iload_n 1, 1) := by decide +kernel
theorem d_Mo_undo_178 : decode prog_14_method_77_code 178 = .ok (.iaload, 1) := by decide +kernel
theorem d_Mo_undo_179 : decode prog_14_method_77_code 179 = .ok (.iastore, 1) := by decide +kernel
theorem d_Mo_undo_180 : decode prog_14_method_77_code 180 = .ok (.iinc 1 1, 3) := by decide +kernel
theorem d_Mo_undo_183 : decode prog_14_method_77_code 183 = .ok (.goto (-21), 3) := by decide +kernel
theorem d_Mo_undo_186 : decode prog_14_method_77_code 186 = .ok (.iconst 0, 1) := by decide +kernel
theorem d_Mo_undo_187 : decode prog_14_method_77_code 187 = .ok (.istore_n 1, 1) := by decide +kernel
theorem d_Mo_undo_188 : decode prog_14_method_77_code 188 = .ok (.iload_n 1, 1) := by decide +kernel
theorem d_Mo_undo_189 : decode prog_14_method_77_code 189 = .ok (.bipush 8, 2) := by decide +kernel
theorem d_Mo_undo_191 : decode prog_14_method_77_code 191 = .ok (.if_icmp .ge 33, 3) := by decide +kernel
theorem d_Mo_undo_194 : decode prog_14_method_77_code 194 = .ok (.aload_n 0, 1) := by decide +kernel
theorem d_Mo_undo_195 : decode prog_14_method_77_code 195 = .ok (.getfield 147, 3) := by decide +kernel
theorem d_Mo_undo_198 : decode prog_14_method_77_code 198 = .ok (.iload_n 1, 1) := by decide +kernel
theorem d_Mo_undo_199 : decode prog_14_method_77_code 199 = .ok (.aload_n 0, 1) := by decide +kernel
theorem d_Mo_undo_200 : decode prog_14_method_77_code 200 = .ok (.getfield 199, 3) := by decide +kernel
theorem d_Mo_undo_203 : decode prog_14_method_77_code 203 = .ok (.iload_n 1, 1) := by decide +kernel
theorem d_Mo_undo_204 : decode prog_14_method_77_code 204 = .ok (.iaload, 1) := by decide +kernel
theorem d_Mo_undo_205 : decode prog_14_method_77_code 205 = .ok (.iastore, 1) := by decide +kernel
theorem d_Mo_undo_206 : decode prog_14_method_77_code 206 = .ok (.aload_n 0, 1) := by decide +kernel
theorem d_Mo_undo_207 : decode prog_14_method_77_code 207 = .ok (.getfield 150, 3) := by decide +kernel
theorem d_Mo_undo_210 : decode prog_14_method_77_code 210 = .ok (.iload_n 1, 1) := by decide +kernel
theorem d_Mo_undo_211 : decode prog_14_method_77_code 211 = .ok (.aload_n 0, 1) := by decide +kernel
theorem d_Mo_undo_212 : decode prog_14_method_77_code 212 = .ok (.getfield 202, 3) := by decide +kernel
theorem d_Mo_undo_215 : decode prog_14_method_77_code 215 = .ok (.iload_n 1, 1) := by decide +kernel
theorem d_Mo_undo_216 : decode prog_14_method_77_code 216 = .ok (.baload, 1) := by decide +kernel
theorem d_Mo_undo_217 : decode prog_14_method_77_code 217 = .ok (.bastore, 1) := by decide +kernel
theorem d_Mo_undo_218 : decode prog_14_method_77_code 218 = .ok (.iinc 1 1, 3) := by decide +kernel
theorem d_Mo_undo_221 : decode prog_14_method_77_code 221 = .ok (.goto (-33), 3) := by decide +kernel
theorem d_Mo_undo_224 : decode prog_14_method_77_code 224 = .ok (.aload_n 0, 1) := by decide +kernel
theorem d_Mo_undo_225 : decode prog_14_method_77_code 225 = .ok (.getfield 7, 3) := by decide +kernel
theorem d_Mo_undo_228 : decode prog_14_method_77_code 228 = .ok (.ireturn, 1) := by decide +kernel
theorem d_Mo_act_0 : decode prog_14_method_86_code 0 = .ok (.aload_n 0, 1) := by decide +kernel
theorem d_Mo_act_1 : decode prog_14_method_86_code 1 = .ok (.iconst 0, 1) := by decide +kernel
theorem d_Mo_act_2 : decode prog_14_method_86_code 2 = .ok (.putfield 205, 3) := by decide +kernel
theorem d_Mo_act_5 : decode prog_14_method_86_code 5 = .ok (.aload_n 0, 1) := by decide +kernel
theorem d_Mo_act_6 : decode prog_14_method_86_code 6 = .ok (.iload_n 1, 1) := by decide +kernel
theorem d_Mo_act_7 : decode prog_14_method_86_code 7 = .ok (.invokevirtual 228, 3) := by decide +kernel
theorem d_Mo_act_10 : decode prog_14_method_86_code 10 = .ok (.ifCond .eq 13, 3) := by decide +kernel
theorem d_Mo_act_13 : decode prog_14_method_86_code 13 = .ok (.aload_n 0, 1) := by decide +kernel
theorem d_Mo_act_14 : decode prog_14_method_86_code 14 = .ok (.iload_n 2, 1) := by decide +kernel
theorem d_Mo_act_15 : decode prog_14_method_86_code 15 = .ok (.iconst 0, 1) := by decide +kernel
theorem d_Mo_act_16 : decode prog_14_method_86_code 16 = .ok (.iconst 2, 1) := by decide +kernel
theorem d_Mo_act_17 : decode prog_14_method_86_code 17 = .ok (.invokevirtual 224, 3) := by decide +kernel
theorem d_Mo_act_20 : decode prog_14_method_86_code 20 = .ok (.ifCond .ne 5, 3) := by decide +kernel
theorem d_Mo_act_23 : decode prog_14_method_86_code 23 = .ok (.iconst 0, 1) := by decide +kernel
theorem d_Mo_act_24 : decode prog_14_method_86_code 24 = .ok (.ireturn, 1) := by decide +kernel
theorem d_Mo_act_25 : decode prog_14_method_86_code 25 = .ok (.iload_n 2, 1) := by decide +kernel
theorem d_Mo_act_26 : decode prog_14_method_86_code 26 = .ok (.ifCond .ne 12, 3) := by decide +kernel
theorem d_Mo_act_29 : decode prog_14_method_86_code 29 = .ok (.aload_n 0, 1) := by decide +kernel
theorem d_Mo_act_30 : decode prog_14_method_86_code 30 = .ok (.iload_n 1, 1) := by decide +kernel
theorem d_Mo_act_31 : decode prog_14_method_86_code 31 = .ok (.iload_n 3, 1) := by decide +kernel
theorem d_Mo_act_32 : decode prog_14_method_86_code 32 = .ok (.invokevirtual 392, 3) := by decide +kernel
theorem d_Mo_act_35 : decode prog_14_method_86_code 35 = .ok (.goto 23, 3) := by decide +kernel
theorem d_Mo_act_38 : decode prog_14_method_86_code 38 = .ok (.iload_n 2, 1) := by decide +kernel
theorem d_Mo_act_39 : decode prog_14_method_86_code 39 = .ok (.iconst 1, 1) := by decide +kernel
theorem d_Mo_act_40 : decode prog_14_method_86_code 40 = .ok (.if_icmp .ne 12, 3) := by decide +kernel
theorem d_Mo_act_43 : decode prog_14_method_86_code 43 = .ok (.aload_n 0, 1) := by decide +kernel
theorem d_Mo_act_44 : decode prog_14_method_86_code 44 = .ok (.iload_n 1, 1) := by decide +kernel
theorem d_Mo_act_45 : decode prog_14_method_86_code 45 = .ok (.iload_n 3, 1) := by decide +kernel
theorem d_Mo_act_46 : decode prog_14_method_86_code 46 = .ok (.invokevirtual 401, 3) := by decide +kernel
theorem d_Mo_act_49 : decode prog_14_method_86_code 49 = .ok (.goto 9, 3) := by decide +kernel
theorem d_Mo_act_52 : decode prog_14_method_86_code 52 = .ok (.aload_n 0, 1) := by decide +kernel
theorem d_Mo_act_53 : decode prog_14_method_86_code 53 = .ok (.iload_n 1, 1) := by decide +kernel
theorem d_Mo_act_54 : decode prog_14_method_86_code 54 = .ok (.iload_n 3, 1) := by decide +kernel
theorem d_Mo_act_55 : decode prog_14_method_86_code 55 = .ok (.invokevirtual 407, 3) := by decide +kernel
theorem d_Mo_act_58 : decode prog_14_method_86_code 58 = .ok (.ireturn, 1) := by decide +kernel
theorem d_Mo_throwsAct_0 : decode prog_14_method_80_code 0 = .ok (.aload_n 0, 1) := by decide +kernel
theorem d_Mo_throwsAct_1 : decode prog_14_method_80_code 1 = .ok (.getfield 25, 3) := by decide +kernel
theorem d_Mo_throwsAct_4 : decode prog_14_method_80_code 4 = .ok (.iload_n 1, 1) := by decide +kernel
theorem d_Mo_throwsAct_5 : decode prog_14_method_80_code 5 = .ok (.iaload, 1) := by decide +kernel
theorem d_Mo_throwsAct_6 : decode prog_14_method_80_code 6 = .ok (.tableswitch 83 2 6 #[34, 83, 49, 34, 63], 34) := by decide +kernel
theorem d_Mo_throwsAct_40 : decode prog_14_method_80_code 40 = .ok (.aload_n 0, 1) := by decide +kernel
theorem d_Mo_throwsAct_41 : decode prog_14_method_80_code 41 = .ok (.bipush 30, 2) := by decide +kernel
theorem d_Mo_throwsAct_43 : decode prog_14_method_80_code 43 = .ok (.invokevirtual 386, 3) := by decide +kernel
theorem d_Mo_throwsAct_46 : decode prog_14_method_80_code 46 = .ok (.aload_n 0, 1) := by decide +kernel
theorem d_Mo_throwsAct_47 : decode prog_14_method_80_code 47 = .ok (.iload_n 1, 1) := by decide +kernel
theorem d_Mo_throwsAct_48 : decode prog_14_method_80_code 48 = .ok (.iload_n 2, 1) := by decide +kernel
theorem d_Mo_throwsAct_49 : decode prog_14_method_80_code 49 = .ok (.iconst 3, 1) := by decide +kernel
theorem d_Mo_throwsAct_50 : decode prog_14_method_80_code 50 = .ok (.imul, 1) := by decide +kernel
theorem d_Mo_throwsAct_51 : decode prog_14_method_80_code 51 = .ok (.invokevirtual 389, 3) := by decide +kernel
theorem d_Mo_throwsAct_54 : decode prog_14_method_80_code 54 = .ok (.ireturn, 1) := by decide +kernel
theorem d_Mo_throwsAct_55 : decode prog_14_method_80_code 55 = .ok (.aload_n 0, 1) := by decide +kernel
theorem d_Mo_throwsAct_56 : decode prog_14_method_80_code 56 = .ok (.bipush 50, 2) := by decide +kernel
theorem d_Mo_throwsAct_58 : decode prog_14_method_80_code 58 = .ok (.invokevirtual 386, 3) := by decide +kernel
theorem d_Mo_throwsAct_61 : decode prog_14_method_80_code 61 = .ok (.aload_n 0, 1) := by decide +kernel
theorem d_Mo_throwsAct_62 : decode prog_14_method_80_code 62 = .ok (.iload_n 1, 1) := by decide +kernel
theorem d_Mo_throwsAct_63 : decode prog_14_method_80_code 63 = .ok (.iload_n 2, 1) := by decide +kernel
theorem d_Mo_throwsAct_64 : decode prog_14_method_80_code 64 = .ok (.invokevirtual 389, 3) := by decide +kernel
theorem d_Mo_throwsAct_67 : decode prog_14_method_80_code 67 = .ok (.ineg, 1) := by decide +kernel
theorem d_Mo_throwsAct_68 : decode prog_14_method_80_code 68 = .ok (.ireturn, 1) := by decide +kernel
theorem d_Mo_throwsAct_69 : decode prog_14_method_80_code 69 = .ok (.aload_n 0, 1) := by decide +kernel
theorem d_Mo_throwsAct_70 : decode prog_14_method_80_code 70 = .ok (.bipush 71, 2) := by decide +kernel
theorem d_Mo_throwsAct_72 : decode prog_14_method_80_code 72 = .ok (.invokevirtual 386, 3) := by decide +kernel
theorem d_Mo_throwsAct_75 : decode prog_14_method_80_code 75 = .ok (.aload_n 0, 1) := by decide +kernel
theorem d_Mo_throwsAct_76 : decode prog_14_method_80_code 76 = .ok (.iload_n 1, 1) := by decide +kernel
theorem d_Mo_throwsAct_77 : decode prog_14_method_80_code 77 = .ok (.iload_n 2, 1) := by decide +kernel
theorem d_Mo_throwsAct_78 : decode prog_14_method_80_code 78 = .ok (.invokevirtual 389, 3) := by decide +kernel
theorem d_Mo_throwsAct_81 : decode prog_14_method_80_code 81 = .ok (.aload_n 0, 1) := by decide +kernel
theorem d_Mo_throwsAct_82 : decode prog_14_method_80_code 82 = .ok (.getfield 29, 3) := by decide +kernel
theorem d_Mo_throwsAct_85 : decode prog_14_method_80_code 85 = .ok (.iload_n 1, 1) := by decide +kernel
theorem d_Mo_throwsAct_86 : decode prog_14_method_80_code 86 = .ok (.iaload, 1) := by decide +kernel
theorem d_Mo_throwsAct_87 : decode prog_14_method_80_code 87 = .ok (.ixor, 1) := by decide +kernel
theorem d_Mo_throwsAct_88 : decode prog_14_method_80_code 88 = .ok (.ireturn, 1) := by decide +kernel
theorem d_Mo_throwsAct_89 : decode prog_14_method_80_code 89 = .ok (.aload_n 0, 1) := by decide +kernel
theorem d_Mo_throwsAct_90 : decode prog_14_method_80_code 90 = .ok (.iload_n 1, 1) := by decide +kernel
theorem d_Mo_throwsAct_91 : decode prog_14_method_80_code 91 = .ok (.iload_n 2, 1) := by decide +kernel
theorem d_Mo_throwsAct_92 : decode prog_14_method_80_code 92 = .ok (.invokevirtual 389, 3) := by decide +kernel
theorem d_Mo_throwsAct_95 : decode prog_14_method_80_code 95 = .ok (.ireturn, 1) := by decide +kernel
theorem d_Mo_body_0 : decode prog_14_method_78_code 0 = .ok (.aload_n 0, 1) := by decide +kernel
theorem d_Mo_body_1 : decode prog_14_method_78_code 1 = .ok (.getfield 205, 3) := by decide +kernel
theorem d_Mo_body_4 : decode prog_14_method_78_code 4 = .ok (.bipush 20, 2) := by decide +kernel
theorem d_Mo_body_6 : decode prog_14_method_78_code 6 = .ok (.if_icmp .ge 13, 3) := by decide +kernel
theorem d_Mo_body_9 : decode prog_14_method_78_code 9 = .ok (.aload_n 0, 1) := by decide +kernel
theorem d_Mo_body_10 : decode prog_14_method_78_code 10 = .ok (.getfield 208, 3) := by decide +kernel
theorem d_Mo_body_13 : decode prog_14_method_78_code 13 = .ok (.aload_n 0, 1) := by decide +kernel
theorem d_Mo_body_14 : decode prog_14_method_78_code 14 = .ok (.getfield 205, 3) := by decide +kernel
theorem d_Mo_body_17 : decode prog_14_method_78_code 17 = .ok (.iload_n 1, 1) := by decide +kernel
theorem d_Mo_body_18 : decode prog_14_method_78_code 18 = .ok (.iastore, 1) := by decide +kernel
theorem d_Mo_body_19 : decode prog_14_method_78_code 19 = .ok (.aload_n 0, 1) := by decide +kernel
theorem d_Mo_body_20 : decode prog_14_method_78_code 20 = .ok (.dup, 1) := by decide +kernel
theorem d_Mo_body_21 : decode prog_14_method_78_code 21 = .ok (.getfield 205, 3) := by decide +kernel
theorem d_Mo_body_24 : decode prog_14_method_78_code 24 = .ok (.iconst 1, 1) := by decide +kernel
theorem d_Mo_body_25 : decode prog_14_method_78_code 25 = .ok (.iadd, 1) := by decide +kernel
theorem d_Mo_body_26 : decode prog_14_method_78_code 26 = .ok (.putfield 205, 3) := by decide +kernel
theorem d_Mo_body_29 : decode prog_14_method_78_code 29 = .ok (.return_, 1) := by decide +kernel
theorem d_Mo_manThrows_0 : decode prog_14_method_79_code 0 = .ok (.aload_n 0, 1) := by decide +kernel
theorem d_Mo_manThrows_1 : decode prog_14_method_79_code 1 = .ok (.bipush 10, 2) := by decide +kernel
theorem d_Mo_manThrows_3 : decode prog_14_method_79_code 3 = .ok (.invokevirtual 386, 3) := by decide +kernel
theorem d_Mo_manThrows_6 : decode prog_14_method_79_code 6 = .ok (.iload_n 2, 1) := by decide +kernel
theorem d_Mo_manThrows_7 : decode prog_14_method_79_code 7 = .ok (.iload_n 1, 1) := by decide +kernel
theorem d_Mo_manThrows_8 : decode prog_14_method_79_code 8 = .ok (.iadd, 1) := by decide +kernel
theorem d_Mo_manThrows_9 : decode prog_14_method_79_code 9 = .ok (.ireturn, 1) := by decide +kernel
theorem d_Mo_takesAct_0 : decode prog_14_method_83_code 0 = .ok (.aload_n 0, 1) := by decide +kernel
theorem d_Mo_takesAct_1 : decode prog_14_method_83_code 1 = .ok (.getfield 25, 3) := by decide +kernel
theorem d_Mo_takesAct_4 : decode prog_14_method_83_code 4 = .ok (.iload_n 1, 1) := by decide +kernel
theorem d_Mo_takesAct_5 : decode prog_14_method_83_code 5 = .ok (.iaload, 1) := by decide +kernel
theorem d_Mo_takesAct_6 : decode prog_14_method_83_code 6 = .ok (.lookupswitch 78 #[(1, 34), (4, 41), (6, 56)], 34) := by decide +kernel
theorem d_Mo_takesAct_40 : decode prog_14_method_83_code 40 = .ok (.aload_n 0, 1) := by decide +kernel
theorem d_Mo_takesAct_41 : decode prog_14_method_83_code 41 = .ok (.iload_n 1, 1) := by decide +kernel
theorem d_Mo_takesAct_42 : decode prog_14_method_83_code 42 = .ok (.iload_n 2, 1) := by decide +kernel
theorem d_Mo_takesAct_43 : decode prog_14_method_83_code 43 = .ok (.invokevirtual 398, 3) := by decide +kernel
theorem d_Mo_takesAct_46 : decode prog_14_method_83_code 46 = .ok (.ireturn, 1) := by decide +kernel
theorem d_Mo_takesAct_47 : decode prog_14_method_83_code 47 = .ok (.aload_n 0, 1) := by decide +kernel
theorem d_Mo_takesAct_48 : decode prog_14_method_83_code 48 = .ok (.bipush 51, 2) := by decide +kernel
theorem d_Mo_takesAct_50 : decode prog_14_method_83_code 50 = .ok (.invokevirtual 386, 3) := by decide +kernel
theorem d_Mo_takesAct_53 : decode prog_14_method_83_code 53 = .ok (.aload_n 0, 1) := by decide +kernel
theorem d_Mo_takesAct_54 : decode prog_14_method_83_code 54 = .ok (.iload_n 1, 1) := by decide +kernel
theorem d_Mo_takesAct_55 : decode prog_14_method_83_code 55 = .ok (.iload_n 2, 1) := by decide +kernel
theorem d_Mo_takesAct_56 : decode prog_14_method_83_code 56 = .ok (.iconst 1, 1) := by decide +kernel
theorem d_Mo_takesAct_57 : decode prog_14_method_83_code 57 = .ok (.iadd, 1) := by decide +kernel
theorem d_Mo_takesAct_58 : decode prog_14_method_83_code 58 = .ok (.invokevirtual 398, 3) := by decide +kernel
theorem d_Mo_takesAct_61 : decode prog_14_method_83_code 61 = .ok (.ireturn, 1) := by decide +kernel
theorem d_Mo_takesAct_62 : decode prog_14_method_83_code 62 = .ok (.aload_n 0, 1) := by decide +kernel
theorem d_Mo_takesAct_63 : decode prog_14_method_83_code 63 = .ok (.bipush 70, 2) := by decide +kernel
theorem d_Mo_takesAct_65 : decode prog_14_method_83_code 65 = .ok (.invokevirtual 386, 3) := by decide +kernel
theorem d_Mo_takesAct_68 : decode prog_14_method_83_code 68 = .ok (.aload_n 0, 1) := by decide +kernel
theorem d_Mo_takesAct_69 : decode prog_14_method_83_code 69 = .ok (.iload_n 1, 1) := by decide +kernel
theorem d_Mo_takesAct_70 : decode prog_14_method_83_code 70 = .ok (.iload_n 2, 1) := by decide +kernel
theorem d_Mo_takesAct_71 : decode prog_14_method_83_code 71 = .ok (.invokevirtual 395, 3) := by decide +kernel
theorem d_Mo_takesAct_74 : decode prog_14_method_83_code 74 = .ok (.istore_n 3, 1) := by decide +kernel
theorem d_Mo_takesAct_75 : decode prog_14_method_83_code 75 = .ok (.iload_n 3, 1) := by decide +kernel
theorem d_Mo_takesAct_76 : decode prog_14_method_83_code 76 = .ok (.aload_n 0, 1) := by decide +kernel
theorem d_Mo_takesAct_77 : decode prog_14_method_83_code 77 = .ok (.iload_n 1, 1) := by decide +kernel
theorem d_Mo_takesAct_78 : decode prog_14_method_83_code 78 = .ok (.iconst 2, 1) := by decide +kernel
theorem d_Mo_takesAct_79 : decode prog_14_method_83_code 79 = .ok (.invokevirtual 389, 3) := by decide +kernel
theorem d_Mo_takesAct_82 : decode prog_14_method_83_code 82 = .ok (.iadd, 1) := by decide +kernel
theorem d_Mo_takesAct_83 : decode prog_14_method_83_code 83 = .ok (.ireturn, 1) := by decide +kernel
theorem d_Mo_takesAct_84 : decode prog_14_method_83_code 84 = .ok (.aload_n 0, 1) := by decide +kernel
theorem d_Mo_takesAct_85 : decode prog_14_method_83_code 85 = .ok (.iload_n 1, 1) := by decide +kernel
theorem d_Mo_takesAct_86 : decode prog_14_method_83_code 86 = .ok (.iload_n 2, 1) := by decide +kernel
theorem d_Mo_takesAct_87 : decode prog_14_method_83_code 87 = .ok (.invokevirtual 395, 3) := by decide +kernel
theorem d_Mo_takesAct_90 : decode prog_14_method_83_code 90 = .ok (.ireturn, 1) := by decide +kernel
theorem d_Mo_strongTakes_0 : decode prog_14_method_82_code 0 = .ok (.aload_n 0, 1) := by decide +kernel
theorem d_Mo_strongTakes_1 : decode prog_14_method_82_code 1 = .ok (.bipush 20, 2) := by decide +kernel
theorem d_Mo_strongTakes_3 : decode prog_14_method_82_code 3 = .ok (.invokevirtual 386, 3) := by decide +kernel
theorem d_Mo_strongTakes_6 : decode prog_14_method_82_code 6 = .ok (.aload_n 0, 1) := by decide +kernel
theorem d_Mo_strongTakes_7 : decode prog_14_method_82_code 7 = .ok (.iload_n 1, 1) := by decide +kernel
theorem d_Mo_strongTakes_8 : decode prog_14_method_82_code 8 = .ok (.iload_n 2, 1) := by decide +kernel
theorem d_Mo_strongTakes_9 : decode prog_14_method_82_code 9 = .ok (.invokevirtual 395, 3) := by decide +kernel
theorem d_Mo_strongTakes_12 : decode prog_14_method_82_code 12 = .ok (.bipush 6, 2) := by decide +kernel
theorem d_Mo_strongTakes_14 : decode prog_14_method_82_code 14 = .ok (.ixor, 1) := by decide +kernel
theorem d_Mo_strongTakes_15 : decode prog_14_method_82_code 15 = .ok (.ireturn, 1) := by decide +kernel
theorem d_Mo_manTakes_0 : decode prog_14_method_81_code 0 = .ok (.aload_n 0, 1) := by decide +kernel
theorem d_Mo_manTakes_1 : decode prog_14_method_81_code 1 = .ok (.bipush 11, 2) := by decide +kernel
theorem d_Mo_manTakes_3 : decode prog_14_method_81_code 3 = .ok (.invokevirtual 386, 3) := by decide +kernel
theorem d_Mo_manTakes_6 : decode prog_14_method_81_code 6 = .ok (.aload_n 0, 1) := by decide +kernel
theorem d_Mo_manTakes_7 : decode prog_14_method_81_code 7 = .ok (.iload_n 1, 1) := by decide +kernel
theorem d_Mo_manTakes_8 : decode prog_14_method_81_code 8 = .ok (.iload_n 2, 1) := by decide +kernel
theorem d_Mo_manTakes_9 : decode prog_14_method_81_code 9 = .ok (.invokevirtual 392, 3) := by decide +kernel
theorem d_Mo_manTakes_12 : decode prog_14_method_81_code 12 = .ok (.aload_n 0, 1) := by decide +kernel
theorem d_Mo_manTakes_13 : decode prog_14_method_81_code 13 = .ok (.getfield 29, 3) := by decide +kernel
theorem d_Mo_manTakes_16 : decode prog_14_method_81_code 16 = .ok (.iload_n 1, 1) := by decide +kernel
theorem d_Mo_manTakes_17 : decode prog_14_method_81_code 17 = .ok (.iaload, 1) := by decide +kernel
theorem d_Mo_manTakes_18 : decode prog_14_method_81_code 18 = .ok (.isub, 1) := by decide +kernel
theorem d_Mo_manTakes_19 : decode prog_14_method_81_code 19 = .ok (.ireturn, 1) := by decide +kernel
theorem d_Mo_tellsAct_0 : decode prog_14_method_85_code 0 = .ok (.aload_n 0, 1) := by decide +kernel
theorem d_Mo_tellsAct_1 : decode prog_14_method_85_code 1 = .ok (.getfield 25, 3) := by decide +kernel
theorem d_Mo_tellsAct_4 : decode prog_14_method_85_code 4 = .ok (.iload_n 1, 1) := by decide +kernel
theorem d_Mo_tellsAct_5 : decode prog_14_method_85_code 5 = .ok (.iaload, 1) := by decide +kernel
theorem d_Mo_tellsAct_6 : decode prog_14_method_85_code 6 = .ok (.tableswitch 67 3 6 #[30, 67, 52, 30], 30) := by decide +kernel
theorem d_Mo_tellsAct_36 : decode prog_14_method_85_code 36 = .ok (.aload_n 0, 1) := by decide +kernel
theorem d_Mo_tellsAct_37 : decode prog_14_method_85_code 37 = .ok (.bipush 40, 2) := by decide +kernel
theorem d_Mo_tellsAct_39 : decode prog_14_method_85_code 39 = .ok (.invokevirtual 386, 3) := by decide +kernel
theorem d_Mo_tellsAct_42 : decode prog_14_method_85_code 42 = .ok (.aload_n 0, 1) := by decide +kernel
theorem d_Mo_tellsAct_43 : decode prog_14_method_85_code 43 = .ok (.iload_n 1, 1) := by decide +kernel
theorem d_Mo_tellsAct_44 : decode prog_14_method_85_code 44 = .ok (.iload_n 2, 1) := by decide +kernel
theorem d_Mo_tellsAct_45 : decode prog_14_method_85_code 45 = .ok (.invokevirtual 404, 3) := by decide +kernel
theorem d_Mo_tellsAct_48 : decode prog_14_method_85_code 48 = .ok (.istore_n 3, 1) := by decide +kernel
theorem d_Mo_tellsAct_49 : decode prog_14_method_85_code 49 = .ok (.iload_n 3, 1) := by decide +kernel
theorem d_Mo_tellsAct_50 : decode prog_14_method_85_code 50 = .ok (.aload_n 0, 1) := by decide +kernel
theorem d_Mo_tellsAct_51 : decode prog_14_method_85_code 51 = .ok (.iload_n 1, 1) := by decide +kernel
theorem d_Mo_tellsAct_52 : decode prog_14_method_85_code 52 = .ok (.iconst 1, 1) := by decide +kernel
theorem d_Mo_tellsAct_53 : decode prog_14_method_85_code 53 = .ok (.invokevirtual 401, 3) := by decide +kernel
theorem d_Mo_tellsAct_56 : decode prog_14_method_85_code 56 = .ok (.iadd, 1) := by decide +kernel
theorem d_Mo_tellsAct_57 : decode prog_14_method_85_code 57 = .ok (.ireturn, 1) := by decide +kernel
theorem d_Mo_tellsAct_58 : decode prog_14_method_85_code 58 = .ok (.aload_n 0, 1) := by decide +kernel
theorem d_Mo_tellsAct_59 : decode prog_14_method_85_code 59 = .ok (.bipush 60, 2) := by decide +kernel
theorem d_Mo_tellsAct_61 : decode prog_14_method_85_code 61 = .ok (.invokevirtual 386, 3) := by decide +kernel
theorem d_Mo_tellsAct_64 : decode prog_14_method_85_code 64 = .ok (.aload_n 0, 1) := by decide +kernel
theorem d_Mo_tellsAct_65 : decode prog_14_method_85_code 65 = .ok (.iload_n 1, 1) := by decide +kernel
theorem d_Mo_tellsAct_66 : decode prog_14_method_85_code 66 = .ok (.iload_n 2, 1) := by decide +kernel
theorem d_Mo_tellsAct_67 : decode prog_14_method_85_code 67 = .ok (.iload_n 1, 1) := by decide +kernel
theorem d_Mo_tellsAct_68 : decode prog_14_method_85_code 68 = .ok (.isub, 1) := by decide +kernel
theorem d_Mo_tellsAct_69 : decode prog_14_method_85_code 69 = .ok (.invokevirtual 404, 3) := by decide +kernel
theorem d_Mo_tellsAct_72 : decode prog_14_method_85_code 72 = .ok (.ireturn, 1) := by decide +kernel
theorem d_Mo_tellsAct_73 : decode prog_14_method_85_code 73 = .ok (.aload_n 0, 1) := by decide +kernel
theorem d_Mo_tellsAct_74 : decode prog_14_method_85_code 74 = .ok (.iload_n 1, 1) := by decide +kernel
theorem d_Mo_tellsAct_75 : decode prog_14_method_85_code 75 = .ok (.iload_n 2, 1) := by decide +kernel
theorem d_Mo_tellsAct_76 : decode prog_14_method_85_code 76 = .ok (.invokevirtual 404, 3) := by decide +kernel
theorem d_Mo_tellsAct_79 : decode prog_14_method_85_code 79 = .ok (.ireturn, 1) := by decide +kernel
theorem d_Mo_manTells_0 : decode prog_14_method_84_code 0 = .ok (.aload_n 0, 1) := by decide +kernel
theorem d_Mo_manTells_1 : decode prog_14_method_84_code 1 = .ok (.bipush 12, 2) := by decide +kernel
theorem d_Mo_manTells_3 : decode prog_14_method_84_code 3 = .ok (.invokevirtual 386, 3) := by decide +kernel
theorem d_Mo_manTells_6 : decode prog_14_method_84_code 6 = .ok (.aload_n 0, 1) := by decide +kernel
theorem d_Mo_manTells_7 : decode prog_14_method_84_code 7 = .ok (.iload_n 1, 1) := by decide +kernel
theorem d_Mo_manTells_8 : decode prog_14_method_84_code 8 = .ok (.iload_n 2, 1) := by decide +kernel
theorem d_Mo_manTells_9 : decode prog_14_method_84_code 9 = .ok (.invokevirtual 401, 3) := by decide +kernel
theorem d_Mo_manTells_12 : decode prog_14_method_84_code 12 = .ok (.iconst 2, 1) := by decide +kernel
theorem d_Mo_manTells_13 : decode prog_14_method_84_code 13 = .ok (.imul, 1) := by decide +kernel
theorem d_Mo_manTells_14 : decode prog_14_method_84_code 14 = .ok (.ireturn, 1) := by decide +kernel
theorem d_Mo_trace_0 : decode prog_14_method_87_code 0 = .ok (.aload_n 0, 1) := by decide +kernel
theorem d_Mo_trace_1 : decode prog_14_method_87_code 1 = .ok (.iload_n 1, 1) := by decide +kernel
theorem d_Mo_trace_2 : decode prog_14_method_87_code 2 = .ok (.iconst 0, 1) := by decide +kernel
theorem d_Mo_trace_3 : decode prog_14_method_87_code 3 = .ok (.bipush 19, 2) := by decide +kernel
theorem d_Mo_trace_5 : decode prog_14_method_87_code 5 = .ok (.invokevirtual 224, 3) := by decide +kernel
theorem d_Mo_trace_8 : decode prog_14_method_87_code 8 = .ok (.ifCond .eq 20, 3) := by decide +kernel
theorem d_Mo_trace_11 : decode prog_14_method_87_code 11 = .ok (.iload_n 1, 1) := by decide +kernel
theorem d_Mo_trace_12 : decode prog_14_method_87_code 12 = .ok (.aload_n 0, 1) := by decide +kernel
theorem d_Mo_trace_13 : decode prog_14_method_87_code 13 = .ok (.getfield 205, 3) := by decide +kernel
theorem d_Mo_trace_16 : decode prog_14_method_87_code 16 = .ok (.if_icmp .ge 12, 3) := by decide +kernel
theorem d_Mo_trace_19 : decode prog_14_method_87_code 19 = .ok (.aload_n 0, 1) := by decide +kernel
theorem d_Mo_trace_20 : decode prog_14_method_87_code 20 = .ok (.getfield 208, 3) := by decide +kernel
theorem d_Mo_trace_23 : decode prog_14_method_87_code 23 = .ok (.iload_n 1, 1) := by decide +kernel
theorem d_Mo_trace_24 : decode prog_14_method_87_code 24 = .ok (.iaload, 1) := by decide +kernel
theorem d_Mo_trace_25 : decode prog_14_method_87_code 25 = .ok (.goto 4, 3) := by decide +kernel
theorem d_Mo_trace_28 : decode prog_14_method_87_code 28 = .ok (.iconst (-1), 1) := by decide +kernel
theorem d_Mo_trace_29 : decode prog_14_method_87_code 29 = .ok (.ireturn, 1) := by decide +kernel
theorem d_Mo_taken_0 : decode prog_14_method_88_code 0 = .ok (.aload_n 0, 1) := by decide +kernel
theorem d_Mo_taken_1 : decode prog_14_method_88_code 1 = .ok (.iload_n 2, 1) := by decide +kernel
theorem d_Mo_taken_2 : decode prog_14_method_88_code 2 = .ok (.iconst 0, 1) := by decide +kernel
theorem d_Mo_taken_3 : decode prog_14_method_88_code 3 = .ok (.bipush 6, 2) := by decide +kernel
theorem d_Mo_taken_5 : decode prog_14_method_88_code 5 = .ok (.invokevirtual 224, 3) := by decide +kernel
theorem d_Mo_taken_8 : decode prog_14_method_88_code 8 = .ok (.ifCond .ne 6, 3) := by decide +kernel
theorem d_Mo_taken_11 : decode prog_14_method_88_code 11 = .ok (.bipush (-2), 2) := by decide +kernel
theorem d_Mo_taken_13 : decode prog_14_method_88_code 13 = .ok (.ireturn, 1) := by decide +kernel
theorem d_Mo_taken_14 : decode prog_14_method_88_code 14 = .ok (.aload_n 0, 1) := by decide +kernel
theorem d_Mo_taken_15 : decode prog_14_method_88_code 15 = .ok (.iload_n 1, 1) := by decide +kernel
theorem d_Mo_taken_16 : decode prog_14_method_88_code 16 = .ok (.invokevirtual 228, 3) := by decide +kernel
theorem d_Mo_taken_19 : decode prog_14_method_88_code 19 = .ok (.ifCond .ne 6, 3) := by decide +kernel
theorem d_Mo_taken_22 : decode prog_14_method_88_code 22 = .ok (.bipush (-11), 2) := by decide +kernel
theorem d_Mo_taken_24 : decode prog_14_method_88_code 24 = .ok (.ireturn, 1) := by decide +kernel
theorem d_Mo_taken_25 : decode prog_14_method_88_code 25 = .ok (.aload_n 0, 1) := by decide +kernel
theorem d_Mo_taken_26 : decode prog_14_method_88_code 26 = .ok (.getfield 25, 3) := by decide +kernel
theorem d_Mo_taken_29 : decode prog_14_method_88_code 29 = .ok (.iload_n 1, 1) := by decide +kernel
theorem d_Mo_taken_30 : decode prog_14_method_88_code 30 = .ok (.iaload, 1) := by decide +kernel
theorem d_Mo_taken_31 : decode prog_14_method_88_code 31 = .ok (.istore_n 3, 1) := by decide +kernel
theorem d_Mo_taken_32 : decode prog_14_method_88_code 32 = .ok (.iload_n 2, 1) := by decide +kernel
theorem d_Mo_taken_33 : decode prog_14_method_88_code 33 = .ok (.ifCond .eq 39, 3) := by decide +kernel
theorem d_Mo_taken_36 : decode prog_14_method_88_code 36 = .ok (.iload_n 3, 1) := by decide +kernel
theorem d_Mo_taken_37 : decode prog_14_method_88_code 37 = .ok (.iload_n 2, 1) := by decide +kernel
theorem d_Mo_taken_38 : decode prog_14_method_88_code 38 = .ok (.if_icmp .eq 34, 3) := by decide +kernel
theorem d_Mo_taken_41 : decode prog_14_method_88_code 41 = .ok (.iload_n 2, 1) := by decide +kernel
theorem d_Mo_taken_42 : decode prog_14_method_88_code 42 = .ok (.iconst 1, 1) := by decide +kernel
theorem d_Mo_taken_43 : decode prog_14_method_88_code 43 = .ok (.if_icmp .ne 8, 3) := by decide +kernel
theorem d_Mo_taken_46 : decode prog_14_method_88_code 46 = .ok (.iload_n 3, 1) := by decide +kernel
theorem d_Mo_taken_47 : decode prog_14_method_88_code 47 = .ok (.iconst 4, 1) := by decide +kernel
theorem d_Mo_taken_48 : decode prog_14_method_88_code 48 = .ok (.if_icmp .eq 24, 3) := by decide +kernel
theorem d_Mo_taken_51 : decode prog_14_method_88_code 51 = .ok (.iload_n 2, 1) := by decide +kernel
theorem d_Mo_taken_52 : decode prog_14_method_88_code 52 = .ok (.iconst 2, 1) := by decide +kernel
theorem d_Mo_taken_53 : decode prog_14_method_88_code 53 = .ok (.if_icmp .ne 8, 3) := by decide +kernel
theorem d_Mo_taken_56 : decode prog_14_method_88_code 56 = .ok (.iload_n 3, 1) := by decide +kernel
theorem d_Mo_taken_57 : decode prog_14_method_88_code 57 = .ok (.iconst 5, 1) := by decide +kernel
theorem d_Mo_taken_58 : decode prog_14_method_88_code 58 = .ok (.if_icmp .eq 14, 3) := by decide +kernel
theorem d_Mo_taken_61 : decode prog_14_method_88_code 61 = .ok (.iload_n 2, 1) := by decide +kernel
theorem d_Mo_taken_62 : decode prog_14_method_88_code 62 = .ok (.iconst 3, 1) := by decide +kernel
theorem d_Mo_taken_63 : decode prog_14_method_88_code 63 = .ok (.if_icmp .ne 13, 3) := by decide +kernel
theorem d_Mo_taken_66 : decode prog_14_method_88_code 66 = .ok (.iload_n 3, 1) := by decide +kernel
theorem d_Mo_taken_67 : decode prog_14_method_88_code 67 = .ok (.bipush 6, 2) := by decide +kernel
theorem d_Mo_taken_69 : decode prog_14_method_88_code 69 = .ok (.if_icmp .ne 7, 3) := by decide +kernel
theorem d_Mo_taken_72 : decode prog_14_method_88_code 72 = .ok (.iload_n 3, 1) := by decide +kernel
theorem d_Mo_taken_73 : decode prog_14_method_88_code 73 = .ok (.goto 5, 3) := by decide +kernel
theorem d_Mo_taken_76 : decode prog_14_method_88_code 76 = .ok (.bipush (-12), 2) := by decide +kernel
theorem d_Mo_taken_78 : decode prog_14_method_88_code 78 = .ok (.ireturn, 1) := by decide +kernel
theorem d_Mo_count_0 : decode prog_14_method_89_code 0 = .ok (.iload_n 1, 1) := by decide +kernel
theorem d_Mo_count_1 : decode prog_14_method_89_code 1 = .ok (.tableswitch 69 0 5 #[39, 44, 49, 54, 59, 64], 39) := by decide +kernel
theorem d_Mo_count_40 : decode prog_14_method_89_code 40 = .ok (.aload_n 0, 1) := by decide +kernel
theorem d_Mo_count_41 : decode prog_14_method_89_code 41 = .ok (.getfield 7, 3) := by decide +kernel
theorem d_Mo_count_44 : decode prog_14_method_89_code 44 = .ok (.ireturn, 1) := by decide +kernel
theorem d_Mo_count_45 : decode prog_14_method_89_code 45 = .ok (.aload_n 0, 1) := by decide +kernel
theorem d_Mo_count_46 : decode prog_14_method_89_code 46 = .ok (.getfield 44, 3) := by decide +kernel
theorem d_Mo_count_49 : decode prog_14_method_89_code 49 = .ok (.ireturn, 1) := by decide +kernel
theorem d_Mo_count_50 : decode prog_14_method_89_code 50 = .ok (.aload_n 0, 1) := by decide +kernel
theorem d_Mo_count_51 : decode prog_14_method_89_code 51 = .ok (.getfield 138, 3) := by decide +kernel
theorem d_Mo_count_54 : decode prog_14_method_89_code 54 = .ok (.ireturn, 1) := by decide +kernel
theorem d_Mo_count_55 : decode prog_14_method_89_code 55 = .ok (.aload_n 0, 1) := by decide +kernel
theorem d_Mo_count_56 : decode prog_14_method_89_code 56 = .ok (.getfield 144, 3) := by decide +kernel
theorem d_Mo_count_59 : decode prog_14_method_89_code 59 = .ok (.ireturn, 1) := by decide +kernel
theorem d_Mo_count_60 : decode prog_14_method_89_code 60 = .ok (.aload_n 0, 1) := by decide +kernel
theorem d_Mo_count_61 : decode prog_14_method_89_code 61 = .ok (.getfield 50, 3) := by decide +kernel
theorem d_Mo_count_64 : decode prog_14_method_89_code 64 = .ok (.ireturn, 1) := by decide +kernel
theorem d_Mo_count_65 : decode prog_14_method_89_code 65 = .ok (.aload_n 0, 1) := by decide +kernel
theorem d_Mo_count_66 : decode prog_14_method_89_code 66 = .ok (.getfield 205, 3) := by decide +kernel
theorem d_Mo_count_69 : decode prog_14_method_89_code 69 = .ok (.ireturn, 1) := by decide +kernel
theorem d_Mo_count_70 : decode prog_14_method_89_code 70 = .ok (.bipush (-2), 2) := by decide +kernel
theorem d_Mo_count_72 : decode prog_14_method_89_code 72 = .ok (.ireturn, 1) := by decide +kernel
theorem d_Mo_tape_0 : decode prog_14_method_91_code 0 = .ok (.aload_n 0, 1) := by decide +kernel
theorem d_Mo_tape_1 : decode prog_14_method_91_code 1 = .ok (.iload_n 1, 1) := by decide +kernel
theorem d_Mo_tape_2 : decode prog_14_method_91_code 2 = .ok (.invokevirtual 383, 3) := by decide +kernel
theorem d_Mo_tape_5 : decode prog_14_method_91_code 5 = .ok (.ifCond .ne 5, 3) := by decide +kernel
theorem d_Mo_tape_8 : decode prog_14_method_91_code 8 = .ok (.iconst (-1), 1) := by decide +kernel
theorem d_Mo_tape_9 : decode prog_14_method_91_code 9 = .ok (.ireturn, 1) := by decide +kernel
theorem d_Mo_tape_10 : decode prog_14_method_91_code 10 = .ok (.aload_n 0, 1) := by decide +kernel
theorem d_Mo_tape_11 : decode prog_14_method_91_code 11 = .ok (.iload_n 2, 1) := by decide +kernel
theorem d_Mo_tape_12 : decode prog_14_method_91_code 12 = .ok (.iconst (-1), 1) := by decide +kernel
theorem d_Mo_tape_13 : decode prog_14_method_91_code 13 = .ok (.iconst 4, 1) := by decide +kernel
theorem d_Mo_tape_14 : decode prog_14_method_91_code 14 = .ok (.invokevirtual 224, 3) := by decide +kernel
theorem d_Mo_tape_17 : decode prog_14_method_91_code 17 = .ok (.ifCond .eq 13, 3) := by decide +kernel
theorem d_Mo_tape_20 : decode prog_14_method_91_code 20 = .ok (.iload_n 2, 1) := by decide +kernel
theorem d_Mo_tape_21 : decode prog_14_method_91_code 21 = .ok (.ifCond .lt 12, 3) := by decide +kernel
theorem d_Mo_tape_24 : decode prog_14_method_91_code 24 = .ok (.iload_n 3, 1) := by decide +kernel
theorem d_Mo_tape_25 : decode prog_14_method_91_code 25 = .ok (.bipush 60, 2) := by decide +kernel
theorem d_Mo_tape_27 : decode prog_14_method_91_code 27 = .ok (.if_icmp .le 6, 3) := by decide +kernel
theorem d_Mo_tape_30 : decode prog_14_method_91_code 30 = .ok (.bipush (-2), 2) := by decide +kernel
theorem d_Mo_tape_32 : decode prog_14_method_91_code 32 = .ok (.ireturn, 1) := by decide +kernel
theorem d_Mo_tape_33 : decode prog_14_method_91_code 33 = .ok (.iload_n 2, 1) := by decide +kernel
theorem d_Mo_tape_34 : decode prog_14_method_91_code 34 = .ok (.ifCond .lt 10, 3) := by decide +kernel
theorem d_Mo_tape_37 : decode prog_14_method_91_code 37 = .ok (.iload_n 3, 1) := by decide +kernel
theorem d_Mo_tape_38 : decode prog_14_method_91_code 38 = .ok (.ifCond .ge 6, 3) := by decide +kernel
theorem d_Mo_tape_41 : decode prog_14_method_91_code 41 = .ok (.bipush (-14), 2) := by decide +kernel
theorem d_Mo_tape_43 : decode prog_14_method_91_code 43 = .ok (.ireturn, 1) := by decide +kernel
theorem d_Mo_tape_44 : decode prog_14_method_91_code 44 = .ok (.aload_n 0, 1) := by decide +kernel
theorem d_Mo_tape_45 : decode prog_14_method_91_code 45 = .ok (.getfield 211, 3) := by decide +kernel
theorem d_Mo_tape_48 : decode prog_14_method_91_code 48 = .ok (.iload_n 1, 1) := by decide +kernel
theorem d_Mo_tape_49 : decode prog_14_method_91_code 49 = .ok (.iload_n 2, 1) := by decide +kernel
theorem d_Mo_tape_50 : decode prog_14_method_91_code 50 = .ok (.iastore, 1) := by decide +kernel
theorem d_Mo_tape_51 : decode prog_14_method_91_code 51 = .ok (.aload_n 0, 1) := by decide +kernel
theorem d_Mo_tape_52 : decode prog_14_method_91_code 52 = .ok (.getfield 214, 3) := by decide +kernel
theorem d_Mo_tape_55 : decode prog_14_method_91_code 55 = .ok (.iload_n 1, 1) := by decide +kernel
theorem d_Mo_tape_56 : decode prog_14_method_91_code 56 = .ok (.iload_n 2, 1) := by decide +kernel
theorem d_Mo_tape_57 : decode prog_14_method_91_code 57 = .ok (.ifCond .ge 7, 3) := by decide +kernel
theorem d_Mo_tape_60 : decode prog_14_method_91_code 60 = .ok (.iconst 0, 1) := by decide +kernel
theorem d_Mo_tape_61 : decode prog_14_method_91_code 61 = .ok (.goto 4, 3) := by decide +kernel
theorem d_Mo_tape_64 : decode prog_14_method_91_code 64 = .ok (.iload_n 3, 1) := by decide +kernel
theorem d_Mo_tape_65 : decode prog_14_method_91_code 65 = .ok (.iastore, 1) := by decide +kernel
theorem d_Mo_tape_66 : decode prog_14_method_91_code 66 = .ok (.iconst 0, 1) := by decide +kernel
theorem d_Mo_tape_67 : decode prog_14_method_91_code 67 = .ok (.istore 4, 2) := by decide +kernel
theorem d_Mo_tape_69 : decode prog_14_method_91_code 69 = .ok (.iload 4, 2) := by decide +kernel
theorem d_Mo_tape_71 : decode prog_14_method_91_code 71 = .ok (.bipush 60, 2) := by decide +kernel
theorem d_Mo_tape_73 : decode prog_14_method_91_code 73 = .ok (.if_icmp .ge 22, 3) := by decide +kernel
theorem d_Mo_tape_76 : decode prog_14_method_91_code 76 = .ok (.aload_n 0, 1) := by decide +kernel
theorem d_Mo_tape_77 : decode prog_14_method_91_code 77 = .ok (.getfield 217, 3) := by decide +kernel
theorem d_Mo_tape_80 : decode prog_14_method_91_code 80 = .ok (.bipush 60, 2) := by decide +kernel
theorem d_Mo_tape_82 : decode prog_14_method_91_code 82 = .ok (.iload_n 1, 1) := by decide +kernel
theorem d_Mo_tape_83 : decode prog_14_method_91_code 83 = .ok (.imul, 1) := by decide +kernel
theorem d_Mo_tape_84 : decode prog_14_method_91_code 84 = .ok (.iload 4, 2) := by decide +kernel
theorem d_Mo_tape_86 : decode prog_14_method_91_code 86 = .ok (.iadd, 1) := by decide +kernel
theorem d_Mo_tape_87 : decode prog_14_method_91_code 87 = .ok (.lconst 0, 1) := by decide +kernel
theorem d_Mo_tape_88 : decode prog_14_method_91_code 88 = .ok (.lastore, 1) := by decide +kernel
theorem d_Mo_tape_89 : decode prog_14_method_91_code 89 = .ok (.iinc 4 1, 3) := by decide +kernel
theorem d_Mo_tape_92 : decode prog_14_method_91_code 92 = .ok (.goto (-23), 3) := by decide +kernel
theorem d_Mo_tape_95 : decode prog_14_method_91_code 95 = .ok (.iconst 1, 1) := by decide +kernel
theorem d_Mo_tape_96 : decode prog_14_method_91_code 96 = .ok (.ireturn, 1) := by decide +kernel
theorem d_Mo_item_0 : decode prog_14_method_93_code 0 = .ok (.aload_n 0, 1) := by decide +kernel
theorem d_Mo_item_1 : decode prog_14_method_93_code 1 = .ok (.iload_n 1, 1) := by decide +kernel
theorem d_Mo_item_2 : decode prog_14_method_93_code 2 = .ok (.invokevirtual 383, 3) := by decide +kernel
theorem d_Mo_item_5 : decode prog_14_method_93_code 5 = .ok (.ifCond .ne 5, 3) := by decide +kernel
theorem d_Mo_item_8 : decode prog_14_method_93_code 8 = .ok (.iconst (-1), 1) := by decide +kernel
theorem d_Mo_item_9 : decode prog_14_method_93_code 9 = .ok (.ireturn, 1) := by decide +kernel
theorem d_Mo_item_10 : decode prog_14_method_93_code 10 = .ok (.aload_n 0, 1) := by decide +kernel
theorem d_Mo_item_11 : decode prog_14_method_93_code 11 = .ok (.getfield 211, 3) := by decide +kernel
theorem d_Mo_item_14 : decode prog_14_method_93_code 14 = .ok (.iload_n 1, 1) := by decide +kernel
theorem d_Mo_item_15 : decode prog_14_method_93_code 15 = .ok (.iaload, 1) := by decide +kernel
theorem d_Mo_item_16 : decode prog_14_method_93_code 16 = .ok (.ifCond .ge 6, 3) := by decide +kernel
theorem d_Mo_item_19 : decode prog_14_method_93_code 19 = .ok (.bipush (-11), 2) := by decide +kernel
theorem d_Mo_item_21 : decode prog_14_method_93_code 21 = .ok (.ireturn, 1) := by decide +kernel
theorem d_Mo_item_22 : decode prog_14_method_93_code 22 = .ok (.aload_n 0, 1) := by decide +kernel
theorem d_Mo_item_23 : decode prog_14_method_93_code 23 = .ok (.iload_n 2, 1) := by decide +kernel
theorem d_Mo_item_24 : decode prog_14_method_93_code 24 = .ok (.iconst 0, 1) := by decide +kernel
theorem d_Mo_item_25 : decode prog_14_method_93_code 25 = .ok (.aload_n 0, 1) := by decide +kernel
theorem d_Mo_item_26 : decode prog_14_method_93_code 26 = .ok (.getfield 214, 3) := by decide +kernel
theorem d_Mo_item_29 : decode prog_14_method_93_code 29 = .ok (.iload_n 1, 1) := by decide +kernel
theorem d_Mo_item_30 : decode prog_14_method_93_code 30 = .ok (.iaload, 1) := by decide +kernel
theorem d_Mo_item_31 : decode prog_14_method_93_code 31 = .ok (.iconst 1, 1) := by decide +kernel
theorem d_Mo_item_32 : decode prog_14_method_93_code 32 = .ok (.isub, 1) := by decide +kernel
theorem d_Mo_item_33 : decode prog_14_method_93_code 33 = .ok (.invokevirtual 224, 3) := by decide +kernel
theorem d_Mo_item_36 : decode prog_14_method_93_code 36 = .ok (.ifCond .ne 6, 3) := by decide +kernel
theorem d_Mo_item_39 : decode prog_14_method_93_code 39 = .ok (.bipush (-13), 2) := by decide +kernel
theorem d_Mo_item_41 : decode prog_14_method_93_code 41 = .ok (.ireturn, 1) := by decide +kernel
theorem d_Mo_item_42 : decode prog_14_method_93_code 42 = .ok (.aload_n 0, 1) := by decide +kernel
theorem d_Mo_item_43 : decode prog_14_method_93_code 43 = .ok (.getfield 217, 3) := by decide +kernel
theorem d_Mo_item_46 : decode prog_14_method_93_code 46 = .ok (.bipush 60, 2) := by decide +kernel
theorem d_Mo_item_48 : decode prog_14_method_93_code 48 = .ok (.iload_n 1, 1) := by decide +kernel
theorem d_Mo_item_49 : decode prog_14_method_93_code 49 = .ok (.imul, 1) := by decide +kernel
theorem d_Mo_item_50 : decode prog_14_method_93_code 50 = .ok (.iload_n 2, 1) := by decide +kernel
theorem d_Mo_item_51 : decode prog_14_method_93_code 51 = .ok (.iadd, 1) := by decide +kernel
theorem d_Mo_item_52 : decode prog_14_method_93_code 52 = .ok (.aload_n 0, 1) := by decide +kernel
theorem d_Mo_item_53 : decode prog_14_method_93_code 53 = .ok (.aload_n 0, 1) := by decide +kernel
theorem d_Mo_item_54 : decode prog_14_method_93_code 54 = .ok (.getfield 211, 3) := by decide +kernel
theorem d_Mo_item_57 : decode prog_14_method_93_code 57 = .ok (.iload_n 1, 1) := by decide +kernel
theorem d_Mo_item_58 : decode prog_14_method_93_code 58 = .ok (.iaload, 1) := by decide +kernel
theorem d_Mo_item_59 : decode prog_14_method_93_code 59 = .ok (.lload_n 3, 1) := by decide +kernel
theorem d_Mo_item_60 : decode prog_14_method_93_code 60 = .ok (.invokevirtual 410, 3) := by decide +kernel
theorem d_Mo_item_63 : decode prog_14_method_93_code 63 = .ok (.lastore, 1) := by decide +kernel
theorem d_Mo_item_64 : decode prog_14_method_93_code 64 = .ok (.iconst 1, 1) := by decide +kernel
theorem d_Mo_item_65 : decode prog_14_method_93_code 65 = .ok (.ireturn, 1) := by decide +kernel
theorem d_Mo_narrow_0 : decode prog_14_method_92_code 0 = .ok (.iload_n 1, 1) := by decide +kernel
theorem d_Mo_narrow_1 : decode prog_14_method_92_code 1 = .ok (.ifCond .ne 10, 3) := by decide +kernel
theorem d_Mo_narrow_4 : decode prog_14_method_92_code 4 = .ok (.lload_n 2, 1) := by decide +kernel
theorem d_Mo_narrow_5 : decode prog_14_method_92_code 5 = .ok (.l2i, 1) := by decide +kernel
theorem d_Mo_narrow_6 : decode prog_14_method_92_code 6 = .ok (.i2b, 1) := by decide +kernel
theorem d_Mo_narrow_7 : decode prog_14_method_92_code 7 = .ok (.i2l, 1) := by decide +kernel
theorem d_Mo_narrow_8 : decode prog_14_method_92_code 8 = .ok (.goto 46, 3) := by decide +kernel
theorem d_Mo_narrow_11 : decode prog_14_method_92_code 11 = .ok (.iload_n 1, 1) := by decide +kernel
theorem d_Mo_narrow_12 : decode prog_14_method_92_code 12 = .ok (.iconst 1, 1) := by decide +kernel
theorem d_Mo_narrow_13 : decode prog_14_method_92_code 13 = .ok (.if_icmp .ne 10, 3) := by decide +kernel
theorem d_Mo_narrow_16 : decode prog_14_method_92_code 16 = .ok (.lload_n 2, 1) := by decide +kernel
theorem d_Mo_narrow_17 : decode prog_14_method_92_code 17 = .ok (.l2i, 1) := by decide +kernel
theorem d_Mo_narrow_18 : decode prog_14_method_92_code 18 = .ok (.i2s, 1) := by decide +kernel
theorem d_Mo_narrow_19 : decode prog_14_method_92_code 19 = .ok (.i2l, 1) := by decide +kernel
theorem d_Mo_narrow_20 : decode prog_14_method_92_code 20 = .ok (.goto 34, 3) := by decide +kernel
theorem d_Mo_narrow_23 : decode prog_14_method_92_code 23 = .ok (.iload_n 1, 1) := by decide +kernel
theorem d_Mo_narrow_24 : decode prog_14_method_92_code 24 = .ok (.iconst 2, 1) := by decide +kernel
theorem d_Mo_narrow_25 : decode prog_14_method_92_code 25 = .ok (.if_icmp .ne 9, 3) := by decide +kernel
theorem d_Mo_narrow_28 : decode prog_14_method_92_code 28 = .ok (.lload_n 2, 1) := by decide +kernel
theorem d_Mo_narrow_29 : decode prog_14_method_92_code 29 = .ok (.l2i, 1) := by decide +kernel
theorem d_Mo_narrow_30 : decode prog_14_method_92_code 30 = .ok (.i2l, 1) := by decide +kernel
theorem d_Mo_narrow_31 : decode prog_14_method_92_code 31 = .ok (.goto 23, 3) := by decide +kernel
theorem d_Mo_narrow_34 : decode prog_14_method_92_code 34 = .ok (.iload_n 1, 1) := by decide +kernel
theorem d_Mo_narrow_35 : decode prog_14_method_92_code 35 = .ok (.iconst 4, 1) := by decide +kernel
theorem d_Mo_narrow_36 : decode prog_14_method_92_code 36 = .ok (.if_icmp .ne 17, 3) := by decide +kernel
theorem d_Mo_narrow_39 : decode prog_14_method_92_code 39 = .ok (.lload_n 2, 1) := by decide +kernel
theorem d_Mo_narrow_40 : decode prog_14_method_92_code 40 = .ok (.lconst 0, 1) := by decide +kernel
theorem d_Mo_narrow_41 : decode prog_14_method_92_code 41 = .ok (.lcmp, 1) := by decide +kernel
theorem d_Mo_narrow_42 : decode prog_14_method_92_code 42 = .ok (.ifCond .eq 7, 3) := by decide +kernel
theorem d_Mo_narrow_45 : decode prog_14_method_92_code 45 = .ok (.lconst 1, 1) := by decide +kernel
theorem d_Mo_narrow_46 : decode prog_14_method_92_code 46 = .ok (.goto 8, 3) := by decide +kernel
theorem d_Mo_narrow_49 : decode prog_14_method_92_code 49 = .ok (.lconst 0, 1) := by decide +kernel
theorem d_Mo_narrow_50 : decode prog_14_method_92_code 50 = .ok (.goto 4, 3) := by decide +kernel
theorem d_Mo_narrow_53 : decode prog_14_method_92_code 53 = .ok (.lload_n 2, 1) := by decide +kernel
theorem d_Mo_narrow_54 : decode prog_14_method_92_code 54 = .ok (.lreturn, 1) := by decide +kernel
theorem d_Mo_read_0 : decode prog_14_method_94_code 0 = .ok (.aload_n 0, 1) := by decide +kernel
theorem d_Mo_read_1 : decode prog_14_method_94_code 1 = .ok (.iload_n 1, 1) := by decide +kernel
theorem d_Mo_read_2 : decode prog_14_method_94_code 2 = .ok (.invokevirtual 383, 3) := by decide +kernel
theorem d_Mo_read_5 : decode prog_14_method_94_code 5 = .ok (.ifCond .eq 29, 3) := by decide +kernel
theorem d_Mo_read_8 : decode prog_14_method_94_code 8 = .ok (.aload_n 0, 1) := by decide +kernel
theorem d_Mo_read_9 : decode prog_14_method_94_code 9 = .ok (.getfield 211, 3) := by decide +kernel
theorem d_Mo_read_12 : decode prog_14_method_94_code 12 = .ok (.iload_n 1, 1) := by decide +kernel
theorem d_Mo_read_13 : decode prog_14_method_94_code 13 = .ok (.iaload, 1) := by decide +kernel
theorem d_Mo_read_14 : decode prog_14_method_94_code 14 = .ok (.ifCond .lt 20, 3) := by decide +kernel
theorem d_Mo_read_17 : decode prog_14_method_94_code 17 = .ok (.aload_n 0, 1) := by decide +kernel
theorem d_Mo_read_18 : decode prog_14_method_94_code 18 = .ok (.iload_n 2, 1) := by decide +kernel
theorem d_Mo_read_19 : decode prog_14_method_94_code 19 = .ok (.iconst 0, 1) := by decide +kernel
theorem d_Mo_read_20 : decode prog_14_method_94_code 20 = .ok (.aload_n 0, 1) := by decide +kernel
theorem d_Mo_read_21 : decode prog_14_method_94_code 21 = .ok (.getfield 214, 3) := by decide +kernel
theorem d_Mo_read_24 : decode prog_14_method_94_code 24 = .ok (.iload_n 1, 1) := by decide +kernel
theorem d_Mo_read_25 : decode prog_14_method_94_code 25 = .ok (.iaload, 1) := by decide +kernel
theorem d_Mo_read_26 : decode prog_14_method_94_code 26 = .ok (.iconst 1, 1) := by decide +kernel
theorem d_Mo_read_27 : decode prog_14_method_94_code 27 = .ok (.isub, 1) := by decide +kernel
theorem d_Mo_read_28 : decode prog_14_method_94_code 28 = .ok (.invokevirtual 224, 3) := by decide +kernel
theorem d_Mo_read_31 : decode prog_14_method_94_code 31 = .ok (.ifCond .ne 9, 3) := by decide +kernel
theorem d_Mo_read_34 : decode prog_14_method_94_code 34 = .ok (.ldc2_w 377, 3) := by decide +kernel
theorem d_Mo_read_37 : decode prog_14_method_94_code 37 = .ok (.goto 14, 3) := by decide +kernel
theorem d_Mo_read_40 : decode prog_14_method_94_code 40 = .ok (.aload_n 0, 1) := by decide +kernel
theorem d_Mo_read_41 : decode prog_14_method_94_code 41 = .ok (.getfield 217, 3) := by decide +kernel
theorem d_Mo_read_44 : decode prog_14_method_94_code 44 = .ok (.bipush 60, 2) := by decide +kernel
theorem d_Mo_read_46 : decode prog_14_method_94_code 46 = .ok (.iload_n 1, 1) := by decide +kernel
theorem d_Mo_read_47 : decode prog_14_method_94_code 47 = .ok (.imul, 1) := by decide +kernel
theorem d_Mo_read_48 : decode prog_14_method_94_code 48 = .ok (.iload_n 2, 1) := by decide +kernel
theorem d_Mo_read_49 : decode prog_14_method_94_code 49 = .ok (.iadd, 1) := by decide +kernel
theorem d_Mo_read_50 : decode prog_14_method_94_code 50 = .ok (.laload, 1) := by decide +kernel
theorem d_Mo_read_51 : decode prog_14_method_94_code 51 = .ok (.lreturn, 1) := by decide +kernel
theorem d_Mo_shift_0 : decode prog_14_method_95_code 0 = .ok (.aload_n 0, 1) := by decide +kernel
theorem d_Mo_shift_1 : decode prog_14_method_95_code 1 = .ok (.iload_n 1, 1) := by decide +kernel
theorem d_Mo_shift_2 : decode prog_14_method_95_code 2 = .ok (.invokevirtual 383, 3) := by decide +kernel
theorem d_Mo_shift_5 : decode prog_14_method_95_code 5 = .ok (.ifCond .eq 11, 3) := by decide +kernel
theorem d_Mo_shift_8 : decode prog_14_method_95_code 8 = .ok (.aload_n 0, 1) := by decide +kernel
theorem d_Mo_shift_9 : decode prog_14_method_95_code 9 = .ok (.iload_n 3, 1) := by decide +kernel
theorem d_Mo_shift_10 : decode prog_14_method_95_code 10 = .ok (.invokevirtual 383, 3) := by decide +kernel
theorem d_Mo_shift_13 : decode prog_14_method_95_code 13 = .ok (.ifCond .ne 5, 3) := by decide +kernel
theorem d_Mo_shift_16 : decode prog_14_method_95_code 16 = .ok (.iconst (-1), 1) := by decide +kernel
theorem d_Mo_shift_17 : decode prog_14_method_95_code 17 = .ok (.ireturn, 1) := by decide +kernel
theorem d_Mo_shift_18 : decode prog_14_method_95_code 18 = .ok (.aload_n 0, 1) := by decide +kernel
theorem d_Mo_shift_19 : decode prog_14_method_95_code 19 = .ok (.getfield 211, 3) := by decide +kernel
theorem d_Mo_shift_22 : decode prog_14_method_95_code 22 = .ok (.iload_n 1, 1) := by decide +kernel
theorem d_Mo_shift_23 : decode prog_14_method_95_code 23 = .ok (.iaload, 1) := by decide +kernel
theorem d_Mo_shift_24 : decode prog_14_method_95_code 24 = .ok (.ifCond .lt 12, 3) := by decide +kernel
theorem d_Mo_shift_27 : decode prog_14_method_95_code 27 = .ok (.aload_n 0, 1) := by decide +kernel
theorem d_Mo_shift_28 : decode prog_14_method_95_code 28 = .ok (.getfield 211, 3) := by decide +kernel
theorem d_Mo_shift_31 : decode prog_14_method_95_code 31 = .ok (.iload_n 3, 1) := by decide +kernel
theorem d_Mo_shift_32 : decode prog_14_method_95_code 32 = .ok (.iaload, 1) := by decide +kernel
theorem d_Mo_shift_33 : decode prog_14_method_95_code 33 = .ok (.ifCond .ge 6, 3) := by decide +kernel
theorem d_Mo_shift_36 : decode prog_14_method_95_code 36 = .ok (.bipush (-11), 2) := by decide +kernel
theorem d_Mo_shift_38 : decode prog_14_method_95_code 38 = .ok (.ireturn, 1) := by decide +kernel
theorem d_Mo_shift_39 : decode prog_14_method_95_code 39 = .ok (.aload_n 0, 1) := by decide +kernel
theorem d_Mo_shift_40 : decode prog_14_method_95_code 40 = .ok (.getfield 211, 3) := by decide +kernel
theorem d_Mo_shift_43 : decode prog_14_method_95_code 43 = .ok (.iload_n 1, 1) := by decide +kernel
theorem d_Mo_shift_44 : decode prog_14_method_95_code 44 = .ok (.iaload, 1) := by decide +kernel
theorem d_Mo_shift_45 : decode prog_14_method_95_code 45 = .ok (.aload_n 0, 1) := by decide +kernel
theorem d_Mo_shift_46 : decode prog_14_method_95_code 46 = .ok (.getfield 211, 3) := by decide +kernel
theorem d_Mo_shift_49 : decode prog_14_method_95_code 49 = .ok (.iload_n 3, 1) := by decide +kernel
theorem d_Mo_shift_50 : decode prog_14_method_95_code 50 = .ok (.iaload, 1) := by decide +kernel
theorem d_Mo_shift_51 : decode prog_14_method_95_code 51 = .ok (.if_icmp .eq 6, 3) := by decide +kernel
theorem d_Mo_shift_54 : decode prog_14_method_95_code 54 = .ok (.bipush (-12), 2) := by decide +kernel
theorem d_Mo_shift_56 : decode prog_14_method_95_code 56 = .ok (.ireturn, 1) := by decide +kernel
theorem d_Mo_shift_57 : decode prog_14_method_95_code 57 = .ok (.iload 5, 2) := by decide +kernel
theorem d_Mo_shift_59 : decode prog_14_method_95_code 59 = .ok (.ifCond .lt 39, 3) := by decide +kernel
theorem d_Mo_shift_62 : decode prog_14_method_95_code 62 = .ok (.iload_n 2, 1) := by decide +kernel
theorem d_Mo_shift_63 : decode prog_14_method_95_code 63 = .ok (.ifCond .lt 35, 3) := by decide +kernel
theorem d_Mo_shift_66 : decode prog_14_method_95_code 66 = .ok (.iload 4, 2) := by decide +kernel
theorem d_Mo_shift_68 : decode prog_14_method_95_code 68 = .ok (.ifCond .lt 30, 3) := by decide +kernel
theorem d_Mo_shift_71 : decode prog_14_method_95_code 71 = .ok (.iload_n 2, 1) := by decide +kernel
theorem d_Mo_shift_72 : decode prog_14_method_95_code 72 = .ok (.aload_n 0, 1) := by decide +kernel
theorem d_Mo_shift_73 : decode prog_14_method_95_code 73 = .ok (.getfield 214, 3) := by decide +kernel
theorem d_Mo_shift_76 : decode prog_14_method_95_code 76 = .ok (.iload_n 1, 1) := by decide +kernel
theorem d_Mo_shift_77 : decode prog_14_method_95_code 77 = .ok (.iaload, 1) := by decide +kernel
theorem d_Mo_shift_78 : decode prog_14_method_95_code 78 = .ok (.iload 5, 2) := by decide +kernel
theorem d_Mo_shift_80 : decode prog_14_method_95_code 80 = .ok (.isub, 1) := by decide +kernel
theorem d_Mo_shift_81 : decode prog_14_method_95_code 81 = .ok (.if_icmp .gt 17, 3) := by decide +kernel
theorem d_Mo_shift_84 : decode prog_14_method_95_code 84 = .ok (.iload 4, 2) := by decide +kernel
theorem d_Mo_shift_86 : decode prog_14_method_95_code 86 = .ok (.aload_n 0, 1) := by decide +kernel
theorem d_Mo_shift_87 : decode prog_14_method_95_code 87 = .ok (.getfield 214, 3) := by decide +kernel
theorem d_Mo_shift_90 : decode prog_14_method_95_code 90 = .ok (.iload_n 3, 1) := by decide +kernel
theorem d_Mo_shift_91 : decode prog_14_method_95_code 91 = .ok (.iaload, 1) := by decide +kernel
theorem d_Mo_shift_92 : decode prog_14_method_95_code 92 = .ok (.iload 5, 2) := by decide +kernel
theorem d_Mo_shift_94 : decode prog_14_method_95_code 94 = .ok (.isub, 1) := by decide +kernel
theorem d_Mo_shift_95 : decode prog_14_method_95_code 95 = .ok (.if_icmp .le 6, 3) := by decide +kernel
theorem d_Mo_shift_98 : decode prog_14_method_95_code 98 = .ok (.bipush (-13), 2) := by decide +kernel
theorem d_Mo_shift_100 : decode prog_14_method_95_code 100 = .ok (.ireturn, 1) := by decide +kernel
theorem d_Mo_shift_101 : decode prog_14_method_95_code 101 = .ok (.iconst 0, 1) := by decide +kernel
theorem d_Mo_shift_102 : decode prog_14_method_95_code 102 = .ok (.istore 6, 2) := by decide +kernel
theorem d_Mo_shift_104 : decode prog_14_method_95_code 104 = .ok (.iload 6, 2) := by decide +kernel
theorem d_Mo_shift_106 : decode prog_14_method_95_code 106 = .ok (.iload 5, 2) := by decide +kernel
theorem d_Mo_shift_108 : decode prog_14_method_95_code 108 = .ok (.if_icmp .ge 30, 3) := by decide +kernel
theorem d_Mo_shift_111 : decode prog_14_method_95_code 111 = .ok (.aload_n 0, 1) := by decide +kernel
theorem d_Mo_shift_112 : decode prog_14_method_95_code 112 = .ok (.getfield 221, 3) := by decide +kernel
theorem d_Mo_shift_115 : decode prog_14_method_95_code 115 = .ok (.iload 6, 2) := by decide +kernel
theorem d_Mo_shift_117 : decode prog_14_method_95_code 117 = .ok (.aload_n 0, 1) := by decide +kernel
theorem d_Mo_shift_118 : decode prog_14_method_95_code 118 = .ok (.getfield 217, 3) := by decide +kernel
theorem d_Mo_shift_121 : decode prog_14_method_95_code 121 = .ok (.bipush 60, 2) := by decide +kernel
theorem d_Mo_shift_123 : decode prog_14_method_95_code 123 = .ok (.iload_n 1, 1) := by decide +kernel
theorem d_Mo_shift_124 : decode prog_14_method_95_code 124 = .ok (.imul, 1) := by decide +kernel
theorem d_Mo_shift_125 : decode prog_14_method_95_code 125 = .ok (.iload_n 2, 1) := by decide +kernel
theorem d_Mo_shift_126 : decode prog_14_method_95_code 126 = .ok (.iadd, 1) := by decide +kernel
theorem d_Mo_shift_127 : decode prog_14_method_95_code 127 = .ok (.iload 6, 2) := by decide +kernel
theorem d_Mo_shift_129 : decode prog_14_method_95_code 129 = .ok (.iadd, 1) := by decide +kernel
theorem d_Mo_shift_130 : decode prog_14_method_95_code 130 = .ok (.laload, 1) := by decide +kernel
theorem d_Mo_shift_131 : decode prog_14_method_95_code 131 = .ok (.lastore, 1) := by decide +kernel
theorem d_Mo_shift_132 : decode prog_14_method_95_code 132 = .ok (.iinc 6 1, 3) := by decide +kernel
theorem d_Mo_shift_135 : decode prog_14_method_95_code 135 = .ok (.goto (-31), 3) := by decide +kernel
theorem d_Mo_shift_138 : decode prog_14_method_95_code 138 = .ok (.iconst 0, 1) := by decide +kernel
theorem d_Mo_shift_139 : decode prog_14_method_95_code 139 = .ok (.istore 6, 2) := by decide +kernel
theorem d_Mo_shift_141 : decode prog_14_method_95_code 141 = .ok (.iload 6, 2) := by decide +kernel
theorem d_Mo_shift_143 : decode prog_14_method_95_code 143 = .ok (.iload 5, 2) := by decide +kernel
theorem d_Mo_shift_145 : decode prog_14_method_95_code 145 = .ok (.if_icmp .ge 31, 3) := by decide +kernel
theorem d_Mo_shift_148 : decode prog_14_method_95_code 148 = .ok (.aload_n 0, 1) := by decide +kernel
theorem d_Mo_shift_149 : decode prog_14_method_95_code 149 = .ok (.getfield 217, 3) := by decide +kernel
theorem d_Mo_shift_152 : decode prog_14_method_95_code 152 = .ok (.bipush 60, 2) := by decide +kernel
theorem d_Mo_shift_154 : decode prog_14_method_95_code 154 = .ok (.iload_n 3, 1) := by decide +kernel
theorem d_Mo_shift_155 : decode prog_14_method_95_code 155 = .ok (.imul, 1) := by decide +kernel
theorem d_Mo_shift_156 : decode prog_14_method_95_code 156 = .ok (.iload 4, 2) := by decide +kernel
theorem d_Mo_shift_158 : decode prog_14_method_95_code 158 = .ok (.iadd, 1) := by decide +kernel
theorem d_Mo_shift_159 : decode prog_14_method_95_code 159 = .ok (.iload 6, 2) := by decide +kernel
theorem d_Mo_shift_161 : decode prog_14_method_95_code 161 = .ok (.iadd, 1) := by decide +kernel
theorem d_Mo_shift_162 : decode prog_14_method_95_code 162 = .ok (.aload_n 0, 1) := by decide +kernel
theorem d_Mo_shift_163 : decode prog_14_method_95_code 163 = .ok (.getfield 221, 3) := by decide +kernel
theorem d_Mo_shift_166 : decode prog_14_method_95_code 166 = .ok (.iload 6, 2) := by decide +kernel
theorem d_Mo_shift_168 : decode prog_14_method_95_code 168 = .ok (.laload, 1) := by decide +kernel
theorem d_Mo_shift_169 : decode prog_14_method_95_code 169 = .ok (.lastore, 1) := by decide +kernel
theorem d_Mo_shift_170 : decode prog_14_method_95_code 170 = .ok (.iinc 6 1, 3) := by decide +kernel
theorem d_Mo_shift_173 : decode prog_14_method_95_code 173 = .ok (.goto (-32), 3) := by decide +kernel
theorem d_Mo_shift_176 : decode prog_14_method_95_code 176 = .ok (.iload 5, 2) := by decide +kernel
theorem d_Mo_shift_178 : decode prog_14_method_95_code 178 = .ok (.ireturn, 1) := by decide +kernel
