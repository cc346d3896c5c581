theorem dX5_init_0 : decode cX5_init 0 = .ok (.aload_n 0, 1) := by decide +kernel
theorem dX5_init_1 : decode cX5_init 1 = .ok (.invokespecial 1, 3) := by decide +kernel
theorem dX5_init_4 : decode cX5_init 4 = .ok (.aload_n 0, 1) := by decide +kernel
theorem dX5_init_5 : decode cX5_init 5 = .ok (.sipush 147, 3) := by decide +kernel
theorem dX5_init_8 : decode cX5_init 8 = .ok (.newarray .int, 2) := by decide +kernel
theorem dX5_init_10 : decode cX5_init 10 = .ok (.putfield 9, 3) := by decide +kernel
theorem dX5_init_13 : decode cX5_init 13 = .ok (.aload_n 0, 1) := by decide +kernel
theorem dX5_init_14 : decode cX5_init 14 = .ok (.sipush 147, 3) := by decide +kernel
theorem dX5_init_17 : decode cX5_init 17 = .ok (.newarray .int, 2) := by decide +kernel
theorem dX5_init_19 : decode cX5_init 19 = .ok (.putfield 13, 3) := by decide +kernel
theorem dX5_init_22 : decode cX5_init 22 = .ok (.aload_n 0, 1) := by decide +kernel
theorem dX5_init_23 : decode cX5_init 23 = .ok (.sipush 147, 3) := by decide +kernel
theorem dX5_init_26 : decode cX5_init 26 = .ok (.newarray .int, 2) := by decide +kernel
theorem dX5_init_28 : decode cX5_init 28 = .ok (.putfield 16, 3) := by decide +kernel
theorem dX5_init_31 : decode cX5_init 31 = .ok (.aload_n 0, 1) := by decide +kernel
theorem dX5_init_32 : decode cX5_init 32 = .ok (.bipush 7, 2) := by decide +kernel
theorem dX5_init_34 : decode cX5_init 34 = .ok (.newarray .int, 2) := by decide +kernel
theorem dX5_init_36 : decode cX5_init 36 = .ok (.putfield 19, 3) := by decide +kernel
theorem dX5_init_39 : decode cX5_init 39 = .ok (.aload_n 0, 1) := by decide +kernel
theorem dX5_init_40 : decode cX5_init 40 = .ok (.bipush 20, 2) := by decide +kernel
theorem dX5_init_42 : decode cX5_init 42 = .ok (.newarray .int, 2) := by decide +kernel
theorem dX5_init_44 : decode cX5_init 44 = .ok (.putfield 22, 3) := by decide +kernel
theorem dX5_init_47 : decode cX5_init 47 = .ok (.aload_n 0, 1) := by decide +kernel
theorem dX5_init_48 : decode cX5_init 48 = .ok (.bipush 120, 2) := by decide +kernel
theorem dX5_init_50 : decode cX5_init 50 = .ok (.newarray .int, 2) := by decide +kernel
theorem dX5_init_52 : decode cX5_init 52 = .ok (.putfield 25, 3) := by decide +kernel
theorem dX5_init_55 : decode cX5_init 55 = .ok (.aload_n 0, 1) := by decide +kernel
theorem dX5_init_56 : decode cX5_init 56 = .ok (.bipush 54, 2) := by decide +kernel
theorem dX5_init_58 : decode cX5_init 58 = .ok (.newarray .char, 2) := by decide +kernel
theorem dX5_init_60 : decode cX5_init 60 = .ok (.dup, 1) := by decide +kernel
theorem dX5_init_61 : decode cX5_init 61 = .ok (.iconst 0, 1) := by decide +kernel
theorem dX5_init_62 : decode cX5_init 62 = .ok (.bipush 100, 2) := by decide +kernel
theorem dX5_init_64 : decode cX5_init 64 = .ok (.castore, 1) := by decide +kernel
theorem dX5_init_65 : decode cX5_init 65 = .ok (.dup, 1) := by decide +kernel
theorem dX5_init_66 : decode cX5_init 66 = .ok (.iconst 1, 1) := by decide +kernel
theorem dX5_init_67 : decode cX5_init 67 = .ok (.bipush 114, 2) := by decide +kernel
theorem dX5_init_69 : decode cX5_init 69 = .ok (.castore, 1) := by decide +kernel
theorem dX5_init_70 : decode cX5_init 70 = .ok (.dup, 1) := by decide +kernel
theorem dX5_init_71 : decode cX5_init 71 = .ok (.iconst 2, 1) := by decide +kernel
theorem dX5_init_72 : decode cX5_init 72 = .ok (.bipush 105, 2) := by decide +kernel
theorem dX5_init_74 : decode cX5_init 74 = .ok (.castore, 1) := by decide +kernel
theorem dX5_init_75 : decode cX5_init 75 = .ok (.dup, 1) := by decide +kernel
theorem dX5_init_76 : decode cX5_init 76 = .ok (.iconst 3, 1) := by decide +kernel
theorem dX5_init_77 : decode cX5_init 77 = .ok (.bipush 118, 2) := by decide +kernel
theorem dX5_init_79 : decode cX5_init 79 = .ok (.castore, 1) := by decide +kernel
theorem dX5_init_80 : decode cX5_init 80 = .ok (.dup, 1) := by decide +kernel
theorem dX5_init_81 : decode cX5_init 81 = .ok (.iconst 4, 1) := by decide +kernel
theorem dX5_init_82 : decode cX5_init 82 = .ok (.bipush 101, 2) := by decide +kernel
theorem dX5_init_84 : decode cX5_init 84 = .ok (.castore, 1) := by decide +kernel
theorem dX5_init_85 : decode cX5_init 85 = .ok (.dup, 1) := by decide +kernel
theorem dX5_init_86 : decode cX5_init 86 = .ok (.iconst 5, 1) := by decide +kernel
theorem dX5_init_87 : decode cX5_init 87 = .ok (.bipush 114, 2) := by decide +kernel
theorem dX5_init_89 : decode cX5_init 89 = .ok (.castore, 1) := by decide +kernel
theorem dX5_init_90 : decode cX5_init 90 = .ok (.dup, 1) := by decide +kernel
theorem dX5_init_91 : decode cX5_init 91 = .ok (.bipush 6, 2) := by decide +kernel
theorem dX5_init_93 : decode cX5_init 93 = .ok (.bipush 32, 2) := by decide +kernel
theorem dX5_init_95 : decode cX5_init 95 = .ok (.castore, 1) := by decide +kernel
theorem dX5_init_96 : decode cX5_init 96 = .ok (.dup, 1) := by decide +kernel
theorem dX5_init_97 : decode cX5_init 97 = .ok (.bipush 7, 2) := by decide +kernel
theorem dX5_init_99 : decode cX5_init 99 = .ok (.bipush 32, 2) := by decide +kernel
theorem dX5_init_101 : decode cX5_init 101 = .ok (.castore, 1) := by decide +kernel
theorem dX5_init_102 : decode cX5_init 102 = .ok (.dup, 1) := by decide +kernel
theorem dX5_init_103 : decode cX5_init 103 = .ok (.bipush 8, 2) := by decide +kernel
theorem dX5_init_105 : decode cX5_init 105 = .ok (.bipush 32, 2) := by decide +kernel
theorem dX5_init_107 : decode cX5_init 107 = .ok (.castore, 1) := by decide +kernel
theorem dX5_init_108 : decode cX5_init 108 = .ok (.dup, 1) := by decide +kernel
theorem dX5_init_109 : decode cX5_init 109 = .ok (.bipush 9, 2) := by decide +kernel
theorem dX5_init_111 : decode cX5_init 111 = .ok (.bipush 98, 2) := by decide +kernel
theorem dX5_init_113 : decode cX5_init 113 = .ok (.castore, 1) := by decide +kernel
theorem dX5_init_114 : decode cX5_init 114 = .ok (.dup, 1) := by decide +kernel
theorem dX5_init_115 : decode cX5_init 115 = .ok (.bipush 10, 2) := by decide +kernel
theorem dX5_init_117 : decode cX5_init 117 = .ok (.bipush 117, 2) := by decide +kernel
theorem dX5_init_119 : decode cX5_init 119 = .ok (.castore, 1) := by decide +kernel
theorem dX5_init_120 : decode cX5_init 120 = .ok (.dup, 1) := by decide +kernel
theorem dX5_init_121 : decode cX5_init 121 = .ok (.bipush 11, 2) := by decide +kernel
theorem dX5_init_123 : decode cX5_init 123 = .ok (.bipush 115, 2) := by decide +kernel
theorem dX5_init_125 : decode cX5_init 125 = .ok (.castore, 1) := by decide +kernel
theorem dX5_init_126 : decode cX5_init 126 = .ok (.dup, 1) := by decide +kernel
theorem dX5_init_127 : decode cX5_init 127 = .ok (.bipush 12, 2) := by decide +kernel
theorem dX5_init_129 : decode cX5_init 129 = .ok (.bipush 32, 2) := by decide +kernel
theorem dX5_init_131 : decode cX5_init 131 = .ok (.castore, 1) := by decide +kernel
theorem dX5_init_132 : decode cX5_init 132 = .ok (.dup, 1) := by decide +kernel
theorem dX5_init_133 : decode cX5_init 133 = .ok (.bipush 13, 2) := by decide +kernel
theorem dX5_init_135 : decode cX5_init 135 = .ok (.bipush 32, 2) := by decide +kernel
theorem dX5_init_137 : decode cX5_init 137 = .ok (.castore, 1) := by decide +kernel
theorem dX5_init_138 : decode cX5_init 138 = .ok (.dup, 1) := by decide +kernel
theorem dX5_init_139 : decode cX5_init 139 = .ok (.bipush 14, 2) := by decide +kernel
theorem dX5_init_141 : decode cX5_init 141 = .ok (.bipush 32, 2) := by decide +kernel
theorem dX5_init_143 : decode cX5_init 143 = .ok (.castore, 1) := by decide +kernel
theorem dX5_init_144 : decode cX5_init 144 = .ok (.dup, 1) := by decide +kernel
theorem dX5_init_145 : decode cX5_init 145 = .ok (.bipush 15, 2) := by decide +kernel
theorem dX5_init_147 : decode cX5_init 147 = .ok (.bipush 32, 2) := by decide +kernel
theorem dX5_init_149 : decode cX5_init 149 = .ok (.castore, 1) := by decide +kernel
theorem dX5_init_150 : decode cX5_init 150 = .ok (.dup, 1) := by decide +kernel
theorem dX5_init_151 : decode cX5_init 151 = .ok (.bipush 16, 2) := by decide +kernel
theorem dX5_init_153 : decode cX5_init 153 = .ok (.bipush 32, 2) := by decide +kernel
theorem dX5_init_155 : decode cX5_init 155 = .ok (.castore, 1) := by decide +kernel
theorem dX5_init_156 : decode cX5_init 156 = .ok (.dup, 1) := by decide +kernel
theorem dX5_init_157 : decode cX5_init 157 = .ok (.bipush 17, 2) := by decide +kernel
theorem dX5_init_159 : decode cX5_init 159 = .ok (.bipush 32, 2) := by decide +kernel
theorem dX5_init_161 : decode cX5_init 161 = .ok (.castore, 1) := by decide +kernel
theorem dX5_init_162 : decode cX5_init 162 = .ok (.dup, 1) := by decide +kernel
theorem dX5_init_163 : decode cX5_init 163 = .ok (.bipush 18, 2) := by decide +kernel
theorem dX5_init_165 : decode cX5_init 165 = .ok (.bipush 108, 2) := by decide +kernel
theorem dX5_init_167 : decode cX5_init 167 = .ok (.castore, 1) := by decide +kernel
theorem dX5_init_168 : decode cX5_init 168 = .ok (.dup, 1) := by decide +kernel
theorem dX5_init_169 : decode cX5_init 169 = .ok (.bipush 19, 2) := by decide +kernel
theorem dX5_init_171 : decode cX5_init 171 = .ok (.bipush 111, 2) := by decide +kernel
theorem dX5_init_173 : decode cX5_init 173 = .ok (.castore, 1) := by decide +kernel
theorem dX5_init_174 : decode cX5_init 174 = .ok (.dup, 1) := by decide +kernel
theorem dX5_init_175 : decode cX5_init 175 = .ok (.bipush 20, 2) := by decide +kernel
theorem dX5_init_177 : decode cX5_init 177 = .ok (.bipush 114, 2) := by decide +kernel
theorem dX5_init_179 : decode cX5_init 179 = .ok (.castore, 1) := by decide +kernel
theorem dX5_init_180 : decode cX5_init 180 = .ok (.dup, 1) := by decide +kernel
theorem dX5_init_181 : decode cX5_init 181 = .ok (.bipush 21, 2) := by decide +kernel
theorem dX5_init_183 : decode cX5_init 183 = .ok (.bipush 114, 2) := by decide +kernel
theorem dX5_init_185 : decode cX5_init 185 = .ok (.castore, 1) := by decide +kernel
theorem dX5_init_186 : decode cX5_init 186 = .ok (.dup, 1) := by decide +kernel
theorem dX5_init_187 : decode cX5_init 187 = .ok (.bipush 22, 2) := by decide +kernel
theorem dX5_init_189 : decode cX5_init 189 = .ok (.bipush 121, 2) := by decide +kernel
theorem dX5_init_191 : decode cX5_init 191 = .ok (.castore, 1) := by decide +kernel
theorem dX5_init_192 : decode cX5_init 192 = .ok (.dup, 1) := by decide +kernel
theorem dX5_init_193 : decode cX5_init 193 = .ok (.bipush 23, 2) := by decide +kernel
theorem dX5_init_195 : decode cX5_init 195 = .ok (.bipush 32, 2) := by decide +kernel
theorem dX5_init_197 : decode cX5_init 197 = .ok (.castore, 1) := by decide +kernel
theorem dX5_init_198 : decode cX5_init 198 = .ok (.dup, 1) := by decide +kernel
theorem dX5_init_199 : decode cX5_init 199 = .ok (.bipush 24, 2) := by decide +kernel
theorem dX5_init_201 : decode cX5_init 201 = .ok (.bipush 32, 2) := by decide +kernel
theorem dX5_init_203 : decode cX5_init 203 = .ok (.castore, 1) := by decide +kernel
theorem dX5_init_204 : decode cX5_init 204 = .ok (.dup, 1) := by decide +kernel
theorem dX5_init_205 : decode cX5_init 205 = .ok (.bipush 25, 2) := by decide +kernel
theorem dX5_init_207 : decode cX5_init 207 = .ok (.bipush 32, 2) := by decide +kernel
theorem dX5_init_209 : decode cX5_init 209 = .ok (.castore, 1) := by decide +kernel
theorem dX5_init_210 : decode cX5_init 210 = .ok (.dup, 1) := by decide +kernel
theorem dX5_init_211 : decode cX5_init 211 = .ok (.bipush 26, 2) := by decide +kernel
theorem dX5_init_213 : decode cX5_init 213 = .ok (.bipush 32, 2) := by decide +kernel
theorem dX5_init_215 : decode cX5_init 215 = .ok (.castore, 1) := by decide +kernel
theorem dX5_init_216 : decode cX5_init 216 = .ok (.dup, 1) := by decide +kernel
theorem dX5_init_217 : decode cX5_init 217 = .ok (.bipush 27, 2) := by decide +kernel
theorem dX5_init_219 : decode cX5_init 219 = .ok (.bipush 108, 2) := by decide +kernel
theorem dX5_init_221 : decode cX5_init 221 = .ok (.castore, 1) := by decide +kernel
theorem dX5_init_222 : decode cX5_init 222 = .ok (.dup, 1) := by decide +kernel
theorem dX5_init_223 : decode cX5_init 223 = .ok (.bipush 28, 2) := by decide +kernel
theorem dX5_init_225 : decode cX5_init 225 = .ok (.bipush 111, 2) := by decide +kernel
theorem dX5_init_227 : decode cX5_init 227 = .ok (.castore, 1) := by decide +kernel
theorem dX5_init_228 : decode cX5_init 228 = .ok (.dup, 1) := by decide +kernel
theorem dX5_init_229 : decode cX5_init 229 = .ok (.bipush 29, 2) := by decide +kernel
theorem dX5_init_231 : decode cX5_init 231 = .ok (.bipush 99, 2) := by decide +kernel
theorem dX5_init_233 : decode cX5_init 233 = .ok (.castore, 1) := by decide +kernel
theorem dX5_init_234 : decode cX5_init 234 = .ok (.dup, 1) := by decide +kernel
theorem dX5_init_235 : decode cX5_init 235 = .ok (.bipush 30, 2) := by decide +kernel
theorem dX5_init_237 : decode cX5_init 237 = .ok (.bipush 97, 2) := by decide +kernel
theorem dX5_init_239 : decode cX5_init 239 = .ok (.castore, 1) := by decide +kernel
theorem dX5_init_240 : decode cX5_init 240 = .ok (.dup, 1) := by decide +kernel
theorem dX5_init_241 : decode cX5_init 241 = .ok (.bipush 31, 2) := by decide +kernel
theorem dX5_init_243 : decode cX5_init 243 = .ok (.bipush 108, 2) := by decide +kernel
theorem dX5_init_245 : decode cX5_init 245 = .ok (.castore, 1) := by decide +kernel
theorem dX5_init_246 : decode cX5_init 246 = .ok (.dup, 1) := by decide +kernel
theorem dX5_init_247 : decode cX5_init 247 = .ok (.bipush 32, 2) := by decide +kernel
theorem dX5_init_249 : decode cX5_init 249 = .ok (.bipush 32, 2) := by decide +kernel
theorem dX5_init_251 : decode cX5_init 251 = .ok (.castore, 1) := by decide +kernel
theorem dX5_init_252 : decode cX5_init 252 = .ok (.dup, 1) := by decide +kernel
theorem dX5_init_253 : decode cX5_init 253 = .ok (.bipush 33, 2) := by decide +kernel
theorem dX5_init_255 : decode cX5_init 255 = .ok (.bipush 32, 2) := by decide +kernel
theorem dX5_init_257 : decode cX5_init 257 = .ok (.castore, 1) := by decide +kernel
theorem dX5_init_258 : decode cX5_init 258 = .ok (.dup, 1) := by decide +kernel
theorem dX5_init_259 : decode cX5_init 259 = .ok (.bipush 34, 2) := by decide +kernel
theorem dX5_init_261 : decode cX5_init 261 = .ok (.bipush 32, 2) := by decide +kernel
theorem dX5_init_263 : decode cX5_init 263 = .ok (.castore, 1) := by decide +kernel
theorem dX5_init_264 : decode cX5_init 264 = .ok (.dup, 1) := by decide +kernel
theorem dX5_init_265 : decode cX5_init 265 = .ok (.bipush 35, 2) := by decide +kernel
theorem dX5_init_267 : decode cX5_init 267 = .ok (.bipush 32, 2) := by decide +kernel
theorem dX5_init_269 : decode cX5_init 269 = .ok (.castore, 1) := by decide +kernel
theorem dX5_init_270 : decode cX5_init 270 = .ok (.dup, 1) := by decide +kernel
theorem dX5_init_271 : decode cX5_init 271 = .ok (.bipush 36, 2) := by decide +kernel
theorem dX5_init_273 : decode cX5_init 273 = .ok (.bipush 97, 2) := by decide +kernel
theorem dX5_init_275 : decode cX5_init 275 = .ok (.castore, 1) := by decide +kernel
theorem dX5_init_276 : decode cX5_init 276 = .ok (.dup, 1) := by decide +kernel
theorem dX5_init_277 : decode cX5_init 277 = .ok (.bipush 37, 2) := by decide +kernel
theorem dX5_init_279 : decode cX5_init 279 = .ok (.bipush 109, 2) := by decide +kernel
theorem dX5_init_281 : decode cX5_init 281 = .ok (.castore, 1) := by decide +kernel
theorem dX5_init_282 : decode cX5_init 282 = .ok (.dup, 1) := by decide +kernel
theorem dX5_init_283 : decode cX5_init 283 = .ok (.bipush 38, 2) := by decide +kernel
theorem dX5_init_285 : decode cX5_init 285 = .ok (.bipush 98, 2) := by decide +kernel
theorem dX5_init_287 : decode cX5_init 287 = .ok (.castore, 1) := by decide +kernel
theorem dX5_init_288 : decode cX5_init 288 = .ok (.dup, 1) := by decide +kernel
theorem dX5_init_289 : decode cX5_init 289 = .ok (.bipush 39, 2) := by decide +kernel
theorem dX5_init_291 : decode cX5_init 291 = .ok (.bipush 117, 2) := by decide +kernel
theorem dX5_init_293 : decode cX5_init 293 = .ok (.castore, 1) := by decide +kernel
theorem dX5_init_294 : decode cX5_init 294 = .ok (.dup, 1) := by decide +kernel
theorem dX5_init_295 : decode cX5_init 295 = .ok (.bipush 40, 2) := by decide +kernel
theorem dX5_init_297 : decode cX5_init 297 = .ok (.bipush 108, 2) := by decide +kernel
theorem dX5_init_299 : decode cX5_init 299 = .ok (.castore, 1) := by decide +kernel
theorem dX5_init_300 : decode cX5_init 300 = .ok (.dup, 1) := by decide +kernel
theorem dX5_init_301 : decode cX5_init 301 = .ok (.bipush 41, 2) := by decide +kernel
theorem dX5_init_303 : decode cX5_init 303 = .ok (.bipush 97, 2) := by decide +kernel
theorem dX5_init_305 : decode cX5_init 305 = .ok (.castore, 1) := by decide +kernel
theorem dX5_init_306 : decode cX5_init 306 = .ok (.dup, 1) := by decide +kernel
theorem dX5_init_307 : decode cX5_init 307 = .ok (.bipush 42, 2) := by decide +kernel
theorem dX5_init_309 : decode cX5_init 309 = .ok (.bipush 110, 2) := by decide +kernel
theorem dX5_init_311 : decode cX5_init 311 = .ok (.castore, 1) := by decide +kernel
theorem dX5_init_312 : decode cX5_init 312 = .ok (.dup, 1) := by decide +kernel
theorem dX5_init_313 : decode cX5_init 313 = .ok (.bipush 43, 2) := by decide +kernel
theorem dX5_init_315 : decode cX5_init 315 = .ok (.bipush 99, 2) := by decide +kernel
theorem dX5_init_317 : decode cX5_init 317 = .ok (.castore, 1) := by decide +kernel
theorem dX5_init_318 : decode cX5_init 318 = .ok (.dup, 1) := by decide +kernel
theorem dX5_init_319 : decode cX5_init 319 = .ok (.bipush 44, 2) := by decide +kernel
theorem dX5_init_321 : decode cX5_init 321 = .ok (.bipush 101, 2) := by decide +kernel
theorem dX5_init_323 : decode cX5_init 323 = .ok (.castore, 1) := by decide +kernel
theorem dX5_init_324 : decode cX5_init 324 = .ok (.dup, 1) := by decide +kernel
theorem dX5_init_325 : decode cX5_init 325 = .ok (.bipush 45, 2) := by decide +kernel
theorem dX5_init_327 : decode cX5_init 327 = .ok (.bipush 114, 2) := by decide +kernel
theorem dX5_init_329 : decode cX5_init 329 = .ok (.castore, 1) := by decide +kernel
theorem dX5_init_330 : decode cX5_init 330 = .ok (.dup, 1) := by decide +kernel
theorem dX5_init_331 : decode cX5_init 331 = .ok (.bipush 46, 2) := by decide +kernel
theorem dX5_init_333 : decode cX5_init 333 = .ok (.bipush 97, 2) := by decide +kernel
theorem dX5_init_335 : decode cX5_init 335 = .ok (.castore, 1) := by decide +kernel
theorem dX5_init_336 : decode cX5_init 336 = .ok (.dup, 1) := by decide +kernel
theorem dX5_init_337 : decode cX5_init 337 = .ok (.bipush 47, 2) := by decide +kernel
theorem dX5_init_339 : decode cX5_init 339 = .ok (.bipush 99, 2) := by decide +kernel
theorem dX5_init_341 : decode cX5_init 341 = .ok (.castore, 1) := by decide +kernel
theorem dX5_init_342 : decode cX5_init 342 = .ok (.dup, 1) := by decide +kernel
theorem dX5_init_343 : decode cX5_init 343 = .ok (.bipush 48, 2) := by decide +kernel
theorem dX5_init_345 : decode cX5_init 345 = .ok (.bipush 101, 2) := by decide +kernel
theorem dX5_init_347 : decode cX5_init 347 = .ok (.castore, 1) := by decide +kernel
theorem dX5_init_348 : decode cX5_init 348 = .ok (.dup, 1) := by decide +kernel
theorem dX5_init_349 : decode cX5_init 349 = .ok (.bipush 49, 2) := by decide +kernel
theorem dX5_init_351 : decode cX5_init 351 = .ok (.bipush 114, 2) := by decide +kernel
theorem dX5_init_353 : decode cX5_init 353 = .ok (.castore, 1) := by decide +kernel
theorem dX5_init_354 : decode cX5_init 354 = .ok (.dup, 1) := by decide +kernel
theorem dX5_init_355 : decode cX5_init 355 = .ok (.bipush 50, 2) := by decide +kernel
theorem dX5_init_357 : decode cX5_init 357 = .ok (.bipush 32, 2) := by decide +kernel
theorem dX5_init_359 : decode cX5_init 359 = .ok (.castore, 1) := by decide +kernel
theorem dX5_init_360 : decode cX5_init 360 = .ok (.dup, 1) := by decide +kernel
theorem dX5_init_361 : decode cX5_init 361 = .ok (.bipush 51, 2) := by decide +kernel
theorem dX5_init_363 : decode cX5_init 363 = .ok (.bipush 32, 2) := by decide +kernel
theorem dX5_init_365 : decode cX5_init 365 = .ok (.castore, 1) := by decide +kernel
theorem dX5_init_366 : decode cX5_init 366 = .ok (.dup, 1) := by decide +kernel
theorem dX5_init_367 : decode cX5_init 367 = .ok (.bipush 52, 2) := by decide +kernel
theorem dX5_init_369 : decode cX5_init 369 = .ok (.bipush 32, 2) := by decide +kernel
theorem dX5_init_371 : decode cX5_init 371 = .ok (.castore, 1) := by decide +kernel
theorem dX5_init_372 : decode cX5_init 372 = .ok (.dup, 1) := by decide +kernel
theorem dX5_init_373 : decode cX5_init 373 = .ok (.bipush 53, 2) := by decide +kernel
theorem dX5_init_375 : decode cX5_init 375 = .ok (.bipush 32, 2) := by decide +kernel
theorem dX5_init_377 : decode cX5_init 377 = .ok (.castore, 1) := by decide +kernel
theorem dX5_init_378 : decode cX5_init 378 = .ok (.putfield 28, 3) := by decide +kernel
theorem dX5_init_381 : decode cX5_init 381 = .ok (.aload_n 0, 1) := by decide +kernel
theorem dX5_init_382 : decode cX5_init 382 = .ok (.bipush 18, 2) := by decide +kernel
theorem dX5_init_384 : decode cX5_init 384 = .ok (.newarray .char, 2) := by decide +kernel
theorem dX5_init_386 : decode cX5_init 386 = .ok (.dup, 1) := by decide +kernel
theorem dX5_init_387 : decode cX5_init 387 = .ok (.iconst 0, 1) := by decide +kernel
theorem dX5_init_388 : decode cX5_init 388 = .ok (.bipush 119, 2) := by decide +kernel
theorem dX5_init_390 : decode cX5_init 390 = .ok (.castore, 1) := by decide +kernel
theorem dX5_init_391 : decode cX5_init 391 = .ok (.dup, 1) := by decide +kernel
theorem dX5_init_392 : decode cX5_init 392 = .ok (.iconst 1, 1) := by decide +kernel
theorem dX5_init_393 : decode cX5_init 393 = .ok (.bipush 105, 2) := by decide +kernel
theorem dX5_init_395 : decode cX5_init 395 = .ok (.castore, 1) := by decide +kernel
theorem dX5_init_396 : decode cX5_init 396 = .ok (.dup, 1) := by decide +kernel
theorem dX5_init_397 : decode cX5_init 397 = .ok (.iconst 2, 1) := by decide +kernel
theorem dX5_init_398 : decode cX5_init 398 = .ok (.bipush 115, 2) := by decide +kernel
theorem dX5_init_400 : decode cX5_init 400 = .ok (.castore, 1) := by decide +kernel
theorem dX5_init_401 : decode cX5_init 401 = .ok (.dup, 1) := by decide +kernel
theorem dX5_init_402 : decode cX5_init 402 = .ok (.iconst 3, 1) := by decide +kernel
theorem dX5_init_403 : decode cX5_init 403 = .ok (.bipush 104, 2) := by decide +kernel
theorem dX5_init_405 : decode cX5_init 405 = .ok (.castore, 1) := by decide +kernel
theorem dX5_init_406 : decode cX5_init 406 = .ok (.dup, 1) := by decide +kernel
theorem dX5_init_407 : decode cX5_init 407 = .ok (.iconst 4, 1) := by decide +kernel
theorem dX5_init_408 : decode cX5_init 408 = .ok (.bipush 32, 2) := by decide +kernel
theorem dX5_init_410 : decode cX5_init 410 = .ok (.castore, 1) := by decide +kernel
theorem dX5_init_411 : decode cX5_init 411 = .ok (.dup, 1) := by decide +kernel
theorem dX5_init_412 : decode cX5_init 412 = .ok (.iconst 5, 1) := by decide +kernel
theorem dX5_init_413 : decode cX5_init 413 = .ok (.bipush 32, 2) := by decide +kernel
theorem dX5_init_415 : decode cX5_init 415 = .ok (.castore, 1) := by decide +kernel
theorem dX5_init_416 : decode cX5_init 416 = .ok (.dup, 1) := by decide +kernel
theorem dX5_init_417 : decode cX5_init 417 = .ok (.bipush 6, 2) := by decide +kernel
theorem dX5_init_419 : decode cX5_init 419 = .ok (.bipush 32, 2) := by decide +kernel
theorem dX5_init_421 : decode cX5_init 421 = .ok (.castore, 1) := by decide +kernel
theorem dX5_init_422 : decode cX5_init 422 = .ok (.dup, 1) := by decide +kernel
theorem dX5_init_423 : decode cX5_init 423 = .ok (.bipush 7, 2) := by decide +kernel
theorem dX5_init_425 : decode cX5_init 425 = .ok (.bipush 32, 2) := by decide +kernel
theorem dX5_init_427 : decode cX5_init 427 = .ok (.castore, 1) := by decide +kernel
theorem dX5_init_428 : decode cX5_init 428 = .ok (.dup, 1) := by decide +kernel
theorem dX5_init_429 : decode cX5_init 429 = .ok (.bipush 8, 2) := by decide +kernel
theorem dX5_init_431 : decode cX5_init 431 = .ok (.bipush 32, 2) := by decide +kernel
theorem dX5_init_433 : decode cX5_init 433 = .ok (.castore, 1) := by decide +kernel
theorem dX5_init_434 : decode cX5_init 434 = .ok (.dup, 1) := by decide +kernel
theorem dX5_init_435 : decode cX5_init 435 = .ok (.bipush 9, 2) := by decide +kernel
theorem dX5_init_437 : decode cX5_init 437 = .ok (.bipush 105, 2) := by decide +kernel
theorem dX5_init_439 : decode cX5_init 439 = .ok (.castore, 1) := by decide +kernel
theorem dX5_init_440 : decode cX5_init 440 = .ok (.dup, 1) := by decide +kernel
theorem dX5_init_441 : decode cX5_init 441 = .ok (.bipush 10, 2) := by decide +kernel
theorem dX5_init_443 : decode cX5_init 443 = .ok (.bipush 110, 2) := by decide +kernel
theorem dX5_init_445 : decode cX5_init 445 = .ok (.castore, 1) := by decide +kernel
theorem dX5_init_446 : decode cX5_init 446 = .ok (.dup, 1) := by decide +kernel
theorem dX5_init_447 : decode cX5_init 447 = .ok (.bipush 11, 2) := by decide +kernel
theorem dX5_init_449 : decode cX5_init 449 = .ok (.bipush 32, 2) := by decide +kernel
theorem dX5_init_451 : decode cX5_init 451 = .ok (.castore, 1) := by decide +kernel
theorem dX5_init_452 : decode cX5_init 452 = .ok (.dup, 1) := by decide +kernel
theorem dX5_init_453 : decode cX5_init 453 = .ok (.bipush 12, 2) := by decide +kernel
theorem dX5_init_455 : decode cX5_init 455 = .ok (.bipush 32, 2) := by decide +kernel
theorem dX5_init_457 : decode cX5_init 457 = .ok (.castore, 1) := by decide +kernel
theorem dX5_init_458 : decode cX5_init 458 = .ok (.dup, 1) := by decide +kernel
theorem dX5_init_459 : decode cX5_init 459 = .ok (.bipush 13, 2) := by decide +kernel
theorem dX5_init_461 : decode cX5_init 461 = .ok (.bipush 32, 2) := by decide +kernel
theorem dX5_init_463 : decode cX5_init 463 = .ok (.castore, 1) := by decide +kernel
theorem dX5_init_464 : decode cX5_init 464 = .ok (.dup, 1) := by decide +kernel
theorem dX5_init_465 : decode cX5_init 465 = .ok (.bipush 14, 2) := by decide +kernel
theorem dX5_init_467 : decode cX5_init 467 = .ok (.bipush 32, 2) := by decide +kernel
theorem dX5_init_469 : decode cX5_init 469 = .ok (.castore, 1) := by decide +kernel
theorem dX5_init_470 : decode cX5_init 470 = .ok (.dup, 1) := by decide +kernel
theorem dX5_init_471 : decode cX5_init 471 = .ok (.bipush 15, 2) := by decide +kernel
theorem dX5_init_473 : decode cX5_init 473 = .ok (.bipush 32, 2) := by decide +kernel
theorem dX5_init_475 : decode cX5_init 475 = .ok (.castore, 1) := by decide +kernel
theorem dX5_init_476 : decode cX5_init 476 = .ok (.dup, 1) := by decide +kernel
theorem dX5_init_477 : decode cX5_init 477 = .ok (.bipush 16, 2) := by decide +kernel
theorem dX5_init_479 : decode cX5_init 479 = .ok (.bipush 32, 2) := by decide +kernel
theorem dX5_init_481 : decode cX5_init 481 = .ok (.castore, 1) := by decide +kernel
theorem dX5_init_482 : decode cX5_init 482 = .ok (.dup, 1) := by decide +kernel
theorem dX5_init_483 : decode cX5_init 483 = .ok (.bipush 17, 2) := by decide +kernel
theorem dX5_init_485 : decode cX5_init 485 = .ok (.bipush 32, 2) := by decide +kernel
theorem dX5_init_487 : decode cX5_init 487 = .ok (.castore, 1) := by decide +kernel
theorem dX5_init_488 : decode cX5_init 488 = .ok (.putfield 32, 3) := by decide +kernel
theorem dX5_init_491 : decode cX5_init 491 = .ok (.aload_n 0, 1) := by decide +kernel
theorem dX5_init_492 : decode cX5_init 492 = .ok (.bipush 54, 2) := by decide +kernel
theorem dX5_init_494 : decode cX5_init 494 = .ok (.newarray .char, 2) := by decide +kernel
theorem dX5_init_496 : decode cX5_init 496 = .ok (.dup, 1) := by decide +kernel
theorem dX5_init_497 : decode cX5_init 497 = .ok (.iconst 0, 1) := by decide +kernel
theorem dX5_init_498 : decode cX5_init 498 = .ok (.bipush 99, 2) := by decide +kernel
theorem dX5_init_500 : decode cX5_init 500 = .ok (.castore, 1) := by decide +kernel
theorem dX5_init_501 : decode cX5_init 501 = .ok (.dup, 1) := by decide +kernel
theorem dX5_init_502 : decode cX5_init 502 = .ok (.iconst 1, 1) := by decide +kernel
theorem dX5_init_503 : decode cX5_init 503 = .ok (.bipush 108, 2) := by decide +kernel
theorem dX5_init_505 : decode cX5_init 505 = .ok (.castore, 1) := by decide +kernel
theorem dX5_init_506 : decode cX5_init 506 = .ok (.dup, 1) := by decide +kernel
theorem dX5_init_507 : decode cX5_init 507 = .ok (.iconst 2, 1) := by decide +kernel
theorem dX5_init_508 : decode cX5_init 508 = .ok (.bipush 101, 2) := by decide +kernel
theorem dX5_init_510 : decode cX5_init 510 = .ok (.castore, 1) := by decide +kernel
theorem dX5_init_511 : decode cX5_init 511 = .ok (.dup, 1) := by decide +kernel
theorem dX5_init_512 : decode cX5_init 512 = .ok (.iconst 3, 1) := by decide +kernel
theorem dX5_init_513 : decode cX5_init 513 = .ok (.bipush 97, 2) := by decide +kernel
theorem dX5_init_515 : decode cX5_init 515 = .ok (.castore, 1) := by decide +kernel
theorem dX5_init_516 : decode cX5_init 516 = .ok (.dup, 1) := by decide +kernel
theorem dX5_init_517 : decode cX5_init 517 = .ok (.iconst 4, 1) := by decide +kernel
theorem dX5_init_518 : decode cX5_init 518 = .ok (.bipush 114, 2) := by decide +kernel
theorem dX5_init_520 : decode cX5_init 520 = .ok (.castore, 1) := by decide +kernel
theorem dX5_init_521 : decode cX5_init 521 = .ok (.dup, 1) := by decide +kernel
theorem dX5_init_522 : decode cX5_init 522 = .ok (.iconst 5, 1) := by decide +kernel
theorem dX5_init_523 : decode cX5_init 523 = .ok (.bipush 32, 2) := by decide +kernel
theorem dX5_init_525 : decode cX5_init 525 = .ok (.castore, 1) := by decide +kernel
theorem dX5_init_526 : decode cX5_init 526 = .ok (.dup, 1) := by decide +kernel
theorem dX5_init_527 : decode cX5_init 527 = .ok (.bipush 6, 2) := by decide +kernel
theorem dX5_init_529 : decode cX5_init 529 = .ok (.bipush 32, 2) := by decide +kernel
theorem dX5_init_531 : decode cX5_init 531 = .ok (.castore, 1) := by decide +kernel
theorem dX5_init_532 : decode cX5_init 532 = .ok (.dup, 1) := by decide +kernel
theorem dX5_init_533 : decode cX5_init 533 = .ok (.bipush 7, 2) := by decide +kernel
theorem dX5_init_535 : decode cX5_init 535 = .ok (.bipush 32, 2) := by decide +kernel
theorem dX5_init_537 : decode cX5_init 537 = .ok (.castore, 1) := by decide +kernel
theorem dX5_init_538 : decode cX5_init 538 = .ok (.dup, 1) := by decide +kernel
theorem dX5_init_539 : decode cX5_init 539 = .ok (.bipush 8, 2) := by decide +kernel
theorem dX5_init_541 : decode cX5_init 541 = .ok (.bipush 32, 2) := by decide +kernel
theorem dX5_init_543 : decode cX5_init 543 = .ok (.castore, 1) := by decide +kernel
theorem dX5_init_544 : decode cX5_init 544 = .ok (.dup, 1) := by decide +kernel
theorem dX5_init_545 : decode cX5_init 545 = .ok (.bipush 9, 2) := by decide +kernel
theorem dX5_init_547 : decode cX5_init 547 = .ok (.bipush 98, 2) := by decide +kernel
theorem dX5_init_549 : decode cX5_init 549 = .ok (.castore, 1) := by decide +kernel
theorem dX5_init_550 : decode cX5_init 550 = .ok (.dup, 1) := by decide +kernel
theorem dX5_init_551 : decode cX5_init 551 = .ok (.bipush 10, 2) := by decide +kernel
theorem dX5_init_553 : decode cX5_init 553 = .ok (.bipush 117, 2) := by decide +kernel
theorem dX5_init_555 : decode cX5_init 555 = .ok (.castore, 1) := by decide +kernel
theorem dX5_init_556 : decode cX5_init 556 = .ok (.dup, 1) := by decide +kernel
theorem dX5_init_557 : decode cX5_init 557 = .ok (.bipush 11, 2) := by decide +kernel
theorem dX5_init_559 : decode cX5_init 559 = .ok (.bipush 109, 2) := by decide +kernel
theorem dX5_init_561 : decode cX5_init 561 = .ok (.castore, 1) := by decide +kernel
theorem dX5_init_562 : decode cX5_init 562 = .ok (.dup, 1) := by decide +kernel
theorem dX5_init_563 : decode cX5_init 563 = .ok (.bipush 12, 2) := by decide +kernel
theorem dX5_init_565 : decode cX5_init 565 = .ok (.bipush 112, 2) := by decide +kernel
theorem dX5_init_567 : decode cX5_init 567 = .ok (.castore, 1) := by decide +kernel
theorem dX5_init_568 : decode cX5_init 568 = .ok (.dup, 1) := by decide +kernel
theorem dX5_init_569 : decode cX5_init 569 = .ok (.bipush 13, 2) := by decide +kernel
theorem dX5_init_571 : decode cX5_init 571 = .ok (.bipush 32, 2) := by decide +kernel
theorem dX5_init_573 : decode cX5_init 573 = .ok (.castore, 1) := by decide +kernel
theorem dX5_init_574 : decode cX5_init 574 = .ok (.dup, 1) := by decide +kernel
theorem dX5_init_575 : decode cX5_init 575 = .ok (.bipush 14, 2) := by decide +kernel
theorem dX5_init_577 : decode cX5_init 577 = .ok (.bipush 32, 2) := by decide +kernel
theorem dX5_init_579 : decode cX5_init 579 = .ok (.castore, 1) := by decide +kernel
theorem dX5_init_580 : decode cX5_init 580 = .ok (.dup, 1) := by decide +kernel
theorem dX5_init_581 : decode cX5_init 581 = .ok (.bipush 15, 2) := by decide +kernel
theorem dX5_init_583 : decode cX5_init 583 = .ok (.bipush 32, 2) := by decide +kernel
theorem dX5_init_585 : decode cX5_init 585 = .ok (.castore, 1) := by decide +kernel
theorem dX5_init_586 : decode cX5_init 586 = .ok (.dup, 1) := by decide +kernel
theorem dX5_init_587 : decode cX5_init 587 = .ok (.bipush 16, 2) := by decide +kernel
theorem dX5_init_589 : decode cX5_init 589 = .ok (.bipush 32, 2) := by decide +kernel
theorem dX5_init_591 : decode cX5_init 591 = .ok (.castore, 1) := by decide +kernel
theorem dX5_init_592 : decode cX5_init 592 = .ok (.dup, 1) := by decide +kernel
theorem dX5_init_593 : decode cX5_init 593 = .ok (.bipush 17, 2) := by decide +kernel
theorem dX5_init_595 : decode cX5_init 595 = .ok (.bipush 32, 2) := by decide +kernel
theorem dX5_init_597 : decode cX5_init 597 = .ok (.castore, 1) := by decide +kernel
theorem dX5_init_598 : decode cX5_init 598 = .ok (.dup, 1) := by decide +kernel
theorem dX5_init_599 : decode cX5_init 599 = .ok (.bipush 18, 2) := by decide +kernel
theorem dX5_init_601 : decode cX5_init 601 = .ok (.bipush 110, 2) := by decide +kernel
theorem dX5_init_603 : decode cX5_init 603 = .ok (.castore, 1) := by decide +kernel
theorem dX5_init_604 : decode cX5_init 604 = .ok (.dup, 1) := by decide +kernel
theorem dX5_init_605 : decode cX5_init 605 = .ok (.bipush 19, 2) := by decide +kernel
theorem dX5_init_607 : decode cX5_init 607 = .ok (.bipush 97, 2) := by decide +kernel
theorem dX5_init_609 : decode cX5_init 609 = .ok (.castore, 1) := by decide +kernel
theorem dX5_init_610 : decode cX5_init 610 = .ok (.dup, 1) := by decide +kernel
theorem dX5_init_611 : decode cX5_init 611 = .ok (.bipush 20, 2) := by decide +kernel
theorem dX5_init_613 : decode cX5_init 613 = .ok (.bipush 114, 2) := by decide +kernel
theorem dX5_init_615 : decode cX5_init 615 = .ok (.castore, 1) := by decide +kernel
theorem dX5_init_616 : decode cX5_init 616 = .ok (.dup, 1) := by decide +kernel
theorem dX5_init_617 : decode cX5_init 617 = .ok (.bipush 21, 2) := by decide +kernel
theorem dX5_init_619 : decode cX5_init 619 = .ok (.bipush 114, 2) := by decide +kernel
theorem dX5_init_621 : decode cX5_init 621 = .ok (.castore, 1) := by decide +kernel
theorem dX5_init_622 : decode cX5_init 622 = .ok (.dup, 1) := by decide +kernel
theorem dX5_init_623 : decode cX5_init 623 = .ok (.bipush 22, 2) := by decide +kernel
theorem dX5_init_625 : decode cX5_init 625 = .ok (.bipush 111, 2) := by decide +kernel
theorem dX5_init_627 : decode cX5_init 627 = .ok (.castore, 1) := by decide +kernel
theorem dX5_init_628 : decode cX5_init 628 = .ok (.dup, 1) := by decide +kernel
theorem dX5_init_629 : decode cX5_init 629 = .ok (.bipush 23, 2) := by decide +kernel
theorem dX5_init_631 : decode cX5_init 631 = .ok (.bipush 119, 2) := by decide +kernel
theorem dX5_init_633 : decode cX5_init 633 = .ok (.castore, 1) := by decide +kernel
theorem dX5_init_634 : decode cX5_init 634 = .ok (.dup, 1) := by decide +kernel
theorem dX5_init_635 : decode cX5_init 635 = .ok (.bipush 24, 2) := by decide +kernel
theorem dX5_init_637 : decode cX5_init 637 = .ok (.bipush 32, 2) := by decide +kernel
theorem dX5_init_639 : decode cX5_init 639 = .ok (.castore, 1) := by decide +kernel
theorem dX5_init_640 : decode cX5_init 640 = .ok (.dup, 1) := by decide +kernel
theorem dX5_init_641 : decode cX5_init 641 = .ok (.bipush 25, 2) := by decide +kernel
theorem dX5_init_643 : decode cX5_init 643 = .ok (.bipush 32, 2) := by decide +kernel
theorem dX5_init_645 : decode cX5_init 645 = .ok (.castore, 1) := by decide +kernel
theorem dX5_init_646 : decode cX5_init 646 = .ok (.dup, 1) := by decide +kernel
theorem dX5_init_647 : decode cX5_init 647 = .ok (.bipush 26, 2) := by decide +kernel
theorem dX5_init_649 : decode cX5_init 649 = .ok (.bipush 32, 2) := by decide +kernel
theorem dX5_init_651 : decode cX5_init 651 = .ok (.castore, 1) := by decide +kernel
theorem dX5_init_652 : decode cX5_init 652 = .ok (.dup, 1) := by decide +kernel
theorem dX5_init_653 : decode cX5_init 653 = .ok (.bipush 27, 2) := by decide +kernel
theorem dX5_init_655 : decode cX5_init 655 = .ok (.bipush 115, 2) := by decide +kernel
theorem dX5_init_657 : decode cX5_init 657 = .ok (.castore, 1) := by decide +kernel
theorem dX5_init_658 : decode cX5_init 658 = .ok (.dup, 1) := by decide +kernel
theorem dX5_init_659 : decode cX5_init 659 = .ok (.bipush 28, 2) := by decide +kernel
theorem dX5_init_661 : decode cX5_init 661 = .ok (.bipush 105, 2) := by decide +kernel
theorem dX5_init_663 : decode cX5_init 663 = .ok (.castore, 1) := by decide +kernel
theorem dX5_init_664 : decode cX5_init 664 = .ok (.dup, 1) := by decide +kernel
theorem dX5_init_665 : decode cX5_init 665 = .ok (.bipush 29, 2) := by decide +kernel
theorem dX5_init_667 : decode cX5_init 667 = .ok (.bipush 103, 2) := by decide +kernel
theorem dX5_init_669 : decode cX5_init 669 = .ok (.castore, 1) := by decide +kernel
theorem dX5_init_670 : decode cX5_init 670 = .ok (.dup, 1) := by decide +kernel
theorem dX5_init_671 : decode cX5_init 671 = .ok (.bipush 30, 2) := by decide +kernel
theorem dX5_init_673 : decode cX5_init 673 = .ok (.bipush 110, 2) := by decide +kernel
theorem dX5_init_675 : decode cX5_init 675 = .ok (.castore, 1) := by decide +kernel
theorem dX5_init_676 : decode cX5_init 676 = .ok (.dup, 1) := by decide +kernel
theorem dX5_init_677 : decode cX5_init 677 = .ok (.bipush 31, 2) := by decide +kernel
theorem dX5_init_679 : decode cX5_init 679 = .ok (.bipush 32, 2) := by decide +kernel
theorem dX5_init_681 : decode cX5_init 681 = .ok (.castore, 1) := by decide +kernel
theorem dX5_init_682 : decode cX5_init 682 = .ok (.dup, 1) := by decide +kernel
theorem dX5_init_683 : decode cX5_init 683 = .ok (.bipush 32, 2) := by decide +kernel
theorem dX5_init_685 : decode cX5_init 685 = .ok (.bipush 32, 2) := by decide +kernel
theorem dX5_init_687 : decode cX5_init 687 = .ok (.castore, 1) := by decide +kernel
theorem dX5_init_688 : decode cX5_init 688 = .ok (.dup, 1) := by decide +kernel
theorem dX5_init_689 : decode cX5_init 689 = .ok (.bipush 33, 2) := by decide +kernel
theorem dX5_init_691 : decode cX5_init 691 = .ok (.bipush 32, 2) := by decide +kernel
theorem dX5_init_693 : decode cX5_init 693 = .ok (.castore, 1) := by decide +kernel
theorem dX5_init_694 : decode cX5_init 694 = .ok (.dup, 1) := by decide +kernel
theorem dX5_init_695 : decode cX5_init 695 = .ok (.bipush 34, 2) := by decide +kernel
theorem dX5_init_697 : decode cX5_init 697 = .ok (.bipush 32, 2) := by decide +kernel
theorem dX5_init_699 : decode cX5_init 699 = .ok (.castore, 1) := by decide +kernel
theorem dX5_init_700 : decode cX5_init 700 = .ok (.dup, 1) := by decide +kernel
theorem dX5_init_701 : decode cX5_init 701 = .ok (.bipush 35, 2) := by decide +kernel
theorem dX5_init_703 : decode cX5_init 703 = .ok (.bipush 32, 2) := by decide +kernel
theorem dX5_init_705 : decode cX5_init 705 = .ok (.castore, 1) := by decide +kernel
theorem dX5_init_706 : decode cX5_init 706 = .ok (.dup, 1) := by decide +kernel
theorem dX5_init_707 : decode cX5_init 707 = .ok (.bipush 36, 2) := by decide +kernel
theorem dX5_init_709 : decode cX5_init 709 = .ok (.bipush 112, 2) := by decide +kernel
theorem dX5_init_711 : decode cX5_init 711 = .ok (.castore, 1) := by decide +kernel
theorem dX5_init_712 : decode cX5_init 712 = .ok (.dup, 1) := by decide +kernel
theorem dX5_init_713 : decode cX5_init 713 = .ok (.bipush 37, 2) := by decide +kernel
theorem dX5_init_715 : decode cX5_init 715 = .ok (.bipush 97, 2) := by decide +kernel
theorem dX5_init_717 : decode cX5_init 717 = .ok (.castore, 1) := by decide +kernel
theorem dX5_init_718 : decode cX5_init 718 = .ok (.dup, 1) := by decide +kernel
theorem dX5_init_719 : decode cX5_init 719 = .ok (.bipush 38, 2) := by decide +kernel
theorem dX5_init_721 : decode cX5_init 721 = .ok (.bipush 105, 2) := by decide +kernel
theorem dX5_init_723 : decode cX5_init 723 = .ok (.castore, 1) := by decide +kernel
theorem dX5_init_724 : decode cX5_init 724 = .ok (.dup, 1) := by decide +kernel
theorem dX5_init_725 : decode cX5_init 725 = .ok (.bipush 39, 2) := by decide +kernel
theorem dX5_init_727 : decode cX5_init 727 = .ok (.bipush 110, 2) := by decide +kernel
theorem dX5_init_729 : decode cX5_init 729 = .ok (.castore, 1) := by decide +kernel
theorem dX5_init_730 : decode cX5_init 730 = .ok (.dup, 1) := by decide +kernel
theorem dX5_init_731 : decode cX5_init 731 = .ok (.bipush 40, 2) := by decide +kernel
theorem dX5_init_733 : decode cX5_init 733 = .ok (.bipush 116, 2) := by decide +kernel
theorem dX5_init_735 : decode cX5_init 735 = .ok (.castore, 1) := by decide +kernel
theorem dX5_init_736 : decode cX5_init 736 = .ok (.dup, 1) := by decide +kernel
theorem dX5_init_737 : decode cX5_init 737 = .ok (.bipush 41, 2) := by decide +kernel
theorem dX5_init_739 : decode cX5_init 739 = .ok (.bipush 32, 2) := by decide +kernel
theorem dX5_init_741 : decode cX5_init 741 = .ok (.castore, 1) := by decide +kernel
theorem dX5_init_742 : decode cX5_init 742 = .ok (.dup, 1) := by decide +kernel
theorem dX5_init_743 : decode cX5_init 743 = .ok (.bipush 42, 2) := by decide +kernel
theorem dX5_init_745 : decode cX5_init 745 = .ok (.bipush 32, 2) := by decide +kernel
theorem dX5_init_747 : decode cX5_init 747 = .ok (.castore, 1) := by decide +kernel
theorem dX5_init_748 : decode cX5_init 748 = .ok (.dup, 1) := by decide +kernel
theorem dX5_init_749 : decode cX5_init 749 = .ok (.bipush 43, 2) := by decide +kernel
theorem dX5_init_751 : decode cX5_init 751 = .ok (.bipush 32, 2) := by decide +kernel
theorem dX5_init_753 : decode cX5_init 753 = .ok (.castore, 1) := by decide +kernel
theorem dX5_init_754 : decode cX5_init 754 = .ok (.dup, 1) := by decide +kernel
theorem dX5_init_755 : decode cX5_init 755 = .ok (.bipush 44, 2) := by decide +kernel
theorem dX5_init_757 : decode cX5_init 757 = .ok (.bipush 32, 2) := by decide +kernel
theorem dX5_init_759 : decode cX5_init 759 = .ok (.castore, 1) := by decide +kernel
theorem dX5_init_760 : decode cX5_init 760 = .ok (.dup, 1) := by decide +kernel
theorem dX5_init_761 : decode cX5_init 761 = .ok (.bipush 45, 2) := by decide +kernel
theorem dX5_init_763 : decode cX5_init 763 = .ok (.bipush 104, 2) := by decide +kernel
theorem dX5_init_765 : decode cX5_init 765 = .ok (.castore, 1) := by decide +kernel
theorem dX5_init_766 : decode cX5_init 766 = .ok (.dup, 1) := by decide +kernel
theorem dX5_init_767 : decode cX5_init 767 = .ok (.bipush 46, 2) := by decide +kernel
theorem dX5_init_769 : decode cX5_init 769 = .ok (.bipush 105, 2) := by decide +kernel
theorem dX5_init_771 : decode cX5_init 771 = .ok (.castore, 1) := by decide +kernel
theorem dX5_init_772 : decode cX5_init 772 = .ok (.dup, 1) := by decide +kernel
theorem dX5_init_773 : decode cX5_init 773 = .ok (.bipush 47, 2) := by decide +kernel
theorem dX5_init_775 : decode cX5_init 775 = .ok (.bipush 103, 2) := by decide +kernel
theorem dX5_init_777 : decode cX5_init 777 = .ok (.castore, 1) := by decide +kernel
theorem dX5_init_778 : decode cX5_init 778 = .ok (.dup, 1) := by decide +kernel
theorem dX5_init_779 : decode cX5_init 779 = .ok (.bipush 48, 2) := by decide +kernel
theorem dX5_init_781 : decode cX5_init 781 = .ok (.bipush 104, 2) := by decide +kernel
theorem dX5_init_783 : decode cX5_init 783 = .ok (.castore, 1) := by decide +kernel
theorem dX5_init_784 : decode cX5_init 784 = .ok (.dup, 1) := by decide +kernel
theorem dX5_init_785 : decode cX5_init 785 = .ok (.bipush 49, 2) := by decide +kernel
theorem dX5_init_787 : decode cX5_init 787 = .ok (.bipush 32, 2) := by decide +kernel
theorem dX5_init_789 : decode cX5_init 789 = .ok (.castore, 1) := by decide +kernel
theorem dX5_init_790 : decode cX5_init 790 = .ok (.dup, 1) := by decide +kernel
theorem dX5_init_791 : decode cX5_init 791 = .ok (.bipush 50, 2) := by decide +kernel
theorem dX5_init_793 : decode cX5_init 793 = .ok (.bipush 32, 2) := by decide +kernel
theorem dX5_init_795 : decode cX5_init 795 = .ok (.castore, 1) := by decide +kernel
theorem dX5_init_796 : decode cX5_init 796 = .ok (.dup, 1) := by decide +kernel
theorem dX5_init_797 : decode cX5_init 797 = .ok (.bipush 51, 2) := by decide +kernel
theorem dX5_init_799 : decode cX5_init 799 = .ok (.bipush 32, 2) := by decide +kernel
theorem dX5_init_801 : decode cX5_init 801 = .ok (.castore, 1) := by decide +kernel
theorem dX5_init_802 : decode cX5_init 802 = .ok (.dup, 1) := by decide +kernel
theorem dX5_init_803 : decode cX5_init 803 = .ok (.bipush 52, 2) := by decide +kernel
theorem dX5_init_805 : decode cX5_init 805 = .ok (.bipush 32, 2) := by decide +kernel
theorem dX5_init_807 : decode cX5_init 807 = .ok (.castore, 1) := by decide +kernel
theorem dX5_init_808 : decode cX5_init 808 = .ok (.dup, 1) := by decide +kernel
theorem dX5_init_809 : decode cX5_init 809 = .ok (.bipush 53, 2) := by decide +kernel
theorem dX5_init_811 : decode cX5_init 811 = .ok (.bipush 32, 2) := by decide +kernel
theorem dX5_init_813 : decode cX5_init 813 = .ok (.castore, 1) := by decide +kernel
theorem dX5_init_814 : decode cX5_init 814 = .ok (.putfield 35, 3) := by decide +kernel
theorem dX5_init_817 : decode cX5_init 817 = .ok (.aload_n 0, 1) := by decide +kernel
theorem dX5_init_818 : decode cX5_init 818 = .ok (.iconst 4, 1) := by decide +kernel
theorem dX5_init_819 : decode cX5_init 819 = .ok (.newarray .int, 2) := by decide +kernel
theorem dX5_init_821 : decode cX5_init 821 = .ok (.putfield 38, 3) := by decide +kernel
theorem dX5_init_824 : decode cX5_init 824 = .ok (.aload_n 0, 1) := by decide +kernel
theorem dX5_init_825 : decode cX5_init 825 = .ok (.iconst 4, 1) := by decide +kernel
theorem dX5_init_826 : decode cX5_init 826 = .ok (.newarray .int, 2) := by decide +kernel
theorem dX5_init_828 : decode cX5_init 828 = .ok (.putfield 41, 3) := by decide +kernel
theorem dX5_init_831 : decode cX5_init 831 = .ok (.aload_n 0, 1) := by decide +kernel
theorem dX5_init_832 : decode cX5_init 832 = .ok (.sipush 160, 3) := by decide +kernel
theorem dX5_init_835 : decode cX5_init 835 = .ok (.newarray .long, 2) := by decide +kernel
theorem dX5_init_837 : decode cX5_init 837 = .ok (.putfield 44, 3) := by decide +kernel
theorem dX5_init_840 : decode cX5_init 840 = .ok (.aload_n 0, 1) := by decide +kernel
theorem dX5_init_841 : decode cX5_init 841 = .ok (.bipush 40, 2) := by decide +kernel
theorem dX5_init_843 : decode cX5_init 843 = .ok (.newarray .long, 2) := by decide +kernel
theorem dX5_init_845 : decode cX5_init 845 = .ok (.putfield 48, 3) := by decide +kernel
theorem dX5_init_848 : decode cX5_init 848 = .ok (.aload_n 0, 1) := by decide +kernel
theorem dX5_init_849 : decode cX5_init 849 = .ok (.getfield 9, 3) := by decide +kernel
theorem dX5_init_852 : decode cX5_init 852 = .ok (.iconst 1, 1) := by decide +kernel
theorem dX5_init_853 : decode cX5_init 853 = .ok (.iconst 3, 1) := by decide +kernel
theorem dX5_init_854 : decode cX5_init 854 = .ok (.iastore, 1) := by decide +kernel
theorem dX5_init_855 : decode cX5_init 855 = .ok (.return_, 1) := by decide +kernel
theorem dX5_no_0 : decode cX5_no 0 = .ok (.aload_n 0, 1) := by decide +kernel
theorem dX5_no_1 : decode cX5_no 1 = .ok (.getfield 19, 3) := by decide +kernel
theorem dX5_no_4 : decode cX5_no 4 = .ok (.iload_n 1, 1) := by decide +kernel
theorem dX5_no_5 : decode cX5_no 5 = .ok (.dup2, 1) := by decide +kernel
theorem dX5_no_6 : decode cX5_no 6 = .ok (.iaload, 1) := by decide +kernel
theorem dX5_no_7 : decode cX5_no 7 = .ok (.iconst 1, 1) := by decide +kernel
theorem dX5_no_8 : decode cX5_no 8 = .ok (.iadd, 1) := by decide +kernel
theorem dX5_no_9 : decode cX5_no 9 = .ok (.iastore, 1) := by decide +kernel
theorem dX5_no_10 : decode cX5_no 10 = .ok (.ldc 51, 2) := by decide +kernel
theorem dX5_no_12 : decode cX5_no 12 = .ok (.iload_n 1, 1) := by decide +kernel
theorem dX5_no_13 : decode cX5_no 13 = .ok (.isub, 1) := by decide +kernel
theorem dX5_no_14 : decode cX5_no 14 = .ok (.ireturn, 1) := by decide +kernel
theorem dX5_in1_0 : decode cX5_in1 0 = .ok (.iload_n 0, 1) := by decide +kernel
theorem dX5_in1_1 : decode cX5_in1 1 = .ok (.iload_n 1, 1) := by decide +kernel
theorem dX5_in1_2 : decode cX5_in1 2 = .ok (.if_icmp .lt 12, 3) := by decide +kernel
theorem dX5_in1_5 : decode cX5_in1 5 = .ok (.iload_n 0, 1) := by decide +kernel
theorem dX5_in1_6 : decode cX5_in1 6 = .ok (.iload_n 2, 1) := by decide +kernel
theorem dX5_in1_7 : decode cX5_in1 7 = .ok (.if_icmp .gt 7, 3) := by decide +kernel
theorem dX5_in1_10 : decode cX5_in1 10 = .ok (.iconst 1, 1) := by decide +kernel
theorem dX5_in1_11 : decode cX5_in1 11 = .ok (.goto 4, 3) := by decide +kernel
theorem dX5_in1_14 : decode cX5_in1 14 = .ok (.iconst 0, 1) := by decide +kernel
theorem dX5_in1_15 : decode cX5_in1 15 = .ok (.ireturn, 1) := by decide +kernel
theorem dX5_less_0 : decode cX5_less 0 = .ok (.iload_n 0, 1) := by decide +kernel
theorem dX5_less_1 : decode cX5_less 1 = .ok (.iload_n 1, 1) := by decide +kernel
theorem dX5_less_2 : decode cX5_less 2 = .ok (.if_icmp .ge 7, 3) := by decide +kernel
theorem dX5_less_5 : decode cX5_less 5 = .ok (.iload_n 0, 1) := by decide +kernel
theorem dX5_less_6 : decode cX5_less 6 = .ok (.goto 4, 3) := by decide +kernel
theorem dX5_less_9 : decode cX5_less 9 = .ok (.iload_n 1, 1) := by decide +kernel
theorem dX5_less_10 : decode cX5_less 10 = .ok (.ireturn, 1) := by decide +kernel
theorem dX5_isDriver_0 : decode cX5_isDriver 0 = .ok (.iload_n 1, 1) := by decide +kernel
theorem dX5_isDriver_1 : decode cX5_isDriver 1 = .ok (.iconst 0, 1) := by decide +kernel
theorem dX5_isDriver_2 : decode cX5_isDriver 2 = .ok (.aload_n 0, 1) := by decide +kernel
theorem dX5_isDriver_3 : decode cX5_isDriver 3 = .ok (.getfield 9, 3) := by decide +kernel
theorem dX5_isDriver_6 : decode cX5_isDriver 6 = .ok (.iconst 2, 1) := by decide +kernel
theorem dX5_isDriver_7 : decode cX5_isDriver 7 = .ok (.iaload, 1) := by decide +kernel
theorem dX5_isDriver_8 : decode cX5_isDriver 8 = .ok (.iconst 1, 1) := by decide +kernel
theorem dX5_isDriver_9 : decode cX5_isDriver 9 = .ok (.isub, 1) := by decide +kernel
theorem dX5_isDriver_10 : decode cX5_isDriver 10 = .ok (.invokestatic 52, 3) := by decide +kernel
theorem dX5_isDriver_13 : decode cX5_isDriver 13 = .ok (.ireturn, 1) := by decide +kernel
theorem dX5_isStreet_0 : decode cX5_isStreet 0 = .ok (.iload_n 0, 1) := by decide +kernel
theorem dX5_isStreet_1 : decode cX5_isStreet 1 = .ok (.iconst 0, 1) := by decide +kernel
theorem dX5_isStreet_2 : decode cX5_isStreet 2 = .ok (.iconst 2, 1) := by decide +kernel
theorem dX5_isStreet_3 : decode cX5_isStreet 3 = .ok (.invokestatic 52, 3) := by decide +kernel
theorem dX5_isStreet_6 : decode cX5_isStreet 6 = .ok (.ireturn, 1) := by decide +kernel
theorem dX5_isStretch_0 : decode cX5_isStretch 0 = .ok (.iload_n 0, 1) := by decide +kernel
theorem dX5_isStretch_1 : decode cX5_isStretch 1 = .ok (.iconst 0, 1) := by decide +kernel
theorem dX5_isStretch_2 : decode cX5_isStretch 2 = .ok (.bipush 19, 2) := by decide +kernel
theorem dX5_isStretch_4 : decode cX5_isStretch 4 = .ok (.invokestatic 52, 3) := by decide +kernel
theorem dX5_isStretch_7 : decode cX5_isStretch 7 = .ok (.ireturn, 1) := by decide +kernel
theorem dX5_get_0 : decode cX5_get 0 = .ok (.aload_n 0, 1) := by decide +kernel
theorem dX5_get_1 : decode cX5_get 1 = .ok (.getfield 9, 3) := by decide +kernel
theorem dX5_get_4 : decode cX5_get 4 = .ok (.bipush 123, 2) := by decide +kernel
theorem dX5_get_6 : decode cX5_get 6 = .ok (.iconst 3, 1) := by decide +kernel
theorem dX5_get_7 : decode cX5_get 7 = .ok (.iload_n 1, 1) := by decide +kernel
theorem dX5_get_8 : decode cX5_get 8 = .ok (.imul, 1) := by decide +kernel
theorem dX5_get_9 : decode cX5_get 9 = .ok (.iadd, 1) := by decide +kernel
theorem dX5_get_10 : decode cX5_get 10 = .ok (.iload_n 2, 1) := by decide +kernel
theorem dX5_get_11 : decode cX5_get 11 = .ok (.iadd, 1) := by decide +kernel
theorem dX5_get_12 : decode cX5_get 12 = .ok (.iaload, 1) := by decide +kernel
theorem dX5_get_13 : decode cX5_get 13 = .ok (.ireturn, 1) := by decide +kernel
theorem dX5_puts_0 : decode cX5_puts 0 = .ok (.aload_n 0, 1) := by decide +kernel
theorem dX5_puts_1 : decode cX5_puts 1 = .ok (.getfield 9, 3) := by decide +kernel
theorem dX5_puts_4 : decode cX5_puts 4 = .ok (.bipush 123, 2) := by decide +kernel
theorem dX5_puts_6 : decode cX5_puts 6 = .ok (.iconst 3, 1) := by decide +kernel
theorem dX5_puts_7 : decode cX5_puts 7 = .ok (.iload_n 1, 1) := by decide +kernel
theorem dX5_puts_8 : decode cX5_puts 8 = .ok (.imul, 1) := by decide +kernel
theorem dX5_puts_9 : decode cX5_puts 9 = .ok (.iadd, 1) := by decide +kernel
theorem dX5_puts_10 : decode cX5_puts 10 = .ok (.iload_n 2, 1) := by decide +kernel
theorem dX5_puts_11 : decode cX5_puts 11 = .ok (.iadd, 1) := by decide +kernel
theorem dX5_puts_12 : decode cX5_puts 12 = .ok (.iload_n 3, 1) := by decide +kernel
theorem dX5_puts_13 : decode cX5_puts 13 = .ok (.iastore, 1) := by decide +kernel
theorem dX5_puts_14 : decode cX5_puts 14 = .ok (.return_, 1) := by decide +kernel
theorem dX5_setsAside_0 : decode cX5_setsAside 0 = .ok (.iconst 0, 1) := by decide +kernel
theorem dX5_setsAside_1 : decode cX5_setsAside 1 = .ok (.istore_n 1, 1) := by decide +kernel
theorem dX5_setsAside_2 : decode cX5_setsAside 2 = .ok (.iload_n 1, 1) := by decide +kernel
theorem dX5_setsAside_3 : decode cX5_setsAside 3 = .ok (.sipush 147, 3) := by decide +kernel
theorem dX5_setsAside_6 : decode cX5_setsAside 6 = .ok (.if_icmp .ge 21, 3) := by decide +kernel
theorem dX5_setsAside_9 : decode cX5_setsAside 9 = .ok (.aload_n 0, 1) := by decide +kernel
theorem dX5_setsAside_10 : decode cX5_setsAside 10 = .ok (.getfield 16, 3) := by decide +kernel
theorem dX5_setsAside_13 : decode cX5_setsAside 13 = .ok (.iload_n 1, 1) := by decide +kernel
theorem dX5_setsAside_14 : decode cX5_setsAside 14 = .ok (.aload_n 0, 1) := by decide +kernel
theorem dX5_setsAside_15 : decode cX5_setsAside 15 = .ok (.getfield 9, 3) := by decide +kernel
theorem dX5_setsAside_18 : decode cX5_setsAside 18 = .ok (.iload_n 1, 1) := by decide +kernel
theorem dX5_setsAside_19 : decode cX5_setsAside 19 = .ok (.iaload, 1) := by decide +kernel
theorem dX5_setsAside_20 : decode cX5_setsAside 20 = .ok (.iastore, 1) := by decide +kernel
theorem dX5_setsAside_21 : decode cX5_setsAside 21 = .ok (.iinc 1 1, 3) := by decide +kernel
theorem dX5_setsAside_24 : decode cX5_setsAside 24 = .ok (.goto (-22), 3) := by decide +kernel
theorem dX5_setsAside_27 : decode cX5_setsAside 27 = .ok (.return_, 1) := by decide +kernel
theorem dX5_laysBack_0 : decode cX5_laysBack 0 = .ok (.iconst 0, 1) := by decide +kernel
theorem dX5_laysBack_1 : decode cX5_laysBack 1 = .ok (.istore_n 1, 1) := by decide +kernel
theorem dX5_laysBack_2 : decode cX5_laysBack 2 = .ok (.iload_n 1, 1) := by decide +kernel
theorem dX5_laysBack_3 : decode cX5_laysBack 3 = .ok (.sipush 147, 3) := by decide +kernel
theorem dX5_laysBack_6 : decode cX5_laysBack 6 = .ok (.if_icmp .ge 21, 3) := by decide +kernel
theorem dX5_laysBack_9 : decode cX5_laysBack 9 = .ok (.aload_n 0, 1) := by decide +kernel
theorem dX5_laysBack_10 : decode cX5_laysBack 10 = .ok (.getfield 9, 3) := by decide +kernel
theorem dX5_laysBack_13 : decode cX5_laysBack 13 = .ok (.iload_n 1, 1) := by decide +kernel
theorem dX5_laysBack_14 : decode cX5_laysBack 14 = .ok (.aload_n 0, 1) := by decide +kernel
theorem dX5_laysBack_15 : decode cX5_laysBack 15 = .ok (.getfield 16, 3) := by decide +kernel
theorem dX5_laysBack_18 : decode cX5_laysBack 18 = .ok (.iload_n 1, 1) := by decide +kernel
theorem dX5_laysBack_19 : decode cX5_laysBack 19 = .ok (.iaload, 1) := by decide +kernel
theorem dX5_laysBack_20 : decode cX5_laysBack 20 = .ok (.iastore, 1) := by decide +kernel
theorem dX5_laysBack_21 : decode cX5_laysBack 21 = .ok (.iinc 1 1, 3) := by decide +kernel
theorem dX5_laysBack_24 : decode cX5_laysBack 24 = .ok (.goto (-22), 3) := by decide +kernel
theorem dX5_laysBack_27 : decode cX5_laysBack 27 = .ok (.return_, 1) := by decide +kernel
theorem dX5_isBus_0 : decode cX5_isBus 0 = .ok (.iload_n 0, 1) := by decide +kernel
theorem dX5_isBus_1 : decode cX5_isBus 1 = .ok (.iconst 1, 1) := by decide +kernel
theorem dX5_isBus_2 : decode cX5_isBus 2 = .ok (.if_icmp .eq 8, 3) := by decide +kernel
theorem dX5_isBus_5 : decode cX5_isBus 5 = .ok (.iload_n 0, 1) := by decide +kernel
theorem dX5_isBus_6 : decode cX5_isBus 6 = .ok (.iconst 4, 1) := by decide +kernel
theorem dX5_isBus_7 : decode cX5_isBus 7 = .ok (.if_icmp .ne 7, 3) := by decide +kernel
theorem dX5_isBus_10 : decode cX5_isBus 10 = .ok (.iconst 1, 1) := by decide +kernel
theorem dX5_isBus_11 : decode cX5_isBus 11 = .ok (.goto 4, 3) := by decide +kernel
theorem dX5_isBus_14 : decode cX5_isBus 14 = .ok (.iconst 0, 1) := by decide +kernel
theorem dX5_isBus_15 : decode cX5_isBus 15 = .ok (.ireturn, 1) := by decide +kernel
theorem dX5_isLocal_0 : decode cX5_isLocal 0 = .ok (.iload_n 0, 1) := by decide +kernel
theorem dX5_isLocal_1 : decode cX5_isLocal 1 = .ok (.iconst 3, 1) := by decide +kernel
theorem dX5_isLocal_2 : decode cX5_isLocal 2 = .ok (.if_icmp .eq 8, 3) := by decide +kernel
theorem dX5_isLocal_5 : decode cX5_isLocal 5 = .ok (.iload_n 0, 1) := by decide +kernel
theorem dX5_isLocal_6 : decode cX5_isLocal 6 = .ok (.iconst 5, 1) := by decide +kernel
theorem dX5_isLocal_7 : decode cX5_isLocal 7 = .ok (.if_icmp .ne 7, 3) := by decide +kernel
theorem dX5_isLocal_10 : decode cX5_isLocal 10 = .ok (.iconst 1, 1) := by decide +kernel
theorem dX5_isLocal_11 : decode cX5_isLocal 11 = .ok (.goto 4, 3) := by decide +kernel
theorem dX5_isLocal_14 : decode cX5_isLocal 14 = .ok (.iconst 0, 1) := by decide +kernel
theorem dX5_isLocal_15 : decode cX5_isLocal 15 = .ok (.ireturn, 1) := by decide +kernel
theorem dX5_atBump_0 : decode cX5_atBump 0 = .ok (.iload_n 1, 1) := by decide +kernel
theorem dX5_atBump_1 : decode cX5_atBump 1 = .ok (.iload_n 0, 1) := by decide +kernel
theorem dX5_atBump_2 : decode cX5_atBump 2 = .ok (.invokestatic 56, 3) := by decide +kernel
theorem dX5_atBump_5 : decode cX5_atBump 5 = .ok (.ifCond .eq 7, 3) := by decide +kernel
theorem dX5_atBump_8 : decode cX5_atBump 8 = .ok (.iconst 4, 1) := by decide +kernel
theorem dX5_atBump_9 : decode cX5_atBump 9 = .ok (.goto 5, 3) := by decide +kernel
theorem dX5_atBump_12 : decode cX5_atBump 12 = .ok (.bipush 8, 2) := by decide +kernel
theorem dX5_atBump_14 : decode cX5_atBump 14 = .ok (.iload_n 2, 1) := by decide +kernel
theorem dX5_atBump_15 : decode cX5_atBump 15 = .ok (.imul, 1) := by decide +kernel
theorem dX5_atBump_16 : decode cX5_atBump 16 = .ok (.isub, 1) := by decide +kernel
theorem dX5_atBump_17 : decode cX5_atBump 17 = .ok (.istore_n 3, 1) := by decide +kernel
theorem dX5_atBump_18 : decode cX5_atBump 18 = .ok (.iload_n 0, 1) := by decide +kernel
theorem dX5_atBump_19 : decode cX5_atBump 19 = .ok (.iconst 2, 1) := by decide +kernel
theorem dX5_atBump_20 : decode cX5_atBump 20 = .ok (.if_icmp .ne 13, 3) := by decide +kernel
theorem dX5_atBump_23 : decode cX5_atBump 23 = .ok (.iload_n 2, 1) := by decide +kernel
theorem dX5_atBump_24 : decode cX5_atBump 24 = .ok (.iconst 3, 1) := by decide +kernel
theorem dX5_atBump_25 : decode cX5_atBump 25 = .ok (.if_icmp .le 8, 3) := by decide +kernel
theorem dX5_atBump_28 : decode cX5_atBump 28 = .ok (.bipush 8, 2) := by decide +kernel
theorem dX5_atBump_30 : decode cX5_atBump 30 = .ok (.goto 13, 3) := by decide +kernel
theorem dX5_atBump_33 : decode cX5_atBump 33 = .ok (.iload_n 3, 1) := by decide +kernel
theorem dX5_atBump_34 : decode cX5_atBump 34 = .ok (.iconst 5, 1) := by decide +kernel
theorem dX5_atBump_35 : decode cX5_atBump 35 = .ok (.if_icmp .ge 7, 3) := by decide +kernel
theorem dX5_atBump_38 : decode cX5_atBump 38 = .ok (.iconst 5, 1) := by decide +kernel
theorem dX5_atBump_39 : decode cX5_atBump 39 = .ok (.goto 4, 3) := by decide +kernel
theorem dX5_atBump_42 : decode cX5_atBump 42 = .ok (.iload_n 3, 1) := by decide +kernel
theorem dX5_atBump_43 : decode cX5_atBump 43 = .ok (.ireturn, 1) := by decide +kernel
theorem dX5_plainSlow_0 : decode cX5_plainSlow 0 = .ok (.iload_n 1, 1) := by decide +kernel
theorem dX5_plainSlow_1 : decode cX5_plainSlow 1 = .ok (.tableswitch 62 1 3 #[27, 34, 47], 27) := by decide +kernel
theorem dX5_plainSlow_28 : decode cX5_plainSlow 28 = .ok (.iload_n 0, 1) := by decide +kernel
theorem dX5_plainSlow_29 : decode cX5_plainSlow 29 = .ok (.iload_n 2, 1) := by decide +kernel
theorem dX5_plainSlow_30 : decode cX5_plainSlow 30 = .ok (.iload_n 3, 1) := by decide +kernel
theorem dX5_plainSlow_31 : decode cX5_plainSlow 31 = .ok (.invokestatic 60, 3) := by decide +kernel
theorem dX5_plainSlow_34 : decode cX5_plainSlow 34 = .ok (.ireturn, 1) := by decide +kernel
theorem dX5_plainSlow_35 : decode cX5_plainSlow 35 = .ok (.iload_n 0, 1) := by decide +kernel
theorem dX5_plainSlow_36 : decode cX5_plainSlow 36 = .ok (.iconst 4, 1) := by decide +kernel
theorem dX5_plainSlow_37 : decode cX5_plainSlow 37 = .ok (.if_icmp .ne 7, 3) := by decide +kernel
theorem dX5_plainSlow_40 : decode cX5_plainSlow 40 = .ok (.iload_n 2, 1) := by decide +kernel
theorem dX5_plainSlow_41 : decode cX5_plainSlow 41 = .ok (.goto 6, 3) := by decide +kernel
theorem dX5_plainSlow_44 : decode cX5_plainSlow 44 = .ok (.iload_n 2, 1) := by decide +kernel
theorem dX5_plainSlow_45 : decode cX5_plainSlow 45 = .ok (.iconst 2, 1) := by decide +kernel
theorem dX5_plainSlow_46 : decode cX5_plainSlow 46 = .ok (.idiv, 1) := by decide +kernel
theorem dX5_plainSlow_47 : decode cX5_plainSlow 47 = .ok (.ireturn, 1) := by decide +kernel
theorem dX5_plainSlow_48 : decode cX5_plainSlow 48 = .ok (.iload_n 0, 1) := by decide +kernel
theorem dX5_plainSlow_49 : decode cX5_plainSlow 49 = .ok (.invokestatic 64, 3) := by decide +kernel
theorem dX5_plainSlow_52 : decode cX5_plainSlow 52 = .ok (.ifCond .eq 7, 3) := by decide +kernel
theorem dX5_plainSlow_55 : decode cX5_plainSlow 55 = .ok (.iload_n 2, 1) := by decide +kernel
theorem dX5_plainSlow_56 : decode cX5_plainSlow 56 = .ok (.goto 6, 3) := by decide +kernel
theorem dX5_plainSlow_59 : decode cX5_plainSlow 59 = .ok (.iload_n 2, 1) := by decide +kernel
theorem dX5_plainSlow_60 : decode cX5_plainSlow 60 = .ok (.iconst 5, 1) := by decide +kernel
theorem dX5_plainSlow_61 : decode cX5_plainSlow 61 = .ok (.isub, 1) := by decide +kernel
theorem dX5_plainSlow_62 : decode cX5_plainSlow 62 = .ok (.ireturn, 1) := by decide +kernel
theorem dX5_plainSlow_63 : decode cX5_plainSlow 63 = .ok (.iload_n 0, 1) := by decide +kernel
theorem dX5_plainSlow_64 : decode cX5_plainSlow 64 = .ok (.invokestatic 64, 3) := by decide +kernel
theorem dX5_plainSlow_67 : decode cX5_plainSlow 67 = .ok (.ifCond .ne 10, 3) := by decide +kernel
theorem dX5_plainSlow_70 : decode cX5_plainSlow 70 = .ok (.iload 4, 2) := by decide +kernel
theorem dX5_plainSlow_72 : decode cX5_plainSlow 72 = .ok (.bipush 20, 2) := by decide +kernel
theorem dX5_plainSlow_74 : decode cX5_plainSlow 74 = .ok (.if_icmp .le 7, 3) := by decide +kernel
theorem dX5_plainSlow_77 : decode cX5_plainSlow 77 = .ok (.iload_n 2, 1) := by decide +kernel
theorem dX5_plainSlow_78 : decode cX5_plainSlow 78 = .ok (.goto 8, 3) := by decide +kernel
theorem dX5_plainSlow_81 : decode cX5_plainSlow 81 = .ok (.iload_n 2, 1) := by decide +kernel
theorem dX5_plainSlow_82 : decode cX5_plainSlow 82 = .ok (.iconst 3, 1) := by decide +kernel
theorem dX5_plainSlow_83 : decode cX5_plainSlow 83 = .ok (.imul, 1) := by decide +kernel
theorem dX5_plainSlow_84 : decode cX5_plainSlow 84 = .ok (.iconst 4, 1) := by decide +kernel
theorem dX5_plainSlow_85 : decode cX5_plainSlow 85 = .ok (.idiv, 1) := by decide +kernel
theorem dX5_plainSlow_86 : decode cX5_plainSlow 86 = .ok (.ireturn, 1) := by decide +kernel
theorem dX5_slowsTo_0 : decode cX5_slowsTo 0 = .ok (.iload_n 0, 1) := by decide +kernel
theorem dX5_slowsTo_1 : decode cX5_slowsTo 1 = .ok (.iload_n 1, 1) := by decide +kernel
theorem dX5_slowsTo_2 : decode cX5_slowsTo 2 = .ok (.iload_n 2, 1) := by decide +kernel
theorem dX5_slowsTo_3 : decode cX5_slowsTo 3 = .ok (.iload_n 3, 1) := by decide +kernel
theorem dX5_slowsTo_4 : decode cX5_slowsTo 4 = .ok (.iload 4, 2) := by decide +kernel
theorem dX5_slowsTo_6 : decode cX5_slowsTo 6 = .ok (.invokestatic 67, 3) := by decide +kernel
theorem dX5_slowsTo_9 : decode cX5_slowsTo 9 = .ok (.istore 5, 2) := by decide +kernel
theorem dX5_slowsTo_11 : decode cX5_slowsTo 11 = .ok (.iload_n 0, 1) := by decide +kernel
theorem dX5_slowsTo_12 : decode cX5_slowsTo 12 = .ok (.iconst 5, 1) := by decide +kernel
theorem dX5_slowsTo_13 : decode cX5_slowsTo 13 = .ok (.if_icmp .ne 14, 3) := by decide +kernel
theorem dX5_slowsTo_16 : decode cX5_slowsTo 16 = .ok (.iload_n 2, 1) := by decide +kernel
theorem dX5_slowsTo_17 : decode cX5_slowsTo 17 = .ok (.iload 5, 2) := by decide +kernel
theorem dX5_slowsTo_19 : decode cX5_slowsTo 19 = .ok (.iconst 5, 1) := by decide +kernel
theorem dX5_slowsTo_20 : decode cX5_slowsTo 20 = .ok (.iadd, 1) := by decide +kernel
theorem dX5_slowsTo_21 : decode cX5_slowsTo 21 = .ok (.invokestatic 71, 3) := by decide +kernel
theorem dX5_slowsTo_24 : decode cX5_slowsTo 24 = .ok (.goto 5, 3) := by decide +kernel
theorem dX5_slowsTo_27 : decode cX5_slowsTo 27 = .ok (.iload 5, 2) := by decide +kernel
theorem dX5_slowsTo_29 : decode cX5_slowsTo 29 = .ok (.ireturn, 1) := by decide +kernel
theorem dX5_hurriesOf_0 : decode cX5_hurriesOf 0 = .ok (.iload_n 0, 1) := by decide +kernel
theorem dX5_hurriesOf_1 : decode cX5_hurriesOf 1 = .ok (.iconst 1, 1) := by decide +kernel
theorem dX5_hurriesOf_2 : decode cX5_hurriesOf 2 = .ok (.if_icmp .eq 8, 3) := by decide +kernel
theorem dX5_hurriesOf_5 : decode cX5_hurriesOf 5 = .ok (.iload_n 0, 1) := by decide +kernel
theorem dX5_hurriesOf_6 : decode cX5_hurriesOf 6 = .ok (.iconst 2, 1) := by decide +kernel
theorem dX5_hurriesOf_7 : decode cX5_hurriesOf 7 = .ok (.if_icmp .ne 8, 3) := by decide +kernel
theorem dX5_hurriesOf_10 : decode cX5_hurriesOf 10 = .ok (.bipush 6, 2) := by decide +kernel
theorem dX5_hurriesOf_12 : decode cX5_hurriesOf 12 = .ok (.goto 15, 3) := by decide +kernel
theorem dX5_hurriesOf_15 : decode cX5_hurriesOf 15 = .ok (.iload_n 0, 1) := by decide +kernel
theorem dX5_hurriesOf_16 : decode cX5_hurriesOf 16 = .ok (.iconst 5, 1) := by decide +kernel
theorem dX5_hurriesOf_17 : decode cX5_hurriesOf 17 = .ok (.if_icmp .ne 8, 3) := by decide +kernel
theorem dX5_hurriesOf_20 : decode cX5_hurriesOf 20 = .ok (.bipush 22, 2) := by decide +kernel
theorem dX5_hurriesOf_22 : decode cX5_hurriesOf 22 = .ok (.goto 5, 3) := by decide +kernel
theorem dX5_hurriesOf_25 : decode cX5_hurriesOf 25 = .ok (.bipush 12, 2) := by decide +kernel
theorem dX5_hurriesOf_27 : decode cX5_hurriesOf 27 = .ok (.ireturn, 1) := by decide +kernel
theorem dX5_shakesAt_0 : decode cX5_shakesAt 0 = .ok (.iload_n 1, 1) := by decide +kernel
theorem dX5_shakesAt_1 : decode cX5_shakesAt 1 = .ok (.iload_n 2, 1) := by decide +kernel
theorem dX5_shakesAt_2 : decode cX5_shakesAt 2 = .ok (.imul, 1) := by decide +kernel
theorem dX5_shakesAt_3 : decode cX5_shakesAt 3 = .ok (.bipush 10, 2) := by decide +kernel
theorem dX5_shakesAt_5 : decode cX5_shakesAt 5 = .ok (.idiv, 1) := by decide +kernel
theorem dX5_shakesAt_6 : decode cX5_shakesAt 6 = .ok (.istore_n 3, 1) := by decide +kernel
theorem dX5_shakesAt_7 : decode cX5_shakesAt 7 = .ok (.iload_n 0, 1) := by decide +kernel
theorem dX5_shakesAt_8 : decode cX5_shakesAt 8 = .ok (.tableswitch 48 1 5 #[36, 40, 48, 36, 44], 36) := by decide +kernel
theorem dX5_shakesAt_44 : decode cX5_shakesAt 44 = .ok (.iload_n 3, 1) := by decide +kernel
theorem dX5_shakesAt_45 : decode cX5_shakesAt 45 = .ok (.iload_n 2, 1) := by decide +kernel
theorem dX5_shakesAt_46 : decode cX5_shakesAt 46 = .ok (.iadd, 1) := by decide +kernel
theorem dX5_shakesAt_47 : decode cX5_shakesAt 47 = .ok (.ireturn, 1) := by decide +kernel
theorem dX5_shakesAt_48 : decode cX5_shakesAt 48 = .ok (.iconst 2, 1) := by decide +kernel
theorem dX5_shakesAt_49 : decode cX5_shakesAt 49 = .ok (.iload_n 3, 1) := by decide +kernel
theorem dX5_shakesAt_50 : decode cX5_shakesAt 50 = .ok (.imul, 1) := by decide +kernel
theorem dX5_shakesAt_51 : decode cX5_shakesAt 51 = .ok (.ireturn, 1) := by decide +kernel
theorem dX5_shakesAt_52 : decode cX5_shakesAt 52 = .ok (.iload_n 3, 1) := by decide +kernel
theorem dX5_shakesAt_53 : decode cX5_shakesAt 53 = .ok (.iconst 1, 1) := by decide +kernel
theorem dX5_shakesAt_54 : decode cX5_shakesAt 54 = .ok (.iadd, 1) := by decide +kernel
theorem dX5_shakesAt_55 : decode cX5_shakesAt 55 = .ok (.ireturn, 1) := by decide +kernel
theorem dX5_shakesAt_56 : decode cX5_shakesAt 56 = .ok (.iload_n 3, 1) := by decide +kernel
theorem dX5_shakesAt_57 : decode cX5_shakesAt 57 = .ok (.ireturn, 1) := by decide +kernel
theorem dX5_goesThrough_0 : decode cX5_goesThrough 0 = .ok (.aload_n 0, 1) := by decide +kernel
theorem dX5_goesThrough_1 : decode cX5_goesThrough 1 = .ok (.iconst 0, 1) := by decide +kernel
theorem dX5_goesThrough_2 : decode cX5_goesThrough 2 = .ok (.putfield 75, 3) := by decide +kernel
theorem dX5_goesThrough_5 : decode cX5_goesThrough 5 = .ok (.aload_n 0, 1) := by decide +kernel
theorem dX5_goesThrough_6 : decode cX5_goesThrough 6 = .ok (.iconst 0, 1) := by decide +kernel
theorem dX5_goesThrough_7 : decode cX5_goesThrough 7 = .ok (.putfield 79, 3) := by decide +kernel
theorem dX5_goesThrough_10 : decode cX5_goesThrough 10 = .ok (.iconst 0, 1) := by decide +kernel
theorem dX5_goesThrough_11 : decode cX5_goesThrough 11 = .ok (.istore 4, 2) := by decide +kernel
theorem dX5_goesThrough_13 : decode cX5_goesThrough 13 = .ok (.iload 4, 2) := by decide +kernel
theorem dX5_goesThrough_15 : decode cX5_goesThrough 15 = .ok (.bipush 20, 2) := by decide +kernel
theorem dX5_goesThrough_17 : decode cX5_goesThrough 17 = .ok (.if_icmp .ge 159, 3) := by decide +kernel
theorem dX5_goesThrough_20 : decode cX5_goesThrough 20 = .ok (.bipush 20, 2) := by decide +kernel
theorem dX5_goesThrough_22 : decode cX5_goesThrough 22 = .ok (.iload_n 3, 1) := by decide +kernel
theorem dX5_goesThrough_23 : decode cX5_goesThrough 23 = .ok (.imul, 1) := by decide +kernel
theorem dX5_goesThrough_24 : decode cX5_goesThrough 24 = .ok (.iload 4, 2) := by decide +kernel
theorem dX5_goesThrough_26 : decode cX5_goesThrough 26 = .ok (.iadd, 1) := by decide +kernel
theorem dX5_goesThrough_27 : decode cX5_goesThrough 27 = .ok (.istore 5, 2) := by decide +kernel
theorem dX5_goesThrough_29 : decode cX5_goesThrough 29 = .ok (.aload_n 0, 1) := by decide +kernel
theorem dX5_goesThrough_30 : decode cX5_goesThrough 30 = .ok (.getfield 9, 3) := by decide +kernel
theorem dX5_goesThrough_33 : decode cX5_goesThrough 33 = .ok (.iconst 3, 1) := by decide +kernel
theorem dX5_goesThrough_34 : decode cX5_goesThrough 34 = .ok (.iload 5, 2) := by decide +kernel
theorem dX5_goesThrough_36 : decode cX5_goesThrough 36 = .ok (.iadd, 1) := by decide +kernel
theorem dX5_goesThrough_37 : decode cX5_goesThrough 37 = .ok (.iaload, 1) := by decide +kernel
theorem dX5_goesThrough_38 : decode cX5_goesThrough 38 = .ok (.istore 6, 2) := by decide +kernel
theorem dX5_goesThrough_40 : decode cX5_goesThrough 40 = .ok (.iload 4, 2) := by decide +kernel
theorem dX5_goesThrough_42 : decode cX5_goesThrough 42 = .ok (.ifCond .ne 7, 3) := by decide +kernel
theorem dX5_goesThrough_45 : decode cX5_goesThrough 45 = .ok (.iload_n 2, 1) := by decide +kernel
theorem dX5_goesThrough_46 : decode cX5_goesThrough 46 = .ok (.goto 21, 3) := by decide +kernel
theorem dX5_goesThrough_49 : decode cX5_goesThrough 49 = .ok (.iload_n 2, 1) := by decide +kernel
theorem dX5_goesThrough_50 : decode cX5_goesThrough 50 = .ok (.aload_n 0, 1) := by decide +kernel
theorem dX5_goesThrough_51 : decode cX5_goesThrough 51 = .ok (.getfield 22, 3) := by decide +kernel
theorem dX5_goesThrough_54 : decode cX5_goesThrough 54 = .ok (.iload 4, 2) := by decide +kernel
theorem dX5_goesThrough_56 : decode cX5_goesThrough 56 = .ok (.iconst 1, 1) := by decide +kernel
theorem dX5_goesThrough_57 : decode cX5_goesThrough 57 = .ok (.isub, 1) := by decide +kernel
theorem dX5_goesThrough_58 : decode cX5_goesThrough 58 = .ok (.iaload, 1) := by decide +kernel
theorem dX5_goesThrough_59 : decode cX5_goesThrough 59 = .ok (.iload_n 1, 1) := by decide +kernel
theorem dX5_goesThrough_60 : decode cX5_goesThrough 60 = .ok (.invokestatic 82, 3) := by decide +kernel
theorem dX5_goesThrough_63 : decode cX5_goesThrough 63 = .ok (.iadd, 1) := by decide +kernel
theorem dX5_goesThrough_64 : decode cX5_goesThrough 64 = .ok (.invokestatic 71, 3) := by decide +kernel
theorem dX5_goesThrough_67 : decode cX5_goesThrough 67 = .ok (.istore 7, 2) := by decide +kernel
theorem dX5_goesThrough_69 : decode cX5_goesThrough 69 = .ok (.aload_n 0, 1) := by decide +kernel
theorem dX5_goesThrough_70 : decode cX5_goesThrough 70 = .ok (.getfield 22, 3) := by decide +kernel
theorem dX5_goesThrough_73 : decode cX5_goesThrough 73 = .ok (.iload 4, 2) := by decide +kernel
theorem dX5_goesThrough_75 : decode cX5_goesThrough 75 = .ok (.iload 6, 2) := by decide +kernel
theorem dX5_goesThrough_77 : decode cX5_goesThrough 77 = .ok (.ifCond .ne 8, 3) := by decide +kernel
theorem dX5_goesThrough_80 : decode cX5_goesThrough 80 = .ok (.iload 7, 2) := by decide +kernel
theorem dX5_goesThrough_82 : decode cX5_goesThrough 82 = .ok (.goto 31, 3) := by decide +kernel
theorem dX5_goesThrough_85 : decode cX5_goesThrough 85 = .ok (.iload 7, 2) := by decide +kernel
theorem dX5_goesThrough_87 : decode cX5_goesThrough 87 = .ok (.iload_n 1, 1) := by decide +kernel
theorem dX5_goesThrough_88 : decode cX5_goesThrough 88 = .ok (.iload 6, 2) := by decide +kernel
theorem dX5_goesThrough_90 : decode cX5_goesThrough 90 = .ok (.iload_n 2, 1) := by decide +kernel
theorem dX5_goesThrough_91 : decode cX5_goesThrough 91 = .ok (.aload_n 0, 1) := by decide +kernel
theorem dX5_goesThrough_92 : decode cX5_goesThrough 92 = .ok (.getfield 9, 3) := by decide +kernel
theorem dX5_goesThrough_95 : decode cX5_goesThrough 95 = .ok (.iconst 1, 1) := by decide +kernel
theorem dX5_goesThrough_96 : decode cX5_goesThrough 96 = .ok (.iaload, 1) := by decide +kernel
theorem dX5_goesThrough_97 : decode cX5_goesThrough 97 = .ok (.aload_n 0, 1) := by decide +kernel
theorem dX5_goesThrough_98 : decode cX5_goesThrough 98 = .ok (.getfield 9, 3) := by decide +kernel
theorem dX5_goesThrough_101 : decode cX5_goesThrough 101 = .ok (.bipush 63, 2) := by decide +kernel
theorem dX5_goesThrough_103 : decode cX5_goesThrough 103 = .ok (.iload 5, 2) := by decide +kernel
theorem dX5_goesThrough_105 : decode cX5_goesThrough 105 = .ok (.iadd, 1) := by decide +kernel
theorem dX5_goesThrough_106 : decode cX5_goesThrough 106 = .ok (.iaload, 1) := by decide +kernel
theorem dX5_goesThrough_107 : decode cX5_goesThrough 107 = .ok (.invokestatic 86, 3) := by decide +kernel
theorem dX5_goesThrough_110 : decode cX5_goesThrough 110 = .ok (.invokestatic 71, 3) := by decide +kernel
theorem dX5_goesThrough_113 : decode cX5_goesThrough 113 = .ok (.iastore, 1) := by decide +kernel
theorem dX5_goesThrough_114 : decode cX5_goesThrough 114 = .ok (.aload_n 0, 1) := by decide +kernel
theorem dX5_goesThrough_115 : decode cX5_goesThrough 115 = .ok (.dup, 1) := by decide +kernel
theorem dX5_goesThrough_116 : decode cX5_goesThrough 116 = .ok (.getfield 75, 3) := by decide +kernel
theorem dX5_goesThrough_119 : decode cX5_goesThrough 119 = .ok (.sipush 1227, 3) := by decide +kernel
theorem dX5_goesThrough_122 : decode cX5_goesThrough 122 = .ok (.aload_n 0, 1) := by decide +kernel
theorem dX5_goesThrough_123 : decode cX5_goesThrough 123 = .ok (.getfield 22, 3) := by decide +kernel
theorem dX5_goesThrough_126 : decode cX5_goesThrough 126 = .ok (.iload 4, 2) := by decide +kernel
theorem dX5_goesThrough_128 : decode cX5_goesThrough 128 = .ok (.iaload, 1) := by decide +kernel
theorem dX5_goesThrough_129 : decode cX5_goesThrough 129 = .ok (.idiv, 1) := by decide +kernel
theorem dX5_goesThrough_130 : decode cX5_goesThrough 130 = .ok (.iadd, 1) := by decide +kernel
theorem dX5_goesThrough_131 : decode cX5_goesThrough 131 = .ok (.putfield 75, 3) := by decide +kernel
theorem dX5_goesThrough_134 : decode cX5_goesThrough 134 = .ok (.aload_n 0, 1) := by decide +kernel
theorem dX5_goesThrough_135 : decode cX5_goesThrough 135 = .ok (.dup, 1) := by decide +kernel
theorem dX5_goesThrough_136 : decode cX5_goesThrough 136 = .ok (.getfield 79, 3) := by decide +kernel
theorem dX5_goesThrough_139 : decode cX5_goesThrough 139 = .ok (.iload 6, 2) := by decide +kernel
theorem dX5_goesThrough_141 : decode cX5_goesThrough 141 = .ok (.iconst 1, 1) := by decide +kernel
theorem dX5_goesThrough_142 : decode cX5_goesThrough 142 = .ok (.if_icmp .ne 23, 3) := by decide +kernel
theorem dX5_goesThrough_145 : decode cX5_goesThrough 145 = .ok (.iload_n 1, 1) := by decide +kernel
theorem dX5_goesThrough_146 : decode cX5_goesThrough 146 = .ok (.aload_n 0, 1) := by decide +kernel
theorem dX5_goesThrough_147 : decode cX5_goesThrough 147 = .ok (.getfield 22, 3) := by decide +kernel
theorem dX5_goesThrough_150 : decode cX5_goesThrough 150 = .ok (.iload 4, 2) := by decide +kernel
theorem dX5_goesThrough_152 : decode cX5_goesThrough 152 = .ok (.iaload, 1) := by decide +kernel
theorem dX5_goesThrough_153 : decode cX5_goesThrough 153 = .ok (.aload_n 0, 1) := by decide +kernel
theorem dX5_goesThrough_154 : decode cX5_goesThrough 154 = .ok (.getfield 9, 3) := by decide +kernel
theorem dX5_goesThrough_157 : decode cX5_goesThrough 157 = .ok (.iconst 1, 1) := by decide +kernel
theorem dX5_goesThrough_158 : decode cX5_goesThrough 158 = .ok (.iaload, 1) := by decide +kernel
theorem dX5_goesThrough_159 : decode cX5_goesThrough 159 = .ok (.invokestatic 89, 3) := by decide +kernel
theorem dX5_goesThrough_162 : decode cX5_goesThrough 162 = .ok (.goto 4, 3) := by decide +kernel
theorem dX5_goesThrough_165 : decode cX5_goesThrough 165 = .ok (.iconst 0, 1) := by decide +kernel
theorem dX5_goesThrough_166 : decode cX5_goesThrough 166 = .ok (.iadd, 1) := by decide +kernel
theorem dX5_goesThrough_167 : decode cX5_goesThrough 167 = .ok (.putfield 79, 3) := by decide +kernel
theorem dX5_goesThrough_170 : decode cX5_goesThrough 170 = .ok (.iinc 4 1, 3) := by decide +kernel
theorem dX5_goesThrough_173 : decode cX5_goesThrough 173 = .ok (.goto (-160), 3) := by decide +kernel
theorem dX5_goesThrough_176 : decode cX5_goesThrough 176 = .ok (.return_, 1) := by decide +kernel
theorem dX5_tookBy_0 : decode cX5_tookBy 0 = .ok (.aload_n 0, 1) := by decide +kernel
theorem dX5_tookBy_1 : decode cX5_tookBy 1 = .ok (.aload_n 0, 1) := by decide +kernel
theorem dX5_tookBy_2 : decode cX5_tookBy 2 = .ok (.iload_n 1, 1) := by decide +kernel
theorem dX5_tookBy_3 : decode cX5_tookBy 3 = .ok (.iconst 0, 1) := by decide +kernel
theorem dX5_tookBy_4 : decode cX5_tookBy 4 = .ok (.invokevirtual 92, 3) := by decide +kernel
theorem dX5_tookBy_7 : decode cX5_tookBy 7 = .ok (.aload_n 0, 1) := by decide +kernel
theorem dX5_tookBy_8 : decode cX5_tookBy 8 = .ok (.iload_n 1, 1) := by decide +kernel
theorem dX5_tookBy_9 : decode cX5_tookBy 9 = .ok (.iconst 1, 1) := by decide +kernel
theorem dX5_tookBy_10 : decode cX5_tookBy 10 = .ok (.invokevirtual 92, 3) := by decide +kernel
theorem dX5_tookBy_13 : decode cX5_tookBy 13 = .ok (.iload_n 2, 1) := by decide +kernel
theorem dX5_tookBy_14 : decode cX5_tookBy 14 = .ok (.invokevirtual 95, 3) := by decide +kernel
theorem dX5_tookBy_17 : decode cX5_tookBy 17 = .ok (.aload_n 0, 1) := by decide +kernel
theorem dX5_tookBy_18 : decode cX5_tookBy 18 = .ok (.getfield 75, 3) := by decide +kernel
theorem dX5_tookBy_21 : decode cX5_tookBy 21 = .ok (.ireturn, 1) := by decide +kernel
theorem dX5_shookBy_0 : decode cX5_shookBy 0 = .ok (.aload_n 0, 1) := by decide +kernel
theorem dX5_shookBy_1 : decode cX5_shookBy 1 = .ok (.aload_n 0, 1) := by decide +kernel
theorem dX5_shookBy_2 : decode cX5_shookBy 2 = .ok (.iload_n 1, 1) := by decide +kernel
theorem dX5_shookBy_3 : decode cX5_shookBy 3 = .ok (.iconst 0, 1) := by decide +kernel
theorem dX5_shookBy_4 : decode cX5_shookBy 4 = .ok (.invokevirtual 92, 3) := by decide +kernel
theorem dX5_shookBy_7 : decode cX5_shookBy 7 = .ok (.aload_n 0, 1) := by decide +kernel
theorem dX5_shookBy_8 : decode cX5_shookBy 8 = .ok (.iload_n 1, 1) := by decide +kernel
theorem dX5_shookBy_9 : decode cX5_shookBy 9 = .ok (.iconst 1, 1) := by decide +kernel
theorem dX5_shookBy_10 : decode cX5_shookBy 10 = .ok (.invokevirtual 92, 3) := by decide +kernel
theorem dX5_shookBy_13 : decode cX5_shookBy 13 = .ok (.iload_n 2, 1) := by decide +kernel
theorem dX5_shookBy_14 : decode cX5_shookBy 14 = .ok (.invokevirtual 95, 3) := by decide +kernel
theorem dX5_shookBy_17 : decode cX5_shookBy 17 = .ok (.aload_n 0, 1) := by decide +kernel
theorem dX5_shookBy_18 : decode cX5_shookBy 18 = .ok (.getfield 79, 3) := by decide +kernel
theorem dX5_shookBy_21 : decode cX5_shookBy 21 = .ok (.ireturn, 1) := by decide +kernel
theorem dX5_allShook_0 : decode cX5_allShook 0 = .ok (.iconst 0, 1) := by decide +kernel
theorem dX5_allShook_1 : decode cX5_allShook 1 = .ok (.istore_n 1, 1) := by decide +kernel
theorem dX5_allShook_2 : decode cX5_allShook 2 = .ok (.iconst 0, 1) := by decide +kernel
theorem dX5_allShook_3 : decode cX5_allShook 3 = .ok (.istore_n 2, 1) := by decide +kernel
theorem dX5_allShook_4 : decode cX5_allShook 4 = .ok (.iload_n 2, 1) := by decide +kernel
theorem dX5_allShook_5 : decode cX5_allShook 5 = .ok (.aload_n 0, 1) := by decide +kernel
theorem dX5_allShook_6 : decode cX5_allShook 6 = .ok (.getfield 9, 3) := by decide +kernel
theorem dX5_allShook_9 : decode cX5_allShook 9 = .ok (.iconst 2, 1) := by decide +kernel
theorem dX5_allShook_10 : decode cX5_allShook 10 = .ok (.iaload, 1) := by decide +kernel
theorem dX5_allShook_11 : decode cX5_allShook 11 = .ok (.if_icmp .ge 23, 3) := by decide +kernel
theorem dX5_allShook_14 : decode cX5_allShook 14 = .ok (.iload_n 1, 1) := by decide +kernel
theorem dX5_allShook_15 : decode cX5_allShook 15 = .ok (.aload_n 0, 1) := by decide +kernel
theorem dX5_allShook_16 : decode cX5_allShook 16 = .ok (.iload_n 2, 1) := by decide +kernel
theorem dX5_allShook_17 : decode cX5_allShook 17 = .ok (.aload_n 0, 1) := by decide +kernel
theorem dX5_allShook_18 : decode cX5_allShook 18 = .ok (.iload_n 2, 1) := by decide +kernel
theorem dX5_allShook_19 : decode cX5_allShook 19 = .ok (.iconst 2, 1) := by decide +kernel
theorem dX5_allShook_20 : decode cX5_allShook 20 = .ok (.invokevirtual 92, 3) := by decide +kernel
theorem dX5_allShook_23 : decode cX5_allShook 23 = .ok (.invokevirtual 99, 3) := by decide +kernel
theorem dX5_allShook_26 : decode cX5_allShook 26 = .ok (.iadd, 1) := by decide +kernel
theorem dX5_allShook_27 : decode cX5_allShook 27 = .ok (.istore_n 1, 1) := by decide +kernel
theorem dX5_allShook_28 : decode cX5_allShook 28 = .ok (.iinc 2 1, 3) := by decide +kernel
theorem dX5_allShook_31 : decode cX5_allShook 31 = .ok (.goto (-27), 3) := by decide +kernel
theorem dX5_allShook_34 : decode cX5_allShook 34 = .ok (.iload_n 1, 1) := by decide +kernel
theorem dX5_allShook_35 : decode cX5_allShook 35 = .ok (.ireturn, 1) := by decide +kernel
theorem dX5_allTook_0 : decode cX5_allTook 0 = .ok (.iconst 0, 1) := by decide +kernel
theorem dX5_allTook_1 : decode cX5_allTook 1 = .ok (.istore_n 1, 1) := by decide +kernel
theorem dX5_allTook_2 : decode cX5_allTook 2 = .ok (.iconst 0, 1) := by decide +kernel
theorem dX5_allTook_3 : decode cX5_allTook 3 = .ok (.istore_n 2, 1) := by decide +kernel
theorem dX5_allTook_4 : decode cX5_allTook 4 = .ok (.iload_n 2, 1) := by decide +kernel
theorem dX5_allTook_5 : decode cX5_allTook 5 = .ok (.aload_n 0, 1) := by decide +kernel
theorem dX5_allTook_6 : decode cX5_allTook 6 = .ok (.getfield 9, 3) := by decide +kernel
theorem dX5_allTook_9 : decode cX5_allTook 9 = .ok (.iconst 2, 1) := by decide +kernel
theorem dX5_allTook_10 : decode cX5_allTook 10 = .ok (.iaload, 1) := by decide +kernel
theorem dX5_allTook_11 : decode cX5_allTook 11 = .ok (.if_icmp .ge 23, 3) := by decide +kernel
theorem dX5_allTook_14 : decode cX5_allTook 14 = .ok (.iload_n 1, 1) := by decide +kernel
theorem dX5_allTook_15 : decode cX5_allTook 15 = .ok (.aload_n 0, 1) := by decide +kernel
theorem dX5_allTook_16 : decode cX5_allTook 16 = .ok (.iload_n 2, 1) := by decide +kernel
theorem dX5_allTook_17 : decode cX5_allTook 17 = .ok (.aload_n 0, 1) := by decide +kernel
theorem dX5_allTook_18 : decode cX5_allTook 18 = .ok (.iload_n 2, 1) := by decide +kernel
theorem dX5_allTook_19 : decode cX5_allTook 19 = .ok (.iconst 2, 1) := by decide +kernel
theorem dX5_allTook_20 : decode cX5_allTook 20 = .ok (.invokevirtual 92, 3) := by decide +kernel
theorem dX5_allTook_23 : decode cX5_allTook 23 = .ok (.invokevirtual 102, 3) := by decide +kernel
theorem dX5_allTook_26 : decode cX5_allTook 26 = .ok (.iadd, 1) := by decide +kernel
theorem dX5_allTook_27 : decode cX5_allTook 27 = .ok (.istore_n 1, 1) := by decide +kernel
theorem dX5_allTook_28 : decode cX5_allTook 28 = .ok (.iinc 2 1, 3) := by decide +kernel
theorem dX5_allTook_31 : decode cX5_allTook 31 = .ok (.goto (-27), 3) := by decide +kernel
theorem dX5_allTook_34 : decode cX5_allTook 34 = .ok (.iload_n 1, 1) := by decide +kernel
theorem dX5_allTook_35 : decode cX5_allTook 35 = .ok (.ireturn, 1) := by decide +kernel
theorem dX5_chooses_0 : decode cX5_chooses 0 = .ok (.aload_n 0, 1) := by decide +kernel
theorem dX5_chooses_1 : decode cX5_chooses 1 = .ok (.iload_n 1, 1) := by decide +kernel
theorem dX5_chooses_2 : decode cX5_chooses 2 = .ok (.iconst 2, 1) := by decide +kernel
theorem dX5_chooses_3 : decode cX5_chooses 3 = .ok (.invokevirtual 92, 3) := by decide +kernel
theorem dX5_chooses_6 : decode cX5_chooses 6 = .ok (.istore_n 2, 1) := by decide +kernel
theorem dX5_chooses_7 : decode cX5_chooses 7 = .ok (.aload_n 0, 1) := by decide +kernel
theorem dX5_chooses_8 : decode cX5_chooses 8 = .ok (.iload_n 1, 1) := by decide +kernel
theorem dX5_chooses_9 : decode cX5_chooses 9 = .ok (.iload_n 2, 1) := by decide +kernel
theorem dX5_chooses_10 : decode cX5_chooses 10 = .ok (.invokevirtual 102, 3) := by decide +kernel
theorem dX5_chooses_13 : decode cX5_chooses 13 = .ok (.istore_n 3, 1) := by decide +kernel
theorem dX5_chooses_14 : decode cX5_chooses 14 = .ok (.iconst 0, 1) := by decide +kernel
theorem dX5_chooses_15 : decode cX5_chooses 15 = .ok (.istore 4, 2) := by decide +kernel
theorem dX5_chooses_17 : decode cX5_chooses 17 = .ok (.iload 4, 2) := by decide +kernel
theorem dX5_chooses_19 : decode cX5_chooses 19 = .ok (.iconst 3, 1) := by decide +kernel
theorem dX5_chooses_20 : decode cX5_chooses 20 = .ok (.if_icmp .ge 38, 3) := by decide +kernel
theorem dX5_chooses_23 : decode cX5_chooses 23 = .ok (.aload_n 0, 1) := by decide +kernel
theorem dX5_chooses_24 : decode cX5_chooses 24 = .ok (.iload_n 1, 1) := by decide +kernel
theorem dX5_chooses_25 : decode cX5_chooses 25 = .ok (.iload 4, 2) := by decide +kernel
theorem dX5_chooses_27 : decode cX5_chooses 27 = .ok (.invokevirtual 102, 3) := by decide +kernel
theorem dX5_chooses_30 : decode cX5_chooses 30 = .ok (.istore 5, 2) := by decide +kernel
theorem dX5_chooses_32 : decode cX5_chooses 32 = .ok (.iload 5, 2) := by decide +kernel
theorem dX5_chooses_34 : decode cX5_chooses 34 = .ok (.iload_n 3, 1) := by decide +kernel
theorem dX5_chooses_35 : decode cX5_chooses 35 = .ok (.if_icmp .ge 8, 3) := by decide +kernel
theorem dX5_chooses_38 : decode cX5_chooses 38 = .ok (.iload 4, 2) := by decide +kernel
theorem dX5_chooses_40 : decode cX5_chooses 40 = .ok (.goto 4, 3) := by decide +kernel
theorem dX5_chooses_43 : decode cX5_chooses 43 = .ok (.iload_n 2, 1) := by decide +kernel
theorem dX5_chooses_44 : decode cX5_chooses 44 = .ok (.istore_n 2, 1) := by decide +kernel
theorem dX5_chooses_45 : decode cX5_chooses 45 = .ok (.iload_n 3, 1) := by decide +kernel
theorem dX5_chooses_46 : decode cX5_chooses 46 = .ok (.iload 5, 2) := by decide +kernel
theorem dX5_chooses_48 : decode cX5_chooses 48 = .ok (.invokestatic 71, 3) := by decide +kernel
theorem dX5_chooses_51 : decode cX5_chooses 51 = .ok (.istore_n 3, 1) := by decide +kernel
theorem dX5_chooses_52 : decode cX5_chooses 52 = .ok (.iinc 4 1, 3) := by decide +kernel
theorem dX5_chooses_55 : decode cX5_chooses 55 = .ok (.goto (-38), 3) := by decide +kernel
theorem dX5_chooses_58 : decode cX5_chooses 58 = .ok (.aload_n 0, 1) := by decide +kernel
theorem dX5_chooses_59 : decode cX5_chooses 59 = .ok (.iload_n 1, 1) := by decide +kernel
theorem dX5_chooses_60 : decode cX5_chooses 60 = .ok (.iconst 2, 1) := by decide +kernel
theorem dX5_chooses_61 : decode cX5_chooses 61 = .ok (.iload_n 2, 1) := by decide +kernel
theorem dX5_chooses_62 : decode cX5_chooses 62 = .ok (.invokevirtual 105, 3) := by decide +kernel
theorem dX5_chooses_65 : decode cX5_chooses 65 = .ok (.return_, 1) := by decide +kernel
theorem dX5_goes_0 : decode cX5_goes 0 = .ok (.iconst 0, 1) := by decide +kernel
theorem dX5_goes_1 : decode cX5_goes 1 = .ok (.istore_n 2, 1) := by decide +kernel
theorem dX5_goes_2 : decode cX5_goes 2 = .ok (.iload_n 2, 1) := by decide +kernel
theorem dX5_goes_3 : decode cX5_goes 3 = .ok (.iload_n 1, 1) := by decide +kernel
theorem dX5_goes_4 : decode cX5_goes 4 = .ok (.if_icmp .ge 98, 3) := by decide +kernel
theorem dX5_goes_7 : decode cX5_goes 7 = .ok (.iconst 0, 1) := by decide +kernel
theorem dX5_goes_8 : decode cX5_goes 8 = .ok (.istore_n 3, 1) := by decide +kernel
theorem dX5_goes_9 : decode cX5_goes 9 = .ok (.iload_n 3, 1) := by decide +kernel
theorem dX5_goes_10 : decode cX5_goes 10 = .ok (.bipush 60, 2) := by decide +kernel
theorem dX5_goes_12 : decode cX5_goes 12 = .ok (.if_icmp .ge 51, 3) := by decide +kernel
theorem dX5_goes_15 : decode cX5_goes 15 = .ok (.aload_n 0, 1) := by decide +kernel
theorem dX5_goes_16 : decode cX5_goes 16 = .ok (.getfield 9, 3) := by decide +kernel
theorem dX5_goes_19 : decode cX5_goes 19 = .ok (.bipush 63, 2) := by decide +kernel
theorem dX5_goes_21 : decode cX5_goes 21 = .ok (.iload_n 3, 1) := by decide +kernel
theorem dX5_goes_22 : decode cX5_goes 22 = .ok (.iadd, 1) := by decide +kernel
theorem dX5_goes_23 : decode cX5_goes 23 = .ok (.aload_n 0, 1) := by decide +kernel
theorem dX5_goes_24 : decode cX5_goes 24 = .ok (.getfield 9, 3) := by decide +kernel
theorem dX5_goes_27 : decode cX5_goes 27 = .ok (.iconst 3, 1) := by decide +kernel
theorem dX5_goes_28 : decode cX5_goes 28 = .ok (.iload_n 3, 1) := by decide +kernel
theorem dX5_goes_29 : decode cX5_goes 29 = .ok (.iadd, 1) := by decide +kernel
theorem dX5_goes_30 : decode cX5_goes 30 = .ok (.iaload, 1) := by decide +kernel
theorem dX5_goes_31 : decode cX5_goes 31 = .ok (.iconst 4, 1) := by decide +kernel
theorem dX5_goes_32 : decode cX5_goes 32 = .ok (.if_icmp .ne 23, 3) := by decide +kernel
theorem dX5_goes_35 : decode cX5_goes 35 = .ok (.sipush 999, 3) := by decide +kernel
theorem dX5_goes_38 : decode cX5_goes 38 = .ok (.aload_n 0, 1) := by decide +kernel
theorem dX5_goes_39 : decode cX5_goes 39 = .ok (.getfield 9, 3) := by decide +kernel
theorem dX5_goes_42 : decode cX5_goes 42 = .ok (.bipush 63, 2) := by decide +kernel
theorem dX5_goes_44 : decode cX5_goes 44 = .ok (.iload_n 3, 1) := by decide +kernel
theorem dX5_goes_45 : decode cX5_goes 45 = .ok (.iadd, 1) := by decide +kernel
theorem dX5_goes_46 : decode cX5_goes 46 = .ok (.iaload, 1) := by decide +kernel
theorem dX5_goes_47 : decode cX5_goes 47 = .ok (.iconst 1, 1) := by decide +kernel
theorem dX5_goes_48 : decode cX5_goes 48 = .ok (.iadd, 1) := by decide +kernel
theorem dX5_goes_49 : decode cX5_goes 49 = .ok (.invokestatic 71, 3) := by decide +kernel
theorem dX5_goes_52 : decode cX5_goes 52 = .ok (.goto 4, 3) := by decide +kernel
theorem dX5_goes_55 : decode cX5_goes 55 = .ok (.iconst 0, 1) := by decide +kernel
theorem dX5_goes_56 : decode cX5_goes 56 = .ok (.iastore, 1) := by decide +kernel
theorem dX5_goes_57 : decode cX5_goes 57 = .ok (.iinc 3 1, 3) := by decide +kernel
theorem dX5_goes_60 : decode cX5_goes 60 = .ok (.goto (-51), 3) := by decide +kernel
theorem dX5_goes_63 : decode cX5_goes 63 = .ok (.iconst 0, 1) := by decide +kernel
theorem dX5_goes_64 : decode cX5_goes 64 = .ok (.istore_n 3, 1) := by decide +kernel
theorem dX5_goes_65 : decode cX5_goes 65 = .ok (.iload_n 3, 1) := by decide +kernel
theorem dX5_goes_66 : decode cX5_goes 66 = .ok (.aload_n 0, 1) := by decide +kernel
theorem dX5_goes_67 : decode cX5_goes 67 = .ok (.getfield 9, 3) := by decide +kernel
theorem dX5_goes_70 : decode cX5_goes 70 = .ok (.iconst 2, 1) := by decide +kernel
theorem dX5_goes_71 : decode cX5_goes 71 = .ok (.iaload, 1) := by decide +kernel
theorem dX5_goes_72 : decode cX5_goes 72 = .ok (.if_icmp .ge 14, 3) := by decide +kernel
theorem dX5_goes_75 : decode cX5_goes 75 = .ok (.aload_n 0, 1) := by decide +kernel
theorem dX5_goes_76 : decode cX5_goes 76 = .ok (.iload_n 3, 1) := by decide +kernel
theorem dX5_goes_77 : decode cX5_goes 77 = .ok (.invokevirtual 108, 3) := by decide +kernel
theorem dX5_goes_80 : decode cX5_goes 80 = .ok (.iinc 3 1, 3) := by decide +kernel
theorem dX5_goes_83 : decode cX5_goes 83 = .ok (.goto (-18), 3) := by decide +kernel
theorem dX5_goes_86 : decode cX5_goes 86 = .ok (.aload_n 0, 1) := by decide +kernel
theorem dX5_goes_87 : decode cX5_goes 87 = .ok (.getfield 9, 3) := by decide +kernel
theorem dX5_goes_90 : decode cX5_goes 90 = .ok (.iconst 0, 1) := by decide +kernel
theorem dX5_goes_91 : decode cX5_goes 91 = .ok (.dup2, 1) := by decide +kernel
theorem dX5_goes_92 : decode cX5_goes 92 = .ok (.iaload, 1) := by decide +kernel
theorem dX5_goes_93 : decode cX5_goes 93 = .ok (.iconst 1, 1) := by decide +kernel
theorem dX5_goes_94 : decode cX5_goes 94 = .ok (.iadd, 1) := by decide +kernel
theorem dX5_goes_95 : decode cX5_goes 95 = .ok (.iastore, 1) := by decide +kernel
theorem dX5_goes_96 : decode cX5_goes 96 = .ok (.iinc 2 1, 3) := by decide +kernel
theorem dX5_goes_99 : decode cX5_goes 99 = .ok (.goto (-97), 3) := by decide +kernel
theorem dX5_goes_102 : decode cX5_goes 102 = .ok (.return_, 1) := by decide +kernel
theorem dX5_lies_0 : decode cX5_lies 0 = .ok (.aload_n 0, 1) := by decide +kernel
theorem dX5_lies_1 : decode cX5_lies 1 = .ok (.getfield 9, 3) := by decide +kernel
theorem dX5_lies_4 : decode cX5_lies 4 = .ok (.iconst 3, 1) := by decide +kernel
theorem dX5_lies_5 : decode cX5_lies 5 = .ok (.bipush 20, 2) := by decide +kernel
theorem dX5_lies_7 : decode cX5_lies 7 = .ok (.iload_n 1, 1) := by decide +kernel
theorem dX5_lies_8 : decode cX5_lies 8 = .ok (.imul, 1) := by decide +kernel
theorem dX5_lies_9 : decode cX5_lies 9 = .ok (.iadd, 1) := by decide +kernel
theorem dX5_lies_10 : decode cX5_lies 10 = .ok (.iload_n 2, 1) := by decide +kernel
theorem dX5_lies_11 : decode cX5_lies 11 = .ok (.iadd, 1) := by decide +kernel
theorem dX5_lies_12 : decode cX5_lies 12 = .ok (.iload_n 3, 1) := by decide +kernel
theorem dX5_lies_13 : decode cX5_lies 13 = .ok (.iastore, 1) := by decide +kernel
theorem dX5_lies_14 : decode cX5_lies 14 = .ok (.aload_n 0, 1) := by decide +kernel
theorem dX5_lies_15 : decode cX5_lies 15 = .ok (.getfield 9, 3) := by decide +kernel
theorem dX5_lies_18 : decode cX5_lies 18 = .ok (.bipush 63, 2) := by decide +kernel
theorem dX5_lies_20 : decode cX5_lies 20 = .ok (.bipush 20, 2) := by decide +kernel
theorem dX5_lies_22 : decode cX5_lies 22 = .ok (.iload_n 1, 1) := by decide +kernel
theorem dX5_lies_23 : decode cX5_lies 23 = .ok (.imul, 1) := by decide +kernel
theorem dX5_lies_24 : decode cX5_lies 24 = .ok (.iadd, 1) := by decide +kernel
theorem dX5_lies_25 : decode cX5_lies 25 = .ok (.iload_n 2, 1) := by decide +kernel
theorem dX5_lies_26 : decode cX5_lies 26 = .ok (.iadd, 1) := by decide +kernel
theorem dX5_lies_27 : decode cX5_lies 27 = .ok (.iconst 0, 1) := by decide +kernel
theorem dX5_lies_28 : decode cX5_lies 28 = .ok (.iastore, 1) := by decide +kernel
theorem dX5_lies_29 : decode cX5_lies 29 = .ok (.return_, 1) := by decide +kernel
theorem dX5_thing_0 : decode cX5_thing 0 = .ok (.iload_n 1, 1) := by decide +kernel
theorem dX5_thing_1 : decode cX5_thing 1 = .ok (.invokestatic 112, 3) := by decide +kernel
theorem dX5_thing_4 : decode cX5_thing 4 = .ok (.ifCond .eq 19, 3) := by decide +kernel
theorem dX5_thing_7 : decode cX5_thing 7 = .ok (.iload_n 2, 1) := by decide +kernel
theorem dX5_thing_8 : decode cX5_thing 8 = .ok (.invokestatic 115, 3) := by decide +kernel
theorem dX5_thing_11 : decode cX5_thing 11 = .ok (.ifCond .eq 12, 3) := by decide +kernel
theorem dX5_thing_14 : decode cX5_thing 14 = .ok (.iload_n 3, 1) := by decide +kernel
theorem dX5_thing_15 : decode cX5_thing 15 = .ok (.iconst 0, 1) := by decide +kernel
theorem dX5_thing_16 : decode cX5_thing 16 = .ok (.iconst 4, 1) := by decide +kernel
theorem dX5_thing_17 : decode cX5_thing 17 = .ok (.invokestatic 52, 3) := by decide +kernel
theorem dX5_thing_20 : decode cX5_thing 20 = .ok (.ifCond .ne 9, 3) := by decide +kernel
theorem dX5_thing_23 : decode cX5_thing 23 = .ok (.aload_n 0, 1) := by decide +kernel
theorem dX5_thing_24 : decode cX5_thing 24 = .ok (.iconst 0, 1) := by decide +kernel
theorem dX5_thing_25 : decode cX5_thing 25 = .ok (.invokevirtual 118, 3) := by decide +kernel
theorem dX5_thing_28 : decode cX5_thing 28 = .ok (.ireturn, 1) := by decide +kernel
theorem dX5_thing_29 : decode cX5_thing 29 = .ok (.aload_n 0, 1) := by decide +kernel
theorem dX5_thing_30 : decode cX5_thing 30 = .ok (.getfield 9, 3) := by decide +kernel
theorem dX5_thing_33 : decode cX5_thing 33 = .ok (.iconst 3, 1) := by decide +kernel
theorem dX5_thing_34 : decode cX5_thing 34 = .ok (.bipush 20, 2) := by decide +kernel
theorem dX5_thing_36 : decode cX5_thing 36 = .ok (.iload_n 1, 1) := by decide +kernel
theorem dX5_thing_37 : decode cX5_thing 37 = .ok (.imul, 1) := by decide +kernel
theorem dX5_thing_38 : decode cX5_thing 38 = .ok (.iadd, 1) := by decide +kernel
theorem dX5_thing_39 : decode cX5_thing 39 = .ok (.iload_n 2, 1) := by decide +kernel
theorem dX5_thing_40 : decode cX5_thing 40 = .ok (.iadd, 1) := by decide +kernel
theorem dX5_thing_41 : decode cX5_thing 41 = .ok (.iaload, 1) := by decide +kernel
theorem dX5_thing_42 : decode cX5_thing 42 = .ok (.istore 4, 2) := by decide +kernel
theorem dX5_thing_44 : decode cX5_thing 44 = .ok (.aload_n 0, 1) := by decide +kernel
theorem dX5_thing_45 : decode cX5_thing 45 = .ok (.iload_n 1, 1) := by decide +kernel
theorem dX5_thing_46 : decode cX5_thing 46 = .ok (.iload_n 2, 1) := by decide +kernel
theorem dX5_thing_47 : decode cX5_thing 47 = .ok (.iload_n 3, 1) := by decide +kernel
theorem dX5_thing_48 : decode cX5_thing 48 = .ok (.invokevirtual 121, 3) := by decide +kernel
theorem dX5_thing_51 : decode cX5_thing 51 = .ok (.iload 4, 2) := by decide +kernel
theorem dX5_thing_53 : decode cX5_thing 53 = .ok (.ireturn, 1) := by decide +kernel
theorem dX5_stretch_0 : decode cX5_stretch 0 = .ok (.iload_n 1, 1) := by decide +kernel
theorem dX5_stretch_1 : decode cX5_stretch 1 = .ok (.invokestatic 112, 3) := by decide +kernel
theorem dX5_stretch_4 : decode cX5_stretch 4 = .ok (.ifCond .eq 44, 3) := by decide +kernel
theorem dX5_stretch_7 : decode cX5_stretch 7 = .ok (.iload_n 2, 1) := by decide +kernel
theorem dX5_stretch_8 : decode cX5_stretch 8 = .ok (.invokestatic 115, 3) := by decide +kernel
theorem dX5_stretch_11 : decode cX5_stretch 11 = .ok (.ifCond .eq 37, 3) := by decide +kernel
theorem dX5_stretch_14 : decode cX5_stretch 14 = .ok (.iload_n 3, 1) := by decide +kernel
theorem dX5_stretch_15 : decode cX5_stretch 15 = .ok (.iconst 0, 1) := by decide +kernel
theorem dX5_stretch_16 : decode cX5_stretch 16 = .ok (.iconst 1, 1) := by decide +kernel
theorem dX5_stretch_17 : decode cX5_stretch 17 = .ok (.invokestatic 52, 3) := by decide +kernel
theorem dX5_stretch_20 : decode cX5_stretch 20 = .ok (.ifCond .eq 28, 3) := by decide +kernel
theorem dX5_stretch_23 : decode cX5_stretch 23 = .ok (.aload_n 0, 1) := by decide +kernel
theorem dX5_stretch_24 : decode cX5_stretch 24 = .ok (.getfield 9, 3) := by decide +kernel
theorem dX5_stretch_27 : decode cX5_stretch 27 = .ok (.iload_n 3, 1) := by decide +kernel
theorem dX5_stretch_28 : decode cX5_stretch 28 = .ok (.ifCond .ne 7, 3) := by decide +kernel
theorem dX5_stretch_31 : decode cX5_stretch 31 = .ok (.iconst 3, 1) := by decide +kernel
theorem dX5_stretch_32 : decode cX5_stretch 32 = .ok (.goto 5, 3) := by decide +kernel
theorem dX5_stretch_35 : decode cX5_stretch 35 = .ok (.bipush 63, 2) := by decide +kernel
theorem dX5_stretch_37 : decode cX5_stretch 37 = .ok (.bipush 20, 2) := by decide +kernel
theorem dX5_stretch_39 : decode cX5_stretch 39 = .ok (.iload_n 1, 1) := by decide +kernel
theorem dX5_stretch_40 : decode cX5_stretch 40 = .ok (.imul, 1) := by decide +kernel
theorem dX5_stretch_41 : decode cX5_stretch 41 = .ok (.iadd, 1) := by decide +kernel
theorem dX5_stretch_42 : decode cX5_stretch 42 = .ok (.iload_n 2, 1) := by decide +kernel
theorem dX5_stretch_43 : decode cX5_stretch 43 = .ok (.iadd, 1) := by decide +kernel
theorem dX5_stretch_44 : decode cX5_stretch 44 = .ok (.iaload, 1) := by decide +kernel
theorem dX5_stretch_45 : decode cX5_stretch 45 = .ok (.goto 8, 3) := by decide +kernel
theorem dX5_stretch_48 : decode cX5_stretch 48 = .ok (.aload_n 0, 1) := by decide +kernel
theorem dX5_stretch_49 : decode cX5_stretch 49 = .ok (.iconst 0, 1) := by decide +kernel
theorem dX5_stretch_50 : decode cX5_stretch 50 = .ok (.invokevirtual 118, 3) := by decide +kernel
theorem dX5_stretch_53 : decode cX5_stretch 53 = .ok (.ireturn, 1) := by decide +kernel
theorem dX5_high_0 : decode cX5_high 0 = .ok (.iload_n 1, 1) := by decide +kernel
theorem dX5_high_1 : decode cX5_high 1 = .ok (.iconst 1, 1) := by decide +kernel
theorem dX5_high_2 : decode cX5_high 2 = .ok (.bipush 6, 2) := by decide +kernel
theorem dX5_high_4 : decode cX5_high 4 = .ok (.invokestatic 52, 3) := by decide +kernel
theorem dX5_high_7 : decode cX5_high 7 = .ok (.ifCond .ne 9, 3) := by decide +kernel
theorem dX5_high_10 : decode cX5_high 10 = .ok (.aload_n 0, 1) := by decide +kernel
theorem dX5_high_11 : decode cX5_high 11 = .ok (.iconst 0, 1) := by decide +kernel
theorem dX5_high_12 : decode cX5_high 12 = .ok (.invokevirtual 118, 3) := by decide +kernel
theorem dX5_high_15 : decode cX5_high 15 = .ok (.ireturn, 1) := by decide +kernel
theorem dX5_high_16 : decode cX5_high 16 = .ok (.aload_n 0, 1) := by decide +kernel
theorem dX5_high_17 : decode cX5_high 17 = .ok (.getfield 9, 3) := by decide +kernel
theorem dX5_high_20 : decode cX5_high 20 = .ok (.iconst 1, 1) := by decide +kernel
theorem dX5_high_21 : decode cX5_high 21 = .ok (.iaload, 1) := by decide +kernel
theorem dX5_high_22 : decode cX5_high 22 = .ok (.istore_n 2, 1) := by decide +kernel
theorem dX5_high_23 : decode cX5_high 23 = .ok (.aload_n 0, 1) := by decide +kernel
theorem dX5_high_24 : decode cX5_high 24 = .ok (.getfield 9, 3) := by decide +kernel
theorem dX5_high_27 : decode cX5_high 27 = .ok (.iconst 1, 1) := by decide +kernel
theorem dX5_high_28 : decode cX5_high 28 = .ok (.iload_n 1, 1) := by decide +kernel
theorem dX5_high_29 : decode cX5_high 29 = .ok (.iastore, 1) := by decide +kernel
theorem dX5_high_30 : decode cX5_high 30 = .ok (.iload_n 2, 1) := by decide +kernel
theorem dX5_high_31 : decode cX5_high 31 = .ok (.ireturn, 1) := by decide +kernel
theorem dX5_bumpsIn_0 : decode cX5_bumpsIn 0 = .ok (.iconst 0, 1) := by decide +kernel
theorem dX5_bumpsIn_1 : decode cX5_bumpsIn 1 = .ok (.istore_n 2, 1) := by decide +kernel
theorem dX5_bumpsIn_2 : decode cX5_bumpsIn 2 = .ok (.iconst 0, 1) := by decide +kernel
theorem dX5_bumpsIn_3 : decode cX5_bumpsIn 3 = .ok (.istore_n 3, 1) := by decide +kernel
theorem dX5_bumpsIn_4 : decode cX5_bumpsIn 4 = .ok (.iload_n 3, 1) := by decide +kernel
theorem dX5_bumpsIn_5 : decode cX5_bumpsIn 5 = .ok (.bipush 20, 2) := by decide +kernel
theorem dX5_bumpsIn_7 : decode cX5_bumpsIn 7 = .ok (.if_icmp .ge 34, 3) := by decide +kernel
theorem dX5_bumpsIn_10 : decode cX5_bumpsIn 10 = .ok (.iload_n 2, 1) := by decide +kernel
theorem dX5_bumpsIn_11 : decode cX5_bumpsIn 11 = .ok (.aload_n 0, 1) := by decide +kernel
theorem dX5_bumpsIn_12 : decode cX5_bumpsIn 12 = .ok (.getfield 9, 3) := by decide +kernel
theorem dX5_bumpsIn_15 : decode cX5_bumpsIn 15 = .ok (.iconst 3, 1) := by decide +kernel
theorem dX5_bumpsIn_16 : decode cX5_bumpsIn 16 = .ok (.bipush 20, 2) := by decide +kernel
theorem dX5_bumpsIn_18 : decode cX5_bumpsIn 18 = .ok (.iload_n 1, 1) := by decide +kernel
theorem dX5_bumpsIn_19 : decode cX5_bumpsIn 19 = .ok (.imul, 1) := by decide +kernel
theorem dX5_bumpsIn_20 : decode cX5_bumpsIn 20 = .ok (.iadd, 1) := by decide +kernel
theorem dX5_bumpsIn_21 : decode cX5_bumpsIn 21 = .ok (.iload_n 3, 1) := by decide +kernel
theorem dX5_bumpsIn_22 : decode cX5_bumpsIn 22 = .ok (.iadd, 1) := by decide +kernel
theorem dX5_bumpsIn_23 : decode cX5_bumpsIn 23 = .ok (.iaload, 1) := by decide +kernel
theorem dX5_bumpsIn_24 : decode cX5_bumpsIn 24 = .ok (.iconst 1, 1) := by decide +kernel
theorem dX5_bumpsIn_25 : decode cX5_bumpsIn 25 = .ok (.if_icmp .ne 7, 3) := by decide +kernel
theorem dX5_bumpsIn_28 : decode cX5_bumpsIn 28 = .ok (.iconst 1, 1) := by decide +kernel
theorem dX5_bumpsIn_29 : decode cX5_bumpsIn 29 = .ok (.goto 4, 3) := by decide +kernel
theorem dX5_bumpsIn_32 : decode cX5_bumpsIn 32 = .ok (.iconst 0, 1) := by decide +kernel
theorem dX5_bumpsIn_33 : decode cX5_bumpsIn 33 = .ok (.iadd, 1) := by decide +kernel
theorem dX5_bumpsIn_34 : decode cX5_bumpsIn 34 = .ok (.istore_n 2, 1) := by decide +kernel
theorem dX5_bumpsIn_35 : decode cX5_bumpsIn 35 = .ok (.iinc 3 1, 3) := by decide +kernel
theorem dX5_bumpsIn_38 : decode cX5_bumpsIn 38 = .ok (.goto (-34), 3) := by decide +kernel
theorem dX5_bumpsIn_41 : decode cX5_bumpsIn 41 = .ok (.iload_n 2, 1) := by decide +kernel
theorem dX5_bumpsIn_42 : decode cX5_bumpsIn 42 = .ok (.ireturn, 1) := by decide +kernel
theorem dX5_thingsIn_0 : decode cX5_thingsIn 0 = .ok (.iconst 0, 1) := by decide +kernel
theorem dX5_thingsIn_1 : decode cX5_thingsIn 1 = .ok (.istore_n 2, 1) := by decide +kernel
theorem dX5_thingsIn_2 : decode cX5_thingsIn 2 = .ok (.iconst 0, 1) := by decide +kernel
theorem dX5_thingsIn_3 : decode cX5_thingsIn 3 = .ok (.istore_n 3, 1) := by decide +kernel
theorem dX5_thingsIn_4 : decode cX5_thingsIn 4 = .ok (.iload_n 3, 1) := by decide +kernel
theorem dX5_thingsIn_5 : decode cX5_thingsIn 5 = .ok (.bipush 20, 2) := by decide +kernel
theorem dX5_thingsIn_7 : decode cX5_thingsIn 7 = .ok (.if_icmp .ge 35, 3) := by decide +kernel
theorem dX5_thingsIn_10 : decode cX5_thingsIn 10 = .ok (.iload_n 2, 1) := by decide +kernel
theorem dX5_thingsIn_11 : decode cX5_thingsIn 11 = .ok (.aload_n 0, 1) := by decide +kernel
theorem dX5_thingsIn_12 : decode cX5_thingsIn 12 = .ok (.getfield 9, 3) := by decide +kernel
theorem dX5_thingsIn_15 : decode cX5_thingsIn 15 = .ok (.iconst 3, 1) := by decide +kernel
theorem dX5_thingsIn_16 : decode cX5_thingsIn 16 = .ok (.bipush 20, 2) := by decide +kernel
theorem dX5_thingsIn_18 : decode cX5_thingsIn 18 = .ok (.iload_n 1, 1) := by decide +kernel
theorem dX5_thingsIn_19 : decode cX5_thingsIn 19 = .ok (.imul, 1) := by decide +kernel
theorem dX5_thingsIn_20 : decode cX5_thingsIn 20 = .ok (.iadd, 1) := by decide +kernel
theorem dX5_thingsIn_21 : decode cX5_thingsIn 21 = .ok (.iload_n 3, 1) := by decide +kernel
theorem dX5_thingsIn_22 : decode cX5_thingsIn 22 = .ok (.iadd, 1) := by decide +kernel
theorem dX5_thingsIn_23 : decode cX5_thingsIn 23 = .ok (.iaload, 1) := by decide +kernel
theorem dX5_thingsIn_24 : decode cX5_thingsIn 24 = .ok (.ifCond .ne 7, 3) := by decide +kernel
theorem dX5_thingsIn_27 : decode cX5_thingsIn 27 = .ok (.iconst 0, 1) := by decide +kernel
theorem dX5_thingsIn_28 : decode cX5_thingsIn 28 = .ok (.goto 6, 3) := by decide +kernel
theorem dX5_thingsIn_31 : decode cX5_thingsIn 31 = .ok (.iconst 1, 1) := by decide +kernel
theorem dX5_thingsIn_32 : decode cX5_thingsIn 32 = .ok (.iload_n 3, 1) := by decide +kernel
theorem dX5_thingsIn_33 : decode cX5_thingsIn 33 = .ok (.ishl, 1) := by decide +kernel
theorem dX5_thingsIn_34 : decode cX5_thingsIn 34 = .ok (.ior, 1) := by decide +kernel
theorem dX5_thingsIn_35 : decode cX5_thingsIn 35 = .ok (.istore_n 2, 1) := by decide +kernel
theorem dX5_thingsIn_36 : decode cX5_thingsIn 36 = .ok (.iinc 3 1, 3) := by decide +kernel
theorem dX5_thingsIn_39 : decode cX5_thingsIn 39 = .ok (.goto (-35), 3) := by decide +kernel
theorem dX5_thingsIn_42 : decode cX5_thingsIn 42 = .ok (.iload_n 2, 1) := by decide +kernel
theorem dX5_thingsIn_43 : decode cX5_thingsIn 43 = .ok (.ireturn, 1) := by decide +kernel
theorem dX5_street_0 : decode cX5_street 0 = .ok (.iload_n 1, 1) := by decide +kernel
theorem dX5_street_1 : decode cX5_street 1 = .ok (.invokestatic 112, 3) := by decide +kernel
theorem dX5_street_4 : decode cX5_street 4 = .ok (.ifCond .eq 12, 3) := by decide +kernel
theorem dX5_street_7 : decode cX5_street 7 = .ok (.iload_n 2, 1) := by decide +kernel
theorem dX5_street_8 : decode cX5_street 8 = .ok (.iconst 0, 1) := by decide +kernel
theorem dX5_street_9 : decode cX5_street 9 = .ok (.iconst 3, 1) := by decide +kernel
theorem dX5_street_10 : decode cX5_street 10 = .ok (.invokestatic 52, 3) := by decide +kernel
theorem dX5_street_13 : decode cX5_street 13 = .ok (.ifCond .ne 9, 3) := by decide +kernel
theorem dX5_street_16 : decode cX5_street 16 = .ok (.aload_n 0, 1) := by decide +kernel
theorem dX5_street_17 : decode cX5_street 17 = .ok (.iconst 0, 1) := by decide +kernel
theorem dX5_street_18 : decode cX5_street 18 = .ok (.invokevirtual 118, 3) := by decide +kernel
theorem dX5_street_21 : decode cX5_street 21 = .ok (.ireturn, 1) := by decide +kernel
theorem dX5_street_22 : decode cX5_street 22 = .ok (.iconst 0, 1) := by decide +kernel
theorem dX5_street_23 : decode cX5_street 23 = .ok (.istore_n 3, 1) := by decide +kernel
theorem dX5_street_24 : decode cX5_street 24 = .ok (.iconst 0, 1) := by decide +kernel
theorem dX5_street_25 : decode cX5_street 25 = .ok (.istore 4, 2) := by decide +kernel
theorem dX5_street_27 : decode cX5_street 27 = .ok (.iconst 0, 1) := by decide +kernel
theorem dX5_street_28 : decode cX5_street 28 = .ok (.istore 5, 2) := by decide +kernel
theorem dX5_street_30 : decode cX5_street 30 = .ok (.iload 5, 2) := by decide +kernel
theorem dX5_street_32 : decode cX5_street 32 = .ok (.aload_n 0, 1) := by decide +kernel
theorem dX5_street_33 : decode cX5_street 33 = .ok (.getfield 9, 3) := by decide +kernel
theorem dX5_street_36 : decode cX5_street 36 = .ok (.iconst 2, 1) := by decide +kernel
theorem dX5_street_37 : decode cX5_street 37 = .ok (.iaload, 1) := by decide +kernel
theorem dX5_street_38 : decode cX5_street 38 = .ok (.if_icmp .ge 64, 3) := by decide +kernel
theorem dX5_street_41 : decode cX5_street 41 = .ok (.aload_n 0, 1) := by decide +kernel
theorem dX5_street_42 : decode cX5_street 42 = .ok (.iload 5, 2) := by decide +kernel
theorem dX5_street_44 : decode cX5_street 44 = .ok (.iconst 2, 1) := by decide +kernel
theorem dX5_street_45 : decode cX5_street 45 = .ok (.invokevirtual 92, 3) := by decide +kernel
theorem dX5_street_48 : decode cX5_street 48 = .ok (.iload_n 1, 1) := by decide +kernel
theorem dX5_street_49 : decode cX5_street 49 = .ok (.if_icmp .ne 7, 3) := by decide +kernel
theorem dX5_street_52 : decode cX5_street 52 = .ok (.iconst 1, 1) := by decide +kernel
theorem dX5_street_53 : decode cX5_street 53 = .ok (.goto 4, 3) := by decide +kernel
theorem dX5_street_56 : decode cX5_street 56 = .ok (.iconst 0, 1) := by decide +kernel
theorem dX5_street_57 : decode cX5_street 57 = .ok (.istore 6, 2) := by decide +kernel
theorem dX5_street_59 : decode cX5_street 59 = .ok (.iload_n 3, 1) := by decide +kernel
theorem dX5_street_60 : decode cX5_street 60 = .ok (.iload 6, 2) := by decide +kernel
theorem dX5_street_62 : decode cX5_street 62 = .ok (.ifCond .eq 10, 3) := by decide +kernel
theorem dX5_street_65 : decode cX5_street 65 = .ok (.iconst 1, 1) := by decide +kernel
theorem dX5_street_66 : decode cX5_street 66 = .ok (.iload 5, 2) := by decide +kernel
theorem dX5_street_68 : decode cX5_street 68 = .ok (.ishl, 1) := by decide +kernel
theorem dX5_street_69 : decode cX5_street 69 = .ok (.goto 4, 3) := by decide +kernel
theorem dX5_street_72 : decode cX5_street 72 = .ok (.iconst 0, 1) := by decide +kernel
theorem dX5_street_73 : decode cX5_street 73 = .ok (.ior, 1) := by decide +kernel
theorem dX5_street_74 : decode cX5_street 74 = .ok (.istore_n 3, 1) := by decide +kernel
theorem dX5_street_75 : decode cX5_street 75 = .ok (.iload 4, 2) := by decide +kernel
theorem dX5_street_77 : decode cX5_street 77 = .ok (.iload 6, 2) := by decide +kernel
theorem dX5_street_79 : decode cX5_street 79 = .ok (.ifCond .eq 13, 3) := by decide +kernel
theorem dX5_street_82 : decode cX5_street 82 = .ok (.aload_n 0, 1) := by decide +kernel
theorem dX5_street_83 : decode cX5_street 83 = .ok (.iload 5, 2) := by decide +kernel
theorem dX5_street_85 : decode cX5_street 85 = .ok (.iload_n 1, 1) := by decide +kernel
theorem dX5_street_86 : decode cX5_street 86 = .ok (.invokevirtual 99, 3) := by decide +kernel
theorem dX5_street_89 : decode cX5_street 89 = .ok (.goto 4, 3) := by decide +kernel
theorem dX5_street_92 : decode cX5_street 92 = .ok (.iconst 0, 1) := by decide +kernel
theorem dX5_street_93 : decode cX5_street 93 = .ok (.iadd, 1) := by decide +kernel
theorem dX5_street_94 : decode cX5_street 94 = .ok (.istore 4, 2) := by decide +kernel
theorem dX5_street_96 : decode cX5_street 96 = .ok (.iinc 5 1, 3) := by decide +kernel
theorem dX5_street_99 : decode cX5_street 99 = .ok (.goto (-69), 3) := by decide +kernel
theorem dX5_street_102 : decode cX5_street 102 = .ok (.iload_n 2, 1) := by decide +kernel
theorem dX5_street_103 : decode cX5_street 103 = .ok (.ifCond .ne 11, 3) := by decide +kernel
theorem dX5_street_106 : decode cX5_street 106 = .ok (.aload_n 0, 1) := by decide +kernel
theorem dX5_street_107 : decode cX5_street 107 = .ok (.iload_n 1, 1) := by decide +kernel
theorem dX5_street_108 : decode cX5_street 108 = .ok (.invokevirtual 124, 3) := by decide +kernel
theorem dX5_street_111 : decode cX5_street 111 = .ok (.goto 27, 3) := by decide +kernel
theorem dX5_street_114 : decode cX5_street 114 = .ok (.iload_n 2, 1) := by decide +kernel
theorem dX5_street_115 : decode cX5_street 115 = .ok (.iconst 1, 1) := by decide +kernel
theorem dX5_street_116 : decode cX5_street 116 = .ok (.if_icmp .ne 11, 3) := by decide +kernel
theorem dX5_street_119 : decode cX5_street 119 = .ok (.aload_n 0, 1) := by decide +kernel
theorem dX5_street_120 : decode cX5_street 120 = .ok (.iload_n 1, 1) := by decide +kernel
theorem dX5_street_121 : decode cX5_street 121 = .ok (.invokevirtual 127, 3) := by decide +kernel
theorem dX5_street_124 : decode cX5_street 124 = .ok (.goto 14, 3) := by decide +kernel
theorem dX5_street_127 : decode cX5_street 127 = .ok (.iload_n 2, 1) := by decide +kernel
theorem dX5_street_128 : decode cX5_street 128 = .ok (.iconst 2, 1) := by decide +kernel
theorem dX5_street_129 : decode cX5_street 129 = .ok (.if_icmp .ne 7, 3) := by decide +kernel
theorem dX5_street_132 : decode cX5_street 132 = .ok (.iload_n 3, 1) := by decide +kernel
theorem dX5_street_133 : decode cX5_street 133 = .ok (.goto 5, 3) := by decide +kernel
theorem dX5_street_136 : decode cX5_street 136 = .ok (.iload 4, 2) := by decide +kernel
theorem dX5_street_138 : decode cX5_street 138 = .ok (.ireturn, 1) := by decide +kernel
theorem dX5_now_0 : decode cX5_now 0 = .ok (.iload_n 1, 1) := by decide +kernel
theorem dX5_now_1 : decode cX5_now 1 = .ok (.tableswitch 55 0 3 #[31, 38, 45, 50], 31) := by decide +kernel
theorem dX5_now_32 : decode cX5_now 32 = .ok (.aload_n 0, 1) := by decide +kernel
theorem dX5_now_33 : decode cX5_now 33 = .ok (.getfield 9, 3) := by decide +kernel
theorem dX5_now_36 : decode cX5_now 36 = .ok (.iconst 0, 1) := by decide +kernel
theorem dX5_now_37 : decode cX5_now 37 = .ok (.iaload, 1) := by decide +kernel
theorem dX5_now_38 : decode cX5_now 38 = .ok (.ireturn, 1) := by decide +kernel
theorem dX5_now_39 : decode cX5_now 39 = .ok (.aload_n 0, 1) := by decide +kernel
theorem dX5_now_40 : decode cX5_now 40 = .ok (.getfield 9, 3) := by decide +kernel
theorem dX5_now_43 : decode cX5_now 43 = .ok (.iconst 1, 1) := by decide +kernel
theorem dX5_now_44 : decode cX5_now 44 = .ok (.iaload, 1) := by decide +kernel
theorem dX5_now_45 : decode cX5_now 45 = .ok (.ireturn, 1) := by decide +kernel
theorem dX5_now_46 : decode cX5_now 46 = .ok (.aload_n 0, 1) := by decide +kernel
theorem dX5_now_47 : decode cX5_now 47 = .ok (.invokevirtual 130, 3) := by decide +kernel
theorem dX5_now_50 : decode cX5_now 50 = .ok (.ireturn, 1) := by decide +kernel
theorem dX5_now_51 : decode cX5_now 51 = .ok (.aload_n 0, 1) := by decide +kernel
theorem dX5_now_52 : decode cX5_now 52 = .ok (.invokevirtual 134, 3) := by decide +kernel
theorem dX5_now_55 : decode cX5_now 55 = .ok (.ireturn, 1) := by decide +kernel
theorem dX5_now_56 : decode cX5_now 56 = .ok (.aload_n 0, 1) := by decide +kernel
theorem dX5_now_57 : decode cX5_now 57 = .ok (.iconst 0, 1) := by decide +kernel
theorem dX5_now_58 : decode cX5_now 58 = .ok (.invokevirtual 118, 3) := by decide +kernel
theorem dX5_now_61 : decode cX5_now 61 = .ok (.ireturn, 1) := by decide +kernel
theorem dX5_addsDriver_0 : decode cX5_addsDriver 0 = .ok (.aload_n 0, 1) := by decide +kernel
theorem dX5_addsDriver_1 : decode cX5_addsDriver 1 = .ok (.getfield 9, 3) := by decide +kernel
theorem dX5_addsDriver_4 : decode cX5_addsDriver 4 = .ok (.iconst 2, 1) := by decide +kernel
theorem dX5_addsDriver_5 : decode cX5_addsDriver 5 = .ok (.iaload, 1) := by decide +kernel
theorem dX5_addsDriver_6 : decode cX5_addsDriver 6 = .ok (.istore_n 2, 1) := by decide +kernel
theorem dX5_addsDriver_7 : decode cX5_addsDriver 7 = .ok (.aload_n 0, 1) := by decide +kernel
theorem dX5_addsDriver_8 : decode cX5_addsDriver 8 = .ok (.iload_n 2, 1) := by decide +kernel
theorem dX5_addsDriver_9 : decode cX5_addsDriver 9 = .ok (.iconst 0, 1) := by decide +kernel
theorem dX5_addsDriver_10 : decode cX5_addsDriver 10 = .ok (.iload_n 1, 1) := by decide +kernel
theorem dX5_addsDriver_11 : decode cX5_addsDriver 11 = .ok (.invokevirtual 105, 3) := by decide +kernel
theorem dX5_addsDriver_14 : decode cX5_addsDriver 14 = .ok (.aload_n 0, 1) := by decide +kernel
theorem dX5_addsDriver_15 : decode cX5_addsDriver 15 = .ok (.iload_n 2, 1) := by decide +kernel
theorem dX5_addsDriver_16 : decode cX5_addsDriver 16 = .ok (.iconst 1, 1) := by decide +kernel
theorem dX5_addsDriver_17 : decode cX5_addsDriver 17 = .ok (.bipush 40, 2) := by decide +kernel
theorem dX5_addsDriver_19 : decode cX5_addsDriver 19 = .ok (.invokevirtual 105, 3) := by decide +kernel
theorem dX5_addsDriver_22 : decode cX5_addsDriver 22 = .ok (.aload_n 0, 1) := by decide +kernel
theorem dX5_addsDriver_23 : decode cX5_addsDriver 23 = .ok (.iload_n 2, 1) := by decide +kernel
theorem dX5_addsDriver_24 : decode cX5_addsDriver 24 = .ok (.iconst 2, 1) := by decide +kernel
theorem dX5_addsDriver_25 : decode cX5_addsDriver 25 = .ok (.iconst 0, 1) := by decide +kernel
theorem dX5_addsDriver_26 : decode cX5_addsDriver 26 = .ok (.invokevirtual 105, 3) := by decide +kernel
theorem dX5_addsDriver_29 : decode cX5_addsDriver 29 = .ok (.aload_n 0, 1) := by decide +kernel
theorem dX5_addsDriver_30 : decode cX5_addsDriver 30 = .ok (.getfield 9, 3) := by decide +kernel
theorem dX5_addsDriver_33 : decode cX5_addsDriver 33 = .ok (.iconst 2, 1) := by decide +kernel
theorem dX5_addsDriver_34 : decode cX5_addsDriver 34 = .ok (.dup2, 1) := by decide +kernel
theorem dX5_addsDriver_35 : decode cX5_addsDriver 35 = .ok (.iaload, 1) := by decide +kernel
theorem dX5_addsDriver_36 : decode cX5_addsDriver 36 = .ok (.iconst 1, 1) := by decide +kernel
theorem dX5_addsDriver_37 : decode cX5_addsDriver 37 = .ok (.iadd, 1) := by decide +kernel
theorem dX5_addsDriver_38 : decode cX5_addsDriver 38 = .ok (.iastore, 1) := by decide +kernel
theorem dX5_addsDriver_39 : decode cX5_addsDriver 39 = .ok (.return_, 1) := by decide +kernel
theorem dX5_driver_0 : decode cX5_driver 0 = .ok (.iload_n 1, 1) := by decide +kernel
theorem dX5_driver_1 : decode cX5_driver 1 = .ok (.iconst 0, 1) := by decide +kernel
theorem dX5_driver_2 : decode cX5_driver 2 = .ok (.iconst 5, 1) := by decide +kernel
theorem dX5_driver_3 : decode cX5_driver 3 = .ok (.invokestatic 52, 3) := by decide +kernel
theorem dX5_driver_6 : decode cX5_driver 6 = .ok (.ifCond .ne 9, 3) := by decide +kernel
theorem dX5_driver_9 : decode cX5_driver 9 = .ok (.aload_n 0, 1) := by decide +kernel
theorem dX5_driver_10 : decode cX5_driver 10 = .ok (.iconst 0, 1) := by decide +kernel
theorem dX5_driver_11 : decode cX5_driver 11 = .ok (.invokevirtual 118, 3) := by decide +kernel
theorem dX5_driver_14 : decode cX5_driver 14 = .ok (.ireturn, 1) := by decide +kernel
theorem dX5_driver_15 : decode cX5_driver 15 = .ok (.aload_n 0, 1) := by decide +kernel
theorem dX5_driver_16 : decode cX5_driver 16 = .ok (.getfield 9, 3) := by decide +kernel
theorem dX5_driver_19 : decode cX5_driver 19 = .ok (.iconst 2, 1) := by decide +kernel
theorem dX5_driver_20 : decode cX5_driver 20 = .ok (.iaload, 1) := by decide +kernel
theorem dX5_driver_21 : decode cX5_driver 21 = .ok (.bipush 8, 2) := by decide +kernel
theorem dX5_driver_23 : decode cX5_driver 23 = .ok (.if_icmp .ne 9, 3) := by decide +kernel
theorem dX5_driver_26 : decode cX5_driver 26 = .ok (.aload_n 0, 1) := by decide +kernel
theorem dX5_driver_27 : decode cX5_driver 27 = .ok (.iconst 1, 1) := by decide +kernel
theorem dX5_driver_28 : decode cX5_driver 28 = .ok (.invokevirtual 118, 3) := by decide +kernel
theorem dX5_driver_31 : decode cX5_driver 31 = .ok (.ireturn, 1) := by decide +kernel
theorem dX5_driver_32 : decode cX5_driver 32 = .ok (.aload_n 0, 1) := by decide +kernel
theorem dX5_driver_33 : decode cX5_driver 33 = .ok (.iload_n 1, 1) := by decide +kernel
theorem dX5_driver_34 : decode cX5_driver 34 = .ok (.invokevirtual 137, 3) := by decide +kernel
theorem dX5_driver_37 : decode cX5_driver 37 = .ok (.aload_n 0, 1) := by decide +kernel
theorem dX5_driver_38 : decode cX5_driver 38 = .ok (.getfield 9, 3) := by decide +kernel
theorem dX5_driver_41 : decode cX5_driver 41 = .ok (.iconst 2, 1) := by decide +kernel
theorem dX5_driver_42 : decode cX5_driver 42 = .ok (.iaload, 1) := by decide +kernel
theorem dX5_driver_43 : decode cX5_driver 43 = .ok (.iconst 1, 1) := by decide +kernel
theorem dX5_driver_44 : decode cX5_driver 44 = .ok (.isub, 1) := by decide +kernel
theorem dX5_driver_45 : decode cX5_driver 45 = .ok (.ireturn, 1) := by decide +kernel
theorem dX5_of_0 : decode cX5_of 0 = .ok (.aload_n 0, 1) := by decide +kernel
theorem dX5_of_1 : decode cX5_of 1 = .ok (.iload_n 1, 1) := by decide +kernel
theorem dX5_of_2 : decode cX5_of 2 = .ok (.invokevirtual 140, 3) := by decide +kernel
theorem dX5_of_5 : decode cX5_of 5 = .ok (.ifCond .eq 12, 3) := by decide +kernel
theorem dX5_of_8 : decode cX5_of 8 = .ok (.iload_n 2, 1) := by decide +kernel
theorem dX5_of_9 : decode cX5_of 9 = .ok (.iconst 0, 1) := by decide +kernel
theorem dX5_of_10 : decode cX5_of 10 = .ok (.iconst 5, 1) := by decide +kernel
theorem dX5_of_11 : decode cX5_of 11 = .ok (.invokestatic 52, 3) := by decide +kernel
theorem dX5_of_14 : decode cX5_of 14 = .ok (.ifCond .ne 9, 3) := by decide +kernel
theorem dX5_of_17 : decode cX5_of 17 = .ok (.aload_n 0, 1) := by decide +kernel
theorem dX5_of_18 : decode cX5_of 18 = .ok (.iconst 0, 1) := by decide +kernel
theorem dX5_of_19 : decode cX5_of 19 = .ok (.invokevirtual 118, 3) := by decide +kernel
theorem dX5_of_22 : decode cX5_of 22 = .ok (.ireturn, 1) := by decide +kernel
theorem dX5_of_23 : decode cX5_of 23 = .ok (.iload_n 2, 1) := by decide +kernel
theorem dX5_of_24 : decode cX5_of 24 = .ok (.tableswitch 62 3 5 #[28, 38, 50], 28) := by decide +kernel
theorem dX5_of_52 : decode cX5_of 52 = .ok (.aload_n 0, 1) := by decide +kernel
theorem dX5_of_53 : decode cX5_of 53 = .ok (.iload_n 1, 1) := by decide +kernel
theorem dX5_of_54 : decode cX5_of 54 = .ok (.iconst 0, 1) := by decide +kernel
theorem dX5_of_55 : decode cX5_of 55 = .ok (.invokevirtual 92, 3) := by decide +kernel
theorem dX5_of_58 : decode cX5_of 58 = .ok (.invokestatic 82, 3) := by decide +kernel
theorem dX5_of_61 : decode cX5_of 61 = .ok (.ireturn, 1) := by decide +kernel
theorem dX5_of_62 : decode cX5_of 62 = .ok (.aload_n 0, 1) := by decide +kernel
theorem dX5_of_63 : decode cX5_of 63 = .ok (.iload_n 1, 1) := by decide +kernel
theorem dX5_of_64 : decode cX5_of 64 = .ok (.aload_n 0, 1) := by decide +kernel
theorem dX5_of_65 : decode cX5_of 65 = .ok (.iload_n 1, 1) := by decide +kernel
theorem dX5_of_66 : decode cX5_of 66 = .ok (.iconst 2, 1) := by decide +kernel
theorem dX5_of_67 : decode cX5_of 67 = .ok (.invokevirtual 92, 3) := by decide +kernel
theorem dX5_of_70 : decode cX5_of 70 = .ok (.invokevirtual 102, 3) := by decide +kernel
theorem dX5_of_73 : decode cX5_of 73 = .ok (.ireturn, 1) := by decide +kernel
theorem dX5_of_74 : decode cX5_of 74 = .ok (.aload_n 0, 1) := by decide +kernel
theorem dX5_of_75 : decode cX5_of 75 = .ok (.iload_n 1, 1) := by decide +kernel
theorem dX5_of_76 : decode cX5_of 76 = .ok (.aload_n 0, 1) := by decide +kernel
theorem dX5_of_77 : decode cX5_of 77 = .ok (.iload_n 1, 1) := by decide +kernel
theorem dX5_of_78 : decode cX5_of 78 = .ok (.iconst 2, 1) := by decide +kernel
theorem dX5_of_79 : decode cX5_of 79 = .ok (.invokevirtual 92, 3) := by decide +kernel
theorem dX5_of_82 : decode cX5_of 82 = .ok (.invokevirtual 99, 3) := by decide +kernel
theorem dX5_of_85 : decode cX5_of 85 = .ok (.ireturn, 1) := by decide +kernel
theorem dX5_of_86 : decode cX5_of 86 = .ok (.aload_n 0, 1) := by decide +kernel
theorem dX5_of_87 : decode cX5_of 87 = .ok (.iload_n 1, 1) := by decide +kernel
theorem dX5_of_88 : decode cX5_of 88 = .ok (.iload_n 2, 1) := by decide +kernel
theorem dX5_of_89 : decode cX5_of 89 = .ok (.invokevirtual 92, 3) := by decide +kernel
theorem dX5_of_92 : decode cX5_of 92 = .ok (.ireturn, 1) := by decide +kernel
theorem dX5_isWish_0 : decode cX5_isWish 0 = .ok (.iload_n 0, 1) := by decide +kernel
theorem dX5_isWish_1 : decode cX5_isWish 1 = .ok (.bipush 10, 2) := by decide +kernel
theorem dX5_isWish_3 : decode cX5_isWish 3 = .ok (.bipush 80, 2) := by decide +kernel
theorem dX5_isWish_5 : decode cX5_isWish 5 = .ok (.invokestatic 52, 3) := by decide +kernel
theorem dX5_isWish_8 : decode cX5_isWish 8 = .ok (.ireturn, 1) := by decide +kernel
theorem dX5_set_0 : decode cX5_set 0 = .ok (.aload_n 0, 1) := by decide +kernel
theorem dX5_set_1 : decode cX5_set 1 = .ok (.iload_n 1, 1) := by decide +kernel
theorem dX5_set_2 : decode cX5_set 2 = .ok (.invokevirtual 140, 3) := by decide +kernel
theorem dX5_set_5 : decode cX5_set 5 = .ok (.ifCond .eq 34, 3) := by decide +kernel
theorem dX5_set_8 : decode cX5_set 8 = .ok (.iload_n 2, 1) := by decide +kernel
theorem dX5_set_9 : decode cX5_set 9 = .ok (.iconst 1, 1) := by decide +kernel
theorem dX5_set_10 : decode cX5_set 10 = .ok (.iconst 2, 1) := by decide +kernel
theorem dX5_set_11 : decode cX5_set 11 = .ok (.invokestatic 52, 3) := by decide +kernel
theorem dX5_set_14 : decode cX5_set 14 = .ok (.ifCond .eq 25, 3) := by decide +kernel
theorem dX5_set_17 : decode cX5_set 17 = .ok (.iload_n 2, 1) := by decide +kernel
theorem dX5_set_18 : decode cX5_set 18 = .ok (.iconst 1, 1) := by decide +kernel
theorem dX5_set_19 : decode cX5_set 19 = .ok (.if_icmp .ne 13, 3) := by decide +kernel
theorem dX5_set_22 : decode cX5_set 22 = .ok (.iload_n 3, 1) := by decide +kernel
theorem dX5_set_23 : decode cX5_set 23 = .ok (.invokestatic 143, 3) := by decide +kernel
theorem dX5_set_26 : decode cX5_set 26 = .ok (.ifCond .eq 13, 3) := by decide +kernel
theorem dX5_set_29 : decode cX5_set 29 = .ok (.goto 16, 3) := by decide +kernel
theorem dX5_set_32 : decode cX5_set 32 = .ok (.iload_n 3, 1) := by decide +kernel
theorem dX5_set_33 : decode cX5_set 33 = .ok (.invokestatic 112, 3) := by decide +kernel
theorem dX5_set_36 : decode cX5_set 36 = .ok (.ifCond .ne 9, 3) := by decide +kernel
theorem dX5_set_39 : decode cX5_set 39 = .ok (.aload_n 0, 1) := by decide +kernel
theorem dX5_set_40 : decode cX5_set 40 = .ok (.iconst 0, 1) := by decide +kernel
theorem dX5_set_41 : decode cX5_set 41 = .ok (.invokevirtual 118, 3) := by decide +kernel
theorem dX5_set_44 : decode cX5_set 44 = .ok (.ireturn, 1) := by decide +kernel
theorem dX5_set_45 : decode cX5_set 45 = .ok (.aload_n 0, 1) := by decide +kernel
theorem dX5_set_46 : decode cX5_set 46 = .ok (.iload_n 1, 1) := by decide +kernel
theorem dX5_set_47 : decode cX5_set 47 = .ok (.iload_n 2, 1) := by decide +kernel
theorem dX5_set_48 : decode cX5_set 48 = .ok (.invokevirtual 92, 3) := by decide +kernel
theorem dX5_set_51 : decode cX5_set 51 = .ok (.istore 4, 2) := by decide +kernel
theorem dX5_set_53 : decode cX5_set 53 = .ok (.aload_n 0, 1) := by decide +kernel
theorem dX5_set_54 : decode cX5_set 54 = .ok (.iload_n 1, 1) := by decide +kernel
theorem dX5_set_55 : decode cX5_set 55 = .ok (.iload_n 2, 1) := by decide +kernel
theorem dX5_set_56 : decode cX5_set 56 = .ok (.iload_n 3, 1) := by decide +kernel
theorem dX5_set_57 : decode cX5_set 57 = .ok (.invokevirtual 105, 3) := by decide +kernel
theorem dX5_set_60 : decode cX5_set 60 = .ok (.iload 4, 2) := by decide +kernel
theorem dX5_set_62 : decode cX5_set 62 = .ok (.ireturn, 1) := by decide +kernel
theorem dX5_turn_0 : decode cX5_turn 0 = .ok (.aload_n 0, 1) := by decide +kernel
theorem dX5_turn_1 : decode cX5_turn 1 = .ok (.iload_n 1, 1) := by decide +kernel
theorem dX5_turn_2 : decode cX5_turn 2 = .ok (.invokevirtual 140, 3) := by decide +kernel
theorem dX5_turn_5 : decode cX5_turn 5 = .ok (.ifCond .eq 12, 3) := by decide +kernel
theorem dX5_turn_8 : decode cX5_turn 8 = .ok (.iload_n 2, 1) := by decide +kernel
theorem dX5_turn_9 : decode cX5_turn 9 = .ok (.iconst 0, 1) := by decide +kernel
theorem dX5_turn_10 : decode cX5_turn 10 = .ok (.iconst 5, 1) := by decide +kernel
theorem dX5_turn_11 : decode cX5_turn 11 = .ok (.invokestatic 52, 3) := by decide +kernel
theorem dX5_turn_14 : decode cX5_turn 14 = .ok (.ifCond .ne 9, 3) := by decide +kernel
theorem dX5_turn_17 : decode cX5_turn 17 = .ok (.aload_n 0, 1) := by decide +kernel
theorem dX5_turn_18 : decode cX5_turn 18 = .ok (.iconst 0, 1) := by decide +kernel
theorem dX5_turn_19 : decode cX5_turn 19 = .ok (.invokevirtual 118, 3) := by decide +kernel
theorem dX5_turn_22 : decode cX5_turn 22 = .ok (.ireturn, 1) := by decide +kernel
theorem dX5_turn_23 : decode cX5_turn 23 = .ok (.aload_n 0, 1) := by decide +kernel
theorem dX5_turn_24 : decode cX5_turn 24 = .ok (.iload_n 1, 1) := by decide +kernel
theorem dX5_turn_25 : decode cX5_turn 25 = .ok (.iconst 0, 1) := by decide +kernel
theorem dX5_turn_26 : decode cX5_turn 26 = .ok (.invokevirtual 92, 3) := by decide +kernel
theorem dX5_turn_29 : decode cX5_turn 29 = .ok (.istore_n 3, 1) := by decide +kernel
theorem dX5_turn_30 : decode cX5_turn 30 = .ok (.aload_n 0, 1) := by decide +kernel
theorem dX5_turn_31 : decode cX5_turn 31 = .ok (.iload_n 1, 1) := by decide +kernel
theorem dX5_turn_32 : decode cX5_turn 32 = .ok (.iconst 0, 1) := by decide +kernel
theorem dX5_turn_33 : decode cX5_turn 33 = .ok (.iload_n 2, 1) := by decide +kernel
theorem dX5_turn_34 : decode cX5_turn 34 = .ok (.invokevirtual 105, 3) := by decide +kernel
theorem dX5_turn_37 : decode cX5_turn 37 = .ok (.iload_n 3, 1) := by decide +kernel
theorem dX5_turn_38 : decode cX5_turn 38 = .ok (.ireturn, 1) := by decide +kernel
theorem dX5_as_0 : decode cX5_as 0 = .ok (.aload_n 0, 1) := by decide +kernel
theorem dX5_as_1 : decode cX5_as 1 = .ok (.iload_n 1, 1) := by decide +kernel
theorem dX5_as_2 : decode cX5_as 2 = .ok (.invokevirtual 140, 3) := by decide +kernel
theorem dX5_as_5 : decode cX5_as 5 = .ok (.ifCond .eq 12, 3) := by decide +kernel
theorem dX5_as_8 : decode cX5_as 8 = .ok (.iload_n 2, 1) := by decide +kernel
theorem dX5_as_9 : decode cX5_as 9 = .ok (.iconst 0, 1) := by decide +kernel
theorem dX5_as_10 : decode cX5_as 10 = .ok (.iconst 5, 1) := by decide +kernel
theorem dX5_as_11 : decode cX5_as 11 = .ok (.invokestatic 52, 3) := by decide +kernel
theorem dX5_as_14 : decode cX5_as 14 = .ok (.ifCond .ne 9, 3) := by decide +kernel
theorem dX5_as_17 : decode cX5_as 17 = .ok (.aload_n 0, 1) := by decide +kernel
theorem dX5_as_18 : decode cX5_as 18 = .ok (.iconst 0, 1) := by decide +kernel
theorem dX5_as_19 : decode cX5_as 19 = .ok (.invokevirtual 118, 3) := by decide +kernel
theorem dX5_as_22 : decode cX5_as 22 = .ok (.ireturn, 1) := by decide +kernel
theorem dX5_as_23 : decode cX5_as 23 = .ok (.aload_n 0, 1) := by decide +kernel
theorem dX5_as_24 : decode cX5_as 24 = .ok (.iload_n 1, 1) := by decide +kernel
theorem dX5_as_25 : decode cX5_as 25 = .ok (.iconst 0, 1) := by decide +kernel
theorem dX5_as_26 : decode cX5_as 26 = .ok (.invokevirtual 92, 3) := by decide +kernel
theorem dX5_as_29 : decode cX5_as 29 = .ok (.istore_n 3, 1) := by decide +kernel
theorem dX5_as_30 : decode cX5_as 30 = .ok (.iload_n 3, 1) := by decide +kernel
theorem dX5_as_31 : decode cX5_as 31 = .ok (.iload_n 2, 1) := by decide +kernel
theorem dX5_as_32 : decode cX5_as 32 = .ok (.if_icmp .eq 30, 3) := by decide +kernel
theorem dX5_as_35 : decode cX5_as 35 = .ok (.iload_n 3, 1) := by decide +kernel
theorem dX5_as_36 : decode cX5_as 36 = .ok (.ifCond .eq 26, 3) := by decide +kernel
theorem dX5_as_39 : decode cX5_as 39 = .ok (.iload_n 3, 1) := by decide +kernel
theorem dX5_as_40 : decode cX5_as 40 = .ok (.iconst 4, 1) := by decide +kernel
theorem dX5_as_41 : decode cX5_as 41 = .ok (.if_icmp .ne 7, 3) := by decide +kernel
theorem dX5_as_44 : decode cX5_as 44 = .ok (.iconst 1, 1) := by decide +kernel
theorem dX5_as_45 : decode cX5_as 45 = .ok (.goto 13, 3) := by decide +kernel
theorem dX5_as_48 : decode cX5_as 48 = .ok (.iload_n 3, 1) := by decide +kernel
theorem dX5_as_49 : decode cX5_as 49 = .ok (.iconst 5, 1) := by decide +kernel
theorem dX5_as_50 : decode cX5_as 50 = .ok (.if_icmp .ne 7, 3) := by decide +kernel
theorem dX5_as_53 : decode cX5_as 53 = .ok (.iconst 3, 1) := by decide +kernel
theorem dX5_as_54 : decode cX5_as 54 = .ok (.goto 4, 3) := by decide +kernel
theorem dX5_as_57 : decode cX5_as 57 = .ok (.iconst 0, 1) := by decide +kernel
theorem dX5_as_58 : decode cX5_as 58 = .ok (.istore_n 3, 1) := by decide +kernel
theorem dX5_as_59 : decode cX5_as 59 = .ok (.goto (-29), 3) := by decide +kernel
theorem dX5_as_62 : decode cX5_as 62 = .ok (.iload_n 3, 1) := by decide +kernel
theorem dX5_as_63 : decode cX5_as 63 = .ok (.iload_n 2, 1) := by decide +kernel
theorem dX5_as_64 : decode cX5_as 64 = .ok (.if_icmp .ne 12, 3) := by decide +kernel
theorem dX5_as_67 : decode cX5_as 67 = .ok (.aload_n 0, 1) := by decide +kernel
theorem dX5_as_68 : decode cX5_as 68 = .ok (.iload_n 1, 1) := by decide +kernel
theorem dX5_as_69 : decode cX5_as 69 = .ok (.iconst 1, 1) := by decide +kernel
theorem dX5_as_70 : decode cX5_as 70 = .ok (.invokevirtual 92, 3) := by decide +kernel
theorem dX5_as_73 : decode cX5_as 73 = .ok (.goto 8, 3) := by decide +kernel
theorem dX5_as_76 : decode cX5_as 76 = .ok (.aload_n 0, 1) := by decide +kernel
theorem dX5_as_77 : decode cX5_as 77 = .ok (.iconst 2, 1) := by decide +kernel
theorem dX5_as_78 : decode cX5_as 78 = .ok (.invokevirtual 118, 3) := by decide +kernel
theorem dX5_as_81 : decode cX5_as 81 = .ok (.ireturn, 1) := by decide +kernel
theorem dX5_slows_0 : decode cX5_slows 0 = .ok (.aload_n 0, 1) := by decide +kernel
theorem dX5_slows_1 : decode cX5_slows 1 = .ok (.iload_n 1, 1) := by decide +kernel
theorem dX5_slows_2 : decode cX5_slows 2 = .ok (.invokevirtual 140, 3) := by decide +kernel
theorem dX5_slows_5 : decode cX5_slows 5 = .ok (.ifCond .eq 27, 3) := by decide +kernel
theorem dX5_slows_8 : decode cX5_slows 8 = .ok (.iload_n 2, 1) := by decide +kernel
theorem dX5_slows_9 : decode cX5_slows 9 = .ok (.iconst 1, 1) := by decide +kernel
theorem dX5_slows_10 : decode cX5_slows 10 = .ok (.iconst 4, 1) := by decide +kernel
theorem dX5_slows_11 : decode cX5_slows 11 = .ok (.invokestatic 52, 3) := by decide +kernel
theorem dX5_slows_14 : decode cX5_slows 14 = .ok (.ifCond .eq 18, 3) := by decide +kernel
theorem dX5_slows_17 : decode cX5_slows 17 = .ok (.iload_n 3, 1) := by decide +kernel
theorem dX5_slows_18 : decode cX5_slows 18 = .ok (.iconst 0, 1) := by decide +kernel
theorem dX5_slows_19 : decode cX5_slows 19 = .ok (.sipush 999, 3) := by decide +kernel
theorem dX5_slows_22 : decode cX5_slows 22 = .ok (.invokestatic 52, 3) := by decide +kernel
theorem dX5_slows_25 : decode cX5_slows 25 = .ok (.ifCond .eq 7, 3) := by decide +kernel
theorem dX5_slows_28 : decode cX5_slows 28 = .ok (.iconst 1, 1) := by decide +kernel
theorem dX5_slows_29 : decode cX5_slows 29 = .ok (.goto 4, 3) := by decide +kernel
theorem dX5_slows_32 : decode cX5_slows 32 = .ok (.iconst 0, 1) := by decide +kernel
theorem dX5_slows_33 : decode cX5_slows 33 = .ok (.istore 4, 2) := by decide +kernel
theorem dX5_slows_35 : decode cX5_slows 35 = .ok (.iload 4, 2) := by decide +kernel
theorem dX5_slows_37 : decode cX5_slows 37 = .ok (.ifCond .eq 29, 3) := by decide +kernel
theorem dX5_slows_40 : decode cX5_slows 40 = .ok (.aload_n 0, 1) := by decide +kernel
theorem dX5_slows_41 : decode cX5_slows 41 = .ok (.iload_n 1, 1) := by decide +kernel
theorem dX5_slows_42 : decode cX5_slows 42 = .ok (.iconst 0, 1) := by decide +kernel
theorem dX5_slows_43 : decode cX5_slows 43 = .ok (.invokevirtual 92, 3) := by decide +kernel
theorem dX5_slows_46 : decode cX5_slows 46 = .ok (.iload_n 2, 1) := by decide +kernel
theorem dX5_slows_47 : decode cX5_slows 47 = .ok (.aload_n 0, 1) := by decide +kernel
theorem dX5_slows_48 : decode cX5_slows 48 = .ok (.iload_n 1, 1) := by decide +kernel
theorem dX5_slows_49 : decode cX5_slows 49 = .ok (.iconst 1, 1) := by decide +kernel
theorem dX5_slows_50 : decode cX5_slows 50 = .ok (.invokevirtual 92, 3) := by decide +kernel
theorem dX5_slows_53 : decode cX5_slows 53 = .ok (.aload_n 0, 1) := by decide +kernel
theorem dX5_slows_54 : decode cX5_slows 54 = .ok (.getfield 9, 3) := by decide +kernel
theorem dX5_slows_57 : decode cX5_slows 57 = .ok (.iconst 1, 1) := by decide +kernel
theorem dX5_slows_58 : decode cX5_slows 58 = .ok (.iaload, 1) := by decide +kernel
theorem dX5_slows_59 : decode cX5_slows 59 = .ok (.iload_n 3, 1) := by decide +kernel
theorem dX5_slows_60 : decode cX5_slows 60 = .ok (.invokestatic 86, 3) := by decide +kernel
theorem dX5_slows_63 : decode cX5_slows 63 = .ok (.goto 8, 3) := by decide +kernel
theorem dX5_slows_66 : decode cX5_slows 66 = .ok (.aload_n 0, 1) := by decide +kernel
theorem dX5_slows_67 : decode cX5_slows 67 = .ok (.iconst 0, 1) := by decide +kernel
theorem dX5_slows_68 : decode cX5_slows 68 = .ok (.invokevirtual 118, 3) := by decide +kernel
theorem dX5_slows_71 : decode cX5_slows 71 = .ok (.ireturn, 1) := by decide +kernel
theorem dX5_areBoth_0 : decode cX5_areBoth 0 = .ok (.aload_n 0, 1) := by decide +kernel
theorem dX5_areBoth_1 : decode cX5_areBoth 1 = .ok (.iload_n 1, 1) := by decide +kernel
theorem dX5_areBoth_2 : decode cX5_areBoth 2 = .ok (.invokevirtual 140, 3) := by decide +kernel
theorem dX5_areBoth_5 : decode cX5_areBoth 5 = .ok (.ifCond .eq 14, 3) := by decide +kernel
theorem dX5_areBoth_8 : decode cX5_areBoth 8 = .ok (.iload_n 2, 1) := by decide +kernel
theorem dX5_areBoth_9 : decode cX5_areBoth 9 = .ok (.invokestatic 112, 3) := by decide +kernel
theorem dX5_areBoth_12 : decode cX5_areBoth 12 = .ok (.ifCond .eq 7, 3) := by decide +kernel
theorem dX5_areBoth_15 : decode cX5_areBoth 15 = .ok (.iconst 1, 1) := by decide +kernel
theorem dX5_areBoth_16 : decode cX5_areBoth 16 = .ok (.goto 4, 3) := by decide +kernel
theorem dX5_areBoth_19 : decode cX5_areBoth 19 = .ok (.iconst 0, 1) := by decide +kernel
theorem dX5_areBoth_20 : decode cX5_areBoth 20 = .ok (.ireturn, 1) := by decide +kernel
theorem dX5_quick_0 : decode cX5_quick 0 = .ok (.aload_n 0, 1) := by decide +kernel
theorem dX5_quick_1 : decode cX5_quick 1 = .ok (.iload_n 1, 1) := by decide +kernel
theorem dX5_quick_2 : decode cX5_quick 2 = .ok (.iload_n 2, 1) := by decide +kernel
theorem dX5_quick_3 : decode cX5_quick 3 = .ok (.invokevirtual 146, 3) := by decide +kernel
theorem dX5_quick_6 : decode cX5_quick 6 = .ok (.ifCond .eq 10, 3) := by decide +kernel
theorem dX5_quick_9 : decode cX5_quick 9 = .ok (.iload_n 3, 1) := by decide +kernel
theorem dX5_quick_10 : decode cX5_quick 10 = .ok (.invokestatic 115, 3) := by decide +kernel
theorem dX5_quick_13 : decode cX5_quick 13 = .ok (.ifCond .ne 9, 3) := by decide +kernel
theorem dX5_quick_16 : decode cX5_quick 16 = .ok (.aload_n 0, 1) := by decide +kernel
theorem dX5_quick_17 : decode cX5_quick 17 = .ok (.iconst 0, 1) := by decide +kernel
theorem dX5_quick_18 : decode cX5_quick 18 = .ok (.invokevirtual 118, 3) := by decide +kernel
theorem dX5_quick_21 : decode cX5_quick 21 = .ok (.ireturn, 1) := by decide +kernel
theorem dX5_quick_22 : decode cX5_quick 22 = .ok (.aload_n 0, 1) := by decide +kernel
theorem dX5_quick_23 : decode cX5_quick 23 = .ok (.aload_n 0, 1) := by decide +kernel
theorem dX5_quick_24 : decode cX5_quick 24 = .ok (.iload_n 1, 1) := by decide +kernel
theorem dX5_quick_25 : decode cX5_quick 25 = .ok (.iconst 0, 1) := by decide +kernel
theorem dX5_quick_26 : decode cX5_quick 26 = .ok (.invokevirtual 92, 3) := by decide +kernel
theorem dX5_quick_29 : decode cX5_quick 29 = .ok (.aload_n 0, 1) := by decide +kernel
theorem dX5_quick_30 : decode cX5_quick 30 = .ok (.iload_n 1, 1) := by decide +kernel
theorem dX5_quick_31 : decode cX5_quick 31 = .ok (.iconst 1, 1) := by decide +kernel
theorem dX5_quick_32 : decode cX5_quick 32 = .ok (.invokevirtual 92, 3) := by decide +kernel
theorem dX5_quick_35 : decode cX5_quick 35 = .ok (.iload_n 2, 1) := by decide +kernel
theorem dX5_quick_36 : decode cX5_quick 36 = .ok (.invokevirtual 95, 3) := by decide +kernel
theorem dX5_quick_39 : decode cX5_quick 39 = .ok (.aload_n 0, 1) := by decide +kernel
theorem dX5_quick_40 : decode cX5_quick 40 = .ok (.getfield 22, 3) := by decide +kernel
theorem dX5_quick_43 : decode cX5_quick 43 = .ok (.iload_n 3, 1) := by decide +kernel
theorem dX5_quick_44 : decode cX5_quick 44 = .ok (.iaload, 1) := by decide +kernel
theorem dX5_quick_45 : decode cX5_quick 45 = .ok (.ireturn, 1) := by decide +kernel
theorem dX5_takes_0 : decode cX5_takes 0 = .ok (.aload_n 0, 1) := by decide +kernel
theorem dX5_takes_1 : decode cX5_takes 1 = .ok (.iload_n 1, 1) := by decide +kernel
theorem dX5_takes_2 : decode cX5_takes 2 = .ok (.iload_n 2, 1) := by decide +kernel
theorem dX5_takes_3 : decode cX5_takes 3 = .ok (.invokevirtual 146, 3) := by decide +kernel
theorem dX5_takes_6 : decode cX5_takes 6 = .ok (.ifCond .eq 12, 3) := by decide +kernel
theorem dX5_takes_9 : decode cX5_takes 9 = .ok (.aload_n 0, 1) := by decide +kernel
theorem dX5_takes_10 : decode cX5_takes 10 = .ok (.iload_n 1, 1) := by decide +kernel
theorem dX5_takes_11 : decode cX5_takes 11 = .ok (.iload_n 2, 1) := by decide +kernel
theorem dX5_takes_12 : decode cX5_takes 12 = .ok (.invokevirtual 102, 3) := by decide +kernel
theorem dX5_takes_15 : decode cX5_takes 15 = .ok (.goto 8, 3) := by decide +kernel
theorem dX5_takes_18 : decode cX5_takes 18 = .ok (.aload_n 0, 1) := by decide +kernel
theorem dX5_takes_19 : decode cX5_takes 19 = .ok (.iconst 0, 1) := by decide +kernel
theorem dX5_takes_20 : decode cX5_takes 20 = .ok (.invokevirtual 118, 3) := by decide +kernel
theorem dX5_takes_23 : decode cX5_takes 23 = .ok (.ireturn, 1) := by decide +kernel
theorem dX5_shaken_0 : decode cX5_shaken 0 = .ok (.aload_n 0, 1) := by decide +kernel
theorem dX5_shaken_1 : decode cX5_shaken 1 = .ok (.iload_n 1, 1) := by decide +kernel
theorem dX5_shaken_2 : decode cX5_shaken 2 = .ok (.iload_n 2, 1) := by decide +kernel
theorem dX5_shaken_3 : decode cX5_shaken 3 = .ok (.invokevirtual 146, 3) := by decide +kernel
theorem dX5_shaken_6 : decode cX5_shaken 6 = .ok (.ifCond .eq 12, 3) := by decide +kernel
theorem dX5_shaken_9 : decode cX5_shaken 9 = .ok (.aload_n 0, 1) := by decide +kernel
theorem dX5_shaken_10 : decode cX5_shaken 10 = .ok (.iload_n 1, 1) := by decide +kernel
theorem dX5_shaken_11 : decode cX5_shaken 11 = .ok (.iload_n 2, 1) := by decide +kernel
theorem dX5_shaken_12 : decode cX5_shaken 12 = .ok (.invokevirtual 99, 3) := by decide +kernel
theorem dX5_shaken_15 : decode cX5_shaken 15 = .ok (.goto 8, 3) := by decide +kernel
theorem dX5_shaken_18 : decode cX5_shaken 18 = .ok (.aload_n 0, 1) := by decide +kernel
theorem dX5_shaken_19 : decode cX5_shaken 19 = .ok (.iconst 0, 1) := by decide +kernel
theorem dX5_shaken_20 : decode cX5_shaken 20 = .ok (.invokevirtual 118, 3) := by decide +kernel
theorem dX5_shaken_23 : decode cX5_shaken 23 = .ok (.ireturn, 1) := by decide +kernel
theorem dX5_days_0 : decode cX5_days 0 = .ok (.iload_n 1, 1) := by decide +kernel
theorem dX5_days_1 : decode cX5_days 1 = .ok (.iconst 1, 1) := by decide +kernel
theorem dX5_days_2 : decode cX5_days 2 = .ok (.bipush 100, 2) := by decide +kernel
theorem dX5_days_4 : decode cX5_days 4 = .ok (.invokestatic 52, 3) := by decide +kernel
theorem dX5_days_7 : decode cX5_days 7 = .ok (.ifCond .ne 9, 3) := by decide +kernel
theorem dX5_days_10 : decode cX5_days 10 = .ok (.aload_n 0, 1) := by decide +kernel
theorem dX5_days_11 : decode cX5_days 11 = .ok (.iconst 0, 1) := by decide +kernel
theorem dX5_days_12 : decode cX5_days 12 = .ok (.invokevirtual 118, 3) := by decide +kernel
theorem dX5_days_15 : decode cX5_days 15 = .ok (.ireturn, 1) := by decide +kernel
theorem dX5_days_16 : decode cX5_days 16 = .ok (.aload_n 0, 1) := by decide +kernel
theorem dX5_days_17 : decode cX5_days 17 = .ok (.getfield 9, 3) := by decide +kernel
theorem dX5_days_20 : decode cX5_days 20 = .ok (.iconst 0, 1) := by decide +kernel
theorem dX5_days_21 : decode cX5_days 21 = .ok (.iaload, 1) := by decide +kernel
theorem dX5_days_22 : decode cX5_days 22 = .ok (.iload_n 1, 1) := by decide +kernel
theorem dX5_days_23 : decode cX5_days 23 = .ok (.iadd, 1) := by decide +kernel
theorem dX5_days_24 : decode cX5_days 24 = .ok (.sipush 9999, 3) := by decide +kernel
theorem dX5_days_27 : decode cX5_days 27 = .ok (.if_icmp .le 9, 3) := by decide +kernel
theorem dX5_days_30 : decode cX5_days 30 = .ok (.aload_n 0, 1) := by decide +kernel
theorem dX5_days_31 : decode cX5_days 31 = .ok (.iconst 4, 1) := by decide +kernel
theorem dX5_days_32 : decode cX5_days 32 = .ok (.invokevirtual 118, 3) := by decide +kernel
theorem dX5_days_35 : decode cX5_days 35 = .ok (.ireturn, 1) := by decide +kernel
theorem dX5_days_36 : decode cX5_days 36 = .ok (.aload_n 0, 1) := by decide +kernel
theorem dX5_days_37 : decode cX5_days 37 = .ok (.iload_n 1, 1) := by decide +kernel
theorem dX5_days_38 : decode cX5_days 38 = .ok (.invokevirtual 150, 3) := by decide +kernel
theorem dX5_days_41 : decode cX5_days 41 = .ok (.aload_n 0, 1) := by decide +kernel
theorem dX5_days_42 : decode cX5_days 42 = .ok (.invokevirtual 130, 3) := by decide +kernel
theorem dX5_days_45 : decode cX5_days 45 = .ok (.ireturn, 1) := by decide +kernel
theorem dX5_on_0 : decode cX5_on 0 = .ok (.aload_n 0, 1) := by decide +kernel
theorem dX5_on_1 : decode cX5_on 1 = .ok (.iload_n 1, 1) := by decide +kernel
theorem dX5_on_2 : decode cX5_on 2 = .ok (.invokevirtual 140, 3) := by decide +kernel
theorem dX5_on_5 : decode cX5_on 5 = .ok (.ifCond .eq 13, 3) := by decide +kernel
theorem dX5_on_8 : decode cX5_on 8 = .ok (.iload_n 2, 1) := by decide +kernel
theorem dX5_on_9 : decode cX5_on 9 = .ok (.iconst 0, 1) := by decide +kernel
theorem dX5_on_10 : decode cX5_on 10 = .ok (.bipush 100, 2) := by decide +kernel
theorem dX5_on_12 : decode cX5_on 12 = .ok (.invokestatic 52, 3) := by decide +kernel
theorem dX5_on_15 : decode cX5_on 15 = .ok (.ifCond .ne 9, 3) := by decide +kernel
theorem dX5_on_18 : decode cX5_on 18 = .ok (.aload_n 0, 1) := by decide +kernel
theorem dX5_on_19 : decode cX5_on 19 = .ok (.iconst 0, 1) := by decide +kernel
theorem dX5_on_20 : decode cX5_on 20 = .ok (.invokevirtual 118, 3) := by decide +kernel
theorem dX5_on_23 : decode cX5_on 23 = .ok (.ireturn, 1) := by decide +kernel
theorem dX5_on_24 : decode cX5_on 24 = .ok (.aload_n 0, 1) := by decide +kernel
theorem dX5_on_25 : decode cX5_on 25 = .ok (.invokevirtual 153, 3) := by decide +kernel
theorem dX5_on_28 : decode cX5_on 28 = .ok (.aload_n 0, 1) := by decide +kernel
theorem dX5_on_29 : decode cX5_on 29 = .ok (.iload_n 2, 1) := by decide +kernel
theorem dX5_on_30 : decode cX5_on 30 = .ok (.invokevirtual 150, 3) := by decide +kernel
theorem dX5_on_33 : decode cX5_on 33 = .ok (.aload_n 0, 1) := by decide +kernel
theorem dX5_on_34 : decode cX5_on 34 = .ok (.iload_n 1, 1) := by decide +kernel
theorem dX5_on_35 : decode cX5_on 35 = .ok (.iconst 2, 1) := by decide +kernel
theorem dX5_on_36 : decode cX5_on 36 = .ok (.invokevirtual 92, 3) := by decide +kernel
theorem dX5_on_39 : decode cX5_on 39 = .ok (.istore_n 3, 1) := by decide +kernel
theorem dX5_on_40 : decode cX5_on 40 = .ok (.aload_n 0, 1) := by decide +kernel
theorem dX5_on_41 : decode cX5_on 41 = .ok (.invokevirtual 156, 3) := by decide +kernel
theorem dX5_on_44 : decode cX5_on 44 = .ok (.iload_n 3, 1) := by decide +kernel
theorem dX5_on_45 : decode cX5_on 45 = .ok (.ireturn, 1) := by decide +kernel
theorem dX5_onBy_0 : decode cX5_onBy 0 = .ok (.aload_n 0, 1) := by decide +kernel
theorem dX5_onBy_1 : decode cX5_onBy 1 = .ok (.iload_n 1, 1) := by decide +kernel
theorem dX5_onBy_2 : decode cX5_onBy 2 = .ok (.invokevirtual 150, 3) := by decide +kernel
theorem dX5_onBy_5 : decode cX5_onBy 5 = .ok (.iload_n 2, 1) := by decide +kernel
theorem dX5_onBy_6 : decode cX5_onBy 6 = .ok (.ifCond .ne 10, 3) := by decide +kernel
theorem dX5_onBy_9 : decode cX5_onBy 9 = .ok (.aload_n 0, 1) := by decide +kernel
theorem dX5_onBy_10 : decode cX5_onBy 10 = .ok (.invokevirtual 130, 3) := by decide +kernel
theorem dX5_onBy_13 : decode cX5_onBy 13 = .ok (.goto 7, 3) := by decide +kernel
theorem dX5_onBy_16 : decode cX5_onBy 16 = .ok (.aload_n 0, 1) := by decide +kernel
theorem dX5_onBy_17 : decode cX5_onBy 17 = .ok (.invokevirtual 134, 3) := by decide +kernel
theorem dX5_onBy_20 : decode cX5_onBy 20 = .ok (.istore_n 3, 1) := by decide +kernel
theorem dX5_onBy_21 : decode cX5_onBy 21 = .ok (.aload_n 0, 1) := by decide +kernel
theorem dX5_onBy_22 : decode cX5_onBy 22 = .ok (.invokevirtual 156, 3) := by decide +kernel
theorem dX5_onBy_25 : decode cX5_onBy 25 = .ok (.iload_n 3, 1) := by decide +kernel
theorem dX5_onBy_26 : decode cX5_onBy 26 = .ok (.ireturn, 1) := by decide +kernel
theorem dX5_then_0 : decode cX5_then 0 = .ok (.iload_n 1, 1) := by decide +kernel
theorem dX5_then_1 : decode cX5_then 1 = .ok (.iconst 0, 1) := by decide +kernel
theorem dX5_then_2 : decode cX5_then 2 = .ok (.bipush 100, 2) := by decide +kernel
theorem dX5_then_4 : decode cX5_then 4 = .ok (.invokestatic 52, 3) := by decide +kernel
theorem dX5_then_7 : decode cX5_then 7 = .ok (.ifCond .eq 12, 3) := by decide +kernel
theorem dX5_then_10 : decode cX5_then 10 = .ok (.iload_n 2, 1) := by decide +kernel
theorem dX5_then_11 : decode cX5_then 11 = .ok (.iconst 0, 1) := by decide +kernel
theorem dX5_then_12 : decode cX5_then 12 = .ok (.iconst 1, 1) := by decide +kernel
theorem dX5_then_13 : decode cX5_then 13 = .ok (.invokestatic 52, 3) := by decide +kernel
theorem dX5_then_16 : decode cX5_then 16 = .ok (.ifCond .ne 9, 3) := by decide +kernel
theorem dX5_then_19 : decode cX5_then 19 = .ok (.aload_n 0, 1) := by decide +kernel
theorem dX5_then_20 : decode cX5_then 20 = .ok (.iconst 0, 1) := by decide +kernel
theorem dX5_then_21 : decode cX5_then 21 = .ok (.invokevirtual 118, 3) := by decide +kernel
theorem dX5_then_24 : decode cX5_then 24 = .ok (.ireturn, 1) := by decide +kernel
theorem dX5_then_25 : decode cX5_then 25 = .ok (.aload_n 0, 1) := by decide +kernel
theorem dX5_then_26 : decode cX5_then 26 = .ok (.invokevirtual 153, 3) := by decide +kernel
theorem dX5_then_29 : decode cX5_then 29 = .ok (.aload_n 0, 1) := by decide +kernel
theorem dX5_then_30 : decode cX5_then 30 = .ok (.iload_n 1, 1) := by decide +kernel
theorem dX5_then_31 : decode cX5_then 31 = .ok (.iload_n 2, 1) := by decide +kernel
theorem dX5_then_32 : decode cX5_then 32 = .ok (.invokevirtual 159, 3) := by decide +kernel
theorem dX5_then_35 : decode cX5_then 35 = .ok (.ireturn, 1) := by decide +kernel
theorem dX5_leaves_0 : decode cX5_leaves 0 = .ok (.aload_n 0, 1) := by decide +kernel
theorem dX5_leaves_1 : decode cX5_leaves 1 = .ok (.iload_n 1, 1) := by decide +kernel
theorem dX5_leaves_2 : decode cX5_leaves 2 = .ok (.invokevirtual 140, 3) := by decide +kernel
theorem dX5_leaves_5 : decode cX5_leaves 5 = .ok (.ifCond .ne 9, 3) := by decide +kernel
theorem dX5_leaves_8 : decode cX5_leaves 8 = .ok (.aload_n 0, 1) := by decide +kernel
theorem dX5_leaves_9 : decode cX5_leaves 9 = .ok (.iconst 0, 1) := by decide +kernel
theorem dX5_leaves_10 : decode cX5_leaves 10 = .ok (.invokevirtual 118, 3) := by decide +kernel
theorem dX5_leaves_13 : decode cX5_leaves 13 = .ok (.ireturn, 1) := by decide +kernel
theorem dX5_leaves_14 : decode cX5_leaves 14 = .ok (.aload_n 0, 1) := by decide +kernel
theorem dX5_leaves_15 : decode cX5_leaves 15 = .ok (.invokevirtual 153, 3) := by decide +kernel
theorem dX5_leaves_18 : decode cX5_leaves 18 = .ok (.aload_n 0, 1) := by decide +kernel
theorem dX5_leaves_19 : decode cX5_leaves 19 = .ok (.iload_n 1, 1) := by decide +kernel
theorem dX5_leaves_20 : decode cX5_leaves 20 = .ok (.iconst 2, 1) := by decide +kernel
theorem dX5_leaves_21 : decode cX5_leaves 21 = .ok (.invokevirtual 92, 3) := by decide +kernel
theorem dX5_leaves_24 : decode cX5_leaves 24 = .ok (.istore_n 2, 1) := by decide +kernel
theorem dX5_leaves_25 : decode cX5_leaves 25 = .ok (.iconst 0, 1) := by decide +kernel
theorem dX5_leaves_26 : decode cX5_leaves 26 = .ok (.istore_n 3, 1) := by decide +kernel
theorem dX5_leaves_27 : decode cX5_leaves 27 = .ok (.iload_n 3, 1) := by decide +kernel
theorem dX5_leaves_28 : decode cX5_leaves 28 = .ok (.bipush 100, 2) := by decide +kernel
theorem dX5_leaves_30 : decode cX5_leaves 30 = .ok (.if_icmp .gt 24, 3) := by decide +kernel
theorem dX5_leaves_33 : decode cX5_leaves 33 = .ok (.aload_n 0, 1) := by decide +kernel
theorem dX5_leaves_34 : decode cX5_leaves 34 = .ok (.iload_n 1, 1) := by decide +kernel
theorem dX5_leaves_35 : decode cX5_leaves 35 = .ok (.iconst 2, 1) := by decide +kernel
theorem dX5_leaves_36 : decode cX5_leaves 36 = .ok (.invokevirtual 92, 3) := by decide +kernel
theorem dX5_leaves_39 : decode cX5_leaves 39 = .ok (.iload_n 2, 1) := by decide +kernel
theorem dX5_leaves_40 : decode cX5_leaves 40 = .ok (.if_icmp .ne 14, 3) := by decide +kernel
theorem dX5_leaves_43 : decode cX5_leaves 43 = .ok (.aload_n 0, 1) := by decide +kernel
theorem dX5_leaves_44 : decode cX5_leaves 44 = .ok (.iconst 1, 1) := by decide +kernel
theorem dX5_leaves_45 : decode cX5_leaves 45 = .ok (.invokevirtual 150, 3) := by decide +kernel
theorem dX5_leaves_48 : decode cX5_leaves 48 = .ok (.iinc 3 1, 3) := by decide +kernel
theorem dX5_leaves_51 : decode cX5_leaves 51 = .ok (.goto (-24), 3) := by decide +kernel
theorem dX5_leaves_54 : decode cX5_leaves 54 = .ok (.aload_n 0, 1) := by decide +kernel
theorem dX5_leaves_55 : decode cX5_leaves 55 = .ok (.invokevirtual 156, 3) := by decide +kernel
theorem dX5_leaves_58 : decode cX5_leaves 58 = .ok (.iload_n 3, 1) := by decide +kernel
theorem dX5_leaves_59 : decode cX5_leaves 59 = .ok (.bipush 100, 2) := by decide +kernel
theorem dX5_leaves_61 : decode cX5_leaves 61 = .ok (.if_icmp .le 11, 3) := by decide +kernel
theorem dX5_leaves_64 : decode cX5_leaves 64 = .ok (.aload_n 0, 1) := by decide +kernel
theorem dX5_leaves_65 : decode cX5_leaves 65 = .ok (.iconst 3, 1) := by decide +kernel
theorem dX5_leaves_66 : decode cX5_leaves 66 = .ok (.invokevirtual 118, 3) := by decide +kernel
theorem dX5_leaves_69 : decode cX5_leaves 69 = .ok (.goto 4, 3) := by decide +kernel
theorem dX5_leaves_72 : decode cX5_leaves 72 = .ok (.iload_n 3, 1) := by decide +kernel
theorem dX5_leaves_73 : decode cX5_leaves 73 = .ok (.ireturn, 1) := by decide +kernel
theorem dX5_quickest_0 : decode cX5_quickest 0 = .ok (.iconst 0, 1) := by decide +kernel
theorem dX5_quickest_1 : decode cX5_quickest 1 = .ok (.istore_n 1, 1) := by decide +kernel
theorem dX5_quickest_2 : decode cX5_quickest 2 = .ok (.iconst 0, 1) := by decide +kernel
theorem dX5_quickest_3 : decode cX5_quickest 3 = .ok (.istore_n 2, 1) := by decide +kernel
theorem dX5_quickest_4 : decode cX5_quickest 4 = .ok (.iload_n 2, 1) := by decide +kernel
theorem dX5_quickest_5 : decode cX5_quickest 5 = .ok (.bipush 20, 2) := by decide +kernel
theorem dX5_quickest_7 : decode cX5_quickest 7 = .ok (.if_icmp .ge 30, 3) := by decide +kernel
theorem dX5_quickest_10 : decode cX5_quickest 10 = .ok (.aload_n 0, 1) := by decide +kernel
theorem dX5_quickest_11 : decode cX5_quickest 11 = .ok (.getfield 22, 3) := by decide +kernel
theorem dX5_quickest_14 : decode cX5_quickest 14 = .ok (.iload_n 2, 1) := by decide +kernel
theorem dX5_quickest_15 : decode cX5_quickest 15 = .ok (.iaload, 1) := by decide +kernel
theorem dX5_quickest_16 : decode cX5_quickest 16 = .ok (.iload_n 1, 1) := by decide +kernel
theorem dX5_quickest_17 : decode cX5_quickest 17 = .ok (.if_icmp .le 12, 3) := by decide +kernel
theorem dX5_quickest_20 : decode cX5_quickest 20 = .ok (.aload_n 0, 1) := by decide +kernel
theorem dX5_quickest_21 : decode cX5_quickest 21 = .ok (.getfield 22, 3) := by decide +kernel
theorem dX5_quickest_24 : decode cX5_quickest 24 = .ok (.iload_n 2, 1) := by decide +kernel
theorem dX5_quickest_25 : decode cX5_quickest 25 = .ok (.iaload, 1) := by decide +kernel
theorem dX5_quickest_26 : decode cX5_quickest 26 = .ok (.goto 4, 3) := by decide +kernel
theorem dX5_quickest_29 : decode cX5_quickest 29 = .ok (.iload_n 1, 1) := by decide +kernel
theorem dX5_quickest_30 : decode cX5_quickest 30 = .ok (.istore_n 1, 1) := by decide +kernel
theorem dX5_quickest_31 : decode cX5_quickest 31 = .ok (.iinc 2 1, 3) := by decide +kernel
theorem dX5_quickest_34 : decode cX5_quickest 34 = .ok (.goto (-30), 3) := by decide +kernel
theorem dX5_quickest_37 : decode cX5_quickest 37 = .ok (.iload_n 1, 1) := by decide +kernel
theorem dX5_quickest_38 : decode cX5_quickest 38 = .ok (.ireturn, 1) := by decide +kernel
theorem dX5_tame_0 : decode cX5_tame 0 = .ok (.aload_n 0, 1) := by decide +kernel
theorem dX5_tame_1 : decode cX5_tame 1 = .ok (.iload_n 1, 1) := by decide +kernel
theorem dX5_tame_2 : decode cX5_tame 2 = .ok (.iload_n 2, 1) := by decide +kernel
theorem dX5_tame_3 : decode cX5_tame 3 = .ok (.invokevirtual 146, 3) := by decide +kernel
theorem dX5_tame_6 : decode cX5_tame 6 = .ok (.ifCond .ne 9, 3) := by decide +kernel
theorem dX5_tame_9 : decode cX5_tame 9 = .ok (.aload_n 0, 1) := by decide +kernel
theorem dX5_tame_10 : decode cX5_tame 10 = .ok (.iconst 0, 1) := by decide +kernel
theorem dX5_tame_11 : decode cX5_tame 11 = .ok (.invokevirtual 118, 3) := by decide +kernel
theorem dX5_tame_14 : decode cX5_tame 14 = .ok (.ireturn, 1) := by decide +kernel
theorem dX5_tame_15 : decode cX5_tame 15 = .ok (.iconst (-1), 1) := by decide +kernel
theorem dX5_tame_16 : decode cX5_tame 16 = .ok (.istore_n 3, 1) := by decide +kernel
theorem dX5_tame_17 : decode cX5_tame 17 = .ok (.sipush 999, 3) := by decide +kernel
theorem dX5_tame_20 : decode cX5_tame 20 = .ok (.istore 4, 2) := by decide +kernel
theorem dX5_tame_22 : decode cX5_tame 22 = .ok (.iconst 0, 1) := by decide +kernel
theorem dX5_tame_23 : decode cX5_tame 23 = .ok (.istore 5, 2) := by decide +kernel
theorem dX5_tame_25 : decode cX5_tame 25 = .ok (.iload 5, 2) := by decide +kernel
theorem dX5_tame_27 : decode cX5_tame 27 = .ok (.bipush 20, 2) := by decide +kernel
theorem dX5_tame_29 : decode cX5_tame 29 = .ok (.if_icmp .ge 86, 3) := by decide +kernel
theorem dX5_tame_32 : decode cX5_tame 32 = .ok (.aload_n 0, 1) := by decide +kernel
theorem dX5_tame_33 : decode cX5_tame 33 = .ok (.getfield 9, 3) := by decide +kernel
theorem dX5_tame_36 : decode cX5_tame 36 = .ok (.iconst 3, 1) := by decide +kernel
theorem dX5_tame_37 : decode cX5_tame 37 = .ok (.bipush 20, 2) := by decide +kernel
theorem dX5_tame_39 : decode cX5_tame 39 = .ok (.iload_n 2, 1) := by decide +kernel
theorem dX5_tame_40 : decode cX5_tame 40 = .ok (.imul, 1) := by decide +kernel
theorem dX5_tame_41 : decode cX5_tame 41 = .ok (.iadd, 1) := by decide +kernel
theorem dX5_tame_42 : decode cX5_tame 42 = .ok (.iload 5, 2) := by decide +kernel
theorem dX5_tame_44 : decode cX5_tame 44 = .ok (.iadd, 1) := by decide +kernel
theorem dX5_tame_45 : decode cX5_tame 45 = .ok (.iaload, 1) := by decide +kernel
theorem dX5_tame_46 : decode cX5_tame 46 = .ok (.ifCond .ne 63, 3) := by decide +kernel
theorem dX5_tame_49 : decode cX5_tame 49 = .ok (.aload_n 0, 1) := by decide +kernel
theorem dX5_tame_50 : decode cX5_tame 50 = .ok (.iload_n 2, 1) := by decide +kernel
theorem dX5_tame_51 : decode cX5_tame 51 = .ok (.iload 5, 2) := by decide +kernel
theorem dX5_tame_53 : decode cX5_tame 53 = .ok (.iconst 1, 1) := by decide +kernel
theorem dX5_tame_54 : decode cX5_tame 54 = .ok (.invokevirtual 121, 3) := by decide +kernel
theorem dX5_tame_57 : decode cX5_tame 57 = .ok (.aload_n 0, 1) := by decide +kernel
theorem dX5_tame_58 : decode cX5_tame 58 = .ok (.aload_n 0, 1) := by decide +kernel
theorem dX5_tame_59 : decode cX5_tame 59 = .ok (.iload_n 1, 1) := by decide +kernel
theorem dX5_tame_60 : decode cX5_tame 60 = .ok (.iconst 0, 1) := by decide +kernel
theorem dX5_tame_61 : decode cX5_tame 61 = .ok (.invokevirtual 92, 3) := by decide +kernel
theorem dX5_tame_64 : decode cX5_tame 64 = .ok (.aload_n 0, 1) := by decide +kernel
theorem dX5_tame_65 : decode cX5_tame 65 = .ok (.iload_n 1, 1) := by decide +kernel
theorem dX5_tame_66 : decode cX5_tame 66 = .ok (.iconst 1, 1) := by decide +kernel
theorem dX5_tame_67 : decode cX5_tame 67 = .ok (.invokevirtual 92, 3) := by decide +kernel
theorem dX5_tame_70 : decode cX5_tame 70 = .ok (.iload_n 2, 1) := by decide +kernel
theorem dX5_tame_71 : decode cX5_tame 71 = .ok (.invokevirtual 95, 3) := by decide +kernel
theorem dX5_tame_74 : decode cX5_tame 74 = .ok (.aload_n 0, 1) := by decide +kernel
theorem dX5_tame_75 : decode cX5_tame 75 = .ok (.iload_n 2, 1) := by decide +kernel
theorem dX5_tame_76 : decode cX5_tame 76 = .ok (.iload 5, 2) := by decide +kernel
theorem dX5_tame_78 : decode cX5_tame 78 = .ok (.iconst 0, 1) := by decide +kernel
theorem dX5_tame_79 : decode cX5_tame 79 = .ok (.invokevirtual 121, 3) := by decide +kernel
theorem dX5_tame_82 : decode cX5_tame 82 = .ok (.aload_n 0, 1) := by decide +kernel
theorem dX5_tame_83 : decode cX5_tame 83 = .ok (.invokevirtual 162, 3) := by decide +kernel
theorem dX5_tame_86 : decode cX5_tame 86 = .ok (.iload 4, 2) := by decide +kernel
theorem dX5_tame_88 : decode cX5_tame 88 = .ok (.if_icmp .ge 8, 3) := by decide +kernel
theorem dX5_tame_91 : decode cX5_tame 91 = .ok (.iload 5, 2) := by decide +kernel
theorem dX5_tame_93 : decode cX5_tame 93 = .ok (.goto 4, 3) := by decide +kernel
theorem dX5_tame_96 : decode cX5_tame 96 = .ok (.iload_n 3, 1) := by decide +kernel
theorem dX5_tame_97 : decode cX5_tame 97 = .ok (.istore_n 3, 1) := by decide +kernel
theorem dX5_tame_98 : decode cX5_tame 98 = .ok (.iload 4, 2) := by decide +kernel
theorem dX5_tame_100 : decode cX5_tame 100 = .ok (.aload_n 0, 1) := by decide +kernel
theorem dX5_tame_101 : decode cX5_tame 101 = .ok (.invokevirtual 162, 3) := by decide +kernel
theorem dX5_tame_104 : decode cX5_tame 104 = .ok (.invokestatic 71, 3) := by decide +kernel
theorem dX5_tame_107 : decode cX5_tame 107 = .ok (.istore 4, 2) := by decide +kernel
theorem dX5_tame_109 : decode cX5_tame 109 = .ok (.iinc 5 1, 3) := by decide +kernel
theorem dX5_tame_112 : decode cX5_tame 112 = .ok (.goto (-87), 3) := by decide +kernel
theorem dX5_tame_115 : decode cX5_tame 115 = .ok (.iload_n 3, 1) := by decide +kernel
theorem dX5_tame_116 : decode cX5_tame 116 = .ok (.ifCond .ge 11, 3) := by decide +kernel
theorem dX5_tame_119 : decode cX5_tame 119 = .ok (.aload_n 0, 1) := by decide +kernel
theorem dX5_tame_120 : decode cX5_tame 120 = .ok (.iconst 3, 1) := by decide +kernel
theorem dX5_tame_121 : decode cX5_tame 121 = .ok (.invokevirtual 118, 3) := by decide +kernel
theorem dX5_tame_124 : decode cX5_tame 124 = .ok (.goto 4, 3) := by decide +kernel
theorem dX5_tame_127 : decode cX5_tame 127 = .ok (.iload_n 3, 1) := by decide +kernel
theorem dX5_tame_128 : decode cX5_tame 128 = .ok (.ireturn, 1) := by decide +kernel
theorem dX5_clear_0 : decode cX5_clear 0 = .ok (.iload_n 1, 1) := by decide +kernel
theorem dX5_clear_1 : decode cX5_clear 1 = .ok (.invokestatic 112, 3) := by decide +kernel
theorem dX5_clear_4 : decode cX5_clear 4 = .ok (.ifCond .eq 13, 3) := by decide +kernel
theorem dX5_clear_7 : decode cX5_clear 7 = .ok (.iload_n 2, 1) := by decide +kernel
theorem dX5_clear_8 : decode cX5_clear 8 = .ok (.iconst 0, 1) := by decide +kernel
theorem dX5_clear_9 : decode cX5_clear 9 = .ok (.bipush 20, 2) := by decide +kernel
theorem dX5_clear_11 : decode cX5_clear 11 = .ok (.invokestatic 52, 3) := by decide +kernel
theorem dX5_clear_14 : decode cX5_clear 14 = .ok (.ifCond .ne 9, 3) := by decide +kernel
theorem dX5_clear_17 : decode cX5_clear 17 = .ok (.aload_n 0, 1) := by decide +kernel
theorem dX5_clear_18 : decode cX5_clear 18 = .ok (.iconst 0, 1) := by decide +kernel
theorem dX5_clear_19 : decode cX5_clear 19 = .ok (.invokevirtual 118, 3) := by decide +kernel
theorem dX5_clear_22 : decode cX5_clear 22 = .ok (.ireturn, 1) := by decide +kernel
theorem dX5_clear_23 : decode cX5_clear 23 = .ok (.iconst (-1), 1) := by decide +kernel
theorem dX5_clear_24 : decode cX5_clear 24 = .ok (.istore_n 3, 1) := by decide +kernel
theorem dX5_clear_25 : decode cX5_clear 25 = .ok (.iconst 0, 1) := by decide +kernel
theorem dX5_clear_26 : decode cX5_clear 26 = .ok (.istore 4, 2) := by decide +kernel
theorem dX5_clear_28 : decode cX5_clear 28 = .ok (.iconst 0, 1) := by decide +kernel
theorem dX5_clear_29 : decode cX5_clear 29 = .ok (.istore 5, 2) := by decide +kernel
theorem dX5_clear_31 : decode cX5_clear 31 = .ok (.iload 5, 2) := by decide +kernel
theorem dX5_clear_33 : decode cX5_clear 33 = .ok (.bipush 20, 2) := by decide +kernel
theorem dX5_clear_35 : decode cX5_clear 35 = .ok (.if_icmp .ge 90, 3) := by decide +kernel
theorem dX5_clear_38 : decode cX5_clear 38 = .ok (.aload_n 0, 1) := by decide +kernel
theorem dX5_clear_39 : decode cX5_clear 39 = .ok (.getfield 9, 3) := by decide +kernel
theorem dX5_clear_42 : decode cX5_clear 42 = .ok (.iconst 3, 1) := by decide +kernel
theorem dX5_clear_43 : decode cX5_clear 43 = .ok (.bipush 20, 2) := by decide +kernel
theorem dX5_clear_45 : decode cX5_clear 45 = .ok (.iload_n 1, 1) := by decide +kernel
theorem dX5_clear_46 : decode cX5_clear 46 = .ok (.imul, 1) := by decide +kernel
theorem dX5_clear_47 : decode cX5_clear 47 = .ok (.iadd, 1) := by decide +kernel
theorem dX5_clear_48 : decode cX5_clear 48 = .ok (.iload 5, 2) := by decide +kernel
theorem dX5_clear_50 : decode cX5_clear 50 = .ok (.iadd, 1) := by decide +kernel
theorem dX5_clear_51 : decode cX5_clear 51 = .ok (.iaload, 1) := by decide +kernel
theorem dX5_clear_52 : decode cX5_clear 52 = .ok (.ifCond .le 67, 3) := by decide +kernel
theorem dX5_clear_55 : decode cX5_clear 55 = .ok (.aload_n 0, 1) := by decide +kernel
theorem dX5_clear_56 : decode cX5_clear 56 = .ok (.invokevirtual 153, 3) := by decide +kernel
theorem dX5_clear_59 : decode cX5_clear 59 = .ok (.aload_n 0, 1) := by decide +kernel
theorem dX5_clear_60 : decode cX5_clear 60 = .ok (.iload_n 1, 1) := by decide +kernel
theorem dX5_clear_61 : decode cX5_clear 61 = .ok (.iload 5, 2) := by decide +kernel
theorem dX5_clear_63 : decode cX5_clear 63 = .ok (.iconst 0, 1) := by decide +kernel
theorem dX5_clear_64 : decode cX5_clear 64 = .ok (.invokevirtual 121, 3) := by decide +kernel
theorem dX5_clear_67 : decode cX5_clear 67 = .ok (.aload_n 0, 1) := by decide +kernel
theorem dX5_clear_68 : decode cX5_clear 68 = .ok (.iload_n 2, 1) := by decide +kernel
theorem dX5_clear_69 : decode cX5_clear 69 = .ok (.iconst 0, 1) := by decide +kernel
theorem dX5_clear_70 : decode cX5_clear 70 = .ok (.invokevirtual 159, 3) := by decide +kernel
theorem dX5_clear_73 : decode cX5_clear 73 = .ok (.istore 6, 2) := by decide +kernel
theorem dX5_clear_75 : decode cX5_clear 75 = .ok (.iload_n 3, 1) := by decide +kernel
theorem dX5_clear_76 : decode cX5_clear 76 = .ok (.ifCond .lt 10, 3) := by decide +kernel
theorem dX5_clear_79 : decode cX5_clear 79 = .ok (.iload 6, 2) := by decide +kernel
theorem dX5_clear_81 : decode cX5_clear 81 = .ok (.iload 4, 2) := by decide +kernel
theorem dX5_clear_83 : decode cX5_clear 83 = .ok (.if_icmp .ge 7, 3) := by decide +kernel
theorem dX5_clear_86 : decode cX5_clear 86 = .ok (.iconst 1, 1) := by decide +kernel
theorem dX5_clear_87 : decode cX5_clear 87 = .ok (.goto 4, 3) := by decide +kernel
theorem dX5_clear_90 : decode cX5_clear 90 = .ok (.iconst 0, 1) := by decide +kernel
theorem dX5_clear_91 : decode cX5_clear 91 = .ok (.istore 7, 2) := by decide +kernel
theorem dX5_clear_93 : decode cX5_clear 93 = .ok (.iload 7, 2) := by decide +kernel
theorem dX5_clear_95 : decode cX5_clear 95 = .ok (.ifCond .eq 8, 3) := by decide +kernel
theorem dX5_clear_98 : decode cX5_clear 98 = .ok (.iload 5, 2) := by decide +kernel
theorem dX5_clear_100 : decode cX5_clear 100 = .ok (.goto 4, 3) := by decide +kernel
theorem dX5_clear_103 : decode cX5_clear 103 = .ok (.iload_n 3, 1) := by decide +kernel
theorem dX5_clear_104 : decode cX5_clear 104 = .ok (.istore_n 3, 1) := by decide +kernel
theorem dX5_clear_105 : decode cX5_clear 105 = .ok (.iload 7, 2) := by decide +kernel
theorem dX5_clear_107 : decode cX5_clear 107 = .ok (.ifCond .eq 8, 3) := by decide +kernel
theorem dX5_clear_110 : decode cX5_clear 110 = .ok (.iload 6, 2) := by decide +kernel
theorem dX5_clear_112 : decode cX5_clear 112 = .ok (.goto 5, 3) := by decide +kernel
theorem dX5_clear_115 : decode cX5_clear 115 = .ok (.iload 4, 2) := by decide +kernel
theorem dX5_clear_117 : decode cX5_clear 117 = .ok (.istore 4, 2) := by decide +kernel
theorem dX5_clear_119 : decode cX5_clear 119 = .ok (.iinc 5 1, 3) := by decide +kernel
theorem dX5_clear_122 : decode cX5_clear 122 = .ok (.goto (-91), 3) := by decide +kernel
theorem dX5_clear_125 : decode cX5_clear 125 = .ok (.iload_n 3, 1) := by decide +kernel
theorem dX5_clear_126 : decode cX5_clear 126 = .ok (.ifCond .ge 11, 3) := by decide +kernel
theorem dX5_clear_129 : decode cX5_clear 129 = .ok (.aload_n 0, 1) := by decide +kernel
theorem dX5_clear_130 : decode cX5_clear 130 = .ok (.iconst 3, 1) := by decide +kernel
theorem dX5_clear_131 : decode cX5_clear 131 = .ok (.invokevirtual 118, 3) := by decide +kernel
theorem dX5_clear_134 : decode cX5_clear 134 = .ok (.goto 4, 3) := by decide +kernel
theorem dX5_clear_137 : decode cX5_clear 137 = .ok (.iload_n 3, 1) := by decide +kernel
theorem dX5_clear_138 : decode cX5_clear 138 = .ok (.ireturn, 1) := by decide +kernel
theorem dX5_lower_0 : decode cX5_lower 0 = .ok (.iload_n 1, 1) := by decide +kernel
theorem dX5_lower_1 : decode cX5_lower 1 = .ok (.iconst 0, 1) := by decide +kernel
theorem dX5_lower_2 : decode cX5_lower 2 = .ok (.bipush 20, 2) := by decide +kernel
theorem dX5_lower_4 : decode cX5_lower 4 = .ok (.invokestatic 52, 3) := by decide +kernel
theorem dX5_lower_7 : decode cX5_lower 7 = .ok (.ifCond .eq 13, 3) := by decide +kernel
theorem dX5_lower_10 : decode cX5_lower 10 = .ok (.iload_n 2, 1) := by decide +kernel
theorem dX5_lower_11 : decode cX5_lower 11 = .ok (.iconst 0, 1) := by decide +kernel
theorem dX5_lower_12 : decode cX5_lower 12 = .ok (.ldc 165, 2) := by decide +kernel
theorem dX5_lower_14 : decode cX5_lower 14 = .ok (.invokestatic 52, 3) := by decide +kernel
theorem dX5_lower_17 : decode cX5_lower 17 = .ok (.ifCond .ne 9, 3) := by decide +kernel
theorem dX5_lower_20 : decode cX5_lower 20 = .ok (.aload_n 0, 1) := by decide +kernel
theorem dX5_lower_21 : decode cX5_lower 21 = .ok (.iconst 0, 1) := by decide +kernel
theorem dX5_lower_22 : decode cX5_lower 22 = .ok (.invokevirtual 118, 3) := by decide +kernel
theorem dX5_lower_25 : decode cX5_lower 25 = .ok (.ireturn, 1) := by decide +kernel
theorem dX5_lower_26 : decode cX5_lower 26 = .ok (.bipush 6, 2) := by decide +kernel
theorem dX5_lower_28 : decode cX5_lower 28 = .ok (.istore_n 3, 1) := by decide +kernel
theorem dX5_lower_29 : decode cX5_lower 29 = .ok (.iload_n 3, 1) := by decide +kernel
theorem dX5_lower_30 : decode cX5_lower 30 = .ok (.ifCond .le 32, 3) := by decide +kernel
theorem dX5_lower_33 : decode cX5_lower 33 = .ok (.aload_n 0, 1) := by decide +kernel
theorem dX5_lower_34 : decode cX5_lower 34 = .ok (.invokevirtual 153, 3) := by decide +kernel
theorem dX5_lower_37 : decode cX5_lower 37 = .ok (.aload_n 0, 1) := by decide +kernel
theorem dX5_lower_38 : decode cX5_lower 38 = .ok (.getfield 9, 3) := by decide +kernel
theorem dX5_lower_41 : decode cX5_lower 41 = .ok (.iconst 1, 1) := by decide +kernel
theorem dX5_lower_42 : decode cX5_lower 42 = .ok (.iload_n 3, 1) := by decide +kernel
theorem dX5_lower_43 : decode cX5_lower 43 = .ok (.iastore, 1) := by decide +kernel
theorem dX5_lower_44 : decode cX5_lower 44 = .ok (.aload_n 0, 1) := by decide +kernel
theorem dX5_lower_45 : decode cX5_lower 45 = .ok (.iload_n 1, 1) := by decide +kernel
theorem dX5_lower_46 : decode cX5_lower 46 = .ok (.iconst 0, 1) := by decide +kernel
theorem dX5_lower_47 : decode cX5_lower 47 = .ok (.invokevirtual 159, 3) := by decide +kernel
theorem dX5_lower_50 : decode cX5_lower 50 = .ok (.iload_n 2, 1) := by decide +kernel
theorem dX5_lower_51 : decode cX5_lower 51 = .ok (.if_icmp .gt 5, 3) := by decide +kernel
theorem dX5_lower_54 : decode cX5_lower 54 = .ok (.iload_n 3, 1) := by decide +kernel
theorem dX5_lower_55 : decode cX5_lower 55 = .ok (.ireturn, 1) := by decide +kernel
theorem dX5_lower_56 : decode cX5_lower 56 = .ok (.iinc 3 (-1), 3) := by decide +kernel
theorem dX5_lower_59 : decode cX5_lower 59 = .ok (.goto (-30), 3) := by decide +kernel
theorem dX5_lower_62 : decode cX5_lower 62 = .ok (.aload_n 0, 1) := by decide +kernel
theorem dX5_lower_63 : decode cX5_lower 63 = .ok (.iconst 3, 1) := by decide +kernel
theorem dX5_lower_64 : decode cX5_lower 64 = .ok (.invokevirtual 118, 3) := by decide +kernel
theorem dX5_lower_67 : decode cX5_lower 67 = .ok (.ireturn, 1) := by decide +kernel
theorem dX5_kind_0 : decode cX5_kind 0 = .ok (.aload_n 0, 1) := by decide +kernel
theorem dX5_kind_1 : decode cX5_kind 1 = .ok (.iload_n 1, 1) := by decide +kernel
theorem dX5_kind_2 : decode cX5_kind 2 = .ok (.iload_n 2, 1) := by decide +kernel
theorem dX5_kind_3 : decode cX5_kind 3 = .ok (.invokevirtual 146, 3) := by decide +kernel
theorem dX5_kind_6 : decode cX5_kind 6 = .ok (.ifCond .ne 9, 3) := by decide +kernel
theorem dX5_kind_9 : decode cX5_kind 9 = .ok (.aload_n 0, 1) := by decide +kernel
theorem dX5_kind_10 : decode cX5_kind 10 = .ok (.iconst 0, 1) := by decide +kernel
theorem dX5_kind_11 : decode cX5_kind 11 = .ok (.invokevirtual 118, 3) := by decide +kernel
theorem dX5_kind_14 : decode cX5_kind 14 = .ok (.ireturn, 1) := by decide +kernel
theorem dX5_kind_15 : decode cX5_kind 15 = .ok (.iconst 0, 1) := by decide +kernel
theorem dX5_kind_16 : decode cX5_kind 16 = .ok (.istore_n 3, 1) := by decide +kernel
theorem dX5_kind_17 : decode cX5_kind 17 = .ok (.ldc 165, 2) := by decide +kernel
theorem dX5_kind_19 : decode cX5_kind 19 = .ok (.istore 4, 2) := by decide +kernel
theorem dX5_kind_21 : decode cX5_kind 21 = .ok (.iconst 0, 1) := by decide +kernel
theorem dX5_kind_22 : decode cX5_kind 22 = .ok (.istore 5, 2) := by decide +kernel
theorem dX5_kind_24 : decode cX5_kind 24 = .ok (.iload 5, 2) := by decide +kernel
theorem dX5_kind_26 : decode cX5_kind 26 = .ok (.bipush 6, 2) := by decide +kernel
theorem dX5_kind_28 : decode cX5_kind 28 = .ok (.if_icmp .ge 49, 3) := by decide +kernel
theorem dX5_kind_31 : decode cX5_kind 31 = .ok (.aload_n 0, 1) := by decide +kernel
theorem dX5_kind_32 : decode cX5_kind 32 = .ok (.iload 5, 2) := by decide +kernel
theorem dX5_kind_34 : decode cX5_kind 34 = .ok (.aload_n 0, 1) := by decide +kernel
theorem dX5_kind_35 : decode cX5_kind 35 = .ok (.iload_n 1, 1) := by decide +kernel
theorem dX5_kind_36 : decode cX5_kind 36 = .ok (.iconst 1, 1) := by decide +kernel
theorem dX5_kind_37 : decode cX5_kind 37 = .ok (.invokevirtual 92, 3) := by decide +kernel
theorem dX5_kind_40 : decode cX5_kind 40 = .ok (.iload_n 2, 1) := by decide +kernel
theorem dX5_kind_41 : decode cX5_kind 41 = .ok (.invokevirtual 95, 3) := by decide +kernel
theorem dX5_kind_44 : decode cX5_kind 44 = .ok (.aload_n 0, 1) := by decide +kernel
theorem dX5_kind_45 : decode cX5_kind 45 = .ok (.getfield 75, 3) := by decide +kernel
theorem dX5_kind_48 : decode cX5_kind 48 = .ok (.iload 4, 2) := by decide +kernel
theorem dX5_kind_50 : decode cX5_kind 50 = .ok (.if_icmp .ge 8, 3) := by decide +kernel
theorem dX5_kind_53 : decode cX5_kind 53 = .ok (.iload 5, 2) := by decide +kernel
theorem dX5_kind_55 : decode cX5_kind 55 = .ok (.goto 4, 3) := by decide +kernel
theorem dX5_kind_58 : decode cX5_kind 58 = .ok (.iload_n 3, 1) := by decide +kernel
theorem dX5_kind_59 : decode cX5_kind 59 = .ok (.istore_n 3, 1) := by decide +kernel
theorem dX5_kind_60 : decode cX5_kind 60 = .ok (.iload 4, 2) := by decide +kernel
theorem dX5_kind_62 : decode cX5_kind 62 = .ok (.aload_n 0, 1) := by decide +kernel
theorem dX5_kind_63 : decode cX5_kind 63 = .ok (.getfield 75, 3) := by decide +kernel
theorem dX5_kind_66 : decode cX5_kind 66 = .ok (.invokestatic 71, 3) := by decide +kernel
theorem dX5_kind_69 : decode cX5_kind 69 = .ok (.istore 4, 2) := by decide +kernel
theorem dX5_kind_71 : decode cX5_kind 71 = .ok (.iinc 5 1, 3) := by decide +kernel
theorem dX5_kind_74 : decode cX5_kind 74 = .ok (.goto (-50), 3) := by decide +kernel
theorem dX5_kind_77 : decode cX5_kind 77 = .ok (.iload_n 3, 1) := by decide +kernel
theorem dX5_kind_78 : decode cX5_kind 78 = .ok (.ireturn, 1) := by decide +kernel
theorem dX5_wish_0 : decode cX5_wish 0 = .ok (.aload_n 0, 1) := by decide +kernel
theorem dX5_wish_1 : decode cX5_wish 1 = .ok (.iload_n 1, 1) := by decide +kernel
theorem dX5_wish_2 : decode cX5_wish 2 = .ok (.iload_n 2, 1) := by decide +kernel
theorem dX5_wish_3 : decode cX5_wish 3 = .ok (.invokevirtual 146, 3) := by decide +kernel
theorem dX5_wish_6 : decode cX5_wish 6 = .ok (.ifCond .eq 14, 3) := by decide +kernel
theorem dX5_wish_9 : decode cX5_wish 9 = .ok (.iload_n 3, 1) := by decide +kernel
theorem dX5_wish_10 : decode cX5_wish 10 = .ok (.iconst 0, 1) := by decide +kernel
theorem dX5_wish_11 : decode cX5_wish 11 = .ok (.sipush 9999, 3) := by decide +kernel
theorem dX5_wish_14 : decode cX5_wish 14 = .ok (.invokestatic 52, 3) := by decide +kernel
theorem dX5_wish_17 : decode cX5_wish 17 = .ok (.ifCond .ne 9, 3) := by decide +kernel
theorem dX5_wish_20 : decode cX5_wish 20 = .ok (.aload_n 0, 1) := by decide +kernel
theorem dX5_wish_21 : decode cX5_wish 21 = .ok (.iconst 0, 1) := by decide +kernel
theorem dX5_wish_22 : decode cX5_wish 22 = .ok (.invokevirtual 118, 3) := by decide +kernel
theorem dX5_wish_25 : decode cX5_wish 25 = .ok (.ireturn, 1) := by decide +kernel
theorem dX5_wish_26 : decode cX5_wish 26 = .ok (.iconst (-1), 1) := by decide +kernel
theorem dX5_wish_27 : decode cX5_wish 27 = .ok (.istore 4, 2) := by decide +kernel
theorem dX5_wish_29 : decode cX5_wish 29 = .ok (.ldc 165, 2) := by decide +kernel
theorem dX5_wish_31 : decode cX5_wish 31 = .ok (.istore 5, 2) := by decide +kernel
theorem dX5_wish_33 : decode cX5_wish 33 = .ok (.bipush 10, 2) := by decide +kernel
theorem dX5_wish_35 : decode cX5_wish 35 = .ok (.istore 6, 2) := by decide +kernel
theorem dX5_wish_37 : decode cX5_wish 37 = .ok (.iload 6, 2) := by decide +kernel
theorem dX5_wish_39 : decode cX5_wish 39 = .ok (.bipush 80, 2) := by decide +kernel
theorem dX5_wish_41 : decode cX5_wish 41 = .ok (.if_icmp .gt 76, 3) := by decide +kernel
theorem dX5_wish_44 : decode cX5_wish 44 = .ok (.aload_n 0, 1) := by decide +kernel
theorem dX5_wish_45 : decode cX5_wish 45 = .ok (.aload_n 0, 1) := by decide +kernel
theorem dX5_wish_46 : decode cX5_wish 46 = .ok (.iload_n 1, 1) := by decide +kernel
theorem dX5_wish_47 : decode cX5_wish 47 = .ok (.iconst 0, 1) := by decide +kernel
theorem dX5_wish_48 : decode cX5_wish 48 = .ok (.invokevirtual 92, 3) := by decide +kernel
theorem dX5_wish_51 : decode cX5_wish 51 = .ok (.iload 6, 2) := by decide +kernel
theorem dX5_wish_53 : decode cX5_wish 53 = .ok (.iload_n 2, 1) := by decide +kernel
theorem dX5_wish_54 : decode cX5_wish 54 = .ok (.invokevirtual 95, 3) := by decide +kernel
theorem dX5_wish_57 : decode cX5_wish 57 = .ok (.aload_n 0, 1) := by decide +kernel
theorem dX5_wish_58 : decode cX5_wish 58 = .ok (.getfield 75, 3) := by decide +kernel
theorem dX5_wish_61 : decode cX5_wish 61 = .ok (.iload_n 3, 1) := by decide +kernel
theorem dX5_wish_62 : decode cX5_wish 62 = .ok (.if_icmp .gt 16, 3) := by decide +kernel
theorem dX5_wish_65 : decode cX5_wish 65 = .ok (.aload_n 0, 1) := by decide +kernel
theorem dX5_wish_66 : decode cX5_wish 66 = .ok (.getfield 79, 3) := by decide +kernel
theorem dX5_wish_69 : decode cX5_wish 69 = .ok (.iload 5, 2) := by decide +kernel
theorem dX5_wish_71 : decode cX5_wish 71 = .ok (.if_icmp .ge 7, 3) := by decide +kernel
theorem dX5_wish_74 : decode cX5_wish 74 = .ok (.iconst 1, 1) := by decide +kernel
theorem dX5_wish_75 : decode cX5_wish 75 = .ok (.goto 4, 3) := by decide +kernel
theorem dX5_wish_78 : decode cX5_wish 78 = .ok (.iconst 0, 1) := by decide +kernel
theorem dX5_wish_79 : decode cX5_wish 79 = .ok (.istore 7, 2) := by decide +kernel
theorem dX5_wish_81 : decode cX5_wish 81 = .ok (.iload 7, 2) := by decide +kernel
theorem dX5_wish_83 : decode cX5_wish 83 = .ok (.ifCond .eq 8, 3) := by decide +kernel
theorem dX5_wish_86 : decode cX5_wish 86 = .ok (.iload 6, 2) := by decide +kernel
theorem dX5_wish_88 : decode cX5_wish 88 = .ok (.goto 5, 3) := by decide +kernel
theorem dX5_wish_91 : decode cX5_wish 91 = .ok (.iload 4, 2) := by decide +kernel
theorem dX5_wish_93 : decode cX5_wish 93 = .ok (.istore 4, 2) := by decide +kernel
theorem dX5_wish_95 : decode cX5_wish 95 = .ok (.iload 7, 2) := by decide +kernel
theorem dX5_wish_97 : decode cX5_wish 97 = .ok (.ifCond .eq 10, 3) := by decide +kernel
theorem dX5_wish_100 : decode cX5_wish 100 = .ok (.aload_n 0, 1) := by decide +kernel
theorem dX5_wish_101 : decode cX5_wish 101 = .ok (.getfield 79, 3) := by decide +kernel
theorem dX5_wish_104 : decode cX5_wish 104 = .ok (.goto 5, 3) := by decide +kernel
theorem dX5_wish_107 : decode cX5_wish 107 = .ok (.iload 5, 2) := by decide +kernel
theorem dX5_wish_109 : decode cX5_wish 109 = .ok (.istore 5, 2) := by decide +kernel
theorem dX5_wish_111 : decode cX5_wish 111 = .ok (.iinc 6 1, 3) := by decide +kernel
theorem dX5_wish_114 : decode cX5_wish 114 = .ok (.goto (-77), 3) := by decide +kernel
theorem dX5_wish_117 : decode cX5_wish 117 = .ok (.iload 4, 2) := by decide +kernel
theorem dX5_wish_119 : decode cX5_wish 119 = .ok (.ifCond .ge 11, 3) := by decide +kernel
theorem dX5_wish_122 : decode cX5_wish 122 = .ok (.aload_n 0, 1) := by decide +kernel
theorem dX5_wish_123 : decode cX5_wish 123 = .ok (.iconst 3, 1) := by decide +kernel
theorem dX5_wish_124 : decode cX5_wish 124 = .ok (.invokevirtual 118, 3) := by decide +kernel
theorem dX5_wish_127 : decode cX5_wish 127 = .ok (.goto 5, 3) := by decide +kernel
theorem dX5_wish_130 : decode cX5_wish 130 = .ok (.iload 4, 2) := by decide +kernel
theorem dX5_wish_132 : decode cX5_wish 132 = .ok (.ireturn, 1) := by decide +kernel
theorem dX5_drives_0 : decode cX5_drives 0 = .ok (.iload_n 1, 1) := by decide +kernel
theorem dX5_drives_1 : decode cX5_drives 1 = .ok (.invokestatic 115, 3) := by decide +kernel
theorem dX5_drives_4 : decode cX5_drives 4 = .ok (.ifCond .ne 9, 3) := by decide +kernel
theorem dX5_drives_7 : decode cX5_drives 7 = .ok (.aload_n 0, 1) := by decide +kernel
theorem dX5_drives_8 : decode cX5_drives 8 = .ok (.iconst 0, 1) := by decide +kernel
theorem dX5_drives_9 : decode cX5_drives 9 = .ok (.invokevirtual 118, 3) := by decide +kernel
theorem dX5_drives_12 : decode cX5_drives 12 = .ok (.ireturn, 1) := by decide +kernel
theorem dX5_drives_13 : decode cX5_drives 13 = .ok (.iconst 0, 1) := by decide +kernel
theorem dX5_drives_14 : decode cX5_drives 14 = .ok (.istore_n 2, 1) := by decide +kernel
theorem dX5_drives_15 : decode cX5_drives 15 = .ok (.iconst (-1), 1) := by decide +kernel
theorem dX5_drives_16 : decode cX5_drives 16 = .ok (.istore_n 3, 1) := by decide +kernel
theorem dX5_drives_17 : decode cX5_drives 17 = .ok (.iconst 0, 1) := by decide +kernel
theorem dX5_drives_18 : decode cX5_drives 18 = .ok (.istore 4, 2) := by decide +kernel
theorem dX5_drives_20 : decode cX5_drives 20 = .ok (.iload 4, 2) := by decide +kernel
theorem dX5_drives_22 : decode cX5_drives 22 = .ok (.iconst 3, 1) := by decide +kernel
theorem dX5_drives_23 : decode cX5_drives 23 = .ok (.if_icmp .ge 113, 3) := by decide +kernel
theorem dX5_drives_26 : decode cX5_drives 26 = .ok (.aload_n 0, 1) := by decide +kernel
theorem dX5_drives_27 : decode cX5_drives 27 = .ok (.invokevirtual 153, 3) := by decide +kernel
theorem dX5_drives_30 : decode cX5_drives 30 = .ok (.aload_n 0, 1) := by decide +kernel
theorem dX5_drives_31 : decode cX5_drives 31 = .ok (.iload 4, 2) := by decide +kernel
theorem dX5_drives_33 : decode cX5_drives 33 = .ok (.iload_n 1, 1) := by decide +kernel
theorem dX5_drives_34 : decode cX5_drives 34 = .ok (.iconst 1, 1) := by decide +kernel
theorem dX5_drives_35 : decode cX5_drives 35 = .ok (.invokevirtual 121, 3) := by decide +kernel
theorem dX5_drives_38 : decode cX5_drives 38 = .ok (.aload_n 0, 1) := by decide +kernel
theorem dX5_drives_39 : decode cX5_drives 39 = .ok (.iconst 1, 1) := by decide +kernel
theorem dX5_drives_40 : decode cX5_drives 40 = .ok (.invokevirtual 150, 3) := by decide +kernel
theorem dX5_drives_43 : decode cX5_drives 43 = .ok (.iconst 0, 1) := by decide +kernel
theorem dX5_drives_44 : decode cX5_drives 44 = .ok (.istore 5, 2) := by decide +kernel
theorem dX5_drives_46 : decode cX5_drives 46 = .ok (.iconst 0, 1) := by decide +kernel
theorem dX5_drives_47 : decode cX5_drives 47 = .ok (.istore 6, 2) := by decide +kernel
theorem dX5_drives_49 : decode cX5_drives 49 = .ok (.iload 6, 2) := by decide +kernel
theorem dX5_drives_51 : decode cX5_drives 51 = .ok (.aload_n 0, 1) := by decide +kernel
theorem dX5_drives_52 : decode cX5_drives 52 = .ok (.getfield 9, 3) := by decide +kernel
theorem dX5_drives_55 : decode cX5_drives 55 = .ok (.iconst 2, 1) := by decide +kernel
theorem dX5_drives_56 : decode cX5_drives 56 = .ok (.iaload, 1) := by decide +kernel
theorem dX5_drives_57 : decode cX5_drives 57 = .ok (.if_icmp .ge 43, 3) := by decide +kernel
theorem dX5_drives_60 : decode cX5_drives 60 = .ok (.iload 5, 2) := by decide +kernel
theorem dX5_drives_62 : decode cX5_drives 62 = .ok (.aload_n 0, 1) := by decide +kernel
theorem dX5_drives_63 : decode cX5_drives 63 = .ok (.iload 6, 2) := by decide +kernel
theorem dX5_drives_65 : decode cX5_drives 65 = .ok (.iconst 2, 1) := by decide +kernel
theorem dX5_drives_66 : decode cX5_drives 66 = .ok (.invokevirtual 92, 3) := by decide +kernel
theorem dX5_drives_69 : decode cX5_drives 69 = .ok (.aload_n 0, 1) := by decide +kernel
theorem dX5_drives_70 : decode cX5_drives 70 = .ok (.getfield 16, 3) := by decide +kernel
theorem dX5_drives_73 : decode cX5_drives 73 = .ok (.bipush 123, 2) := by decide +kernel
theorem dX5_drives_75 : decode cX5_drives 75 = .ok (.iconst 3, 1) := by decide +kernel
theorem dX5_drives_76 : decode cX5_drives 76 = .ok (.iload 6, 2) := by decide +kernel
theorem dX5_drives_78 : decode cX5_drives 78 = .ok (.imul, 1) := by decide +kernel
theorem dX5_drives_79 : decode cX5_drives 79 = .ok (.iadd, 1) := by decide +kernel
theorem dX5_drives_80 : decode cX5_drives 80 = .ok (.iconst 2, 1) := by decide +kernel
theorem dX5_drives_81 : decode cX5_drives 81 = .ok (.iadd, 1) := by decide +kernel
theorem dX5_drives_82 : decode cX5_drives 82 = .ok (.iaload, 1) := by decide +kernel
theorem dX5_drives_83 : decode cX5_drives 83 = .ok (.if_icmp .eq 7, 3) := by decide +kernel
theorem dX5_drives_86 : decode cX5_drives 86 = .ok (.iconst 1, 1) := by decide +kernel
theorem dX5_drives_87 : decode cX5_drives 87 = .ok (.goto 4, 3) := by decide +kernel
theorem dX5_drives_90 : decode cX5_drives 90 = .ok (.iconst 0, 1) := by decide +kernel
theorem dX5_drives_91 : decode cX5_drives 91 = .ok (.iadd, 1) := by decide +kernel
theorem dX5_drives_92 : decode cX5_drives 92 = .ok (.istore 5, 2) := by decide +kernel
theorem dX5_drives_94 : decode cX5_drives 94 = .ok (.iinc 6 1, 3) := by decide +kernel
theorem dX5_drives_97 : decode cX5_drives 97 = .ok (.goto (-48), 3) := by decide +kernel
theorem dX5_drives_100 : decode cX5_drives 100 = .ok (.aload_n 0, 1) := by decide +kernel
theorem dX5_drives_101 : decode cX5_drives 101 = .ok (.invokevirtual 156, 3) := by decide +kernel
theorem dX5_drives_104 : decode cX5_drives 104 = .ok (.iload 5, 2) := by decide +kernel
theorem dX5_drives_106 : decode cX5_drives 106 = .ok (.iload_n 3, 1) := by decide +kernel
theorem dX5_drives_107 : decode cX5_drives 107 = .ok (.if_icmp .le 8, 3) := by decide +kernel
theorem dX5_drives_110 : decode cX5_drives 110 = .ok (.iload 4, 2) := by decide +kernel
theorem dX5_drives_112 : decode cX5_drives 112 = .ok (.goto 4, 3) := by decide +kernel
theorem dX5_drives_115 : decode cX5_drives 115 = .ok (.iload_n 2, 1) := by decide +kernel
theorem dX5_drives_116 : decode cX5_drives 116 = .ok (.istore_n 2, 1) := by decide +kernel
theorem dX5_drives_117 : decode cX5_drives 117 = .ok (.iload 5, 2) := by decide +kernel
theorem dX5_drives_119 : decode cX5_drives 119 = .ok (.iload_n 3, 1) := by decide +kernel
theorem dX5_drives_120 : decode cX5_drives 120 = .ok (.if_icmp .le 8, 3) := by decide +kernel
theorem dX5_drives_123 : decode cX5_drives 123 = .ok (.iload 5, 2) := by decide +kernel
theorem dX5_drives_125 : decode cX5_drives 125 = .ok (.goto 4, 3) := by decide +kernel
theorem dX5_drives_128 : decode cX5_drives 128 = .ok (.iload_n 3, 1) := by decide +kernel
theorem dX5_drives_129 : decode cX5_drives 129 = .ok (.istore_n 3, 1) := by decide +kernel
theorem dX5_drives_130 : decode cX5_drives 130 = .ok (.iinc 4 1, 3) := by decide +kernel
theorem dX5_drives_133 : decode cX5_drives 133 = .ok (.goto (-113), 3) := by decide +kernel
theorem dX5_drives_136 : decode cX5_drives 136 = .ok (.iload_n 2, 1) := by decide +kernel
theorem dX5_drives_137 : decode cX5_drives 137 = .ok (.ireturn, 1) := by decide +kernel
theorem dX5_slowest_0 : decode cX5_slowest 0 = .ok (.iconst (-1), 1) := by decide +kernel
theorem dX5_slowest_1 : decode cX5_slowest 1 = .ok (.istore_n 1, 1) := by decide +kernel
theorem dX5_slowest_2 : decode cX5_slowest 2 = .ok (.iconst (-1), 1) := by decide +kernel
theorem dX5_slowest_3 : decode cX5_slowest 3 = .ok (.istore_n 2, 1) := by decide +kernel
theorem dX5_slowest_4 : decode cX5_slowest 4 = .ok (.iconst 0, 1) := by decide +kernel
theorem dX5_slowest_5 : decode cX5_slowest 5 = .ok (.istore_n 3, 1) := by decide +kernel
theorem dX5_slowest_6 : decode cX5_slowest 6 = .ok (.iload_n 3, 1) := by decide +kernel
theorem dX5_slowest_7 : decode cX5_slowest 7 = .ok (.aload_n 0, 1) := by decide +kernel
theorem dX5_slowest_8 : decode cX5_slowest 8 = .ok (.getfield 9, 3) := by decide +kernel
theorem dX5_slowest_11 : decode cX5_slowest 11 = .ok (.iconst 2, 1) := by decide +kernel
theorem dX5_slowest_12 : decode cX5_slowest 12 = .ok (.iaload, 1) := by decide +kernel
theorem dX5_slowest_13 : decode cX5_slowest 13 = .ok (.if_icmp .ge 56, 3) := by decide +kernel
theorem dX5_slowest_16 : decode cX5_slowest 16 = .ok (.aload_n 0, 1) := by decide +kernel
theorem dX5_slowest_17 : decode cX5_slowest 17 = .ok (.iload_n 3, 1) := by decide +kernel
theorem dX5_slowest_18 : decode cX5_slowest 18 = .ok (.iconst 0, 1) := by decide +kernel
theorem dX5_slowest_19 : decode cX5_slowest 19 = .ok (.invokevirtual 102, 3) := by decide +kernel
theorem dX5_slowest_22 : decode cX5_slowest 22 = .ok (.aload_n 0, 1) := by decide +kernel
theorem dX5_slowest_23 : decode cX5_slowest 23 = .ok (.iload_n 3, 1) := by decide +kernel
theorem dX5_slowest_24 : decode cX5_slowest 24 = .ok (.iconst 1, 1) := by decide +kernel
theorem dX5_slowest_25 : decode cX5_slowest 25 = .ok (.invokevirtual 102, 3) := by decide +kernel
theorem dX5_slowest_28 : decode cX5_slowest 28 = .ok (.iadd, 1) := by decide +kernel
theorem dX5_slowest_29 : decode cX5_slowest 29 = .ok (.aload_n 0, 1) := by decide +kernel
theorem dX5_slowest_30 : decode cX5_slowest 30 = .ok (.iload_n 3, 1) := by decide +kernel
theorem dX5_slowest_31 : decode cX5_slowest 31 = .ok (.iconst 2, 1) := by decide +kernel
theorem dX5_slowest_32 : decode cX5_slowest 32 = .ok (.invokevirtual 102, 3) := by decide +kernel
theorem dX5_slowest_35 : decode cX5_slowest 35 = .ok (.iadd, 1) := by decide +kernel
theorem dX5_slowest_36 : decode cX5_slowest 36 = .ok (.istore 4, 2) := by decide +kernel
theorem dX5_slowest_38 : decode cX5_slowest 38 = .ok (.iload 4, 2) := by decide +kernel
theorem dX5_slowest_40 : decode cX5_slowest 40 = .ok (.iload_n 2, 1) := by decide +kernel
theorem dX5_slowest_41 : decode cX5_slowest 41 = .ok (.if_icmp .le 7, 3) := by decide +kernel
theorem dX5_slowest_44 : decode cX5_slowest 44 = .ok (.iload_n 3, 1) := by decide +kernel
theorem dX5_slowest_45 : decode cX5_slowest 45 = .ok (.goto 4, 3) := by decide +kernel
theorem dX5_slowest_48 : decode cX5_slowest 48 = .ok (.iload_n 1, 1) := by decide +kernel
theorem dX5_slowest_49 : decode cX5_slowest 49 = .ok (.istore_n 1, 1) := by decide +kernel
theorem dX5_slowest_50 : decode cX5_slowest 50 = .ok (.iload 4, 2) := by decide +kernel
theorem dX5_slowest_52 : decode cX5_slowest 52 = .ok (.iload_n 2, 1) := by decide +kernel
theorem dX5_slowest_53 : decode cX5_slowest 53 = .ok (.if_icmp .le 8, 3) := by decide +kernel
theorem dX5_slowest_56 : decode cX5_slowest 56 = .ok (.iload 4, 2) := by decide +kernel
theorem dX5_slowest_58 : decode cX5_slowest 58 = .ok (.goto 4, 3) := by decide +kernel
theorem dX5_slowest_61 : decode cX5_slowest 61 = .ok (.iload_n 2, 1) := by decide +kernel
theorem dX5_slowest_62 : decode cX5_slowest 62 = .ok (.istore_n 2, 1) := by decide +kernel
theorem dX5_slowest_63 : decode cX5_slowest 63 = .ok (.iinc 3 1, 3) := by decide +kernel
theorem dX5_slowest_66 : decode cX5_slowest 66 = .ok (.goto (-60), 3) := by decide +kernel
theorem dX5_slowest_69 : decode cX5_slowest 69 = .ok (.iload_n 1, 1) := by decide +kernel
theorem dX5_slowest_70 : decode cX5_slowest 70 = .ok (.ifCond .ge 11, 3) := by decide +kernel
theorem dX5_slowest_73 : decode cX5_slowest 73 = .ok (.aload_n 0, 1) := by decide +kernel
theorem dX5_slowest_74 : decode cX5_slowest 74 = .ok (.iconst 3, 1) := by decide +kernel
theorem dX5_slowest_75 : decode cX5_slowest 75 = .ok (.invokevirtual 118, 3) := by decide +kernel
theorem dX5_slowest_78 : decode cX5_slowest 78 = .ok (.goto 4, 3) := by decide +kernel
theorem dX5_slowest_81 : decode cX5_slowest 81 = .ok (.iload_n 1, 1) := by decide +kernel
theorem dX5_slowest_82 : decode cX5_slowest 82 = .ok (.ireturn, 1) := by decide +kernel
theorem dX5_feed_0 : decode cX5_feed 0 = .ok (.iload_n 2, 1) := by decide +kernel
theorem dX5_feed_1 : decode cX5_feed 1 = .ok (.iconst 1, 1) := by decide +kernel
theorem dX5_feed_2 : decode cX5_feed 2 = .ok (.iconst 4, 1) := by decide +kernel
theorem dX5_feed_3 : decode cX5_feed 3 = .ok (.invokestatic 52, 3) := by decide +kernel
theorem dX5_feed_6 : decode cX5_feed 6 = .ok (.ifCond .ne 9, 3) := by decide +kernel
theorem dX5_feed_9 : decode cX5_feed 9 = .ok (.aload_n 0, 1) := by decide +kernel
theorem dX5_feed_10 : decode cX5_feed 10 = .ok (.iconst 0, 1) := by decide +kernel
theorem dX5_feed_11 : decode cX5_feed 11 = .ok (.invokevirtual 118, 3) := by decide +kernel
theorem dX5_feed_14 : decode cX5_feed 14 = .ok (.ireturn, 1) := by decide +kernel
theorem dX5_feed_15 : decode cX5_feed 15 = .ok (.aload_n 0, 1) := by decide +kernel
theorem dX5_feed_16 : decode cX5_feed 16 = .ok (.getfield 166, 3) := by decide +kernel
theorem dX5_feed_19 : decode cX5_feed 19 = .ok (.iload_n 2, 1) := by decide +kernel
theorem dX5_feed_20 : decode cX5_feed 20 = .ok (.iadd, 1) := by decide +kernel
theorem dX5_feed_21 : decode cX5_feed 21 = .ok (.bipush 120, 2) := by decide +kernel
theorem dX5_feed_23 : decode cX5_feed 23 = .ok (.if_icmp .le 9, 3) := by decide +kernel
theorem dX5_feed_26 : decode cX5_feed 26 = .ok (.aload_n 0, 1) := by decide +kernel
theorem dX5_feed_27 : decode cX5_feed 27 = .ok (.iconst 1, 1) := by decide +kernel
theorem dX5_feed_28 : decode cX5_feed 28 = .ok (.invokevirtual 118, 3) := by decide +kernel
theorem dX5_feed_31 : decode cX5_feed 31 = .ok (.ireturn, 1) := by decide +kernel
theorem dX5_feed_32 : decode cX5_feed 32 = .ok (.iload_n 2, 1) := by decide +kernel
theorem dX5_feed_33 : decode cX5_feed 33 = .ok (.iconst 1, 1) := by decide +kernel
theorem dX5_feed_34 : decode cX5_feed 34 = .ok (.isub, 1) := by decide +kernel
theorem dX5_feed_35 : decode cX5_feed 35 = .ok (.istore_n 3, 1) := by decide +kernel
theorem dX5_feed_36 : decode cX5_feed 36 = .ok (.iload_n 3, 1) := by decide +kernel
theorem dX5_feed_37 : decode cX5_feed 37 = .ok (.ifCond .lt 38, 3) := by decide +kernel
theorem dX5_feed_40 : decode cX5_feed 40 = .ok (.aload_n 0, 1) := by decide +kernel
theorem dX5_feed_41 : decode cX5_feed 41 = .ok (.getfield 25, 3) := by decide +kernel
theorem dX5_feed_44 : decode cX5_feed 44 = .ok (.aload_n 0, 1) := by decide +kernel
theorem dX5_feed_45 : decode cX5_feed 45 = .ok (.getfield 166, 3) := by decide +kernel
theorem dX5_feed_48 : decode cX5_feed 48 = .ok (.iload_n 1, 1) := by decide +kernel
theorem dX5_feed_49 : decode cX5_feed 49 = .ok (.bipush 8, 2) := by decide +kernel
theorem dX5_feed_51 : decode cX5_feed 51 = .ok (.iload_n 3, 1) := by decide +kernel
theorem dX5_feed_52 : decode cX5_feed 52 = .ok (.imul, 1) := by decide +kernel
theorem dX5_feed_53 : decode cX5_feed 53 = .ok (.ishr, 1) := by decide +kernel
theorem dX5_feed_54 : decode cX5_feed 54 = .ok (.sipush 255, 3) := by decide +kernel
theorem dX5_feed_57 : decode cX5_feed 57 = .ok (.iand, 1) := by decide +kernel
theorem dX5_feed_58 : decode cX5_feed 58 = .ok (.iastore, 1) := by decide +kernel
theorem dX5_feed_59 : decode cX5_feed 59 = .ok (.aload_n 0, 1) := by decide +kernel
theorem dX5_feed_60 : decode cX5_feed 60 = .ok (.dup, 1) := by decide +kernel
theorem dX5_feed_61 : decode cX5_feed 61 = .ok (.getfield 166, 3) := by decide +kernel
theorem dX5_feed_64 : decode cX5_feed 64 = .ok (.iconst 1, 1) := by decide +kernel
theorem dX5_feed_65 : decode cX5_feed 65 = .ok (.iadd, 1) := by decide +kernel
theorem dX5_feed_66 : decode cX5_feed 66 = .ok (.putfield 166, 3) := by decide +kernel
theorem dX5_feed_69 : decode cX5_feed 69 = .ok (.iinc 3 (-1), 3) := by decide +kernel
theorem dX5_feed_72 : decode cX5_feed 72 = .ok (.goto (-36), 3) := by decide +kernel
theorem dX5_feed_75 : decode cX5_feed 75 = .ok (.aload_n 0, 1) := by decide +kernel
theorem dX5_feed_76 : decode cX5_feed 76 = .ok (.getfield 166, 3) := by decide +kernel
theorem dX5_feed_79 : decode cX5_feed 79 = .ok (.ireturn, 1) := by decide +kernel
theorem dX5_wipe_0 : decode cX5_wipe 0 = .ok (.aload_n 0, 1) := by decide +kernel
theorem dX5_wipe_1 : decode cX5_wipe 1 = .ok (.getfield 166, 3) := by decide +kernel
theorem dX5_wipe_4 : decode cX5_wipe 4 = .ok (.istore_n 1, 1) := by decide +kernel
theorem dX5_wipe_5 : decode cX5_wipe 5 = .ok (.aload_n 0, 1) := by decide +kernel
theorem dX5_wipe_6 : decode cX5_wipe 6 = .ok (.iconst 0, 1) := by decide +kernel
theorem dX5_wipe_7 : decode cX5_wipe 7 = .ok (.putfield 166, 3) := by decide +kernel
theorem dX5_wipe_10 : decode cX5_wipe 10 = .ok (.iload_n 1, 1) := by decide +kernel
theorem dX5_wipe_11 : decode cX5_wipe 11 = .ok (.ireturn, 1) := by decide +kernel
theorem dX5_isLetter_0 : decode cX5_isLetter 0 = .ok (.iload_n 0, 1) := by decide +kernel
theorem dX5_isLetter_1 : decode cX5_isLetter 1 = .ok (.bipush 97, 2) := by decide +kernel
theorem dX5_isLetter_3 : decode cX5_isLetter 3 = .ok (.bipush 122, 2) := by decide +kernel
theorem dX5_isLetter_5 : decode cX5_isLetter 5 = .ok (.invokestatic 52, 3) := by decide +kernel
theorem dX5_isLetter_8 : decode cX5_isLetter 8 = .ok (.ireturn, 1) := by decide +kernel
theorem dX5_isDigit_0 : decode cX5_isDigit 0 = .ok (.iload_n 0, 1) := by decide +kernel
theorem dX5_isDigit_1 : decode cX5_isDigit 1 = .ok (.bipush 48, 2) := by decide +kernel
theorem dX5_isDigit_3 : decode cX5_isDigit 3 = .ok (.bipush 57, 2) := by decide +kernel
theorem dX5_isDigit_5 : decode cX5_isDigit 5 = .ok (.invokestatic 52, 3) := by decide +kernel
theorem dX5_isDigit_8 : decode cX5_isDigit 8 = .ok (.ireturn, 1) := by decide +kernel
theorem dX5_nextToken_0 : decode cX5_nextToken 0 = .ok (.aload_n 0, 1) := by decide +kernel
theorem dX5_nextToken_1 : decode cX5_nextToken 1 = .ok (.aload_n 0, 1) := by decide +kernel
theorem dX5_nextToken_2 : decode cX5_nextToken 2 = .ok (.getfield 169, 3) := by decide +kernel
theorem dX5_nextToken_5 : decode cX5_nextToken 5 = .ok (.putfield 172, 3) := by decide +kernel
theorem dX5_nextToken_8 : decode cX5_nextToken 8 = .ok (.aload_n 0, 1) := by decide +kernel
theorem dX5_nextToken_9 : decode cX5_nextToken 9 = .ok (.getfield 172, 3) := by decide +kernel
theorem dX5_nextToken_12 : decode cX5_nextToken 12 = .ok (.aload_n 0, 1) := by decide +kernel
theorem dX5_nextToken_13 : decode cX5_nextToken 13 = .ok (.getfield 166, 3) := by decide +kernel
theorem dX5_nextToken_16 : decode cX5_nextToken 16 = .ok (.if_icmp .ge 30, 3) := by decide +kernel
theorem dX5_nextToken_19 : decode cX5_nextToken 19 = .ok (.aload_n 0, 1) := by decide +kernel
theorem dX5_nextToken_20 : decode cX5_nextToken 20 = .ok (.getfield 25, 3) := by decide +kernel
theorem dX5_nextToken_23 : decode cX5_nextToken 23 = .ok (.aload_n 0, 1) := by decide +kernel
theorem dX5_nextToken_24 : decode cX5_nextToken 24 = .ok (.getfield 172, 3) := by decide +kernel
theorem dX5_nextToken_27 : decode cX5_nextToken 27 = .ok (.iaload, 1) := by decide +kernel
theorem dX5_nextToken_28 : decode cX5_nextToken 28 = .ok (.bipush 32, 2) := by decide +kernel
theorem dX5_nextToken_30 : decode cX5_nextToken 30 = .ok (.if_icmp .ne 16, 3) := by decide +kernel
theorem dX5_nextToken_33 : decode cX5_nextToken 33 = .ok (.aload_n 0, 1) := by decide +kernel
theorem dX5_nextToken_34 : decode cX5_nextToken 34 = .ok (.dup, 1) := by decide +kernel
theorem dX5_nextToken_35 : decode cX5_nextToken 35 = .ok (.getfield 172, 3) := by decide +kernel
theorem dX5_nextToken_38 : decode cX5_nextToken 38 = .ok (.iconst 1, 1) := by decide +kernel
theorem dX5_nextToken_39 : decode cX5_nextToken 39 = .ok (.iadd, 1) := by decide +kernel
theorem dX5_nextToken_40 : decode cX5_nextToken 40 = .ok (.putfield 172, 3) := by decide +kernel
theorem dX5_nextToken_43 : decode cX5_nextToken 43 = .ok (.goto (-35), 3) := by decide +kernel
theorem dX5_nextToken_46 : decode cX5_nextToken 46 = .ok (.aload_n 0, 1) := by decide +kernel
theorem dX5_nextToken_47 : decode cX5_nextToken 47 = .ok (.aload_n 0, 1) := by decide +kernel
theorem dX5_nextToken_48 : decode cX5_nextToken 48 = .ok (.getfield 172, 3) := by decide +kernel
theorem dX5_nextToken_51 : decode cX5_nextToken 51 = .ok (.putfield 169, 3) := by decide +kernel
theorem dX5_nextToken_54 : decode cX5_nextToken 54 = .ok (.aload_n 0, 1) := by decide +kernel
theorem dX5_nextToken_55 : decode cX5_nextToken 55 = .ok (.lconst 0, 1) := by decide +kernel
theorem dX5_nextToken_56 : decode cX5_nextToken 56 = .ok (.putfield 175, 3) := by decide +kernel
theorem dX5_nextToken_59 : decode cX5_nextToken 59 = .ok (.aload_n 0, 1) := by decide +kernel
theorem dX5_nextToken_60 : decode cX5_nextToken 60 = .ok (.getfield 172, 3) := by decide +kernel
theorem dX5_nextToken_63 : decode cX5_nextToken 63 = .ok (.aload_n 0, 1) := by decide +kernel
theorem dX5_nextToken_64 : decode cX5_nextToken 64 = .ok (.getfield 166, 3) := by decide +kernel
theorem dX5_nextToken_67 : decode cX5_nextToken 67 = .ok (.if_icmp .ne 11, 3) := by decide +kernel
theorem dX5_nextToken_70 : decode cX5_nextToken 70 = .ok (.aload_n 0, 1) := by decide +kernel
theorem dX5_nextToken_71 : decode cX5_nextToken 71 = .ok (.iconst 0, 1) := by decide +kernel
theorem dX5_nextToken_72 : decode cX5_nextToken 72 = .ok (.putfield 179, 3) := by decide +kernel
theorem dX5_nextToken_75 : decode cX5_nextToken 75 = .ok (.goto 262, 3) := by decide +kernel
theorem dX5_nextToken_78 : decode cX5_nextToken 78 = .ok (.aload_n 0, 1) := by decide +kernel
theorem dX5_nextToken_79 : decode cX5_nextToken 79 = .ok (.getfield 25, 3) := by decide +kernel
theorem dX5_nextToken_82 : decode cX5_nextToken 82 = .ok (.aload_n 0, 1) := by decide +kernel
theorem dX5_nextToken_83 : decode cX5_nextToken 83 = .ok (.getfield 172, 3) := by decide +kernel
theorem dX5_nextToken_86 : decode cX5_nextToken 86 = .ok (.iaload, 1) := by decide +kernel
theorem dX5_nextToken_87 : decode cX5_nextToken 87 = .ok (.invokestatic 182, 3) := by decide +kernel
theorem dX5_nextToken_90 : decode cX5_nextToken 90 = .ok (.ifCond .eq 92, 3) := by decide +kernel
theorem dX5_nextToken_93 : decode cX5_nextToken 93 = .ok (.aload_n 0, 1) := by decide +kernel
theorem dX5_nextToken_94 : decode cX5_nextToken 94 = .ok (.iconst 1, 1) := by decide +kernel
theorem dX5_nextToken_95 : decode cX5_nextToken 95 = .ok (.putfield 179, 3) := by decide +kernel
theorem dX5_nextToken_98 : decode cX5_nextToken 98 = .ok (.aload_n 0, 1) := by decide +kernel
theorem dX5_nextToken_99 : decode cX5_nextToken 99 = .ok (.getfield 169, 3) := by decide +kernel
theorem dX5_nextToken_102 : decode cX5_nextToken 102 = .ok (.aload_n 0, 1) := by decide +kernel
theorem dX5_nextToken_103 : decode cX5_nextToken 103 = .ok (.getfield 166, 3) := by decide +kernel
theorem dX5_nextToken_106 : decode cX5_nextToken 106 = .ok (.if_icmp .ge 231, 3) := by decide +kernel
theorem dX5_nextToken_109 : decode cX5_nextToken 109 = .ok (.aload_n 0, 1) := by decide +kernel
theorem dX5_nextToken_110 : decode cX5_nextToken 110 = .ok (.getfield 25, 3) := by decide +kernel
theorem dX5_nextToken_113 : decode cX5_nextToken 113 = .ok (.aload_n 0, 1) := by decide +kernel
theorem dX5_nextToken_114 : decode cX5_nextToken 114 = .ok (.getfield 169, 3) := by decide +kernel
theorem dX5_nextToken_117 : decode cX5_nextToken 117 = .ok (.iaload, 1) := by decide +kernel
theorem dX5_nextToken_118 : decode cX5_nextToken 118 = .ok (.invokestatic 182, 3) := by decide +kernel
theorem dX5_nextToken_121 : decode cX5_nextToken 121 = .ok (.ifCond .eq 216, 3) := by decide +kernel
theorem dX5_nextToken_124 : decode cX5_nextToken 124 = .ok (.aload_n 0, 1) := by decide +kernel
theorem dX5_nextToken_125 : decode cX5_nextToken 125 = .ok (.aload_n 0, 1) := by decide +kernel
theorem dX5_nextToken_126 : decode cX5_nextToken 126 = .ok (.getfield 175, 3) := by decide +kernel
theorem dX5_nextToken_129 : decode cX5_nextToken 129 = .ok (.ldc2_w 185, 3) := by decide +kernel
theorem dX5_nextToken_132 : decode cX5_nextToken 132 = .ok (.lcmp, 1) := by decide +kernel
theorem dX5_nextToken_133 : decode cX5_nextToken 133 = .ok (.ifCond .le 10, 3) := by decide +kernel
theorem dX5_nextToken_136 : decode cX5_nextToken 136 = .ok (.aload_n 0, 1) := by decide +kernel
theorem dX5_nextToken_137 : decode cX5_nextToken 137 = .ok (.getfield 175, 3) := by decide +kernel
theorem dX5_nextToken_140 : decode cX5_nextToken 140 = .ok (.goto 26, 3) := by decide +kernel
theorem dX5_nextToken_143 : decode cX5_nextToken 143 = .ok (.aload_n 0, 1) := by decide +kernel
theorem dX5_nextToken_144 : decode cX5_nextToken 144 = .ok (.getfield 175, 3) := by decide +kernel
theorem dX5_nextToken_147 : decode cX5_nextToken 147 = .ok (.ldc2_w 187, 3) := by decide +kernel
theorem dX5_nextToken_150 : decode cX5_nextToken 150 = .ok (.lmul, 1) := by decide +kernel
theorem dX5_nextToken_151 : decode cX5_nextToken 151 = .ok (.aload_n 0, 1) := by decide +kernel
theorem dX5_nextToken_152 : decode cX5_nextToken 152 = .ok (.getfield 25, 3) := by decide +kernel
theorem dX5_nextToken_155 : decode cX5_nextToken 155 = .ok (.aload_n 0, 1) := by decide +kernel
theorem dX5_nextToken_156 : decode cX5_nextToken 156 = .ok (.getfield 169, 3) := by decide +kernel
theorem dX5_nextToken_159 : decode cX5_nextToken 159 = .ok (.iaload, 1) := by decide +kernel
theorem dX5_nextToken_160 : decode cX5_nextToken 160 = .ok (.i2l, 1) := by decide +kernel
theorem dX5_nextToken_161 : decode cX5_nextToken 161 = .ok (.ladd, 1) := by decide +kernel
theorem dX5_nextToken_162 : decode cX5_nextToken 162 = .ok (.ldc2_w 189, 3) := by decide +kernel
theorem dX5_nextToken_165 : decode cX5_nextToken 165 = .ok (.lsub, 1) := by decide +kernel
theorem dX5_nextToken_166 : decode cX5_nextToken 166 = .ok (.putfield 175, 3) := by decide +kernel
theorem dX5_nextToken_169 : decode cX5_nextToken 169 = .ok (.aload_n 0, 1) := by decide +kernel
theorem dX5_nextToken_170 : decode cX5_nextToken 170 = .ok (.dup, 1) := by decide +kernel
theorem dX5_nextToken_171 : decode cX5_nextToken 171 = .ok (.getfield 169, 3) := by decide +kernel
theorem dX5_nextToken_174 : decode cX5_nextToken 174 = .ok (.iconst 1, 1) := by decide +kernel
theorem dX5_nextToken_175 : decode cX5_nextToken 175 = .ok (.iadd, 1) := by decide +kernel
theorem dX5_nextToken_176 : decode cX5_nextToken 176 = .ok (.putfield 169, 3) := by decide +kernel
theorem dX5_nextToken_179 : decode cX5_nextToken 179 = .ok (.goto (-81), 3) := by decide +kernel
theorem dX5_nextToken_182 : decode cX5_nextToken 182 = .ok (.aload_n 0, 1) := by decide +kernel
theorem dX5_nextToken_183 : decode cX5_nextToken 183 = .ok (.getfield 25, 3) := by decide +kernel
theorem dX5_nextToken_186 : decode cX5_nextToken 186 = .ok (.aload_n 0, 1) := by decide +kernel
theorem dX5_nextToken_187 : decode cX5_nextToken 187 = .ok (.getfield 172, 3) := by decide +kernel
theorem dX5_nextToken_190 : decode cX5_nextToken 190 = .ok (.iaload, 1) := by decide +kernel
theorem dX5_nextToken_191 : decode cX5_nextToken 191 = .ok (.invokestatic 191, 3) := by decide +kernel
theorem dX5_nextToken_194 : decode cX5_nextToken 194 = .ok (.ifCond .eq 110, 3) := by decide +kernel
theorem dX5_nextToken_197 : decode cX5_nextToken 197 = .ok (.aload_n 0, 1) := by decide +kernel
theorem dX5_nextToken_198 : decode cX5_nextToken 198 = .ok (.getfield 169, 3) := by decide +kernel
theorem dX5_nextToken_201 : decode cX5_nextToken 201 = .ok (.aload_n 0, 1) := by decide +kernel
theorem dX5_nextToken_202 : decode cX5_nextToken 202 = .ok (.getfield 166, 3) := by decide +kernel
theorem dX5_nextToken_205 : decode cX5_nextToken 205 = .ok (.if_icmp .ge 76, 3) := by decide +kernel
theorem dX5_nextToken_208 : decode cX5_nextToken 208 = .ok (.aload_n 0, 1) := by decide +kernel
theorem dX5_nextToken_209 : decode cX5_nextToken 209 = .ok (.getfield 25, 3) := by decide +kernel
theorem dX5_nextToken_212 : decode cX5_nextToken 212 = .ok (.aload_n 0, 1) := by decide +kernel
theorem dX5_nextToken_213 : decode cX5_nextToken 213 = .ok (.getfield 169, 3) := by decide +kernel
theorem dX5_nextToken_216 : decode cX5_nextToken 216 = .ok (.iaload, 1) := by decide +kernel
theorem dX5_nextToken_217 : decode cX5_nextToken 217 = .ok (.invokestatic 191, 3) := by decide +kernel
theorem dX5_nextToken_220 : decode cX5_nextToken 220 = .ok (.ifCond .eq 61, 3) := by decide +kernel
theorem dX5_nextToken_223 : decode cX5_nextToken 223 = .ok (.aload_n 0, 1) := by decide +kernel
theorem dX5_nextToken_224 : decode cX5_nextToken 224 = .ok (.aload_n 0, 1) := by decide +kernel
theorem dX5_nextToken_225 : decode cX5_nextToken 225 = .ok (.getfield 175, 3) := by decide +kernel
theorem dX5_nextToken_228 : decode cX5_nextToken 228 = .ok (.ldc2_w 194, 3) := by decide +kernel
theorem dX5_nextToken_231 : decode cX5_nextToken 231 = .ok (.lcmp, 1) := by decide +kernel
theorem dX5_nextToken_232 : decode cX5_nextToken 232 = .ok (.ifCond .le 10, 3) := by decide +kernel
theorem dX5_nextToken_235 : decode cX5_nextToken 235 = .ok (.aload_n 0, 1) := by decide +kernel
theorem dX5_nextToken_236 : decode cX5_nextToken 236 = .ok (.getfield 175, 3) := by decide +kernel
theorem dX5_nextToken_239 : decode cX5_nextToken 239 = .ok (.goto 26, 3) := by decide +kernel
theorem dX5_nextToken_242 : decode cX5_nextToken 242 = .ok (.aload_n 0, 1) := by decide +kernel
theorem dX5_nextToken_243 : decode cX5_nextToken 243 = .ok (.getfield 175, 3) := by decide +kernel
theorem dX5_nextToken_246 : decode cX5_nextToken 246 = .ok (.ldc2_w 196, 3) := by decide +kernel
theorem dX5_nextToken_249 : decode cX5_nextToken 249 = .ok (.lmul, 1) := by decide +kernel
theorem dX5_nextToken_250 : decode cX5_nextToken 250 = .ok (.aload_n 0, 1) := by decide +kernel
theorem dX5_nextToken_251 : decode cX5_nextToken 251 = .ok (.getfield 25, 3) := by decide +kernel
theorem dX5_nextToken_254 : decode cX5_nextToken 254 = .ok (.aload_n 0, 1) := by decide +kernel
theorem dX5_nextToken_255 : decode cX5_nextToken 255 = .ok (.getfield 169, 3) := by decide +kernel
theorem dX5_nextToken_258 : decode cX5_nextToken 258 = .ok (.iaload, 1) := by decide +kernel
theorem dX5_nextToken_259 : decode cX5_nextToken 259 = .ok (.i2l, 1) := by decide +kernel
theorem dX5_nextToken_260 : decode cX5_nextToken 260 = .ok (.ladd, 1) := by decide +kernel
theorem dX5_nextToken_261 : decode cX5_nextToken 261 = .ok (.ldc2_w 198, 3) := by decide +kernel
theorem dX5_nextToken_264 : decode cX5_nextToken 264 = .ok (.lsub, 1) := by decide +kernel
theorem dX5_nextToken_265 : decode cX5_nextToken 265 = .ok (.putfield 175, 3) := by decide +kernel
theorem dX5_nextToken_268 : decode cX5_nextToken 268 = .ok (.aload_n 0, 1) := by decide +kernel
theorem dX5_nextToken_269 : decode cX5_nextToken 269 = .ok (.dup, 1) := by decide +kernel
theorem dX5_nextToken_270 : decode cX5_nextToken 270 = .ok (.getfield 169, 3) := by decide +kernel
theorem dX5_nextToken_273 : decode cX5_nextToken 273 = .ok (.iconst 1, 1) := by decide +kernel
theorem dX5_nextToken_274 : decode cX5_nextToken 274 = .ok (.iadd, 1) := by decide +kernel
theorem dX5_nextToken_275 : decode cX5_nextToken 275 = .ok (.putfield 169, 3) := by decide +kernel
theorem dX5_nextToken_278 : decode cX5_nextToken 278 = .ok (.goto (-81), 3) := by decide +kernel
theorem dX5_nextToken_281 : decode cX5_nextToken 281 = .ok (.aload_n 0, 1) := by decide +kernel
theorem dX5_nextToken_282 : decode cX5_nextToken 282 = .ok (.aload_n 0, 1) := by decide +kernel
theorem dX5_nextToken_283 : decode cX5_nextToken 283 = .ok (.getfield 175, 3) := by decide +kernel
theorem dX5_nextToken_286 : decode cX5_nextToken 286 = .ok (.ldc2_w 194, 3) := by decide +kernel
theorem dX5_nextToken_289 : decode cX5_nextToken 289 = .ok (.lcmp, 1) := by decide +kernel
theorem dX5_nextToken_290 : decode cX5_nextToken 290 = .ok (.ifCond .le 7, 3) := by decide +kernel
theorem dX5_nextToken_293 : decode cX5_nextToken 293 = .ok (.iconst 4, 1) := by decide +kernel
theorem dX5_nextToken_294 : decode cX5_nextToken 294 = .ok (.goto 4, 3) := by decide +kernel
theorem dX5_nextToken_297 : decode cX5_nextToken 297 = .ok (.iconst 2, 1) := by decide +kernel
theorem dX5_nextToken_298 : decode cX5_nextToken 298 = .ok (.putfield 179, 3) := by decide +kernel
theorem dX5_nextToken_301 : decode cX5_nextToken 301 = .ok (.goto 36, 3) := by decide +kernel
theorem dX5_nextToken_304 : decode cX5_nextToken 304 = .ok (.aload_n 0, 1) := by decide +kernel
theorem dX5_nextToken_305 : decode cX5_nextToken 305 = .ok (.aload_n 0, 1) := by decide +kernel
theorem dX5_nextToken_306 : decode cX5_nextToken 306 = .ok (.getfield 25, 3) := by decide +kernel
theorem dX5_nextToken_309 : decode cX5_nextToken 309 = .ok (.aload_n 0, 1) := by decide +kernel
theorem dX5_nextToken_310 : decode cX5_nextToken 310 = .ok (.getfield 172, 3) := by decide +kernel
theorem dX5_nextToken_313 : decode cX5_nextToken 313 = .ok (.iaload, 1) := by decide +kernel
theorem dX5_nextToken_314 : decode cX5_nextToken 314 = .ok (.bipush 59, 2) := by decide +kernel
theorem dX5_nextToken_316 : decode cX5_nextToken 316 = .ok (.if_icmp .ne 7, 3) := by decide +kernel
theorem dX5_nextToken_319 : decode cX5_nextToken 319 = .ok (.iconst 3, 1) := by decide +kernel
theorem dX5_nextToken_320 : decode cX5_nextToken 320 = .ok (.goto 4, 3) := by decide +kernel
theorem dX5_nextToken_323 : decode cX5_nextToken 323 = .ok (.iconst 4, 1) := by decide +kernel
theorem dX5_nextToken_324 : decode cX5_nextToken 324 = .ok (.putfield 179, 3) := by decide +kernel
theorem dX5_nextToken_327 : decode cX5_nextToken 327 = .ok (.aload_n 0, 1) := by decide +kernel
theorem dX5_nextToken_328 : decode cX5_nextToken 328 = .ok (.dup, 1) := by decide +kernel
theorem dX5_nextToken_329 : decode cX5_nextToken 329 = .ok (.getfield 169, 3) := by decide +kernel
theorem dX5_nextToken_332 : decode cX5_nextToken 332 = .ok (.iconst 1, 1) := by decide +kernel
theorem dX5_nextToken_333 : decode cX5_nextToken 333 = .ok (.iadd, 1) := by decide +kernel
theorem dX5_nextToken_334 : decode cX5_nextToken 334 = .ok (.putfield 169, 3) := by decide +kernel
theorem dX5_nextToken_337 : decode cX5_nextToken 337 = .ok (.return_, 1) := by decide +kernel
theorem dX5_wordOf_0 : decode cX5_wordOf 0 = .ok (.iconst (-1), 1) := by decide +kernel
theorem dX5_wordOf_1 : decode cX5_wordOf 1 = .ok (.istore_n 2, 1) := by decide +kernel
theorem dX5_wordOf_2 : decode cX5_wordOf 2 = .ok (.iconst 0, 1) := by decide +kernel
theorem dX5_wordOf_3 : decode cX5_wordOf 3 = .ok (.istore_n 3, 1) := by decide +kernel
theorem dX5_wordOf_4 : decode cX5_wordOf 4 = .ok (.iload_n 3, 1) := by decide +kernel
theorem dX5_wordOf_5 : decode cX5_wordOf 5 = .ok (.aload_n 1, 1) := by decide +kernel
theorem dX5_wordOf_6 : decode cX5_wordOf 6 = .ok (.arraylength, 1) := by decide +kernel
theorem dX5_wordOf_7 : decode cX5_wordOf 7 = .ok (.bipush 9, 2) := by decide +kernel
theorem dX5_wordOf_9 : decode cX5_wordOf 9 = .ok (.idiv, 1) := by decide +kernel
theorem dX5_wordOf_10 : decode cX5_wordOf 10 = .ok (.if_icmp .ge 94, 3) := by decide +kernel
theorem dX5_wordOf_13 : decode cX5_wordOf 13 = .ok (.aload_n 0, 1) := by decide +kernel
theorem dX5_wordOf_14 : decode cX5_wordOf 14 = .ok (.getfield 179, 3) := by decide +kernel
theorem dX5_wordOf_17 : decode cX5_wordOf 17 = .ok (.iconst 1, 1) := by decide +kernel
theorem dX5_wordOf_18 : decode cX5_wordOf 18 = .ok (.if_icmp .ne 86, 3) := by decide +kernel
theorem dX5_wordOf_21 : decode cX5_wordOf 21 = .ok (.lconst 0, 1) := by decide +kernel
theorem dX5_wordOf_22 : decode cX5_wordOf 22 = .ok (.lstore 4, 2) := by decide +kernel
theorem dX5_wordOf_24 : decode cX5_wordOf 24 = .ok (.iconst 0, 1) := by decide +kernel
theorem dX5_wordOf_25 : decode cX5_wordOf 25 = .ok (.istore 6, 2) := by decide +kernel
theorem dX5_wordOf_27 : decode cX5_wordOf 27 = .ok (.iload 6, 2) := by decide +kernel
theorem dX5_wordOf_29 : decode cX5_wordOf 29 = .ok (.bipush 9, 2) := by decide +kernel
theorem dX5_wordOf_31 : decode cX5_wordOf 31 = .ok (.if_icmp .ge 51, 3) := by decide +kernel
theorem dX5_wordOf_34 : decode cX5_wordOf 34 = .ok (.aload_n 1, 1) := by decide +kernel
theorem dX5_wordOf_35 : decode cX5_wordOf 35 = .ok (.bipush 9, 2) := by decide +kernel
theorem dX5_wordOf_37 : decode cX5_wordOf 37 = .ok (.iload_n 3, 1) := by decide +kernel
theorem dX5_wordOf_38 : decode cX5_wordOf 38 = .ok (.imul, 1) := by decide +kernel
theorem dX5_wordOf_39 : decode cX5_wordOf 39 = .ok (.iload 6, 2) := by decide +kernel
theorem dX5_wordOf_41 : decode cX5_wordOf 41 = .ok (.iadd, 1) := by decide +kernel
theorem dX5_wordOf_42 : decode cX5_wordOf 42 = .ok (.caload, 1) := by decide +kernel
theorem dX5_wordOf_43 : decode cX5_wordOf 43 = .ok (.bipush 32, 2) := by decide +kernel
theorem dX5_wordOf_45 : decode cX5_wordOf 45 = .ok (.if_icmp .ne 8, 3) := by decide +kernel
theorem dX5_wordOf_48 : decode cX5_wordOf 48 = .ok (.lload 4, 2) := by decide +kernel
theorem dX5_wordOf_50 : decode cX5_wordOf 50 = .ok (.goto 24, 3) := by decide +kernel
theorem dX5_wordOf_53 : decode cX5_wordOf 53 = .ok (.lload 4, 2) := by decide +kernel
theorem dX5_wordOf_55 : decode cX5_wordOf 55 = .ok (.ldc2_w 187, 3) := by decide +kernel
theorem dX5_wordOf_58 : decode cX5_wordOf 58 = .ok (.lmul, 1) := by decide +kernel
theorem dX5_wordOf_59 : decode cX5_wordOf 59 = .ok (.aload_n 1, 1) := by decide +kernel
theorem dX5_wordOf_60 : decode cX5_wordOf 60 = .ok (.bipush 9, 2) := by decide +kernel
theorem dX5_wordOf_62 : decode cX5_wordOf 62 = .ok (.iload_n 3, 1) := by decide +kernel
theorem dX5_wordOf_63 : decode cX5_wordOf 63 = .ok (.imul, 1) := by decide +kernel
theorem dX5_wordOf_64 : decode cX5_wordOf 64 = .ok (.iload 6, 2) := by decide +kernel
theorem dX5_wordOf_66 : decode cX5_wordOf 66 = .ok (.iadd, 1) := by decide +kernel
theorem dX5_wordOf_67 : decode cX5_wordOf 67 = .ok (.caload, 1) := by decide +kernel
theorem dX5_wordOf_68 : decode cX5_wordOf 68 = .ok (.i2l, 1) := by decide +kernel
theorem dX5_wordOf_69 : decode cX5_wordOf 69 = .ok (.ladd, 1) := by decide +kernel
theorem dX5_wordOf_70 : decode cX5_wordOf 70 = .ok (.ldc2_w 189, 3) := by decide +kernel
theorem dX5_wordOf_73 : decode cX5_wordOf 73 = .ok (.lsub, 1) := by decide +kernel
theorem dX5_wordOf_74 : decode cX5_wordOf 74 = .ok (.lstore 4, 2) := by decide +kernel
theorem dX5_wordOf_76 : decode cX5_wordOf 76 = .ok (.iinc 6 1, 3) := by decide +kernel
theorem dX5_wordOf_79 : decode cX5_wordOf 79 = .ok (.goto (-52), 3) := by decide +kernel
theorem dX5_wordOf_82 : decode cX5_wordOf 82 = .ok (.lload 4, 2) := by decide +kernel
theorem dX5_wordOf_84 : decode cX5_wordOf 84 = .ok (.aload_n 0, 1) := by decide +kernel
theorem dX5_wordOf_85 : decode cX5_wordOf 85 = .ok (.getfield 175, 3) := by decide +kernel
theorem dX5_wordOf_88 : decode cX5_wordOf 88 = .ok (.lcmp, 1) := by decide +kernel
theorem dX5_wordOf_89 : decode cX5_wordOf 89 = .ok (.ifCond .ne 7, 3) := by decide +kernel
theorem dX5_wordOf_92 : decode cX5_wordOf 92 = .ok (.iload_n 3, 1) := by decide +kernel
theorem dX5_wordOf_93 : decode cX5_wordOf 93 = .ok (.goto 4, 3) := by decide +kernel
theorem dX5_wordOf_96 : decode cX5_wordOf 96 = .ok (.iload_n 2, 1) := by decide +kernel
theorem dX5_wordOf_97 : decode cX5_wordOf 97 = .ok (.istore_n 2, 1) := by decide +kernel
theorem dX5_wordOf_98 : decode cX5_wordOf 98 = .ok (.iinc 3 1, 3) := by decide +kernel
theorem dX5_wordOf_101 : decode cX5_wordOf 101 = .ok (.goto (-97), 3) := by decide +kernel
theorem dX5_wordOf_104 : decode cX5_wordOf 104 = .ok (.iload_n 2, 1) := by decide +kernel
theorem dX5_wordOf_105 : decode cX5_wordOf 105 = .ok (.ireturn, 1) := by decide +kernel
theorem dX5_takesNumber_0 : decode cX5_takesNumber 0 = .ok (.aload_n 0, 1) := by decide +kernel
theorem dX5_takesNumber_1 : decode cX5_takesNumber 1 = .ok (.getfield 179, 3) := by decide +kernel
theorem dX5_takesNumber_4 : decode cX5_takesNumber 4 = .ok (.iconst 2, 1) := by decide +kernel
theorem dX5_takesNumber_5 : decode cX5_takesNumber 5 = .ok (.if_icmp .ne 24, 3) := by decide +kernel
theorem dX5_takesNumber_8 : decode cX5_takesNumber 8 = .ok (.aload_n 0, 1) := by decide +kernel
theorem dX5_takesNumber_9 : decode cX5_takesNumber 9 = .ok (.getfield 175, 3) := by decide +kernel
theorem dX5_takesNumber_12 : decode cX5_takesNumber 12 = .ok (.l2i, 1) := by decide +kernel
theorem dX5_takesNumber_13 : decode cX5_takesNumber 13 = .ok (.iload_n 1, 1) := by decide +kernel
theorem dX5_takesNumber_14 : decode cX5_takesNumber 14 = .ok (.iload_n 2, 1) := by decide +kernel
theorem dX5_takesNumber_15 : decode cX5_takesNumber 15 = .ok (.invokestatic 52, 3) := by decide +kernel
theorem dX5_takesNumber_18 : decode cX5_takesNumber 18 = .ok (.ifCond .eq 11, 3) := by decide +kernel
theorem dX5_takesNumber_21 : decode cX5_takesNumber 21 = .ok (.aload_n 0, 1) := by decide +kernel
theorem dX5_takesNumber_22 : decode cX5_takesNumber 22 = .ok (.getfield 175, 3) := by decide +kernel
theorem dX5_takesNumber_25 : decode cX5_takesNumber 25 = .ok (.l2i, 1) := by decide +kernel
theorem dX5_takesNumber_26 : decode cX5_takesNumber 26 = .ok (.goto 4, 3) := by decide +kernel
theorem dX5_takesNumber_29 : decode cX5_takesNumber 29 = .ok (.iconst (-1), 1) := by decide +kernel
theorem dX5_takesNumber_30 : decode cX5_takesNumber 30 = .ok (.istore_n 3, 1) := by decide +kernel
theorem dX5_takesNumber_31 : decode cX5_takesNumber 31 = .ok (.iload_n 3, 1) := by decide +kernel
theorem dX5_takesNumber_32 : decode cX5_takesNumber 32 = .ok (.ifCond .lt 7, 3) := by decide +kernel
theorem dX5_takesNumber_35 : decode cX5_takesNumber 35 = .ok (.aload_n 0, 1) := by decide +kernel
theorem dX5_takesNumber_36 : decode cX5_takesNumber 36 = .ok (.invokevirtual 200, 3) := by decide +kernel
theorem dX5_takesNumber_39 : decode cX5_takesNumber 39 = .ok (.iload_n 3, 1) := by decide +kernel
theorem dX5_takesNumber_40 : decode cX5_takesNumber 40 = .ok (.ireturn, 1) := by decide +kernel
theorem dX5_readsDriver_0 : decode cX5_readsDriver 0 = .ok (.aload_n 0, 1) := by decide +kernel
theorem dX5_readsDriver_1 : decode cX5_readsDriver 1 = .ok (.getfield 9, 3) := by decide +kernel
theorem dX5_readsDriver_4 : decode cX5_readsDriver 4 = .ok (.iconst 2, 1) := by decide +kernel
theorem dX5_readsDriver_5 : decode cX5_readsDriver 5 = .ok (.iaload, 1) := by decide +kernel
theorem dX5_readsDriver_6 : decode cX5_readsDriver 6 = .ok (.bipush 8, 2) := by decide +kernel
theorem dX5_readsDriver_8 : decode cX5_readsDriver 8 = .ok (.if_icmp .ne 5, 3) := by decide +kernel
theorem dX5_readsDriver_11 : decode cX5_readsDriver 11 = .ok (.iconst 0, 1) := by decide +kernel
theorem dX5_readsDriver_12 : decode cX5_readsDriver 12 = .ok (.ireturn, 1) := by decide +kernel
theorem dX5_readsDriver_13 : decode cX5_readsDriver 13 = .ok (.aload_n 0, 1) := by decide +kernel
theorem dX5_readsDriver_14 : decode cX5_readsDriver 14 = .ok (.getfield 9, 3) := by decide +kernel
theorem dX5_readsDriver_17 : decode cX5_readsDriver 17 = .ok (.iconst 2, 1) := by decide +kernel
theorem dX5_readsDriver_18 : decode cX5_readsDriver 18 = .ok (.iaload, 1) := by decide +kernel
theorem dX5_readsDriver_19 : decode cX5_readsDriver 19 = .ok (.istore_n 2, 1) := by decide +kernel
theorem dX5_readsDriver_20 : decode cX5_readsDriver 20 = .ok (.aload_n 0, 1) := by decide +kernel
theorem dX5_readsDriver_21 : decode cX5_readsDriver 21 = .ok (.iload_n 1, 1) := by decide +kernel
theorem dX5_readsDriver_22 : decode cX5_readsDriver 22 = .ok (.invokevirtual 137, 3) := by decide +kernel
theorem dX5_readsDriver_25 : decode cX5_readsDriver 25 = .ok (.aload_n 0, 1) := by decide +kernel
theorem dX5_readsDriver_26 : decode cX5_readsDriver 26 = .ok (.invokevirtual 200, 3) := by decide +kernel
theorem dX5_readsDriver_29 : decode cX5_readsDriver 29 = .ok (.iconst 0, 1) := by decide +kernel
theorem dX5_readsDriver_30 : decode cX5_readsDriver 30 = .ok (.istore_n 3, 1) := by decide +kernel
theorem dX5_readsDriver_31 : decode cX5_readsDriver 31 = .ok (.iload_n 3, 1) := by decide +kernel
theorem dX5_readsDriver_32 : decode cX5_readsDriver 32 = .ok (.iconst 2, 1) := by decide +kernel
theorem dX5_readsDriver_33 : decode cX5_readsDriver 33 = .ok (.if_icmp .ge 68, 3) := by decide +kernel
theorem dX5_readsDriver_36 : decode cX5_readsDriver 36 = .ok (.aload_n 0, 1) := by decide +kernel
theorem dX5_readsDriver_37 : decode cX5_readsDriver 37 = .ok (.aload_n 0, 1) := by decide +kernel
theorem dX5_readsDriver_38 : decode cX5_readsDriver 38 = .ok (.getfield 32, 3) := by decide +kernel
theorem dX5_readsDriver_41 : decode cX5_readsDriver 41 = .ok (.invokevirtual 203, 3) := by decide +kernel
theorem dX5_readsDriver_44 : decode cX5_readsDriver 44 = .ok (.iload_n 3, 1) := by decide +kernel
theorem dX5_readsDriver_45 : decode cX5_readsDriver 45 = .ok (.if_icmp .ne 50, 3) := by decide +kernel
theorem dX5_readsDriver_48 : decode cX5_readsDriver 48 = .ok (.aload_n 0, 1) := by decide +kernel
theorem dX5_readsDriver_49 : decode cX5_readsDriver 49 = .ok (.invokevirtual 200, 3) := by decide +kernel
theorem dX5_readsDriver_52 : decode cX5_readsDriver 52 = .ok (.aload_n 0, 1) := by decide +kernel
theorem dX5_readsDriver_53 : decode cX5_readsDriver 53 = .ok (.iload_n 3, 1) := by decide +kernel
theorem dX5_readsDriver_54 : decode cX5_readsDriver 54 = .ok (.ifCond .ne 8, 3) := by decide +kernel
theorem dX5_readsDriver_57 : decode cX5_readsDriver 57 = .ok (.bipush 10, 2) := by decide +kernel
theorem dX5_readsDriver_59 : decode cX5_readsDriver 59 = .ok (.goto 4, 3) := by decide +kernel
theorem dX5_readsDriver_62 : decode cX5_readsDriver 62 = .ok (.iconst 0, 1) := by decide +kernel
theorem dX5_readsDriver_63 : decode cX5_readsDriver 63 = .ok (.iload_n 3, 1) := by decide +kernel
theorem dX5_readsDriver_64 : decode cX5_readsDriver 64 = .ok (.ifCond .ne 8, 3) := by decide +kernel
theorem dX5_readsDriver_67 : decode cX5_readsDriver 67 = .ok (.bipush 80, 2) := by decide +kernel
theorem dX5_readsDriver_69 : decode cX5_readsDriver 69 = .ok (.goto 4, 3) := by decide +kernel
theorem dX5_readsDriver_72 : decode cX5_readsDriver 72 = .ok (.iconst 2, 1) := by decide +kernel
theorem dX5_readsDriver_73 : decode cX5_readsDriver 73 = .ok (.invokevirtual 207, 3) := by decide +kernel
theorem dX5_readsDriver_76 : decode cX5_readsDriver 76 = .ok (.istore 4, 2) := by decide +kernel
theorem dX5_readsDriver_78 : decode cX5_readsDriver 78 = .ok (.iload 4, 2) := by decide +kernel
theorem dX5_readsDriver_80 : decode cX5_readsDriver 80 = .ok (.ifCond .ge 5, 3) := by decide +kernel
theorem dX5_readsDriver_83 : decode cX5_readsDriver 83 = .ok (.iconst 0, 1) := by decide +kernel
theorem dX5_readsDriver_84 : decode cX5_readsDriver 84 = .ok (.ireturn, 1) := by decide +kernel
theorem dX5_readsDriver_85 : decode cX5_readsDriver 85 = .ok (.aload_n 0, 1) := by decide +kernel
theorem dX5_readsDriver_86 : decode cX5_readsDriver 86 = .ok (.iload_n 2, 1) := by decide +kernel
theorem dX5_readsDriver_87 : decode cX5_readsDriver 87 = .ok (.iconst 1, 1) := by decide +kernel
theorem dX5_readsDriver_88 : decode cX5_readsDriver 88 = .ok (.iload_n 3, 1) := by decide +kernel
theorem dX5_readsDriver_89 : decode cX5_readsDriver 89 = .ok (.iadd, 1) := by decide +kernel
theorem dX5_readsDriver_90 : decode cX5_readsDriver 90 = .ok (.iload 4, 2) := by decide +kernel
theorem dX5_readsDriver_92 : decode cX5_readsDriver 92 = .ok (.invokevirtual 105, 3) := by decide +kernel
theorem dX5_readsDriver_95 : decode cX5_readsDriver 95 = .ok (.iinc 3 1, 3) := by decide +kernel
theorem dX5_readsDriver_98 : decode cX5_readsDriver 98 = .ok (.goto (-67), 3) := by decide +kernel
theorem dX5_readsDriver_101 : decode cX5_readsDriver 101 = .ok (.iconst 1, 1) := by decide +kernel
theorem dX5_readsDriver_102 : decode cX5_readsDriver 102 = .ok (.ireturn, 1) := by decide +kernel
theorem dX5_readsThing_0 : decode cX5_readsThing 0 = .ok (.aload_n 0, 1) := by decide +kernel
theorem dX5_readsThing_1 : decode cX5_readsThing 1 = .ok (.iconst 0, 1) := by decide +kernel
theorem dX5_readsThing_2 : decode cX5_readsThing 2 = .ok (.iconst 2, 1) := by decide +kernel
theorem dX5_readsThing_3 : decode cX5_readsThing 3 = .ok (.invokevirtual 207, 3) := by decide +kernel
theorem dX5_readsThing_6 : decode cX5_readsThing 6 = .ok (.istore_n 2, 1) := by decide +kernel
theorem dX5_readsThing_7 : decode cX5_readsThing 7 = .ok (.iload_n 2, 1) := by decide +kernel
theorem dX5_readsThing_8 : decode cX5_readsThing 8 = .ok (.ifCond .ge 7, 3) := by decide +kernel
theorem dX5_readsThing_11 : decode cX5_readsThing 11 = .ok (.iconst (-1), 1) := by decide +kernel
theorem dX5_readsThing_12 : decode cX5_readsThing 12 = .ok (.goto 10, 3) := by decide +kernel
theorem dX5_readsThing_15 : decode cX5_readsThing 15 = .ok (.aload_n 0, 1) := by decide +kernel
theorem dX5_readsThing_16 : decode cX5_readsThing 16 = .ok (.iconst 0, 1) := by decide +kernel
theorem dX5_readsThing_17 : decode cX5_readsThing 17 = .ok (.bipush 19, 2) := by decide +kernel
theorem dX5_readsThing_19 : decode cX5_readsThing 19 = .ok (.invokevirtual 207, 3) := by decide +kernel
theorem dX5_readsThing_22 : decode cX5_readsThing 22 = .ok (.istore_n 3, 1) := by decide +kernel
theorem dX5_readsThing_23 : decode cX5_readsThing 23 = .ok (.iload_n 3, 1) := by decide +kernel
theorem dX5_readsThing_24 : decode cX5_readsThing 24 = .ok (.ifCond .lt 10, 3) := by decide +kernel
theorem dX5_readsThing_27 : decode cX5_readsThing 27 = .ok (.aload_n 0, 1) := by decide +kernel
theorem dX5_readsThing_28 : decode cX5_readsThing 28 = .ok (.iload_n 2, 1) := by decide +kernel
theorem dX5_readsThing_29 : decode cX5_readsThing 29 = .ok (.iload_n 3, 1) := by decide +kernel
theorem dX5_readsThing_30 : decode cX5_readsThing 30 = .ok (.iload_n 1, 1) := by decide +kernel
theorem dX5_readsThing_31 : decode cX5_readsThing 31 = .ok (.invokevirtual 121, 3) := by decide +kernel
theorem dX5_readsThing_34 : decode cX5_readsThing 34 = .ok (.iload_n 3, 1) := by decide +kernel
theorem dX5_readsThing_35 : decode cX5_readsThing 35 = .ok (.ifCond .lt 7, 3) := by decide +kernel
theorem dX5_readsThing_38 : decode cX5_readsThing 38 = .ok (.iconst 1, 1) := by decide +kernel
theorem dX5_readsThing_39 : decode cX5_readsThing 39 = .ok (.goto 4, 3) := by decide +kernel
theorem dX5_readsThing_42 : decode cX5_readsThing 42 = .ok (.iconst 0, 1) := by decide +kernel
theorem dX5_readsThing_43 : decode cX5_readsThing 43 = .ok (.ireturn, 1) := by decide +kernel
theorem dX5_readsItem_0 : decode cX5_readsItem 0 = .ok (.aload_n 0, 1) := by decide +kernel
theorem dX5_readsItem_1 : decode cX5_readsItem 1 = .ok (.aload_n 0, 1) := by decide +kernel
theorem dX5_readsItem_2 : decode cX5_readsItem 2 = .ok (.getfield 28, 3) := by decide +kernel
theorem dX5_readsItem_5 : decode cX5_readsItem 5 = .ok (.invokevirtual 203, 3) := by decide +kernel
theorem dX5_readsItem_8 : decode cX5_readsItem 8 = .ok (.istore_n 1, 1) := by decide +kernel
theorem dX5_readsItem_9 : decode cX5_readsItem 9 = .ok (.iload_n 1, 1) := by decide +kernel
theorem dX5_readsItem_10 : decode cX5_readsItem 10 = .ok (.ifCond .lt 9, 3) := by decide +kernel
theorem dX5_readsItem_13 : decode cX5_readsItem 13 = .ok (.aload_n 0, 1) := by decide +kernel
theorem dX5_readsItem_14 : decode cX5_readsItem 14 = .ok (.iload_n 1, 1) := by decide +kernel
theorem dX5_readsItem_15 : decode cX5_readsItem 15 = .ok (.invokevirtual 210, 3) := by decide +kernel
theorem dX5_readsItem_18 : decode cX5_readsItem 18 = .ok (.ireturn, 1) := by decide +kernel
theorem dX5_readsItem_19 : decode cX5_readsItem 19 = .ok (.aload_n 0, 1) := by decide +kernel
theorem dX5_readsItem_20 : decode cX5_readsItem 20 = .ok (.aload_n 0, 1) := by decide +kernel
theorem dX5_readsItem_21 : decode cX5_readsItem 21 = .ok (.getfield 35, 3) := by decide +kernel
theorem dX5_readsItem_24 : decode cX5_readsItem 24 = .ok (.invokevirtual 203, 3) := by decide +kernel
theorem dX5_readsItem_27 : decode cX5_readsItem 27 = .ok (.istore_n 2, 1) := by decide +kernel
theorem dX5_readsItem_28 : decode cX5_readsItem 28 = .ok (.iload_n 2, 1) := by decide +kernel
theorem dX5_readsItem_29 : decode cX5_readsItem 29 = .ok (.ifCond .ge 5, 3) := by decide +kernel
theorem dX5_readsItem_32 : decode cX5_readsItem 32 = .ok (.iconst 0, 1) := by decide +kernel
theorem dX5_readsItem_33 : decode cX5_readsItem 33 = .ok (.ireturn, 1) := by decide +kernel
theorem dX5_readsItem_34 : decode cX5_readsItem 34 = .ok (.aload_n 0, 1) := by decide +kernel
theorem dX5_readsItem_35 : decode cX5_readsItem 35 = .ok (.invokevirtual 200, 3) := by decide +kernel
theorem dX5_readsItem_38 : decode cX5_readsItem 38 = .ok (.iload_n 2, 1) := by decide +kernel
theorem dX5_readsItem_39 : decode cX5_readsItem 39 = .ok (.iconst 5, 1) := by decide +kernel
theorem dX5_readsItem_40 : decode cX5_readsItem 40 = .ok (.if_icmp .ge 9, 3) := by decide +kernel
theorem dX5_readsItem_43 : decode cX5_readsItem 43 = .ok (.aload_n 0, 1) := by decide +kernel
theorem dX5_readsItem_44 : decode cX5_readsItem 44 = .ok (.iload_n 2, 1) := by decide +kernel
theorem dX5_readsItem_45 : decode cX5_readsItem 45 = .ok (.invokevirtual 213, 3) := by decide +kernel
theorem dX5_readsItem_48 : decode cX5_readsItem 48 = .ok (.ireturn, 1) := by decide +kernel
theorem dX5_readsItem_49 : decode cX5_readsItem 49 = .ok (.aload_n 0, 1) := by decide +kernel
theorem dX5_readsItem_50 : decode cX5_readsItem 50 = .ok (.iconst 1, 1) := by decide +kernel
theorem dX5_readsItem_51 : decode cX5_readsItem 51 = .ok (.bipush 6, 2) := by decide +kernel
theorem dX5_readsItem_53 : decode cX5_readsItem 53 = .ok (.invokevirtual 207, 3) := by decide +kernel
theorem dX5_readsItem_56 : decode cX5_readsItem 56 = .ok (.istore_n 3, 1) := by decide +kernel
theorem dX5_readsItem_57 : decode cX5_readsItem 57 = .ok (.aload_n 0, 1) := by decide +kernel
theorem dX5_readsItem_58 : decode cX5_readsItem 58 = .ok (.getfield 9, 3) := by decide +kernel
theorem dX5_readsItem_61 : decode cX5_readsItem 61 = .ok (.iconst 1, 1) := by decide +kernel
theorem dX5_readsItem_62 : decode cX5_readsItem 62 = .ok (.iload_n 3, 1) := by decide +kernel
theorem dX5_readsItem_63 : decode cX5_readsItem 63 = .ok (.ifCond .ge 12, 3) := by decide +kernel
theorem dX5_readsItem_66 : decode cX5_readsItem 66 = .ok (.aload_n 0, 1) := by decide +kernel
theorem dX5_readsItem_67 : decode cX5_readsItem 67 = .ok (.getfield 9, 3) := by decide +kernel
theorem dX5_readsItem_70 : decode cX5_readsItem 70 = .ok (.iconst 1, 1) := by decide +kernel
theorem dX5_readsItem_71 : decode cX5_readsItem 71 = .ok (.iaload, 1) := by decide +kernel
theorem dX5_readsItem_72 : decode cX5_readsItem 72 = .ok (.goto 4, 3) := by decide +kernel
theorem dX5_readsItem_75 : decode cX5_readsItem 75 = .ok (.iload_n 3, 1) := by decide +kernel
theorem dX5_readsItem_76 : decode cX5_readsItem 76 = .ok (.iastore, 1) := by decide +kernel
theorem dX5_readsItem_77 : decode cX5_readsItem 77 = .ok (.iload_n 3, 1) := by decide +kernel
theorem dX5_readsItem_78 : decode cX5_readsItem 78 = .ok (.ifCond .lt 7, 3) := by decide +kernel
theorem dX5_readsItem_81 : decode cX5_readsItem 81 = .ok (.iconst 1, 1) := by decide +kernel
theorem dX5_readsItem_82 : decode cX5_readsItem 82 = .ok (.goto 4, 3) := by decide +kernel
theorem dX5_readsItem_85 : decode cX5_readsItem 85 = .ok (.iconst 0, 1) := by decide +kernel
theorem dX5_readsItem_86 : decode cX5_readsItem 86 = .ok (.ireturn, 1) := by decide +kernel
theorem dX5_town_0 : decode cX5_town 0 = .ok (.aload_n 0, 1) := by decide +kernel
theorem dX5_town_1 : decode cX5_town 1 = .ok (.invokevirtual 153, 3) := by decide +kernel
theorem dX5_town_4 : decode cX5_town 4 = .ok (.aload_n 0, 1) := by decide +kernel
theorem dX5_town_5 : decode cX5_town 5 = .ok (.iconst 0, 1) := by decide +kernel
theorem dX5_town_6 : decode cX5_town 6 = .ok (.putfield 169, 3) := by decide +kernel
theorem dX5_town_9 : decode cX5_town 9 = .ok (.aload_n 0, 1) := by decide +kernel
theorem dX5_town_10 : decode cX5_town 10 = .ok (.invokevirtual 200, 3) := by decide +kernel
theorem dX5_town_13 : decode cX5_town 13 = .ok (.iconst 1, 1) := by decide +kernel
theorem dX5_town_14 : decode cX5_town 14 = .ok (.istore_n 1, 1) := by decide +kernel
theorem dX5_town_15 : decode cX5_town 15 = .ok (.aload_n 0, 1) := by decide +kernel
theorem dX5_town_16 : decode cX5_town 16 = .ok (.invokevirtual 216, 3) := by decide +kernel
theorem dX5_town_19 : decode cX5_town 19 = .ok (.istore_n 2, 1) := by decide +kernel
theorem dX5_town_20 : decode cX5_town 20 = .ok (.iload_n 2, 1) := by decide +kernel
theorem dX5_town_21 : decode cX5_town 21 = .ok (.ifCond .eq 26, 3) := by decide +kernel
theorem dX5_town_24 : decode cX5_town 24 = .ok (.aload_n 0, 1) := by decide +kernel
theorem dX5_town_25 : decode cX5_town 25 = .ok (.getfield 179, 3) := by decide +kernel
theorem dX5_town_28 : decode cX5_town 28 = .ok (.iconst 3, 1) := by decide +kernel
theorem dX5_town_29 : decode cX5_town 29 = .ok (.if_icmp .ne 18, 3) := by decide +kernel
theorem dX5_town_32 : decode cX5_town 32 = .ok (.aload_n 0, 1) := by decide +kernel
theorem dX5_town_33 : decode cX5_town 33 = .ok (.invokevirtual 200, 3) := by decide +kernel
theorem dX5_town_36 : decode cX5_town 36 = .ok (.aload_n 0, 1) := by decide +kernel
theorem dX5_town_37 : decode cX5_town 37 = .ok (.invokevirtual 216, 3) := by decide +kernel
theorem dX5_town_40 : decode cX5_town 40 = .ok (.istore_n 2, 1) := by decide +kernel
theorem dX5_town_41 : decode cX5_town 41 = .ok (.iinc 1 1, 3) := by decide +kernel
theorem dX5_town_44 : decode cX5_town 44 = .ok (.goto (-24), 3) := by decide +kernel
theorem dX5_town_47 : decode cX5_town 47 = .ok (.iload_n 2, 1) := by decide +kernel
theorem dX5_town_48 : decode cX5_town 48 = .ok (.ifCond .eq 14, 3) := by decide +kernel
theorem dX5_town_51 : decode cX5_town 51 = .ok (.aload_n 0, 1) := by decide +kernel
theorem dX5_town_52 : decode cX5_town 52 = .ok (.getfield 179, 3) := by decide +kernel
theorem dX5_town_55 : decode cX5_town 55 = .ok (.ifCond .ne 7, 3) := by decide +kernel
theorem dX5_town_58 : decode cX5_town 58 = .ok (.iconst 1, 1) := by decide +kernel
theorem dX5_town_59 : decode cX5_town 59 = .ok (.goto 4, 3) := by decide +kernel
theorem dX5_town_62 : decode cX5_town 62 = .ok (.iconst 0, 1) := by decide +kernel
theorem dX5_town_63 : decode cX5_town 63 = .ok (.istore_n 2, 1) := by decide +kernel
theorem dX5_town_64 : decode cX5_town 64 = .ok (.aload_n 0, 1) := by decide +kernel
theorem dX5_town_65 : decode cX5_town 65 = .ok (.iconst 0, 1) := by decide +kernel
theorem dX5_town_66 : decode cX5_town 66 = .ok (.putfield 166, 3) := by decide +kernel
theorem dX5_town_69 : decode cX5_town 69 = .ok (.iload_n 2, 1) := by decide +kernel
theorem dX5_town_70 : decode cX5_town 70 = .ok (.ifCond .ne 14, 3) := by decide +kernel
theorem dX5_town_73 : decode cX5_town 73 = .ok (.aload_n 0, 1) := by decide +kernel
theorem dX5_town_74 : decode cX5_town 74 = .ok (.invokevirtual 156, 3) := by decide +kernel
theorem dX5_town_77 : decode cX5_town 77 = .ok (.iconst (-1), 1) := by decide +kernel
theorem dX5_town_78 : decode cX5_town 78 = .ok (.aload_n 0, 1) := by decide +kernel
theorem dX5_town_79 : decode cX5_town 79 = .ok (.getfield 172, 3) := by decide +kernel
theorem dX5_town_82 : decode cX5_town 82 = .ok (.isub, 1) := by decide +kernel
theorem dX5_town_83 : decode cX5_town 83 = .ok (.ireturn, 1) := by decide +kernel
theorem dX5_town_84 : decode cX5_town 84 = .ok (.iload_n 1, 1) := by decide +kernel
theorem dX5_town_85 : decode cX5_town 85 = .ok (.ireturn, 1) := by decide +kernel
theorem dX5_isSheet_0 : decode cX5_isSheet 0 = .ok (.iload_n 0, 1) := by decide +kernel
theorem dX5_isSheet_1 : decode cX5_isSheet 1 = .ok (.iconst 0, 1) := by decide +kernel
theorem dX5_isSheet_2 : decode cX5_isSheet 2 = .ok (.iconst 3, 1) := by decide +kernel
theorem dX5_isSheet_3 : decode cX5_isSheet 3 = .ok (.invokestatic 52, 3) := by decide +kernel
theorem dX5_isSheet_6 : decode cX5_isSheet 6 = .ok (.ireturn, 1) := by decide +kernel
theorem dX5_wrongSheet_0 : decode cX5_wrongSheet 0 = .ok (.iload_n 1, 1) := by decide +kernel
theorem dX5_wrongSheet_1 : decode cX5_wrongSheet 1 = .ok (.invokestatic 220, 3) := by decide +kernel
theorem dX5_wrongSheet_4 : decode cX5_wrongSheet 4 = .ok (.ifCond .ne 7, 3) := by decide +kernel
theorem dX5_wrongSheet_7 : decode cX5_wrongSheet 7 = .ok (.iconst 0, 1) := by decide +kernel
theorem dX5_wrongSheet_8 : decode cX5_wrongSheet 8 = .ok (.goto 17, 3) := by decide +kernel
theorem dX5_wrongSheet_11 : decode cX5_wrongSheet 11 = .ok (.aload_n 0, 1) := by decide +kernel
theorem dX5_wrongSheet_12 : decode cX5_wrongSheet 12 = .ok (.getfield 38, 3) := by decide +kernel
theorem dX5_wrongSheet_15 : decode cX5_wrongSheet 15 = .ok (.iload_n 1, 1) := by decide +kernel
theorem dX5_wrongSheet_16 : decode cX5_wrongSheet 16 = .ok (.iaload, 1) := by decide +kernel
theorem dX5_wrongSheet_17 : decode cX5_wrongSheet 17 = .ok (.ifCond .ne 7, 3) := by decide +kernel
theorem dX5_wrongSheet_20 : decode cX5_wrongSheet 20 = .ok (.iconst 5, 1) := by decide +kernel
theorem dX5_wrongSheet_21 : decode cX5_wrongSheet 21 = .ok (.goto 4, 3) := by decide +kernel
theorem dX5_wrongSheet_24 : decode cX5_wrongSheet 24 = .ok (.iconst (-1), 1) := by decide +kernel
theorem dX5_wrongSheet_25 : decode cX5_wrongSheet 25 = .ok (.ireturn, 1) := by decide +kernel
theorem dX5_told_0 : decode cX5_told 0 = .ok (.aload_n 0, 1) := by decide +kernel
theorem dX5_told_1 : decode cX5_told 1 = .ok (.getfield 44, 3) := by decide +kernel
theorem dX5_told_4 : decode cX5_told 4 = .ok (.bipush 40, 2) := by decide +kernel
theorem dX5_told_6 : decode cX5_told 6 = .ok (.iload_n 1, 1) := by decide +kernel
theorem dX5_told_7 : decode cX5_told 7 = .ok (.imul, 1) := by decide +kernel
theorem dX5_told_8 : decode cX5_told 8 = .ok (.iload_n 2, 1) := by decide +kernel
theorem dX5_told_9 : decode cX5_told 9 = .ok (.iadd, 1) := by decide +kernel
theorem dX5_told_10 : decode cX5_told 10 = .ok (.laload, 1) := by decide +kernel
theorem dX5_told_11 : decode cX5_told 11 = .ok (.lreturn, 1) := by decide +kernel
theorem dX5_tells_0 : decode cX5_tells 0 = .ok (.aload_n 0, 1) := by decide +kernel
theorem dX5_tells_1 : decode cX5_tells 1 = .ok (.getfield 44, 3) := by decide +kernel
theorem dX5_tells_4 : decode cX5_tells 4 = .ok (.bipush 40, 2) := by decide +kernel
theorem dX5_tells_6 : decode cX5_tells 6 = .ok (.iload_n 1, 1) := by decide +kernel
theorem dX5_tells_7 : decode cX5_tells 7 = .ok (.imul, 1) := by decide +kernel
theorem dX5_tells_8 : decode cX5_tells 8 = .ok (.iload_n 2, 1) := by decide +kernel
theorem dX5_tells_9 : decode cX5_tells 9 = .ok (.iadd, 1) := by decide +kernel
theorem dX5_tells_10 : decode cX5_tells 10 = .ok (.aload_n 0, 1) := by decide +kernel
theorem dX5_tells_11 : decode cX5_tells 11 = .ok (.getfield 38, 3) := by decide +kernel
theorem dX5_tells_14 : decode cX5_tells 14 = .ok (.iload_n 1, 1) := by decide +kernel
theorem dX5_tells_15 : decode cX5_tells 15 = .ok (.iaload, 1) := by decide +kernel
theorem dX5_tells_16 : decode cX5_tells 16 = .ok (.bipush 8, 2) := by decide +kernel
theorem dX5_tells_18 : decode cX5_tells 18 = .ok (.if_icmp .ne 10, 3) := by decide +kernel
theorem dX5_tells_21 : decode cX5_tells 21 = .ok (.lload_n 3, 1) := by decide +kernel
theorem dX5_tells_22 : decode cX5_tells 22 = .ok (.l2i, 1) := by decide +kernel
theorem dX5_tells_23 : decode cX5_tells 23 = .ok (.i2b, 1) := by decide +kernel
theorem dX5_tells_24 : decode cX5_tells 24 = .ok (.i2l, 1) := by decide +kernel
theorem dX5_tells_25 : decode cX5_tells 25 = .ok (.goto 22, 3) := by decide +kernel
theorem dX5_tells_28 : decode cX5_tells 28 = .ok (.aload_n 0, 1) := by decide +kernel
theorem dX5_tells_29 : decode cX5_tells 29 = .ok (.getfield 38, 3) := by decide +kernel
theorem dX5_tells_32 : decode cX5_tells 32 = .ok (.iload_n 1, 1) := by decide +kernel
theorem dX5_tells_33 : decode cX5_tells 33 = .ok (.iaload, 1) := by decide +kernel
theorem dX5_tells_34 : decode cX5_tells 34 = .ok (.bipush 16, 2) := by decide +kernel
theorem dX5_tells_36 : decode cX5_tells 36 = .ok (.if_icmp .ne 10, 3) := by decide +kernel
theorem dX5_tells_39 : decode cX5_tells 39 = .ok (.lload_n 3, 1) := by decide +kernel
theorem dX5_tells_40 : decode cX5_tells 40 = .ok (.l2i, 1) := by decide +kernel
theorem dX5_tells_41 : decode cX5_tells 41 = .ok (.i2s, 1) := by decide +kernel
theorem dX5_tells_42 : decode cX5_tells 42 = .ok (.i2l, 1) := by decide +kernel
theorem dX5_tells_43 : decode cX5_tells 43 = .ok (.goto 4, 3) := by decide +kernel
theorem dX5_tells_46 : decode cX5_tells 46 = .ok (.lload_n 3, 1) := by decide +kernel
theorem dX5_tells_47 : decode cX5_tells 47 = .ok (.lastore, 1) := by decide +kernel
theorem dX5_tells_48 : decode cX5_tells 48 = .ok (.return_, 1) := by decide +kernel
theorem dX5_sheet_0 : decode cX5_sheet 0 = .ok (.iload_n 1, 1) := by decide +kernel
theorem dX5_sheet_1 : decode cX5_sheet 1 = .ok (.invokestatic 220, 3) := by decide +kernel
theorem dX5_sheet_4 : decode cX5_sheet 4 = .ok (.ifCond .eq 25, 3) := by decide +kernel
theorem dX5_sheet_7 : decode cX5_sheet 7 = .ok (.iload_n 2, 1) := by decide +kernel
theorem dX5_sheet_8 : decode cX5_sheet 8 = .ok (.ifCond .eq 27, 3) := by decide +kernel
theorem dX5_sheet_11 : decode cX5_sheet 11 = .ok (.iload_n 2, 1) := by decide +kernel
theorem dX5_sheet_12 : decode cX5_sheet 12 = .ok (.bipush 8, 2) := by decide +kernel
theorem dX5_sheet_14 : decode cX5_sheet 14 = .ok (.if_icmp .eq 21, 3) := by decide +kernel
theorem dX5_sheet_17 : decode cX5_sheet 17 = .ok (.iload_n 2, 1) := by decide +kernel
theorem dX5_sheet_18 : decode cX5_sheet 18 = .ok (.bipush 16, 2) := by decide +kernel
theorem dX5_sheet_20 : decode cX5_sheet 20 = .ok (.if_icmp .eq 15, 3) := by decide +kernel
theorem dX5_sheet_23 : decode cX5_sheet 23 = .ok (.iload_n 2, 1) := by decide +kernel
theorem dX5_sheet_24 : decode cX5_sheet 24 = .ok (.bipush 64, 2) := by decide +kernel
theorem dX5_sheet_26 : decode cX5_sheet 26 = .ok (.if_icmp .eq 9, 3) := by decide +kernel
theorem dX5_sheet_29 : decode cX5_sheet 29 = .ok (.aload_n 0, 1) := by decide +kernel
theorem dX5_sheet_30 : decode cX5_sheet 30 = .ok (.iconst 0, 1) := by decide +kernel
theorem dX5_sheet_31 : decode cX5_sheet 31 = .ok (.invokevirtual 118, 3) := by decide +kernel
theorem dX5_sheet_34 : decode cX5_sheet 34 = .ok (.ireturn, 1) := by decide +kernel
theorem dX5_sheet_35 : decode cX5_sheet 35 = .ok (.iload_n 3, 1) := by decide +kernel
theorem dX5_sheet_36 : decode cX5_sheet 36 = .ok (.ifCond .ge 10, 3) := by decide +kernel
theorem dX5_sheet_39 : decode cX5_sheet 39 = .ok (.aload_n 0, 1) := by decide +kernel
theorem dX5_sheet_40 : decode cX5_sheet 40 = .ok (.bipush 6, 2) := by decide +kernel
theorem dX5_sheet_42 : decode cX5_sheet 42 = .ok (.invokevirtual 118, 3) := by decide +kernel
theorem dX5_sheet_45 : decode cX5_sheet 45 = .ok (.ireturn, 1) := by decide +kernel
theorem dX5_sheet_46 : decode cX5_sheet 46 = .ok (.iload_n 3, 1) := by decide +kernel
theorem dX5_sheet_47 : decode cX5_sheet 47 = .ok (.bipush 40, 2) := by decide +kernel
theorem dX5_sheet_49 : decode cX5_sheet 49 = .ok (.if_icmp .le 9, 3) := by decide +kernel
theorem dX5_sheet_52 : decode cX5_sheet 52 = .ok (.aload_n 0, 1) := by decide +kernel
theorem dX5_sheet_53 : decode cX5_sheet 53 = .ok (.iconst 0, 1) := by decide +kernel
theorem dX5_sheet_54 : decode cX5_sheet 54 = .ok (.invokevirtual 118, 3) := by decide +kernel
theorem dX5_sheet_57 : decode cX5_sheet 57 = .ok (.ireturn, 1) := by decide +kernel
theorem dX5_sheet_58 : decode cX5_sheet 58 = .ok (.aload_n 0, 1) := by decide +kernel
theorem dX5_sheet_59 : decode cX5_sheet 59 = .ok (.getfield 38, 3) := by decide +kernel
theorem dX5_sheet_62 : decode cX5_sheet 62 = .ok (.iload_n 1, 1) := by decide +kernel
theorem dX5_sheet_63 : decode cX5_sheet 63 = .ok (.iload_n 2, 1) := by decide +kernel
theorem dX5_sheet_64 : decode cX5_sheet 64 = .ok (.iastore, 1) := by decide +kernel
theorem dX5_sheet_65 : decode cX5_sheet 65 = .ok (.aload_n 0, 1) := by decide +kernel
theorem dX5_sheet_66 : decode cX5_sheet 66 = .ok (.getfield 41, 3) := by decide +kernel
theorem dX5_sheet_69 : decode cX5_sheet 69 = .ok (.iload_n 1, 1) := by decide +kernel
theorem dX5_sheet_70 : decode cX5_sheet 70 = .ok (.iload_n 2, 1) := by decide +kernel
theorem dX5_sheet_71 : decode cX5_sheet 71 = .ok (.ifCond .ne 7, 3) := by decide +kernel
theorem dX5_sheet_74 : decode cX5_sheet 74 = .ok (.iconst 0, 1) := by decide +kernel
theorem dX5_sheet_75 : decode cX5_sheet 75 = .ok (.goto 4, 3) := by decide +kernel
theorem dX5_sheet_78 : decode cX5_sheet 78 = .ok (.iload_n 3, 1) := by decide +kernel
theorem dX5_sheet_79 : decode cX5_sheet 79 = .ok (.iastore, 1) := by decide +kernel
theorem dX5_sheet_80 : decode cX5_sheet 80 = .ok (.iconst 0, 1) := by decide +kernel
theorem dX5_sheet_81 : decode cX5_sheet 81 = .ok (.istore 4, 2) := by decide +kernel
theorem dX5_sheet_83 : decode cX5_sheet 83 = .ok (.iload 4, 2) := by decide +kernel
theorem dX5_sheet_85 : decode cX5_sheet 85 = .ok (.bipush 40, 2) := by decide +kernel
theorem dX5_sheet_87 : decode cX5_sheet 87 = .ok (.if_icmp .ge 22, 3) := by decide +kernel
theorem dX5_sheet_90 : decode cX5_sheet 90 = .ok (.aload_n 0, 1) := by decide +kernel
theorem dX5_sheet_91 : decode cX5_sheet 91 = .ok (.getfield 44, 3) := by decide +kernel
theorem dX5_sheet_94 : decode cX5_sheet 94 = .ok (.bipush 40, 2) := by decide +kernel
theorem dX5_sheet_96 : decode cX5_sheet 96 = .ok (.iload_n 1, 1) := by decide +kernel
theorem dX5_sheet_97 : decode cX5_sheet 97 = .ok (.imul, 1) := by decide +kernel
theorem dX5_sheet_98 : decode cX5_sheet 98 = .ok (.iload 4, 2) := by decide +kernel
theorem dX5_sheet_100 : decode cX5_sheet 100 = .ok (.iadd, 1) := by decide +kernel
theorem dX5_sheet_101 : decode cX5_sheet 101 = .ok (.lconst 0, 1) := by decide +kernel
theorem dX5_sheet_102 : decode cX5_sheet 102 = .ok (.lastore, 1) := by decide +kernel
theorem dX5_sheet_103 : decode cX5_sheet 103 = .ok (.iinc 4 1, 3) := by decide +kernel
theorem dX5_sheet_106 : decode cX5_sheet 106 = .ok (.goto (-23), 3) := by decide +kernel
theorem dX5_sheet_109 : decode cX5_sheet 109 = .ok (.aload_n 0, 1) := by decide +kernel
theorem dX5_sheet_110 : decode cX5_sheet 110 = .ok (.getfield 41, 3) := by decide +kernel
theorem dX5_sheet_113 : decode cX5_sheet 113 = .ok (.iload_n 1, 1) := by decide +kernel
theorem dX5_sheet_114 : decode cX5_sheet 114 = .ok (.iaload, 1) := by decide +kernel
theorem dX5_sheet_115 : decode cX5_sheet 115 = .ok (.ireturn, 1) := by decide +kernel
theorem dX5_write_0 : decode cX5_write 0 = .ok (.aload_n 0, 1) := by decide +kernel
theorem dX5_write_1 : decode cX5_write 1 = .ok (.iload_n 1, 1) := by decide +kernel
theorem dX5_write_2 : decode cX5_write 2 = .ok (.invokevirtual 223, 3) := by decide +kernel
theorem dX5_write_5 : decode cX5_write 5 = .ok (.istore 5, 2) := by decide +kernel
theorem dX5_write_7 : decode cX5_write 7 = .ok (.iload 5, 2) := by decide +kernel
theorem dX5_write_9 : decode cX5_write 9 = .ok (.ifCond .ge 22, 3) := by decide +kernel
theorem dX5_write_12 : decode cX5_write 12 = .ok (.iload_n 2, 1) := by decide +kernel
theorem dX5_write_13 : decode cX5_write 13 = .ok (.iconst 0, 1) := by decide +kernel
theorem dX5_write_14 : decode cX5_write 14 = .ok (.aload_n 0, 1) := by decide +kernel
theorem dX5_write_15 : decode cX5_write 15 = .ok (.getfield 41, 3) := by decide +kernel
theorem dX5_write_18 : decode cX5_write 18 = .ok (.iload_n 1, 1) := by decide +kernel
theorem dX5_write_19 : decode cX5_write 19 = .ok (.iaload, 1) := by decide +kernel
theorem dX5_write_20 : decode cX5_write 20 = .ok (.iconst 1, 1) := by decide +kernel
theorem dX5_write_21 : decode cX5_write 21 = .ok (.isub, 1) := by decide +kernel
theorem dX5_write_22 : decode cX5_write 22 = .ok (.invokestatic 52, 3) := by decide +kernel
theorem dX5_write_25 : decode cX5_write 25 = .ok (.ifCond .ne 6, 3) := by decide +kernel
theorem dX5_write_28 : decode cX5_write 28 = .ok (.iconst 0, 1) := by decide +kernel
theorem dX5_write_29 : decode cX5_write 29 = .ok (.istore 5, 2) := by decide +kernel
theorem dX5_write_31 : decode cX5_write 31 = .ok (.iload 5, 2) := by decide +kernel
theorem dX5_write_33 : decode cX5_write 33 = .ok (.ifCond .lt 11, 3) := by decide +kernel
theorem dX5_write_36 : decode cX5_write 36 = .ok (.aload_n 0, 1) := by decide +kernel
theorem dX5_write_37 : decode cX5_write 37 = .ok (.iload 5, 2) := by decide +kernel
theorem dX5_write_39 : decode cX5_write 39 = .ok (.invokevirtual 118, 3) := by decide +kernel
theorem dX5_write_42 : decode cX5_write 42 = .ok (.i2l, 1) := by decide +kernel
theorem dX5_write_43 : decode cX5_write 43 = .ok (.lreturn, 1) := by decide +kernel
theorem dX5_write_44 : decode cX5_write 44 = .ok (.aload_n 0, 1) := by decide +kernel
theorem dX5_write_45 : decode cX5_write 45 = .ok (.iload_n 1, 1) := by decide +kernel
theorem dX5_write_46 : decode cX5_write 46 = .ok (.iload_n 2, 1) := by decide +kernel
theorem dX5_write_47 : decode cX5_write 47 = .ok (.invokevirtual 226, 3) := by decide +kernel
theorem dX5_write_50 : decode cX5_write 50 = .ok (.lstore 6, 2) := by decide +kernel
theorem dX5_write_52 : decode cX5_write 52 = .ok (.aload_n 0, 1) := by decide +kernel
theorem dX5_write_53 : decode cX5_write 53 = .ok (.iload_n 1, 1) := by decide +kernel
theorem dX5_write_54 : decode cX5_write 54 = .ok (.iload_n 2, 1) := by decide +kernel
theorem dX5_write_55 : decode cX5_write 55 = .ok (.lload_n 3, 1) := by decide +kernel
theorem dX5_write_56 : decode cX5_write 56 = .ok (.invokevirtual 230, 3) := by decide +kernel
theorem dX5_write_59 : decode cX5_write 59 = .ok (.lload 6, 2) := by decide +kernel
theorem dX5_write_61 : decode cX5_write 61 = .ok (.lreturn, 1) := by decide +kernel
theorem dX5_copy_0 : decode cX5_copy 0 = .ok (.iload_n 1, 1) := by decide +kernel
theorem dX5_copy_1 : decode cX5_copy 1 = .ok (.invokestatic 220, 3) := by decide +kernel
theorem dX5_copy_4 : decode cX5_copy 4 = .ok (.ifCond .eq 10, 3) := by decide +kernel
theorem dX5_copy_7 : decode cX5_copy 7 = .ok (.iload_n 3, 1) := by decide +kernel
theorem dX5_copy_8 : decode cX5_copy 8 = .ok (.invokestatic 220, 3) := by decide +kernel
theorem dX5_copy_11 : decode cX5_copy 11 = .ok (.ifCond .ne 9, 3) := by decide +kernel
theorem dX5_copy_14 : decode cX5_copy 14 = .ok (.aload_n 0, 1) := by decide +kernel
theorem dX5_copy_15 : decode cX5_copy 15 = .ok (.iconst 0, 1) := by decide +kernel
theorem dX5_copy_16 : decode cX5_copy 16 = .ok (.invokevirtual 118, 3) := by decide +kernel
theorem dX5_copy_19 : decode cX5_copy 19 = .ok (.ireturn, 1) := by decide +kernel
theorem dX5_copy_20 : decode cX5_copy 20 = .ok (.aload_n 0, 1) := by decide +kernel
theorem dX5_copy_21 : decode cX5_copy 21 = .ok (.getfield 38, 3) := by decide +kernel
theorem dX5_copy_24 : decode cX5_copy 24 = .ok (.iload_n 1, 1) := by decide +kernel
theorem dX5_copy_25 : decode cX5_copy 25 = .ok (.iaload, 1) := by decide +kernel
theorem dX5_copy_26 : decode cX5_copy 26 = .ok (.ifCond .eq 12, 3) := by decide +kernel
theorem dX5_copy_29 : decode cX5_copy 29 = .ok (.aload_n 0, 1) := by decide +kernel
theorem dX5_copy_30 : decode cX5_copy 30 = .ok (.getfield 38, 3) := by decide +kernel
theorem dX5_copy_33 : decode cX5_copy 33 = .ok (.iload_n 3, 1) := by decide +kernel
theorem dX5_copy_34 : decode cX5_copy 34 = .ok (.iaload, 1) := by decide +kernel
theorem dX5_copy_35 : decode cX5_copy 35 = .ok (.ifCond .ne 9, 3) := by decide +kernel
theorem dX5_copy_38 : decode cX5_copy 38 = .ok (.aload_n 0, 1) := by decide +kernel
theorem dX5_copy_39 : decode cX5_copy 39 = .ok (.iconst 5, 1) := by decide +kernel
theorem dX5_copy_40 : decode cX5_copy 40 = .ok (.invokevirtual 118, 3) := by decide +kernel
theorem dX5_copy_43 : decode cX5_copy 43 = .ok (.ireturn, 1) := by decide +kernel
theorem dX5_copy_44 : decode cX5_copy 44 = .ok (.aload_n 0, 1) := by decide +kernel
theorem dX5_copy_45 : decode cX5_copy 45 = .ok (.getfield 38, 3) := by decide +kernel
theorem dX5_copy_48 : decode cX5_copy 48 = .ok (.iload_n 1, 1) := by decide +kernel
theorem dX5_copy_49 : decode cX5_copy 49 = .ok (.iaload, 1) := by decide +kernel
theorem dX5_copy_50 : decode cX5_copy 50 = .ok (.aload_n 0, 1) := by decide +kernel
theorem dX5_copy_51 : decode cX5_copy 51 = .ok (.getfield 38, 3) := by decide +kernel
theorem dX5_copy_54 : decode cX5_copy 54 = .ok (.iload_n 3, 1) := by decide +kernel
theorem dX5_copy_55 : decode cX5_copy 55 = .ok (.iaload, 1) := by decide +kernel
theorem dX5_copy_56 : decode cX5_copy 56 = .ok (.if_icmp .eq 9, 3) := by decide +kernel
theorem dX5_copy_59 : decode cX5_copy 59 = .ok (.aload_n 0, 1) := by decide +kernel
theorem dX5_copy_60 : decode cX5_copy 60 = .ok (.iconst 2, 1) := by decide +kernel
theorem dX5_copy_61 : decode cX5_copy 61 = .ok (.invokevirtual 118, 3) := by decide +kernel
theorem dX5_copy_64 : decode cX5_copy 64 = .ok (.ireturn, 1) := by decide +kernel
theorem dX5_copy_65 : decode cX5_copy 65 = .ok (.iload 5, 2) := by decide +kernel
theorem dX5_copy_67 : decode cX5_copy 67 = .ok (.ifCond .lt 39, 3) := by decide +kernel
theorem dX5_copy_70 : decode cX5_copy 70 = .ok (.iload_n 2, 1) := by decide +kernel
theorem dX5_copy_71 : decode cX5_copy 71 = .ok (.ifCond .lt 35, 3) := by decide +kernel
theorem dX5_copy_74 : decode cX5_copy 74 = .ok (.iload 4, 2) := by decide +kernel
theorem dX5_copy_76 : decode cX5_copy 76 = .ok (.ifCond .lt 30, 3) := by decide +kernel
theorem dX5_copy_79 : decode cX5_copy 79 = .ok (.iload_n 2, 1) := by decide +kernel
theorem dX5_copy_80 : decode cX5_copy 80 = .ok (.aload_n 0, 1) := by decide +kernel
theorem dX5_copy_81 : decode cX5_copy 81 = .ok (.getfield 41, 3) := by decide +kernel
theorem dX5_copy_84 : decode cX5_copy 84 = .ok (.iload_n 1, 1) := by decide +kernel
theorem dX5_copy_85 : decode cX5_copy 85 = .ok (.iaload, 1) := by decide +kernel
theorem dX5_copy_86 : decode cX5_copy 86 = .ok (.iload 5, 2) := by decide +kernel
theorem dX5_copy_88 : decode cX5_copy 88 = .ok (.isub, 1) := by decide +kernel
theorem dX5_copy_89 : decode cX5_copy 89 = .ok (.if_icmp .gt 17, 3) := by decide +kernel
theorem dX5_copy_92 : decode cX5_copy 92 = .ok (.iload 4, 2) := by decide +kernel
theorem dX5_copy_94 : decode cX5_copy 94 = .ok (.aload_n 0, 1) := by decide +kernel
theorem dX5_copy_95 : decode cX5_copy 95 = .ok (.getfield 41, 3) := by decide +kernel
theorem dX5_copy_98 : decode cX5_copy 98 = .ok (.iload_n 3, 1) := by decide +kernel
theorem dX5_copy_99 : decode cX5_copy 99 = .ok (.iaload, 1) := by decide +kernel
theorem dX5_copy_100 : decode cX5_copy 100 = .ok (.iload 5, 2) := by decide +kernel
theorem dX5_copy_102 : decode cX5_copy 102 = .ok (.isub, 1) := by decide +kernel
theorem dX5_copy_103 : decode cX5_copy 103 = .ok (.if_icmp .le 9, 3) := by decide +kernel
theorem dX5_copy_106 : decode cX5_copy 106 = .ok (.aload_n 0, 1) := by decide +kernel
theorem dX5_copy_107 : decode cX5_copy 107 = .ok (.iconst 0, 1) := by decide +kernel
theorem dX5_copy_108 : decode cX5_copy 108 = .ok (.invokevirtual 118, 3) := by decide +kernel
theorem dX5_copy_111 : decode cX5_copy 111 = .ok (.ireturn, 1) := by decide +kernel
theorem dX5_copy_112 : decode cX5_copy 112 = .ok (.iconst 0, 1) := by decide +kernel
theorem dX5_copy_113 : decode cX5_copy 113 = .ok (.istore 6, 2) := by decide +kernel
theorem dX5_copy_115 : decode cX5_copy 115 = .ok (.iload 6, 2) := by decide +kernel
theorem dX5_copy_117 : decode cX5_copy 117 = .ok (.iload 5, 2) := by decide +kernel
theorem dX5_copy_119 : decode cX5_copy 119 = .ok (.if_icmp .ge 25, 3) := by decide +kernel
theorem dX5_copy_122 : decode cX5_copy 122 = .ok (.aload_n 0, 1) := by decide +kernel
theorem dX5_copy_123 : decode cX5_copy 123 = .ok (.getfield 48, 3) := by decide +kernel
theorem dX5_copy_126 : decode cX5_copy 126 = .ok (.iload 6, 2) := by decide +kernel
theorem dX5_copy_128 : decode cX5_copy 128 = .ok (.aload_n 0, 1) := by decide +kernel
theorem dX5_copy_129 : decode cX5_copy 129 = .ok (.iload_n 1, 1) := by decide +kernel
theorem dX5_copy_130 : decode cX5_copy 130 = .ok (.iload_n 2, 1) := by decide +kernel
theorem dX5_copy_131 : decode cX5_copy 131 = .ok (.iload 6, 2) := by decide +kernel
theorem dX5_copy_133 : decode cX5_copy 133 = .ok (.iadd, 1) := by decide +kernel
theorem dX5_copy_134 : decode cX5_copy 134 = .ok (.invokevirtual 226, 3) := by decide +kernel
theorem dX5_copy_137 : decode cX5_copy 137 = .ok (.lastore, 1) := by decide +kernel
theorem dX5_copy_138 : decode cX5_copy 138 = .ok (.iinc 6 1, 3) := by decide +kernel
theorem dX5_copy_141 : decode cX5_copy 141 = .ok (.goto (-26), 3) := by decide +kernel
theorem dX5_copy_144 : decode cX5_copy 144 = .ok (.iconst 0, 1) := by decide +kernel
theorem dX5_copy_145 : decode cX5_copy 145 = .ok (.istore 6, 2) := by decide +kernel
theorem dX5_copy_147 : decode cX5_copy 147 = .ok (.iload 6, 2) := by decide +kernel
theorem dX5_copy_149 : decode cX5_copy 149 = .ok (.iload 5, 2) := by decide +kernel
theorem dX5_copy_151 : decode cX5_copy 151 = .ok (.if_icmp .ge 31, 3) := by decide +kernel
theorem dX5_copy_154 : decode cX5_copy 154 = .ok (.aload_n 0, 1) := by decide +kernel
theorem dX5_copy_155 : decode cX5_copy 155 = .ok (.getfield 44, 3) := by decide +kernel
theorem dX5_copy_158 : decode cX5_copy 158 = .ok (.bipush 40, 2) := by decide +kernel
theorem dX5_copy_160 : decode cX5_copy 160 = .ok (.iload_n 3, 1) := by decide +kernel
theorem dX5_copy_161 : decode cX5_copy 161 = .ok (.imul, 1) := by decide +kernel
theorem dX5_copy_162 : decode cX5_copy 162 = .ok (.iload 4, 2) := by decide +kernel
theorem dX5_copy_164 : decode cX5_copy 164 = .ok (.iadd, 1) := by decide +kernel
theorem dX5_copy_165 : decode cX5_copy 165 = .ok (.iload 6, 2) := by decide +kernel
theorem dX5_copy_167 : decode cX5_copy 167 = .ok (.iadd, 1) := by decide +kernel
theorem dX5_copy_168 : decode cX5_copy 168 = .ok (.aload_n 0, 1) := by decide +kernel
theorem dX5_copy_169 : decode cX5_copy 169 = .ok (.getfield 48, 3) := by decide +kernel
theorem dX5_copy_172 : decode cX5_copy 172 = .ok (.iload 6, 2) := by decide +kernel
theorem dX5_copy_174 : decode cX5_copy 174 = .ok (.laload, 1) := by decide +kernel
theorem dX5_copy_175 : decode cX5_copy 175 = .ok (.lastore, 1) := by decide +kernel
theorem dX5_copy_176 : decode cX5_copy 176 = .ok (.iinc 6 1, 3) := by decide +kernel
theorem dX5_copy_179 : decode cX5_copy 179 = .ok (.goto (-32), 3) := by decide +kernel
theorem dX5_copy_182 : decode cX5_copy 182 = .ok (.iload 5, 2) := by decide +kernel
theorem dX5_copy_184 : decode cX5_copy 184 = .ok (.ireturn, 1) := by decide +kernel
theorem dX5_wrongWith_0 : decode cX5_wrongWith 0 = .ok (.aload_n 0, 1) := by decide +kernel
theorem dX5_wrongWith_1 : decode cX5_wrongWith 1 = .ok (.iload_n 1, 1) := by decide +kernel
theorem dX5_wrongWith_2 : decode cX5_wrongWith 2 = .ok (.invokevirtual 223, 3) := by decide +kernel
theorem dX5_wrongWith_5 : decode cX5_wrongWith 5 = .ok (.istore_n 3, 1) := by decide +kernel
theorem dX5_wrongWith_6 : decode cX5_wrongWith 6 = .ok (.iload_n 3, 1) := by decide +kernel
theorem dX5_wrongWith_7 : decode cX5_wrongWith 7 = .ok (.ifCond .lt 7, 3) := by decide +kernel
theorem dX5_wrongWith_10 : decode cX5_wrongWith 10 = .ok (.iload_n 3, 1) := by decide +kernel
theorem dX5_wrongWith_11 : decode cX5_wrongWith 11 = .ok (.goto 12, 3) := by decide +kernel
theorem dX5_wrongWith_14 : decode cX5_wrongWith 14 = .ok (.iload_n 2, 1) := by decide +kernel
theorem dX5_wrongWith_15 : decode cX5_wrongWith 15 = .ok (.ifCond .eq 7, 3) := by decide +kernel
theorem dX5_wrongWith_18 : decode cX5_wrongWith 18 = .ok (.iconst (-1), 1) := by decide +kernel
theorem dX5_wrongWith_19 : decode cX5_wrongWith 19 = .ok (.goto 4, 3) := by decide +kernel
theorem dX5_wrongWith_22 : decode cX5_wrongWith 22 = .ok (.iconst 0, 1) := by decide +kernel
theorem dX5_wrongWith_23 : decode cX5_wrongWith 23 = .ok (.ireturn, 1) := by decide +kernel
theorem dX5_lays_0 : decode cX5_lays 0 = .ok (.aload_n 0, 1) := by decide +kernel
theorem dX5_lays_1 : decode cX5_lays 1 = .ok (.iload_n 1, 1) := by decide +kernel
theorem dX5_lays_2 : decode cX5_lays 2 = .ok (.iload_n 2, 1) := by decide +kernel
theorem dX5_lays_3 : decode cX5_lays 3 = .ok (.invokestatic 112, 3) := by decide +kernel
theorem dX5_lays_6 : decode cX5_lays 6 = .ok (.invokevirtual 234, 3) := by decide +kernel
theorem dX5_lays_9 : decode cX5_lays 9 = .ok (.istore_n 3, 1) := by decide +kernel
theorem dX5_lays_10 : decode cX5_lays 10 = .ok (.iload_n 3, 1) := by decide +kernel
theorem dX5_lays_11 : decode cX5_lays 11 = .ok (.ifCond .lt 9, 3) := by decide +kernel
theorem dX5_lays_14 : decode cX5_lays 14 = .ok (.aload_n 0, 1) := by decide +kernel
theorem dX5_lays_15 : decode cX5_lays 15 = .ok (.iload_n 3, 1) := by decide +kernel
theorem dX5_lays_16 : decode cX5_lays 16 = .ok (.invokevirtual 118, 3) := by decide +kernel
theorem dX5_lays_19 : decode cX5_lays 19 = .ok (.ireturn, 1) := by decide +kernel
theorem dX5_lays_20 : decode cX5_lays 20 = .ok (.iconst 0, 1) := by decide +kernel
theorem dX5_lays_21 : decode cX5_lays 21 = .ok (.istore 4, 2) := by decide +kernel
theorem dX5_lays_23 : decode cX5_lays 23 = .ok (.iconst 0, 1) := by decide +kernel
theorem dX5_lays_24 : decode cX5_lays 24 = .ok (.istore 5, 2) := by decide +kernel
theorem dX5_lays_26 : decode cX5_lays 26 = .ok (.iload 5, 2) := by decide +kernel
theorem dX5_lays_28 : decode cX5_lays 28 = .ok (.aload_n 0, 1) := by decide +kernel
theorem dX5_lays_29 : decode cX5_lays 29 = .ok (.getfield 41, 3) := by decide +kernel
theorem dX5_lays_32 : decode cX5_lays 32 = .ok (.iload_n 1, 1) := by decide +kernel
theorem dX5_lays_33 : decode cX5_lays 33 = .ok (.iaload, 1) := by decide +kernel
theorem dX5_lays_34 : decode cX5_lays 34 = .ok (.if_icmp .ge 60, 3) := by decide +kernel
theorem dX5_lays_37 : decode cX5_lays 37 = .ok (.iload 5, 2) := by decide +kernel
theorem dX5_lays_39 : decode cX5_lays 39 = .ok (.bipush 20, 2) := by decide +kernel
theorem dX5_lays_41 : decode cX5_lays 41 = .ok (.if_icmp .ge 53, 3) := by decide +kernel
theorem dX5_lays_44 : decode cX5_lays 44 = .ok (.aload_n 0, 1) := by decide +kernel
theorem dX5_lays_45 : decode cX5_lays 45 = .ok (.iload_n 1, 1) := by decide +kernel
theorem dX5_lays_46 : decode cX5_lays 46 = .ok (.iload 5, 2) := by decide +kernel
theorem dX5_lays_48 : decode cX5_lays 48 = .ok (.invokevirtual 226, 3) := by decide +kernel
theorem dX5_lays_51 : decode cX5_lays 51 = .ok (.lconst 0, 1) := by decide +kernel
theorem dX5_lays_52 : decode cX5_lays 52 = .ok (.lcmp, 1) := by decide +kernel
theorem dX5_lays_53 : decode cX5_lays 53 = .ok (.ifCond .lt 35, 3) := by decide +kernel
theorem dX5_lays_56 : decode cX5_lays 56 = .ok (.aload_n 0, 1) := by decide +kernel
theorem dX5_lays_57 : decode cX5_lays 57 = .ok (.iload_n 1, 1) := by decide +kernel
theorem dX5_lays_58 : decode cX5_lays 58 = .ok (.iload 5, 2) := by decide +kernel
theorem dX5_lays_60 : decode cX5_lays 60 = .ok (.invokevirtual 226, 3) := by decide +kernel
theorem dX5_lays_63 : decode cX5_lays 63 = .ok (.ldc2_w 238, 3) := by decide +kernel
theorem dX5_lays_66 : decode cX5_lays 66 = .ok (.lcmp, 1) := by decide +kernel
theorem dX5_lays_67 : decode cX5_lays 67 = .ok (.ifCond .gt 21, 3) := by decide +kernel
theorem dX5_lays_70 : decode cX5_lays 70 = .ok (.aload_n 0, 1) := by decide +kernel
theorem dX5_lays_71 : decode cX5_lays 71 = .ok (.iload_n 2, 1) := by decide +kernel
theorem dX5_lays_72 : decode cX5_lays 72 = .ok (.iload 5, 2) := by decide +kernel
theorem dX5_lays_74 : decode cX5_lays 74 = .ok (.aload_n 0, 1) := by decide +kernel
theorem dX5_lays_75 : decode cX5_lays 75 = .ok (.iload_n 1, 1) := by decide +kernel
theorem dX5_lays_76 : decode cX5_lays 76 = .ok (.iload 5, 2) := by decide +kernel
theorem dX5_lays_78 : decode cX5_lays 78 = .ok (.invokevirtual 226, 3) := by decide +kernel
theorem dX5_lays_81 : decode cX5_lays 81 = .ok (.l2i, 1) := by decide +kernel
theorem dX5_lays_82 : decode cX5_lays 82 = .ok (.invokevirtual 121, 3) := by decide +kernel
theorem dX5_lays_85 : decode cX5_lays 85 = .ok (.iinc 4 1, 3) := by decide +kernel
theorem dX5_lays_88 : decode cX5_lays 88 = .ok (.iinc 5 1, 3) := by decide +kernel
theorem dX5_lays_91 : decode cX5_lays 91 = .ok (.goto (-65), 3) := by decide +kernel
theorem dX5_lays_94 : decode cX5_lays 94 = .ok (.iload 4, 2) := by decide +kernel
theorem dX5_lays_96 : decode cX5_lays 96 = .ok (.ireturn, 1) := by decide +kernel
theorem dX5_book_0 : decode cX5_book 0 = .ok (.aload_n 0, 1) := by decide +kernel
theorem dX5_book_1 : decode cX5_book 1 = .ok (.iload_n 1, 1) := by decide +kernel
theorem dX5_book_2 : decode cX5_book 2 = .ok (.aload_n 0, 1) := by decide +kernel
theorem dX5_book_3 : decode cX5_book 3 = .ok (.iload_n 2, 1) := by decide +kernel
theorem dX5_book_4 : decode cX5_book 4 = .ok (.iload_n 3, 1) := by decide +kernel
theorem dX5_book_5 : decode cX5_book 5 = .ok (.invokevirtual 146, 3) := by decide +kernel
theorem dX5_book_8 : decode cX5_book 8 = .ok (.invokevirtual 234, 3) := by decide +kernel
theorem dX5_book_11 : decode cX5_book 11 = .ok (.istore 4, 2) := by decide +kernel
theorem dX5_book_13 : decode cX5_book 13 = .ok (.iload 4, 2) := by decide +kernel
theorem dX5_book_15 : decode cX5_book 15 = .ok (.ifCond .lt 10, 3) := by decide +kernel
theorem dX5_book_18 : decode cX5_book 18 = .ok (.aload_n 0, 1) := by decide +kernel
theorem dX5_book_19 : decode cX5_book 19 = .ok (.iload 4, 2) := by decide +kernel
theorem dX5_book_21 : decode cX5_book 21 = .ok (.invokevirtual 118, 3) := by decide +kernel
theorem dX5_book_24 : decode cX5_book 24 = .ok (.ireturn, 1) := by decide +kernel
theorem dX5_book_25 : decode cX5_book 25 = .ok (.aload_n 0, 1) := by decide +kernel
theorem dX5_book_26 : decode cX5_book 26 = .ok (.aload_n 0, 1) := by decide +kernel
theorem dX5_book_27 : decode cX5_book 27 = .ok (.iload_n 2, 1) := by decide +kernel
theorem dX5_book_28 : decode cX5_book 28 = .ok (.iconst 0, 1) := by decide +kernel
theorem dX5_book_29 : decode cX5_book 29 = .ok (.invokevirtual 92, 3) := by decide +kernel
theorem dX5_book_32 : decode cX5_book 32 = .ok (.aload_n 0, 1) := by decide +kernel
theorem dX5_book_33 : decode cX5_book 33 = .ok (.iload_n 2, 1) := by decide +kernel
theorem dX5_book_34 : decode cX5_book 34 = .ok (.iconst 1, 1) := by decide +kernel
theorem dX5_book_35 : decode cX5_book 35 = .ok (.invokevirtual 92, 3) := by decide +kernel
theorem dX5_book_38 : decode cX5_book 38 = .ok (.iload_n 3, 1) := by decide +kernel
theorem dX5_book_39 : decode cX5_book 39 = .ok (.invokevirtual 95, 3) := by decide +kernel
theorem dX5_book_42 : decode cX5_book 42 = .ok (.aload_n 0, 1) := by decide +kernel
theorem dX5_book_43 : decode cX5_book 43 = .ok (.getfield 41, 3) := by decide +kernel
theorem dX5_book_46 : decode cX5_book 46 = .ok (.iload_n 1, 1) := by decide +kernel
theorem dX5_book_47 : decode cX5_book 47 = .ok (.iaload, 1) := by decide +kernel
theorem dX5_book_48 : decode cX5_book 48 = .ok (.bipush 20, 2) := by decide +kernel
theorem dX5_book_50 : decode cX5_book 50 = .ok (.invokestatic 71, 3) := by decide +kernel
theorem dX5_book_53 : decode cX5_book 53 = .ok (.istore 5, 2) := by decide +kernel
theorem dX5_book_55 : decode cX5_book 55 = .ok (.iconst 0, 1) := by decide +kernel
theorem dX5_book_56 : decode cX5_book 56 = .ok (.istore 6, 2) := by decide +kernel
theorem dX5_book_58 : decode cX5_book 58 = .ok (.iload 6, 2) := by decide +kernel
theorem dX5_book_60 : decode cX5_book 60 = .ok (.iload 5, 2) := by decide +kernel
theorem dX5_book_62 : decode cX5_book 62 = .ok (.if_icmp .ge 24, 3) := by decide +kernel
theorem dX5_book_65 : decode cX5_book 65 = .ok (.aload_n 0, 1) := by decide +kernel
theorem dX5_book_66 : decode cX5_book 66 = .ok (.iload_n 1, 1) := by decide +kernel
theorem dX5_book_67 : decode cX5_book 67 = .ok (.iload 6, 2) := by decide +kernel
theorem dX5_book_69 : decode cX5_book 69 = .ok (.aload_n 0, 1) := by decide +kernel
theorem dX5_book_70 : decode cX5_book 70 = .ok (.getfield 22, 3) := by decide +kernel
theorem dX5_book_73 : decode cX5_book 73 = .ok (.iload 6, 2) := by decide +kernel
theorem dX5_book_75 : decode cX5_book 75 = .ok (.iaload, 1) := by decide +kernel
theorem dX5_book_76 : decode cX5_book 76 = .ok (.i2l, 1) := by decide +kernel
theorem dX5_book_77 : decode cX5_book 77 = .ok (.invokevirtual 230, 3) := by decide +kernel
theorem dX5_book_80 : decode cX5_book 80 = .ok (.iinc 6 1, 3) := by decide +kernel
theorem dX5_book_83 : decode cX5_book 83 = .ok (.goto (-25), 3) := by decide +kernel
theorem dX5_book_86 : decode cX5_book 86 = .ok (.iload 5, 2) := by decide +kernel
theorem dX5_book_88 : decode cX5_book 88 = .ok (.ireturn, 1) := by decide +kernel
theorem dX5_isSo_0 : decode cX5_isSo 0 = .ok (.iconst 1, 1) := by decide +kernel
theorem dX5_isSo_1 : decode cX5_isSo 1 = .ok (.istore_n 2, 1) := by decide +kernel
theorem dX5_isSo_2 : decode cX5_isSo 2 = .ok (.iconst 0, 1) := by decide +kernel
theorem dX5_isSo_3 : decode cX5_isSo 3 = .ok (.istore_n 3, 1) := by decide +kernel
theorem dX5_isSo_4 : decode cX5_isSo 4 = .ok (.iload_n 3, 1) := by decide +kernel
theorem dX5_isSo_5 : decode cX5_isSo 5 = .ok (.aload_n 0, 1) := by decide +kernel
theorem dX5_isSo_6 : decode cX5_isSo 6 = .ok (.getfield 41, 3) := by decide +kernel
theorem dX5_isSo_9 : decode cX5_isSo 9 = .ok (.iload_n 1, 1) := by decide +kernel
theorem dX5_isSo_10 : decode cX5_isSo 10 = .ok (.iaload, 1) := by decide +kernel
theorem dX5_isSo_11 : decode cX5_isSo 11 = .ok (.if_icmp .ge 36, 3) := by decide +kernel
theorem dX5_isSo_14 : decode cX5_isSo 14 = .ok (.iload_n 2, 1) := by decide +kernel
theorem dX5_isSo_15 : decode cX5_isSo 15 = .ok (.ifCond .eq 32, 3) := by decide +kernel
theorem dX5_isSo_18 : decode cX5_isSo 18 = .ok (.aload_n 0, 1) := by decide +kernel
theorem dX5_isSo_19 : decode cX5_isSo 19 = .ok (.iload_n 1, 1) := by decide +kernel
theorem dX5_isSo_20 : decode cX5_isSo 20 = .ok (.iload_n 3, 1) := by decide +kernel
theorem dX5_isSo_21 : decode cX5_isSo 21 = .ok (.invokevirtual 226, 3) := by decide +kernel
theorem dX5_isSo_24 : decode cX5_isSo 24 = .ok (.aload_n 0, 1) := by decide +kernel
theorem dX5_isSo_25 : decode cX5_isSo 25 = .ok (.getfield 22, 3) := by decide +kernel
theorem dX5_isSo_28 : decode cX5_isSo 28 = .ok (.iload_n 3, 1) := by decide +kernel
theorem dX5_isSo_29 : decode cX5_isSo 29 = .ok (.iaload, 1) := by decide +kernel
theorem dX5_isSo_30 : decode cX5_isSo 30 = .ok (.i2l, 1) := by decide +kernel
theorem dX5_isSo_31 : decode cX5_isSo 31 = .ok (.lcmp, 1) := by decide +kernel
theorem dX5_isSo_32 : decode cX5_isSo 32 = .ok (.ifCond .ne 7, 3) := by decide +kernel
theorem dX5_isSo_35 : decode cX5_isSo 35 = .ok (.iconst 1, 1) := by decide +kernel
theorem dX5_isSo_36 : decode cX5_isSo 36 = .ok (.goto 4, 3) := by decide +kernel
theorem dX5_isSo_39 : decode cX5_isSo 39 = .ok (.iconst 0, 1) := by decide +kernel
theorem dX5_isSo_40 : decode cX5_isSo 40 = .ok (.istore_n 2, 1) := by decide +kernel
theorem dX5_isSo_41 : decode cX5_isSo 41 = .ok (.iinc 3 1, 3) := by decide +kernel
theorem dX5_isSo_44 : decode cX5_isSo 44 = .ok (.goto (-40), 3) := by decide +kernel
theorem dX5_isSo_47 : decode cX5_isSo 47 = .ok (.iload_n 2, 1) := by decide +kernel
theorem dX5_isSo_48 : decode cX5_isSo 48 = .ok (.ireturn, 1) := by decide +kernel
theorem dX5_read_0 : decode cX5_read 0 = .ok (.aload_n 0, 1) := by decide +kernel
theorem dX5_read_1 : decode cX5_read 1 = .ok (.iload_n 1, 1) := by decide +kernel
theorem dX5_read_2 : decode cX5_read 2 = .ok (.aload_n 0, 1) := by decide +kernel
theorem dX5_read_3 : decode cX5_read 3 = .ok (.iload_n 2, 1) := by decide +kernel
theorem dX5_read_4 : decode cX5_read 4 = .ok (.iload_n 3, 1) := by decide +kernel
theorem dX5_read_5 : decode cX5_read 5 = .ok (.invokevirtual 146, 3) := by decide +kernel
theorem dX5_read_8 : decode cX5_read 8 = .ok (.invokevirtual 234, 3) := by decide +kernel
theorem dX5_read_11 : decode cX5_read 11 = .ok (.istore 4, 2) := by decide +kernel
theorem dX5_read_13 : decode cX5_read 13 = .ok (.iload 4, 2) := by decide +kernel
theorem dX5_read_15 : decode cX5_read 15 = .ok (.ifCond .lt 10, 3) := by decide +kernel
theorem dX5_read_18 : decode cX5_read 18 = .ok (.aload_n 0, 1) := by decide +kernel
theorem dX5_read_19 : decode cX5_read 19 = .ok (.iload 4, 2) := by decide +kernel
theorem dX5_read_21 : decode cX5_read 21 = .ok (.invokevirtual 118, 3) := by decide +kernel
theorem dX5_read_24 : decode cX5_read 24 = .ok (.ireturn, 1) := by decide +kernel
theorem dX5_read_25 : decode cX5_read 25 = .ok (.aload_n 0, 1) := by decide +kernel
theorem dX5_read_26 : decode cX5_read 26 = .ok (.getfield 41, 3) := by decide +kernel
theorem dX5_read_29 : decode cX5_read 29 = .ok (.iload_n 1, 1) := by decide +kernel
theorem dX5_read_30 : decode cX5_read 30 = .ok (.iaload, 1) := by decide +kernel
theorem dX5_read_31 : decode cX5_read 31 = .ok (.bipush 20, 2) := by decide +kernel
theorem dX5_read_33 : decode cX5_read 33 = .ok (.if_icmp .le 10, 3) := by decide +kernel
theorem dX5_read_36 : decode cX5_read 36 = .ok (.aload_n 0, 1) := by decide +kernel
theorem dX5_read_37 : decode cX5_read 37 = .ok (.bipush 6, 2) := by decide +kernel
theorem dX5_read_39 : decode cX5_read 39 = .ok (.invokevirtual 118, 3) := by decide +kernel
theorem dX5_read_42 : decode cX5_read 42 = .ok (.ireturn, 1) := by decide +kernel
theorem dX5_read_43 : decode cX5_read 43 = .ok (.iconst 0, 1) := by decide +kernel
theorem dX5_read_44 : decode cX5_read 44 = .ok (.istore 5, 2) := by decide +kernel
theorem dX5_read_46 : decode cX5_read 46 = .ok (.iconst 0, 1) := by decide +kernel
theorem dX5_read_47 : decode cX5_read 47 = .ok (.istore 6, 2) := by decide +kernel
theorem dX5_read_49 : decode cX5_read 49 = .ok (.iload 6, 2) := by decide +kernel
theorem dX5_read_51 : decode cX5_read 51 = .ok (.bipush 6, 2) := by decide +kernel
theorem dX5_read_53 : decode cX5_read 53 = .ok (.if_icmp .ge 53, 3) := by decide +kernel
theorem dX5_read_56 : decode cX5_read 56 = .ok (.bipush 10, 2) := by decide +kernel
theorem dX5_read_58 : decode cX5_read 58 = .ok (.istore 7, 2) := by decide +kernel
theorem dX5_read_60 : decode cX5_read 60 = .ok (.iload 7, 2) := by decide +kernel
theorem dX5_read_62 : decode cX5_read 62 = .ok (.bipush 80, 2) := by decide +kernel
theorem dX5_read_64 : decode cX5_read 64 = .ok (.if_icmp .gt 36, 3) := by decide +kernel
theorem dX5_read_67 : decode cX5_read 67 = .ok (.aload_n 0, 1) := by decide +kernel
theorem dX5_read_68 : decode cX5_read 68 = .ok (.iload 6, 2) := by decide +kernel
theorem dX5_read_70 : decode cX5_read 70 = .ok (.iload 7, 2) := by decide +kernel
theorem dX5_read_72 : decode cX5_read 72 = .ok (.iload_n 3, 1) := by decide +kernel
theorem dX5_read_73 : decode cX5_read 73 = .ok (.invokevirtual 95, 3) := by decide +kernel
theorem dX5_read_76 : decode cX5_read 76 = .ok (.iload 5, 2) := by decide +kernel
theorem dX5_read_78 : decode cX5_read 78 = .ok (.aload_n 0, 1) := by decide +kernel
theorem dX5_read_79 : decode cX5_read 79 = .ok (.iload_n 1, 1) := by decide +kernel
theorem dX5_read_80 : decode cX5_read 80 = .ok (.invokevirtual 240, 3) := by decide +kernel
theorem dX5_read_83 : decode cX5_read 83 = .ok (.ifCond .eq 7, 3) := by decide +kernel
theorem dX5_read_86 : decode cX5_read 86 = .ok (.iconst 1, 1) := by decide +kernel
theorem dX5_read_87 : decode cX5_read 87 = .ok (.goto 4, 3) := by decide +kernel
theorem dX5_read_90 : decode cX5_read 90 = .ok (.iconst 0, 1) := by decide +kernel
theorem dX5_read_91 : decode cX5_read 91 = .ok (.iadd, 1) := by decide +kernel
theorem dX5_read_92 : decode cX5_read 92 = .ok (.istore 5, 2) := by decide +kernel
theorem dX5_read_94 : decode cX5_read 94 = .ok (.iinc 7 1, 3) := by decide +kernel
theorem dX5_read_97 : decode cX5_read 97 = .ok (.goto (-37), 3) := by decide +kernel
theorem dX5_read_100 : decode cX5_read 100 = .ok (.iinc 6 1, 3) := by decide +kernel
theorem dX5_read_103 : decode cX5_read 103 = .ok (.goto (-54), 3) := by decide +kernel
theorem dX5_read_106 : decode cX5_read 106 = .ok (.iload 5, 2) := by decide +kernel
theorem dX5_read_108 : decode cX5_read 108 = .ok (.ireturn, 1) := by decide +kernel
theorem dX5_image_0 : decode cX5_image 0 = .ok (.iconst 0, 1) := by decide +kernel
theorem dX5_image_1 : decode cX5_image 1 = .ok (.istore_n 1, 1) := by decide +kernel
theorem dX5_image_2 : decode cX5_image 2 = .ok (.iload_n 1, 1) := by decide +kernel
theorem dX5_image_3 : decode cX5_image 3 = .ok (.sipush 147, 3) := by decide +kernel
theorem dX5_image_6 : decode cX5_image 6 = .ok (.if_icmp .ge 21, 3) := by decide +kernel
theorem dX5_image_9 : decode cX5_image 9 = .ok (.aload_n 0, 1) := by decide +kernel
theorem dX5_image_10 : decode cX5_image 10 = .ok (.getfield 13, 3) := by decide +kernel
theorem dX5_image_13 : decode cX5_image 13 = .ok (.iload_n 1, 1) := by decide +kernel
theorem dX5_image_14 : decode cX5_image 14 = .ok (.aload_n 0, 1) := by decide +kernel
theorem dX5_image_15 : decode cX5_image 15 = .ok (.getfield 9, 3) := by decide +kernel
theorem dX5_image_18 : decode cX5_image 18 = .ok (.iload_n 1, 1) := by decide +kernel
theorem dX5_image_19 : decode cX5_image 19 = .ok (.iaload, 1) := by decide +kernel
theorem dX5_image_20 : decode cX5_image 20 = .ok (.iastore, 1) := by decide +kernel
theorem dX5_image_21 : decode cX5_image 21 = .ok (.iinc 1 1, 3) := by decide +kernel
theorem dX5_image_24 : decode cX5_image 24 = .ok (.goto (-22), 3) := by decide +kernel
theorem dX5_image_27 : decode cX5_image 27 = .ok (.aload_n 0, 1) := by decide +kernel
theorem dX5_image_28 : decode cX5_image 28 = .ok (.iconst 1, 1) := by decide +kernel
theorem dX5_image_29 : decode cX5_image 29 = .ok (.putfield 243, 3) := by decide +kernel
theorem dX5_image_32 : decode cX5_image 32 = .ok (.iconst 1, 1) := by decide +kernel
theorem dX5_image_33 : decode cX5_image 33 = .ok (.ireturn, 1) := by decide +kernel
theorem dX5_undo_0 : decode cX5_undo 0 = .ok (.aload_n 0, 1) := by decide +kernel
theorem dX5_undo_1 : decode cX5_undo 1 = .ok (.getfield 243, 3) := by decide +kernel
theorem dX5_undo_4 : decode cX5_undo 4 = .ok (.ifCond .ne 9, 3) := by decide +kernel
theorem dX5_undo_7 : decode cX5_undo 7 = .ok (.aload_n 0, 1) := by decide +kernel
theorem dX5_undo_8 : decode cX5_undo 8 = .ok (.iconst 3, 1) := by decide +kernel
theorem dX5_undo_9 : decode cX5_undo 9 = .ok (.invokevirtual 118, 3) := by decide +kernel
theorem dX5_undo_12 : decode cX5_undo 12 = .ok (.ireturn, 1) := by decide +kernel
theorem dX5_undo_13 : decode cX5_undo 13 = .ok (.iconst 0, 1) := by decide +kernel
theorem dX5_undo_14 : decode cX5_undo 14 = .ok (.istore_n 1, 1) := by decide +kernel
theorem dX5_undo_15 : decode cX5_undo 15 = .ok (.iload_n 1, 1) := by decide +kernel
theorem dX5_undo_16 : decode cX5_undo 16 = .ok (.sipush 147, 3) := by decide +kernel
theorem dX5_undo_19 : decode cX5_undo 19 = .ok (.if_icmp .ge 21, 3) := by decide +kernel
theorem dX5_undo_22 : decode cX5_undo 22 = .ok (.aload_n 0, 1) := by decide +kernel
theorem dX5_undo_23 : decode cX5_undo 23 = .ok (.getfield 9, 3) := by decide +kernel
theorem dX5_undo_26 : decode cX5_undo 26 = .ok (.iload_n 1, 1) := by decide +kernel
theorem dX5_undo_27 : decode cX5_undo 27 = .ok (.aload_n 0, 1) := by decide +kernel
theorem dX5_undo_28 : decode cX5_undo 28 = .ok (.getfield 13, 3) := by decide +kernel
theorem dX5_undo_31 : decode cX5_undo 31 = .ok (.iload_n 1, 1) := by decide +kernel
theorem dX5_undo_32 : decode cX5_undo 32 = .ok (.iaload, 1) := by decide +kernel
theorem dX5_undo_33 : decode cX5_undo 33 = .ok (.iastore, 1) := by decide +kernel
theorem dX5_undo_34 : decode cX5_undo 34 = .ok (.iinc 1 1, 3) := by decide +kernel
theorem dX5_undo_37 : decode cX5_undo 37 = .ok (.goto (-22), 3) := by decide +kernel
theorem dX5_undo_40 : decode cX5_undo 40 = .ok (.aload_n 0, 1) := by decide +kernel
theorem dX5_undo_41 : decode cX5_undo 41 = .ok (.getfield 9, 3) := by decide +kernel
theorem dX5_undo_44 : decode cX5_undo 44 = .ok (.iconst 2, 1) := by decide +kernel
theorem dX5_undo_45 : decode cX5_undo 45 = .ok (.iaload, 1) := by decide +kernel
theorem dX5_undo_46 : decode cX5_undo 46 = .ok (.ireturn, 1) := by decide +kernel
theorem dX5_tear_0 : decode cX5_tear 0 = .ok (.aload_n 0, 1) := by decide +kernel
theorem dX5_tear_1 : decode cX5_tear 1 = .ok (.getfield 243, 3) := by decide +kernel
theorem dX5_tear_4 : decode cX5_tear 4 = .ok (.ifCond .eq 7, 3) := by decide +kernel
theorem dX5_tear_7 : decode cX5_tear 7 = .ok (.iconst 1, 1) := by decide +kernel
theorem dX5_tear_8 : decode cX5_tear 8 = .ok (.goto 4, 3) := by decide +kernel
theorem dX5_tear_11 : decode cX5_tear 11 = .ok (.iconst 0, 1) := by decide +kernel
theorem dX5_tear_12 : decode cX5_tear 12 = .ok (.istore_n 1, 1) := by decide +kernel
theorem dX5_tear_13 : decode cX5_tear 13 = .ok (.aload_n 0, 1) := by decide +kernel
theorem dX5_tear_14 : decode cX5_tear 14 = .ok (.iconst 0, 1) := by decide +kernel
theorem dX5_tear_15 : decode cX5_tear 15 = .ok (.putfield 243, 3) := by decide +kernel
theorem dX5_tear_18 : decode cX5_tear 18 = .ok (.iload_n 1, 1) := by decide +kernel
theorem dX5_tear_19 : decode cX5_tear 19 = .ok (.ireturn, 1) := by decide +kernel
theorem dX5_count_0 : decode cX5_count 0 = .ok (.iconst 0, 1) := by decide +kernel
theorem dX5_count_1 : decode cX5_count 1 = .ok (.istore_n 2, 1) := by decide +kernel
theorem dX5_count_2 : decode cX5_count 2 = .ok (.iconst 0, 1) := by decide +kernel
theorem dX5_count_3 : decode cX5_count 3 = .ok (.istore_n 3, 1) := by decide +kernel
theorem dX5_count_4 : decode cX5_count 4 = .ok (.iload_n 3, 1) := by decide +kernel
theorem dX5_count_5 : decode cX5_count 5 = .ok (.aload_n 0, 1) := by decide +kernel
theorem dX5_count_6 : decode cX5_count 6 = .ok (.getfield 9, 3) := by decide +kernel
theorem dX5_count_9 : decode cX5_count 9 = .ok (.iconst 2, 1) := by decide +kernel
theorem dX5_count_10 : decode cX5_count 10 = .ok (.iaload, 1) := by decide +kernel
theorem dX5_count_11 : decode cX5_count 11 = .ok (.if_icmp .ge 18, 3) := by decide +kernel
theorem dX5_count_14 : decode cX5_count 14 = .ok (.iload_n 2, 1) := by decide +kernel
theorem dX5_count_15 : decode cX5_count 15 = .ok (.aload_n 0, 1) := by decide +kernel
theorem dX5_count_16 : decode cX5_count 16 = .ok (.iload_n 3, 1) := by decide +kernel
theorem dX5_count_17 : decode cX5_count 17 = .ok (.iconst 1, 1) := by decide +kernel
theorem dX5_count_18 : decode cX5_count 18 = .ok (.invokevirtual 92, 3) := by decide +kernel
theorem dX5_count_21 : decode cX5_count 21 = .ok (.iadd, 1) := by decide +kernel
theorem dX5_count_22 : decode cX5_count 22 = .ok (.istore_n 2, 1) := by decide +kernel
theorem dX5_count_23 : decode cX5_count 23 = .ok (.iinc 3 1, 3) := by decide +kernel
theorem dX5_count_26 : decode cX5_count 26 = .ok (.goto (-22), 3) := by decide +kernel
theorem dX5_count_29 : decode cX5_count 29 = .ok (.iload_n 1, 1) := by decide +kernel
theorem dX5_count_30 : decode cX5_count 30 = .ok (.tableswitch 62 0 3 #[30, 37, 42, 60], 30) := by decide +kernel
theorem dX5_count_60 : decode cX5_count 60 = .ok (.aload_n 0, 1) := by decide +kernel
theorem dX5_count_61 : decode cX5_count 61 = .ok (.getfield 9, 3) := by decide +kernel
theorem dX5_count_64 : decode cX5_count 64 = .ok (.iconst 2, 1) := by decide +kernel
theorem dX5_count_65 : decode cX5_count 65 = .ok (.iaload, 1) := by decide +kernel
theorem dX5_count_66 : decode cX5_count 66 = .ok (.ireturn, 1) := by decide +kernel
theorem dX5_count_67 : decode cX5_count 67 = .ok (.aload_n 0, 1) := by decide +kernel
theorem dX5_count_68 : decode cX5_count 68 = .ok (.getfield 166, 3) := by decide +kernel
theorem dX5_count_71 : decode cX5_count 71 = .ok (.ireturn, 1) := by decide +kernel
theorem dX5_count_72 : decode cX5_count 72 = .ok (.aload_n 0, 1) := by decide +kernel
theorem dX5_count_73 : decode cX5_count 73 = .ok (.iconst 0, 1) := by decide +kernel
theorem dX5_count_74 : decode cX5_count 74 = .ok (.invokevirtual 127, 3) := by decide +kernel
theorem dX5_count_77 : decode cX5_count 77 = .ok (.aload_n 0, 1) := by decide +kernel
theorem dX5_count_78 : decode cX5_count 78 = .ok (.iconst 1, 1) := by decide +kernel
theorem dX5_count_79 : decode cX5_count 79 = .ok (.invokevirtual 127, 3) := by decide +kernel
theorem dX5_count_82 : decode cX5_count 82 = .ok (.iadd, 1) := by decide +kernel
theorem dX5_count_83 : decode cX5_count 83 = .ok (.aload_n 0, 1) := by decide +kernel
theorem dX5_count_84 : decode cX5_count 84 = .ok (.iconst 2, 1) := by decide +kernel
theorem dX5_count_85 : decode cX5_count 85 = .ok (.invokevirtual 127, 3) := by decide +kernel
theorem dX5_count_88 : decode cX5_count 88 = .ok (.iadd, 1) := by decide +kernel
theorem dX5_count_89 : decode cX5_count 89 = .ok (.ireturn, 1) := by decide +kernel
theorem dX5_count_90 : decode cX5_count 90 = .ok (.iload_n 2, 1) := by decide +kernel
theorem dX5_count_91 : decode cX5_count 91 = .ok (.ireturn, 1) := by decide +kernel
theorem dX5_count_92 : decode cX5_count 92 = .ok (.aload_n 0, 1) := by decide +kernel
theorem dX5_count_93 : decode cX5_count 93 = .ok (.iconst 0, 1) := by decide +kernel
theorem dX5_count_94 : decode cX5_count 94 = .ok (.invokevirtual 118, 3) := by decide +kernel
theorem dX5_count_97 : decode cX5_count 97 = .ok (.ireturn, 1) := by decide +kernel
theorem dX5_status_0 : decode cX5_status 0 = .ok (.iload_n 1, 1) := by decide +kernel
theorem dX5_status_1 : decode cX5_status 1 = .ok (.iconst (-1), 1) := by decide +kernel
theorem dX5_status_2 : decode cX5_status 2 = .ok (.bipush 6, 2) := by decide +kernel
theorem dX5_status_4 : decode cX5_status 4 = .ok (.invokestatic 52, 3) := by decide +kernel
theorem dX5_status_7 : decode cX5_status 7 = .ok (.ifCond .ne 9, 3) := by decide +kernel
theorem dX5_status_10 : decode cX5_status 10 = .ok (.aload_n 0, 1) := by decide +kernel
theorem dX5_status_11 : decode cX5_status 11 = .ok (.iconst 0, 1) := by decide +kernel
theorem dX5_status_12 : decode cX5_status 12 = .ok (.invokevirtual 118, 3) := by decide +kernel
theorem dX5_status_15 : decode cX5_status 15 = .ok (.ireturn, 1) := by decide +kernel
theorem dX5_status_16 : decode cX5_status 16 = .ok (.iconst 0, 1) := by decide +kernel
theorem dX5_status_17 : decode cX5_status 17 = .ok (.istore_n 2, 1) := by decide +kernel
theorem dX5_status_18 : decode cX5_status 18 = .ok (.iconst 0, 1) := by decide +kernel
theorem dX5_status_19 : decode cX5_status 19 = .ok (.istore_n 3, 1) := by decide +kernel
theorem dX5_status_20 : decode cX5_status 20 = .ok (.iload_n 3, 1) := by decide +kernel
theorem dX5_status_21 : decode cX5_status 21 = .ok (.bipush 7, 2) := by decide +kernel
theorem dX5_status_23 : decode cX5_status 23 = .ok (.if_icmp .ge 32, 3) := by decide +kernel
theorem dX5_status_26 : decode cX5_status 26 = .ok (.iload_n 2, 1) := by decide +kernel
theorem dX5_status_27 : decode cX5_status 27 = .ok (.iload_n 1, 1) := by decide +kernel
theorem dX5_status_28 : decode cX5_status 28 = .ok (.iconst (-1), 1) := by decide +kernel
theorem dX5_status_29 : decode cX5_status 29 = .ok (.if_icmp .eq 8, 3) := by decide +kernel
theorem dX5_status_32 : decode cX5_status 32 = .ok (.iload_n 1, 1) := by decide +kernel
theorem dX5_status_33 : decode cX5_status 33 = .ok (.iload_n 3, 1) := by decide +kernel
theorem dX5_status_34 : decode cX5_status 34 = .ok (.if_icmp .ne 12, 3) := by decide +kernel
theorem dX5_status_37 : decode cX5_status 37 = .ok (.aload_n 0, 1) := by decide +kernel
theorem dX5_status_38 : decode cX5_status 38 = .ok (.getfield 19, 3) := by decide +kernel
theorem dX5_status_41 : decode cX5_status 41 = .ok (.iload_n 3, 1) := by decide +kernel
theorem dX5_status_42 : decode cX5_status 42 = .ok (.iaload, 1) := by decide +kernel
theorem dX5_status_43 : decode cX5_status 43 = .ok (.goto 4, 3) := by decide +kernel
theorem dX5_status_46 : decode cX5_status 46 = .ok (.iconst 0, 1) := by decide +kernel
theorem dX5_status_47 : decode cX5_status 47 = .ok (.iadd, 1) := by decide +kernel
theorem dX5_status_48 : decode cX5_status 48 = .ok (.istore_n 2, 1) := by decide +kernel
theorem dX5_status_49 : decode cX5_status 49 = .ok (.iinc 3 1, 3) := by decide +kernel
theorem dX5_status_52 : decode cX5_status 52 = .ok (.goto (-32), 3) := by decide +kernel
theorem dX5_status_55 : decode cX5_status 55 = .ok (.iload_n 2, 1) := by decide +kernel
theorem dX5_status_56 : decode cX5_status 56 = .ok (.ireturn, 1) := by decide +kernel
