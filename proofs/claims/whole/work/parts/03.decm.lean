theorem dX9_init_0 : decode cX9_init 0 = .ok (.aload_n 0, 1) := by decide +kernel
theorem dX9_init_1 : decode cX9_init 1 = .ok (.invokespecial 1, 3) := by decide +kernel
theorem dX9_init_4 : decode cX9_init 4 = .ok (.aload_n 0, 1) := by decide +kernel
theorem dX9_init_5 : decode cX9_init 5 = .ok (.bipush 8, 2) := by decide +kernel
theorem dX9_init_7 : decode cX9_init 7 = .ok (.newarray .int, 2) := by decide +kernel
theorem dX9_init_9 : decode cX9_init 9 = .ok (.putfield 7, 3) := by decide +kernel
theorem dX9_init_12 : decode cX9_init 12 = .ok (.aload_n 0, 1) := by decide +kernel
theorem dX9_init_13 : decode cX9_init 13 = .ok (.bipush 8, 2) := by decide +kernel
theorem dX9_init_15 : decode cX9_init 15 = .ok (.newarray .int, 2) := by decide +kernel
theorem dX9_init_17 : decode cX9_init 17 = .ok (.putfield 13, 3) := by decide +kernel
theorem dX9_init_20 : decode cX9_init 20 = .ok (.aload_n 0, 1) := by decide +kernel
theorem dX9_init_21 : decode cX9_init 21 = .ok (.bipush 8, 2) := by decide +kernel
theorem dX9_init_23 : decode cX9_init 23 = .ok (.newarray .int, 2) := by decide +kernel
theorem dX9_init_25 : decode cX9_init 25 = .ok (.dup, 1) := by decide +kernel
theorem dX9_init_26 : decode cX9_init 26 = .ok (.iconst 0, 1) := by decide +kernel
theorem dX9_init_27 : decode cX9_init 27 = .ok (.bipush (-5), 2) := by decide +kernel
theorem dX9_init_29 : decode cX9_init 29 = .ok (.iastore, 1) := by decide +kernel
theorem dX9_init_30 : decode cX9_init 30 = .ok (.dup, 1) := by decide +kernel
theorem dX9_init_31 : decode cX9_init 31 = .ok (.iconst 1, 1) := by decide +kernel
theorem dX9_init_32 : decode cX9_init 32 = .ok (.bipush (-5), 2) := by decide +kernel
theorem dX9_init_34 : decode cX9_init 34 = .ok (.iastore, 1) := by decide +kernel
theorem dX9_init_35 : decode cX9_init 35 = .ok (.dup, 1) := by decide +kernel
theorem dX9_init_36 : decode cX9_init 36 = .ok (.iconst 2, 1) := by decide +kernel
theorem dX9_init_37 : decode cX9_init 37 = .ok (.bipush (-5), 2) := by decide +kernel
theorem dX9_init_39 : decode cX9_init 39 = .ok (.iastore, 1) := by decide +kernel
theorem dX9_init_40 : decode cX9_init 40 = .ok (.dup, 1) := by decide +kernel
theorem dX9_init_41 : decode cX9_init 41 = .ok (.iconst 3, 1) := by decide +kernel
theorem dX9_init_42 : decode cX9_init 42 = .ok (.bipush (-5), 2) := by decide +kernel
theorem dX9_init_44 : decode cX9_init 44 = .ok (.iastore, 1) := by decide +kernel
theorem dX9_init_45 : decode cX9_init 45 = .ok (.dup, 1) := by decide +kernel
theorem dX9_init_46 : decode cX9_init 46 = .ok (.iconst 4, 1) := by decide +kernel
theorem dX9_init_47 : decode cX9_init 47 = .ok (.bipush (-5), 2) := by decide +kernel
theorem dX9_init_49 : decode cX9_init 49 = .ok (.iastore, 1) := by decide +kernel
theorem dX9_init_50 : decode cX9_init 50 = .ok (.dup, 1) := by decide +kernel
theorem dX9_init_51 : decode cX9_init 51 = .ok (.iconst 5, 1) := by decide +kernel
theorem dX9_init_52 : decode cX9_init 52 = .ok (.bipush (-5), 2) := by decide +kernel
theorem dX9_init_54 : decode cX9_init 54 = .ok (.iastore, 1) := by decide +kernel
theorem dX9_init_55 : decode cX9_init 55 = .ok (.dup, 1) := by decide +kernel
theorem dX9_init_56 : decode cX9_init 56 = .ok (.bipush 6, 2) := by decide +kernel
theorem dX9_init_58 : decode cX9_init 58 = .ok (.bipush (-5), 2) := by decide +kernel
theorem dX9_init_60 : decode cX9_init 60 = .ok (.iastore, 1) := by decide +kernel
theorem dX9_init_61 : decode cX9_init 61 = .ok (.dup, 1) := by decide +kernel
theorem dX9_init_62 : decode cX9_init 62 = .ok (.bipush 7, 2) := by decide +kernel
theorem dX9_init_64 : decode cX9_init 64 = .ok (.bipush (-5), 2) := by decide +kernel
theorem dX9_init_66 : decode cX9_init 66 = .ok (.iastore, 1) := by decide +kernel
theorem dX9_init_67 : decode cX9_init 67 = .ok (.putfield 16, 3) := by decide +kernel
theorem dX9_init_70 : decode cX9_init 70 = .ok (.aload_n 0, 1) := by decide +kernel
theorem dX9_init_71 : decode cX9_init 71 = .ok (.bipush 8, 2) := by decide +kernel
theorem dX9_init_73 : decode cX9_init 73 = .ok (.newarray .int, 2) := by decide +kernel
theorem dX9_init_75 : decode cX9_init 75 = .ok (.putfield 19, 3) := by decide +kernel
theorem dX9_init_78 : decode cX9_init 78 = .ok (.aload_n 0, 1) := by decide +kernel
theorem dX9_init_79 : decode cX9_init 79 = .ok (.bipush 8, 2) := by decide +kernel
theorem dX9_init_81 : decode cX9_init 81 = .ok (.newarray .int, 2) := by decide +kernel
theorem dX9_init_83 : decode cX9_init 83 = .ok (.putfield 22, 3) := by decide +kernel
theorem dX9_init_86 : decode cX9_init 86 = .ok (.aload_n 0, 1) := by decide +kernel
theorem dX9_init_87 : decode cX9_init 87 = .ok (.bipush 8, 2) := by decide +kernel
theorem dX9_init_89 : decode cX9_init 89 = .ok (.newarray .int, 2) := by decide +kernel
theorem dX9_init_91 : decode cX9_init 91 = .ok (.putfield 25, 3) := by decide +kernel
theorem dX9_init_94 : decode cX9_init 94 = .ok (.aload_n 0, 1) := by decide +kernel
theorem dX9_init_95 : decode cX9_init 95 = .ok (.bipush 8, 2) := by decide +kernel
theorem dX9_init_97 : decode cX9_init 97 = .ok (.newarray .int, 2) := by decide +kernel
theorem dX9_init_99 : decode cX9_init 99 = .ok (.dup, 1) := by decide +kernel
theorem dX9_init_100 : decode cX9_init 100 = .ok (.iconst 0, 1) := by decide +kernel
theorem dX9_init_101 : decode cX9_init 101 = .ok (.bipush (-5), 2) := by decide +kernel
theorem dX9_init_103 : decode cX9_init 103 = .ok (.iastore, 1) := by decide +kernel
theorem dX9_init_104 : decode cX9_init 104 = .ok (.dup, 1) := by decide +kernel
theorem dX9_init_105 : decode cX9_init 105 = .ok (.iconst 1, 1) := by decide +kernel
theorem dX9_init_106 : decode cX9_init 106 = .ok (.bipush (-5), 2) := by decide +kernel
theorem dX9_init_108 : decode cX9_init 108 = .ok (.iastore, 1) := by decide +kernel
theorem dX9_init_109 : decode cX9_init 109 = .ok (.dup, 1) := by decide +kernel
theorem dX9_init_110 : decode cX9_init 110 = .ok (.iconst 2, 1) := by decide +kernel
theorem dX9_init_111 : decode cX9_init 111 = .ok (.bipush (-5), 2) := by decide +kernel
theorem dX9_init_113 : decode cX9_init 113 = .ok (.iastore, 1) := by decide +kernel
theorem dX9_init_114 : decode cX9_init 114 = .ok (.dup, 1) := by decide +kernel
theorem dX9_init_115 : decode cX9_init 115 = .ok (.iconst 3, 1) := by decide +kernel
theorem dX9_init_116 : decode cX9_init 116 = .ok (.bipush (-5), 2) := by decide +kernel
theorem dX9_init_118 : decode cX9_init 118 = .ok (.iastore, 1) := by decide +kernel
theorem dX9_init_119 : decode cX9_init 119 = .ok (.dup, 1) := by decide +kernel
theorem dX9_init_120 : decode cX9_init 120 = .ok (.iconst 4, 1) := by decide +kernel
theorem dX9_init_121 : decode cX9_init 121 = .ok (.bipush (-5), 2) := by decide +kernel
theorem dX9_init_123 : decode cX9_init 123 = .ok (.iastore, 1) := by decide +kernel
theorem dX9_init_124 : decode cX9_init 124 = .ok (.dup, 1) := by decide +kernel
theorem dX9_init_125 : decode cX9_init 125 = .ok (.iconst 5, 1) := by decide +kernel
theorem dX9_init_126 : decode cX9_init 126 = .ok (.bipush (-5), 2) := by decide +kernel
theorem dX9_init_128 : decode cX9_init 128 = .ok (.iastore, 1) := by decide +kernel
theorem dX9_init_129 : decode cX9_init 129 = .ok (.dup, 1) := by decide +kernel
theorem dX9_init_130 : decode cX9_init 130 = .ok (.bipush 6, 2) := by decide +kernel
theorem dX9_init_132 : decode cX9_init 132 = .ok (.bipush (-5), 2) := by decide +kernel
theorem dX9_init_134 : decode cX9_init 134 = .ok (.iastore, 1) := by decide +kernel
theorem dX9_init_135 : decode cX9_init 135 = .ok (.dup, 1) := by decide +kernel
theorem dX9_init_136 : decode cX9_init 136 = .ok (.bipush 7, 2) := by decide +kernel
theorem dX9_init_138 : decode cX9_init 138 = .ok (.bipush (-5), 2) := by decide +kernel
theorem dX9_init_140 : decode cX9_init 140 = .ok (.iastore, 1) := by decide +kernel
theorem dX9_init_141 : decode cX9_init 141 = .ok (.putfield 28, 3) := by decide +kernel
theorem dX9_init_144 : decode cX9_init 144 = .ok (.aload_n 0, 1) := by decide +kernel
theorem dX9_init_145 : decode cX9_init 145 = .ok (.bipush 8, 2) := by decide +kernel
theorem dX9_init_147 : decode cX9_init 147 = .ok (.newarray .int, 2) := by decide +kernel
theorem dX9_init_149 : decode cX9_init 149 = .ok (.putfield 31, 3) := by decide +kernel
theorem dX9_init_152 : decode cX9_init 152 = .ok (.aload_n 0, 1) := by decide +kernel
theorem dX9_init_153 : decode cX9_init 153 = .ok (.bipush 8, 2) := by decide +kernel
theorem dX9_init_155 : decode cX9_init 155 = .ok (.newarray .int, 2) := by decide +kernel
theorem dX9_init_157 : decode cX9_init 157 = .ok (.dup, 1) := by decide +kernel
theorem dX9_init_158 : decode cX9_init 158 = .ok (.iconst 0, 1) := by decide +kernel
theorem dX9_init_159 : decode cX9_init 159 = .ok (.bipush (-5), 2) := by decide +kernel
theorem dX9_init_161 : decode cX9_init 161 = .ok (.iastore, 1) := by decide +kernel
theorem dX9_init_162 : decode cX9_init 162 = .ok (.dup, 1) := by decide +kernel
theorem dX9_init_163 : decode cX9_init 163 = .ok (.iconst 1, 1) := by decide +kernel
theorem dX9_init_164 : decode cX9_init 164 = .ok (.bipush (-5), 2) := by decide +kernel
theorem dX9_init_166 : decode cX9_init 166 = .ok (.iastore, 1) := by decide +kernel
theorem dX9_init_167 : decode cX9_init 167 = .ok (.dup, 1) := by decide +kernel
theorem dX9_init_168 : decode cX9_init 168 = .ok (.iconst 2, 1) := by decide +kernel
theorem dX9_init_169 : decode cX9_init 169 = .ok (.bipush (-5), 2) := by decide +kernel
theorem dX9_init_171 : decode cX9_init 171 = .ok (.iastore, 1) := by decide +kernel
theorem dX9_init_172 : decode cX9_init 172 = .ok (.dup, 1) := by decide +kernel
theorem dX9_init_173 : decode cX9_init 173 = .ok (.iconst 3, 1) := by decide +kernel
theorem dX9_init_174 : decode cX9_init 174 = .ok (.bipush (-5), 2) := by decide +kernel
theorem dX9_init_176 : decode cX9_init 176 = .ok (.iastore, 1) := by decide +kernel
theorem dX9_init_177 : decode cX9_init 177 = .ok (.dup, 1) := by decide +kernel
theorem dX9_init_178 : decode cX9_init 178 = .ok (.iconst 4, 1) := by decide +kernel
theorem dX9_init_179 : decode cX9_init 179 = .ok (.bipush (-5), 2) := by decide +kernel
theorem dX9_init_181 : decode cX9_init 181 = .ok (.iastore, 1) := by decide +kernel
theorem dX9_init_182 : decode cX9_init 182 = .ok (.dup, 1) := by decide +kernel
theorem dX9_init_183 : decode cX9_init 183 = .ok (.iconst 5, 1) := by decide +kernel
theorem dX9_init_184 : decode cX9_init 184 = .ok (.bipush (-5), 2) := by decide +kernel
theorem dX9_init_186 : decode cX9_init 186 = .ok (.iastore, 1) := by decide +kernel
theorem dX9_init_187 : decode cX9_init 187 = .ok (.dup, 1) := by decide +kernel
theorem dX9_init_188 : decode cX9_init 188 = .ok (.bipush 6, 2) := by decide +kernel
theorem dX9_init_190 : decode cX9_init 190 = .ok (.bipush (-5), 2) := by decide +kernel
theorem dX9_init_192 : decode cX9_init 192 = .ok (.iastore, 1) := by decide +kernel
theorem dX9_init_193 : decode cX9_init 193 = .ok (.dup, 1) := by decide +kernel
theorem dX9_init_194 : decode cX9_init 194 = .ok (.bipush 7, 2) := by decide +kernel
theorem dX9_init_196 : decode cX9_init 196 = .ok (.bipush (-5), 2) := by decide +kernel
theorem dX9_init_198 : decode cX9_init 198 = .ok (.iastore, 1) := by decide +kernel
theorem dX9_init_199 : decode cX9_init 199 = .ok (.putfield 34, 3) := by decide +kernel
theorem dX9_init_202 : decode cX9_init 202 = .ok (.aload_n 0, 1) := by decide +kernel
theorem dX9_init_203 : decode cX9_init 203 = .ok (.bipush 8, 2) := by decide +kernel
theorem dX9_init_205 : decode cX9_init 205 = .ok (.newarray .int, 2) := by decide +kernel
theorem dX9_init_207 : decode cX9_init 207 = .ok (.dup, 1) := by decide +kernel
theorem dX9_init_208 : decode cX9_init 208 = .ok (.iconst 0, 1) := by decide +kernel
theorem dX9_init_209 : decode cX9_init 209 = .ok (.iconst 5, 1) := by decide +kernel
theorem dX9_init_210 : decode cX9_init 210 = .ok (.iastore, 1) := by decide +kernel
theorem dX9_init_211 : decode cX9_init 211 = .ok (.dup, 1) := by decide +kernel
theorem dX9_init_212 : decode cX9_init 212 = .ok (.iconst 1, 1) := by decide +kernel
theorem dX9_init_213 : decode cX9_init 213 = .ok (.iconst 5, 1) := by decide +kernel
theorem dX9_init_214 : decode cX9_init 214 = .ok (.iastore, 1) := by decide +kernel
theorem dX9_init_215 : decode cX9_init 215 = .ok (.dup, 1) := by decide +kernel
theorem dX9_init_216 : decode cX9_init 216 = .ok (.iconst 2, 1) := by decide +kernel
theorem dX9_init_217 : decode cX9_init 217 = .ok (.iconst 5, 1) := by decide +kernel
theorem dX9_init_218 : decode cX9_init 218 = .ok (.iastore, 1) := by decide +kernel
theorem dX9_init_219 : decode cX9_init 219 = .ok (.dup, 1) := by decide +kernel
theorem dX9_init_220 : decode cX9_init 220 = .ok (.iconst 3, 1) := by decide +kernel
theorem dX9_init_221 : decode cX9_init 221 = .ok (.iconst 5, 1) := by decide +kernel
theorem dX9_init_222 : decode cX9_init 222 = .ok (.iastore, 1) := by decide +kernel
theorem dX9_init_223 : decode cX9_init 223 = .ok (.dup, 1) := by decide +kernel
theorem dX9_init_224 : decode cX9_init 224 = .ok (.iconst 4, 1) := by decide +kernel
theorem dX9_init_225 : decode cX9_init 225 = .ok (.iconst 5, 1) := by decide +kernel
theorem dX9_init_226 : decode cX9_init 226 = .ok (.iastore, 1) := by decide +kernel
theorem dX9_init_227 : decode cX9_init 227 = .ok (.dup, 1) := by decide +kernel
theorem dX9_init_228 : decode cX9_init 228 = .ok (.iconst 5, 1) := by decide +kernel
theorem dX9_init_229 : decode cX9_init 229 = .ok (.iconst 5, 1) := by decide +kernel
theorem dX9_init_230 : decode cX9_init 230 = .ok (.iastore, 1) := by decide +kernel
theorem dX9_init_231 : decode cX9_init 231 = .ok (.dup, 1) := by decide +kernel
theorem dX9_init_232 : decode cX9_init 232 = .ok (.bipush 6, 2) := by decide +kernel
theorem dX9_init_234 : decode cX9_init 234 = .ok (.iconst 5, 1) := by decide +kernel
theorem dX9_init_235 : decode cX9_init 235 = .ok (.iastore, 1) := by decide +kernel
theorem dX9_init_236 : decode cX9_init 236 = .ok (.dup, 1) := by decide +kernel
theorem dX9_init_237 : decode cX9_init 237 = .ok (.bipush 7, 2) := by decide +kernel
theorem dX9_init_239 : decode cX9_init 239 = .ok (.iconst 5, 1) := by decide +kernel
theorem dX9_init_240 : decode cX9_init 240 = .ok (.iastore, 1) := by decide +kernel
theorem dX9_init_241 : decode cX9_init 241 = .ok (.putfield 37, 3) := by decide +kernel
theorem dX9_init_244 : decode cX9_init 244 = .ok (.aload_n 0, 1) := by decide +kernel
theorem dX9_init_245 : decode cX9_init 245 = .ok (.bipush 8, 2) := by decide +kernel
theorem dX9_init_247 : decode cX9_init 247 = .ok (.newarray .int, 2) := by decide +kernel
theorem dX9_init_249 : decode cX9_init 249 = .ok (.dup, 1) := by decide +kernel
theorem dX9_init_250 : decode cX9_init 250 = .ok (.iconst 0, 1) := by decide +kernel
theorem dX9_init_251 : decode cX9_init 251 = .ok (.bipush 20, 2) := by decide +kernel
theorem dX9_init_253 : decode cX9_init 253 = .ok (.iastore, 1) := by decide +kernel
theorem dX9_init_254 : decode cX9_init 254 = .ok (.dup, 1) := by decide +kernel
theorem dX9_init_255 : decode cX9_init 255 = .ok (.iconst 1, 1) := by decide +kernel
theorem dX9_init_256 : decode cX9_init 256 = .ok (.bipush 20, 2) := by decide +kernel
theorem dX9_init_258 : decode cX9_init 258 = .ok (.iastore, 1) := by decide +kernel
theorem dX9_init_259 : decode cX9_init 259 = .ok (.dup, 1) := by decide +kernel
theorem dX9_init_260 : decode cX9_init 260 = .ok (.iconst 2, 1) := by decide +kernel
theorem dX9_init_261 : decode cX9_init 261 = .ok (.bipush 20, 2) := by decide +kernel
theorem dX9_init_263 : decode cX9_init 263 = .ok (.iastore, 1) := by decide +kernel
theorem dX9_init_264 : decode cX9_init 264 = .ok (.dup, 1) := by decide +kernel
theorem dX9_init_265 : decode cX9_init 265 = .ok (.iconst 3, 1) := by decide +kernel
theorem dX9_init_266 : decode cX9_init 266 = .ok (.bipush 20, 2) := by decide +kernel
theorem dX9_init_268 : decode cX9_init 268 = .ok (.iastore, 1) := by decide +kernel
theorem dX9_init_269 : decode cX9_init 269 = .ok (.dup, 1) := by decide +kernel
theorem dX9_init_270 : decode cX9_init 270 = .ok (.iconst 4, 1) := by decide +kernel
theorem dX9_init_271 : decode cX9_init 271 = .ok (.bipush 20, 2) := by decide +kernel
theorem dX9_init_273 : decode cX9_init 273 = .ok (.iastore, 1) := by decide +kernel
theorem dX9_init_274 : decode cX9_init 274 = .ok (.dup, 1) := by decide +kernel
theorem dX9_init_275 : decode cX9_init 275 = .ok (.iconst 5, 1) := by decide +kernel
theorem dX9_init_276 : decode cX9_init 276 = .ok (.bipush 20, 2) := by decide +kernel
theorem dX9_init_278 : decode cX9_init 278 = .ok (.iastore, 1) := by decide +kernel
theorem dX9_init_279 : decode cX9_init 279 = .ok (.dup, 1) := by decide +kernel
theorem dX9_init_280 : decode cX9_init 280 = .ok (.bipush 6, 2) := by decide +kernel
theorem dX9_init_282 : decode cX9_init 282 = .ok (.bipush 20, 2) := by decide +kernel
theorem dX9_init_284 : decode cX9_init 284 = .ok (.iastore, 1) := by decide +kernel
theorem dX9_init_285 : decode cX9_init 285 = .ok (.dup, 1) := by decide +kernel
theorem dX9_init_286 : decode cX9_init 286 = .ok (.bipush 7, 2) := by decide +kernel
theorem dX9_init_288 : decode cX9_init 288 = .ok (.bipush 20, 2) := by decide +kernel
theorem dX9_init_290 : decode cX9_init 290 = .ok (.iastore, 1) := by decide +kernel
theorem dX9_init_291 : decode cX9_init 291 = .ok (.putfield 40, 3) := by decide +kernel
theorem dX9_init_294 : decode cX9_init 294 = .ok (.aload_n 0, 1) := by decide +kernel
theorem dX9_init_295 : decode cX9_init 295 = .ok (.bipush 8, 2) := by decide +kernel
theorem dX9_init_297 : decode cX9_init 297 = .ok (.newarray .int, 2) := by decide +kernel
theorem dX9_init_299 : decode cX9_init 299 = .ok (.dup, 1) := by decide +kernel
theorem dX9_init_300 : decode cX9_init 300 = .ok (.iconst 0, 1) := by decide +kernel
theorem dX9_init_301 : decode cX9_init 301 = .ok (.iconst 3, 1) := by decide +kernel
theorem dX9_init_302 : decode cX9_init 302 = .ok (.iastore, 1) := by decide +kernel
theorem dX9_init_303 : decode cX9_init 303 = .ok (.dup, 1) := by decide +kernel
theorem dX9_init_304 : decode cX9_init 304 = .ok (.iconst 1, 1) := by decide +kernel
theorem dX9_init_305 : decode cX9_init 305 = .ok (.iconst 3, 1) := by decide +kernel
theorem dX9_init_306 : decode cX9_init 306 = .ok (.iastore, 1) := by decide +kernel
theorem dX9_init_307 : decode cX9_init 307 = .ok (.dup, 1) := by decide +kernel
theorem dX9_init_308 : decode cX9_init 308 = .ok (.iconst 2, 1) := by decide +kernel
theorem dX9_init_309 : decode cX9_init 309 = .ok (.iconst 3, 1) := by decide +kernel
theorem dX9_init_310 : decode cX9_init 310 = .ok (.iastore, 1) := by decide +kernel
theorem dX9_init_311 : decode cX9_init 311 = .ok (.dup, 1) := by decide +kernel
theorem dX9_init_312 : decode cX9_init 312 = .ok (.iconst 3, 1) := by decide +kernel
theorem dX9_init_313 : decode cX9_init 313 = .ok (.iconst 3, 1) := by decide +kernel
theorem dX9_init_314 : decode cX9_init 314 = .ok (.iastore, 1) := by decide +kernel
theorem dX9_init_315 : decode cX9_init 315 = .ok (.dup, 1) := by decide +kernel
theorem dX9_init_316 : decode cX9_init 316 = .ok (.iconst 4, 1) := by decide +kernel
theorem dX9_init_317 : decode cX9_init 317 = .ok (.iconst 3, 1) := by decide +kernel
theorem dX9_init_318 : decode cX9_init 318 = .ok (.iastore, 1) := by decide +kernel
theorem dX9_init_319 : decode cX9_init 319 = .ok (.dup, 1) := by decide +kernel
theorem dX9_init_320 : decode cX9_init 320 = .ok (.iconst 5, 1) := by decide +kernel
theorem dX9_init_321 : decode cX9_init 321 = .ok (.iconst 3, 1) := by decide +kernel
theorem dX9_init_322 : decode cX9_init 322 = .ok (.iastore, 1) := by decide +kernel
theorem dX9_init_323 : decode cX9_init 323 = .ok (.dup, 1) := by decide +kernel
theorem dX9_init_324 : decode cX9_init 324 = .ok (.bipush 6, 2) := by decide +kernel
theorem dX9_init_326 : decode cX9_init 326 = .ok (.iconst 3, 1) := by decide +kernel
theorem dX9_init_327 : decode cX9_init 327 = .ok (.iastore, 1) := by decide +kernel
theorem dX9_init_328 : decode cX9_init 328 = .ok (.dup, 1) := by decide +kernel
theorem dX9_init_329 : decode cX9_init 329 = .ok (.bipush 7, 2) := by decide +kernel
theorem dX9_init_331 : decode cX9_init 331 = .ok (.iconst 3, 1) := by decide +kernel
theorem dX9_init_332 : decode cX9_init 332 = .ok (.iastore, 1) := by decide +kernel
theorem dX9_init_333 : decode cX9_init 333 = .ok (.putfield 43, 3) := by decide +kernel
theorem dX9_init_336 : decode cX9_init 336 = .ok (.aload_n 0, 1) := by decide +kernel
theorem dX9_init_337 : decode cX9_init 337 = .ok (.bipush 8, 2) := by decide +kernel
theorem dX9_init_339 : decode cX9_init 339 = .ok (.newarray .boolean, 2) := by decide +kernel
theorem dX9_init_341 : decode cX9_init 341 = .ok (.putfield 46, 3) := by decide +kernel
theorem dX9_init_344 : decode cX9_init 344 = .ok (.aload_n 0, 1) := by decide +kernel
theorem dX9_init_345 : decode cX9_init 345 = .ok (.bipush 8, 2) := by decide +kernel
theorem dX9_init_347 : decode cX9_init 347 = .ok (.newarray .boolean, 2) := by decide +kernel
theorem dX9_init_349 : decode cX9_init 349 = .ok (.putfield 50, 3) := by decide +kernel
theorem dX9_init_352 : decode cX9_init 352 = .ok (.aload_n 0, 1) := by decide +kernel
theorem dX9_init_353 : decode cX9_init 353 = .ok (.bipush 64, 2) := by decide +kernel
theorem dX9_init_355 : decode cX9_init 355 = .ok (.newarray .int, 2) := by decide +kernel
theorem dX9_init_357 : decode cX9_init 357 = .ok (.putfield 53, 3) := by decide +kernel
theorem dX9_init_360 : decode cX9_init 360 = .ok (.aload_n 0, 1) := by decide +kernel
theorem dX9_init_361 : decode cX9_init 361 = .ok (.bipush 24, 2) := by decide +kernel
theorem dX9_init_363 : decode cX9_init 363 = .ok (.newarray .int, 2) := by decide +kernel
theorem dX9_init_365 : decode cX9_init 365 = .ok (.putfield 56, 3) := by decide +kernel
theorem dX9_init_368 : decode cX9_init 368 = .ok (.aload_n 0, 1) := by decide +kernel
theorem dX9_init_369 : decode cX9_init 369 = .ok (.bipush 12, 2) := by decide +kernel
theorem dX9_init_371 : decode cX9_init 371 = .ok (.newarray .int, 2) := by decide +kernel
theorem dX9_init_373 : decode cX9_init 373 = .ok (.putfield 59, 3) := by decide +kernel
theorem dX9_init_376 : decode cX9_init 376 = .ok (.aload_n 0, 1) := by decide +kernel
theorem dX9_init_377 : decode cX9_init 377 = .ok (.sipush 2400, 3) := by decide +kernel
theorem dX9_init_380 : decode cX9_init 380 = .ok (.newarray .int, 2) := by decide +kernel
theorem dX9_init_382 : decode cX9_init 382 = .ok (.putfield 62, 3) := by decide +kernel
theorem dX9_init_385 : decode cX9_init 385 = .ok (.aload_n 0, 1) := by decide +kernel
theorem dX9_init_386 : decode cX9_init 386 = .ok (.sipush 2400, 3) := by decide +kernel
theorem dX9_init_389 : decode cX9_init 389 = .ok (.newarray .int, 2) := by decide +kernel
theorem dX9_init_391 : decode cX9_init 391 = .ok (.putfield 65, 3) := by decide +kernel
theorem dX9_init_394 : decode cX9_init 394 = .ok (.aload_n 0, 1) := by decide +kernel
theorem dX9_init_395 : decode cX9_init 395 = .ok (.bipush 16, 2) := by decide +kernel
theorem dX9_init_397 : decode cX9_init 397 = .ok (.newarray .int, 2) := by decide +kernel
theorem dX9_init_399 : decode cX9_init 399 = .ok (.putfield 68, 3) := by decide +kernel
theorem dX9_init_402 : decode cX9_init 402 = .ok (.aload_n 0, 1) := by decide +kernel
theorem dX9_init_403 : decode cX9_init 403 = .ok (.bipush 16, 2) := by decide +kernel
theorem dX9_init_405 : decode cX9_init 405 = .ok (.newarray .int, 2) := by decide +kernel
theorem dX9_init_407 : decode cX9_init 407 = .ok (.putfield 71, 3) := by decide +kernel
theorem dX9_init_410 : decode cX9_init 410 = .ok (.aload_n 0, 1) := by decide +kernel
theorem dX9_init_411 : decode cX9_init 411 = .ok (.bipush 16, 2) := by decide +kernel
theorem dX9_init_413 : decode cX9_init 413 = .ok (.newarray .int, 2) := by decide +kernel
theorem dX9_init_415 : decode cX9_init 415 = .ok (.putfield 74, 3) := by decide +kernel
theorem dX9_init_418 : decode cX9_init 418 = .ok (.aload_n 0, 1) := by decide +kernel
theorem dX9_init_419 : decode cX9_init 419 = .ok (.bipush 16, 2) := by decide +kernel
theorem dX9_init_421 : decode cX9_init 421 = .ok (.newarray .int, 2) := by decide +kernel
theorem dX9_init_423 : decode cX9_init 423 = .ok (.putfield 77, 3) := by decide +kernel
theorem dX9_init_426 : decode cX9_init 426 = .ok (.aload_n 0, 1) := by decide +kernel
theorem dX9_init_427 : decode cX9_init 427 = .ok (.bipush 16, 2) := by decide +kernel
theorem dX9_init_429 : decode cX9_init 429 = .ok (.newarray .int, 2) := by decide +kernel
theorem dX9_init_431 : decode cX9_init 431 = .ok (.putfield 80, 3) := by decide +kernel
theorem dX9_init_434 : decode cX9_init 434 = .ok (.aload_n 0, 1) := by decide +kernel
theorem dX9_init_435 : decode cX9_init 435 = .ok (.bipush 6, 2) := by decide +kernel
theorem dX9_init_437 : decode cX9_init 437 = .ok (.newarray .int, 2) := by decide +kernel
theorem dX9_init_439 : decode cX9_init 439 = .ok (.putfield 83, 3) := by decide +kernel
theorem dX9_init_442 : decode cX9_init 442 = .ok (.aload_n 0, 1) := by decide +kernel
theorem dX9_init_443 : decode cX9_init 443 = .ok (.bipush 6, 2) := by decide +kernel
theorem dX9_init_445 : decode cX9_init 445 = .ok (.newarray .int, 2) := by decide +kernel
theorem dX9_init_447 : decode cX9_init 447 = .ok (.putfield 86, 3) := by decide +kernel
theorem dX9_init_450 : decode cX9_init 450 = .ok (.aload_n 0, 1) := by decide +kernel
theorem dX9_init_451 : decode cX9_init 451 = .ok (.bipush 6, 2) := by decide +kernel
theorem dX9_init_453 : decode cX9_init 453 = .ok (.newarray .int, 2) := by decide +kernel
theorem dX9_init_455 : decode cX9_init 455 = .ok (.putfield 89, 3) := by decide +kernel
theorem dX9_init_458 : decode cX9_init 458 = .ok (.aload_n 0, 1) := by decide +kernel
theorem dX9_init_459 : decode cX9_init 459 = .ok (.bipush 6, 2) := by decide +kernel
theorem dX9_init_461 : decode cX9_init 461 = .ok (.newarray .int, 2) := by decide +kernel
theorem dX9_init_463 : decode cX9_init 463 = .ok (.putfield 92, 3) := by decide +kernel
theorem dX9_init_466 : decode cX9_init 466 = .ok (.aload_n 0, 1) := by decide +kernel
theorem dX9_init_467 : decode cX9_init 467 = .ok (.bipush (-5), 2) := by decide +kernel
theorem dX9_init_469 : decode cX9_init 469 = .ok (.putfield 95, 3) := by decide +kernel
theorem dX9_init_472 : decode cX9_init 472 = .ok (.aload_n 0, 1) := by decide +kernel
theorem dX9_init_473 : decode cX9_init 473 = .ok (.iconst (-1), 1) := by decide +kernel
theorem dX9_init_474 : decode cX9_init 474 = .ok (.putfield 99, 3) := by decide +kernel
theorem dX9_init_477 : decode cX9_init 477 = .ok (.aload_n 0, 1) := by decide +kernel
theorem dX9_init_478 : decode cX9_init 478 = .ok (.bipush (-5), 2) := by decide +kernel
theorem dX9_init_480 : decode cX9_init 480 = .ok (.putfield 102, 3) := by decide +kernel
theorem dX9_init_483 : decode cX9_init 483 = .ok (.aload_n 0, 1) := by decide +kernel
theorem dX9_init_484 : decode cX9_init 484 = .ok (.bipush (-5), 2) := by decide +kernel
theorem dX9_init_486 : decode cX9_init 486 = .ok (.putfield 105, 3) := by decide +kernel
theorem dX9_init_489 : decode cX9_init 489 = .ok (.aload_n 0, 1) := by decide +kernel
theorem dX9_init_490 : decode cX9_init 490 = .ok (.iconst 5, 1) := by decide +kernel
theorem dX9_init_491 : decode cX9_init 491 = .ok (.newarray .int, 2) := by decide +kernel
theorem dX9_init_493 : decode cX9_init 493 = .ok (.putfield 108, 3) := by decide +kernel
theorem dX9_init_496 : decode cX9_init 496 = .ok (.aload_n 0, 1) := by decide +kernel
theorem dX9_init_497 : decode cX9_init 497 = .ok (.bipush (-5), 2) := by decide +kernel
theorem dX9_init_499 : decode cX9_init 499 = .ok (.putfield 111, 3) := by decide +kernel
theorem dX9_init_502 : decode cX9_init 502 = .ok (.aload_n 0, 1) := by decide +kernel
theorem dX9_init_503 : decode cX9_init 503 = .ok (.sipush 488, 3) := by decide +kernel
theorem dX9_init_506 : decode cX9_init 506 = .ok (.newarray .int, 2) := by decide +kernel
theorem dX9_init_508 : decode cX9_init 508 = .ok (.putfield 114, 3) := by decide +kernel
theorem dX9_init_511 : decode cX9_init 511 = .ok (.aload_n 0, 1) := by decide +kernel
theorem dX9_init_512 : decode cX9_init 512 = .ok (.iconst 4, 1) := by decide +kernel
theorem dX9_init_513 : decode cX9_init 513 = .ok (.newarray .int, 2) := by decide +kernel
theorem dX9_init_515 : decode cX9_init 515 = .ok (.putfield 117, 3) := by decide +kernel
theorem dX9_init_518 : decode cX9_init 518 = .ok (.return_, 1) := by decide +kernel
theorem dX9_in_0 : decode cX9_in 0 = .ok (.iload_n 0, 1) := by decide +kernel
theorem dX9_in_1 : decode cX9_in 1 = .ok (.iload_n 1, 1) := by decide +kernel
theorem dX9_in_2 : decode cX9_in 2 = .ok (.if_icmp .lt 12, 3) := by decide +kernel
theorem dX9_in_5 : decode cX9_in 5 = .ok (.iload_n 0, 1) := by decide +kernel
theorem dX9_in_6 : decode cX9_in 6 = .ok (.iload_n 2, 1) := by decide +kernel
theorem dX9_in_7 : decode cX9_in 7 = .ok (.if_icmp .gt 7, 3) := by decide +kernel
theorem dX9_in_10 : decode cX9_in 10 = .ok (.iconst 1, 1) := by decide +kernel
theorem dX9_in_11 : decode cX9_in 11 = .ok (.goto 4, 3) := by decide +kernel
theorem dX9_in_14 : decode cX9_in 14 = .ok (.iconst 0, 1) := by decide +kernel
theorem dX9_in_15 : decode cX9_in 15 = .ok (.ireturn, 1) := by decide +kernel
theorem dX9_isPhase_0 : decode cX9_isPhase 0 = .ok (.iload_n 1, 1) := by decide +kernel
theorem dX9_isPhase_1 : decode cX9_isPhase 1 = .ok (.iconst 0, 1) := by decide +kernel
theorem dX9_isPhase_2 : decode cX9_isPhase 2 = .ok (.aload_n 0, 1) := by decide +kernel
theorem dX9_isPhase_3 : decode cX9_isPhase 3 = .ok (.getfield 120, 3) := by decide +kernel
theorem dX9_isPhase_6 : decode cX9_isPhase 6 = .ok (.iconst 1, 1) := by decide +kernel
theorem dX9_isPhase_7 : decode cX9_isPhase 7 = .ok (.isub, 1) := by decide +kernel
theorem dX9_isPhase_8 : decode cX9_isPhase 8 = .ok (.invokestatic 123, 3) := by decide +kernel
theorem dX9_isPhase_11 : decode cX9_isPhase 11 = .ok (.ireturn, 1) := by decide +kernel
theorem dX9_isStage_0 : decode cX9_isStage 0 = .ok (.iload_n 1, 1) := by decide +kernel
theorem dX9_isStage_1 : decode cX9_isStage 1 = .ok (.iconst 0, 1) := by decide +kernel
theorem dX9_isStage_2 : decode cX9_isStage 2 = .ok (.aload_n 0, 1) := by decide +kernel
theorem dX9_isStage_3 : decode cX9_isStage 3 = .ok (.getfield 127, 3) := by decide +kernel
theorem dX9_isStage_6 : decode cX9_isStage 6 = .ok (.iconst 1, 1) := by decide +kernel
theorem dX9_isStage_7 : decode cX9_isStage 7 = .ok (.isub, 1) := by decide +kernel
theorem dX9_isStage_8 : decode cX9_isStage 8 = .ok (.invokestatic 123, 3) := by decide +kernel
theorem dX9_isStage_11 : decode cX9_isStage 11 = .ok (.ireturn, 1) := by decide +kernel
theorem dX9_isDetector_0 : decode cX9_isDetector 0 = .ok (.iload_n 1, 1) := by decide +kernel
theorem dX9_isDetector_1 : decode cX9_isDetector 1 = .ok (.iconst 0, 1) := by decide +kernel
theorem dX9_isDetector_2 : decode cX9_isDetector 2 = .ok (.aload_n 0, 1) := by decide +kernel
theorem dX9_isDetector_3 : decode cX9_isDetector 3 = .ok (.getfield 130, 3) := by decide +kernel
theorem dX9_isDetector_6 : decode cX9_isDetector 6 = .ok (.iconst 1, 1) := by decide +kernel
theorem dX9_isDetector_7 : decode cX9_isDetector 7 = .ok (.isub, 1) := by decide +kernel
theorem dX9_isDetector_8 : decode cX9_isDetector 8 = .ok (.invokestatic 123, 3) := by decide +kernel
theorem dX9_isDetector_11 : decode cX9_isDetector 11 = .ok (.ireturn, 1) := by decide +kernel
theorem dX9_meets_0 : decode cX9_meets 0 = .ok (.aload_n 0, 1) := by decide +kernel
theorem dX9_meets_1 : decode cX9_meets 1 = .ok (.getfield 53, 3) := by decide +kernel
theorem dX9_meets_4 : decode cX9_meets 4 = .ok (.bipush 8, 2) := by decide +kernel
theorem dX9_meets_6 : decode cX9_meets 6 = .ok (.iload_n 1, 1) := by decide +kernel
theorem dX9_meets_7 : decode cX9_meets 7 = .ok (.imul, 1) := by decide +kernel
theorem dX9_meets_8 : decode cX9_meets 8 = .ok (.iload_n 2, 1) := by decide +kernel
theorem dX9_meets_9 : decode cX9_meets 9 = .ok (.iadd, 1) := by decide +kernel
theorem dX9_meets_10 : decode cX9_meets 10 = .ok (.iaload, 1) := by decide +kernel
theorem dX9_meets_11 : decode cX9_meets 11 = .ok (.ifCond .le 7, 3) := by decide +kernel
theorem dX9_meets_14 : decode cX9_meets 14 = .ok (.iconst 1, 1) := by decide +kernel
theorem dX9_meets_15 : decode cX9_meets 15 = .ok (.goto 4, 3) := by decide +kernel
theorem dX9_meets_18 : decode cX9_meets 18 = .ok (.iconst 0, 1) := by decide +kernel
theorem dX9_meets_19 : decode cX9_meets 19 = .ok (.ireturn, 1) := by decide +kernel
theorem dX9_phase_0 : decode cX9_phase 0 = .ok (.iload_n 1, 1) := by decide +kernel
theorem dX9_phase_1 : decode cX9_phase 1 = .ok (.iconst 0, 1) := by decide +kernel
theorem dX9_phase_2 : decode cX9_phase 2 = .ok (.iconst 4, 1) := by decide +kernel
theorem dX9_phase_3 : decode cX9_phase 3 = .ok (.invokestatic 123, 3) := by decide +kernel
theorem dX9_phase_6 : decode cX9_phase 6 = .ok (.ifCond .ne 5, 3) := by decide +kernel
theorem dX9_phase_9 : decode cX9_phase 9 = .ok (.iconst (-1), 1) := by decide +kernel
theorem dX9_phase_10 : decode cX9_phase 10 = .ok (.ireturn, 1) := by decide +kernel
theorem dX9_phase_11 : decode cX9_phase 11 = .ok (.aload_n 0, 1) := by decide +kernel
theorem dX9_phase_12 : decode cX9_phase 12 = .ok (.getfield 133, 3) := by decide +kernel
theorem dX9_phase_15 : decode cX9_phase 15 = .ok (.ifCond .le 6, 3) := by decide +kernel
theorem dX9_phase_18 : decode cX9_phase 18 = .ok (.bipush (-3), 2) := by decide +kernel
theorem dX9_phase_20 : decode cX9_phase 20 = .ok (.ireturn, 1) := by decide +kernel
theorem dX9_phase_21 : decode cX9_phase 21 = .ok (.aload_n 0, 1) := by decide +kernel
theorem dX9_phase_22 : decode cX9_phase 22 = .ok (.getfield 120, 3) := by decide +kernel
theorem dX9_phase_25 : decode cX9_phase 25 = .ok (.bipush 8, 2) := by decide +kernel
theorem dX9_phase_27 : decode cX9_phase 27 = .ok (.if_icmp .ne 6, 3) := by decide +kernel
theorem dX9_phase_30 : decode cX9_phase 30 = .ok (.bipush (-2), 2) := by decide +kernel
theorem dX9_phase_32 : decode cX9_phase 32 = .ok (.ireturn, 1) := by decide +kernel
theorem dX9_phase_33 : decode cX9_phase 33 = .ok (.aload_n 0, 1) := by decide +kernel
theorem dX9_phase_34 : decode cX9_phase 34 = .ok (.getfield 7, 3) := by decide +kernel
theorem dX9_phase_37 : decode cX9_phase 37 = .ok (.aload_n 0, 1) := by decide +kernel
theorem dX9_phase_38 : decode cX9_phase 38 = .ok (.getfield 120, 3) := by decide +kernel
theorem dX9_phase_41 : decode cX9_phase 41 = .ok (.iload_n 1, 1) := by decide +kernel
theorem dX9_phase_42 : decode cX9_phase 42 = .ok (.iastore, 1) := by decide +kernel
theorem dX9_phase_43 : decode cX9_phase 43 = .ok (.aload_n 0, 1) := by decide +kernel
theorem dX9_phase_44 : decode cX9_phase 44 = .ok (.dup, 1) := by decide +kernel
theorem dX9_phase_45 : decode cX9_phase 45 = .ok (.getfield 120, 3) := by decide +kernel
theorem dX9_phase_48 : decode cX9_phase 48 = .ok (.iconst 1, 1) := by decide +kernel
theorem dX9_phase_49 : decode cX9_phase 49 = .ok (.iadd, 1) := by decide +kernel
theorem dX9_phase_50 : decode cX9_phase 50 = .ok (.putfield 120, 3) := by decide +kernel
theorem dX9_phase_53 : decode cX9_phase 53 = .ok (.aload_n 0, 1) := by decide +kernel
theorem dX9_phase_54 : decode cX9_phase 54 = .ok (.getfield 120, 3) := by decide +kernel
theorem dX9_phase_57 : decode cX9_phase 57 = .ok (.iconst 1, 1) := by decide +kernel
theorem dX9_phase_58 : decode cX9_phase 58 = .ok (.isub, 1) := by decide +kernel
theorem dX9_phase_59 : decode cX9_phase 59 = .ok (.ireturn, 1) := by decide +kernel
theorem dX9_has_0 : decode cX9_has 0 = .ok (.iconst 0, 1) := by decide +kernel
theorem dX9_has_1 : decode cX9_has 1 = .ok (.istore_n 3, 1) := by decide +kernel
theorem dX9_has_2 : decode cX9_has 2 = .ok (.iconst 0, 1) := by decide +kernel
theorem dX9_has_3 : decode cX9_has 3 = .ok (.istore 4, 2) := by decide +kernel
theorem dX9_has_5 : decode cX9_has 5 = .ok (.iload 4, 2) := by decide +kernel
theorem dX9_has_7 : decode cX9_has 7 = .ok (.iconst 4, 1) := by decide +kernel
theorem dX9_has_8 : decode cX9_has 8 = .ok (.if_icmp .ge 32, 3) := by decide +kernel
theorem dX9_has_11 : decode cX9_has 11 = .ok (.iload_n 3, 1) := by decide +kernel
theorem dX9_has_12 : decode cX9_has 12 = .ok (.aload_n 0, 1) := by decide +kernel
theorem dX9_has_13 : decode cX9_has 13 = .ok (.getfield 56, 3) := by decide +kernel
theorem dX9_has_16 : decode cX9_has 16 = .ok (.iconst 4, 1) := by decide +kernel
theorem dX9_has_17 : decode cX9_has 17 = .ok (.iload_n 1, 1) := by decide +kernel
theorem dX9_has_18 : decode cX9_has 18 = .ok (.imul, 1) := by decide +kernel
theorem dX9_has_19 : decode cX9_has 19 = .ok (.iload 4, 2) := by decide +kernel
theorem dX9_has_21 : decode cX9_has 21 = .ok (.iadd, 1) := by decide +kernel
theorem dX9_has_22 : decode cX9_has 22 = .ok (.iaload, 1) := by decide +kernel
theorem dX9_has_23 : decode cX9_has 23 = .ok (.iload_n 2, 1) := by decide +kernel
theorem dX9_has_24 : decode cX9_has 24 = .ok (.if_icmp .ne 7, 3) := by decide +kernel
theorem dX9_has_27 : decode cX9_has 27 = .ok (.iconst 1, 1) := by decide +kernel
theorem dX9_has_28 : decode cX9_has 28 = .ok (.goto 4, 3) := by decide +kernel
theorem dX9_has_31 : decode cX9_has 31 = .ok (.iconst 0, 1) := by decide +kernel
theorem dX9_has_32 : decode cX9_has 32 = .ok (.ior, 1) := by decide +kernel
theorem dX9_has_33 : decode cX9_has 33 = .ok (.istore_n 3, 1) := by decide +kernel
theorem dX9_has_34 : decode cX9_has 34 = .ok (.iinc 4 1, 3) := by decide +kernel
theorem dX9_has_37 : decode cX9_has 37 = .ok (.goto (-32), 3) := by decide +kernel
theorem dX9_has_40 : decode cX9_has 40 = .ok (.iload_n 3, 1) := by decide +kernel
theorem dX9_has_41 : decode cX9_has 41 = .ok (.ireturn, 1) := by decide +kernel
theorem dX9_conflict_0 : decode cX9_conflict 0 = .ok (.aload_n 0, 1) := by decide +kernel
theorem dX9_conflict_1 : decode cX9_conflict 1 = .ok (.iload_n 1, 1) := by decide +kernel
theorem dX9_conflict_2 : decode cX9_conflict 2 = .ok (.invokevirtual 136, 3) := by decide +kernel
theorem dX9_conflict_5 : decode cX9_conflict 5 = .ok (.ifCond .eq 37, 3) := by decide +kernel
theorem dX9_conflict_8 : decode cX9_conflict 8 = .ok (.aload_n 0, 1) := by decide +kernel
theorem dX9_conflict_9 : decode cX9_conflict 9 = .ok (.iload_n 2, 1) := by decide +kernel
theorem dX9_conflict_10 : decode cX9_conflict 10 = .ok (.invokevirtual 136, 3) := by decide +kernel
theorem dX9_conflict_13 : decode cX9_conflict 13 = .ok (.ifCond .eq 29, 3) := by decide +kernel
theorem dX9_conflict_16 : decode cX9_conflict 16 = .ok (.iload_n 1, 1) := by decide +kernel
theorem dX9_conflict_17 : decode cX9_conflict 17 = .ok (.iload_n 2, 1) := by decide +kernel
theorem dX9_conflict_18 : decode cX9_conflict 18 = .ok (.if_icmp .eq 24, 3) := by decide +kernel
theorem dX9_conflict_21 : decode cX9_conflict 21 = .ok (.iload_n 3, 1) := by decide +kernel
theorem dX9_conflict_22 : decode cX9_conflict 22 = .ok (.iconst 0, 1) := by decide +kernel
theorem dX9_conflict_23 : decode cX9_conflict 23 = .ok (.bipush 20, 2) := by decide +kernel
theorem dX9_conflict_25 : decode cX9_conflict 25 = .ok (.invokestatic 123, 3) := by decide +kernel
theorem dX9_conflict_28 : decode cX9_conflict 28 = .ok (.ifCond .eq 14, 3) := by decide +kernel
theorem dX9_conflict_31 : decode cX9_conflict 31 = .ok (.iload 4, 2) := by decide +kernel
theorem dX9_conflict_33 : decode cX9_conflict 33 = .ok (.iconst 0, 1) := by decide +kernel
theorem dX9_conflict_34 : decode cX9_conflict 34 = .ok (.bipush 20, 2) := by decide +kernel
theorem dX9_conflict_36 : decode cX9_conflict 36 = .ok (.invokestatic 123, 3) := by decide +kernel
theorem dX9_conflict_39 : decode cX9_conflict 39 = .ok (.ifCond .ne 5, 3) := by decide +kernel
theorem dX9_conflict_42 : decode cX9_conflict 42 = .ok (.iconst (-1), 1) := by decide +kernel
theorem dX9_conflict_43 : decode cX9_conflict 43 = .ok (.ireturn, 1) := by decide +kernel
theorem dX9_conflict_44 : decode cX9_conflict 44 = .ok (.aload_n 0, 1) := by decide +kernel
theorem dX9_conflict_45 : decode cX9_conflict 45 = .ok (.getfield 133, 3) := by decide +kernel
theorem dX9_conflict_48 : decode cX9_conflict 48 = .ok (.ifCond .le 6, 3) := by decide +kernel
theorem dX9_conflict_51 : decode cX9_conflict 51 = .ok (.bipush (-3), 2) := by decide +kernel
theorem dX9_conflict_53 : decode cX9_conflict 53 = .ok (.ireturn, 1) := by decide +kernel
theorem dX9_conflict_54 : decode cX9_conflict 54 = .ok (.iconst 0, 1) := by decide +kernel
theorem dX9_conflict_55 : decode cX9_conflict 55 = .ok (.istore 5, 2) := by decide +kernel
theorem dX9_conflict_57 : decode cX9_conflict 57 = .ok (.iload 5, 2) := by decide +kernel
theorem dX9_conflict_59 : decode cX9_conflict 59 = .ok (.aload_n 0, 1) := by decide +kernel
theorem dX9_conflict_60 : decode cX9_conflict 60 = .ok (.getfield 127, 3) := by decide +kernel
theorem dX9_conflict_63 : decode cX9_conflict 63 = .ok (.if_icmp .ge 32, 3) := by decide +kernel
theorem dX9_conflict_66 : decode cX9_conflict 66 = .ok (.aload_n 0, 1) := by decide +kernel
theorem dX9_conflict_67 : decode cX9_conflict 67 = .ok (.iload 5, 2) := by decide +kernel
theorem dX9_conflict_69 : decode cX9_conflict 69 = .ok (.iload_n 1, 1) := by decide +kernel
theorem dX9_conflict_70 : decode cX9_conflict 70 = .ok (.invokevirtual 140, 3) := by decide +kernel
theorem dX9_conflict_73 : decode cX9_conflict 73 = .ok (.ifCond .eq 16, 3) := by decide +kernel
theorem dX9_conflict_76 : decode cX9_conflict 76 = .ok (.aload_n 0, 1) := by decide +kernel
theorem dX9_conflict_77 : decode cX9_conflict 77 = .ok (.iload 5, 2) := by decide +kernel
theorem dX9_conflict_79 : decode cX9_conflict 79 = .ok (.iload_n 2, 1) := by decide +kernel
theorem dX9_conflict_80 : decode cX9_conflict 80 = .ok (.invokevirtual 140, 3) := by decide +kernel
theorem dX9_conflict_83 : decode cX9_conflict 83 = .ok (.ifCond .eq 6, 3) := by decide +kernel
theorem dX9_conflict_86 : decode cX9_conflict 86 = .ok (.bipush (-4), 2) := by decide +kernel
theorem dX9_conflict_88 : decode cX9_conflict 88 = .ok (.ireturn, 1) := by decide +kernel
theorem dX9_conflict_89 : decode cX9_conflict 89 = .ok (.iinc 5 1, 3) := by decide +kernel
theorem dX9_conflict_92 : decode cX9_conflict 92 = .ok (.goto (-35), 3) := by decide +kernel
theorem dX9_conflict_95 : decode cX9_conflict 95 = .ok (.aload_n 0, 1) := by decide +kernel
theorem dX9_conflict_96 : decode cX9_conflict 96 = .ok (.getfield 53, 3) := by decide +kernel
theorem dX9_conflict_99 : decode cX9_conflict 99 = .ok (.bipush 8, 2) := by decide +kernel
theorem dX9_conflict_101 : decode cX9_conflict 101 = .ok (.iload_n 1, 1) := by decide +kernel
theorem dX9_conflict_102 : decode cX9_conflict 102 = .ok (.imul, 1) := by decide +kernel
theorem dX9_conflict_103 : decode cX9_conflict 103 = .ok (.iload_n 2, 1) := by decide +kernel
theorem dX9_conflict_104 : decode cX9_conflict 104 = .ok (.iadd, 1) := by decide +kernel
theorem dX9_conflict_105 : decode cX9_conflict 105 = .ok (.iload_n 3, 1) := by decide +kernel
theorem dX9_conflict_106 : decode cX9_conflict 106 = .ok (.iconst 1, 1) := by decide +kernel
theorem dX9_conflict_107 : decode cX9_conflict 107 = .ok (.iadd, 1) := by decide +kernel
theorem dX9_conflict_108 : decode cX9_conflict 108 = .ok (.iastore, 1) := by decide +kernel
theorem dX9_conflict_109 : decode cX9_conflict 109 = .ok (.aload_n 0, 1) := by decide +kernel
theorem dX9_conflict_110 : decode cX9_conflict 110 = .ok (.getfield 53, 3) := by decide +kernel
theorem dX9_conflict_113 : decode cX9_conflict 113 = .ok (.bipush 8, 2) := by decide +kernel
theorem dX9_conflict_115 : decode cX9_conflict 115 = .ok (.iload_n 2, 1) := by decide +kernel
theorem dX9_conflict_116 : decode cX9_conflict 116 = .ok (.imul, 1) := by decide +kernel
theorem dX9_conflict_117 : decode cX9_conflict 117 = .ok (.iload_n 1, 1) := by decide +kernel
theorem dX9_conflict_118 : decode cX9_conflict 118 = .ok (.iadd, 1) := by decide +kernel
theorem dX9_conflict_119 : decode cX9_conflict 119 = .ok (.iload 4, 2) := by decide +kernel
theorem dX9_conflict_121 : decode cX9_conflict 121 = .ok (.iconst 1, 1) := by decide +kernel
theorem dX9_conflict_122 : decode cX9_conflict 122 = .ok (.iadd, 1) := by decide +kernel
theorem dX9_conflict_123 : decode cX9_conflict 123 = .ok (.iastore, 1) := by decide +kernel
theorem dX9_conflict_124 : decode cX9_conflict 124 = .ok (.iconst 1, 1) := by decide +kernel
theorem dX9_conflict_125 : decode cX9_conflict 125 = .ok (.ireturn, 1) := by decide +kernel
theorem dX9_stage_0 : decode cX9_stage 0 = .ok (.aload_n 0, 1) := by decide +kernel
theorem dX9_stage_1 : decode cX9_stage 1 = .ok (.getfield 117, 3) := by decide +kernel
theorem dX9_stage_4 : decode cX9_stage 4 = .ok (.iconst 0, 1) := by decide +kernel
theorem dX9_stage_5 : decode cX9_stage 5 = .ok (.iload_n 1, 1) := by decide +kernel
theorem dX9_stage_6 : decode cX9_stage 6 = .ok (.iastore, 1) := by decide +kernel
theorem dX9_stage_7 : decode cX9_stage 7 = .ok (.aload_n 0, 1) := by decide +kernel
theorem dX9_stage_8 : decode cX9_stage 8 = .ok (.getfield 117, 3) := by decide +kernel
theorem dX9_stage_11 : decode cX9_stage 11 = .ok (.iconst 1, 1) := by decide +kernel
theorem dX9_stage_12 : decode cX9_stage 12 = .ok (.iload_n 2, 1) := by decide +kernel
theorem dX9_stage_13 : decode cX9_stage 13 = .ok (.iastore, 1) := by decide +kernel
theorem dX9_stage_14 : decode cX9_stage 14 = .ok (.aload_n 0, 1) := by decide +kernel
theorem dX9_stage_15 : decode cX9_stage 15 = .ok (.getfield 117, 3) := by decide +kernel
theorem dX9_stage_18 : decode cX9_stage 18 = .ok (.iconst 2, 1) := by decide +kernel
theorem dX9_stage_19 : decode cX9_stage 19 = .ok (.iload_n 3, 1) := by decide +kernel
theorem dX9_stage_20 : decode cX9_stage 20 = .ok (.iastore, 1) := by decide +kernel
theorem dX9_stage_21 : decode cX9_stage 21 = .ok (.aload_n 0, 1) := by decide +kernel
theorem dX9_stage_22 : decode cX9_stage 22 = .ok (.getfield 117, 3) := by decide +kernel
theorem dX9_stage_25 : decode cX9_stage 25 = .ok (.iconst 3, 1) := by decide +kernel
theorem dX9_stage_26 : decode cX9_stage 26 = .ok (.iload 4, 2) := by decide +kernel
theorem dX9_stage_28 : decode cX9_stage 28 = .ok (.iastore, 1) := by decide +kernel
theorem dX9_stage_29 : decode cX9_stage 29 = .ok (.iconst 0, 1) := by decide +kernel
theorem dX9_stage_30 : decode cX9_stage 30 = .ok (.istore 5, 2) := by decide +kernel
theorem dX9_stage_32 : decode cX9_stage 32 = .ok (.iconst 0, 1) := by decide +kernel
theorem dX9_stage_33 : decode cX9_stage 33 = .ok (.istore 6, 2) := by decide +kernel
theorem dX9_stage_35 : decode cX9_stage 35 = .ok (.iconst 0, 1) := by decide +kernel
theorem dX9_stage_36 : decode cX9_stage 36 = .ok (.istore 7, 2) := by decide +kernel
theorem dX9_stage_38 : decode cX9_stage 38 = .ok (.iload 7, 2) := by decide +kernel
theorem dX9_stage_40 : decode cX9_stage 40 = .ok (.iconst 4, 1) := by decide +kernel
theorem dX9_stage_41 : decode cX9_stage 41 = .ok (.if_icmp .ge 110, 3) := by decide +kernel
theorem dX9_stage_44 : decode cX9_stage 44 = .ok (.aload_n 0, 1) := by decide +kernel
theorem dX9_stage_45 : decode cX9_stage 45 = .ok (.getfield 117, 3) := by decide +kernel
theorem dX9_stage_48 : decode cX9_stage 48 = .ok (.iload 7, 2) := by decide +kernel
theorem dX9_stage_50 : decode cX9_stage 50 = .ok (.iaload, 1) := by decide +kernel
theorem dX9_stage_51 : decode cX9_stage 51 = .ok (.istore 8, 2) := by decide +kernel
theorem dX9_stage_53 : decode cX9_stage 53 = .ok (.iload 8, 2) := by decide +kernel
theorem dX9_stage_55 : decode cX9_stage 55 = .ok (.bipush (-5), 2) := by decide +kernel
theorem dX9_stage_57 : decode cX9_stage 57 = .ok (.if_icmp .ne 6, 3) := by decide +kernel
theorem dX9_stage_60 : decode cX9_stage 60 = .ok (.goto 85, 3) := by decide +kernel
theorem dX9_stage_63 : decode cX9_stage 63 = .ok (.aload_n 0, 1) := by decide +kernel
theorem dX9_stage_64 : decode cX9_stage 64 = .ok (.iload 8, 2) := by decide +kernel
theorem dX9_stage_66 : decode cX9_stage 66 = .ok (.invokevirtual 136, 3) := by decide +kernel
theorem dX9_stage_69 : decode cX9_stage 69 = .ok (.ifCond .ne 5, 3) := by decide +kernel
theorem dX9_stage_72 : decode cX9_stage 72 = .ok (.iconst (-1), 1) := by decide +kernel
theorem dX9_stage_73 : decode cX9_stage 73 = .ok (.ireturn, 1) := by decide +kernel
theorem dX9_stage_74 : decode cX9_stage 74 = .ok (.iconst 1, 1) := by decide +kernel
theorem dX9_stage_75 : decode cX9_stage 75 = .ok (.istore 5, 2) := by decide +kernel
theorem dX9_stage_77 : decode cX9_stage 77 = .ok (.iconst 0, 1) := by decide +kernel
theorem dX9_stage_78 : decode cX9_stage 78 = .ok (.istore 9, 2) := by decide +kernel
theorem dX9_stage_80 : decode cX9_stage 80 = .ok (.iload 9, 2) := by decide +kernel
theorem dX9_stage_82 : decode cX9_stage 82 = .ok (.iload 7, 2) := by decide +kernel
theorem dX9_stage_84 : decode cX9_stage 84 = .ok (.if_icmp .ge 61, 3) := by decide +kernel
theorem dX9_stage_87 : decode cX9_stage 87 = .ok (.aload_n 0, 1) := by decide +kernel
theorem dX9_stage_88 : decode cX9_stage 88 = .ok (.getfield 117, 3) := by decide +kernel
theorem dX9_stage_91 : decode cX9_stage 91 = .ok (.iload 9, 2) := by decide +kernel
theorem dX9_stage_93 : decode cX9_stage 93 = .ok (.iaload, 1) := by decide +kernel
theorem dX9_stage_94 : decode cX9_stage 94 = .ok (.iload 8, 2) := by decide +kernel
theorem dX9_stage_96 : decode cX9_stage 96 = .ok (.if_icmp .ne 5, 3) := by decide +kernel
theorem dX9_stage_99 : decode cX9_stage 99 = .ok (.iconst (-1), 1) := by decide +kernel
theorem dX9_stage_100 : decode cX9_stage 100 = .ok (.ireturn, 1) := by decide +kernel
theorem dX9_stage_101 : decode cX9_stage 101 = .ok (.iload 6, 2) := by decide +kernel
theorem dX9_stage_103 : decode cX9_stage 103 = .ok (.aload_n 0, 1) := by decide +kernel
theorem dX9_stage_104 : decode cX9_stage 104 = .ok (.getfield 117, 3) := by decide +kernel
theorem dX9_stage_107 : decode cX9_stage 107 = .ok (.iload 9, 2) := by decide +kernel
theorem dX9_stage_109 : decode cX9_stage 109 = .ok (.iaload, 1) := by decide +kernel
theorem dX9_stage_110 : decode cX9_stage 110 = .ok (.bipush (-5), 2) := by decide +kernel
theorem dX9_stage_112 : decode cX9_stage 112 = .ok (.if_icmp .eq 23, 3) := by decide +kernel
theorem dX9_stage_115 : decode cX9_stage 115 = .ok (.aload_n 0, 1) := by decide +kernel
theorem dX9_stage_116 : decode cX9_stage 116 = .ok (.iload 8, 2) := by decide +kernel
theorem dX9_stage_118 : decode cX9_stage 118 = .ok (.aload_n 0, 1) := by decide +kernel
theorem dX9_stage_119 : decode cX9_stage 119 = .ok (.getfield 117, 3) := by decide +kernel
theorem dX9_stage_122 : decode cX9_stage 122 = .ok (.iload 9, 2) := by decide +kernel
theorem dX9_stage_124 : decode cX9_stage 124 = .ok (.iaload, 1) := by decide +kernel
theorem dX9_stage_125 : decode cX9_stage 125 = .ok (.invokevirtual 144, 3) := by decide +kernel
theorem dX9_stage_128 : decode cX9_stage 128 = .ok (.ifCond .eq 7, 3) := by decide +kernel
theorem dX9_stage_131 : decode cX9_stage 131 = .ok (.iconst 1, 1) := by decide +kernel
theorem dX9_stage_132 : decode cX9_stage 132 = .ok (.goto 4, 3) := by decide +kernel
theorem dX9_stage_135 : decode cX9_stage 135 = .ok (.iconst 0, 1) := by decide +kernel
theorem dX9_stage_136 : decode cX9_stage 136 = .ok (.ior, 1) := by decide +kernel
theorem dX9_stage_137 : decode cX9_stage 137 = .ok (.istore 6, 2) := by decide +kernel
theorem dX9_stage_139 : decode cX9_stage 139 = .ok (.iinc 9 1, 3) := by decide +kernel
theorem dX9_stage_142 : decode cX9_stage 142 = .ok (.goto (-62), 3) := by decide +kernel
theorem dX9_stage_145 : decode cX9_stage 145 = .ok (.iinc 7 1, 3) := by decide +kernel
theorem dX9_stage_148 : decode cX9_stage 148 = .ok (.goto (-110), 3) := by decide +kernel
theorem dX9_stage_151 : decode cX9_stage 151 = .ok (.iload 5, 2) := by decide +kernel
theorem dX9_stage_153 : decode cX9_stage 153 = .ok (.ifCond .ne 5, 3) := by decide +kernel
theorem dX9_stage_156 : decode cX9_stage 156 = .ok (.iconst (-1), 1) := by decide +kernel
theorem dX9_stage_157 : decode cX9_stage 157 = .ok (.ireturn, 1) := by decide +kernel
theorem dX9_stage_158 : decode cX9_stage 158 = .ok (.aload_n 0, 1) := by decide +kernel
theorem dX9_stage_159 : decode cX9_stage 159 = .ok (.getfield 133, 3) := by decide +kernel
theorem dX9_stage_162 : decode cX9_stage 162 = .ok (.ifCond .le 6, 3) := by decide +kernel
theorem dX9_stage_165 : decode cX9_stage 165 = .ok (.bipush (-3), 2) := by decide +kernel
theorem dX9_stage_167 : decode cX9_stage 167 = .ok (.ireturn, 1) := by decide +kernel
theorem dX9_stage_168 : decode cX9_stage 168 = .ok (.iload 6, 2) := by decide +kernel
theorem dX9_stage_170 : decode cX9_stage 170 = .ok (.ifCond .eq 6, 3) := by decide +kernel
theorem dX9_stage_173 : decode cX9_stage 173 = .ok (.bipush (-4), 2) := by decide +kernel
theorem dX9_stage_175 : decode cX9_stage 175 = .ok (.ireturn, 1) := by decide +kernel
theorem dX9_stage_176 : decode cX9_stage 176 = .ok (.aload_n 0, 1) := by decide +kernel
theorem dX9_stage_177 : decode cX9_stage 177 = .ok (.getfield 127, 3) := by decide +kernel
theorem dX9_stage_180 : decode cX9_stage 180 = .ok (.bipush 6, 2) := by decide +kernel
theorem dX9_stage_182 : decode cX9_stage 182 = .ok (.if_icmp .ne 6, 3) := by decide +kernel
theorem dX9_stage_185 : decode cX9_stage 185 = .ok (.bipush (-2), 2) := by decide +kernel
theorem dX9_stage_187 : decode cX9_stage 187 = .ok (.ireturn, 1) := by decide +kernel
theorem dX9_stage_188 : decode cX9_stage 188 = .ok (.iconst 0, 1) := by decide +kernel
theorem dX9_stage_189 : decode cX9_stage 189 = .ok (.istore 7, 2) := by decide +kernel
theorem dX9_stage_191 : decode cX9_stage 191 = .ok (.iload 7, 2) := by decide +kernel
theorem dX9_stage_193 : decode cX9_stage 193 = .ok (.iconst 4, 1) := by decide +kernel
theorem dX9_stage_194 : decode cX9_stage 194 = .ok (.if_icmp .ge 30, 3) := by decide +kernel
theorem dX9_stage_197 : decode cX9_stage 197 = .ok (.aload_n 0, 1) := by decide +kernel
theorem dX9_stage_198 : decode cX9_stage 198 = .ok (.getfield 56, 3) := by decide +kernel
theorem dX9_stage_201 : decode cX9_stage 201 = .ok (.iconst 4, 1) := by decide +kernel
theorem dX9_stage_202 : decode cX9_stage 202 = .ok (.aload_n 0, 1) := by decide +kernel
theorem dX9_stage_203 : decode cX9_stage 203 = .ok (.getfield 127, 3) := by decide +kernel
theorem dX9_stage_206 : decode cX9_stage 206 = .ok (.imul, 1) := by decide +kernel
theorem dX9_stage_207 : decode cX9_stage 207 = .ok (.iload 7, 2) := by decide +kernel
theorem dX9_stage_209 : decode cX9_stage 209 = .ok (.iadd, 1) := by decide +kernel
theorem dX9_stage_210 : decode cX9_stage 210 = .ok (.aload_n 0, 1) := by decide +kernel
theorem dX9_stage_211 : decode cX9_stage 211 = .ok (.getfield 117, 3) := by decide +kernel
theorem dX9_stage_214 : decode cX9_stage 214 = .ok (.iload 7, 2) := by decide +kernel
theorem dX9_stage_216 : decode cX9_stage 216 = .ok (.iaload, 1) := by decide +kernel
theorem dX9_stage_217 : decode cX9_stage 217 = .ok (.iastore, 1) := by decide +kernel
theorem dX9_stage_218 : decode cX9_stage 218 = .ok (.iinc 7 1, 3) := by decide +kernel
theorem dX9_stage_221 : decode cX9_stage 221 = .ok (.goto (-30), 3) := by decide +kernel
theorem dX9_stage_224 : decode cX9_stage 224 = .ok (.aload_n 0, 1) := by decide +kernel
theorem dX9_stage_225 : decode cX9_stage 225 = .ok (.dup, 1) := by decide +kernel
theorem dX9_stage_226 : decode cX9_stage 226 = .ok (.getfield 127, 3) := by decide +kernel
theorem dX9_stage_229 : decode cX9_stage 229 = .ok (.iconst 1, 1) := by decide +kernel
theorem dX9_stage_230 : decode cX9_stage 230 = .ok (.iadd, 1) := by decide +kernel
theorem dX9_stage_231 : decode cX9_stage 231 = .ok (.putfield 127, 3) := by decide +kernel
theorem dX9_stage_234 : decode cX9_stage 234 = .ok (.aload_n 0, 1) := by decide +kernel
theorem dX9_stage_235 : decode cX9_stage 235 = .ok (.getfield 127, 3) := by decide +kernel
theorem dX9_stage_238 : decode cX9_stage 238 = .ok (.iconst 1, 1) := by decide +kernel
theorem dX9_stage_239 : decode cX9_stage 239 = .ok (.isub, 1) := by decide +kernel
theorem dX9_stage_240 : decode cX9_stage 240 = .ok (.ireturn, 1) := by decide +kernel
theorem dX9_detector_0 : decode cX9_detector 0 = .ok (.aload_n 0, 1) := by decide +kernel
theorem dX9_detector_1 : decode cX9_detector 1 = .ok (.iload_n 1, 1) := by decide +kernel
theorem dX9_detector_2 : decode cX9_detector 2 = .ok (.invokevirtual 136, 3) := by decide +kernel
theorem dX9_detector_5 : decode cX9_detector 5 = .ok (.ifCond .ne 5, 3) := by decide +kernel
theorem dX9_detector_8 : decode cX9_detector 8 = .ok (.iconst (-1), 1) := by decide +kernel
theorem dX9_detector_9 : decode cX9_detector 9 = .ok (.ireturn, 1) := by decide +kernel
theorem dX9_detector_10 : decode cX9_detector 10 = .ok (.aload_n 0, 1) := by decide +kernel
theorem dX9_detector_11 : decode cX9_detector 11 = .ok (.getfield 130, 3) := by decide +kernel
theorem dX9_detector_14 : decode cX9_detector 14 = .ok (.bipush 12, 2) := by decide +kernel
theorem dX9_detector_16 : decode cX9_detector 16 = .ok (.if_icmp .ne 6, 3) := by decide +kernel
theorem dX9_detector_19 : decode cX9_detector 19 = .ok (.bipush (-2), 2) := by decide +kernel
theorem dX9_detector_21 : decode cX9_detector 21 = .ok (.ireturn, 1) := by decide +kernel
theorem dX9_detector_22 : decode cX9_detector 22 = .ok (.aload_n 0, 1) := by decide +kernel
theorem dX9_detector_23 : decode cX9_detector 23 = .ok (.getfield 16, 3) := by decide +kernel
theorem dX9_detector_26 : decode cX9_detector 26 = .ok (.iload_n 1, 1) := by decide +kernel
theorem dX9_detector_27 : decode cX9_detector 27 = .ok (.aload_n 0, 1) := by decide +kernel
theorem dX9_detector_28 : decode cX9_detector 28 = .ok (.getfield 130, 3) := by decide +kernel
theorem dX9_detector_31 : decode cX9_detector 31 = .ok (.iastore, 1) := by decide +kernel
theorem dX9_detector_32 : decode cX9_detector 32 = .ok (.aload_n 0, 1) := by decide +kernel
theorem dX9_detector_33 : decode cX9_detector 33 = .ok (.getfield 59, 3) := by decide +kernel
theorem dX9_detector_36 : decode cX9_detector 36 = .ok (.aload_n 0, 1) := by decide +kernel
theorem dX9_detector_37 : decode cX9_detector 37 = .ok (.getfield 130, 3) := by decide +kernel
theorem dX9_detector_40 : decode cX9_detector 40 = .ok (.iconst 0, 1) := by decide +kernel
theorem dX9_detector_41 : decode cX9_detector 41 = .ok (.iastore, 1) := by decide +kernel
theorem dX9_detector_42 : decode cX9_detector 42 = .ok (.aload_n 0, 1) := by decide +kernel
theorem dX9_detector_43 : decode cX9_detector 43 = .ok (.dup, 1) := by decide +kernel
theorem dX9_detector_44 : decode cX9_detector 44 = .ok (.getfield 130, 3) := by decide +kernel
theorem dX9_detector_47 : decode cX9_detector 47 = .ok (.iconst 1, 1) := by decide +kernel
theorem dX9_detector_48 : decode cX9_detector 48 = .ok (.iadd, 1) := by decide +kernel
theorem dX9_detector_49 : decode cX9_detector 49 = .ok (.putfield 130, 3) := by decide +kernel
theorem dX9_detector_52 : decode cX9_detector 52 = .ok (.aload_n 0, 1) := by decide +kernel
theorem dX9_detector_53 : decode cX9_detector 53 = .ok (.getfield 130, 3) := by decide +kernel
theorem dX9_detector_56 : decode cX9_detector 56 = .ok (.iconst 1, 1) := by decide +kernel
theorem dX9_detector_57 : decode cX9_detector 57 = .ok (.isub, 1) := by decide +kernel
theorem dX9_detector_58 : decode cX9_detector 58 = .ok (.ireturn, 1) := by decide +kernel
theorem dX9_cut_0 : decode cX9_cut 0 = .ok (.aload_n 0, 1) := by decide +kernel
theorem dX9_cut_1 : decode cX9_cut 1 = .ok (.iload_n 1, 1) := by decide +kernel
theorem dX9_cut_2 : decode cX9_cut 2 = .ok (.invokevirtual 147, 3) := by decide +kernel
theorem dX9_cut_5 : decode cX9_cut 5 = .ok (.ifCond .ne 5, 3) := by decide +kernel
theorem dX9_cut_8 : decode cX9_cut 8 = .ok (.iconst (-1), 1) := by decide +kernel
theorem dX9_cut_9 : decode cX9_cut 9 = .ok (.ireturn, 1) := by decide +kernel
theorem dX9_cut_10 : decode cX9_cut 10 = .ok (.aload_n 0, 1) := by decide +kernel
theorem dX9_cut_11 : decode cX9_cut 11 = .ok (.getfield 59, 3) := by decide +kernel
theorem dX9_cut_14 : decode cX9_cut 14 = .ok (.iload_n 1, 1) := by decide +kernel
theorem dX9_cut_15 : decode cX9_cut 15 = .ok (.iaload, 1) := by decide +kernel
theorem dX9_cut_16 : decode cX9_cut 16 = .ok (.ifCond .ge 6, 3) := by decide +kernel
theorem dX9_cut_19 : decode cX9_cut 19 = .ok (.bipush (-3), 2) := by decide +kernel
theorem dX9_cut_21 : decode cX9_cut 21 = .ok (.ireturn, 1) := by decide +kernel
theorem dX9_cut_22 : decode cX9_cut 22 = .ok (.aload_n 0, 1) := by decide +kernel
theorem dX9_cut_23 : decode cX9_cut 23 = .ok (.getfield 59, 3) := by decide +kernel
theorem dX9_cut_26 : decode cX9_cut 26 = .ok (.iload_n 1, 1) := by decide +kernel
theorem dX9_cut_27 : decode cX9_cut 27 = .ok (.iaload, 1) := by decide +kernel
theorem dX9_cut_28 : decode cX9_cut 28 = .ok (.istore_n 2, 1) := by decide +kernel
theorem dX9_cut_29 : decode cX9_cut 29 = .ok (.aload_n 0, 1) := by decide +kernel
theorem dX9_cut_30 : decode cX9_cut 30 = .ok (.getfield 59, 3) := by decide +kernel
theorem dX9_cut_33 : decode cX9_cut 33 = .ok (.iload_n 1, 1) := by decide +kernel
theorem dX9_cut_34 : decode cX9_cut 34 = .ok (.bipush (-5), 2) := by decide +kernel
theorem dX9_cut_36 : decode cX9_cut 36 = .ok (.iastore, 1) := by decide +kernel
theorem dX9_cut_37 : decode cX9_cut 37 = .ok (.iload_n 2, 1) := by decide +kernel
theorem dX9_cut_38 : decode cX9_cut 38 = .ok (.ireturn, 1) := by decide +kernel
theorem dX9_passing_0 : decode cX9_passing 0 = .ok (.aload_n 0, 1) := by decide +kernel
theorem dX9_passing_1 : decode cX9_passing 1 = .ok (.iload_n 1, 1) := by decide +kernel
theorem dX9_passing_2 : decode cX9_passing 2 = .ok (.invokevirtual 147, 3) := by decide +kernel
theorem dX9_passing_5 : decode cX9_passing 5 = .ok (.ifCond .eq 25, 3) := by decide +kernel
theorem dX9_passing_8 : decode cX9_passing 8 = .ok (.iload_n 2, 1) := by decide +kernel
theorem dX9_passing_9 : decode cX9_passing 9 = .ok (.bipush (-128), 2) := by decide +kernel
theorem dX9_passing_11 : decode cX9_passing 11 = .ok (.bipush 127, 2) := by decide +kernel
theorem dX9_passing_13 : decode cX9_passing 13 = .ok (.invokestatic 123, 3) := by decide +kernel
theorem dX9_passing_16 : decode cX9_passing 16 = .ok (.ifCond .eq 14, 3) := by decide +kernel
theorem dX9_passing_19 : decode cX9_passing 19 = .ok (.iload_n 3, 1) := by decide +kernel
theorem dX9_passing_20 : decode cX9_passing 20 = .ok (.iconst 0, 1) := by decide +kernel
theorem dX9_passing_21 : decode cX9_passing 21 = .ok (.sipush 10000, 3) := by decide +kernel
theorem dX9_passing_24 : decode cX9_passing 24 = .ok (.invokestatic 123, 3) := by decide +kernel
theorem dX9_passing_27 : decode cX9_passing 27 = .ok (.ifCond .ne 5, 3) := by decide +kernel
theorem dX9_passing_30 : decode cX9_passing 30 = .ok (.iconst (-1), 1) := by decide +kernel
theorem dX9_passing_31 : decode cX9_passing 31 = .ok (.ireturn, 1) := by decide +kernel
theorem dX9_passing_32 : decode cX9_passing 32 = .ok (.aload_n 0, 1) := by decide +kernel
theorem dX9_passing_33 : decode cX9_passing 33 = .ok (.getfield 59, 3) := by decide +kernel
theorem dX9_passing_36 : decode cX9_passing 36 = .ok (.iload_n 1, 1) := by decide +kernel
theorem dX9_passing_37 : decode cX9_passing 37 = .ok (.iaload, 1) := by decide +kernel
theorem dX9_passing_38 : decode cX9_passing 38 = .ok (.ifCond .ge 6, 3) := by decide +kernel
theorem dX9_passing_41 : decode cX9_passing 41 = .ok (.bipush (-3), 2) := by decide +kernel
theorem dX9_passing_43 : decode cX9_passing 43 = .ok (.ireturn, 1) := by decide +kernel
theorem dX9_passing_44 : decode cX9_passing 44 = .ok (.aload_n 0, 1) := by decide +kernel
theorem dX9_passing_45 : decode cX9_passing 45 = .ok (.getfield 59, 3) := by decide +kernel
theorem dX9_passing_48 : decode cX9_passing 48 = .ok (.iload_n 1, 1) := by decide +kernel
theorem dX9_passing_49 : decode cX9_passing 49 = .ok (.iaload, 1) := by decide +kernel
theorem dX9_passing_50 : decode cX9_passing 50 = .ok (.sipush 200, 3) := by decide +kernel
theorem dX9_passing_53 : decode cX9_passing 53 = .ok (.if_icmp .ne 6, 3) := by decide +kernel
theorem dX9_passing_56 : decode cX9_passing 56 = .ok (.bipush (-2), 2) := by decide +kernel
theorem dX9_passing_58 : decode cX9_passing 58 = .ok (.ireturn, 1) := by decide +kernel
theorem dX9_passing_59 : decode cX9_passing 59 = .ok (.aload_n 0, 1) := by decide +kernel
theorem dX9_passing_60 : decode cX9_passing 60 = .ok (.getfield 62, 3) := by decide +kernel
theorem dX9_passing_63 : decode cX9_passing 63 = .ok (.sipush 200, 3) := by decide +kernel
theorem dX9_passing_66 : decode cX9_passing 66 = .ok (.iload_n 1, 1) := by decide +kernel
theorem dX9_passing_67 : decode cX9_passing 67 = .ok (.imul, 1) := by decide +kernel
theorem dX9_passing_68 : decode cX9_passing 68 = .ok (.aload_n 0, 1) := by decide +kernel
theorem dX9_passing_69 : decode cX9_passing 69 = .ok (.getfield 59, 3) := by decide +kernel
theorem dX9_passing_72 : decode cX9_passing 72 = .ok (.iload_n 1, 1) := by decide +kernel
theorem dX9_passing_73 : decode cX9_passing 73 = .ok (.iaload, 1) := by decide +kernel
theorem dX9_passing_74 : decode cX9_passing 74 = .ok (.iadd, 1) := by decide +kernel
theorem dX9_passing_75 : decode cX9_passing 75 = .ok (.iload_n 2, 1) := by decide +kernel
theorem dX9_passing_76 : decode cX9_passing 76 = .ok (.iastore, 1) := by decide +kernel
theorem dX9_passing_77 : decode cX9_passing 77 = .ok (.aload_n 0, 1) := by decide +kernel
theorem dX9_passing_78 : decode cX9_passing 78 = .ok (.getfield 65, 3) := by decide +kernel
theorem dX9_passing_81 : decode cX9_passing 81 = .ok (.sipush 200, 3) := by decide +kernel
theorem dX9_passing_84 : decode cX9_passing 84 = .ok (.iload_n 1, 1) := by decide +kernel
theorem dX9_passing_85 : decode cX9_passing 85 = .ok (.imul, 1) := by decide +kernel
theorem dX9_passing_86 : decode cX9_passing 86 = .ok (.aload_n 0, 1) := by decide +kernel
theorem dX9_passing_87 : decode cX9_passing 87 = .ok (.getfield 59, 3) := by decide +kernel
theorem dX9_passing_90 : decode cX9_passing 90 = .ok (.iload_n 1, 1) := by decide +kernel
theorem dX9_passing_91 : decode cX9_passing 91 = .ok (.iaload, 1) := by decide +kernel
theorem dX9_passing_92 : decode cX9_passing 92 = .ok (.iadd, 1) := by decide +kernel
theorem dX9_passing_93 : decode cX9_passing 93 = .ok (.iload_n 3, 1) := by decide +kernel
theorem dX9_passing_94 : decode cX9_passing 94 = .ok (.iastore, 1) := by decide +kernel
theorem dX9_passing_95 : decode cX9_passing 95 = .ok (.aload_n 0, 1) := by decide +kernel
theorem dX9_passing_96 : decode cX9_passing 96 = .ok (.getfield 59, 3) := by decide +kernel
theorem dX9_passing_99 : decode cX9_passing 99 = .ok (.iload_n 1, 1) := by decide +kernel
theorem dX9_passing_100 : decode cX9_passing 100 = .ok (.dup2, 1) := by decide +kernel
theorem dX9_passing_101 : decode cX9_passing 101 = .ok (.iaload, 1) := by decide +kernel
theorem dX9_passing_102 : decode cX9_passing 102 = .ok (.iconst 1, 1) := by decide +kernel
theorem dX9_passing_103 : decode cX9_passing 103 = .ok (.iadd, 1) := by decide +kernel
theorem dX9_passing_104 : decode cX9_passing 104 = .ok (.iastore, 1) := by decide +kernel
theorem dX9_passing_105 : decode cX9_passing 105 = .ok (.aload_n 0, 1) := by decide +kernel
theorem dX9_passing_106 : decode cX9_passing 106 = .ok (.getfield 59, 3) := by decide +kernel
theorem dX9_passing_109 : decode cX9_passing 109 = .ok (.iload_n 1, 1) := by decide +kernel
theorem dX9_passing_110 : decode cX9_passing 110 = .ok (.iaload, 1) := by decide +kernel
theorem dX9_passing_111 : decode cX9_passing 111 = .ok (.ireturn, 1) := by decide +kernel
theorem dX9_table_0 : decode cX9_table 0 = .ok (.aload_n 0, 1) := by decide +kernel
theorem dX9_table_1 : decode cX9_table 1 = .ok (.iload_n 1, 1) := by decide +kernel
theorem dX9_table_2 : decode cX9_table 2 = .ok (.invokevirtual 136, 3) := by decide +kernel
theorem dX9_table_5 : decode cX9_table 5 = .ok (.ifCond .eq 43, 3) := by decide +kernel
theorem dX9_table_8 : decode cX9_table 8 = .ok (.iload_n 2, 1) := by decide +kernel
theorem dX9_table_9 : decode cX9_table 9 = .ok (.iconst 1, 1) := by decide +kernel
theorem dX9_table_10 : decode cX9_table 10 = .ok (.bipush 60, 2) := by decide +kernel
theorem dX9_table_12 : decode cX9_table 12 = .ok (.invokestatic 123, 3) := by decide +kernel
theorem dX9_table_15 : decode cX9_table 15 = .ok (.ifCond .eq 33, 3) := by decide +kernel
theorem dX9_table_18 : decode cX9_table 18 = .ok (.iload_n 3, 1) := by decide +kernel
theorem dX9_table_19 : decode cX9_table 19 = .ok (.iload_n 2, 1) := by decide +kernel
theorem dX9_table_20 : decode cX9_table 20 = .ok (.bipush 120, 2) := by decide +kernel
theorem dX9_table_22 : decode cX9_table 22 = .ok (.invokestatic 123, 3) := by decide +kernel
theorem dX9_table_25 : decode cX9_table 25 = .ok (.ifCond .eq 23, 3) := by decide +kernel
theorem dX9_table_28 : decode cX9_table 28 = .ok (.iload 4, 2) := by decide +kernel
theorem dX9_table_30 : decode cX9_table 30 = .ok (.iconst 0, 1) := by decide +kernel
theorem dX9_table_31 : decode cX9_table 31 = .ok (.bipush 9, 2) := by decide +kernel
theorem dX9_table_33 : decode cX9_table 33 = .ok (.invokestatic 123, 3) := by decide +kernel
theorem dX9_table_36 : decode cX9_table 36 = .ok (.ifCond .eq 12, 3) := by decide +kernel
theorem dX9_table_39 : decode cX9_table 39 = .ok (.iload 5, 2) := by decide +kernel
theorem dX9_table_41 : decode cX9_table 41 = .ok (.aload_n 0, 1) := by decide +kernel
theorem dX9_table_42 : decode cX9_table 42 = .ok (.getfield 133, 3) := by decide +kernel
theorem dX9_table_45 : decode cX9_table 45 = .ok (.if_icmp .ge 5, 3) := by decide +kernel
theorem dX9_table_48 : decode cX9_table 48 = .ok (.iconst (-1), 1) := by decide +kernel
theorem dX9_table_49 : decode cX9_table 49 = .ok (.ireturn, 1) := by decide +kernel
theorem dX9_table_50 : decode cX9_table 50 = .ok (.aload_n 0, 1) := by decide +kernel
theorem dX9_table_51 : decode cX9_table 51 = .ok (.getfield 150, 3) := by decide +kernel
theorem dX9_table_54 : decode cX9_table 54 = .ok (.bipush 16, 2) := by decide +kernel
theorem dX9_table_56 : decode cX9_table 56 = .ok (.if_icmp .ne 6, 3) := by decide +kernel
theorem dX9_table_59 : decode cX9_table 59 = .ok (.bipush (-2), 2) := by decide +kernel
theorem dX9_table_61 : decode cX9_table 61 = .ok (.ireturn, 1) := by decide +kernel
theorem dX9_table_62 : decode cX9_table 62 = .ok (.aload_n 0, 1) := by decide +kernel
theorem dX9_table_63 : decode cX9_table 63 = .ok (.getfield 68, 3) := by decide +kernel
theorem dX9_table_66 : decode cX9_table 66 = .ok (.aload_n 0, 1) := by decide +kernel
theorem dX9_table_67 : decode cX9_table 67 = .ok (.getfield 150, 3) := by decide +kernel
theorem dX9_table_70 : decode cX9_table 70 = .ok (.iload_n 1, 1) := by decide +kernel
theorem dX9_table_71 : decode cX9_table 71 = .ok (.iastore, 1) := by decide +kernel
theorem dX9_table_72 : decode cX9_table 72 = .ok (.aload_n 0, 1) := by decide +kernel
theorem dX9_table_73 : decode cX9_table 73 = .ok (.getfield 71, 3) := by decide +kernel
theorem dX9_table_76 : decode cX9_table 76 = .ok (.aload_n 0, 1) := by decide +kernel
theorem dX9_table_77 : decode cX9_table 77 = .ok (.getfield 150, 3) := by decide +kernel
theorem dX9_table_80 : decode cX9_table 80 = .ok (.iload_n 2, 1) := by decide +kernel
theorem dX9_table_81 : decode cX9_table 81 = .ok (.iastore, 1) := by decide +kernel
theorem dX9_table_82 : decode cX9_table 82 = .ok (.aload_n 0, 1) := by decide +kernel
theorem dX9_table_83 : decode cX9_table 83 = .ok (.getfield 74, 3) := by decide +kernel
theorem dX9_table_86 : decode cX9_table 86 = .ok (.aload_n 0, 1) := by decide +kernel
theorem dX9_table_87 : decode cX9_table 87 = .ok (.getfield 150, 3) := by decide +kernel
theorem dX9_table_90 : decode cX9_table 90 = .ok (.iload_n 3, 1) := by decide +kernel
theorem dX9_table_91 : decode cX9_table 91 = .ok (.iastore, 1) := by decide +kernel
theorem dX9_table_92 : decode cX9_table 92 = .ok (.aload_n 0, 1) := by decide +kernel
theorem dX9_table_93 : decode cX9_table 93 = .ok (.getfield 77, 3) := by decide +kernel
theorem dX9_table_96 : decode cX9_table 96 = .ok (.aload_n 0, 1) := by decide +kernel
theorem dX9_table_97 : decode cX9_table 97 = .ok (.getfield 150, 3) := by decide +kernel
theorem dX9_table_100 : decode cX9_table 100 = .ok (.iload 4, 2) := by decide +kernel
theorem dX9_table_102 : decode cX9_table 102 = .ok (.iastore, 1) := by decide +kernel
theorem dX9_table_103 : decode cX9_table 103 = .ok (.aload_n 0, 1) := by decide +kernel
theorem dX9_table_104 : decode cX9_table 104 = .ok (.getfield 80, 3) := by decide +kernel
theorem dX9_table_107 : decode cX9_table 107 = .ok (.aload_n 0, 1) := by decide +kernel
theorem dX9_table_108 : decode cX9_table 108 = .ok (.getfield 150, 3) := by decide +kernel
theorem dX9_table_111 : decode cX9_table 111 = .ok (.iload 5, 2) := by decide +kernel
theorem dX9_table_113 : decode cX9_table 113 = .ok (.iastore, 1) := by decide +kernel
theorem dX9_table_114 : decode cX9_table 114 = .ok (.aload_n 0, 1) := by decide +kernel
theorem dX9_table_115 : decode cX9_table 115 = .ok (.dup, 1) := by decide +kernel
theorem dX9_table_116 : decode cX9_table 116 = .ok (.getfield 150, 3) := by decide +kernel
theorem dX9_table_119 : decode cX9_table 119 = .ok (.iconst 1, 1) := by decide +kernel
theorem dX9_table_120 : decode cX9_table 120 = .ok (.iadd, 1) := by decide +kernel
theorem dX9_table_121 : decode cX9_table 121 = .ok (.putfield 150, 3) := by decide +kernel
theorem dX9_table_124 : decode cX9_table 124 = .ok (.aload_n 0, 1) := by decide +kernel
theorem dX9_table_125 : decode cX9_table 125 = .ok (.getfield 150, 3) := by decide +kernel
theorem dX9_table_128 : decode cX9_table 128 = .ok (.ireturn, 1) := by decide +kernel
theorem dX9_lamp_0 : decode cX9_lamp 0 = .ok (.aload_n 0, 1) := by decide +kernel
theorem dX9_lamp_1 : decode cX9_lamp 1 = .ok (.iload_n 1, 1) := by decide +kernel
theorem dX9_lamp_2 : decode cX9_lamp 2 = .ok (.invokevirtual 136, 3) := by decide +kernel
theorem dX9_lamp_5 : decode cX9_lamp 5 = .ok (.ifCond .ne 5, 3) := by decide +kernel
theorem dX9_lamp_8 : decode cX9_lamp 8 = .ok (.iconst (-1), 1) := by decide +kernel
theorem dX9_lamp_9 : decode cX9_lamp 9 = .ok (.ireturn, 1) := by decide +kernel
theorem dX9_lamp_10 : decode cX9_lamp 10 = .ok (.aload_n 0, 1) := by decide +kernel
theorem dX9_lamp_11 : decode cX9_lamp 11 = .ok (.getfield 46, 3) := by decide +kernel
theorem dX9_lamp_14 : decode cX9_lamp 14 = .ok (.iload_n 1, 1) := by decide +kernel
theorem dX9_lamp_15 : decode cX9_lamp 15 = .ok (.baload, 1) := by decide +kernel
theorem dX9_lamp_16 : decode cX9_lamp 16 = .ok (.ifCond .eq 7, 3) := by decide +kernel
theorem dX9_lamp_19 : decode cX9_lamp 19 = .ok (.iconst 1, 1) := by decide +kernel
theorem dX9_lamp_20 : decode cX9_lamp 20 = .ok (.goto 4, 3) := by decide +kernel
theorem dX9_lamp_23 : decode cX9_lamp 23 = .ok (.iconst 0, 1) := by decide +kernel
theorem dX9_lamp_24 : decode cX9_lamp 24 = .ok (.istore_n 3, 1) := by decide +kernel
theorem dX9_lamp_25 : decode cX9_lamp 25 = .ok (.aload_n 0, 1) := by decide +kernel
theorem dX9_lamp_26 : decode cX9_lamp 26 = .ok (.getfield 46, 3) := by decide +kernel
theorem dX9_lamp_29 : decode cX9_lamp 29 = .ok (.iload_n 1, 1) := by decide +kernel
theorem dX9_lamp_30 : decode cX9_lamp 30 = .ok (.iload_n 2, 1) := by decide +kernel
theorem dX9_lamp_31 : decode cX9_lamp 31 = .ok (.bastore, 1) := by decide +kernel
theorem dX9_lamp_32 : decode cX9_lamp 32 = .ok (.iload_n 3, 1) := by decide +kernel
theorem dX9_lamp_33 : decode cX9_lamp 33 = .ok (.ireturn, 1) := by decide +kernel
theorem dX9_pair_0 : decode cX9_pair 0 = .ok (.aload_n 0, 1) := by decide +kernel
theorem dX9_pair_1 : decode cX9_pair 1 = .ok (.iload_n 1, 1) := by decide +kernel
theorem dX9_pair_2 : decode cX9_pair 2 = .ok (.invokevirtual 147, 3) := by decide +kernel
theorem dX9_pair_5 : decode cX9_pair 5 = .ok (.ifCond .eq 26, 3) := by decide +kernel
theorem dX9_pair_8 : decode cX9_pair 8 = .ok (.aload_n 0, 1) := by decide +kernel
theorem dX9_pair_9 : decode cX9_pair 9 = .ok (.iload_n 2, 1) := by decide +kernel
theorem dX9_pair_10 : decode cX9_pair 10 = .ok (.invokevirtual 147, 3) := by decide +kernel
theorem dX9_pair_13 : decode cX9_pair 13 = .ok (.ifCond .eq 18, 3) := by decide +kernel
theorem dX9_pair_16 : decode cX9_pair 16 = .ok (.iload_n 1, 1) := by decide +kernel
theorem dX9_pair_17 : decode cX9_pair 17 = .ok (.iload_n 2, 1) := by decide +kernel
theorem dX9_pair_18 : decode cX9_pair 18 = .ok (.if_icmp .eq 13, 3) := by decide +kernel
theorem dX9_pair_21 : decode cX9_pair 21 = .ok (.iload_n 3, 1) := by decide +kernel
theorem dX9_pair_22 : decode cX9_pair 22 = .ok (.iconst 1, 1) := by decide +kernel
theorem dX9_pair_23 : decode cX9_pair 23 = .ok (.bipush 60, 2) := by decide +kernel
theorem dX9_pair_25 : decode cX9_pair 25 = .ok (.invokestatic 123, 3) := by decide +kernel
theorem dX9_pair_28 : decode cX9_pair 28 = .ok (.ifCond .ne 5, 3) := by decide +kernel
theorem dX9_pair_31 : decode cX9_pair 31 = .ok (.iconst (-1), 1) := by decide +kernel
theorem dX9_pair_32 : decode cX9_pair 32 = .ok (.ireturn, 1) := by decide +kernel
theorem dX9_pair_33 : decode cX9_pair 33 = .ok (.aload_n 0, 1) := by decide +kernel
theorem dX9_pair_34 : decode cX9_pair 34 = .ok (.getfield 153, 3) := by decide +kernel
theorem dX9_pair_37 : decode cX9_pair 37 = .ok (.bipush 6, 2) := by decide +kernel
theorem dX9_pair_39 : decode cX9_pair 39 = .ok (.if_icmp .ne 6, 3) := by decide +kernel
theorem dX9_pair_42 : decode cX9_pair 42 = .ok (.bipush (-2), 2) := by decide +kernel
theorem dX9_pair_44 : decode cX9_pair 44 = .ok (.ireturn, 1) := by decide +kernel
theorem dX9_pair_45 : decode cX9_pair 45 = .ok (.aload_n 0, 1) := by decide +kernel
theorem dX9_pair_46 : decode cX9_pair 46 = .ok (.getfield 83, 3) := by decide +kernel
theorem dX9_pair_49 : decode cX9_pair 49 = .ok (.aload_n 0, 1) := by decide +kernel
theorem dX9_pair_50 : decode cX9_pair 50 = .ok (.getfield 153, 3) := by decide +kernel
theorem dX9_pair_53 : decode cX9_pair 53 = .ok (.iload_n 1, 1) := by decide +kernel
theorem dX9_pair_54 : decode cX9_pair 54 = .ok (.iastore, 1) := by decide +kernel
theorem dX9_pair_55 : decode cX9_pair 55 = .ok (.aload_n 0, 1) := by decide +kernel
theorem dX9_pair_56 : decode cX9_pair 56 = .ok (.getfield 86, 3) := by decide +kernel
theorem dX9_pair_59 : decode cX9_pair 59 = .ok (.aload_n 0, 1) := by decide +kernel
theorem dX9_pair_60 : decode cX9_pair 60 = .ok (.getfield 153, 3) := by decide +kernel
theorem dX9_pair_63 : decode cX9_pair 63 = .ok (.iload_n 2, 1) := by decide +kernel
theorem dX9_pair_64 : decode cX9_pair 64 = .ok (.iastore, 1) := by decide +kernel
theorem dX9_pair_65 : decode cX9_pair 65 = .ok (.aload_n 0, 1) := by decide +kernel
theorem dX9_pair_66 : decode cX9_pair 66 = .ok (.getfield 89, 3) := by decide +kernel
theorem dX9_pair_69 : decode cX9_pair 69 = .ok (.aload_n 0, 1) := by decide +kernel
theorem dX9_pair_70 : decode cX9_pair 70 = .ok (.getfield 153, 3) := by decide +kernel
theorem dX9_pair_73 : decode cX9_pair 73 = .ok (.iload_n 3, 1) := by decide +kernel
theorem dX9_pair_74 : decode cX9_pair 74 = .ok (.iastore, 1) := by decide +kernel
theorem dX9_pair_75 : decode cX9_pair 75 = .ok (.aload_n 0, 1) := by decide +kernel
theorem dX9_pair_76 : decode cX9_pair 76 = .ok (.getfield 92, 3) := by decide +kernel
theorem dX9_pair_79 : decode cX9_pair 79 = .ok (.aload_n 0, 1) := by decide +kernel
theorem dX9_pair_80 : decode cX9_pair 80 = .ok (.getfield 153, 3) := by decide +kernel
theorem dX9_pair_83 : decode cX9_pair 83 = .ok (.iconst 0, 1) := by decide +kernel
theorem dX9_pair_84 : decode cX9_pair 84 = .ok (.iastore, 1) := by decide +kernel
theorem dX9_pair_85 : decode cX9_pair 85 = .ok (.aload_n 0, 1) := by decide +kernel
theorem dX9_pair_86 : decode cX9_pair 86 = .ok (.dup, 1) := by decide +kernel
theorem dX9_pair_87 : decode cX9_pair 87 = .ok (.getfield 153, 3) := by decide +kernel
theorem dX9_pair_90 : decode cX9_pair 90 = .ok (.iconst 1, 1) := by decide +kernel
theorem dX9_pair_91 : decode cX9_pair 91 = .ok (.iadd, 1) := by decide +kernel
theorem dX9_pair_92 : decode cX9_pair 92 = .ok (.putfield 153, 3) := by decide +kernel
theorem dX9_pair_95 : decode cX9_pair 95 = .ok (.aload_n 0, 1) := by decide +kernel
theorem dX9_pair_96 : decode cX9_pair 96 = .ok (.getfield 153, 3) := by decide +kernel
theorem dX9_pair_99 : decode cX9_pair 99 = .ok (.iconst 1, 1) := by decide +kernel
theorem dX9_pair_100 : decode cX9_pair 100 = .ok (.isub, 1) := by decide +kernel
theorem dX9_pair_101 : decode cX9_pair 101 = .ok (.ireturn, 1) := by decide +kernel
theorem dX9_ask_0 : decode cX9_ask 0 = .ok (.aload_n 0, 1) := by decide +kernel
theorem dX9_ask_1 : decode cX9_ask 1 = .ok (.iload_n 1, 1) := by decide +kernel
theorem dX9_ask_2 : decode cX9_ask 2 = .ok (.invokevirtual 136, 3) := by decide +kernel
theorem dX9_ask_5 : decode cX9_ask 5 = .ok (.ifCond .ne 5, 3) := by decide +kernel
theorem dX9_ask_8 : decode cX9_ask 8 = .ok (.iconst (-1), 1) := by decide +kernel
theorem dX9_ask_9 : decode cX9_ask 9 = .ok (.ireturn, 1) := by decide +kernel
theorem dX9_ask_10 : decode cX9_ask 10 = .ok (.aload_n 0, 1) := by decide +kernel
theorem dX9_ask_11 : decode cX9_ask 11 = .ok (.getfield 34, 3) := by decide +kernel
theorem dX9_ask_14 : decode cX9_ask 14 = .ok (.iload_n 1, 1) := by decide +kernel
theorem dX9_ask_15 : decode cX9_ask 15 = .ok (.iaload, 1) := by decide +kernel
theorem dX9_ask_16 : decode cX9_ask 16 = .ok (.ifCond .ge 13, 3) := by decide +kernel
theorem dX9_ask_19 : decode cX9_ask 19 = .ok (.aload_n 0, 1) := by decide +kernel
theorem dX9_ask_20 : decode cX9_ask 20 = .ok (.getfield 13, 3) := by decide +kernel
theorem dX9_ask_23 : decode cX9_ask 23 = .ok (.iload_n 1, 1) := by decide +kernel
theorem dX9_ask_24 : decode cX9_ask 24 = .ok (.iaload, 1) := by decide +kernel
theorem dX9_ask_25 : decode cX9_ask 25 = .ok (.iconst 1, 1) := by decide +kernel
theorem dX9_ask_26 : decode cX9_ask 26 = .ok (.if_icmp .ne 5, 3) := by decide +kernel
theorem dX9_ask_29 : decode cX9_ask 29 = .ok (.iconst 0, 1) := by decide +kernel
theorem dX9_ask_30 : decode cX9_ask 30 = .ok (.ireturn, 1) := by decide +kernel
theorem dX9_ask_31 : decode cX9_ask 31 = .ok (.aload_n 0, 1) := by decide +kernel
theorem dX9_ask_32 : decode cX9_ask 32 = .ok (.getfield 34, 3) := by decide +kernel
theorem dX9_ask_35 : decode cX9_ask 35 = .ok (.iload_n 1, 1) := by decide +kernel
theorem dX9_ask_36 : decode cX9_ask 36 = .ok (.aload_n 0, 1) := by decide +kernel
theorem dX9_ask_37 : decode cX9_ask 37 = .ok (.getfield 133, 3) := by decide +kernel
theorem dX9_ask_40 : decode cX9_ask 40 = .ok (.iastore, 1) := by decide +kernel
theorem dX9_ask_41 : decode cX9_ask 41 = .ok (.iconst 1, 1) := by decide +kernel
theorem dX9_ask_42 : decode cX9_ask 42 = .ok (.ireturn, 1) := by decide +kernel
theorem dX9_hurry_0 : decode cX9_hurry 0 = .ok (.aload_n 0, 1) := by decide +kernel
theorem dX9_hurry_1 : decode cX9_hurry 1 = .ok (.iload_n 1, 1) := by decide +kernel
theorem dX9_hurry_2 : decode cX9_hurry 2 = .ok (.invokevirtual 156, 3) := by decide +kernel
theorem dX9_hurry_5 : decode cX9_hurry 5 = .ok (.ifCond .ne 5, 3) := by decide +kernel
theorem dX9_hurry_8 : decode cX9_hurry 8 = .ok (.iconst (-1), 1) := by decide +kernel
theorem dX9_hurry_9 : decode cX9_hurry 9 = .ok (.ireturn, 1) := by decide +kernel
theorem dX9_hurry_10 : decode cX9_hurry 10 = .ok (.aload_n 0, 1) := by decide +kernel
theorem dX9_hurry_11 : decode cX9_hurry 11 = .ok (.getfield 159, 3) := by decide +kernel
theorem dX9_hurry_14 : decode cX9_hurry 14 = .ok (.ifCond .le 6, 3) := by decide +kernel
theorem dX9_hurry_17 : decode cX9_hurry 17 = .ok (.bipush (-3), 2) := by decide +kernel
theorem dX9_hurry_19 : decode cX9_hurry 19 = .ok (.ireturn, 1) := by decide +kernel
theorem dX9_hurry_20 : decode cX9_hurry 20 = .ok (.iload_n 1, 1) := by decide +kernel
theorem dX9_hurry_21 : decode cX9_hurry 21 = .ok (.aload_n 0, 1) := by decide +kernel
theorem dX9_hurry_22 : decode cX9_hurry 22 = .ok (.getfield 95, 3) := by decide +kernel
theorem dX9_hurry_25 : decode cX9_hurry 25 = .ok (.if_icmp .ne 5, 3) := by decide +kernel
theorem dX9_hurry_28 : decode cX9_hurry 28 = .ok (.iconst 0, 1) := by decide +kernel
theorem dX9_hurry_29 : decode cX9_hurry 29 = .ok (.ireturn, 1) := by decide +kernel
theorem dX9_hurry_30 : decode cX9_hurry 30 = .ok (.aload_n 0, 1) := by decide +kernel
theorem dX9_hurry_31 : decode cX9_hurry 31 = .ok (.iload_n 1, 1) := by decide +kernel
theorem dX9_hurry_32 : decode cX9_hurry 32 = .ok (.putfield 102, 3) := by decide +kernel
theorem dX9_hurry_35 : decode cX9_hurry 35 = .ok (.iconst 1, 1) := by decide +kernel
theorem dX9_hurry_36 : decode cX9_hurry 36 = .ok (.ireturn, 1) := by decide +kernel
theorem dX9_alarm_0 : decode cX9_alarm 0 = .ok (.aload_n 0, 1) := by decide +kernel
theorem dX9_alarm_1 : decode cX9_alarm 1 = .ok (.getfield 159, 3) := by decide +kernel
theorem dX9_alarm_4 : decode cX9_alarm 4 = .ok (.ifCond .le 6, 3) := by decide +kernel
theorem dX9_alarm_7 : decode cX9_alarm 7 = .ok (.bipush (-3), 2) := by decide +kernel
theorem dX9_alarm_9 : decode cX9_alarm 9 = .ok (.ireturn, 1) := by decide +kernel
theorem dX9_alarm_10 : decode cX9_alarm 10 = .ok (.aload_n 0, 1) := by decide +kernel
theorem dX9_alarm_11 : decode cX9_alarm 11 = .ok (.iconst 1, 1) := by decide +kernel
theorem dX9_alarm_12 : decode cX9_alarm 12 = .ok (.putfield 162, 3) := by decide +kernel
theorem dX9_alarm_15 : decode cX9_alarm 15 = .ok (.iconst 1, 1) := by decide +kernel
theorem dX9_alarm_16 : decode cX9_alarm 16 = .ok (.ireturn, 1) := by decide +kernel
theorem dX9_found_0 : decode cX9_found 0 = .ok (.aload_n 0, 1) := by decide +kernel
theorem dX9_found_1 : decode cX9_found 1 = .ok (.getfield 108, 3) := by decide +kernel
theorem dX9_found_4 : decode cX9_found 4 = .ok (.iload_n 1, 1) := by decide +kernel
theorem dX9_found_5 : decode cX9_found 5 = .ok (.dup2, 1) := by decide +kernel
theorem dX9_found_6 : decode cX9_found 6 = .ok (.iaload, 1) := by decide +kernel
theorem dX9_found_7 : decode cX9_found 7 = .ok (.iconst 1, 1) := by decide +kernel
theorem dX9_found_8 : decode cX9_found 8 = .ok (.iadd, 1) := by decide +kernel
theorem dX9_found_9 : decode cX9_found 9 = .ok (.iastore, 1) := by decide +kernel
theorem dX9_found_10 : decode cX9_found 10 = .ok (.aload_n 0, 1) := by decide +kernel
theorem dX9_found_11 : decode cX9_found 11 = .ok (.iload_n 1, 1) := by decide +kernel
theorem dX9_found_12 : decode cX9_found 12 = .ok (.putfield 166, 3) := by decide +kernel
theorem dX9_found_15 : decode cX9_found 15 = .ok (.aload_n 0, 1) := by decide +kernel
theorem dX9_found_16 : decode cX9_found 16 = .ok (.iload_n 2, 1) := by decide +kernel
theorem dX9_found_17 : decode cX9_found 17 = .ok (.putfield 111, 3) := by decide +kernel
theorem dX9_found_20 : decode cX9_found 20 = .ok (.return_, 1) := by decide +kernel
theorem dX9_readAt_0 : decode cX9_readAt 0 = .ok (.aload_n 0, 1) := by decide +kernel
theorem dX9_readAt_1 : decode cX9_readAt 1 = .ok (.getfield 16, 3) := by decide +kernel
theorem dX9_readAt_4 : decode cX9_readAt 4 = .ok (.iload_n 1, 1) := by decide +kernel
theorem dX9_readAt_5 : decode cX9_readAt 5 = .ok (.iaload, 1) := by decide +kernel
theorem dX9_readAt_6 : decode cX9_readAt 6 = .ok (.istore_n 2, 1) := by decide +kernel
theorem dX9_readAt_7 : decode cX9_readAt 7 = .ok (.iload_n 2, 1) := by decide +kernel
theorem dX9_readAt_8 : decode cX9_readAt 8 = .ok (.ifCond .lt 12, 3) := by decide +kernel
theorem dX9_readAt_11 : decode cX9_readAt 11 = .ok (.aload_n 0, 1) := by decide +kernel
theorem dX9_readAt_12 : decode cX9_readAt 12 = .ok (.getfield 59, 3) := by decide +kernel
theorem dX9_readAt_15 : decode cX9_readAt 15 = .ok (.iload_n 2, 1) := by decide +kernel
theorem dX9_readAt_16 : decode cX9_readAt 16 = .ok (.iaload, 1) := by decide +kernel
theorem dX9_readAt_17 : decode cX9_readAt 17 = .ok (.ifCond .ge 11, 3) := by decide +kernel
theorem dX9_readAt_20 : decode cX9_readAt 20 = .ok (.aload_n 0, 1) := by decide +kernel
theorem dX9_readAt_21 : decode cX9_readAt 21 = .ok (.iconst 1, 1) := by decide +kernel
theorem dX9_readAt_22 : decode cX9_readAt 22 = .ok (.iload_n 1, 1) := by decide +kernel
theorem dX9_readAt_23 : decode cX9_readAt 23 = .ok (.invokevirtual 169, 3) := by decide +kernel
theorem dX9_readAt_26 : decode cX9_readAt 26 = .ok (.iconst (-1), 1) := by decide +kernel
theorem dX9_readAt_27 : decode cX9_readAt 27 = .ok (.ireturn, 1) := by decide +kernel
theorem dX9_readAt_28 : decode cX9_readAt 28 = .ok (.aload_n 0, 1) := by decide +kernel
theorem dX9_readAt_29 : decode cX9_readAt 29 = .ok (.getfield 59, 3) := by decide +kernel
theorem dX9_readAt_32 : decode cX9_readAt 32 = .ok (.iload_n 2, 1) := by decide +kernel
theorem dX9_readAt_33 : decode cX9_readAt 33 = .ok (.iaload, 1) := by decide +kernel
theorem dX9_readAt_34 : decode cX9_readAt 34 = .ok (.aload_n 0, 1) := by decide +kernel
theorem dX9_readAt_35 : decode cX9_readAt 35 = .ok (.getfield 133, 3) := by decide +kernel
theorem dX9_readAt_38 : decode cX9_readAt 38 = .ok (.if_icmp .gt 11, 3) := by decide +kernel
theorem dX9_readAt_41 : decode cX9_readAt 41 = .ok (.aload_n 0, 1) := by decide +kernel
theorem dX9_readAt_42 : decode cX9_readAt 42 = .ok (.iconst 2, 1) := by decide +kernel
theorem dX9_readAt_43 : decode cX9_readAt 43 = .ok (.iload_n 1, 1) := by decide +kernel
theorem dX9_readAt_44 : decode cX9_readAt 44 = .ok (.invokevirtual 169, 3) := by decide +kernel
theorem dX9_readAt_47 : decode cX9_readAt 47 = .ok (.iconst (-1), 1) := by decide +kernel
theorem dX9_readAt_48 : decode cX9_readAt 48 = .ok (.ireturn, 1) := by decide +kernel
theorem dX9_readAt_49 : decode cX9_readAt 49 = .ok (.sipush 200, 3) := by decide +kernel
theorem dX9_readAt_52 : decode cX9_readAt 52 = .ok (.iload_n 2, 1) := by decide +kernel
theorem dX9_readAt_53 : decode cX9_readAt 53 = .ok (.imul, 1) := by decide +kernel
theorem dX9_readAt_54 : decode cX9_readAt 54 = .ok (.aload_n 0, 1) := by decide +kernel
theorem dX9_readAt_55 : decode cX9_readAt 55 = .ok (.getfield 133, 3) := by decide +kernel
theorem dX9_readAt_58 : decode cX9_readAt 58 = .ok (.iadd, 1) := by decide +kernel
theorem dX9_readAt_59 : decode cX9_readAt 59 = .ok (.ireturn, 1) := by decide +kernel
theorem dX9_asksOfCar_0 : decode cX9_asksOfCar 0 = .ok (.aload_n 0, 1) := by decide +kernel
theorem dX9_asksOfCar_1 : decode cX9_asksOfCar 1 = .ok (.dup, 1) := by decide +kernel
theorem dX9_asksOfCar_2 : decode cX9_asksOfCar 2 = .ok (.getfield 173, 3) := by decide +kernel
theorem dX9_asksOfCar_5 : decode cX9_asksOfCar 5 = .ok (.iconst 1, 1) := by decide +kernel
theorem dX9_asksOfCar_6 : decode cX9_asksOfCar 6 = .ok (.iadd, 1) := by decide +kernel
theorem dX9_asksOfCar_7 : decode cX9_asksOfCar 7 = .ok (.putfield 173, 3) := by decide +kernel
theorem dX9_asksOfCar_10 : decode cX9_asksOfCar 10 = .ok (.aload_n 0, 1) := by decide +kernel
theorem dX9_asksOfCar_11 : decode cX9_asksOfCar 11 = .ok (.getfield 62, 3) := by decide +kernel
theorem dX9_asksOfCar_14 : decode cX9_asksOfCar 14 = .ok (.iload_n 1, 1) := by decide +kernel
theorem dX9_asksOfCar_15 : decode cX9_asksOfCar 15 = .ok (.iaload, 1) := by decide +kernel
theorem dX9_asksOfCar_16 : decode cX9_asksOfCar 16 = .ok (.ifCond .gt 15, 3) := by decide +kernel
theorem dX9_asksOfCar_19 : decode cX9_asksOfCar 19 = .ok (.aload_n 0, 1) := by decide +kernel
theorem dX9_asksOfCar_20 : decode cX9_asksOfCar 20 = .ok (.getfield 65, 3) := by decide +kernel
theorem dX9_asksOfCar_23 : decode cX9_asksOfCar 23 = .ok (.iload_n 1, 1) := by decide +kernel
theorem dX9_asksOfCar_24 : decode cX9_asksOfCar 24 = .ok (.iaload, 1) := by decide +kernel
theorem dX9_asksOfCar_25 : decode cX9_asksOfCar 25 = .ok (.sipush 5000, 3) := by decide +kernel
theorem dX9_asksOfCar_28 : decode cX9_asksOfCar 28 = .ok (.if_icmp .lt 7, 3) := by decide +kernel
theorem dX9_asksOfCar_31 : decode cX9_asksOfCar 31 = .ok (.iconst 1, 1) := by decide +kernel
theorem dX9_asksOfCar_32 : decode cX9_asksOfCar 32 = .ok (.goto 4, 3) := by decide +kernel
theorem dX9_asksOfCar_35 : decode cX9_asksOfCar 35 = .ok (.iconst 0, 1) := by decide +kernel
theorem dX9_asksOfCar_36 : decode cX9_asksOfCar 36 = .ok (.ireturn, 1) := by decide +kernel
theorem dX9_doesAsk_0 : decode cX9_doesAsk 0 = .ok (.aload_n 0, 1) := by decide +kernel
theorem dX9_doesAsk_1 : decode cX9_doesAsk 1 = .ok (.iload_n 1, 1) := by decide +kernel
theorem dX9_doesAsk_2 : decode cX9_doesAsk 2 = .ok (.invokevirtual 176, 3) := by decide +kernel
theorem dX9_doesAsk_5 : decode cX9_doesAsk 5 = .ok (.istore_n 2, 1) := by decide +kernel
theorem dX9_doesAsk_6 : decode cX9_doesAsk 6 = .ok (.iload_n 2, 1) := by decide +kernel
theorem dX9_doesAsk_7 : decode cX9_doesAsk 7 = .ok (.ifCond .ge 5, 3) := by decide +kernel
theorem dX9_doesAsk_10 : decode cX9_doesAsk 10 = .ok (.iconst 1, 1) := by decide +kernel
theorem dX9_doesAsk_11 : decode cX9_doesAsk 11 = .ok (.ireturn, 1) := by decide +kernel
theorem dX9_doesAsk_12 : decode cX9_doesAsk 12 = .ok (.aload_n 0, 1) := by decide +kernel
theorem dX9_doesAsk_13 : decode cX9_doesAsk 13 = .ok (.getfield 7, 3) := by decide +kernel
theorem dX9_doesAsk_16 : decode cX9_doesAsk 16 = .ok (.iload_n 1, 1) := by decide +kernel
theorem dX9_doesAsk_17 : decode cX9_doesAsk 17 = .ok (.iaload, 1) := by decide +kernel
theorem dX9_doesAsk_18 : decode cX9_doesAsk 18 = .ok (.tableswitch 95 0 2 #[26, 32, 69], 26) := by decide +kernel
theorem dX9_doesAsk_44 : decode cX9_doesAsk 44 = .ok (.aload_n 0, 1) := by decide +kernel
theorem dX9_doesAsk_45 : decode cX9_doesAsk 45 = .ok (.iload_n 2, 1) := by decide +kernel
theorem dX9_doesAsk_46 : decode cX9_doesAsk 46 = .ok (.invokevirtual 180, 3) := by decide +kernel
theorem dX9_doesAsk_49 : decode cX9_doesAsk 49 = .ok (.ireturn, 1) := by decide +kernel
theorem dX9_doesAsk_50 : decode cX9_doesAsk 50 = .ok (.aload_n 0, 1) := by decide +kernel
theorem dX9_doesAsk_51 : decode cX9_doesAsk 51 = .ok (.dup, 1) := by decide +kernel
theorem dX9_doesAsk_52 : decode cX9_doesAsk 52 = .ok (.getfield 173, 3) := by decide +kernel
theorem dX9_doesAsk_55 : decode cX9_doesAsk 55 = .ok (.bipush 10, 2) := by decide +kernel
theorem dX9_doesAsk_57 : decode cX9_doesAsk 57 = .ok (.iadd, 1) := by decide +kernel
theorem dX9_doesAsk_58 : decode cX9_doesAsk 58 = .ok (.putfield 173, 3) := by decide +kernel
theorem dX9_doesAsk_61 : decode cX9_doesAsk 61 = .ok (.aload_n 0, 1) := by decide +kernel
theorem dX9_doesAsk_62 : decode cX9_doesAsk 62 = .ok (.getfield 65, 3) := by decide +kernel
theorem dX9_doesAsk_65 : decode cX9_doesAsk 65 = .ok (.iload_n 2, 1) := by decide +kernel
theorem dX9_doesAsk_66 : decode cX9_doesAsk 66 = .ok (.iaload, 1) := by decide +kernel
theorem dX9_doesAsk_67 : decode cX9_doesAsk 67 = .ok (.sipush 2000, 3) := by decide +kernel
theorem dX9_doesAsk_70 : decode cX9_doesAsk 70 = .ok (.if_icmp .ge 11, 3) := by decide +kernel
theorem dX9_doesAsk_73 : decode cX9_doesAsk 73 = .ok (.aload_n 0, 1) := by decide +kernel
theorem dX9_doesAsk_74 : decode cX9_doesAsk 74 = .ok (.iload_n 2, 1) := by decide +kernel
theorem dX9_doesAsk_75 : decode cX9_doesAsk 75 = .ok (.invokevirtual 180, 3) := by decide +kernel
theorem dX9_doesAsk_78 : decode cX9_doesAsk 78 = .ok (.ifCond .eq 7, 3) := by decide +kernel
theorem dX9_doesAsk_81 : decode cX9_doesAsk 81 = .ok (.iconst 1, 1) := by decide +kernel
theorem dX9_doesAsk_82 : decode cX9_doesAsk 82 = .ok (.goto 4, 3) := by decide +kernel
theorem dX9_doesAsk_85 : decode cX9_doesAsk 85 = .ok (.iconst 0, 1) := by decide +kernel
theorem dX9_doesAsk_86 : decode cX9_doesAsk 86 = .ok (.ireturn, 1) := by decide +kernel
theorem dX9_doesAsk_87 : decode cX9_doesAsk 87 = .ok (.aload_n 0, 1) := by decide +kernel
theorem dX9_doesAsk_88 : decode cX9_doesAsk 88 = .ok (.dup, 1) := by decide +kernel
theorem dX9_doesAsk_89 : decode cX9_doesAsk 89 = .ok (.getfield 173, 3) := by decide +kernel
theorem dX9_doesAsk_92 : decode cX9_doesAsk 92 = .ok (.bipush 100, 2) := by decide +kernel
theorem dX9_doesAsk_94 : decode cX9_doesAsk 94 = .ok (.iadd, 1) := by decide +kernel
theorem dX9_doesAsk_95 : decode cX9_doesAsk 95 = .ok (.putfield 173, 3) := by decide +kernel
theorem dX9_doesAsk_98 : decode cX9_doesAsk 98 = .ok (.aload_n 0, 1) := by decide +kernel
theorem dX9_doesAsk_99 : decode cX9_doesAsk 99 = .ok (.getfield 62, 3) := by decide +kernel
theorem dX9_doesAsk_102 : decode cX9_doesAsk 102 = .ok (.iload_n 2, 1) := by decide +kernel
theorem dX9_doesAsk_103 : decode cX9_doesAsk 103 = .ok (.iaload, 1) := by decide +kernel
theorem dX9_doesAsk_104 : decode cX9_doesAsk 104 = .ok (.ifCond .le 7, 3) := by decide +kernel
theorem dX9_doesAsk_107 : decode cX9_doesAsk 107 = .ok (.iconst 1, 1) := by decide +kernel
theorem dX9_doesAsk_108 : decode cX9_doesAsk 108 = .ok (.goto 4, 3) := by decide +kernel
theorem dX9_doesAsk_111 : decode cX9_doesAsk 111 = .ok (.iconst 0, 1) := by decide +kernel
theorem dX9_doesAsk_112 : decode cX9_doesAsk 112 = .ok (.ireturn, 1) := by decide +kernel
theorem dX9_doesAsk_113 : decode cX9_doesAsk 113 = .ok (.aload_n 0, 1) := by decide +kernel
theorem dX9_doesAsk_114 : decode cX9_doesAsk 114 = .ok (.dup, 1) := by decide +kernel
theorem dX9_doesAsk_115 : decode cX9_doesAsk 115 = .ok (.getfield 173, 3) := by decide +kernel
theorem dX9_doesAsk_118 : decode cX9_doesAsk 118 = .ok (.sipush 1000, 3) := by decide +kernel
theorem dX9_doesAsk_121 : decode cX9_doesAsk 121 = .ok (.iadd, 1) := by decide +kernel
theorem dX9_doesAsk_122 : decode cX9_doesAsk 122 = .ok (.putfield 173, 3) := by decide +kernel
theorem dX9_doesAsk_125 : decode cX9_doesAsk 125 = .ok (.aload_n 0, 1) := by decide +kernel
theorem dX9_doesAsk_126 : decode cX9_doesAsk 126 = .ok (.getfield 62, 3) := by decide +kernel
theorem dX9_doesAsk_129 : decode cX9_doesAsk 129 = .ok (.iload_n 2, 1) := by decide +kernel
theorem dX9_doesAsk_130 : decode cX9_doesAsk 130 = .ok (.iaload, 1) := by decide +kernel
theorem dX9_doesAsk_131 : decode cX9_doesAsk 131 = .ok (.ifCond .eq 7, 3) := by decide +kernel
theorem dX9_doesAsk_134 : decode cX9_doesAsk 134 = .ok (.iconst 1, 1) := by decide +kernel
theorem dX9_doesAsk_135 : decode cX9_doesAsk 135 = .ok (.goto 4, 3) := by decide +kernel
theorem dX9_doesAsk_138 : decode cX9_doesAsk 138 = .ok (.iconst 0, 1) := by decide +kernel
theorem dX9_doesAsk_139 : decode cX9_doesAsk 139 = .ok (.ireturn, 1) := by decide +kernel
theorem dX9_doesHold_0 : decode cX9_doesHold 0 = .ok (.aload_n 0, 1) := by decide +kernel
theorem dX9_doesHold_1 : decode cX9_doesHold 1 = .ok (.getfield 7, 3) := by decide +kernel
theorem dX9_doesHold_4 : decode cX9_doesHold 4 = .ok (.iload_n 1, 1) := by decide +kernel
theorem dX9_doesHold_5 : decode cX9_doesHold 5 = .ok (.iaload, 1) := by decide +kernel
theorem dX9_doesHold_6 : decode cX9_doesHold 6 = .ok (.iconst 4, 1) := by decide +kernel
theorem dX9_doesHold_7 : decode cX9_doesHold 7 = .ok (.if_icmp .ne 17, 3) := by decide +kernel
theorem dX9_doesHold_10 : decode cX9_doesHold 10 = .ok (.aload_n 0, 1) := by decide +kernel
theorem dX9_doesHold_11 : decode cX9_doesHold 11 = .ok (.dup, 1) := by decide +kernel
theorem dX9_doesHold_12 : decode cX9_doesHold 12 = .ok (.getfield 173, 3) := by decide +kernel
theorem dX9_doesHold_15 : decode cX9_doesHold 15 = .ok (.sipush 5000, 3) := by decide +kernel
theorem dX9_doesHold_18 : decode cX9_doesHold 18 = .ok (.iadd, 1) := by decide +kernel
theorem dX9_doesHold_19 : decode cX9_doesHold 19 = .ok (.putfield 173, 3) := by decide +kernel
theorem dX9_doesHold_22 : decode cX9_doesHold 22 = .ok (.iconst 1, 1) := by decide +kernel
theorem dX9_doesHold_23 : decode cX9_doesHold 23 = .ok (.ireturn, 1) := by decide +kernel
theorem dX9_doesHold_24 : decode cX9_doesHold 24 = .ok (.aload_n 0, 1) := by decide +kernel
theorem dX9_doesHold_25 : decode cX9_doesHold 25 = .ok (.iload_n 1, 1) := by decide +kernel
theorem dX9_doesHold_26 : decode cX9_doesHold 26 = .ok (.invokevirtual 176, 3) := by decide +kernel
theorem dX9_doesHold_29 : decode cX9_doesHold 29 = .ok (.istore_n 2, 1) := by decide +kernel
theorem dX9_doesHold_30 : decode cX9_doesHold 30 = .ok (.iload_n 2, 1) := by decide +kernel
theorem dX9_doesHold_31 : decode cX9_doesHold 31 = .ok (.ifCond .ge 5, 3) := by decide +kernel
theorem dX9_doesHold_34 : decode cX9_doesHold 34 = .ok (.iconst 1, 1) := by decide +kernel
theorem dX9_doesHold_35 : decode cX9_doesHold 35 = .ok (.ireturn, 1) := by decide +kernel
theorem dX9_doesHold_36 : decode cX9_doesHold 36 = .ok (.aload_n 0, 1) := by decide +kernel
theorem dX9_doesHold_37 : decode cX9_doesHold 37 = .ok (.getfield 7, 3) := by decide +kernel
theorem dX9_doesHold_40 : decode cX9_doesHold 40 = .ok (.iload_n 1, 1) := by decide +kernel
theorem dX9_doesHold_41 : decode cX9_doesHold 41 = .ok (.iaload, 1) := by decide +kernel
theorem dX9_doesHold_42 : decode cX9_doesHold 42 = .ok (.tableswitch 64 0 2 #[26, 26, 51], 26) := by decide +kernel
theorem dX9_doesHold_68 : decode cX9_doesHold 68 = .ok (.aload_n 0, 1) := by decide +kernel
theorem dX9_doesHold_69 : decode cX9_doesHold 69 = .ok (.dup, 1) := by decide +kernel
theorem dX9_doesHold_70 : decode cX9_doesHold 70 = .ok (.getfield 173, 3) := by decide +kernel
theorem dX9_doesHold_73 : decode cX9_doesHold 73 = .ok (.iconst 5, 1) := by decide +kernel
theorem dX9_doesHold_74 : decode cX9_doesHold 74 = .ok (.iadd, 1) := by decide +kernel
theorem dX9_doesHold_75 : decode cX9_doesHold 75 = .ok (.putfield 173, 3) := by decide +kernel
theorem dX9_doesHold_78 : decode cX9_doesHold 78 = .ok (.aload_n 0, 1) := by decide +kernel
theorem dX9_doesHold_79 : decode cX9_doesHold 79 = .ok (.getfield 62, 3) := by decide +kernel
theorem dX9_doesHold_82 : decode cX9_doesHold 82 = .ok (.iload_n 2, 1) := by decide +kernel
theorem dX9_doesHold_83 : decode cX9_doesHold 83 = .ok (.iaload, 1) := by decide +kernel
theorem dX9_doesHold_84 : decode cX9_doesHold 84 = .ok (.ifCond .le 7, 3) := by decide +kernel
theorem dX9_doesHold_87 : decode cX9_doesHold 87 = .ok (.iconst 1, 1) := by decide +kernel
theorem dX9_doesHold_88 : decode cX9_doesHold 88 = .ok (.goto 4, 3) := by decide +kernel
theorem dX9_doesHold_91 : decode cX9_doesHold 91 = .ok (.iconst 0, 1) := by decide +kernel
theorem dX9_doesHold_92 : decode cX9_doesHold 92 = .ok (.ireturn, 1) := by decide +kernel
theorem dX9_doesHold_93 : decode cX9_doesHold 93 = .ok (.aload_n 0, 1) := by decide +kernel
theorem dX9_doesHold_94 : decode cX9_doesHold 94 = .ok (.dup, 1) := by decide +kernel
theorem dX9_doesHold_95 : decode cX9_doesHold 95 = .ok (.getfield 173, 3) := by decide +kernel
theorem dX9_doesHold_98 : decode cX9_doesHold 98 = .ok (.bipush 50, 2) := by decide +kernel
theorem dX9_doesHold_100 : decode cX9_doesHold 100 = .ok (.iadd, 1) := by decide +kernel
theorem dX9_doesHold_101 : decode cX9_doesHold 101 = .ok (.putfield 173, 3) := by decide +kernel
theorem dX9_doesHold_104 : decode cX9_doesHold 104 = .ok (.iconst 0, 1) := by decide +kernel
theorem dX9_doesHold_105 : decode cX9_doesHold 105 = .ok (.ireturn, 1) := by decide +kernel
theorem dX9_doesHold_106 : decode cX9_doesHold 106 = .ok (.aload_n 0, 1) := by decide +kernel
theorem dX9_doesHold_107 : decode cX9_doesHold 107 = .ok (.dup, 1) := by decide +kernel
theorem dX9_doesHold_108 : decode cX9_doesHold 108 = .ok (.getfield 173, 3) := by decide +kernel
theorem dX9_doesHold_111 : decode cX9_doesHold 111 = .ok (.sipush 500, 3) := by decide +kernel
theorem dX9_doesHold_114 : decode cX9_doesHold 114 = .ok (.iadd, 1) := by decide +kernel
theorem dX9_doesHold_115 : decode cX9_doesHold 115 = .ok (.putfield 173, 3) := by decide +kernel
theorem dX9_doesHold_118 : decode cX9_doesHold 118 = .ok (.aload_n 0, 1) := by decide +kernel
theorem dX9_doesHold_119 : decode cX9_doesHold 119 = .ok (.getfield 62, 3) := by decide +kernel
theorem dX9_doesHold_122 : decode cX9_doesHold 122 = .ok (.iload_n 2, 1) := by decide +kernel
theorem dX9_doesHold_123 : decode cX9_doesHold 123 = .ok (.iaload, 1) := by decide +kernel
theorem dX9_doesHold_124 : decode cX9_doesHold 124 = .ok (.ifCond .eq 7, 3) := by decide +kernel
theorem dX9_doesHold_127 : decode cX9_doesHold 127 = .ok (.iconst 1, 1) := by decide +kernel
theorem dX9_doesHold_128 : decode cX9_doesHold 128 = .ok (.goto 4, 3) := by decide +kernel
theorem dX9_doesHold_131 : decode cX9_doesHold 131 = .ok (.iconst 0, 1) := by decide +kernel
theorem dX9_doesHold_132 : decode cX9_doesHold 132 = .ok (.ireturn, 1) := by decide +kernel
theorem dX9_change_0 : decode cX9_change 0 = .ok (.aload_n 0, 1) := by decide +kernel
theorem dX9_change_1 : decode cX9_change 1 = .ok (.getfield 19, 3) := by decide +kernel
theorem dX9_change_4 : decode cX9_change 4 = .ok (.iload_n 1, 1) := by decide +kernel
theorem dX9_change_5 : decode cX9_change 5 = .ok (.dup2, 1) := by decide +kernel
theorem dX9_change_6 : decode cX9_change 6 = .ok (.iaload, 1) := by decide +kernel
theorem dX9_change_7 : decode cX9_change 7 = .ok (.iconst 1, 1) := by decide +kernel
theorem dX9_change_8 : decode cX9_change 8 = .ok (.iadd, 1) := by decide +kernel
theorem dX9_change_9 : decode cX9_change 9 = .ok (.iastore, 1) := by decide +kernel
theorem dX9_change_10 : decode cX9_change 10 = .ok (.aload_n 0, 1) := by decide +kernel
theorem dX9_change_11 : decode cX9_change 11 = .ok (.getfield 13, 3) := by decide +kernel
theorem dX9_change_14 : decode cX9_change 14 = .ok (.iload_n 1, 1) := by decide +kernel
theorem dX9_change_15 : decode cX9_change 15 = .ok (.iaload, 1) := by decide +kernel
theorem dX9_change_16 : decode cX9_change 16 = .ok (.iconst 1, 1) := by decide +kernel
theorem dX9_change_17 : decode cX9_change 17 = .ok (.if_icmp .ne 14, 3) := by decide +kernel
theorem dX9_change_20 : decode cX9_change 20 = .ok (.aload_n 0, 1) := by decide +kernel
theorem dX9_change_21 : decode cX9_change 21 = .ok (.getfield 22, 3) := by decide +kernel
theorem dX9_change_24 : decode cX9_change 24 = .ok (.iload_n 1, 1) := by decide +kernel
theorem dX9_change_25 : decode cX9_change 25 = .ok (.aload_n 0, 1) := by decide +kernel
theorem dX9_change_26 : decode cX9_change 26 = .ok (.iload_n 1, 1) := by decide +kernel
theorem dX9_change_27 : decode cX9_change 27 = .ok (.invokevirtual 183, 3) := by decide +kernel
theorem dX9_change_30 : decode cX9_change 30 = .ok (.iastore, 1) := by decide +kernel
theorem dX9_change_31 : decode cX9_change 31 = .ok (.aload_n 0, 1) := by decide +kernel
theorem dX9_change_32 : decode cX9_change 32 = .ok (.getfield 13, 3) := by decide +kernel
theorem dX9_change_35 : decode cX9_change 35 = .ok (.iload_n 1, 1) := by decide +kernel
theorem dX9_change_36 : decode cX9_change 36 = .ok (.iload_n 2, 1) := by decide +kernel
theorem dX9_change_37 : decode cX9_change 37 = .ok (.iastore, 1) := by decide +kernel
theorem dX9_change_38 : decode cX9_change 38 = .ok (.aload_n 0, 1) := by decide +kernel
theorem dX9_change_39 : decode cX9_change 39 = .ok (.dup, 1) := by decide +kernel
theorem dX9_change_40 : decode cX9_change 40 = .ok (.getfield 186, 3) := by decide +kernel
theorem dX9_change_43 : decode cX9_change 43 = .ok (.iconst 1, 1) := by decide +kernel
theorem dX9_change_44 : decode cX9_change 44 = .ok (.iadd, 1) := by decide +kernel
theorem dX9_change_45 : decode cX9_change 45 = .ok (.putfield 186, 3) := by decide +kernel
theorem dX9_change_48 : decode cX9_change 48 = .ok (.return_, 1) := by decide +kernel
theorem dX9_gapOf_0 : decode cX9_gapOf 0 = .ok (.aload_n 0, 1) := by decide +kernel
theorem dX9_gapOf_1 : decode cX9_gapOf 1 = .ok (.getfield 7, 3) := by decide +kernel
theorem dX9_gapOf_4 : decode cX9_gapOf 4 = .ok (.iload_n 1, 1) := by decide +kernel
theorem dX9_gapOf_5 : decode cX9_gapOf 5 = .ok (.iaload, 1) := by decide +kernel
theorem dX9_gapOf_6 : decode cX9_gapOf 6 = .ok (.iconst 4, 1) := by decide +kernel
theorem dX9_gapOf_7 : decode cX9_gapOf 7 = .ok (.if_icmp .ne 5, 3) := by decide +kernel
theorem dX9_gapOf_10 : decode cX9_gapOf 10 = .ok (.iconst 0, 1) := by decide +kernel
theorem dX9_gapOf_11 : decode cX9_gapOf 11 = .ok (.ireturn, 1) := by decide +kernel
theorem dX9_gapOf_12 : decode cX9_gapOf 12 = .ok (.aload_n 0, 1) := by decide +kernel
theorem dX9_gapOf_13 : decode cX9_gapOf 13 = .ok (.getfield 16, 3) := by decide +kernel
theorem dX9_gapOf_16 : decode cX9_gapOf 16 = .ok (.iload_n 1, 1) := by decide +kernel
theorem dX9_gapOf_17 : decode cX9_gapOf 17 = .ok (.iaload, 1) := by decide +kernel
theorem dX9_gapOf_18 : decode cX9_gapOf 18 = .ok (.istore_n 2, 1) := by decide +kernel
theorem dX9_gapOf_19 : decode cX9_gapOf 19 = .ok (.iload_n 2, 1) := by decide +kernel
theorem dX9_gapOf_20 : decode cX9_gapOf 20 = .ok (.ifCond .lt 12, 3) := by decide +kernel
theorem dX9_gapOf_23 : decode cX9_gapOf 23 = .ok (.aload_n 0, 1) := by decide +kernel
theorem dX9_gapOf_24 : decode cX9_gapOf 24 = .ok (.getfield 59, 3) := by decide +kernel
theorem dX9_gapOf_27 : decode cX9_gapOf 27 = .ok (.iload_n 2, 1) := by decide +kernel
theorem dX9_gapOf_28 : decode cX9_gapOf 28 = .ok (.iaload, 1) := by decide +kernel
theorem dX9_gapOf_29 : decode cX9_gapOf 29 = .ok (.ifCond .ge 11, 3) := by decide +kernel
theorem dX9_gapOf_32 : decode cX9_gapOf 32 = .ok (.aload_n 0, 1) := by decide +kernel
theorem dX9_gapOf_33 : decode cX9_gapOf 33 = .ok (.iconst 1, 1) := by decide +kernel
theorem dX9_gapOf_34 : decode cX9_gapOf 34 = .ok (.iload_n 1, 1) := by decide +kernel
theorem dX9_gapOf_35 : decode cX9_gapOf 35 = .ok (.invokevirtual 169, 3) := by decide +kernel
theorem dX9_gapOf_38 : decode cX9_gapOf 38 = .ok (.iconst 0, 1) := by decide +kernel
theorem dX9_gapOf_39 : decode cX9_gapOf 39 = .ok (.ireturn, 1) := by decide +kernel
theorem dX9_gapOf_40 : decode cX9_gapOf 40 = .ok (.aload_n 0, 1) := by decide +kernel
theorem dX9_gapOf_41 : decode cX9_gapOf 41 = .ok (.getfield 59, 3) := by decide +kernel
theorem dX9_gapOf_44 : decode cX9_gapOf 44 = .ok (.iload_n 2, 1) := by decide +kernel
theorem dX9_gapOf_45 : decode cX9_gapOf 45 = .ok (.iaload, 1) := by decide +kernel
theorem dX9_gapOf_46 : decode cX9_gapOf 46 = .ok (.aload_n 0, 1) := by decide +kernel
theorem dX9_gapOf_47 : decode cX9_gapOf 47 = .ok (.getfield 133, 3) := by decide +kernel
theorem dX9_gapOf_50 : decode cX9_gapOf 50 = .ok (.if_icmp .ge 11, 3) := by decide +kernel
theorem dX9_gapOf_53 : decode cX9_gapOf 53 = .ok (.aload_n 0, 1) := by decide +kernel
theorem dX9_gapOf_54 : decode cX9_gapOf 54 = .ok (.iconst 2, 1) := by decide +kernel
theorem dX9_gapOf_55 : decode cX9_gapOf 55 = .ok (.iload_n 1, 1) := by decide +kernel
theorem dX9_gapOf_56 : decode cX9_gapOf 56 = .ok (.invokevirtual 169, 3) := by decide +kernel
theorem dX9_gapOf_59 : decode cX9_gapOf 59 = .ok (.iconst 0, 1) := by decide +kernel
theorem dX9_gapOf_60 : decode cX9_gapOf 60 = .ok (.ireturn, 1) := by decide +kernel
theorem dX9_gapOf_61 : decode cX9_gapOf 61 = .ok (.iconst 0, 1) := by decide +kernel
theorem dX9_gapOf_62 : decode cX9_gapOf 62 = .ok (.istore_n 3, 1) := by decide +kernel
theorem dX9_gapOf_63 : decode cX9_gapOf 63 = .ok (.aload_n 0, 1) := by decide +kernel
theorem dX9_gapOf_64 : decode cX9_gapOf 64 = .ok (.getfield 189, 3) := by decide +kernel
theorem dX9_gapOf_67 : decode cX9_gapOf 67 = .ok (.istore 4, 2) := by decide +kernel
theorem dX9_gapOf_69 : decode cX9_gapOf 69 = .ok (.iload 4, 2) := by decide +kernel
theorem dX9_gapOf_71 : decode cX9_gapOf 71 = .ok (.aload_n 0, 1) := by decide +kernel
theorem dX9_gapOf_72 : decode cX9_gapOf 72 = .ok (.getfield 133, 3) := by decide +kernel
theorem dX9_gapOf_75 : decode cX9_gapOf 75 = .ok (.if_icmp .ge 25, 3) := by decide +kernel
theorem dX9_gapOf_78 : decode cX9_gapOf 78 = .ok (.iload_n 3, 1) := by decide +kernel
theorem dX9_gapOf_79 : decode cX9_gapOf 79 = .ok (.aload_n 0, 1) := by decide +kernel
theorem dX9_gapOf_80 : decode cX9_gapOf 80 = .ok (.getfield 62, 3) := by decide +kernel
theorem dX9_gapOf_83 : decode cX9_gapOf 83 = .ok (.sipush 200, 3) := by decide +kernel
theorem dX9_gapOf_86 : decode cX9_gapOf 86 = .ok (.iload_n 2, 1) := by decide +kernel
theorem dX9_gapOf_87 : decode cX9_gapOf 87 = .ok (.imul, 1) := by decide +kernel
theorem dX9_gapOf_88 : decode cX9_gapOf 88 = .ok (.iload 4, 2) := by decide +kernel
theorem dX9_gapOf_90 : decode cX9_gapOf 90 = .ok (.iadd, 1) := by decide +kernel
theorem dX9_gapOf_91 : decode cX9_gapOf 91 = .ok (.iaload, 1) := by decide +kernel
theorem dX9_gapOf_92 : decode cX9_gapOf 92 = .ok (.iadd, 1) := by decide +kernel
theorem dX9_gapOf_93 : decode cX9_gapOf 93 = .ok (.istore_n 3, 1) := by decide +kernel
theorem dX9_gapOf_94 : decode cX9_gapOf 94 = .ok (.iinc 4 1, 3) := by decide +kernel
theorem dX9_gapOf_97 : decode cX9_gapOf 97 = .ok (.goto (-28), 3) := by decide +kernel
theorem dX9_gapOf_100 : decode cX9_gapOf 100 = .ok (.iload_n 3, 1) := by decide +kernel
theorem dX9_gapOf_101 : decode cX9_gapOf 101 = .ok (.ifCond .ne 11, 3) := by decide +kernel
theorem dX9_gapOf_104 : decode cX9_gapOf 104 = .ok (.aload_n 0, 1) := by decide +kernel
theorem dX9_gapOf_105 : decode cX9_gapOf 105 = .ok (.iconst 3, 1) := by decide +kernel
theorem dX9_gapOf_106 : decode cX9_gapOf 106 = .ok (.iload_n 1, 1) := by decide +kernel
theorem dX9_gapOf_107 : decode cX9_gapOf 107 = .ok (.invokevirtual 169, 3) := by decide +kernel
theorem dX9_gapOf_110 : decode cX9_gapOf 110 = .ok (.iconst 0, 1) := by decide +kernel
theorem dX9_gapOf_111 : decode cX9_gapOf 111 = .ok (.ireturn, 1) := by decide +kernel
theorem dX9_gapOf_112 : decode cX9_gapOf 112 = .ok (.aload_n 0, 1) := by decide +kernel
theorem dX9_gapOf_113 : decode cX9_gapOf 113 = .ok (.getfield 133, 3) := by decide +kernel
theorem dX9_gapOf_116 : decode cX9_gapOf 116 = .ok (.aload_n 0, 1) := by decide +kernel
theorem dX9_gapOf_117 : decode cX9_gapOf 117 = .ok (.getfield 189, 3) := by decide +kernel
theorem dX9_gapOf_120 : decode cX9_gapOf 120 = .ok (.isub, 1) := by decide +kernel
theorem dX9_gapOf_121 : decode cX9_gapOf 121 = .ok (.iload_n 3, 1) := by decide +kernel
theorem dX9_gapOf_122 : decode cX9_gapOf 122 = .ok (.idiv, 1) := by decide +kernel
theorem dX9_gapOf_123 : decode cX9_gapOf 123 = .ok (.ireturn, 1) := by decide +kernel
theorem dX9_endsIn_0 : decode cX9_endsIn 0 = .ok (.aload_n 0, 1) := by decide +kernel
theorem dX9_endsIn_1 : decode cX9_endsIn 1 = .ok (.getfield 28, 3) := by decide +kernel
theorem dX9_endsIn_4 : decode cX9_endsIn 4 = .ok (.iload_n 1, 1) := by decide +kernel
theorem dX9_endsIn_5 : decode cX9_endsIn 5 = .ok (.iload_n 2, 1) := by decide +kernel
theorem dX9_endsIn_6 : decode cX9_endsIn 6 = .ok (.iastore, 1) := by decide +kernel
theorem dX9_endsIn_7 : decode cX9_endsIn 7 = .ok (.iconst 0, 1) := by decide +kernel
theorem dX9_endsIn_8 : decode cX9_endsIn 8 = .ok (.istore_n 3, 1) := by decide +kernel
theorem dX9_endsIn_9 : decode cX9_endsIn 9 = .ok (.iload_n 3, 1) := by decide +kernel
theorem dX9_endsIn_10 : decode cX9_endsIn 10 = .ok (.aload_n 0, 1) := by decide +kernel
theorem dX9_endsIn_11 : decode cX9_endsIn 11 = .ok (.getfield 120, 3) := by decide +kernel
theorem dX9_endsIn_14 : decode cX9_endsIn 14 = .ok (.if_icmp .ge 54, 3) := by decide +kernel
theorem dX9_endsIn_17 : decode cX9_endsIn 17 = .ok (.aload_n 0, 1) := by decide +kernel
theorem dX9_endsIn_18 : decode cX9_endsIn 18 = .ok (.getfield 53, 3) := by decide +kernel
theorem dX9_endsIn_21 : decode cX9_endsIn 21 = .ok (.bipush 8, 2) := by decide +kernel
theorem dX9_endsIn_23 : decode cX9_endsIn 23 = .ok (.iload_n 1, 1) := by decide +kernel
theorem dX9_endsIn_24 : decode cX9_endsIn 24 = .ok (.imul, 1) := by decide +kernel
theorem dX9_endsIn_25 : decode cX9_endsIn 25 = .ok (.iload_n 3, 1) := by decide +kernel
theorem dX9_endsIn_26 : decode cX9_endsIn 26 = .ok (.iadd, 1) := by decide +kernel
theorem dX9_endsIn_27 : decode cX9_endsIn 27 = .ok (.iaload, 1) := by decide +kernel
theorem dX9_endsIn_28 : decode cX9_endsIn 28 = .ok (.istore 4, 2) := by decide +kernel
theorem dX9_endsIn_30 : decode cX9_endsIn 30 = .ok (.iload 4, 2) := by decide +kernel
theorem dX9_endsIn_32 : decode cX9_endsIn 32 = .ok (.ifCond .le 30, 3) := by decide +kernel
theorem dX9_endsIn_35 : decode cX9_endsIn 35 = .ok (.iload_n 2, 1) := by decide +kernel
theorem dX9_endsIn_36 : decode cX9_endsIn 36 = .ok (.iload 4, 2) := by decide +kernel
theorem dX9_endsIn_38 : decode cX9_endsIn 38 = .ok (.iadd, 1) := by decide +kernel
theorem dX9_endsIn_39 : decode cX9_endsIn 39 = .ok (.iconst 1, 1) := by decide +kernel
theorem dX9_endsIn_40 : decode cX9_endsIn 40 = .ok (.isub, 1) := by decide +kernel
theorem dX9_endsIn_41 : decode cX9_endsIn 41 = .ok (.aload_n 0, 1) := by decide +kernel
theorem dX9_endsIn_42 : decode cX9_endsIn 42 = .ok (.getfield 31, 3) := by decide +kernel
theorem dX9_endsIn_45 : decode cX9_endsIn 45 = .ok (.iload_n 3, 1) := by decide +kernel
theorem dX9_endsIn_46 : decode cX9_endsIn 46 = .ok (.iaload, 1) := by decide +kernel
theorem dX9_endsIn_47 : decode cX9_endsIn 47 = .ok (.if_icmp .le 15, 3) := by decide +kernel
theorem dX9_endsIn_50 : decode cX9_endsIn 50 = .ok (.aload_n 0, 1) := by decide +kernel
theorem dX9_endsIn_51 : decode cX9_endsIn 51 = .ok (.getfield 31, 3) := by decide +kernel
theorem dX9_endsIn_54 : decode cX9_endsIn 54 = .ok (.iload_n 3, 1) := by decide +kernel
theorem dX9_endsIn_55 : decode cX9_endsIn 55 = .ok (.iload_n 2, 1) := by decide +kernel
theorem dX9_endsIn_56 : decode cX9_endsIn 56 = .ok (.iload 4, 2) := by decide +kernel
theorem dX9_endsIn_58 : decode cX9_endsIn 58 = .ok (.iadd, 1) := by decide +kernel
theorem dX9_endsIn_59 : decode cX9_endsIn 59 = .ok (.iconst 1, 1) := by decide +kernel
theorem dX9_endsIn_60 : decode cX9_endsIn 60 = .ok (.isub, 1) := by decide +kernel
theorem dX9_endsIn_61 : decode cX9_endsIn 61 = .ok (.iastore, 1) := by decide +kernel
theorem dX9_endsIn_62 : decode cX9_endsIn 62 = .ok (.iinc 3 1, 3) := by decide +kernel
theorem dX9_endsIn_65 : decode cX9_endsIn 65 = .ok (.goto (-56), 3) := by decide +kernel
theorem dX9_endsIn_68 : decode cX9_endsIn 68 = .ok (.return_, 1) := by decide +kernel
theorem dX9_leastOf_0 : decode cX9_leastOf 0 = .ok (.iconst 0, 1) := by decide +kernel
theorem dX9_leastOf_1 : decode cX9_leastOf 1 = .ok (.istore_n 2, 1) := by decide +kernel
theorem dX9_leastOf_2 : decode cX9_leastOf 2 = .ok (.iconst 0, 1) := by decide +kernel
theorem dX9_leastOf_3 : decode cX9_leastOf 3 = .ok (.istore_n 3, 1) := by decide +kernel
theorem dX9_leastOf_4 : decode cX9_leastOf 4 = .ok (.iload_n 3, 1) := by decide +kernel
theorem dX9_leastOf_5 : decode cX9_leastOf 5 = .ok (.iconst 4, 1) := by decide +kernel
theorem dX9_leastOf_6 : decode cX9_leastOf 6 = .ok (.if_icmp .ge 49, 3) := by decide +kernel
theorem dX9_leastOf_9 : decode cX9_leastOf 9 = .ok (.aload_n 0, 1) := by decide +kernel
theorem dX9_leastOf_10 : decode cX9_leastOf 10 = .ok (.getfield 56, 3) := by decide +kernel
theorem dX9_leastOf_13 : decode cX9_leastOf 13 = .ok (.iconst 4, 1) := by decide +kernel
theorem dX9_leastOf_14 : decode cX9_leastOf 14 = .ok (.iload_n 1, 1) := by decide +kernel
theorem dX9_leastOf_15 : decode cX9_leastOf 15 = .ok (.imul, 1) := by decide +kernel
theorem dX9_leastOf_16 : decode cX9_leastOf 16 = .ok (.iload_n 3, 1) := by decide +kernel
theorem dX9_leastOf_17 : decode cX9_leastOf 17 = .ok (.iadd, 1) := by decide +kernel
theorem dX9_leastOf_18 : decode cX9_leastOf 18 = .ok (.iaload, 1) := by decide +kernel
theorem dX9_leastOf_19 : decode cX9_leastOf 19 = .ok (.istore 4, 2) := by decide +kernel
theorem dX9_leastOf_21 : decode cX9_leastOf 21 = .ok (.iload 4, 2) := by decide +kernel
theorem dX9_leastOf_23 : decode cX9_leastOf 23 = .ok (.ifCond .lt 24, 3) := by decide +kernel
theorem dX9_leastOf_26 : decode cX9_leastOf 26 = .ok (.aload_n 0, 1) := by decide +kernel
theorem dX9_leastOf_27 : decode cX9_leastOf 27 = .ok (.getfield 37, 3) := by decide +kernel
theorem dX9_leastOf_30 : decode cX9_leastOf 30 = .ok (.iload 4, 2) := by decide +kernel
theorem dX9_leastOf_32 : decode cX9_leastOf 32 = .ok (.iaload, 1) := by decide +kernel
theorem dX9_leastOf_33 : decode cX9_leastOf 33 = .ok (.iload_n 2, 1) := by decide +kernel
theorem dX9_leastOf_34 : decode cX9_leastOf 34 = .ok (.if_icmp .le 13, 3) := by decide +kernel
theorem dX9_leastOf_37 : decode cX9_leastOf 37 = .ok (.aload_n 0, 1) := by decide +kernel
theorem dX9_leastOf_38 : decode cX9_leastOf 38 = .ok (.getfield 37, 3) := by decide +kernel
theorem dX9_leastOf_41 : decode cX9_leastOf 41 = .ok (.iload 4, 2) := by decide +kernel
theorem dX9_leastOf_43 : decode cX9_leastOf 43 = .ok (.iaload, 1) := by decide +kernel
theorem dX9_leastOf_44 : decode cX9_leastOf 44 = .ok (.goto 4, 3) := by decide +kernel
theorem dX9_leastOf_47 : decode cX9_leastOf 47 = .ok (.iload_n 2, 1) := by decide +kernel
theorem dX9_leastOf_48 : decode cX9_leastOf 48 = .ok (.istore_n 2, 1) := by decide +kernel
theorem dX9_leastOf_49 : decode cX9_leastOf 49 = .ok (.iinc 3 1, 3) := by decide +kernel
theorem dX9_leastOf_52 : decode cX9_leastOf 52 = .ok (.goto (-48), 3) := by decide +kernel
theorem dX9_leastOf_55 : decode cX9_leastOf 55 = .ok (.iload_n 2, 1) := by decide +kernel
theorem dX9_leastOf_56 : decode cX9_leastOf 56 = .ok (.ireturn, 1) := by decide +kernel
theorem dX9_greatestOf_0 : decode cX9_greatestOf 0 = .ok (.sipush 1000, 3) := by decide +kernel
theorem dX9_greatestOf_3 : decode cX9_greatestOf 3 = .ok (.istore_n 2, 1) := by decide +kernel
theorem dX9_greatestOf_4 : decode cX9_greatestOf 4 = .ok (.iconst 0, 1) := by decide +kernel
theorem dX9_greatestOf_5 : decode cX9_greatestOf 5 = .ok (.istore_n 3, 1) := by decide +kernel
theorem dX9_greatestOf_6 : decode cX9_greatestOf 6 = .ok (.iload_n 3, 1) := by decide +kernel
theorem dX9_greatestOf_7 : decode cX9_greatestOf 7 = .ok (.iconst 4, 1) := by decide +kernel
theorem dX9_greatestOf_8 : decode cX9_greatestOf 8 = .ok (.if_icmp .ge 49, 3) := by decide +kernel
theorem dX9_greatestOf_11 : decode cX9_greatestOf 11 = .ok (.aload_n 0, 1) := by decide +kernel
theorem dX9_greatestOf_12 : decode cX9_greatestOf 12 = .ok (.getfield 56, 3) := by decide +kernel
theorem dX9_greatestOf_15 : decode cX9_greatestOf 15 = .ok (.iconst 4, 1) := by decide +kernel
theorem dX9_greatestOf_16 : decode cX9_greatestOf 16 = .ok (.iload_n 1, 1) := by decide +kernel
theorem dX9_greatestOf_17 : decode cX9_greatestOf 17 = .ok (.imul, 1) := by decide +kernel
theorem dX9_greatestOf_18 : decode cX9_greatestOf 18 = .ok (.iload_n 3, 1) := by decide +kernel
theorem dX9_greatestOf_19 : decode cX9_greatestOf 19 = .ok (.iadd, 1) := by decide +kernel
theorem dX9_greatestOf_20 : decode cX9_greatestOf 20 = .ok (.iaload, 1) := by decide +kernel
theorem dX9_greatestOf_21 : decode cX9_greatestOf 21 = .ok (.istore 4, 2) := by decide +kernel
theorem dX9_greatestOf_23 : decode cX9_greatestOf 23 = .ok (.iload 4, 2) := by decide +kernel
theorem dX9_greatestOf_25 : decode cX9_greatestOf 25 = .ok (.ifCond .lt 24, 3) := by decide +kernel
theorem dX9_greatestOf_28 : decode cX9_greatestOf 28 = .ok (.aload_n 0, 1) := by decide +kernel
theorem dX9_greatestOf_29 : decode cX9_greatestOf 29 = .ok (.getfield 40, 3) := by decide +kernel
theorem dX9_greatestOf_32 : decode cX9_greatestOf 32 = .ok (.iload 4, 2) := by decide +kernel
theorem dX9_greatestOf_34 : decode cX9_greatestOf 34 = .ok (.iaload, 1) := by decide +kernel
theorem dX9_greatestOf_35 : decode cX9_greatestOf 35 = .ok (.iload_n 2, 1) := by decide +kernel
theorem dX9_greatestOf_36 : decode cX9_greatestOf 36 = .ok (.if_icmp .ge 13, 3) := by decide +kernel
theorem dX9_greatestOf_39 : decode cX9_greatestOf 39 = .ok (.aload_n 0, 1) := by decide +kernel
theorem dX9_greatestOf_40 : decode cX9_greatestOf 40 = .ok (.getfield 40, 3) := by decide +kernel
theorem dX9_greatestOf_43 : decode cX9_greatestOf 43 = .ok (.iload 4, 2) := by decide +kernel
theorem dX9_greatestOf_45 : decode cX9_greatestOf 45 = .ok (.iaload, 1) := by decide +kernel
theorem dX9_greatestOf_46 : decode cX9_greatestOf 46 = .ok (.goto 4, 3) := by decide +kernel
theorem dX9_greatestOf_49 : decode cX9_greatestOf 49 = .ok (.iload_n 2, 1) := by decide +kernel
theorem dX9_greatestOf_50 : decode cX9_greatestOf 50 = .ok (.istore_n 2, 1) := by decide +kernel
theorem dX9_greatestOf_51 : decode cX9_greatestOf 51 = .ok (.iinc 3 1, 3) := by decide +kernel
theorem dX9_greatestOf_54 : decode cX9_greatestOf 54 = .ok (.goto (-48), 3) := by decide +kernel
theorem dX9_greatestOf_57 : decode cX9_greatestOf 57 = .ok (.iload_n 2, 1) := by decide +kernel
theorem dX9_greatestOf_58 : decode cX9_greatestOf 58 = .ok (.aload_n 0, 1) := by decide +kernel
theorem dX9_greatestOf_59 : decode cX9_greatestOf 59 = .ok (.iload_n 1, 1) := by decide +kernel
theorem dX9_greatestOf_60 : decode cX9_greatestOf 60 = .ok (.invokevirtual 192, 3) := by decide +kernel
theorem dX9_greatestOf_63 : decode cX9_greatestOf 63 = .ok (.if_icmp .ge 11, 3) := by decide +kernel
theorem dX9_greatestOf_66 : decode cX9_greatestOf 66 = .ok (.aload_n 0, 1) := by decide +kernel
theorem dX9_greatestOf_67 : decode cX9_greatestOf 67 = .ok (.iload_n 1, 1) := by decide +kernel
theorem dX9_greatestOf_68 : decode cX9_greatestOf 68 = .ok (.invokevirtual 192, 3) := by decide +kernel
theorem dX9_greatestOf_71 : decode cX9_greatestOf 71 = .ok (.goto 4, 3) := by decide +kernel
theorem dX9_greatestOf_74 : decode cX9_greatestOf 74 = .ok (.iload_n 2, 1) := by decide +kernel
theorem dX9_greatestOf_75 : decode cX9_greatestOf 75 = .ok (.ireturn, 1) := by decide +kernel
theorem dX9_askedFirst_0 : decode cX9_askedFirst 0 = .ok (.bipush (-5), 2) := by decide +kernel
theorem dX9_askedFirst_2 : decode cX9_askedFirst 2 = .ok (.istore_n 2, 1) := by decide +kernel
theorem dX9_askedFirst_3 : decode cX9_askedFirst 3 = .ok (.iconst 0, 1) := by decide +kernel
theorem dX9_askedFirst_4 : decode cX9_askedFirst 4 = .ok (.istore_n 3, 1) := by decide +kernel
theorem dX9_askedFirst_5 : decode cX9_askedFirst 5 = .ok (.iload_n 3, 1) := by decide +kernel
theorem dX9_askedFirst_6 : decode cX9_askedFirst 6 = .ok (.iconst 4, 1) := by decide +kernel
theorem dX9_askedFirst_7 : decode cX9_askedFirst 7 = .ok (.if_icmp .ge 59, 3) := by decide +kernel
theorem dX9_askedFirst_10 : decode cX9_askedFirst 10 = .ok (.aload_n 0, 1) := by decide +kernel
theorem dX9_askedFirst_11 : decode cX9_askedFirst 11 = .ok (.getfield 56, 3) := by decide +kernel
theorem dX9_askedFirst_14 : decode cX9_askedFirst 14 = .ok (.iconst 4, 1) := by decide +kernel
theorem dX9_askedFirst_15 : decode cX9_askedFirst 15 = .ok (.iload_n 1, 1) := by decide +kernel
theorem dX9_askedFirst_16 : decode cX9_askedFirst 16 = .ok (.imul, 1) := by decide +kernel
theorem dX9_askedFirst_17 : decode cX9_askedFirst 17 = .ok (.iload_n 3, 1) := by decide +kernel
theorem dX9_askedFirst_18 : decode cX9_askedFirst 18 = .ok (.iadd, 1) := by decide +kernel
theorem dX9_askedFirst_19 : decode cX9_askedFirst 19 = .ok (.iaload, 1) := by decide +kernel
theorem dX9_askedFirst_20 : decode cX9_askedFirst 20 = .ok (.istore 4, 2) := by decide +kernel
theorem dX9_askedFirst_22 : decode cX9_askedFirst 22 = .ok (.iload 4, 2) := by decide +kernel
theorem dX9_askedFirst_24 : decode cX9_askedFirst 24 = .ok (.ifCond .lt 36, 3) := by decide +kernel
theorem dX9_askedFirst_27 : decode cX9_askedFirst 27 = .ok (.aload_n 0, 1) := by decide +kernel
theorem dX9_askedFirst_28 : decode cX9_askedFirst 28 = .ok (.getfield 34, 3) := by decide +kernel
theorem dX9_askedFirst_31 : decode cX9_askedFirst 31 = .ok (.iload 4, 2) := by decide +kernel
theorem dX9_askedFirst_33 : decode cX9_askedFirst 33 = .ok (.iaload, 1) := by decide +kernel
theorem dX9_askedFirst_34 : decode cX9_askedFirst 34 = .ok (.ifCond .lt 26, 3) := by decide +kernel
theorem dX9_askedFirst_37 : decode cX9_askedFirst 37 = .ok (.iload_n 2, 1) := by decide +kernel
theorem dX9_askedFirst_38 : decode cX9_askedFirst 38 = .ok (.ifCond .lt 14, 3) := by decide +kernel
theorem dX9_askedFirst_41 : decode cX9_askedFirst 41 = .ok (.aload_n 0, 1) := by decide +kernel
theorem dX9_askedFirst_42 : decode cX9_askedFirst 42 = .ok (.getfield 34, 3) := by decide +kernel
theorem dX9_askedFirst_45 : decode cX9_askedFirst 45 = .ok (.iload 4, 2) := by decide +kernel
theorem dX9_askedFirst_47 : decode cX9_askedFirst 47 = .ok (.iaload, 1) := by decide +kernel
theorem dX9_askedFirst_48 : decode cX9_askedFirst 48 = .ok (.iload_n 2, 1) := by decide +kernel
theorem dX9_askedFirst_49 : decode cX9_askedFirst 49 = .ok (.if_icmp .ge 11, 3) := by decide +kernel
theorem dX9_askedFirst_52 : decode cX9_askedFirst 52 = .ok (.aload_n 0, 1) := by decide +kernel
theorem dX9_askedFirst_53 : decode cX9_askedFirst 53 = .ok (.getfield 34, 3) := by decide +kernel
theorem dX9_askedFirst_56 : decode cX9_askedFirst 56 = .ok (.iload 4, 2) := by decide +kernel
theorem dX9_askedFirst_58 : decode cX9_askedFirst 58 = .ok (.iaload, 1) := by decide +kernel
theorem dX9_askedFirst_59 : decode cX9_askedFirst 59 = .ok (.istore_n 2, 1) := by decide +kernel
theorem dX9_askedFirst_60 : decode cX9_askedFirst 60 = .ok (.iinc 3 1, 3) := by decide +kernel
theorem dX9_askedFirst_63 : decode cX9_askedFirst 63 = .ok (.goto (-58), 3) := by decide +kernel
theorem dX9_askedFirst_66 : decode cX9_askedFirst 66 = .ok (.iload_n 2, 1) := by decide +kernel
theorem dX9_askedFirst_67 : decode cX9_askedFirst 67 = .ok (.ireturn, 1) := by decide +kernel
theorem dX9_next_0 : decode cX9_next 0 = .ok (.aload_n 0, 1) := by decide +kernel
theorem dX9_next_1 : decode cX9_next 1 = .ok (.getfield 102, 3) := by decide +kernel
theorem dX9_next_4 : decode cX9_next 4 = .ok (.ifCond .lt 8, 3) := by decide +kernel
theorem dX9_next_7 : decode cX9_next 7 = .ok (.aload_n 0, 1) := by decide +kernel
theorem dX9_next_8 : decode cX9_next 8 = .ok (.getfield 102, 3) := by decide +kernel
theorem dX9_next_11 : decode cX9_next 11 = .ok (.ireturn, 1) := by decide +kernel
theorem dX9_next_12 : decode cX9_next 12 = .ok (.bipush (-5), 2) := by decide +kernel
theorem dX9_next_14 : decode cX9_next 14 = .ok (.istore_n 1, 1) := by decide +kernel
theorem dX9_next_15 : decode cX9_next 15 = .ok (.iconst 0, 1) := by decide +kernel
theorem dX9_next_16 : decode cX9_next 16 = .ok (.istore_n 2, 1) := by decide +kernel
theorem dX9_next_17 : decode cX9_next 17 = .ok (.iconst 1, 1) := by decide +kernel
theorem dX9_next_18 : decode cX9_next 18 = .ok (.istore_n 3, 1) := by decide +kernel
theorem dX9_next_19 : decode cX9_next 19 = .ok (.iload_n 3, 1) := by decide +kernel
theorem dX9_next_20 : decode cX9_next 20 = .ok (.aload_n 0, 1) := by decide +kernel
theorem dX9_next_21 : decode cX9_next 21 = .ok (.getfield 127, 3) := by decide +kernel
theorem dX9_next_24 : decode cX9_next 24 = .ok (.if_icmp .gt 51, 3) := by decide +kernel
theorem dX9_next_27 : decode cX9_next 27 = .ok (.aload_n 0, 1) := by decide +kernel
theorem dX9_next_28 : decode cX9_next 28 = .ok (.getfield 99, 3) := by decide +kernel
theorem dX9_next_31 : decode cX9_next 31 = .ok (.iload_n 3, 1) := by decide +kernel
theorem dX9_next_32 : decode cX9_next 32 = .ok (.iadd, 1) := by decide +kernel
theorem dX9_next_33 : decode cX9_next 33 = .ok (.aload_n 0, 1) := by decide +kernel
theorem dX9_next_34 : decode cX9_next 34 = .ok (.getfield 127, 3) := by decide +kernel
theorem dX9_next_37 : decode cX9_next 37 = .ok (.irem, 1) := by decide +kernel
theorem dX9_next_38 : decode cX9_next 38 = .ok (.istore 4, 2) := by decide +kernel
theorem dX9_next_40 : decode cX9_next 40 = .ok (.aload_n 0, 1) := by decide +kernel
theorem dX9_next_41 : decode cX9_next 41 = .ok (.iload 4, 2) := by decide +kernel
theorem dX9_next_43 : decode cX9_next 43 = .ok (.invokevirtual 195, 3) := by decide +kernel
theorem dX9_next_46 : decode cX9_next 46 = .ok (.istore 5, 2) := by decide +kernel
theorem dX9_next_48 : decode cX9_next 48 = .ok (.iload 5, 2) := by decide +kernel
theorem dX9_next_50 : decode cX9_next 50 = .ok (.ifCond .lt 19, 3) := by decide +kernel
theorem dX9_next_53 : decode cX9_next 53 = .ok (.iload_n 1, 1) := by decide +kernel
theorem dX9_next_54 : decode cX9_next 54 = .ok (.ifCond .lt 9, 3) := by decide +kernel
theorem dX9_next_57 : decode cX9_next 57 = .ok (.iload 5, 2) := by decide +kernel
theorem dX9_next_59 : decode cX9_next 59 = .ok (.iload_n 2, 1) := by decide +kernel
theorem dX9_next_60 : decode cX9_next 60 = .ok (.if_icmp .ge 9, 3) := by decide +kernel
theorem dX9_next_63 : decode cX9_next 63 = .ok (.iload 4, 2) := by decide +kernel
theorem dX9_next_65 : decode cX9_next 65 = .ok (.istore_n 1, 1) := by decide +kernel
theorem dX9_next_66 : decode cX9_next 66 = .ok (.iload 5, 2) := by decide +kernel
theorem dX9_next_68 : decode cX9_next 68 = .ok (.istore_n 2, 1) := by decide +kernel
theorem dX9_next_69 : decode cX9_next 69 = .ok (.iinc 3 1, 3) := by decide +kernel
theorem dX9_next_72 : decode cX9_next 72 = .ok (.goto (-53), 3) := by decide +kernel
theorem dX9_next_75 : decode cX9_next 75 = .ok (.iload_n 1, 1) := by decide +kernel
theorem dX9_next_76 : decode cX9_next 76 = .ok (.ireturn, 1) := by decide +kernel
theorem dX9_doOrders_0 : decode cX9_doOrders 0 = .ok (.iconst 0, 1) := by decide +kernel
theorem dX9_doOrders_1 : decode cX9_doOrders 1 = .ok (.istore_n 1, 1) := by decide +kernel
theorem dX9_doOrders_2 : decode cX9_doOrders 2 = .ok (.iconst 0, 1) := by decide +kernel
theorem dX9_doOrders_3 : decode cX9_doOrders 3 = .ok (.istore_n 2, 1) := by decide +kernel
theorem dX9_doOrders_4 : decode cX9_doOrders 4 = .ok (.iload_n 2, 1) := by decide +kernel
theorem dX9_doOrders_5 : decode cX9_doOrders 5 = .ok (.aload_n 0, 1) := by decide +kernel
theorem dX9_doOrders_6 : decode cX9_doOrders 6 = .ok (.getfield 150, 3) := by decide +kernel
theorem dX9_doOrders_9 : decode cX9_doOrders 9 = .ok (.if_icmp .ge 131, 3) := by decide +kernel
theorem dX9_doOrders_12 : decode cX9_doOrders 12 = .ok (.aload_n 0, 1) := by decide +kernel
theorem dX9_doOrders_13 : decode cX9_doOrders 13 = .ok (.getfield 80, 3) := by decide +kernel
theorem dX9_doOrders_16 : decode cX9_doOrders 16 = .ok (.iload_n 2, 1) := by decide +kernel
theorem dX9_doOrders_17 : decode cX9_doOrders 17 = .ok (.iaload, 1) := by decide +kernel
theorem dX9_doOrders_18 : decode cX9_doOrders 18 = .ok (.aload_n 0, 1) := by decide +kernel
theorem dX9_doOrders_19 : decode cX9_doOrders 19 = .ok (.getfield 133, 3) := by decide +kernel
theorem dX9_doOrders_22 : decode cX9_doOrders 22 = .ok (.if_icmp .ne 49, 3) := by decide +kernel
theorem dX9_doOrders_25 : decode cX9_doOrders 25 = .ok (.aload_n 0, 1) := by decide +kernel
theorem dX9_doOrders_26 : decode cX9_doOrders 26 = .ok (.getfield 68, 3) := by decide +kernel
theorem dX9_doOrders_29 : decode cX9_doOrders 29 = .ok (.iload_n 2, 1) := by decide +kernel
theorem dX9_doOrders_30 : decode cX9_doOrders 30 = .ok (.iaload, 1) := by decide +kernel
theorem dX9_doOrders_31 : decode cX9_doOrders 31 = .ok (.istore_n 3, 1) := by decide +kernel
theorem dX9_doOrders_32 : decode cX9_doOrders 32 = .ok (.aload_n 0, 1) := by decide +kernel
theorem dX9_doOrders_33 : decode cX9_doOrders 33 = .ok (.getfield 37, 3) := by decide +kernel
theorem dX9_doOrders_36 : decode cX9_doOrders 36 = .ok (.iload_n 3, 1) := by decide +kernel
theorem dX9_doOrders_37 : decode cX9_doOrders 37 = .ok (.aload_n 0, 1) := by decide +kernel
theorem dX9_doOrders_38 : decode cX9_doOrders 38 = .ok (.getfield 71, 3) := by decide +kernel
theorem dX9_doOrders_41 : decode cX9_doOrders 41 = .ok (.iload_n 2, 1) := by decide +kernel
theorem dX9_doOrders_42 : decode cX9_doOrders 42 = .ok (.iaload, 1) := by decide +kernel
theorem dX9_doOrders_43 : decode cX9_doOrders 43 = .ok (.iastore, 1) := by decide +kernel
theorem dX9_doOrders_44 : decode cX9_doOrders 44 = .ok (.aload_n 0, 1) := by decide +kernel
theorem dX9_doOrders_45 : decode cX9_doOrders 45 = .ok (.getfield 40, 3) := by decide +kernel
theorem dX9_doOrders_48 : decode cX9_doOrders 48 = .ok (.iload_n 3, 1) := by decide +kernel
theorem dX9_doOrders_49 : decode cX9_doOrders 49 = .ok (.aload_n 0, 1) := by decide +kernel
theorem dX9_doOrders_50 : decode cX9_doOrders 50 = .ok (.getfield 74, 3) := by decide +kernel
theorem dX9_doOrders_53 : decode cX9_doOrders 53 = .ok (.iload_n 2, 1) := by decide +kernel
theorem dX9_doOrders_54 : decode cX9_doOrders 54 = .ok (.iaload, 1) := by decide +kernel
theorem dX9_doOrders_55 : decode cX9_doOrders 55 = .ok (.iastore, 1) := by decide +kernel
theorem dX9_doOrders_56 : decode cX9_doOrders 56 = .ok (.aload_n 0, 1) := by decide +kernel
theorem dX9_doOrders_57 : decode cX9_doOrders 57 = .ok (.getfield 43, 3) := by decide +kernel
theorem dX9_doOrders_60 : decode cX9_doOrders 60 = .ok (.iload_n 3, 1) := by decide +kernel
theorem dX9_doOrders_61 : decode cX9_doOrders 61 = .ok (.aload_n 0, 1) := by decide +kernel
theorem dX9_doOrders_62 : decode cX9_doOrders 62 = .ok (.getfield 77, 3) := by decide +kernel
theorem dX9_doOrders_65 : decode cX9_doOrders 65 = .ok (.iload_n 2, 1) := by decide +kernel
theorem dX9_doOrders_66 : decode cX9_doOrders 66 = .ok (.iaload, 1) := by decide +kernel
theorem dX9_doOrders_67 : decode cX9_doOrders 67 = .ok (.iastore, 1) := by decide +kernel
theorem dX9_doOrders_68 : decode cX9_doOrders 68 = .ok (.goto 66, 3) := by decide +kernel
theorem dX9_doOrders_71 : decode cX9_doOrders 71 = .ok (.aload_n 0, 1) := by decide +kernel
theorem dX9_doOrders_72 : decode cX9_doOrders 72 = .ok (.getfield 68, 3) := by decide +kernel
theorem dX9_doOrders_75 : decode cX9_doOrders 75 = .ok (.iload_n 1, 1) := by decide +kernel
theorem dX9_doOrders_76 : decode cX9_doOrders 76 = .ok (.aload_n 0, 1) := by decide +kernel
theorem dX9_doOrders_77 : decode cX9_doOrders 77 = .ok (.getfield 68, 3) := by decide +kernel
theorem dX9_doOrders_80 : decode cX9_doOrders 80 = .ok (.iload_n 2, 1) := by decide +kernel
theorem dX9_doOrders_81 : decode cX9_doOrders 81 = .ok (.iaload, 1) := by decide +kernel
theorem dX9_doOrders_82 : decode cX9_doOrders 82 = .ok (.iastore, 1) := by decide +kernel
theorem dX9_doOrders_83 : decode cX9_doOrders 83 = .ok (.aload_n 0, 1) := by decide +kernel
theorem dX9_doOrders_84 : decode cX9_doOrders 84 = .ok (.getfield 71, 3) := by decide +kernel
theorem dX9_doOrders_87 : decode cX9_doOrders 87 = .ok (.iload_n 1, 1) := by decide +kernel
theorem dX9_doOrders_88 : decode cX9_doOrders 88 = .ok (.aload_n 0, 1) := by decide +kernel
theorem dX9_doOrders_89 : decode cX9_doOrders 89 = .ok (.getfield 71, 3) := by decide +kernel
theorem dX9_doOrders_92 : decode cX9_doOrders 92 = .ok (.iload_n 2, 1) := by decide +kernel
theorem dX9_doOrders_93 : decode cX9_doOrders 93 = .ok (.iaload, 1) := by decide +kernel
theorem dX9_doOrders_94 : decode cX9_doOrders 94 = .ok (.iastore, 1) := by decide +kernel
theorem dX9_doOrders_95 : decode cX9_doOrders 95 = .ok (.aload_n 0, 1) := by decide +kernel
theorem dX9_doOrders_96 : decode cX9_doOrders 96 = .ok (.getfield 74, 3) := by decide +kernel
theorem dX9_doOrders_99 : decode cX9_doOrders 99 = .ok (.iload_n 1, 1) := by decide +kernel
theorem dX9_doOrders_100 : decode cX9_doOrders 100 = .ok (.aload_n 0, 1) := by decide +kernel
theorem dX9_doOrders_101 : decode cX9_doOrders 101 = .ok (.getfield 74, 3) := by decide +kernel
theorem dX9_doOrders_104 : decode cX9_doOrders 104 = .ok (.iload_n 2, 1) := by decide +kernel
theorem dX9_doOrders_105 : decode cX9_doOrders 105 = .ok (.iaload, 1) := by decide +kernel
theorem dX9_doOrders_106 : decode cX9_doOrders 106 = .ok (.iastore, 1) := by decide +kernel
theorem dX9_doOrders_107 : decode cX9_doOrders 107 = .ok (.aload_n 0, 1) := by decide +kernel
theorem dX9_doOrders_108 : decode cX9_doOrders 108 = .ok (.getfield 77, 3) := by decide +kernel
theorem dX9_doOrders_111 : decode cX9_doOrders 111 = .ok (.iload_n 1, 1) := by decide +kernel
theorem dX9_doOrders_112 : decode cX9_doOrders 112 = .ok (.aload_n 0, 1) := by decide +kernel
theorem dX9_doOrders_113 : decode cX9_doOrders 113 = .ok (.getfield 77, 3) := by decide +kernel
theorem dX9_doOrders_116 : decode cX9_doOrders 116 = .ok (.iload_n 2, 1) := by decide +kernel
theorem dX9_doOrders_117 : decode cX9_doOrders 117 = .ok (.iaload, 1) := by decide +kernel
theorem dX9_doOrders_118 : decode cX9_doOrders 118 = .ok (.iastore, 1) := by decide +kernel
theorem dX9_doOrders_119 : decode cX9_doOrders 119 = .ok (.aload_n 0, 1) := by decide +kernel
theorem dX9_doOrders_120 : decode cX9_doOrders 120 = .ok (.getfield 80, 3) := by decide +kernel
theorem dX9_doOrders_123 : decode cX9_doOrders 123 = .ok (.iload_n 1, 1) := by decide +kernel
theorem dX9_doOrders_124 : decode cX9_doOrders 124 = .ok (.aload_n 0, 1) := by decide +kernel
theorem dX9_doOrders_125 : decode cX9_doOrders 125 = .ok (.getfield 80, 3) := by decide +kernel
theorem dX9_doOrders_128 : decode cX9_doOrders 128 = .ok (.iload_n 2, 1) := by decide +kernel
theorem dX9_doOrders_129 : decode cX9_doOrders 129 = .ok (.iaload, 1) := by decide +kernel
theorem dX9_doOrders_130 : decode cX9_doOrders 130 = .ok (.iastore, 1) := by decide +kernel
theorem dX9_doOrders_131 : decode cX9_doOrders 131 = .ok (.iinc 1 1, 3) := by decide +kernel
theorem dX9_doOrders_134 : decode cX9_doOrders 134 = .ok (.iinc 2 1, 3) := by decide +kernel
theorem dX9_doOrders_137 : decode cX9_doOrders 137 = .ok (.goto (-133), 3) := by decide +kernel
theorem dX9_doOrders_140 : decode cX9_doOrders 140 = .ok (.aload_n 0, 1) := by decide +kernel
theorem dX9_doOrders_141 : decode cX9_doOrders 141 = .ok (.iload_n 1, 1) := by decide +kernel
theorem dX9_doOrders_142 : decode cX9_doOrders 142 = .ok (.putfield 150, 3) := by decide +kernel
theorem dX9_doOrders_145 : decode cX9_doOrders 145 = .ok (.return_, 1) := by decide +kernel
theorem dX9_readAll_0 : decode cX9_readAll 0 = .ok (.iconst 0, 1) := by decide +kernel
theorem dX9_readAll_1 : decode cX9_readAll 1 = .ok (.istore_n 1, 1) := by decide +kernel
theorem dX9_readAll_2 : decode cX9_readAll 2 = .ok (.iload_n 1, 1) := by decide +kernel
theorem dX9_readAll_3 : decode cX9_readAll 3 = .ok (.aload_n 0, 1) := by decide +kernel
theorem dX9_readAll_4 : decode cX9_readAll 4 = .ok (.getfield 120, 3) := by decide +kernel
theorem dX9_readAll_7 : decode cX9_readAll 7 = .ok (.if_icmp .ge 70, 3) := by decide +kernel
theorem dX9_readAll_10 : decode cX9_readAll 10 = .ok (.aload_n 0, 1) := by decide +kernel
theorem dX9_readAll_11 : decode cX9_readAll 11 = .ok (.getfield 13, 3) := by decide +kernel
theorem dX9_readAll_14 : decode cX9_readAll 14 = .ok (.iload_n 1, 1) := by decide +kernel
theorem dX9_readAll_15 : decode cX9_readAll 15 = .ok (.iaload, 1) := by decide +kernel
theorem dX9_readAll_16 : decode cX9_readAll 16 = .ok (.iconst 1, 1) := by decide +kernel
theorem dX9_readAll_17 : decode cX9_readAll 17 = .ok (.if_icmp .ne 17, 3) := by decide +kernel
theorem dX9_readAll_20 : decode cX9_readAll 20 = .ok (.aload_n 0, 1) := by decide +kernel
theorem dX9_readAll_21 : decode cX9_readAll 21 = .ok (.getfield 50, 3) := by decide +kernel
theorem dX9_readAll_24 : decode cX9_readAll 24 = .ok (.iload_n 1, 1) := by decide +kernel
theorem dX9_readAll_25 : decode cX9_readAll 25 = .ok (.aload_n 0, 1) := by decide +kernel
theorem dX9_readAll_26 : decode cX9_readAll 26 = .ok (.iload_n 1, 1) := by decide +kernel
theorem dX9_readAll_27 : decode cX9_readAll 27 = .ok (.invokevirtual 198, 3) := by decide +kernel
theorem dX9_readAll_30 : decode cX9_readAll 30 = .ok (.bastore, 1) := by decide +kernel
theorem dX9_readAll_31 : decode cX9_readAll 31 = .ok (.goto 40, 3) := by decide +kernel
theorem dX9_readAll_34 : decode cX9_readAll 34 = .ok (.aload_n 0, 1) := by decide +kernel
theorem dX9_readAll_35 : decode cX9_readAll 35 = .ok (.getfield 34, 3) := by decide +kernel
theorem dX9_readAll_38 : decode cX9_readAll 38 = .ok (.iload_n 1, 1) := by decide +kernel
theorem dX9_readAll_39 : decode cX9_readAll 39 = .ok (.iaload, 1) := by decide +kernel
theorem dX9_readAll_40 : decode cX9_readAll 40 = .ok (.ifCond .ge 31, 3) := by decide +kernel
theorem dX9_readAll_43 : decode cX9_readAll 43 = .ok (.aload_n 0, 1) := by decide +kernel
theorem dX9_readAll_44 : decode cX9_readAll 44 = .ok (.getfield 7, 3) := by decide +kernel
theorem dX9_readAll_47 : decode cX9_readAll 47 = .ok (.iload_n 1, 1) := by decide +kernel
theorem dX9_readAll_48 : decode cX9_readAll 48 = .ok (.iaload, 1) := by decide +kernel
theorem dX9_readAll_49 : decode cX9_readAll 49 = .ok (.iconst 4, 1) := by decide +kernel
theorem dX9_readAll_50 : decode cX9_readAll 50 = .ok (.if_icmp .eq 21, 3) := by decide +kernel
theorem dX9_readAll_53 : decode cX9_readAll 53 = .ok (.aload_n 0, 1) := by decide +kernel
theorem dX9_readAll_54 : decode cX9_readAll 54 = .ok (.iload_n 1, 1) := by decide +kernel
theorem dX9_readAll_55 : decode cX9_readAll 55 = .ok (.invokevirtual 201, 3) := by decide +kernel
theorem dX9_readAll_58 : decode cX9_readAll 58 = .ok (.ifCond .eq 13, 3) := by decide +kernel
theorem dX9_readAll_61 : decode cX9_readAll 61 = .ok (.aload_n 0, 1) := by decide +kernel
theorem dX9_readAll_62 : decode cX9_readAll 62 = .ok (.getfield 34, 3) := by decide +kernel
theorem dX9_readAll_65 : decode cX9_readAll 65 = .ok (.iload_n 1, 1) := by decide +kernel
theorem dX9_readAll_66 : decode cX9_readAll 66 = .ok (.aload_n 0, 1) := by decide +kernel
theorem dX9_readAll_67 : decode cX9_readAll 67 = .ok (.getfield 133, 3) := by decide +kernel
theorem dX9_readAll_70 : decode cX9_readAll 70 = .ok (.iastore, 1) := by decide +kernel
theorem dX9_readAll_71 : decode cX9_readAll 71 = .ok (.iinc 1 1, 3) := by decide +kernel
theorem dX9_readAll_74 : decode cX9_readAll 74 = .ok (.goto (-72), 3) := by decide +kernel
theorem dX9_readAll_77 : decode cX9_readAll 77 = .ok (.iconst 0, 1) := by decide +kernel
theorem dX9_readAll_78 : decode cX9_readAll 78 = .ok (.istore_n 1, 1) := by decide +kernel
theorem dX9_readAll_79 : decode cX9_readAll 79 = .ok (.iload_n 1, 1) := by decide +kernel
theorem dX9_readAll_80 : decode cX9_readAll 80 = .ok (.aload_n 0, 1) := by decide +kernel
theorem dX9_readAll_81 : decode cX9_readAll 81 = .ok (.getfield 153, 3) := by decide +kernel
theorem dX9_readAll_84 : decode cX9_readAll 84 = .ok (.if_icmp .ge 128, 3) := by decide +kernel
theorem dX9_readAll_87 : decode cX9_readAll 87 = .ok (.aload_n 0, 1) := by decide +kernel
theorem dX9_readAll_88 : decode cX9_readAll 88 = .ok (.getfield 83, 3) := by decide +kernel
theorem dX9_readAll_91 : decode cX9_readAll 91 = .ok (.iload_n 1, 1) := by decide +kernel
theorem dX9_readAll_92 : decode cX9_readAll 92 = .ok (.iaload, 1) := by decide +kernel
theorem dX9_readAll_93 : decode cX9_readAll 93 = .ok (.istore_n 2, 1) := by decide +kernel
theorem dX9_readAll_94 : decode cX9_readAll 94 = .ok (.aload_n 0, 1) := by decide +kernel
theorem dX9_readAll_95 : decode cX9_readAll 95 = .ok (.getfield 86, 3) := by decide +kernel
theorem dX9_readAll_98 : decode cX9_readAll 98 = .ok (.iload_n 1, 1) := by decide +kernel
theorem dX9_readAll_99 : decode cX9_readAll 99 = .ok (.iaload, 1) := by decide +kernel
theorem dX9_readAll_100 : decode cX9_readAll 100 = .ok (.istore_n 3, 1) := by decide +kernel
theorem dX9_readAll_101 : decode cX9_readAll 101 = .ok (.aload_n 0, 1) := by decide +kernel
theorem dX9_readAll_102 : decode cX9_readAll 102 = .ok (.getfield 59, 3) := by decide +kernel
theorem dX9_readAll_105 : decode cX9_readAll 105 = .ok (.iload_n 2, 1) := by decide +kernel
theorem dX9_readAll_106 : decode cX9_readAll 106 = .ok (.iaload, 1) := by decide +kernel
theorem dX9_readAll_107 : decode cX9_readAll 107 = .ok (.aload_n 0, 1) := by decide +kernel
theorem dX9_readAll_108 : decode cX9_readAll 108 = .ok (.getfield 133, 3) := by decide +kernel
theorem dX9_readAll_111 : decode cX9_readAll 111 = .ok (.if_icmp .le 69, 3) := by decide +kernel
theorem dX9_readAll_114 : decode cX9_readAll 114 = .ok (.aload_n 0, 1) := by decide +kernel
theorem dX9_readAll_115 : decode cX9_readAll 115 = .ok (.getfield 59, 3) := by decide +kernel
theorem dX9_readAll_118 : decode cX9_readAll 118 = .ok (.iload_n 3, 1) := by decide +kernel
theorem dX9_readAll_119 : decode cX9_readAll 119 = .ok (.iaload, 1) := by decide +kernel
theorem dX9_readAll_120 : decode cX9_readAll 120 = .ok (.aload_n 0, 1) := by decide +kernel
theorem dX9_readAll_121 : decode cX9_readAll 121 = .ok (.getfield 133, 3) := by decide +kernel
theorem dX9_readAll_124 : decode cX9_readAll 124 = .ok (.if_icmp .le 56, 3) := by decide +kernel
theorem dX9_readAll_127 : decode cX9_readAll 127 = .ok (.aload_n 0, 1) := by decide +kernel
theorem dX9_readAll_128 : decode cX9_readAll 128 = .ok (.getfield 62, 3) := by decide +kernel
theorem dX9_readAll_131 : decode cX9_readAll 131 = .ok (.sipush 200, 3) := by decide +kernel
theorem dX9_readAll_134 : decode cX9_readAll 134 = .ok (.iload_n 2, 1) := by decide +kernel
theorem dX9_readAll_135 : decode cX9_readAll 135 = .ok (.imul, 1) := by decide +kernel
theorem dX9_readAll_136 : decode cX9_readAll 136 = .ok (.aload_n 0, 1) := by decide +kernel
theorem dX9_readAll_137 : decode cX9_readAll 137 = .ok (.getfield 133, 3) := by decide +kernel
theorem dX9_readAll_140 : decode cX9_readAll 140 = .ok (.iadd, 1) := by decide +kernel
theorem dX9_readAll_141 : decode cX9_readAll 141 = .ok (.iaload, 1) := by decide +kernel
theorem dX9_readAll_142 : decode cX9_readAll 142 = .ok (.ifCond .le 7, 3) := by decide +kernel
theorem dX9_readAll_145 : decode cX9_readAll 145 = .ok (.iconst 1, 1) := by decide +kernel
theorem dX9_readAll_146 : decode cX9_readAll 146 = .ok (.goto 4, 3) := by decide +kernel
theorem dX9_readAll_149 : decode cX9_readAll 149 = .ok (.iconst 0, 1) := by decide +kernel
theorem dX9_readAll_150 : decode cX9_readAll 150 = .ok (.aload_n 0, 1) := by decide +kernel
theorem dX9_readAll_151 : decode cX9_readAll 151 = .ok (.getfield 62, 3) := by decide +kernel
theorem dX9_readAll_154 : decode cX9_readAll 154 = .ok (.sipush 200, 3) := by decide +kernel
theorem dX9_readAll_157 : decode cX9_readAll 157 = .ok (.iload_n 3, 1) := by decide +kernel
theorem dX9_readAll_158 : decode cX9_readAll 158 = .ok (.imul, 1) := by decide +kernel
theorem dX9_readAll_159 : decode cX9_readAll 159 = .ok (.aload_n 0, 1) := by decide +kernel
theorem dX9_readAll_160 : decode cX9_readAll 160 = .ok (.getfield 133, 3) := by decide +kernel
theorem dX9_readAll_163 : decode cX9_readAll 163 = .ok (.iadd, 1) := by decide +kernel
theorem dX9_readAll_164 : decode cX9_readAll 164 = .ok (.iaload, 1) := by decide +kernel
theorem dX9_readAll_165 : decode cX9_readAll 165 = .ok (.ifCond .le 7, 3) := by decide +kernel
theorem dX9_readAll_168 : decode cX9_readAll 168 = .ok (.iconst 1, 1) := by decide +kernel
theorem dX9_readAll_169 : decode cX9_readAll 169 = .ok (.goto 4, 3) := by decide +kernel
theorem dX9_readAll_172 : decode cX9_readAll 172 = .ok (.iconst 0, 1) := by decide +kernel
theorem dX9_readAll_173 : decode cX9_readAll 173 = .ok (.if_icmp .eq 7, 3) := by decide +kernel
theorem dX9_readAll_176 : decode cX9_readAll 176 = .ok (.iconst 1, 1) := by decide +kernel
theorem dX9_readAll_177 : decode cX9_readAll 177 = .ok (.goto 4, 3) := by decide +kernel
theorem dX9_readAll_180 : decode cX9_readAll 180 = .ok (.iconst 0, 1) := by decide +kernel
theorem dX9_readAll_181 : decode cX9_readAll 181 = .ok (.istore 4, 2) := by decide +kernel
theorem dX9_readAll_183 : decode cX9_readAll 183 = .ok (.aload_n 0, 1) := by decide +kernel
theorem dX9_readAll_184 : decode cX9_readAll 184 = .ok (.getfield 92, 3) := by decide +kernel
theorem dX9_readAll_187 : decode cX9_readAll 187 = .ok (.iload_n 1, 1) := by decide +kernel
theorem dX9_readAll_188 : decode cX9_readAll 188 = .ok (.iload 4, 2) := by decide +kernel
theorem dX9_readAll_190 : decode cX9_readAll 190 = .ok (.ifCond .eq 14, 3) := by decide +kernel
theorem dX9_readAll_193 : decode cX9_readAll 193 = .ok (.aload_n 0, 1) := by decide +kernel
theorem dX9_readAll_194 : decode cX9_readAll 194 = .ok (.getfield 92, 3) := by decide +kernel
theorem dX9_readAll_197 : decode cX9_readAll 197 = .ok (.iload_n 1, 1) := by decide +kernel
theorem dX9_readAll_198 : decode cX9_readAll 198 = .ok (.iaload, 1) := by decide +kernel
theorem dX9_readAll_199 : decode cX9_readAll 199 = .ok (.iconst 1, 1) := by decide +kernel
theorem dX9_readAll_200 : decode cX9_readAll 200 = .ok (.iadd, 1) := by decide +kernel
theorem dX9_readAll_201 : decode cX9_readAll 201 = .ok (.goto 4, 3) := by decide +kernel
theorem dX9_readAll_204 : decode cX9_readAll 204 = .ok (.iconst 0, 1) := by decide +kernel
theorem dX9_readAll_205 : decode cX9_readAll 205 = .ok (.iastore, 1) := by decide +kernel
theorem dX9_readAll_206 : decode cX9_readAll 206 = .ok (.iinc 1 1, 3) := by decide +kernel
theorem dX9_readAll_209 : decode cX9_readAll 209 = .ok (.goto (-130), 3) := by decide +kernel
theorem dX9_readAll_212 : decode cX9_readAll 212 = .ok (.return_, 1) := by decide +kernel
theorem dX9_faultNow_0 : decode cX9_faultNow 0 = .ok (.iconst 0, 1) := by decide +kernel
theorem dX9_faultNow_1 : decode cX9_faultNow 1 = .ok (.istore_n 1, 1) := by decide +kernel
theorem dX9_faultNow_2 : decode cX9_faultNow 2 = .ok (.iload_n 1, 1) := by decide +kernel
theorem dX9_faultNow_3 : decode cX9_faultNow 3 = .ok (.aload_n 0, 1) := by decide +kernel
theorem dX9_faultNow_4 : decode cX9_faultNow 4 = .ok (.getfield 120, 3) := by decide +kernel
theorem dX9_faultNow_7 : decode cX9_faultNow 7 = .ok (.if_icmp .ge 40, 3) := by decide +kernel
theorem dX9_faultNow_10 : decode cX9_faultNow 10 = .ok (.aload_n 0, 1) := by decide +kernel
theorem dX9_faultNow_11 : decode cX9_faultNow 11 = .ok (.getfield 46, 3) := by decide +kernel
theorem dX9_faultNow_14 : decode cX9_faultNow 14 = .ok (.iload_n 1, 1) := by decide +kernel
theorem dX9_faultNow_15 : decode cX9_faultNow 15 = .ok (.baload, 1) := by decide +kernel
theorem dX9_faultNow_16 : decode cX9_faultNow 16 = .ok (.ifCond .eq 25, 3) := by decide +kernel
theorem dX9_faultNow_19 : decode cX9_faultNow 19 = .ok (.aload_n 0, 1) := by decide +kernel
theorem dX9_faultNow_20 : decode cX9_faultNow 20 = .ok (.getfield 13, 3) := by decide +kernel
theorem dX9_faultNow_23 : decode cX9_faultNow 23 = .ok (.iload_n 1, 1) := by decide +kernel
theorem dX9_faultNow_24 : decode cX9_faultNow 24 = .ok (.iaload, 1) := by decide +kernel
theorem dX9_faultNow_25 : decode cX9_faultNow 25 = .ok (.iconst 1, 1) := by decide +kernel
theorem dX9_faultNow_26 : decode cX9_faultNow 26 = .ok (.if_icmp .eq 13, 3) := by decide +kernel
theorem dX9_faultNow_29 : decode cX9_faultNow 29 = .ok (.aload_n 0, 1) := by decide +kernel
theorem dX9_faultNow_30 : decode cX9_faultNow 30 = .ok (.getfield 13, 3) := by decide +kernel
theorem dX9_faultNow_33 : decode cX9_faultNow 33 = .ok (.iload_n 1, 1) := by decide +kernel
theorem dX9_faultNow_34 : decode cX9_faultNow 34 = .ok (.iaload, 1) := by decide +kernel
theorem dX9_faultNow_35 : decode cX9_faultNow 35 = .ok (.iconst 2, 1) := by decide +kernel
theorem dX9_faultNow_36 : decode cX9_faultNow 36 = .ok (.if_icmp .ne 5, 3) := by decide +kernel
theorem dX9_faultNow_39 : decode cX9_faultNow 39 = .ok (.iconst 1, 1) := by decide +kernel
theorem dX9_faultNow_40 : decode cX9_faultNow 40 = .ok (.ireturn, 1) := by decide +kernel
theorem dX9_faultNow_41 : decode cX9_faultNow 41 = .ok (.iinc 1 1, 3) := by decide +kernel
theorem dX9_faultNow_44 : decode cX9_faultNow 44 = .ok (.goto (-42), 3) := by decide +kernel
theorem dX9_faultNow_47 : decode cX9_faultNow 47 = .ok (.iconst 0, 1) := by decide +kernel
theorem dX9_faultNow_48 : decode cX9_faultNow 48 = .ok (.istore_n 1, 1) := by decide +kernel
theorem dX9_faultNow_49 : decode cX9_faultNow 49 = .ok (.iload_n 1, 1) := by decide +kernel
theorem dX9_faultNow_50 : decode cX9_faultNow 50 = .ok (.aload_n 0, 1) := by decide +kernel
theorem dX9_faultNow_51 : decode cX9_faultNow 51 = .ok (.getfield 153, 3) := by decide +kernel
theorem dX9_faultNow_54 : decode cX9_faultNow 54 = .ok (.if_icmp .ge 26, 3) := by decide +kernel
theorem dX9_faultNow_57 : decode cX9_faultNow 57 = .ok (.aload_n 0, 1) := by decide +kernel
theorem dX9_faultNow_58 : decode cX9_faultNow 58 = .ok (.getfield 92, 3) := by decide +kernel
theorem dX9_faultNow_61 : decode cX9_faultNow 61 = .ok (.iload_n 1, 1) := by decide +kernel
theorem dX9_faultNow_62 : decode cX9_faultNow 62 = .ok (.iaload, 1) := by decide +kernel
theorem dX9_faultNow_63 : decode cX9_faultNow 63 = .ok (.aload_n 0, 1) := by decide +kernel
theorem dX9_faultNow_64 : decode cX9_faultNow 64 = .ok (.getfield 89, 3) := by decide +kernel
theorem dX9_faultNow_67 : decode cX9_faultNow 67 = .ok (.iload_n 1, 1) := by decide +kernel
theorem dX9_faultNow_68 : decode cX9_faultNow 68 = .ok (.iaload, 1) := by decide +kernel
theorem dX9_faultNow_69 : decode cX9_faultNow 69 = .ok (.if_icmp .lt 5, 3) := by decide +kernel
theorem dX9_faultNow_72 : decode cX9_faultNow 72 = .ok (.iconst 2, 1) := by decide +kernel
theorem dX9_faultNow_73 : decode cX9_faultNow 73 = .ok (.ireturn, 1) := by decide +kernel
theorem dX9_faultNow_74 : decode cX9_faultNow 74 = .ok (.iinc 1 1, 3) := by decide +kernel
theorem dX9_faultNow_77 : decode cX9_faultNow 77 = .ok (.goto (-28), 3) := by decide +kernel
theorem dX9_faultNow_80 : decode cX9_faultNow 80 = .ok (.aload_n 0, 1) := by decide +kernel
theorem dX9_faultNow_81 : decode cX9_faultNow 81 = .ok (.getfield 162, 3) := by decide +kernel
theorem dX9_faultNow_84 : decode cX9_faultNow 84 = .ok (.ifCond .eq 7, 3) := by decide +kernel
theorem dX9_faultNow_87 : decode cX9_faultNow 87 = .ok (.iconst 3, 1) := by decide +kernel
theorem dX9_faultNow_88 : decode cX9_faultNow 88 = .ok (.goto 4, 3) := by decide +kernel
theorem dX9_faultNow_91 : decode cX9_faultNow 91 = .ok (.iconst 0, 1) := by decide +kernel
theorem dX9_faultNow_92 : decode cX9_faultNow 92 = .ok (.ireturn, 1) := by decide +kernel
theorem dX9_meetFault_0 : decode cX9_meetFault 0 = .ok (.aload_n 0, 1) := by decide +kernel
theorem dX9_meetFault_1 : decode cX9_meetFault 1 = .ok (.dup, 1) := by decide +kernel
theorem dX9_meetFault_2 : decode cX9_meetFault 2 = .ok (.getfield 204, 3) := by decide +kernel
theorem dX9_meetFault_5 : decode cX9_meetFault 5 = .ok (.iconst 1, 1) := by decide +kernel
theorem dX9_meetFault_6 : decode cX9_meetFault 6 = .ok (.iadd, 1) := by decide +kernel
theorem dX9_meetFault_7 : decode cX9_meetFault 7 = .ok (.putfield 204, 3) := by decide +kernel
theorem dX9_meetFault_10 : decode cX9_meetFault 10 = .ok (.aload_n 0, 1) := by decide +kernel
theorem dX9_meetFault_11 : decode cX9_meetFault 11 = .ok (.iload_n 1, 1) := by decide +kernel
theorem dX9_meetFault_12 : decode cX9_meetFault 12 = .ok (.putfield 207, 3) := by decide +kernel
theorem dX9_meetFault_15 : decode cX9_meetFault 15 = .ok (.aload_n 0, 1) := by decide +kernel
theorem dX9_meetFault_16 : decode cX9_meetFault 16 = .ok (.aload_n 0, 1) := by decide +kernel
theorem dX9_meetFault_17 : decode cX9_meetFault 17 = .ok (.getfield 133, 3) := by decide +kernel
theorem dX9_meetFault_20 : decode cX9_meetFault 20 = .ok (.putfield 105, 3) := by decide +kernel
theorem dX9_meetFault_23 : decode cX9_meetFault 23 = .ok (.aload_n 0, 1) := by decide +kernel
theorem dX9_meetFault_24 : decode cX9_meetFault 24 = .ok (.aload_n 0, 1) := by decide +kernel
theorem dX9_meetFault_25 : decode cX9_meetFault 25 = .ok (.getfield 204, 3) := by decide +kernel
theorem dX9_meetFault_28 : decode cX9_meetFault 28 = .ok (.putfield 210, 3) := by decide +kernel
theorem dX9_meetFault_31 : decode cX9_meetFault 31 = .ok (.aload_n 0, 1) := by decide +kernel
theorem dX9_meetFault_32 : decode cX9_meetFault 32 = .ok (.iconst 1, 1) := by decide +kernel
theorem dX9_meetFault_33 : decode cX9_meetFault 33 = .ok (.putfield 159, 3) := by decide +kernel
theorem dX9_meetFault_36 : decode cX9_meetFault 36 = .ok (.iconst 0, 1) := by decide +kernel
theorem dX9_meetFault_37 : decode cX9_meetFault 37 = .ok (.istore_n 2, 1) := by decide +kernel
theorem dX9_meetFault_38 : decode cX9_meetFault 38 = .ok (.iload_n 2, 1) := by decide +kernel
theorem dX9_meetFault_39 : decode cX9_meetFault 39 = .ok (.aload_n 0, 1) := by decide +kernel
theorem dX9_meetFault_40 : decode cX9_meetFault 40 = .ok (.getfield 120, 3) := by decide +kernel
theorem dX9_meetFault_43 : decode cX9_meetFault 43 = .ok (.if_icmp .ge 44, 3) := by decide +kernel
theorem dX9_meetFault_46 : decode cX9_meetFault 46 = .ok (.aload_n 0, 1) := by decide +kernel
theorem dX9_meetFault_47 : decode cX9_meetFault 47 = .ok (.getfield 13, 3) := by decide +kernel
theorem dX9_meetFault_50 : decode cX9_meetFault 50 = .ok (.iload_n 2, 1) := by decide +kernel
theorem dX9_meetFault_51 : decode cX9_meetFault 51 = .ok (.iaload, 1) := by decide +kernel
theorem dX9_meetFault_52 : decode cX9_meetFault 52 = .ok (.iconst 1, 1) := by decide +kernel
theorem dX9_meetFault_53 : decode cX9_meetFault 53 = .ok (.if_icmp .eq 13, 3) := by decide +kernel
theorem dX9_meetFault_56 : decode cX9_meetFault 56 = .ok (.aload_n 0, 1) := by decide +kernel
theorem dX9_meetFault_57 : decode cX9_meetFault 57 = .ok (.getfield 13, 3) := by decide +kernel
theorem dX9_meetFault_60 : decode cX9_meetFault 60 = .ok (.iload_n 2, 1) := by decide +kernel
theorem dX9_meetFault_61 : decode cX9_meetFault 61 = .ok (.iaload, 1) := by decide +kernel
theorem dX9_meetFault_62 : decode cX9_meetFault 62 = .ok (.iconst 2, 1) := by decide +kernel
theorem dX9_meetFault_63 : decode cX9_meetFault 63 = .ok (.if_icmp .ne 18, 3) := by decide +kernel
theorem dX9_meetFault_66 : decode cX9_meetFault 66 = .ok (.aload_n 0, 1) := by decide +kernel
theorem dX9_meetFault_67 : decode cX9_meetFault 67 = .ok (.iload_n 2, 1) := by decide +kernel
theorem dX9_meetFault_68 : decode cX9_meetFault 68 = .ok (.iconst 0, 1) := by decide +kernel
theorem dX9_meetFault_69 : decode cX9_meetFault 69 = .ok (.invokevirtual 213, 3) := by decide +kernel
theorem dX9_meetFault_72 : decode cX9_meetFault 72 = .ok (.aload_n 0, 1) := by decide +kernel
theorem dX9_meetFault_73 : decode cX9_meetFault 73 = .ok (.iload_n 2, 1) := by decide +kernel
theorem dX9_meetFault_74 : decode cX9_meetFault 74 = .ok (.aload_n 0, 1) := by decide +kernel
theorem dX9_meetFault_75 : decode cX9_meetFault 75 = .ok (.getfield 133, 3) := by decide +kernel
theorem dX9_meetFault_78 : decode cX9_meetFault 78 = .ok (.invokevirtual 216, 3) := by decide +kernel
theorem dX9_meetFault_81 : decode cX9_meetFault 81 = .ok (.iinc 2 1, 3) := by decide +kernel
theorem dX9_meetFault_84 : decode cX9_meetFault 84 = .ok (.goto (-46), 3) := by decide +kernel
theorem dX9_meetFault_87 : decode cX9_meetFault 87 = .ok (.aload_n 0, 1) := by decide +kernel
theorem dX9_meetFault_88 : decode cX9_meetFault 88 = .ok (.bipush (-5), 2) := by decide +kernel
theorem dX9_meetFault_90 : decode cX9_meetFault 90 = .ok (.putfield 95, 3) := by decide +kernel
theorem dX9_meetFault_93 : decode cX9_meetFault 93 = .ok (.aload_n 0, 1) := by decide +kernel
theorem dX9_meetFault_94 : decode cX9_meetFault 94 = .ok (.bipush (-5), 2) := by decide +kernel
theorem dX9_meetFault_96 : decode cX9_meetFault 96 = .ok (.putfield 102, 3) := by decide +kernel
theorem dX9_meetFault_99 : decode cX9_meetFault 99 = .ok (.aload_n 0, 1) := by decide +kernel
theorem dX9_meetFault_100 : decode cX9_meetFault 100 = .ok (.iconst 0, 1) := by decide +kernel
theorem dX9_meetFault_101 : decode cX9_meetFault 101 = .ok (.putfield 162, 3) := by decide +kernel
theorem dX9_meetFault_104 : decode cX9_meetFault 104 = .ok (.iconst 0, 1) := by decide +kernel
theorem dX9_meetFault_105 : decode cX9_meetFault 105 = .ok (.istore_n 2, 1) := by decide +kernel
theorem dX9_meetFault_106 : decode cX9_meetFault 106 = .ok (.iload_n 2, 1) := by decide +kernel
theorem dX9_meetFault_107 : decode cX9_meetFault 107 = .ok (.aload_n 0, 1) := by decide +kernel
theorem dX9_meetFault_108 : decode cX9_meetFault 108 = .ok (.getfield 153, 3) := by decide +kernel
theorem dX9_meetFault_111 : decode cX9_meetFault 111 = .ok (.if_icmp .ge 16, 3) := by decide +kernel
theorem dX9_meetFault_114 : decode cX9_meetFault 114 = .ok (.aload_n 0, 1) := by decide +kernel
theorem dX9_meetFault_115 : decode cX9_meetFault 115 = .ok (.getfield 92, 3) := by decide +kernel
theorem dX9_meetFault_118 : decode cX9_meetFault 118 = .ok (.iload_n 2, 1) := by decide +kernel
theorem dX9_meetFault_119 : decode cX9_meetFault 119 = .ok (.iconst 0, 1) := by decide +kernel
theorem dX9_meetFault_120 : decode cX9_meetFault 120 = .ok (.iastore, 1) := by decide +kernel
theorem dX9_meetFault_121 : decode cX9_meetFault 121 = .ok (.iinc 2 1, 3) := by decide +kernel
theorem dX9_meetFault_124 : decode cX9_meetFault 124 = .ok (.goto (-18), 3) := by decide +kernel
theorem dX9_meetFault_127 : decode cX9_meetFault 127 = .ok (.return_, 1) := by decide +kernel
theorem dX9_isAnotherWanted_0 : decode cX9_isAnotherWanted 0 = .ok (.aload_n 0, 1) := by decide +kernel
theorem dX9_isAnotherWanted_1 : decode cX9_isAnotherWanted 1 = .ok (.getfield 102, 3) := by decide +kernel
theorem dX9_isAnotherWanted_4 : decode cX9_isAnotherWanted 4 = .ok (.ifCond .lt 18, 3) := by decide +kernel
theorem dX9_isAnotherWanted_7 : decode cX9_isAnotherWanted 7 = .ok (.aload_n 0, 1) := by decide +kernel
theorem dX9_isAnotherWanted_8 : decode cX9_isAnotherWanted 8 = .ok (.getfield 102, 3) := by decide +kernel
theorem dX9_isAnotherWanted_11 : decode cX9_isAnotherWanted 11 = .ok (.aload_n 0, 1) := by decide +kernel
theorem dX9_isAnotherWanted_12 : decode cX9_isAnotherWanted 12 = .ok (.getfield 95, 3) := by decide +kernel
theorem dX9_isAnotherWanted_15 : decode cX9_isAnotherWanted 15 = .ok (.if_icmp .eq 7, 3) := by decide +kernel
theorem dX9_isAnotherWanted_18 : decode cX9_isAnotherWanted 18 = .ok (.iconst 1, 1) := by decide +kernel
theorem dX9_isAnotherWanted_19 : decode cX9_isAnotherWanted 19 = .ok (.goto 4, 3) := by decide +kernel
theorem dX9_isAnotherWanted_22 : decode cX9_isAnotherWanted 22 = .ok (.iconst 0, 1) := by decide +kernel
theorem dX9_isAnotherWanted_23 : decode cX9_isAnotherWanted 23 = .ok (.istore_n 1, 1) := by decide +kernel
theorem dX9_isAnotherWanted_24 : decode cX9_isAnotherWanted 24 = .ok (.iconst 0, 1) := by decide +kernel
theorem dX9_isAnotherWanted_25 : decode cX9_isAnotherWanted 25 = .ok (.istore_n 2, 1) := by decide +kernel
theorem dX9_isAnotherWanted_26 : decode cX9_isAnotherWanted 26 = .ok (.iload_n 2, 1) := by decide +kernel
theorem dX9_isAnotherWanted_27 : decode cX9_isAnotherWanted 27 = .ok (.aload_n 0, 1) := by decide +kernel
theorem dX9_isAnotherWanted_28 : decode cX9_isAnotherWanted 28 = .ok (.getfield 127, 3) := by decide +kernel
theorem dX9_isAnotherWanted_31 : decode cX9_isAnotherWanted 31 = .ok (.if_icmp .ge 33, 3) := by decide +kernel
theorem dX9_isAnotherWanted_34 : decode cX9_isAnotherWanted 34 = .ok (.iload_n 1, 1) := by decide +kernel
theorem dX9_isAnotherWanted_35 : decode cX9_isAnotherWanted 35 = .ok (.iload_n 2, 1) := by decide +kernel
theorem dX9_isAnotherWanted_36 : decode cX9_isAnotherWanted 36 = .ok (.aload_n 0, 1) := by decide +kernel
theorem dX9_isAnotherWanted_37 : decode cX9_isAnotherWanted 37 = .ok (.getfield 95, 3) := by decide +kernel
theorem dX9_isAnotherWanted_40 : decode cX9_isAnotherWanted 40 = .ok (.if_icmp .eq 15, 3) := by decide +kernel
theorem dX9_isAnotherWanted_43 : decode cX9_isAnotherWanted 43 = .ok (.aload_n 0, 1) := by decide +kernel
theorem dX9_isAnotherWanted_44 : decode cX9_isAnotherWanted 44 = .ok (.iload_n 2, 1) := by decide +kernel
theorem dX9_isAnotherWanted_45 : decode cX9_isAnotherWanted 45 = .ok (.invokevirtual 195, 3) := by decide +kernel
theorem dX9_isAnotherWanted_48 : decode cX9_isAnotherWanted 48 = .ok (.ifCond .lt 7, 3) := by decide +kernel
theorem dX9_isAnotherWanted_51 : decode cX9_isAnotherWanted 51 = .ok (.iconst 1, 1) := by decide +kernel
theorem dX9_isAnotherWanted_52 : decode cX9_isAnotherWanted 52 = .ok (.goto 4, 3) := by decide +kernel
theorem dX9_isAnotherWanted_55 : decode cX9_isAnotherWanted 55 = .ok (.iconst 0, 1) := by decide +kernel
theorem dX9_isAnotherWanted_56 : decode cX9_isAnotherWanted 56 = .ok (.ior, 1) := by decide +kernel
theorem dX9_isAnotherWanted_57 : decode cX9_isAnotherWanted 57 = .ok (.istore_n 1, 1) := by decide +kernel
theorem dX9_isAnotherWanted_58 : decode cX9_isAnotherWanted 58 = .ok (.iinc 2 1, 3) := by decide +kernel
theorem dX9_isAnotherWanted_61 : decode cX9_isAnotherWanted 61 = .ok (.goto (-35), 3) := by decide +kernel
theorem dX9_isAnotherWanted_64 : decode cX9_isAnotherWanted 64 = .ok (.iload_n 1, 1) := by decide +kernel
theorem dX9_isAnotherWanted_65 : decode cX9_isAnotherWanted 65 = .ok (.ireturn, 1) := by decide +kernel
theorem dX9_perhapsEnd_0 : decode cX9_perhapsEnd 0 = .ok (.aload_n 0, 1) := by decide +kernel
theorem dX9_perhapsEnd_1 : decode cX9_perhapsEnd 1 = .ok (.getfield 95, 3) := by decide +kernel
theorem dX9_perhapsEnd_4 : decode cX9_perhapsEnd 4 = .ok (.ifCond .lt 26, 3) := by decide +kernel
theorem dX9_perhapsEnd_7 : decode cX9_perhapsEnd 7 = .ok (.aload_n 0, 1) := by decide +kernel
theorem dX9_perhapsEnd_8 : decode cX9_perhapsEnd 8 = .ok (.invokevirtual 219, 3) := by decide +kernel
theorem dX9_perhapsEnd_11 : decode cX9_perhapsEnd 11 = .ok (.ifCond .eq 19, 3) := by decide +kernel
theorem dX9_perhapsEnd_14 : decode cX9_perhapsEnd 14 = .ok (.aload_n 0, 1) := by decide +kernel
theorem dX9_perhapsEnd_15 : decode cX9_perhapsEnd 15 = .ok (.getfield 133, 3) := by decide +kernel
theorem dX9_perhapsEnd_18 : decode cX9_perhapsEnd 18 = .ok (.aload_n 0, 1) := by decide +kernel
theorem dX9_perhapsEnd_19 : decode cX9_perhapsEnd 19 = .ok (.getfield 189, 3) := by decide +kernel
theorem dX9_perhapsEnd_22 : decode cX9_perhapsEnd 22 = .ok (.isub, 1) := by decide +kernel
theorem dX9_perhapsEnd_23 : decode cX9_perhapsEnd 23 = .ok (.aload_n 0, 1) := by decide +kernel
theorem dX9_perhapsEnd_24 : decode cX9_perhapsEnd 24 = .ok (.getfield 223, 3) := by decide +kernel
theorem dX9_perhapsEnd_27 : decode cX9_perhapsEnd 27 = .ok (.if_icmp .ge 4, 3) := by decide +kernel
theorem dX9_perhapsEnd_30 : decode cX9_perhapsEnd 30 = .ok (.return_, 1) := by decide +kernel
theorem dX9_perhapsEnd_31 : decode cX9_perhapsEnd 31 = .ok (.iconst 0, 1) := by decide +kernel
theorem dX9_perhapsEnd_32 : decode cX9_perhapsEnd 32 = .ok (.istore_n 1, 1) := by decide +kernel
theorem dX9_perhapsEnd_33 : decode cX9_perhapsEnd 33 = .ok (.iconst 0, 1) := by decide +kernel
theorem dX9_perhapsEnd_34 : decode cX9_perhapsEnd 34 = .ok (.istore_n 2, 1) := by decide +kernel
theorem dX9_perhapsEnd_35 : decode cX9_perhapsEnd 35 = .ok (.iload_n 2, 1) := by decide +kernel
theorem dX9_perhapsEnd_36 : decode cX9_perhapsEnd 36 = .ok (.iconst 4, 1) := by decide +kernel
theorem dX9_perhapsEnd_37 : decode cX9_perhapsEnd 37 = .ok (.if_icmp .ge 44, 3) := by decide +kernel
theorem dX9_perhapsEnd_40 : decode cX9_perhapsEnd 40 = .ok (.aload_n 0, 1) := by decide +kernel
theorem dX9_perhapsEnd_41 : decode cX9_perhapsEnd 41 = .ok (.getfield 56, 3) := by decide +kernel
theorem dX9_perhapsEnd_44 : decode cX9_perhapsEnd 44 = .ok (.iconst 4, 1) := by decide +kernel
theorem dX9_perhapsEnd_45 : decode cX9_perhapsEnd 45 = .ok (.aload_n 0, 1) := by decide +kernel
theorem dX9_perhapsEnd_46 : decode cX9_perhapsEnd 46 = .ok (.getfield 95, 3) := by decide +kernel
theorem dX9_perhapsEnd_49 : decode cX9_perhapsEnd 49 = .ok (.imul, 1) := by decide +kernel
theorem dX9_perhapsEnd_50 : decode cX9_perhapsEnd 50 = .ok (.iload_n 2, 1) := by decide +kernel
theorem dX9_perhapsEnd_51 : decode cX9_perhapsEnd 51 = .ok (.iadd, 1) := by decide +kernel
theorem dX9_perhapsEnd_52 : decode cX9_perhapsEnd 52 = .ok (.iaload, 1) := by decide +kernel
theorem dX9_perhapsEnd_53 : decode cX9_perhapsEnd 53 = .ok (.istore_n 3, 1) := by decide +kernel
theorem dX9_perhapsEnd_54 : decode cX9_perhapsEnd 54 = .ok (.iload_n 1, 1) := by decide +kernel
theorem dX9_perhapsEnd_55 : decode cX9_perhapsEnd 55 = .ok (.iload_n 3, 1) := by decide +kernel
theorem dX9_perhapsEnd_56 : decode cX9_perhapsEnd 56 = .ok (.ifCond .lt 16, 3) := by decide +kernel
theorem dX9_perhapsEnd_59 : decode cX9_perhapsEnd 59 = .ok (.aload_n 0, 1) := by decide +kernel
theorem dX9_perhapsEnd_60 : decode cX9_perhapsEnd 60 = .ok (.getfield 50, 3) := by decide +kernel
theorem dX9_perhapsEnd_63 : decode cX9_perhapsEnd 63 = .ok (.iload_n 3, 1) := by decide +kernel
theorem dX9_perhapsEnd_64 : decode cX9_perhapsEnd 64 = .ok (.baload, 1) := by decide +kernel
theorem dX9_perhapsEnd_65 : decode cX9_perhapsEnd 65 = .ok (.ifCond .eq 7, 3) := by decide +kernel
theorem dX9_perhapsEnd_68 : decode cX9_perhapsEnd 68 = .ok (.iconst 1, 1) := by decide +kernel
theorem dX9_perhapsEnd_69 : decode cX9_perhapsEnd 69 = .ok (.goto 4, 3) := by decide +kernel
theorem dX9_perhapsEnd_72 : decode cX9_perhapsEnd 72 = .ok (.iconst 0, 1) := by decide +kernel
theorem dX9_perhapsEnd_73 : decode cX9_perhapsEnd 73 = .ok (.ior, 1) := by decide +kernel
theorem dX9_perhapsEnd_74 : decode cX9_perhapsEnd 74 = .ok (.istore_n 1, 1) := by decide +kernel
theorem dX9_perhapsEnd_75 : decode cX9_perhapsEnd 75 = .ok (.iinc 2 1, 3) := by decide +kernel
theorem dX9_perhapsEnd_78 : decode cX9_perhapsEnd 78 = .ok (.goto (-43), 3) := by decide +kernel
theorem dX9_perhapsEnd_81 : decode cX9_perhapsEnd 81 = .ok (.aload_n 0, 1) := by decide +kernel
theorem dX9_perhapsEnd_82 : decode cX9_perhapsEnd 82 = .ok (.getfield 133, 3) := by decide +kernel
theorem dX9_perhapsEnd_85 : decode cX9_perhapsEnd 85 = .ok (.aload_n 0, 1) := by decide +kernel
theorem dX9_perhapsEnd_86 : decode cX9_perhapsEnd 86 = .ok (.getfield 189, 3) := by decide +kernel
theorem dX9_perhapsEnd_89 : decode cX9_perhapsEnd 89 = .ok (.isub, 1) := by decide +kernel
theorem dX9_perhapsEnd_90 : decode cX9_perhapsEnd 90 = .ok (.aload_n 0, 1) := by decide +kernel
theorem dX9_perhapsEnd_91 : decode cX9_perhapsEnd 91 = .ok (.getfield 226, 3) := by decide +kernel
theorem dX9_perhapsEnd_94 : decode cX9_perhapsEnd 94 = .ok (.if_icmp .ge 15, 3) := by decide +kernel
theorem dX9_perhapsEnd_97 : decode cX9_perhapsEnd 97 = .ok (.aload_n 0, 1) := by decide +kernel
theorem dX9_perhapsEnd_98 : decode cX9_perhapsEnd 98 = .ok (.getfield 102, 3) := by decide +kernel
theorem dX9_perhapsEnd_101 : decode cX9_perhapsEnd 101 = .ok (.ifCond .ge 8, 3) := by decide +kernel
theorem dX9_perhapsEnd_104 : decode cX9_perhapsEnd 104 = .ok (.iload_n 1, 1) := by decide +kernel
theorem dX9_perhapsEnd_105 : decode cX9_perhapsEnd 105 = .ok (.ifCond .eq 4, 3) := by decide +kernel
theorem dX9_perhapsEnd_108 : decode cX9_perhapsEnd 108 = .ok (.return_, 1) := by decide +kernel
theorem dX9_perhapsEnd_109 : decode cX9_perhapsEnd 109 = .ok (.iconst 0, 1) := by decide +kernel
theorem dX9_perhapsEnd_110 : decode cX9_perhapsEnd 110 = .ok (.istore_n 2, 1) := by decide +kernel
theorem dX9_perhapsEnd_111 : decode cX9_perhapsEnd 111 = .ok (.iload_n 2, 1) := by decide +kernel
theorem dX9_perhapsEnd_112 : decode cX9_perhapsEnd 112 = .ok (.iconst 4, 1) := by decide +kernel
theorem dX9_perhapsEnd_113 : decode cX9_perhapsEnd 113 = .ok (.if_icmp .ge 62, 3) := by decide +kernel
theorem dX9_perhapsEnd_116 : decode cX9_perhapsEnd 116 = .ok (.aload_n 0, 1) := by decide +kernel
theorem dX9_perhapsEnd_117 : decode cX9_perhapsEnd 117 = .ok (.getfield 56, 3) := by decide +kernel
theorem dX9_perhapsEnd_120 : decode cX9_perhapsEnd 120 = .ok (.iconst 4, 1) := by decide +kernel
theorem dX9_perhapsEnd_121 : decode cX9_perhapsEnd 121 = .ok (.aload_n 0, 1) := by decide +kernel
theorem dX9_perhapsEnd_122 : decode cX9_perhapsEnd 122 = .ok (.getfield 95, 3) := by decide +kernel
theorem dX9_perhapsEnd_125 : decode cX9_perhapsEnd 125 = .ok (.imul, 1) := by decide +kernel
theorem dX9_perhapsEnd_126 : decode cX9_perhapsEnd 126 = .ok (.iload_n 2, 1) := by decide +kernel
theorem dX9_perhapsEnd_127 : decode cX9_perhapsEnd 127 = .ok (.iadd, 1) := by decide +kernel
theorem dX9_perhapsEnd_128 : decode cX9_perhapsEnd 128 = .ok (.iaload, 1) := by decide +kernel
theorem dX9_perhapsEnd_129 : decode cX9_perhapsEnd 129 = .ok (.istore_n 3, 1) := by decide +kernel
theorem dX9_perhapsEnd_130 : decode cX9_perhapsEnd 130 = .ok (.iload_n 3, 1) := by decide +kernel
theorem dX9_perhapsEnd_131 : decode cX9_perhapsEnd 131 = .ok (.ifCond .lt 38, 3) := by decide +kernel
theorem dX9_perhapsEnd_134 : decode cX9_perhapsEnd 134 = .ok (.aload_n 0, 1) := by decide +kernel
theorem dX9_perhapsEnd_135 : decode cX9_perhapsEnd 135 = .ok (.iload_n 3, 1) := by decide +kernel
theorem dX9_perhapsEnd_136 : decode cX9_perhapsEnd 136 = .ok (.aload_n 0, 1) := by decide +kernel
theorem dX9_perhapsEnd_137 : decode cX9_perhapsEnd 137 = .ok (.getfield 43, 3) := by decide +kernel
theorem dX9_perhapsEnd_140 : decode cX9_perhapsEnd 140 = .ok (.iload_n 3, 1) := by decide +kernel
theorem dX9_perhapsEnd_141 : decode cX9_perhapsEnd 141 = .ok (.iaload, 1) := by decide +kernel
theorem dX9_perhapsEnd_142 : decode cX9_perhapsEnd 142 = .ok (.ifCond .le 7, 3) := by decide +kernel
theorem dX9_perhapsEnd_145 : decode cX9_perhapsEnd 145 = .ok (.iconst 2, 1) := by decide +kernel
theorem dX9_perhapsEnd_146 : decode cX9_perhapsEnd 146 = .ok (.goto 4, 3) := by decide +kernel
theorem dX9_perhapsEnd_149 : decode cX9_perhapsEnd 149 = .ok (.iconst 0, 1) := by decide +kernel
theorem dX9_perhapsEnd_150 : decode cX9_perhapsEnd 150 = .ok (.invokevirtual 213, 3) := by decide +kernel
theorem dX9_perhapsEnd_153 : decode cX9_perhapsEnd 153 = .ok (.aload_n 0, 1) := by decide +kernel
theorem dX9_perhapsEnd_154 : decode cX9_perhapsEnd 154 = .ok (.iload_n 3, 1) := by decide +kernel
theorem dX9_perhapsEnd_155 : decode cX9_perhapsEnd 155 = .ok (.aload_n 0, 1) := by decide +kernel
theorem dX9_perhapsEnd_156 : decode cX9_perhapsEnd 156 = .ok (.getfield 133, 3) := by decide +kernel
theorem dX9_perhapsEnd_159 : decode cX9_perhapsEnd 159 = .ok (.aload_n 0, 1) := by decide +kernel
theorem dX9_perhapsEnd_160 : decode cX9_perhapsEnd 160 = .ok (.getfield 43, 3) := by decide +kernel
theorem dX9_perhapsEnd_163 : decode cX9_perhapsEnd 163 = .ok (.iload_n 3, 1) := by decide +kernel
theorem dX9_perhapsEnd_164 : decode cX9_perhapsEnd 164 = .ok (.iaload, 1) := by decide +kernel
theorem dX9_perhapsEnd_165 : decode cX9_perhapsEnd 165 = .ok (.iadd, 1) := by decide +kernel
theorem dX9_perhapsEnd_166 : decode cX9_perhapsEnd 166 = .ok (.invokevirtual 216, 3) := by decide +kernel
theorem dX9_perhapsEnd_169 : decode cX9_perhapsEnd 169 = .ok (.iinc 2 1, 3) := by decide +kernel
theorem dX9_perhapsEnd_172 : decode cX9_perhapsEnd 172 = .ok (.goto (-61), 3) := by decide +kernel
theorem dX9_perhapsEnd_175 : decode cX9_perhapsEnd 175 = .ok (.aload_n 0, 1) := by decide +kernel
theorem dX9_perhapsEnd_176 : decode cX9_perhapsEnd 176 = .ok (.bipush (-5), 2) := by decide +kernel
theorem dX9_perhapsEnd_178 : decode cX9_perhapsEnd 178 = .ok (.putfield 95, 3) := by decide +kernel
theorem dX9_perhapsEnd_181 : decode cX9_perhapsEnd 181 = .ok (.return_, 1) := by decide +kernel
theorem dX9_perhapsBegin_0 : decode cX9_perhapsBegin 0 = .ok (.aload_n 0, 1) := by decide +kernel
theorem dX9_perhapsBegin_1 : decode cX9_perhapsBegin 1 = .ok (.invokevirtual 229, 3) := by decide +kernel
theorem dX9_perhapsBegin_4 : decode cX9_perhapsBegin 4 = .ok (.istore_n 1, 1) := by decide +kernel
theorem dX9_perhapsBegin_5 : decode cX9_perhapsBegin 5 = .ok (.aload_n 0, 1) := by decide +kernel
theorem dX9_perhapsBegin_6 : decode cX9_perhapsBegin 6 = .ok (.getfield 95, 3) := by decide +kernel
theorem dX9_perhapsBegin_9 : decode cX9_perhapsBegin 9 = .ok (.ifCond .ge 7, 3) := by decide +kernel
theorem dX9_perhapsBegin_12 : decode cX9_perhapsBegin 12 = .ok (.iload_n 1, 1) := by decide +kernel
theorem dX9_perhapsBegin_13 : decode cX9_perhapsBegin 13 = .ok (.ifCond .ge 4, 3) := by decide +kernel
theorem dX9_perhapsBegin_16 : decode cX9_perhapsBegin 16 = .ok (.return_, 1) := by decide +kernel
theorem dX9_perhapsBegin_17 : decode cX9_perhapsBegin 17 = .ok (.iconst 0, 1) := by decide +kernel
theorem dX9_perhapsBegin_18 : decode cX9_perhapsBegin 18 = .ok (.istore_n 2, 1) := by decide +kernel
theorem dX9_perhapsBegin_19 : decode cX9_perhapsBegin 19 = .ok (.iload_n 2, 1) := by decide +kernel
theorem dX9_perhapsBegin_20 : decode cX9_perhapsBegin 20 = .ok (.iconst 4, 1) := by decide +kernel
theorem dX9_perhapsBegin_21 : decode cX9_perhapsBegin 21 = .ok (.if_icmp .ge 47, 3) := by decide +kernel
theorem dX9_perhapsBegin_24 : decode cX9_perhapsBegin 24 = .ok (.aload_n 0, 1) := by decide +kernel
theorem dX9_perhapsBegin_25 : decode cX9_perhapsBegin 25 = .ok (.getfield 56, 3) := by decide +kernel
theorem dX9_perhapsBegin_28 : decode cX9_perhapsBegin 28 = .ok (.iconst 4, 1) := by decide +kernel
theorem dX9_perhapsBegin_29 : decode cX9_perhapsBegin 29 = .ok (.iload_n 1, 1) := by decide +kernel
theorem dX9_perhapsBegin_30 : decode cX9_perhapsBegin 30 = .ok (.imul, 1) := by decide +kernel
theorem dX9_perhapsBegin_31 : decode cX9_perhapsBegin 31 = .ok (.iload_n 2, 1) := by decide +kernel
theorem dX9_perhapsBegin_32 : decode cX9_perhapsBegin 32 = .ok (.iadd, 1) := by decide +kernel
theorem dX9_perhapsBegin_33 : decode cX9_perhapsBegin 33 = .ok (.iaload, 1) := by decide +kernel
theorem dX9_perhapsBegin_34 : decode cX9_perhapsBegin 34 = .ok (.istore_n 3, 1) := by decide +kernel
theorem dX9_perhapsBegin_35 : decode cX9_perhapsBegin 35 = .ok (.iload_n 3, 1) := by decide +kernel
theorem dX9_perhapsBegin_36 : decode cX9_perhapsBegin 36 = .ok (.ifCond .lt 26, 3) := by decide +kernel
theorem dX9_perhapsBegin_39 : decode cX9_perhapsBegin 39 = .ok (.aload_n 0, 1) := by decide +kernel
theorem dX9_perhapsBegin_40 : decode cX9_perhapsBegin 40 = .ok (.getfield 13, 3) := by decide +kernel
theorem dX9_perhapsBegin_43 : decode cX9_perhapsBegin 43 = .ok (.iload_n 3, 1) := by decide +kernel
theorem dX9_perhapsBegin_44 : decode cX9_perhapsBegin 44 = .ok (.iaload, 1) := by decide +kernel
theorem dX9_perhapsBegin_45 : decode cX9_perhapsBegin 45 = .ok (.ifCond .ne 16, 3) := by decide +kernel
theorem dX9_perhapsBegin_48 : decode cX9_perhapsBegin 48 = .ok (.aload_n 0, 1) := by decide +kernel
theorem dX9_perhapsBegin_49 : decode cX9_perhapsBegin 49 = .ok (.getfield 31, 3) := by decide +kernel
theorem dX9_perhapsBegin_52 : decode cX9_perhapsBegin 52 = .ok (.iload_n 3, 1) := by decide +kernel
theorem dX9_perhapsBegin_53 : decode cX9_perhapsBegin 53 = .ok (.iaload, 1) := by decide +kernel
theorem dX9_perhapsBegin_54 : decode cX9_perhapsBegin 54 = .ok (.aload_n 0, 1) := by decide +kernel
theorem dX9_perhapsBegin_55 : decode cX9_perhapsBegin 55 = .ok (.getfield 133, 3) := by decide +kernel
theorem dX9_perhapsBegin_58 : decode cX9_perhapsBegin 58 = .ok (.if_icmp .le 4, 3) := by decide +kernel
theorem dX9_perhapsBegin_61 : decode cX9_perhapsBegin 61 = .ok (.return_, 1) := by decide +kernel
theorem dX9_perhapsBegin_62 : decode cX9_perhapsBegin 62 = .ok (.iinc 2 1, 3) := by decide +kernel
theorem dX9_perhapsBegin_65 : decode cX9_perhapsBegin 65 = .ok (.goto (-46), 3) := by decide +kernel
theorem dX9_perhapsBegin_68 : decode cX9_perhapsBegin 68 = .ok (.aload_n 0, 1) := by decide +kernel
theorem dX9_perhapsBegin_69 : decode cX9_perhapsBegin 69 = .ok (.iload_n 1, 1) := by decide +kernel
theorem dX9_perhapsBegin_70 : decode cX9_perhapsBegin 70 = .ok (.putfield 95, 3) := by decide +kernel
theorem dX9_perhapsBegin_73 : decode cX9_perhapsBegin 73 = .ok (.aload_n 0, 1) := by decide +kernel
theorem dX9_perhapsBegin_74 : decode cX9_perhapsBegin 74 = .ok (.iload_n 1, 1) := by decide +kernel
theorem dX9_perhapsBegin_75 : decode cX9_perhapsBegin 75 = .ok (.putfield 99, 3) := by decide +kernel
theorem dX9_perhapsBegin_78 : decode cX9_perhapsBegin 78 = .ok (.aload_n 0, 1) := by decide +kernel
theorem dX9_perhapsBegin_79 : decode cX9_perhapsBegin 79 = .ok (.aload_n 0, 1) := by decide +kernel
theorem dX9_perhapsBegin_80 : decode cX9_perhapsBegin 80 = .ok (.getfield 133, 3) := by decide +kernel
theorem dX9_perhapsBegin_83 : decode cX9_perhapsBegin 83 = .ok (.putfield 189, 3) := by decide +kernel
theorem dX9_perhapsBegin_86 : decode cX9_perhapsBegin 86 = .ok (.aload_n 0, 1) := by decide +kernel
theorem dX9_perhapsBegin_87 : decode cX9_perhapsBegin 87 = .ok (.aload_n 0, 1) := by decide +kernel
theorem dX9_perhapsBegin_88 : decode cX9_perhapsBegin 88 = .ok (.iload_n 1, 1) := by decide +kernel
theorem dX9_perhapsBegin_89 : decode cX9_perhapsBegin 89 = .ok (.invokevirtual 192, 3) := by decide +kernel
theorem dX9_perhapsBegin_92 : decode cX9_perhapsBegin 92 = .ok (.putfield 223, 3) := by decide +kernel
theorem dX9_perhapsBegin_95 : decode cX9_perhapsBegin 95 = .ok (.aload_n 0, 1) := by decide +kernel
theorem dX9_perhapsBegin_96 : decode cX9_perhapsBegin 96 = .ok (.aload_n 0, 1) := by decide +kernel
theorem dX9_perhapsBegin_97 : decode cX9_perhapsBegin 97 = .ok (.iload_n 1, 1) := by decide +kernel
theorem dX9_perhapsBegin_98 : decode cX9_perhapsBegin 98 = .ok (.invokevirtual 233, 3) := by decide +kernel
theorem dX9_perhapsBegin_101 : decode cX9_perhapsBegin 101 = .ok (.putfield 226, 3) := by decide +kernel
theorem dX9_perhapsBegin_104 : decode cX9_perhapsBegin 104 = .ok (.aload_n 0, 1) := by decide +kernel
theorem dX9_perhapsBegin_105 : decode cX9_perhapsBegin 105 = .ok (.aload_n 0, 1) := by decide +kernel
theorem dX9_perhapsBegin_106 : decode cX9_perhapsBegin 106 = .ok (.getfield 102, 3) := by decide +kernel
theorem dX9_perhapsBegin_109 : decode cX9_perhapsBegin 109 = .ok (.iload_n 1, 1) := by decide +kernel
theorem dX9_perhapsBegin_110 : decode cX9_perhapsBegin 110 = .ok (.if_icmp .ne 8, 3) := by decide +kernel
theorem dX9_perhapsBegin_113 : decode cX9_perhapsBegin 113 = .ok (.bipush (-5), 2) := by decide +kernel
theorem dX9_perhapsBegin_115 : decode cX9_perhapsBegin 115 = .ok (.goto 7, 3) := by decide +kernel
theorem dX9_perhapsBegin_118 : decode cX9_perhapsBegin 118 = .ok (.aload_n 0, 1) := by decide +kernel
theorem dX9_perhapsBegin_119 : decode cX9_perhapsBegin 119 = .ok (.getfield 102, 3) := by decide +kernel
theorem dX9_perhapsBegin_122 : decode cX9_perhapsBegin 122 = .ok (.putfield 102, 3) := by decide +kernel
theorem dX9_perhapsBegin_125 : decode cX9_perhapsBegin 125 = .ok (.iconst 0, 1) := by decide +kernel
theorem dX9_perhapsBegin_126 : decode cX9_perhapsBegin 126 = .ok (.istore_n 2, 1) := by decide +kernel
theorem dX9_perhapsBegin_127 : decode cX9_perhapsBegin 127 = .ok (.iload_n 2, 1) := by decide +kernel
theorem dX9_perhapsBegin_128 : decode cX9_perhapsBegin 128 = .ok (.iconst 4, 1) := by decide +kernel
theorem dX9_perhapsBegin_129 : decode cX9_perhapsBegin 129 = .ok (.if_icmp .ge 48, 3) := by decide +kernel
theorem dX9_perhapsBegin_132 : decode cX9_perhapsBegin 132 = .ok (.aload_n 0, 1) := by decide +kernel
theorem dX9_perhapsBegin_133 : decode cX9_perhapsBegin 133 = .ok (.getfield 56, 3) := by decide +kernel
theorem dX9_perhapsBegin_136 : decode cX9_perhapsBegin 136 = .ok (.iconst 4, 1) := by decide +kernel
theorem dX9_perhapsBegin_137 : decode cX9_perhapsBegin 137 = .ok (.iload_n 1, 1) := by decide +kernel
theorem dX9_perhapsBegin_138 : decode cX9_perhapsBegin 138 = .ok (.imul, 1) := by decide +kernel
theorem dX9_perhapsBegin_139 : decode cX9_perhapsBegin 139 = .ok (.iload_n 2, 1) := by decide +kernel
theorem dX9_perhapsBegin_140 : decode cX9_perhapsBegin 140 = .ok (.iadd, 1) := by decide +kernel
theorem dX9_perhapsBegin_141 : decode cX9_perhapsBegin 141 = .ok (.iaload, 1) := by decide +kernel
theorem dX9_perhapsBegin_142 : decode cX9_perhapsBegin 142 = .ok (.istore_n 3, 1) := by decide +kernel
theorem dX9_perhapsBegin_143 : decode cX9_perhapsBegin 143 = .ok (.iload_n 3, 1) := by decide +kernel
theorem dX9_perhapsBegin_144 : decode cX9_perhapsBegin 144 = .ok (.ifCond .lt 27, 3) := by decide +kernel
theorem dX9_perhapsBegin_147 : decode cX9_perhapsBegin 147 = .ok (.aload_n 0, 1) := by decide +kernel
theorem dX9_perhapsBegin_148 : decode cX9_perhapsBegin 148 = .ok (.iload_n 3, 1) := by decide +kernel
theorem dX9_perhapsBegin_149 : decode cX9_perhapsBegin 149 = .ok (.iconst 1, 1) := by decide +kernel
theorem dX9_perhapsBegin_150 : decode cX9_perhapsBegin 150 = .ok (.invokevirtual 213, 3) := by decide +kernel
theorem dX9_perhapsBegin_153 : decode cX9_perhapsBegin 153 = .ok (.aload_n 0, 1) := by decide +kernel
theorem dX9_perhapsBegin_154 : decode cX9_perhapsBegin 154 = .ok (.getfield 25, 3) := by decide +kernel
theorem dX9_perhapsBegin_157 : decode cX9_perhapsBegin 157 = .ok (.iload_n 3, 1) := by decide +kernel
theorem dX9_perhapsBegin_158 : decode cX9_perhapsBegin 158 = .ok (.dup2, 1) := by decide +kernel
theorem dX9_perhapsBegin_159 : decode cX9_perhapsBegin 159 = .ok (.iaload, 1) := by decide +kernel
theorem dX9_perhapsBegin_160 : decode cX9_perhapsBegin 160 = .ok (.iconst 1, 1) := by decide +kernel
theorem dX9_perhapsBegin_161 : decode cX9_perhapsBegin 161 = .ok (.iadd, 1) := by decide +kernel
theorem dX9_perhapsBegin_162 : decode cX9_perhapsBegin 162 = .ok (.iastore, 1) := by decide +kernel
theorem dX9_perhapsBegin_163 : decode cX9_perhapsBegin 163 = .ok (.aload_n 0, 1) := by decide +kernel
theorem dX9_perhapsBegin_164 : decode cX9_perhapsBegin 164 = .ok (.getfield 34, 3) := by decide +kernel
theorem dX9_perhapsBegin_167 : decode cX9_perhapsBegin 167 = .ok (.iload_n 3, 1) := by decide +kernel
theorem dX9_perhapsBegin_168 : decode cX9_perhapsBegin 168 = .ok (.bipush (-5), 2) := by decide +kernel
theorem dX9_perhapsBegin_170 : decode cX9_perhapsBegin 170 = .ok (.iastore, 1) := by decide +kernel
theorem dX9_perhapsBegin_171 : decode cX9_perhapsBegin 171 = .ok (.iinc 2 1, 3) := by decide +kernel
theorem dX9_perhapsBegin_174 : decode cX9_perhapsBegin 174 = .ok (.goto (-47), 3) := by decide +kernel
theorem dX9_perhapsBegin_177 : decode cX9_perhapsBegin 177 = .ok (.return_, 1) := by decide +kernel
theorem dX9_pass_0 : decode cX9_pass 0 = .ok (.iconst 0, 1) := by decide +kernel
theorem dX9_pass_1 : decode cX9_pass 1 = .ok (.istore_n 1, 1) := by decide +kernel
theorem dX9_pass_2 : decode cX9_pass 2 = .ok (.aload_n 0, 1) := by decide +kernel
theorem dX9_pass_3 : decode cX9_pass 3 = .ok (.invokevirtual 236, 3) := by decide +kernel
theorem dX9_pass_6 : decode cX9_pass 6 = .ok (.aload_n 0, 1) := by decide +kernel
theorem dX9_pass_7 : decode cX9_pass 7 = .ok (.getfield 159, 3) := by decide +kernel
theorem dX9_pass_10 : decode cX9_pass 10 = .ok (.ifCond .le 46, 3) := by decide +kernel
theorem dX9_pass_13 : decode cX9_pass 13 = .ok (.aload_n 0, 1) := by decide +kernel
theorem dX9_pass_14 : decode cX9_pass 14 = .ok (.getfield 133, 3) := by decide +kernel
theorem dX9_pass_17 : decode cX9_pass 17 = .ok (.aload_n 0, 1) := by decide +kernel
theorem dX9_pass_18 : decode cX9_pass 18 = .ok (.getfield 105, 3) := by decide +kernel
theorem dX9_pass_21 : decode cX9_pass 21 = .ok (.iconst 3, 1) := by decide +kernel
theorem dX9_pass_22 : decode cX9_pass 22 = .ok (.iadd, 1) := by decide +kernel
theorem dX9_pass_23 : decode cX9_pass 23 = .ok (.if_icmp .ne 117, 3) := by decide +kernel
theorem dX9_pass_26 : decode cX9_pass 26 = .ok (.aload_n 0, 1) := by decide +kernel
theorem dX9_pass_27 : decode cX9_pass 27 = .ok (.iconst 2, 1) := by decide +kernel
theorem dX9_pass_28 : decode cX9_pass 28 = .ok (.putfield 159, 3) := by decide +kernel
theorem dX9_pass_31 : decode cX9_pass 31 = .ok (.iconst 0, 1) := by decide +kernel
theorem dX9_pass_32 : decode cX9_pass 32 = .ok (.istore_n 2, 1) := by decide +kernel
theorem dX9_pass_33 : decode cX9_pass 33 = .ok (.iload_n 2, 1) := by decide +kernel
theorem dX9_pass_34 : decode cX9_pass 34 = .ok (.aload_n 0, 1) := by decide +kernel
theorem dX9_pass_35 : decode cX9_pass 35 = .ok (.getfield 120, 3) := by decide +kernel
theorem dX9_pass_38 : decode cX9_pass 38 = .ok (.if_icmp .ge 15, 3) := by decide +kernel
theorem dX9_pass_41 : decode cX9_pass 41 = .ok (.aload_n 0, 1) := by decide +kernel
theorem dX9_pass_42 : decode cX9_pass 42 = .ok (.iload_n 2, 1) := by decide +kernel
theorem dX9_pass_43 : decode cX9_pass 43 = .ok (.iconst 3, 1) := by decide +kernel
theorem dX9_pass_44 : decode cX9_pass 44 = .ok (.invokevirtual 213, 3) := by decide +kernel
theorem dX9_pass_47 : decode cX9_pass 47 = .ok (.iinc 2 1, 3) := by decide +kernel
theorem dX9_pass_50 : decode cX9_pass 50 = .ok (.goto (-17), 3) := by decide +kernel
theorem dX9_pass_53 : decode cX9_pass 53 = .ok (.goto 87, 3) := by decide +kernel
theorem dX9_pass_56 : decode cX9_pass 56 = .ok (.aload_n 0, 1) := by decide +kernel
theorem dX9_pass_57 : decode cX9_pass 57 = .ok (.invokevirtual 239, 3) := by decide +kernel
theorem dX9_pass_60 : decode cX9_pass 60 = .ok (.aload_n 0, 1) := by decide +kernel
theorem dX9_pass_61 : decode cX9_pass 61 = .ok (.invokevirtual 242, 3) := by decide +kernel
theorem dX9_pass_64 : decode cX9_pass 64 = .ok (.istore_n 2, 1) := by decide +kernel
theorem dX9_pass_65 : decode cX9_pass 65 = .ok (.iload_n 2, 1) := by decide +kernel
theorem dX9_pass_66 : decode cX9_pass 66 = .ok (.ifCond .le 7, 3) := by decide +kernel
theorem dX9_pass_69 : decode cX9_pass 69 = .ok (.iconst 1, 1) := by decide +kernel
theorem dX9_pass_70 : decode cX9_pass 70 = .ok (.goto 4, 3) := by decide +kernel
theorem dX9_pass_73 : decode cX9_pass 73 = .ok (.iconst 0, 1) := by decide +kernel
theorem dX9_pass_74 : decode cX9_pass 74 = .ok (.istore_n 1, 1) := by decide +kernel
theorem dX9_pass_75 : decode cX9_pass 75 = .ok (.iload_n 1, 1) := by decide +kernel
theorem dX9_pass_76 : decode cX9_pass 76 = .ok (.ifCond .eq 11, 3) := by decide +kernel
theorem dX9_pass_79 : decode cX9_pass 79 = .ok (.aload_n 0, 1) := by decide +kernel
theorem dX9_pass_80 : decode cX9_pass 80 = .ok (.iload_n 2, 1) := by decide +kernel
theorem dX9_pass_81 : decode cX9_pass 81 = .ok (.invokevirtual 245, 3) := by decide +kernel
theorem dX9_pass_84 : decode cX9_pass 84 = .ok (.goto 56, 3) := by decide +kernel
theorem dX9_pass_87 : decode cX9_pass 87 = .ok (.aload_n 0, 1) := by decide +kernel
theorem dX9_pass_88 : decode cX9_pass 88 = .ok (.invokevirtual 249, 3) := by decide +kernel
theorem dX9_pass_91 : decode cX9_pass 91 = .ok (.iconst 0, 1) := by decide +kernel
theorem dX9_pass_92 : decode cX9_pass 92 = .ok (.istore_n 3, 1) := by decide +kernel
theorem dX9_pass_93 : decode cX9_pass 93 = .ok (.iload_n 3, 1) := by decide +kernel
theorem dX9_pass_94 : decode cX9_pass 94 = .ok (.aload_n 0, 1) := by decide +kernel
theorem dX9_pass_95 : decode cX9_pass 95 = .ok (.getfield 120, 3) := by decide +kernel
theorem dX9_pass_98 : decode cX9_pass 98 = .ok (.if_icmp .ge 38, 3) := by decide +kernel
theorem dX9_pass_101 : decode cX9_pass 101 = .ok (.aload_n 0, 1) := by decide +kernel
theorem dX9_pass_102 : decode cX9_pass 102 = .ok (.getfield 13, 3) := by decide +kernel
theorem dX9_pass_105 : decode cX9_pass 105 = .ok (.iload_n 3, 1) := by decide +kernel
theorem dX9_pass_106 : decode cX9_pass 106 = .ok (.iaload, 1) := by decide +kernel
theorem dX9_pass_107 : decode cX9_pass 107 = .ok (.iconst 2, 1) := by decide +kernel
theorem dX9_pass_108 : decode cX9_pass 108 = .ok (.if_icmp .ne 22, 3) := by decide +kernel
theorem dX9_pass_111 : decode cX9_pass 111 = .ok (.aload_n 0, 1) := by decide +kernel
theorem dX9_pass_112 : decode cX9_pass 112 = .ok (.getfield 28, 3) := by decide +kernel
theorem dX9_pass_115 : decode cX9_pass 115 = .ok (.iload_n 3, 1) := by decide +kernel
theorem dX9_pass_116 : decode cX9_pass 116 = .ok (.iaload, 1) := by decide +kernel
theorem dX9_pass_117 : decode cX9_pass 117 = .ok (.aload_n 0, 1) := by decide +kernel
theorem dX9_pass_118 : decode cX9_pass 118 = .ok (.getfield 133, 3) := by decide +kernel
theorem dX9_pass_121 : decode cX9_pass 121 = .ok (.if_icmp .gt 9, 3) := by decide +kernel
theorem dX9_pass_124 : decode cX9_pass 124 = .ok (.aload_n 0, 1) := by decide +kernel
theorem dX9_pass_125 : decode cX9_pass 125 = .ok (.iload_n 3, 1) := by decide +kernel
theorem dX9_pass_126 : decode cX9_pass 126 = .ok (.iconst 0, 1) := by decide +kernel
theorem dX9_pass_127 : decode cX9_pass 127 = .ok (.invokevirtual 213, 3) := by decide +kernel
theorem dX9_pass_130 : decode cX9_pass 130 = .ok (.iinc 3 1, 3) := by decide +kernel
theorem dX9_pass_133 : decode cX9_pass 133 = .ok (.goto (-40), 3) := by decide +kernel
theorem dX9_pass_136 : decode cX9_pass 136 = .ok (.aload_n 0, 1) := by decide +kernel
theorem dX9_pass_137 : decode cX9_pass 137 = .ok (.invokevirtual 252, 3) := by decide +kernel
theorem dX9_pass_140 : decode cX9_pass 140 = .ok (.iconst 0, 1) := by decide +kernel
theorem dX9_pass_141 : decode cX9_pass 141 = .ok (.istore_n 2, 1) := by decide +kernel
theorem dX9_pass_142 : decode cX9_pass 142 = .ok (.iload_n 2, 1) := by decide +kernel
theorem dX9_pass_143 : decode cX9_pass 143 = .ok (.aload_n 0, 1) := by decide +kernel
theorem dX9_pass_144 : decode cX9_pass 144 = .ok (.getfield 120, 3) := by decide +kernel
theorem dX9_pass_147 : decode cX9_pass 147 = .ok (.if_icmp .ge 32, 3) := by decide +kernel
theorem dX9_pass_150 : decode cX9_pass 150 = .ok (.aload_n 0, 1) := by decide +kernel
theorem dX9_pass_151 : decode cX9_pass 151 = .ok (.getfield 114, 3) := by decide +kernel
theorem dX9_pass_154 : decode cX9_pass 154 = .ok (.bipush 8, 2) := by decide +kernel
theorem dX9_pass_156 : decode cX9_pass 156 = .ok (.aload_n 0, 1) := by decide +kernel
theorem dX9_pass_157 : decode cX9_pass 157 = .ok (.getfield 133, 3) := by decide +kernel
theorem dX9_pass_160 : decode cX9_pass 160 = .ok (.bipush 61, 2) := by decide +kernel
theorem dX9_pass_162 : decode cX9_pass 162 = .ok (.irem, 1) := by decide +kernel
theorem dX9_pass_163 : decode cX9_pass 163 = .ok (.imul, 1) := by decide +kernel
theorem dX9_pass_164 : decode cX9_pass 164 = .ok (.iload_n 2, 1) := by decide +kernel
theorem dX9_pass_165 : decode cX9_pass 165 = .ok (.iadd, 1) := by decide +kernel
theorem dX9_pass_166 : decode cX9_pass 166 = .ok (.aload_n 0, 1) := by decide +kernel
theorem dX9_pass_167 : decode cX9_pass 167 = .ok (.getfield 13, 3) := by decide +kernel
theorem dX9_pass_170 : decode cX9_pass 170 = .ok (.iload_n 2, 1) := by decide +kernel
theorem dX9_pass_171 : decode cX9_pass 171 = .ok (.iaload, 1) := by decide +kernel
theorem dX9_pass_172 : decode cX9_pass 172 = .ok (.iastore, 1) := by decide +kernel
theorem dX9_pass_173 : decode cX9_pass 173 = .ok (.iinc 2 1, 3) := by decide +kernel
theorem dX9_pass_176 : decode cX9_pass 176 = .ok (.goto (-34), 3) := by decide +kernel
theorem dX9_pass_179 : decode cX9_pass 179 = .ok (.aload_n 0, 1) := by decide +kernel
theorem dX9_pass_180 : decode cX9_pass 180 = .ok (.dup, 1) := by decide +kernel
theorem dX9_pass_181 : decode cX9_pass 181 = .ok (.getfield 133, 3) := by decide +kernel
theorem dX9_pass_184 : decode cX9_pass 184 = .ok (.iconst 1, 1) := by decide +kernel
theorem dX9_pass_185 : decode cX9_pass 185 = .ok (.iadd, 1) := by decide +kernel
theorem dX9_pass_186 : decode cX9_pass 186 = .ok (.putfield 133, 3) := by decide +kernel
theorem dX9_pass_189 : decode cX9_pass 189 = .ok (.iload_n 1, 1) := by decide +kernel
theorem dX9_pass_190 : decode cX9_pass 190 = .ok (.ireturn, 1) := by decide +kernel
theorem dX9_second_0 : decode cX9_second 0 = .ok (.iload_n 1, 1) := by decide +kernel
theorem dX9_second_1 : decode cX9_second 1 = .ok (.iconst 0, 1) := by decide +kernel
theorem dX9_second_2 : decode cX9_second 2 = .ok (.iconst 4, 1) := by decide +kernel
theorem dX9_second_3 : decode cX9_second 3 = .ok (.invokestatic 123, 3) := by decide +kernel
theorem dX9_second_6 : decode cX9_second 6 = .ok (.ifCond .ne 5, 3) := by decide +kernel
theorem dX9_second_9 : decode cX9_second 9 = .ok (.iconst (-1), 1) := by decide +kernel
theorem dX9_second_10 : decode cX9_second 10 = .ok (.ireturn, 1) := by decide +kernel
theorem dX9_second_11 : decode cX9_second 11 = .ok (.iconst 0, 1) := by decide +kernel
theorem dX9_second_12 : decode cX9_second 12 = .ok (.istore_n 2, 1) := by decide +kernel
theorem dX9_second_13 : decode cX9_second 13 = .ok (.iconst 0, 1) := by decide +kernel
theorem dX9_second_14 : decode cX9_second 14 = .ok (.istore_n 3, 1) := by decide +kernel
theorem dX9_second_15 : decode cX9_second 15 = .ok (.iload_n 2, 1) := by decide +kernel
theorem dX9_second_16 : decode cX9_second 16 = .ok (.iload_n 1, 1) := by decide +kernel
theorem dX9_second_17 : decode cX9_second 17 = .ok (.if_icmp .ge 18, 3) := by decide +kernel
theorem dX9_second_20 : decode cX9_second 20 = .ok (.iload_n 3, 1) := by decide +kernel
theorem dX9_second_21 : decode cX9_second 21 = .ok (.ifCond .ne 14, 3) := by decide +kernel
theorem dX9_second_24 : decode cX9_second 24 = .ok (.aload_n 0, 1) := by decide +kernel
theorem dX9_second_25 : decode cX9_second 25 = .ok (.invokevirtual 255, 3) := by decide +kernel
theorem dX9_second_28 : decode cX9_second 28 = .ok (.istore_n 3, 1) := by decide +kernel
theorem dX9_second_29 : decode cX9_second 29 = .ok (.iinc 2 1, 3) := by decide +kernel
theorem dX9_second_32 : decode cX9_second 32 = .ok (.goto (-17), 3) := by decide +kernel
theorem dX9_second_35 : decode cX9_second 35 = .ok (.iload_n 2, 1) := by decide +kernel
theorem dX9_second_36 : decode cX9_second 36 = .ok (.ireturn, 1) := by decide +kernel
theorem dX9_restore_0 : decode cX9_restore 0 = .ok (.aload_n 0, 1) := by decide +kernel
theorem dX9_restore_1 : decode cX9_restore 1 = .ok (.getfield 159, 3) := by decide +kernel
theorem dX9_restore_4 : decode cX9_restore 4 = .ok (.ifCond .ne 6, 3) := by decide +kernel
theorem dX9_restore_7 : decode cX9_restore 7 = .ok (.bipush (-3), 2) := by decide +kernel
theorem dX9_restore_9 : decode cX9_restore 9 = .ok (.ireturn, 1) := by decide +kernel
theorem dX9_restore_10 : decode cX9_restore 10 = .ok (.aload_n 0, 1) := by decide +kernel
theorem dX9_restore_11 : decode cX9_restore 11 = .ok (.iconst 0, 1) := by decide +kernel
theorem dX9_restore_12 : decode cX9_restore 12 = .ok (.putfield 159, 3) := by decide +kernel
theorem dX9_restore_15 : decode cX9_restore 15 = .ok (.iconst 0, 1) := by decide +kernel
theorem dX9_restore_16 : decode cX9_restore 16 = .ok (.istore_n 1, 1) := by decide +kernel
theorem dX9_restore_17 : decode cX9_restore 17 = .ok (.iload_n 1, 1) := by decide +kernel
theorem dX9_restore_18 : decode cX9_restore 18 = .ok (.aload_n 0, 1) := by decide +kernel
theorem dX9_restore_19 : decode cX9_restore 19 = .ok (.getfield 120, 3) := by decide +kernel
theorem dX9_restore_22 : decode cX9_restore 22 = .ok (.if_icmp .ge 15, 3) := by decide +kernel
theorem dX9_restore_25 : decode cX9_restore 25 = .ok (.aload_n 0, 1) := by decide +kernel
theorem dX9_restore_26 : decode cX9_restore 26 = .ok (.iload_n 1, 1) := by decide +kernel
theorem dX9_restore_27 : decode cX9_restore 27 = .ok (.iconst 0, 1) := by decide +kernel
theorem dX9_restore_28 : decode cX9_restore 28 = .ok (.invokevirtual 213, 3) := by decide +kernel
theorem dX9_restore_31 : decode cX9_restore 31 = .ok (.iinc 1 1, 3) := by decide +kernel
theorem dX9_restore_34 : decode cX9_restore 34 = .ok (.goto (-17), 3) := by decide +kernel
theorem dX9_restore_37 : decode cX9_restore 37 = .ok (.iconst 1, 1) := by decide +kernel
theorem dX9_restore_38 : decode cX9_restore 38 = .ok (.ireturn, 1) := by decide +kernel
theorem dX9_light_0 : decode cX9_light 0 = .ok (.aload_n 0, 1) := by decide +kernel
theorem dX9_light_1 : decode cX9_light 1 = .ok (.iload_n 1, 1) := by decide +kernel
theorem dX9_light_2 : decode cX9_light 2 = .ok (.invokevirtual 136, 3) := by decide +kernel
theorem dX9_light_5 : decode cX9_light 5 = .ok (.ifCond .eq 12, 3) := by decide +kernel
theorem dX9_light_8 : decode cX9_light 8 = .ok (.aload_n 0, 1) := by decide +kernel
theorem dX9_light_9 : decode cX9_light 9 = .ok (.getfield 13, 3) := by decide +kernel
theorem dX9_light_12 : decode cX9_light 12 = .ok (.iload_n 1, 1) := by decide +kernel
theorem dX9_light_13 : decode cX9_light 13 = .ok (.iaload, 1) := by decide +kernel
theorem dX9_light_14 : decode cX9_light 14 = .ok (.goto 4, 3) := by decide +kernel
theorem dX9_light_17 : decode cX9_light 17 = .ok (.iconst (-1), 1) := by decide +kernel
theorem dX9_light_18 : decode cX9_light 18 = .ok (.ireturn, 1) := by decide +kernel
theorem dX9_was_0 : decode cX9_was 0 = .ok (.aload_n 0, 1) := by decide +kernel
theorem dX9_was_1 : decode cX9_was 1 = .ok (.iload_n 1, 1) := by decide +kernel
theorem dX9_was_2 : decode cX9_was 2 = .ok (.invokevirtual 136, 3) := by decide +kernel
theorem dX9_was_5 : decode cX9_was 5 = .ok (.ifCond .eq 13, 3) := by decide +kernel
theorem dX9_was_8 : decode cX9_was 8 = .ok (.iload_n 2, 1) := by decide +kernel
theorem dX9_was_9 : decode cX9_was 9 = .ok (.iconst 0, 1) := by decide +kernel
theorem dX9_was_10 : decode cX9_was 10 = .ok (.bipush 60, 2) := by decide +kernel
theorem dX9_was_12 : decode cX9_was 12 = .ok (.invokestatic 123, 3) := by decide +kernel
theorem dX9_was_15 : decode cX9_was 15 = .ok (.ifCond .ne 5, 3) := by decide +kernel
theorem dX9_was_18 : decode cX9_was 18 = .ok (.iconst (-1), 1) := by decide +kernel
theorem dX9_was_19 : decode cX9_was 19 = .ok (.ireturn, 1) := by decide +kernel
theorem dX9_was_20 : decode cX9_was 20 = .ok (.iload_n 2, 1) := by decide +kernel
theorem dX9_was_21 : decode cX9_was 21 = .ok (.aload_n 0, 1) := by decide +kernel
theorem dX9_was_22 : decode cX9_was 22 = .ok (.getfield 133, 3) := by decide +kernel
theorem dX9_was_25 : decode cX9_was 25 = .ok (.if_icmp .lt 8, 3) := by decide +kernel
theorem dX9_was_28 : decode cX9_was 28 = .ok (.bipush (-5), 2) := by decide +kernel
theorem dX9_was_30 : decode cX9_was 30 = .ok (.goto 24, 3) := by decide +kernel
theorem dX9_was_33 : decode cX9_was 33 = .ok (.aload_n 0, 1) := by decide +kernel
theorem dX9_was_34 : decode cX9_was 34 = .ok (.getfield 114, 3) := by decide +kernel
theorem dX9_was_37 : decode cX9_was 37 = .ok (.bipush 8, 2) := by decide +kernel
theorem dX9_was_39 : decode cX9_was 39 = .ok (.aload_n 0, 1) := by decide +kernel
theorem dX9_was_40 : decode cX9_was 40 = .ok (.getfield 133, 3) := by decide +kernel
theorem dX9_was_43 : decode cX9_was 43 = .ok (.iconst 1, 1) := by decide +kernel
theorem dX9_was_44 : decode cX9_was 44 = .ok (.isub, 1) := by decide +kernel
theorem dX9_was_45 : decode cX9_was 45 = .ok (.iload_n 2, 1) := by decide +kernel
theorem dX9_was_46 : decode cX9_was 46 = .ok (.isub, 1) := by decide +kernel
theorem dX9_was_47 : decode cX9_was 47 = .ok (.bipush 61, 2) := by decide +kernel
theorem dX9_was_49 : decode cX9_was 49 = .ok (.irem, 1) := by decide +kernel
theorem dX9_was_50 : decode cX9_was 50 = .ok (.imul, 1) := by decide +kernel
theorem dX9_was_51 : decode cX9_was 51 = .ok (.iload_n 1, 1) := by decide +kernel
theorem dX9_was_52 : decode cX9_was 52 = .ok (.iadd, 1) := by decide +kernel
theorem dX9_was_53 : decode cX9_was 53 = .ok (.iaload, 1) := by decide +kernel
theorem dX9_was_54 : decode cX9_was 54 = .ok (.ireturn, 1) := by decide +kernel
theorem dX9_stageOf_0 : decode cX9_stageOf 0 = .ok (.iload_n 1, 1) := by decide +kernel
theorem dX9_stageOf_1 : decode cX9_stageOf 1 = .ok (.tableswitch 68 0 3 #[31, 36, 41, 46], 31) := by decide +kernel
theorem dX9_stageOf_32 : decode cX9_stageOf 32 = .ok (.aload_n 0, 1) := by decide +kernel
theorem dX9_stageOf_33 : decode cX9_stageOf 33 = .ok (.getfield 95, 3) := by decide +kernel
theorem dX9_stageOf_36 : decode cX9_stageOf 36 = .ok (.ireturn, 1) := by decide +kernel
theorem dX9_stageOf_37 : decode cX9_stageOf 37 = .ok (.aload_n 0, 1) := by decide +kernel
theorem dX9_stageOf_38 : decode cX9_stageOf 38 = .ok (.invokevirtual 229, 3) := by decide +kernel
theorem dX9_stageOf_41 : decode cX9_stageOf 41 = .ok (.ireturn, 1) := by decide +kernel
theorem dX9_stageOf_42 : decode cX9_stageOf 42 = .ok (.aload_n 0, 1) := by decide +kernel
theorem dX9_stageOf_43 : decode cX9_stageOf 43 = .ok (.getfield 102, 3) := by decide +kernel
theorem dX9_stageOf_46 : decode cX9_stageOf 46 = .ok (.ireturn, 1) := by decide +kernel
theorem dX9_stageOf_47 : decode cX9_stageOf 47 = .ok (.aload_n 0, 1) := by decide +kernel
theorem dX9_stageOf_48 : decode cX9_stageOf 48 = .ok (.getfield 95, 3) := by decide +kernel
theorem dX9_stageOf_51 : decode cX9_stageOf 51 = .ok (.ifCond .ge 8, 3) := by decide +kernel
theorem dX9_stageOf_54 : decode cX9_stageOf 54 = .ok (.bipush (-5), 2) := by decide +kernel
theorem dX9_stageOf_56 : decode cX9_stageOf 56 = .ok (.goto 12, 3) := by decide +kernel
theorem dX9_stageOf_59 : decode cX9_stageOf 59 = .ok (.aload_n 0, 1) := by decide +kernel
theorem dX9_stageOf_60 : decode cX9_stageOf 60 = .ok (.getfield 133, 3) := by decide +kernel
theorem dX9_stageOf_63 : decode cX9_stageOf 63 = .ok (.aload_n 0, 1) := by decide +kernel
theorem dX9_stageOf_64 : decode cX9_stageOf 64 = .ok (.getfield 189, 3) := by decide +kernel
theorem dX9_stageOf_67 : decode cX9_stageOf 67 = .ok (.isub, 1) := by decide +kernel
theorem dX9_stageOf_68 : decode cX9_stageOf 68 = .ok (.ireturn, 1) := by decide +kernel
theorem dX9_stageOf_69 : decode cX9_stageOf 69 = .ok (.iconst (-1), 1) := by decide +kernel
theorem dX9_stageOf_70 : decode cX9_stageOf 70 = .ok (.ireturn, 1) := by decide +kernel
theorem dX9_place_0 : decode cX9_place 0 = .ok (.aload_n 0, 1) := by decide +kernel
theorem dX9_place_1 : decode cX9_place 1 = .ok (.iload_n 1, 1) := by decide +kernel
theorem dX9_place_2 : decode cX9_place 2 = .ok (.invokevirtual 156, 3) := by decide +kernel
theorem dX9_place_5 : decode cX9_place 5 = .ok (.ifCond .eq 12, 3) := by decide +kernel
theorem dX9_place_8 : decode cX9_place 8 = .ok (.iload_n 2, 1) := by decide +kernel
theorem dX9_place_9 : decode cX9_place 9 = .ok (.iconst 0, 1) := by decide +kernel
theorem dX9_place_10 : decode cX9_place 10 = .ok (.iconst 3, 1) := by decide +kernel
theorem dX9_place_11 : decode cX9_place 11 = .ok (.invokestatic 123, 3) := by decide +kernel
theorem dX9_place_14 : decode cX9_place 14 = .ok (.ifCond .ne 5, 3) := by decide +kernel
theorem dX9_place_17 : decode cX9_place 17 = .ok (.iconst (-1), 1) := by decide +kernel
theorem dX9_place_18 : decode cX9_place 18 = .ok (.ireturn, 1) := by decide +kernel
theorem dX9_place_19 : decode cX9_place 19 = .ok (.aload_n 0, 1) := by decide +kernel
theorem dX9_place_20 : decode cX9_place 20 = .ok (.getfield 56, 3) := by decide +kernel
theorem dX9_place_23 : decode cX9_place 23 = .ok (.iconst 4, 1) := by decide +kernel
theorem dX9_place_24 : decode cX9_place 24 = .ok (.iload_n 1, 1) := by decide +kernel
theorem dX9_place_25 : decode cX9_place 25 = .ok (.imul, 1) := by decide +kernel
theorem dX9_place_26 : decode cX9_place 26 = .ok (.iload_n 2, 1) := by decide +kernel
theorem dX9_place_27 : decode cX9_place 27 = .ok (.iadd, 1) := by decide +kernel
theorem dX9_place_28 : decode cX9_place 28 = .ok (.iaload, 1) := by decide +kernel
theorem dX9_place_29 : decode cX9_place 29 = .ok (.ifCond .ge 10, 3) := by decide +kernel
theorem dX9_place_32 : decode cX9_place 32 = .ok (.aload_n 0, 1) := by decide +kernel
theorem dX9_place_33 : decode cX9_place 33 = .ok (.iconst 4, 1) := by decide +kernel
theorem dX9_place_34 : decode cX9_place 34 = .ok (.bipush (-5), 2) := by decide +kernel
theorem dX9_place_36 : decode cX9_place 36 = .ok (.invokevirtual 169, 3) := by decide +kernel
theorem dX9_place_39 : decode cX9_place 39 = .ok (.aload_n 0, 1) := by decide +kernel
theorem dX9_place_40 : decode cX9_place 40 = .ok (.getfield 56, 3) := by decide +kernel
theorem dX9_place_43 : decode cX9_place 43 = .ok (.iconst 4, 1) := by decide +kernel
theorem dX9_place_44 : decode cX9_place 44 = .ok (.iload_n 1, 1) := by decide +kernel
theorem dX9_place_45 : decode cX9_place 45 = .ok (.imul, 1) := by decide +kernel
theorem dX9_place_46 : decode cX9_place 46 = .ok (.iload_n 2, 1) := by decide +kernel
theorem dX9_place_47 : decode cX9_place 47 = .ok (.iadd, 1) := by decide +kernel
theorem dX9_place_48 : decode cX9_place 48 = .ok (.iaload, 1) := by decide +kernel
theorem dX9_place_49 : decode cX9_place 49 = .ok (.ireturn, 1) := by decide +kernel
theorem dX9_told_0 : decode cX9_told 0 = .ok (.aload_n 0, 1) := by decide +kernel
theorem dX9_told_1 : decode cX9_told 1 = .ok (.iload_n 1, 1) := by decide +kernel
theorem dX9_told_2 : decode cX9_told 2 = .ok (.invokevirtual 136, 3) := by decide +kernel
theorem dX9_told_5 : decode cX9_told 5 = .ok (.ifCond .eq 13, 3) := by decide +kernel
theorem dX9_told_8 : decode cX9_told 8 = .ok (.iload_n 2, 1) := by decide +kernel
theorem dX9_told_9 : decode cX9_told 9 = .ok (.iconst 0, 1) := by decide +kernel
theorem dX9_told_10 : decode cX9_told 10 = .ok (.bipush 11, 2) := by decide +kernel
theorem dX9_told_12 : decode cX9_told 12 = .ok (.invokestatic 123, 3) := by decide +kernel
theorem dX9_told_15 : decode cX9_told 15 = .ok (.ifCond .ne 5, 3) := by decide +kernel
theorem dX9_told_18 : decode cX9_told 18 = .ok (.iconst (-1), 1) := by decide +kernel
theorem dX9_told_19 : decode cX9_told 19 = .ok (.ireturn, 1) := by decide +kernel
theorem dX9_told_20 : decode cX9_told 20 = .ok (.iload_n 2, 1) := by decide +kernel
theorem dX9_told_21 : decode cX9_told 21 = .ok (.tableswitch 129 0 10 #[59, 66, 73, 73, 80, 87, 94, 101, 108, 115, 122], 59) := by decide +kernel
theorem dX9_told_80 : decode cX9_told 80 = .ok (.aload_n 0, 1) := by decide +kernel
theorem dX9_told_81 : decode cX9_told 81 = .ok (.getfield 7, 3) := by decide +kernel
theorem dX9_told_84 : decode cX9_told 84 = .ok (.iload_n 1, 1) := by decide +kernel
theorem dX9_told_85 : decode cX9_told 85 = .ok (.iaload, 1) := by decide +kernel
theorem dX9_told_86 : decode cX9_told 86 = .ok (.ireturn, 1) := by decide +kernel
theorem dX9_told_87 : decode cX9_told 87 = .ok (.aload_n 0, 1) := by decide +kernel
theorem dX9_told_88 : decode cX9_told 88 = .ok (.getfield 16, 3) := by decide +kernel
theorem dX9_told_91 : decode cX9_told 91 = .ok (.iload_n 1, 1) := by decide +kernel
theorem dX9_told_92 : decode cX9_told 92 = .ok (.iaload, 1) := by decide +kernel
theorem dX9_told_93 : decode cX9_told 93 = .ok (.ireturn, 1) := by decide +kernel
theorem dX9_told_94 : decode cX9_told 94 = .ok (.aload_n 0, 1) := by decide +kernel
theorem dX9_told_95 : decode cX9_told 95 = .ok (.getfield 19, 3) := by decide +kernel
theorem dX9_told_98 : decode cX9_told 98 = .ok (.iload_n 1, 1) := by decide +kernel
theorem dX9_told_99 : decode cX9_told 99 = .ok (.iaload, 1) := by decide +kernel
theorem dX9_told_100 : decode cX9_told 100 = .ok (.ireturn, 1) := by decide +kernel
theorem dX9_told_101 : decode cX9_told 101 = .ok (.aload_n 0, 1) := by decide +kernel
theorem dX9_told_102 : decode cX9_told 102 = .ok (.getfield 22, 3) := by decide +kernel
theorem dX9_told_105 : decode cX9_told 105 = .ok (.iload_n 1, 1) := by decide +kernel
theorem dX9_told_106 : decode cX9_told 106 = .ok (.iaload, 1) := by decide +kernel
theorem dX9_told_107 : decode cX9_told 107 = .ok (.ireturn, 1) := by decide +kernel
theorem dX9_told_108 : decode cX9_told 108 = .ok (.aload_n 0, 1) := by decide +kernel
theorem dX9_told_109 : decode cX9_told 109 = .ok (.getfield 25, 3) := by decide +kernel
theorem dX9_told_112 : decode cX9_told 112 = .ok (.iload_n 1, 1) := by decide +kernel
theorem dX9_told_113 : decode cX9_told 113 = .ok (.iaload, 1) := by decide +kernel
theorem dX9_told_114 : decode cX9_told 114 = .ok (.ireturn, 1) := by decide +kernel
theorem dX9_told_115 : decode cX9_told 115 = .ok (.aload_n 0, 1) := by decide +kernel
theorem dX9_told_116 : decode cX9_told 116 = .ok (.getfield 28, 3) := by decide +kernel
theorem dX9_told_119 : decode cX9_told 119 = .ok (.iload_n 1, 1) := by decide +kernel
theorem dX9_told_120 : decode cX9_told 120 = .ok (.iaload, 1) := by decide +kernel
theorem dX9_told_121 : decode cX9_told 121 = .ok (.ireturn, 1) := by decide +kernel
theorem dX9_told_122 : decode cX9_told 122 = .ok (.aload_n 0, 1) := by decide +kernel
theorem dX9_told_123 : decode cX9_told 123 = .ok (.getfield 31, 3) := by decide +kernel
theorem dX9_told_126 : decode cX9_told 126 = .ok (.iload_n 1, 1) := by decide +kernel
theorem dX9_told_127 : decode cX9_told 127 = .ok (.iaload, 1) := by decide +kernel
theorem dX9_told_128 : decode cX9_told 128 = .ok (.ireturn, 1) := by decide +kernel
theorem dX9_told_129 : decode cX9_told 129 = .ok (.aload_n 0, 1) := by decide +kernel
theorem dX9_told_130 : decode cX9_told 130 = .ok (.getfield 34, 3) := by decide +kernel
theorem dX9_told_133 : decode cX9_told 133 = .ok (.iload_n 1, 1) := by decide +kernel
theorem dX9_told_134 : decode cX9_told 134 = .ok (.iaload, 1) := by decide +kernel
theorem dX9_told_135 : decode cX9_told 135 = .ok (.ireturn, 1) := by decide +kernel
theorem dX9_told_136 : decode cX9_told 136 = .ok (.aload_n 0, 1) := by decide +kernel
theorem dX9_told_137 : decode cX9_told 137 = .ok (.getfield 37, 3) := by decide +kernel
theorem dX9_told_140 : decode cX9_told 140 = .ok (.iload_n 1, 1) := by decide +kernel
theorem dX9_told_141 : decode cX9_told 141 = .ok (.iaload, 1) := by decide +kernel
theorem dX9_told_142 : decode cX9_told 142 = .ok (.ireturn, 1) := by decide +kernel
theorem dX9_told_143 : decode cX9_told 143 = .ok (.aload_n 0, 1) := by decide +kernel
theorem dX9_told_144 : decode cX9_told 144 = .ok (.getfield 40, 3) := by decide +kernel
theorem dX9_told_147 : decode cX9_told 147 = .ok (.iload_n 1, 1) := by decide +kernel
theorem dX9_told_148 : decode cX9_told 148 = .ok (.iaload, 1) := by decide +kernel
theorem dX9_told_149 : decode cX9_told 149 = .ok (.ireturn, 1) := by decide +kernel
theorem dX9_told_150 : decode cX9_told 150 = .ok (.aload_n 0, 1) := by decide +kernel
theorem dX9_told_151 : decode cX9_told 151 = .ok (.getfield 43, 3) := by decide +kernel
theorem dX9_told_154 : decode cX9_told 154 = .ok (.iload_n 1, 1) := by decide +kernel
theorem dX9_told_155 : decode cX9_told 155 = .ok (.iaload, 1) := by decide +kernel
theorem dX9_told_156 : decode cX9_told 156 = .ok (.ireturn, 1) := by decide +kernel
theorem dX9_length_0 : decode cX9_length 0 = .ok (.aload_n 0, 1) := by decide +kernel
theorem dX9_length_1 : decode cX9_length 1 = .ok (.iload_n 1, 1) := by decide +kernel
theorem dX9_length_2 : decode cX9_length 2 = .ok (.invokevirtual 147, 3) := by decide +kernel
theorem dX9_length_5 : decode cX9_length 5 = .ok (.ifCond .eq 12, 3) := by decide +kernel
theorem dX9_length_8 : decode cX9_length 8 = .ok (.aload_n 0, 1) := by decide +kernel
theorem dX9_length_9 : decode cX9_length 9 = .ok (.getfield 59, 3) := by decide +kernel
theorem dX9_length_12 : decode cX9_length 12 = .ok (.iload_n 1, 1) := by decide +kernel
theorem dX9_length_13 : decode cX9_length 13 = .ok (.iaload, 1) := by decide +kernel
theorem dX9_length_14 : decode cX9_length 14 = .ok (.goto 4, 3) := by decide +kernel
theorem dX9_length_17 : decode cX9_length 17 = .ok (.iconst (-1), 1) := by decide +kernel
theorem dX9_length_18 : decode cX9_length 18 = .ok (.ireturn, 1) := by decide +kernel
theorem dX9_bound_0 : decode cX9_bound 0 = .ok (.iconst 0, 1) := by decide +kernel
theorem dX9_bound_1 : decode cX9_bound 1 = .ok (.istore_n 1, 1) := by decide +kernel
theorem dX9_bound_2 : decode cX9_bound 2 = .ok (.iconst 0, 1) := by decide +kernel
theorem dX9_bound_3 : decode cX9_bound 3 = .ok (.istore_n 2, 1) := by decide +kernel
theorem dX9_bound_4 : decode cX9_bound 4 = .ok (.iconst 0, 1) := by decide +kernel
theorem dX9_bound_5 : decode cX9_bound 5 = .ok (.istore_n 3, 1) := by decide +kernel
theorem dX9_bound_6 : decode cX9_bound 6 = .ok (.iconst 0, 1) := by decide +kernel
theorem dX9_bound_7 : decode cX9_bound 7 = .ok (.istore 4, 2) := by decide +kernel
theorem dX9_bound_9 : decode cX9_bound 9 = .ok (.iload 4, 2) := by decide +kernel
theorem dX9_bound_11 : decode cX9_bound 11 = .ok (.aload_n 0, 1) := by decide +kernel
theorem dX9_bound_12 : decode cX9_bound 12 = .ok (.getfield 120, 3) := by decide +kernel
theorem dX9_bound_15 : decode cX9_bound 15 = .ok (.if_icmp .ge 89, 3) := by decide +kernel
theorem dX9_bound_18 : decode cX9_bound 18 = .ok (.aload_n 0, 1) := by decide +kernel
theorem dX9_bound_19 : decode cX9_bound 19 = .ok (.getfield 43, 3) := by decide +kernel
theorem dX9_bound_22 : decode cX9_bound 22 = .ok (.iload 4, 2) := by decide +kernel
theorem dX9_bound_24 : decode cX9_bound 24 = .ok (.iaload, 1) := by decide +kernel
theorem dX9_bound_25 : decode cX9_bound 25 = .ok (.iload_n 2, 1) := by decide +kernel
theorem dX9_bound_26 : decode cX9_bound 26 = .ok (.if_icmp .le 13, 3) := by decide +kernel
theorem dX9_bound_29 : decode cX9_bound 29 = .ok (.aload_n 0, 1) := by decide +kernel
theorem dX9_bound_30 : decode cX9_bound 30 = .ok (.getfield 43, 3) := by decide +kernel
theorem dX9_bound_33 : decode cX9_bound 33 = .ok (.iload 4, 2) := by decide +kernel
theorem dX9_bound_35 : decode cX9_bound 35 = .ok (.iaload, 1) := by decide +kernel
theorem dX9_bound_36 : decode cX9_bound 36 = .ok (.goto 4, 3) := by decide +kernel
theorem dX9_bound_39 : decode cX9_bound 39 = .ok (.iload_n 2, 1) := by decide +kernel
theorem dX9_bound_40 : decode cX9_bound 40 = .ok (.istore_n 2, 1) := by decide +kernel
theorem dX9_bound_41 : decode cX9_bound 41 = .ok (.iconst 0, 1) := by decide +kernel
theorem dX9_bound_42 : decode cX9_bound 42 = .ok (.istore 5, 2) := by decide +kernel
theorem dX9_bound_44 : decode cX9_bound 44 = .ok (.iload 5, 2) := by decide +kernel
theorem dX9_bound_46 : decode cX9_bound 46 = .ok (.aload_n 0, 1) := by decide +kernel
theorem dX9_bound_47 : decode cX9_bound 47 = .ok (.getfield 120, 3) := by decide +kernel
theorem dX9_bound_50 : decode cX9_bound 50 = .ok (.if_icmp .ge 48, 3) := by decide +kernel
theorem dX9_bound_53 : decode cX9_bound 53 = .ok (.aload_n 0, 1) := by decide +kernel
theorem dX9_bound_54 : decode cX9_bound 54 = .ok (.getfield 53, 3) := by decide +kernel
theorem dX9_bound_57 : decode cX9_bound 57 = .ok (.bipush 8, 2) := by decide +kernel
theorem dX9_bound_59 : decode cX9_bound 59 = .ok (.iload 4, 2) := by decide +kernel
theorem dX9_bound_61 : decode cX9_bound 61 = .ok (.imul, 1) := by decide +kernel
theorem dX9_bound_62 : decode cX9_bound 62 = .ok (.iload 5, 2) := by decide +kernel
theorem dX9_bound_64 : decode cX9_bound 64 = .ok (.iadd, 1) := by decide +kernel
theorem dX9_bound_65 : decode cX9_bound 65 = .ok (.iaload, 1) := by decide +kernel
theorem dX9_bound_66 : decode cX9_bound 66 = .ok (.iconst 1, 1) := by decide +kernel
theorem dX9_bound_67 : decode cX9_bound 67 = .ok (.isub, 1) := by decide +kernel
theorem dX9_bound_68 : decode cX9_bound 68 = .ok (.iload_n 3, 1) := by decide +kernel
theorem dX9_bound_69 : decode cX9_bound 69 = .ok (.if_icmp .le 21, 3) := by decide +kernel
theorem dX9_bound_72 : decode cX9_bound 72 = .ok (.aload_n 0, 1) := by decide +kernel
theorem dX9_bound_73 : decode cX9_bound 73 = .ok (.getfield 53, 3) := by decide +kernel
theorem dX9_bound_76 : decode cX9_bound 76 = .ok (.bipush 8, 2) := by decide +kernel
theorem dX9_bound_78 : decode cX9_bound 78 = .ok (.iload 4, 2) := by decide +kernel
theorem dX9_bound_80 : decode cX9_bound 80 = .ok (.imul, 1) := by decide +kernel
theorem dX9_bound_81 : decode cX9_bound 81 = .ok (.iload 5, 2) := by decide +kernel
theorem dX9_bound_83 : decode cX9_bound 83 = .ok (.iadd, 1) := by decide +kernel
theorem dX9_bound_84 : decode cX9_bound 84 = .ok (.iaload, 1) := by decide +kernel
theorem dX9_bound_85 : decode cX9_bound 85 = .ok (.iconst 1, 1) := by decide +kernel
theorem dX9_bound_86 : decode cX9_bound 86 = .ok (.isub, 1) := by decide +kernel
theorem dX9_bound_87 : decode cX9_bound 87 = .ok (.goto 4, 3) := by decide +kernel
theorem dX9_bound_90 : decode cX9_bound 90 = .ok (.iload_n 3, 1) := by decide +kernel
theorem dX9_bound_91 : decode cX9_bound 91 = .ok (.istore_n 3, 1) := by decide +kernel
theorem dX9_bound_92 : decode cX9_bound 92 = .ok (.iinc 5 1, 3) := by decide +kernel
theorem dX9_bound_95 : decode cX9_bound 95 = .ok (.goto (-51), 3) := by decide +kernel
theorem dX9_bound_98 : decode cX9_bound 98 = .ok (.iinc 4 1, 3) := by decide +kernel
theorem dX9_bound_101 : decode cX9_bound 101 = .ok (.goto (-92), 3) := by decide +kernel
theorem dX9_bound_104 : decode cX9_bound 104 = .ok (.iconst 0, 1) := by decide +kernel
theorem dX9_bound_105 : decode cX9_bound 105 = .ok (.istore 4, 2) := by decide +kernel
theorem dX9_bound_107 : decode cX9_bound 107 = .ok (.iload 4, 2) := by decide +kernel
theorem dX9_bound_109 : decode cX9_bound 109 = .ok (.aload_n 0, 1) := by decide +kernel
theorem dX9_bound_110 : decode cX9_bound 110 = .ok (.getfield 127, 3) := by decide +kernel
theorem dX9_bound_113 : decode cX9_bound 113 = .ok (.if_icmp .ge 22, 3) := by decide +kernel
theorem dX9_bound_116 : decode cX9_bound 116 = .ok (.iload_n 1, 1) := by decide +kernel
theorem dX9_bound_117 : decode cX9_bound 117 = .ok (.aload_n 0, 1) := by decide +kernel
theorem dX9_bound_118 : decode cX9_bound 118 = .ok (.iload 4, 2) := by decide +kernel
theorem dX9_bound_120 : decode cX9_bound 120 = .ok (.invokevirtual 233, 3) := by decide +kernel
theorem dX9_bound_123 : decode cX9_bound 123 = .ok (.iload_n 2, 1) := by decide +kernel
theorem dX9_bound_124 : decode cX9_bound 124 = .ok (.iadd, 1) := by decide +kernel
theorem dX9_bound_125 : decode cX9_bound 125 = .ok (.iload_n 3, 1) := by decide +kernel
theorem dX9_bound_126 : decode cX9_bound 126 = .ok (.iadd, 1) := by decide +kernel
theorem dX9_bound_127 : decode cX9_bound 127 = .ok (.iadd, 1) := by decide +kernel
theorem dX9_bound_128 : decode cX9_bound 128 = .ok (.istore_n 1, 1) := by decide +kernel
theorem dX9_bound_129 : decode cX9_bound 129 = .ok (.iinc 4 1, 3) := by decide +kernel
theorem dX9_bound_132 : decode cX9_bound 132 = .ok (.goto (-25), 3) := by decide +kernel
theorem dX9_bound_135 : decode cX9_bound 135 = .ok (.iload_n 1, 1) := by decide +kernel
theorem dX9_bound_136 : decode cX9_bound 136 = .ok (.ireturn, 1) := by decide +kernel
theorem dX9_count_0 : decode cX9_count 0 = .ok (.iload_n 1, 1) := by decide +kernel
theorem dX9_count_1 : decode cX9_count 1 = .ok (.tableswitch 110 0 11 #[63, 68, 68, 68, 68, 75, 80, 85, 90, 95, 100, 105], 63) := by decide +kernel
theorem dX9_count_64 : decode cX9_count 64 = .ok (.aload_n 0, 1) := by decide +kernel
theorem dX9_count_65 : decode cX9_count 65 = .ok (.getfield 133, 3) := by decide +kernel
theorem dX9_count_68 : decode cX9_count 68 = .ok (.ireturn, 1) := by decide +kernel
theorem dX9_count_69 : decode cX9_count 69 = .ok (.aload_n 0, 1) := by decide +kernel
theorem dX9_count_70 : decode cX9_count 70 = .ok (.getfield 108, 3) := by decide +kernel
theorem dX9_count_73 : decode cX9_count 73 = .ok (.iload_n 1, 1) := by decide +kernel
theorem dX9_count_74 : decode cX9_count 74 = .ok (.iaload, 1) := by decide +kernel
theorem dX9_count_75 : decode cX9_count 75 = .ok (.ireturn, 1) := by decide +kernel
theorem dX9_count_76 : decode cX9_count 76 = .ok (.aload_n 0, 1) := by decide +kernel
theorem dX9_count_77 : decode cX9_count 77 = .ok (.getfield 204, 3) := by decide +kernel
theorem dX9_count_80 : decode cX9_count 80 = .ok (.ireturn, 1) := by decide +kernel
theorem dX9_count_81 : decode cX9_count 81 = .ok (.aload_n 0, 1) := by decide +kernel
theorem dX9_count_82 : decode cX9_count 82 = .ok (.getfield 120, 3) := by decide +kernel
theorem dX9_count_85 : decode cX9_count 85 = .ok (.ireturn, 1) := by decide +kernel
theorem dX9_count_86 : decode cX9_count 86 = .ok (.aload_n 0, 1) := by decide +kernel
theorem dX9_count_87 : decode cX9_count 87 = .ok (.getfield 127, 3) := by decide +kernel
theorem dX9_count_90 : decode cX9_count 90 = .ok (.ireturn, 1) := by decide +kernel
theorem dX9_count_91 : decode cX9_count 91 = .ok (.aload_n 0, 1) := by decide +kernel
theorem dX9_count_92 : decode cX9_count 92 = .ok (.getfield 130, 3) := by decide +kernel
theorem dX9_count_95 : decode cX9_count 95 = .ok (.ireturn, 1) := by decide +kernel
theorem dX9_count_96 : decode cX9_count 96 = .ok (.aload_n 0, 1) := by decide +kernel
theorem dX9_count_97 : decode cX9_count 97 = .ok (.getfield 150, 3) := by decide +kernel
theorem dX9_count_100 : decode cX9_count 100 = .ok (.ireturn, 1) := by decide +kernel
theorem dX9_count_101 : decode cX9_count 101 = .ok (.aload_n 0, 1) := by decide +kernel
theorem dX9_count_102 : decode cX9_count 102 = .ok (.getfield 153, 3) := by decide +kernel
theorem dX9_count_105 : decode cX9_count 105 = .ok (.ireturn, 1) := by decide +kernel
theorem dX9_count_106 : decode cX9_count 106 = .ok (.aload_n 0, 1) := by decide +kernel
theorem dX9_count_107 : decode cX9_count 107 = .ok (.getfield 186, 3) := by decide +kernel
theorem dX9_count_110 : decode cX9_count 110 = .ok (.ireturn, 1) := by decide +kernel
theorem dX9_count_111 : decode cX9_count 111 = .ok (.iconst (-1), 1) := by decide +kernel
theorem dX9_count_112 : decode cX9_count 112 = .ok (.ireturn, 1) := by decide +kernel
theorem dX9_finding_0 : decode cX9_finding 0 = .ok (.iload_n 1, 1) := by decide +kernel
theorem dX9_finding_1 : decode cX9_finding 1 = .ok (.ifCond .ne 10, 3) := by decide +kernel
theorem dX9_finding_4 : decode cX9_finding 4 = .ok (.aload_n 0, 1) := by decide +kernel
theorem dX9_finding_5 : decode cX9_finding 5 = .ok (.getfield 166, 3) := by decide +kernel
theorem dX9_finding_8 : decode cX9_finding 8 = .ok (.goto 16, 3) := by decide +kernel
theorem dX9_finding_11 : decode cX9_finding 11 = .ok (.iload_n 1, 1) := by decide +kernel
theorem dX9_finding_12 : decode cX9_finding 12 = .ok (.iconst 1, 1) := by decide +kernel
theorem dX9_finding_13 : decode cX9_finding 13 = .ok (.if_icmp .ne 10, 3) := by decide +kernel
theorem dX9_finding_16 : decode cX9_finding 16 = .ok (.aload_n 0, 1) := by decide +kernel
theorem dX9_finding_17 : decode cX9_finding 17 = .ok (.getfield 111, 3) := by decide +kernel
theorem dX9_finding_20 : decode cX9_finding 20 = .ok (.goto 4, 3) := by decide +kernel
theorem dX9_finding_23 : decode cX9_finding 23 = .ok (.iconst (-1), 1) := by decide +kernel
theorem dX9_finding_24 : decode cX9_finding 24 = .ok (.ireturn, 1) := by decide +kernel
theorem dX9_fault_0 : decode cX9_fault 0 = .ok (.iload_n 1, 1) := by decide +kernel
theorem dX9_fault_1 : decode cX9_fault 1 = .ok (.tableswitch 51 0 3 #[31, 36, 41, 46], 31) := by decide +kernel
theorem dX9_fault_32 : decode cX9_fault 32 = .ok (.aload_n 0, 1) := by decide +kernel
theorem dX9_fault_33 : decode cX9_fault 33 = .ok (.getfield 207, 3) := by decide +kernel
theorem dX9_fault_36 : decode cX9_fault 36 = .ok (.ireturn, 1) := by decide +kernel
theorem dX9_fault_37 : decode cX9_fault 37 = .ok (.aload_n 0, 1) := by decide +kernel
theorem dX9_fault_38 : decode cX9_fault 38 = .ok (.getfield 105, 3) := by decide +kernel
theorem dX9_fault_41 : decode cX9_fault 41 = .ok (.ireturn, 1) := by decide +kernel
theorem dX9_fault_42 : decode cX9_fault 42 = .ok (.aload_n 0, 1) := by decide +kernel
theorem dX9_fault_43 : decode cX9_fault 43 = .ok (.getfield 210, 3) := by decide +kernel
theorem dX9_fault_46 : decode cX9_fault 46 = .ok (.ireturn, 1) := by decide +kernel
theorem dX9_fault_47 : decode cX9_fault 47 = .ok (.aload_n 0, 1) := by decide +kernel
theorem dX9_fault_48 : decode cX9_fault 48 = .ok (.getfield 159, 3) := by decide +kernel
theorem dX9_fault_51 : decode cX9_fault 51 = .ok (.ireturn, 1) := by decide +kernel
theorem dX9_fault_52 : decode cX9_fault 52 = .ok (.iconst (-1), 1) := by decide +kernel
theorem dX9_fault_53 : decode cX9_fault 53 = .ok (.ireturn, 1) := by decide +kernel
theorem dX9_trace_0 : decode cX9_trace 0 = .ok (.aload_n 0, 1) := by decide +kernel
theorem dX9_trace_1 : decode cX9_trace 1 = .ok (.getfield 173, 3) := by decide +kernel
theorem dX9_trace_4 : decode cX9_trace 4 = .ok (.ireturn, 1) := by decide +kernel
