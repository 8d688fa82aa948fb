theorem d_La_law_0 : decode m_La_law.2.1 0 = .ok (.new 7, 3) := by decide +kernel
theorem d_La_law_3 : decode m_La_law.2.1 3 = .ok (.dup, 1) := by decide +kernel
theorem d_La_law_4 : decode m_La_law.2.1 4 = .ok (.invokespecial 9, 3) := by decide +kernel
theorem d_La_law_7 : decode m_La_law.2.1 7 = .ok (.astore_n 1, 1) := by decide +kernel
theorem d_La_law_8 : decode m_La_law.2.1 8 = .ok (.new 10, 3) := by decide +kernel
theorem d_La_law_11 : decode m_La_law.2.1 11 = .ok (.dup, 1) := by decide +kernel
theorem d_La_law_12 : decode m_La_law.2.1 12 = .ok (.invokespecial 12, 3) := by decide +kernel
theorem d_La_law_15 : decode m_La_law.2.1 15 = .ok (.astore_n 2, 1) := by decide +kernel
theorem d_La_law_16 : decode m_La_law.2.1 16 = .ok (.iconst 0, 1) := by decide +kernel
theorem d_La_law_17 : decode m_La_law.2.1 17 = .ok (.istore_n 3, 1) := by decide +kernel
theorem d_La_law_18 : decode m_La_law.2.1 18 = .ok (.iload_n 3, 1) := by decide +kernel
theorem d_La_law_19 : decode m_La_law.2.1 19 = .ok (.aload_n 0, 1) := by decide +kernel
theorem d_La_law_20 : decode m_La_law.2.1 20 = .ok (.arraylength, 1) := by decide +kernel
theorem d_La_law_21 : decode m_La_law.2.1 21 = .ok (.iconst 4, 1) := by decide +kernel
theorem d_La_law_22 : decode m_La_law.2.1 22 = .ok (.isub, 1) := by decide +kernel
theorem d_La_law_23 : decode m_La_law.2.1 23 = .ok (.if_icmp .gt 453, 3) := by decide +kernel
theorem d_La_law_26 : decode m_La_law.2.1 26 = .ok (.aload_n 0, 1) := by decide +kernel
theorem d_La_law_27 : decode m_La_law.2.1 27 = .ok (.iload_n 3, 1) := by decide +kernel
theorem d_La_law_28 : decode m_La_law.2.1 28 = .ok (.iaload, 1) := by decide +kernel
theorem d_La_law_29 : decode m_La_law.2.1 29 = .ok (.bipush 15, 2) := by decide +kernel
theorem d_La_law_31 : decode m_La_law.2.1 31 = .ok (.iand, 1) := by decide +kernel
theorem d_La_law_32 : decode m_La_law.2.1 32 = .ok (.tableswitch 438 0 13 #[72, 107, 130, 143, 156, 189, 264, 287, 320, 333, 356, 379, 392, 415], 72) := by decide +kernel
theorem d_La_law_104 : decode m_La_law.2.1 104 = .ok (.aload_n 1, 1) := by decide +kernel
theorem d_La_law_105 : decode m_La_law.2.1 105 = .ok (.aload_n 0, 1) := by decide +kernel
theorem d_La_law_106 : decode m_La_law.2.1 106 = .ok (.iload_n 3, 1) := by decide +kernel
theorem d_La_law_107 : decode m_La_law.2.1 107 = .ok (.iconst 1, 1) := by decide +kernel
theorem d_La_law_108 : decode m_La_law.2.1 108 = .ok (.iadd, 1) := by decide +kernel
theorem d_La_law_109 : decode m_La_law.2.1 109 = .ok (.iaload, 1) := by decide +kernel
theorem d_La_law_110 : decode m_La_law.2.1 110 = .ok (.aload_n 0, 1) := by decide +kernel
theorem d_La_law_111 : decode m_La_law.2.1 111 = .ok (.iload_n 3, 1) := by decide +kernel
theorem d_La_law_112 : decode m_La_law.2.1 112 = .ok (.iconst 2, 1) := by decide +kernel
theorem d_La_law_113 : decode m_La_law.2.1 113 = .ok (.iadd, 1) := by decide +kernel
theorem d_La_law_114 : decode m_La_law.2.1 114 = .ok (.iaload, 1) := by decide +kernel
theorem d_La_law_115 : decode m_La_law.2.1 115 = .ok (.i2c, 1) := by decide +kernel
theorem d_La_law_116 : decode m_La_law.2.1 116 = .ok (.invokevirtual 13, 3) := by decide +kernel
theorem d_La_law_119 : decode m_La_law.2.1 119 = .ok (.aload_n 2, 1) := by decide +kernel
theorem d_La_law_120 : decode m_La_law.2.1 120 = .ok (.aload_n 0, 1) := by decide +kernel
theorem d_La_law_121 : decode m_La_law.2.1 121 = .ok (.iload_n 3, 1) := by decide +kernel
theorem d_La_law_122 : decode m_La_law.2.1 122 = .ok (.iconst 1, 1) := by decide +kernel
theorem d_La_law_123 : decode m_La_law.2.1 123 = .ok (.iadd, 1) := by decide +kernel
theorem d_La_law_124 : decode m_La_law.2.1 124 = .ok (.iaload, 1) := by decide +kernel
theorem d_La_law_125 : decode m_La_law.2.1 125 = .ok (.aload_n 0, 1) := by decide +kernel
theorem d_La_law_126 : decode m_La_law.2.1 126 = .ok (.iload_n 3, 1) := by decide +kernel
theorem d_La_law_127 : decode m_La_law.2.1 127 = .ok (.iconst 2, 1) := by decide +kernel
theorem d_La_law_128 : decode m_La_law.2.1 128 = .ok (.iadd, 1) := by decide +kernel
theorem d_La_law_129 : decode m_La_law.2.1 129 = .ok (.iaload, 1) := by decide +kernel
theorem d_La_law_130 : decode m_La_law.2.1 130 = .ok (.i2c, 1) := by decide +kernel
theorem d_La_law_131 : decode m_La_law.2.1 131 = .ok (.invokevirtual 17, 3) := by decide +kernel
theorem d_La_law_134 : decode m_La_law.2.1 134 = .ok (.if_icmp .eq 336, 3) := by decide +kernel
theorem d_La_law_137 : decode m_La_law.2.1 137 = .ok (.iconst 0, 1) := by decide +kernel
theorem d_La_law_138 : decode m_La_law.2.1 138 = .ok (.ireturn, 1) := by decide +kernel
theorem d_La_law_139 : decode m_La_law.2.1 139 = .ok (.aload_n 1, 1) := by decide +kernel
theorem d_La_law_140 : decode m_La_law.2.1 140 = .ok (.aload_n 0, 1) := by decide +kernel
theorem d_La_law_141 : decode m_La_law.2.1 141 = .ok (.iload_n 3, 1) := by decide +kernel
theorem d_La_law_142 : decode m_La_law.2.1 142 = .ok (.iconst 1, 1) := by decide +kernel
theorem d_La_law_143 : decode m_La_law.2.1 143 = .ok (.iadd, 1) := by decide +kernel
theorem d_La_law_144 : decode m_La_law.2.1 144 = .ok (.iaload, 1) := by decide +kernel
theorem d_La_law_145 : decode m_La_law.2.1 145 = .ok (.invokevirtual 18, 3) := by decide +kernel
theorem d_La_law_148 : decode m_La_law.2.1 148 = .ok (.aload_n 2, 1) := by decide +kernel
theorem d_La_law_149 : decode m_La_law.2.1 149 = .ok (.aload_n 0, 1) := by decide +kernel
theorem d_La_law_150 : decode m_La_law.2.1 150 = .ok (.iload_n 3, 1) := by decide +kernel
theorem d_La_law_151 : decode m_La_law.2.1 151 = .ok (.iconst 1, 1) := by decide +kernel
theorem d_La_law_152 : decode m_La_law.2.1 152 = .ok (.iadd, 1) := by decide +kernel
theorem d_La_law_153 : decode m_La_law.2.1 153 = .ok (.iaload, 1) := by decide +kernel
theorem d_La_law_154 : decode m_La_law.2.1 154 = .ok (.invokevirtual 22, 3) := by decide +kernel
theorem d_La_law_157 : decode m_La_law.2.1 157 = .ok (.if_icmp .eq 313, 3) := by decide +kernel
theorem d_La_law_160 : decode m_La_law.2.1 160 = .ok (.iconst 0, 1) := by decide +kernel
theorem d_La_law_161 : decode m_La_law.2.1 161 = .ok (.ireturn, 1) := by decide +kernel
theorem d_La_law_162 : decode m_La_law.2.1 162 = .ok (.aload_n 1, 1) := by decide +kernel
theorem d_La_law_163 : decode m_La_law.2.1 163 = .ok (.invokevirtual 23, 3) := by decide +kernel
theorem d_La_law_166 : decode m_La_law.2.1 166 = .ok (.aload_n 2, 1) := by decide +kernel
theorem d_La_law_167 : decode m_La_law.2.1 167 = .ok (.invokevirtual 27, 3) := by decide +kernel
theorem d_La_law_170 : decode m_La_law.2.1 170 = .ok (.if_icmp .eq 300, 3) := by decide +kernel
theorem d_La_law_173 : decode m_La_law.2.1 173 = .ok (.iconst 0, 1) := by decide +kernel
theorem d_La_law_174 : decode m_La_law.2.1 174 = .ok (.ireturn, 1) := by decide +kernel
theorem d_La_law_175 : decode m_La_law.2.1 175 = .ok (.aload_n 1, 1) := by decide +kernel
theorem d_La_law_176 : decode m_La_law.2.1 176 = .ok (.invokevirtual 28, 3) := by decide +kernel
theorem d_La_law_179 : decode m_La_law.2.1 179 = .ok (.aload_n 2, 1) := by decide +kernel
theorem d_La_law_180 : decode m_La_law.2.1 180 = .ok (.invokevirtual 31, 3) := by decide +kernel
theorem d_La_law_183 : decode m_La_law.2.1 183 = .ok (.if_icmp .eq 287, 3) := by decide +kernel
theorem d_La_law_186 : decode m_La_law.2.1 186 = .ok (.iconst 0, 1) := by decide +kernel
theorem d_La_law_187 : decode m_La_law.2.1 187 = .ok (.ireturn, 1) := by decide +kernel
theorem d_La_law_188 : decode m_La_law.2.1 188 = .ok (.aload_n 1, 1) := by decide +kernel
theorem d_La_law_189 : decode m_La_law.2.1 189 = .ok (.aload_n 0, 1) := by decide +kernel
theorem d_La_law_190 : decode m_La_law.2.1 190 = .ok (.iload_n 3, 1) := by decide +kernel
theorem d_La_law_191 : decode m_La_law.2.1 191 = .ok (.iconst 1, 1) := by decide +kernel
theorem d_La_law_192 : decode m_La_law.2.1 192 = .ok (.iadd, 1) := by decide +kernel
theorem d_La_law_193 : decode m_La_law.2.1 193 = .ok (.iaload, 1) := by decide +kernel
theorem d_La_law_194 : decode m_La_law.2.1 194 = .ok (.aload_n 0, 1) := by decide +kernel
theorem d_La_law_195 : decode m_La_law.2.1 195 = .ok (.iload_n 3, 1) := by decide +kernel
theorem d_La_law_196 : decode m_La_law.2.1 196 = .ok (.iconst 2, 1) := by decide +kernel
theorem d_La_law_197 : decode m_La_law.2.1 197 = .ok (.iadd, 1) := by decide +kernel
theorem d_La_law_198 : decode m_La_law.2.1 198 = .ok (.iaload, 1) := by decide +kernel
theorem d_La_law_199 : decode m_La_law.2.1 199 = .ok (.invokevirtual 32, 3) := by decide +kernel
theorem d_La_law_202 : decode m_La_law.2.1 202 = .ok (.aload_n 2, 1) := by decide +kernel
theorem d_La_law_203 : decode m_La_law.2.1 203 = .ok (.aload_n 0, 1) := by decide +kernel
theorem d_La_law_204 : decode m_La_law.2.1 204 = .ok (.iload_n 3, 1) := by decide +kernel
theorem d_La_law_205 : decode m_La_law.2.1 205 = .ok (.iconst 1, 1) := by decide +kernel
theorem d_La_law_206 : decode m_La_law.2.1 206 = .ok (.iadd, 1) := by decide +kernel
theorem d_La_law_207 : decode m_La_law.2.1 207 = .ok (.iaload, 1) := by decide +kernel
theorem d_La_law_208 : decode m_La_law.2.1 208 = .ok (.aload_n 0, 1) := by decide +kernel
theorem d_La_law_209 : decode m_La_law.2.1 209 = .ok (.iload_n 3, 1) := by decide +kernel
theorem d_La_law_210 : decode m_La_law.2.1 210 = .ok (.iconst 2, 1) := by decide +kernel
theorem d_La_law_211 : decode m_La_law.2.1 211 = .ok (.iadd, 1) := by decide +kernel
theorem d_La_law_212 : decode m_La_law.2.1 212 = .ok (.iaload, 1) := by decide +kernel
theorem d_La_law_213 : decode m_La_law.2.1 213 = .ok (.invokevirtual 36, 3) := by decide +kernel
theorem d_La_law_216 : decode m_La_law.2.1 216 = .ok (.if_icmp .eq 254, 3) := by decide +kernel
theorem d_La_law_219 : decode m_La_law.2.1 219 = .ok (.iconst 0, 1) := by decide +kernel
theorem d_La_law_220 : decode m_La_law.2.1 220 = .ok (.ireturn, 1) := by decide +kernel
theorem d_La_law_221 : decode m_La_law.2.1 221 = .ok (.aload_n 1, 1) := by decide +kernel
theorem d_La_law_222 : decode m_La_law.2.1 222 = .ok (.aload_n 0, 1) := by decide +kernel
theorem d_La_law_223 : decode m_La_law.2.1 223 = .ok (.iload_n 3, 1) := by decide +kernel
theorem d_La_law_224 : decode m_La_law.2.1 224 = .ok (.iconst 1, 1) := by decide +kernel
theorem d_La_law_225 : decode m_La_law.2.1 225 = .ok (.iadd, 1) := by decide +kernel
theorem d_La_law_226 : decode m_La_law.2.1 226 = .ok (.iaload, 1) := by decide +kernel
theorem d_La_law_227 : decode m_La_law.2.1 227 = .ok (.aload_n 0, 1) := by decide +kernel
theorem d_La_law_228 : decode m_La_law.2.1 228 = .ok (.iload_n 3, 1) := by decide +kernel
theorem d_La_law_229 : decode m_La_law.2.1 229 = .ok (.iconst 2, 1) := by decide +kernel
theorem d_La_law_230 : decode m_La_law.2.1 230 = .ok (.iadd, 1) := by decide +kernel
theorem d_La_law_231 : decode m_La_law.2.1 231 = .ok (.iaload, 1) := by decide +kernel
theorem d_La_law_232 : decode m_La_law.2.1 232 = .ok (.ifCond .eq 7, 3) := by decide +kernel
theorem d_La_law_235 : decode m_La_law.2.1 235 = .ok (.iconst 1, 1) := by decide +kernel
theorem d_La_law_236 : decode m_La_law.2.1 236 = .ok (.goto 4, 3) := by decide +kernel
theorem d_La_law_239 : decode m_La_law.2.1 239 = .ok (.iconst 0, 1) := by decide +kernel
theorem d_La_law_240 : decode m_La_law.2.1 240 = .ok (.aload_n 0, 1) := by decide +kernel
theorem d_La_law_241 : decode m_La_law.2.1 241 = .ok (.iload_n 3, 1) := by decide +kernel
theorem d_La_law_242 : decode m_La_law.2.1 242 = .ok (.iconst 3, 1) := by decide +kernel
theorem d_La_law_243 : decode m_La_law.2.1 243 = .ok (.iadd, 1) := by decide +kernel
theorem d_La_law_244 : decode m_La_law.2.1 244 = .ok (.iaload, 1) := by decide +kernel
theorem d_La_law_245 : decode m_La_law.2.1 245 = .ok (.ifCond .eq 7, 3) := by decide +kernel
theorem d_La_law_248 : decode m_La_law.2.1 248 = .ok (.iconst 1, 1) := by decide +kernel
theorem d_La_law_249 : decode m_La_law.2.1 249 = .ok (.goto 4, 3) := by decide +kernel
theorem d_La_law_252 : decode m_La_law.2.1 252 = .ok (.iconst 0, 1) := by decide +kernel
theorem d_La_law_253 : decode m_La_law.2.1 253 = .ok (.invokevirtual 37, 3) := by decide +kernel
theorem d_La_law_256 : decode m_La_law.2.1 256 = .ok (.aload_n 2, 1) := by decide +kernel
theorem d_La_law_257 : decode m_La_law.2.1 257 = .ok (.aload_n 0, 1) := by decide +kernel
theorem d_La_law_258 : decode m_La_law.2.1 258 = .ok (.iload_n 3, 1) := by decide +kernel
theorem d_La_law_259 : decode m_La_law.2.1 259 = .ok (.iconst 1, 1) := by decide +kernel
theorem d_La_law_260 : decode m_La_law.2.1 260 = .ok (.iadd, 1) := by decide +kernel
theorem d_La_law_261 : decode m_La_law.2.1 261 = .ok (.iaload, 1) := by decide +kernel
theorem d_La_law_262 : decode m_La_law.2.1 262 = .ok (.aload_n 0, 1) := by decide +kernel
theorem d_La_law_263 : decode m_La_law.2.1 263 = .ok (.iload_n 3, 1) := by decide +kernel
theorem d_La_law_264 : decode m_La_law.2.1 264 = .ok (.iconst 2, 1) := by decide +kernel
theorem d_La_law_265 : decode m_La_law.2.1 265 = .ok (.iadd, 1) := by decide +kernel
theorem d_La_law_266 : decode m_La_law.2.1 266 = .ok (.iaload, 1) := by decide +kernel
theorem d_La_law_267 : decode m_La_law.2.1 267 = .ok (.ifCond .eq 7, 3) := by decide +kernel
theorem d_La_law_270 : decode m_La_law.2.1 270 = .ok (.iconst 1, 1) := by decide +kernel
theorem d_La_law_271 : decode m_La_law.2.1 271 = .ok (.goto 4, 3) := by decide +kernel
theorem d_La_law_274 : decode m_La_law.2.1 274 = .ok (.iconst 0, 1) := by decide +kernel
theorem d_La_law_275 : decode m_La_law.2.1 275 = .ok (.aload_n 0, 1) := by decide +kernel
theorem d_La_law_276 : decode m_La_law.2.1 276 = .ok (.iload_n 3, 1) := by decide +kernel
theorem d_La_law_277 : decode m_La_law.2.1 277 = .ok (.iconst 3, 1) := by decide +kernel
theorem d_La_law_278 : decode m_La_law.2.1 278 = .ok (.iadd, 1) := by decide +kernel
theorem d_La_law_279 : decode m_La_law.2.1 279 = .ok (.iaload, 1) := by decide +kernel
theorem d_La_law_280 : decode m_La_law.2.1 280 = .ok (.ifCond .eq 7, 3) := by decide +kernel
theorem d_La_law_283 : decode m_La_law.2.1 283 = .ok (.iconst 1, 1) := by decide +kernel
theorem d_La_law_284 : decode m_La_law.2.1 284 = .ok (.goto 4, 3) := by decide +kernel
theorem d_La_law_287 : decode m_La_law.2.1 287 = .ok (.iconst 0, 1) := by decide +kernel
theorem d_La_law_288 : decode m_La_law.2.1 288 = .ok (.invokevirtual 41, 3) := by decide +kernel
theorem d_La_law_291 : decode m_La_law.2.1 291 = .ok (.if_icmp .eq 179, 3) := by decide +kernel
theorem d_La_law_294 : decode m_La_law.2.1 294 = .ok (.iconst 0, 1) := by decide +kernel
theorem d_La_law_295 : decode m_La_law.2.1 295 = .ok (.ireturn, 1) := by decide +kernel
theorem d_La_law_296 : decode m_La_law.2.1 296 = .ok (.aload_n 1, 1) := by decide +kernel
theorem d_La_law_297 : decode m_La_law.2.1 297 = .ok (.aload_n 0, 1) := by decide +kernel
theorem d_La_law_298 : decode m_La_law.2.1 298 = .ok (.iload_n 3, 1) := by decide +kernel
theorem d_La_law_299 : decode m_La_law.2.1 299 = .ok (.iconst 1, 1) := by decide +kernel
theorem d_La_law_300 : decode m_La_law.2.1 300 = .ok (.iadd, 1) := by decide +kernel
theorem d_La_law_301 : decode m_La_law.2.1 301 = .ok (.iaload, 1) := by decide +kernel
theorem d_La_law_302 : decode m_La_law.2.1 302 = .ok (.invokevirtual 42, 3) := by decide +kernel
theorem d_La_law_305 : decode m_La_law.2.1 305 = .ok (.aload_n 2, 1) := by decide +kernel
theorem d_La_law_306 : decode m_La_law.2.1 306 = .ok (.aload_n 0, 1) := by decide +kernel
theorem d_La_law_307 : decode m_La_law.2.1 307 = .ok (.iload_n 3, 1) := by decide +kernel
theorem d_La_law_308 : decode m_La_law.2.1 308 = .ok (.iconst 1, 1) := by decide +kernel
theorem d_La_law_309 : decode m_La_law.2.1 309 = .ok (.iadd, 1) := by decide +kernel
theorem d_La_law_310 : decode m_La_law.2.1 310 = .ok (.iaload, 1) := by decide +kernel
theorem d_La_law_311 : decode m_La_law.2.1 311 = .ok (.invokevirtual 45, 3) := by decide +kernel
theorem d_La_law_314 : decode m_La_law.2.1 314 = .ok (.if_icmp .eq 156, 3) := by decide +kernel
theorem d_La_law_317 : decode m_La_law.2.1 317 = .ok (.iconst 0, 1) := by decide +kernel
theorem d_La_law_318 : decode m_La_law.2.1 318 = .ok (.ireturn, 1) := by decide +kernel
theorem d_La_law_319 : decode m_La_law.2.1 319 = .ok (.aload_n 1, 1) := by decide +kernel
theorem d_La_law_320 : decode m_La_law.2.1 320 = .ok (.aload_n 0, 1) := by decide +kernel
theorem d_La_law_321 : decode m_La_law.2.1 321 = .ok (.iload_n 3, 1) := by decide +kernel
theorem d_La_law_322 : decode m_La_law.2.1 322 = .ok (.iconst 1, 1) := by decide +kernel
theorem d_La_law_323 : decode m_La_law.2.1 323 = .ok (.iadd, 1) := by decide +kernel
theorem d_La_law_324 : decode m_La_law.2.1 324 = .ok (.iaload, 1) := by decide +kernel
theorem d_La_law_325 : decode m_La_law.2.1 325 = .ok (.aload_n 0, 1) := by decide +kernel
theorem d_La_law_326 : decode m_La_law.2.1 326 = .ok (.iload_n 3, 1) := by decide +kernel
theorem d_La_law_327 : decode m_La_law.2.1 327 = .ok (.iconst 2, 1) := by decide +kernel
theorem d_La_law_328 : decode m_La_law.2.1 328 = .ok (.iadd, 1) := by decide +kernel
theorem d_La_law_329 : decode m_La_law.2.1 329 = .ok (.iaload, 1) := by decide +kernel
theorem d_La_law_330 : decode m_La_law.2.1 330 = .ok (.invokevirtual 46, 3) := by decide +kernel
theorem d_La_law_333 : decode m_La_law.2.1 333 = .ok (.aload_n 2, 1) := by decide +kernel
theorem d_La_law_334 : decode m_La_law.2.1 334 = .ok (.aload_n 0, 1) := by decide +kernel
theorem d_La_law_335 : decode m_La_law.2.1 335 = .ok (.iload_n 3, 1) := by decide +kernel
theorem d_La_law_336 : decode m_La_law.2.1 336 = .ok (.iconst 1, 1) := by decide +kernel
theorem d_La_law_337 : decode m_La_law.2.1 337 = .ok (.iadd, 1) := by decide +kernel
theorem d_La_law_338 : decode m_La_law.2.1 338 = .ok (.iaload, 1) := by decide +kernel
theorem d_La_law_339 : decode m_La_law.2.1 339 = .ok (.aload_n 0, 1) := by decide +kernel
theorem d_La_law_340 : decode m_La_law.2.1 340 = .ok (.iload_n 3, 1) := by decide +kernel
theorem d_La_law_341 : decode m_La_law.2.1 341 = .ok (.iconst 2, 1) := by decide +kernel
theorem d_La_law_342 : decode m_La_law.2.1 342 = .ok (.iadd, 1) := by decide +kernel
theorem d_La_law_343 : decode m_La_law.2.1 343 = .ok (.iaload, 1) := by decide +kernel
theorem d_La_law_344 : decode m_La_law.2.1 344 = .ok (.invokevirtual 49, 3) := by decide +kernel
theorem d_La_law_347 : decode m_La_law.2.1 347 = .ok (.if_icmp .eq 123, 3) := by decide +kernel
theorem d_La_law_350 : decode m_La_law.2.1 350 = .ok (.iconst 0, 1) := by decide +kernel
theorem d_La_law_351 : decode m_La_law.2.1 351 = .ok (.ireturn, 1) := by decide +kernel
theorem d_La_law_352 : decode m_La_law.2.1 352 = .ok (.aload_n 1, 1) := by decide +kernel
theorem d_La_law_353 : decode m_La_law.2.1 353 = .ok (.invokevirtual 50, 3) := by decide +kernel
theorem d_La_law_356 : decode m_La_law.2.1 356 = .ok (.aload_n 2, 1) := by decide +kernel
theorem d_La_law_357 : decode m_La_law.2.1 357 = .ok (.invokevirtual 53, 3) := by decide +kernel
theorem d_La_law_360 : decode m_La_law.2.1 360 = .ok (.if_icmp .eq 110, 3) := by decide +kernel
theorem d_La_law_363 : decode m_La_law.2.1 363 = .ok (.iconst 0, 1) := by decide +kernel
theorem d_La_law_364 : decode m_La_law.2.1 364 = .ok (.ireturn, 1) := by decide +kernel
theorem d_La_law_365 : decode m_La_law.2.1 365 = .ok (.aload_n 1, 1) := by decide +kernel
theorem d_La_law_366 : decode m_La_law.2.1 366 = .ok (.aload_n 0, 1) := by decide +kernel
theorem d_La_law_367 : decode m_La_law.2.1 367 = .ok (.iload_n 3, 1) := by decide +kernel
theorem d_La_law_368 : decode m_La_law.2.1 368 = .ok (.iconst 1, 1) := by decide +kernel
theorem d_La_law_369 : decode m_La_law.2.1 369 = .ok (.iadd, 1) := by decide +kernel
theorem d_La_law_370 : decode m_La_law.2.1 370 = .ok (.iaload, 1) := by decide +kernel
theorem d_La_law_371 : decode m_La_law.2.1 371 = .ok (.invokevirtual 54, 3) := by decide +kernel
theorem d_La_law_374 : decode m_La_law.2.1 374 = .ok (.aload_n 2, 1) := by decide +kernel
theorem d_La_law_375 : decode m_La_law.2.1 375 = .ok (.aload_n 0, 1) := by decide +kernel
theorem d_La_law_376 : decode m_La_law.2.1 376 = .ok (.iload_n 3, 1) := by decide +kernel
theorem d_La_law_377 : decode m_La_law.2.1 377 = .ok (.iconst 1, 1) := by decide +kernel
theorem d_La_law_378 : decode m_La_law.2.1 378 = .ok (.iadd, 1) := by decide +kernel
theorem d_La_law_379 : decode m_La_law.2.1 379 = .ok (.iaload, 1) := by decide +kernel
theorem d_La_law_380 : decode m_La_law.2.1 380 = .ok (.invokevirtual 57, 3) := by decide +kernel
theorem d_La_law_383 : decode m_La_law.2.1 383 = .ok (.if_icmp .eq 87, 3) := by decide +kernel
theorem d_La_law_386 : decode m_La_law.2.1 386 = .ok (.iconst 0, 1) := by decide +kernel
theorem d_La_law_387 : decode m_La_law.2.1 387 = .ok (.ireturn, 1) := by decide +kernel
theorem d_La_law_388 : decode m_La_law.2.1 388 = .ok (.aload_n 1, 1) := by decide +kernel
theorem d_La_law_389 : decode m_La_law.2.1 389 = .ok (.aload_n 0, 1) := by decide +kernel
theorem d_La_law_390 : decode m_La_law.2.1 390 = .ok (.iload_n 3, 1) := by decide +kernel
theorem d_La_law_391 : decode m_La_law.2.1 391 = .ok (.iconst 1, 1) := by decide +kernel
theorem d_La_law_392 : decode m_La_law.2.1 392 = .ok (.iadd, 1) := by decide +kernel
theorem d_La_law_393 : decode m_La_law.2.1 393 = .ok (.iaload, 1) := by decide +kernel
theorem d_La_law_394 : decode m_La_law.2.1 394 = .ok (.invokevirtual 58, 3) := by decide +kernel
theorem d_La_law_397 : decode m_La_law.2.1 397 = .ok (.aload_n 2, 1) := by decide +kernel
theorem d_La_law_398 : decode m_La_law.2.1 398 = .ok (.aload_n 0, 1) := by decide +kernel
theorem d_La_law_399 : decode m_La_law.2.1 399 = .ok (.iload_n 3, 1) := by decide +kernel
theorem d_La_law_400 : decode m_La_law.2.1 400 = .ok (.iconst 1, 1) := by decide +kernel
theorem d_La_law_401 : decode m_La_law.2.1 401 = .ok (.iadd, 1) := by decide +kernel
theorem d_La_law_402 : decode m_La_law.2.1 402 = .ok (.iaload, 1) := by decide +kernel
theorem d_La_law_403 : decode m_La_law.2.1 403 = .ok (.invokevirtual 62, 3) := by decide +kernel
theorem d_La_law_406 : decode m_La_law.2.1 406 = .ok (.if_icmp .eq 64, 3) := by decide +kernel
theorem d_La_law_409 : decode m_La_law.2.1 409 = .ok (.iconst 0, 1) := by decide +kernel
theorem d_La_law_410 : decode m_La_law.2.1 410 = .ok (.ireturn, 1) := by decide +kernel
theorem d_La_law_411 : decode m_La_law.2.1 411 = .ok (.aload_n 1, 1) := by decide +kernel
theorem d_La_law_412 : decode m_La_law.2.1 412 = .ok (.invokevirtual 63, 3) := by decide +kernel
theorem d_La_law_415 : decode m_La_law.2.1 415 = .ok (.aload_n 2, 1) := by decide +kernel
theorem d_La_law_416 : decode m_La_law.2.1 416 = .ok (.invokevirtual 66, 3) := by decide +kernel
theorem d_La_law_419 : decode m_La_law.2.1 419 = .ok (.if_icmp .eq 51, 3) := by decide +kernel
theorem d_La_law_422 : decode m_La_law.2.1 422 = .ok (.iconst 0, 1) := by decide +kernel
theorem d_La_law_423 : decode m_La_law.2.1 423 = .ok (.ireturn, 1) := by decide +kernel
theorem d_La_law_424 : decode m_La_law.2.1 424 = .ok (.aload_n 1, 1) := by decide +kernel
theorem d_La_law_425 : decode m_La_law.2.1 425 = .ok (.aload_n 0, 1) := by decide +kernel
theorem d_La_law_426 : decode m_La_law.2.1 426 = .ok (.iload_n 3, 1) := by decide +kernel
theorem d_La_law_427 : decode m_La_law.2.1 427 = .ok (.iconst 1, 1) := by decide +kernel
theorem d_La_law_428 : decode m_La_law.2.1 428 = .ok (.iadd, 1) := by decide +kernel
theorem d_La_law_429 : decode m_La_law.2.1 429 = .ok (.iaload, 1) := by decide +kernel
theorem d_La_law_430 : decode m_La_law.2.1 430 = .ok (.invokevirtual 67, 3) := by decide +kernel
theorem d_La_law_433 : decode m_La_law.2.1 433 = .ok (.aload_n 2, 1) := by decide +kernel
theorem d_La_law_434 : decode m_La_law.2.1 434 = .ok (.aload_n 0, 1) := by decide +kernel
theorem d_La_law_435 : decode m_La_law.2.1 435 = .ok (.iload_n 3, 1) := by decide +kernel
theorem d_La_law_436 : decode m_La_law.2.1 436 = .ok (.iconst 1, 1) := by decide +kernel
theorem d_La_law_437 : decode m_La_law.2.1 437 = .ok (.iadd, 1) := by decide +kernel
theorem d_La_law_438 : decode m_La_law.2.1 438 = .ok (.iaload, 1) := by decide +kernel
theorem d_La_law_439 : decode m_La_law.2.1 439 = .ok (.invokevirtual 70, 3) := by decide +kernel
theorem d_La_law_442 : decode m_La_law.2.1 442 = .ok (.if_icmp .eq 28, 3) := by decide +kernel
theorem d_La_law_445 : decode m_La_law.2.1 445 = .ok (.iconst 0, 1) := by decide +kernel
theorem d_La_law_446 : decode m_La_law.2.1 446 = .ok (.ireturn, 1) := by decide +kernel
theorem d_La_law_447 : decode m_La_law.2.1 447 = .ok (.aload_n 1, 1) := by decide +kernel
theorem d_La_law_448 : decode m_La_law.2.1 448 = .ok (.aload_n 0, 1) := by decide +kernel
theorem d_La_law_449 : decode m_La_law.2.1 449 = .ok (.iload_n 3, 1) := by decide +kernel
theorem d_La_law_450 : decode m_La_law.2.1 450 = .ok (.iconst 1, 1) := by decide +kernel
theorem d_La_law_451 : decode m_La_law.2.1 451 = .ok (.iadd, 1) := by decide +kernel
theorem d_La_law_452 : decode m_La_law.2.1 452 = .ok (.iaload, 1) := by decide +kernel
theorem d_La_law_453 : decode m_La_law.2.1 453 = .ok (.invokevirtual 71, 3) := by decide +kernel
theorem d_La_law_456 : decode m_La_law.2.1 456 = .ok (.aload_n 2, 1) := by decide +kernel
theorem d_La_law_457 : decode m_La_law.2.1 457 = .ok (.aload_n 0, 1) := by decide +kernel
theorem d_La_law_458 : decode m_La_law.2.1 458 = .ok (.iload_n 3, 1) := by decide +kernel
theorem d_La_law_459 : decode m_La_law.2.1 459 = .ok (.iconst 1, 1) := by decide +kernel
theorem d_La_law_460 : decode m_La_law.2.1 460 = .ok (.iadd, 1) := by decide +kernel
theorem d_La_law_461 : decode m_La_law.2.1 461 = .ok (.iaload, 1) := by decide +kernel
theorem d_La_law_462 : decode m_La_law.2.1 462 = .ok (.invokevirtual 74, 3) := by decide +kernel
theorem d_La_law_465 : decode m_La_law.2.1 465 = .ok (.if_icmp .eq 5, 3) := by decide +kernel
theorem d_La_law_468 : decode m_La_law.2.1 468 = .ok (.iconst 0, 1) := by decide +kernel
theorem d_La_law_469 : decode m_La_law.2.1 469 = .ok (.ireturn, 1) := by decide +kernel
theorem d_La_law_470 : decode m_La_law.2.1 470 = .ok (.iinc 3 4, 3) := by decide +kernel
theorem d_La_law_473 : decode m_La_law.2.1 473 = .ok (.goto (-455), 3) := by decide +kernel
theorem d_La_law_476 : decode m_La_law.2.1 476 = .ok (.iconst 1, 1) := by decide +kernel
theorem d_La_law_477 : decode m_La_law.2.1 477 = .ok (.ireturn, 1) := by decide +kernel
