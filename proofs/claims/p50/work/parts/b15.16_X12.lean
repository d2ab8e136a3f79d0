theorem dX12_flow_31 : decode cX12_flow 31 = .ok (.aaload, 1) := by decide +kernel
theorem dX12_flow_32 : decode cX12_flow 32 = .ok (.iconst 0, 1) := by decide +kernel
theorem dX12_flow_33 : decode cX12_flow 33 = .ok (.aload_n 3, 1) := by decide +kernel
theorem dX12_flow_34 : decode cX12_flow 34 = .ok (.iload 4, 2) := by decide +kernel
theorem dX12_flow_36 : decode cX12_flow 36 = .ok (.aaload, 1) := by decide +kernel
theorem dX12_flow_37 : decode cX12_flow 37 = .ok (.iconst 0, 1) := by decide +kernel
theorem dX12_flow_38 : decode cX12_flow 38 = .ok (.aload_n 0, 1) := by decide +kernel
theorem dX12_flow_39 : decode cX12_flow 39 = .ok (.getfield 87, 3) := by decide +kernel
theorem dX12_flow_42 : decode cX12_flow 42 = .ok (.invokestatic 111, 3) := by decide +kernel
theorem dX12_flow_45 : decode cX12_flow 45 = .ok (.iinc 4 1, 3) := by decide +kernel
theorem dX12_flow_48 : decode cX12_flow 48 = .ok (.goto (-32), 3) := by decide +kernel
theorem dX12_flow_51 : decode cX12_flow 51 = .ok (.iconst 0, 1) := by decide +kernel
theorem dX12_flow_52 : decode cX12_flow 52 = .ok (.istore 4, 2) := by decide +kernel
theorem dX12_flow_54 : decode cX12_flow 54 = .ok (.aload_n 0, 1) := by decide +kernel
theorem dX12_flow_55 : decode cX12_flow 55 = .ok (.getfield 87, 3) := by decide +kernel
theorem dX12_flow_58 : decode cX12_flow 58 = .ok (.newarray .int, 2) := by decide +kernel
theorem dX12_flow_60 : decode cX12_flow 60 = .ok (.astore 5, 2) := by decide +kernel
theorem dX12_flow_62 : decode cX12_flow 62 = .ok (.iconst 0, 1) := by decide +kernel
theorem dX12_flow_63 : decode cX12_flow 63 = .ok (.istore 6, 2) := by decide +kernel
theorem dX12_flow_65 : decode cX12_flow 65 = .ok (.iload 6, 2) := by decide +kernel
theorem dX12_flow_67 : decode cX12_flow 67 = .ok (.aload_n 0, 1) := by decide +kernel
theorem dX12_flow_68 : decode cX12_flow 68 = .ok (.getfield 87, 3) := by decide +kernel
theorem dX12_flow_71 : decode cX12_flow 71 = .ok (.if_icmp .ge 25, 3) := by decide +kernel
theorem dX12_flow_74 : decode cX12_flow 74 = .ok (.aload 5, 2) := by decide +kernel
theorem dX12_flow_76 : decode cX12_flow 76 = .ok (.iload 6, 2) := by decide +kernel
theorem dX12_flow_78 : decode cX12_flow 78 = .ok (.iload 6, 2) := by decide +kernel
theorem dX12_flow_80 : decode cX12_flow 80 = .ok (.iload_n 1, 1) := by decide +kernel
theorem dX12_flow_81 : decode cX12_flow 81 = .ok (.if_icmp .ne 7, 3) := by decide +kernel
theorem dX12_flow_84 : decode cX12_flow 84 = .ok (.iload_n 1, 1) := by decide +kernel
theorem dX12_flow_85 : decode cX12_flow 85 = .ok (.goto 4, 3) := by decide +kernel
theorem dX12_flow_88 : decode cX12_flow 88 = .ok (.iconst (-1), 1) := by decide +kernel
theorem dX12_flow_89 : decode cX12_flow 89 = .ok (.iastore, 1) := by decide +kernel
theorem dX12_flow_90 : decode cX12_flow 90 = .ok (.iinc 6 1, 3) := by decide +kernel
theorem dX12_flow_93 : decode cX12_flow 93 = .ok (.goto (-28), 3) := by decide +kernel
theorem dX12_flow_96 : decode cX12_flow 96 = .ok (.iconst 1, 1) := by decide +kernel
theorem dX12_flow_97 : decode cX12_flow 97 = .ok (.istore 6, 2) := by decide +kernel
theorem dX12_flow_99 : decode cX12_flow 99 = .ok (.iload 6, 2) := by decide +kernel
theorem dX12_flow_101 : decode cX12_flow 101 = .ok (.ifCond .eq 81, 3) := by decide +kernel
theorem dX12_flow_104 : decode cX12_flow 104 = .ok (.iconst 0, 1) := by decide +kernel
theorem dX12_flow_105 : decode cX12_flow 105 = .ok (.istore 6, 2) := by decide +kernel
theorem dX12_flow_107 : decode cX12_flow 107 = .ok (.iconst 0, 1) := by decide +kernel
theorem dX12_flow_108 : decode cX12_flow 108 = .ok (.istore 7, 2) := by decide +kernel
theorem dX12_flow_110 : decode cX12_flow 110 = .ok (.iload 7, 2) := by decide +kernel
theorem dX12_flow_112 : decode cX12_flow 112 = .ok (.aload_n 0, 1) := by decide +kernel
theorem dX12_flow_113 : decode cX12_flow 113 = .ok (.getfield 87, 3) := by decide +kernel
theorem dX12_flow_116 : decode cX12_flow 116 = .ok (.if_icmp .ge 63, 3) := by decide +kernel
theorem dX12_flow_119 : decode cX12_flow 119 = .ok (.iconst 0, 1) := by decide +kernel
theorem dX12_flow_120 : decode cX12_flow 120 = .ok (.istore 8, 2) := by decide +kernel
theorem dX12_flow_122 : decode cX12_flow 122 = .ok (.iload 8, 2) := by decide +kernel
theorem dX12_flow_124 : decode cX12_flow 124 = .ok (.aload_n 0, 1) := by decide +kernel
theorem dX12_flow_125 : decode cX12_flow 125 = .ok (.getfield 87, 3) := by decide +kernel
theorem dX12_flow_128 : decode cX12_flow 128 = .ok (.if_icmp .ge 45, 3) := by decide +kernel
theorem dX12_flow_131 : decode cX12_flow 131 = .ok (.aload 5, 2) := by decide +kernel
theorem dX12_flow_133 : decode cX12_flow 133 = .ok (.iload 7, 2) := by decide +kernel
theorem dX12_flow_135 : decode cX12_flow 135 = .ok (.iaload, 1) := by decide +kernel
theorem dX12_flow_136 : decode cX12_flow 136 = .ok (.ifCond .lt 37, 3) := by decide +kernel
theorem dX12_flow_139 : decode cX12_flow 139 = .ok (.aload 5, 2) := by decide +kernel
theorem dX12_flow_141 : decode cX12_flow 141 = .ok (.iload 8, 2) := by decide +kernel
theorem dX12_flow_143 : decode cX12_flow 143 = .ok (.iaload, 1) := by decide +kernel
theorem dX12_flow_144 : decode cX12_flow 144 = .ok (.ifCond .ge 23, 3) := by decide +kernel
theorem dX12_flow_147 : decode cX12_flow 147 = .ok (.aload_n 3, 1) := by decide +kernel
theorem dX12_flow_148 : decode cX12_flow 148 = .ok (.iload 7, 2) := by decide +kernel
theorem dX12_flow_150 : decode cX12_flow 150 = .ok (.aaload, 1) := by decide +kernel
theorem dX12_flow_151 : decode cX12_flow 151 = .ok (.iload 8, 2) := by decide +kernel
theorem dX12_flow_153 : decode cX12_flow 153 = .ok (.iaload, 1) := by decide +kernel
theorem dX12_flow_154 : decode cX12_flow 154 = .ok (.ifCond .le 13, 3) := by decide +kernel
theorem dX12_flow_157 : decode cX12_flow 157 = .ok (.aload 5, 2) := by decide +kernel
theorem dX12_flow_159 : decode cX12_flow 159 = .ok (.iload 8, 2) := by decide +kernel
theorem dX12_flow_161 : decode cX12_flow 161 = .ok (.iload 7, 2) := by decide +kernel
theorem dX12_flow_163 : decode cX12_flow 163 = .ok (.iastore, 1) := by decide +kernel
theorem dX12_flow_164 : decode cX12_flow 164 = .ok (.iconst 1, 1) := by decide +kernel
theorem dX12_flow_165 : decode cX12_flow 165 = .ok (.istore 6, 2) := by decide +kernel
theorem dX12_flow_167 : decode cX12_flow 167 = .ok (.iinc 8 1, 3) := by decide +kernel
theorem dX12_flow_170 : decode cX12_flow 170 = .ok (.goto (-48), 3) := by decide +kernel
theorem dX12_flow_173 : decode cX12_flow 173 = .ok (.iinc 7 1, 3) := by decide +kernel
theorem dX12_flow_176 : decode cX12_flow 176 = .ok (.goto (-66), 3) := by decide +kernel
theorem dX12_flow_179 : decode cX12_flow 179 = .ok (.goto (-80), 3) := by decide +kernel
theorem dX12_flow_182 : decode cX12_flow 182 = .ok (.aload 5, 2) := by decide +kernel
theorem dX12_flow_184 : decode cX12_flow 184 = .ok (.iload_n 2, 1) := by decide +kernel
theorem dX12_flow_185 : decode cX12_flow 185 = .ok (.iaload, 1) := by decide +kernel
theorem dX12_flow_186 : decode cX12_flow 186 = .ok (.ifCond .ge 59, 3) := by decide +kernel
theorem dX12_flow_189 : decode cX12_flow 189 = .ok (.iconst 0, 1) := by decide +kernel
theorem dX12_flow_190 : decode cX12_flow 190 = .ok (.istore 7, 2) := by decide +kernel
theorem dX12_flow_192 : decode cX12_flow 192 = .ok (.iconst 0, 1) := by decide +kernel
theorem dX12_flow_193 : decode cX12_flow 193 = .ok (.istore 8, 2) := by decide +kernel
theorem dX12_flow_195 : decode cX12_flow 195 = .ok (.iload 8, 2) := by decide +kernel
theorem dX12_flow_197 : decode cX12_flow 197 = .ok (.aload_n 0, 1) := by decide +kernel
theorem dX12_flow_198 : decode cX12_flow 198 = .ok (.getfield 87, 3) := by decide +kernel
theorem dX12_flow_201 : decode cX12_flow 201 = .ok (.if_icmp .ge 30, 3) := by decide +kernel
theorem dX12_flow_204 : decode cX12_flow 204 = .ok (.iload 7, 2) := by decide +kernel
theorem dX12_flow_206 : decode cX12_flow 206 = .ok (.aload 5, 2) := by decide +kernel
theorem dX12_flow_208 : decode cX12_flow 208 = .ok (.iload 8, 2) := by decide +kernel
theorem dX12_flow_210 : decode cX12_flow 210 = .ok (.iaload, 1) := by decide +kernel
theorem dX12_flow_211 : decode cX12_flow 211 = .ok (.ifCond .ge 7, 3) := by decide +kernel
theorem dX12_flow_214 : decode cX12_flow 214 = .ok (.iconst 0, 1) := by decide +kernel
theorem dX12_flow_215 : decode cX12_flow 215 = .ok (.goto 7, 3) := by decide +kernel
theorem dX12_flow_218 : decode cX12_flow 218 = .ok (.iconst 1, 1) := by decide +kernel
theorem dX12_flow_219 : decode cX12_flow 219 = .ok (.iload 8, 2) := by decide +kernel
theorem dX12_flow_221 : decode cX12_flow 221 = .ok (.ishl, 1) := by decide +kernel
theorem dX12_flow_222 : decode cX12_flow 222 = .ok (.ior, 1) := by decide +kernel
theorem dX12_flow_223 : decode cX12_flow 223 = .ok (.istore 7, 2) := by decide +kernel
theorem dX12_flow_225 : decode cX12_flow 225 = .ok (.iinc 8 1, 3) := by decide +kernel
theorem dX12_flow_228 : decode cX12_flow 228 = .ok (.goto (-33), 3) := by decide +kernel
theorem dX12_flow_231 : decode cX12_flow 231 = .ok (.iconst 2, 1) := by decide +kernel
theorem dX12_flow_232 : decode cX12_flow 232 = .ok (.newarray .int, 2) := by decide +kernel
theorem dX12_flow_234 : decode cX12_flow 234 = .ok (.dup, 1) := by decide +kernel
theorem dX12_flow_235 : decode cX12_flow 235 = .ok (.iconst 0, 1) := by decide +kernel
theorem dX12_flow_236 : decode cX12_flow 236 = .ok (.iload 4, 2) := by decide +kernel
theorem dX12_flow_238 : decode cX12_flow 238 = .ok (.iastore, 1) := by decide +kernel
theorem dX12_flow_239 : decode cX12_flow 239 = .ok (.dup, 1) := by decide +kernel
theorem dX12_flow_240 : decode cX12_flow 240 = .ok (.iconst 1, 1) := by decide +kernel
theorem dX12_flow_241 : decode cX12_flow 241 = .ok (.iload 7, 2) := by decide +kernel
theorem dX12_flow_243 : decode cX12_flow 243 = .ok (.iastore, 1) := by decide +kernel
theorem dX12_flow_244 : decode cX12_flow 244 = .ok (.areturn, 1) := by decide +kernel
theorem dX12_flow_245 : decode cX12_flow 245 = .ok (.sipush 9999, 3) := by decide +kernel
theorem dX12_flow_248 : decode cX12_flow 248 = .ok (.istore 7, 2) := by decide +kernel
theorem dX12_flow_250 : decode cX12_flow 250 = .ok (.iload_n 2, 1) := by decide +kernel
theorem dX12_flow_251 : decode cX12_flow 251 = .ok (.istore 8, 2) := by decide +kernel
theorem dX12_flow_253 : decode cX12_flow 253 = .ok (.iload 8, 2) := by decide +kernel
theorem dX12_flow_255 : decode cX12_flow 255 = .ok (.iload_n 1, 1) := by decide +kernel
theorem dX12_flow_256 : decode cX12_flow 256 = .ok (.if_icmp .eq 30, 3) := by decide +kernel
theorem dX12_flow_259 : decode cX12_flow 259 = .ok (.iload 7, 2) := by decide +kernel
theorem dX12_flow_261 : decode cX12_flow 261 = .ok (.aload_n 3, 1) := by decide +kernel
theorem dX12_flow_262 : decode cX12_flow 262 = .ok (.aload 5, 2) := by decide +kernel
theorem dX12_flow_264 : decode cX12_flow 264 = .ok (.iload 8, 2) := by decide +kernel
theorem dX12_flow_266 : decode cX12_flow 266 = .ok (.iaload, 1) := by decide +kernel
theorem dX12_flow_267 : decode cX12_flow 267 = .ok (.aaload, 1) := by decide +kernel
theorem dX12_flow_268 : decode cX12_flow 268 = .ok (.iload 8, 2) := by decide +kernel
theorem dX12_flow_270 : decode cX12_flow 270 = .ok (.iaload, 1) := by decide +kernel
theorem dX12_flow_271 : decode cX12_flow 271 = .ok (.invokestatic 205, 3) := by decide +kernel
theorem dX12_flow_274 : decode cX12_flow 274 = .ok (.istore 7, 2) := by decide +kernel
theorem dX12_flow_276 : decode cX12_flow 276 = .ok (.aload 5, 2) := by decide +kernel
theorem dX12_flow_278 : decode cX12_flow 278 = .ok (.iload 8, 2) := by decide +kernel
theorem dX12_flow_280 : decode cX12_flow 280 = .ok (.iaload, 1) := by decide +kernel
theorem dX12_flow_281 : decode cX12_flow 281 = .ok (.istore 8, 2) := by decide +kernel
theorem dX12_flow_283 : decode cX12_flow 283 = .ok (.goto (-30), 3) := by decide +kernel
theorem dX12_flow_286 : decode cX12_flow 286 = .ok (.iload_n 2, 1) := by decide +kernel
theorem dX12_flow_287 : decode cX12_flow 287 = .ok (.istore 8, 2) := by decide +kernel
theorem dX12_flow_289 : decode cX12_flow 289 = .ok (.iload 8, 2) := by decide +kernel
theorem dX12_flow_291 : decode cX12_flow 291 = .ok (.iload_n 1, 1) := by decide +kernel
theorem dX12_flow_292 : decode cX12_flow 292 = .ok (.if_icmp .eq 43, 3) := by decide +kernel
theorem dX12_flow_295 : decode cX12_flow 295 = .ok (.aload_n 3, 1) := by decide +kernel
theorem dX12_flow_296 : decode cX12_flow 296 = .ok (.aload 5, 2) := by decide +kernel
theorem dX12_flow_298 : decode cX12_flow 298 = .ok (.iload 8, 2) := by decide +kernel
theorem dX12_flow_300 : decode cX12_flow 300 = .ok (.iaload, 1) := by decide +kernel
theorem dX12_flow_301 : decode cX12_flow 301 = .ok (.aaload, 1) := by decide +kernel
theorem dX12_flow_302 : decode cX12_flow 302 = .ok (.iload 8, 2) := by decide +kernel
theorem dX12_flow_304 : decode cX12_flow 304 = .ok (.dup2, 1) := by decide +kernel
theorem dX12_flow_305 : decode cX12_flow 305 = .ok (.iaload, 1) := by decide +kernel
theorem dX12_flow_306 : decode cX12_flow 306 = .ok (.iload 7, 2) := by decide +kernel
theorem dX12_flow_308 : decode cX12_flow 308 = .ok (.isub, 1) := by decide +kernel
theorem dX12_flow_309 : decode cX12_flow 309 = .ok (.iastore, 1) := by decide +kernel
theorem dX12_flow_310 : decode cX12_flow 310 = .ok (.aload_n 3, 1) := by decide +kernel
theorem dX12_flow_311 : decode cX12_flow 311 = .ok (.iload 8, 2) := by decide +kernel
theorem dX12_flow_313 : decode cX12_flow 313 = .ok (.aaload, 1) := by decide +kernel
theorem dX12_flow_314 : decode cX12_flow 314 = .ok (.aload 5, 2) := by decide +kernel
theorem dX12_flow_316 : decode cX12_flow 316 = .ok (.iload 8, 2) := by decide +kernel
theorem dX12_flow_318 : decode cX12_flow 318 = .ok (.iaload, 1) := by decide +kernel
theorem dX12_flow_319 : decode cX12_flow 319 = .ok (.dup2, 1) := by decide +kernel
theorem dX12_flow_320 : decode cX12_flow 320 = .ok (.iaload, 1) := by decide +kernel
theorem dX12_flow_321 : decode cX12_flow 321 = .ok (.iload 7, 2) := by decide +kernel
theorem dX12_flow_323 : decode cX12_flow 323 = .ok (.iadd, 1) := by decide +kernel
theorem dX12_flow_324 : decode cX12_flow 324 = .ok (.iastore, 1) := by decide +kernel
theorem dX12_flow_325 : decode cX12_flow 325 = .ok (.aload 5, 2) := by decide +kernel
theorem dX12_flow_327 : decode cX12_flow 327 = .ok (.iload 8, 2) := by decide +kernel
theorem dX12_flow_329 : decode cX12_flow 329 = .ok (.iaload, 1) := by decide +kernel
theorem dX12_flow_330 : decode cX12_flow 330 = .ok (.istore 8, 2) := by decide +kernel
theorem dX12_flow_332 : decode cX12_flow 332 = .ok (.goto (-43), 3) := by decide +kernel
theorem dX12_flow_335 : decode cX12_flow 335 = .ok (.iload 4, 2) := by decide +kernel
theorem dX12_flow_337 : decode cX12_flow 337 = .ok (.iload 7, 2) := by decide +kernel
theorem dX12_flow_339 : decode cX12_flow 339 = .ok (.iadd, 1) := by decide +kernel
theorem dX12_flow_340 : decode cX12_flow 340 = .ok (.istore 4, 2) := by decide +kernel
theorem dX12_flow_342 : decode cX12_flow 342 = .ok (.goto (-288), 3) := by decide +kernel
