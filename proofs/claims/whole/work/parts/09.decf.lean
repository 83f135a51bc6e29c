/-! ===== decode rows, by wip/whole/gen09.py ===== -/
theorem dX12_sits_0 : decode prog_13_method_61_code 0 = .ok (.aload_n 0, 1) := by decide +kernel
theorem dX12_sits_1 : decode prog_13_method_61_code 1 = .ok (.iload_n 1, 1) := by decide +kernel
theorem dX12_sits_2 : decode prog_13_method_61_code 2 = .ok (.putfield 443, 3) := by decide +kernel
theorem dX12_sits_5 : decode prog_13_method_61_code 5 = .ok (.aload_n 0, 1) := by decide +kernel
theorem dX12_sits_6 : decode prog_13_method_61_code 6 = .ok (.getfield 58, 3) := by decide +kernel
theorem dX12_sits_9 : decode prog_13_method_61_code 9 = .ok (.iload_n 1, 1) := by decide +kernel
theorem dX12_sits_10 : decode prog_13_method_61_code 10 = .ok (.dup2, 1) := by decide +kernel
theorem dX12_sits_11 : decode prog_13_method_61_code 11 = .ok (.iaload, 1) := by decide +kernel
theorem dX12_sits_12 : decode prog_13_method_61_code 12 = .ok (.iconst 1, 1) := by decide +kernel
theorem dX12_sits_13 : decode prog_13_method_61_code 13 = .ok (.iadd, 1) := by decide +kernel
theorem dX12_sits_14 : decode prog_13_method_61_code 14 = .ok (.iastore, 1) := by decide +kernel
theorem dX12_sits_15 : decode prog_13_method_61_code 15 = .ok (.iconst 0, 1) := by decide +kernel
theorem dX12_sits_16 : decode prog_13_method_61_code 16 = .ok (.istore_n 3, 1) := by decide +kernel
theorem dX12_sits_17 : decode prog_13_method_61_code 17 = .ok (.iload_n 3, 1) := by decide +kernel
theorem dX12_sits_18 : decode prog_13_method_61_code 18 = .ok (.aload_n 0, 1) := by decide +kernel
theorem dX12_sits_19 : decode prog_13_method_61_code 19 = .ok (.getfield 409, 3) := by decide +kernel
theorem dX12_sits_22 : decode prog_13_method_61_code 22 = .ok (.getfield 375, 3) := by decide +kernel
theorem dX12_sits_25 : decode prog_13_method_61_code 25 = .ok (.if_icmp .ge 45, 3) := by decide +kernel
theorem dX12_sits_28 : decode prog_13_method_61_code 28 = .ok (.aload_n 0, 1) := by decide +kernel
theorem dX12_sits_29 : decode prog_13_method_61_code 29 = .ok (.getfield 440, 3) := by decide +kernel
theorem dX12_sits_32 : decode prog_13_method_61_code 32 = .ok (.iload_n 3, 1) := by decide +kernel
theorem dX12_sits_33 : decode prog_13_method_61_code 33 = .ok (.invokestatic 386, 3) := by decide +kernel
theorem dX12_sits_36 : decode prog_13_method_61_code 36 = .ok (.ifCond .eq 28, 3) := by decide +kernel
theorem dX12_sits_39 : decode prog_13_method_61_code 39 = .ok (.aload_n 0, 1) := by decide +kernel
theorem dX12_sits_40 : decode prog_13_method_61_code 40 = .ok (.getfield 76, 3) := by decide +kernel
theorem dX12_sits_43 : decode prog_13_method_61_code 43 = .ok (.iload_n 3, 1) := by decide +kernel
theorem dX12_sits_44 : decode prog_13_method_61_code 44 = .ok (.iaload, 1) := by decide +kernel
theorem dX12_sits_45 : decode prog_13_method_61_code 45 = .ok (.iload_n 1, 1) := by decide +kernel
theorem dX12_sits_46 : decode prog_13_method_61_code 46 = .ok (.invokestatic 386, 3) := by decide +kernel
theorem dX12_sits_49 : decode prog_13_method_61_code 49 = .ok (.ifCond .ne 15, 3) := by decide +kernel
theorem dX12_sits_52 : decode prog_13_method_61_code 52 = .ok (.aload_n 0, 1) := by decide +kernel
theorem dX12_sits_53 : decode prog_13_method_61_code 53 = .ok (.getfield 64, 3) := by decide +kernel
theorem dX12_sits_56 : decode prog_13_method_61_code 56 = .ok (.iload_n 1, 1) := by decide +kernel
theorem dX12_sits_57 : decode prog_13_method_61_code 57 = .ok (.dup2, 1) := by decide +kernel
theorem dX12_sits_58 : decode prog_13_method_61_code 58 = .ok (.iaload, 1) := by decide +kernel
theorem dX12_sits_59 : decode prog_13_method_61_code 59 = .ok (.iconst 1, 1) := by decide +kernel
theorem dX12_sits_60 : decode prog_13_method_61_code 60 = .ok (.iload_n 3, 1) := by decide +kernel
theorem dX12_sits_61 : decode prog_13_method_61_code 61 = .ok (.ishl, 1) := by decide +kernel
theorem dX12_sits_62 : decode prog_13_method_61_code 62 = .ok (.ior, 1) := by decide +kernel
theorem dX12_sits_63 : decode prog_13_method_61_code 63 = .ok (.iastore, 1) := by decide +kernel
theorem dX12_sits_64 : decode prog_13_method_61_code 64 = .ok (.iinc 3 1, 3) := by decide +kernel
theorem dX12_sits_67 : decode prog_13_method_61_code 67 = .ok (.goto (-50), 3) := by decide +kernel
theorem dX12_sits_70 : decode prog_13_method_61_code 70 = .ok (.aload_n 0, 1) := by decide +kernel
theorem dX12_sits_71 : decode prog_13_method_61_code 71 = .ok (.getfield 61, 3) := by decide +kernel
theorem dX12_sits_74 : decode prog_13_method_61_code 74 = .ok (.iload_n 1, 1) := by decide +kernel
theorem dX12_sits_75 : decode prog_13_method_61_code 75 = .ok (.dup2, 1) := by decide +kernel
theorem dX12_sits_76 : decode prog_13_method_61_code 76 = .ok (.iaload, 1) := by decide +kernel
theorem dX12_sits_77 : decode prog_13_method_61_code 77 = .ok (.iconst 1, 1) := by decide +kernel
theorem dX12_sits_78 : decode prog_13_method_61_code 78 = .ok (.isub, 1) := by decide +kernel
theorem dX12_sits_79 : decode prog_13_method_61_code 79 = .ok (.iastore, 1) := by decide +kernel
theorem dX12_sits_80 : decode prog_13_method_61_code 80 = .ok (.iconst 0, 1) := by decide +kernel
theorem dX12_sits_81 : decode prog_13_method_61_code 81 = .ok (.istore_n 3, 1) := by decide +kernel
theorem dX12_sits_82 : decode prog_13_method_61_code 82 = .ok (.iload_n 3, 1) := by decide +kernel
theorem dX12_sits_83 : decode prog_13_method_61_code 83 = .ok (.aload_n 0, 1) := by decide +kernel
theorem dX12_sits_84 : decode prog_13_method_61_code 84 = .ok (.getfield 409, 3) := by decide +kernel
theorem dX12_sits_87 : decode prog_13_method_61_code 87 = .ok (.getfield 337, 3) := by decide +kernel
theorem dX12_sits_90 : decode prog_13_method_61_code 90 = .ok (.if_icmp .ge 86, 3) := by decide +kernel
theorem dX12_sits_93 : decode prog_13_method_61_code 93 = .ok (.aload_n 0, 1) := by decide +kernel
theorem dX12_sits_94 : decode prog_13_method_61_code 94 = .ok (.getfield 409, 3) := by decide +kernel
theorem dX12_sits_97 : decode prog_13_method_61_code 97 = .ok (.getfield 347, 3) := by decide +kernel
theorem dX12_sits_100 : decode prog_13_method_61_code 100 = .ok (.iload_n 3, 1) := by decide +kernel
theorem dX12_sits_101 : decode prog_13_method_61_code 101 = .ok (.iaload, 1) := by decide +kernel
theorem dX12_sits_102 : decode prog_13_method_61_code 102 = .ok (.iload_n 1, 1) := by decide +kernel
theorem dX12_sits_103 : decode prog_13_method_61_code 103 = .ok (.if_icmp .ne 67, 3) := by decide +kernel
theorem dX12_sits_106 : decode prog_13_method_61_code 106 = .ok (.iload_n 2, 1) := by decide +kernel
theorem dX12_sits_107 : decode prog_13_method_61_code 107 = .ok (.aload_n 0, 1) := by decide +kernel
theorem dX12_sits_108 : decode prog_13_method_61_code 108 = .ok (.getfield 409, 3) := by decide +kernel
theorem dX12_sits_111 : decode prog_13_method_61_code 111 = .ok (.getfield 350, 3) := by decide +kernel
theorem dX12_sits_114 : decode prog_13_method_61_code 114 = .ok (.iload_n 3, 1) := by decide +kernel
theorem dX12_sits_115 : decode prog_13_method_61_code 115 = .ok (.iaload, 1) := by decide +kernel
theorem dX12_sits_116 : decode prog_13_method_61_code 116 = .ok (.aload_n 0, 1) := by decide +kernel
theorem dX12_sits_117 : decode prog_13_method_61_code 117 = .ok (.getfield 409, 3) := by decide +kernel
theorem dX12_sits_120 : decode prog_13_method_61_code 120 = .ok (.getfield 353, 3) := by decide +kernel
theorem dX12_sits_123 : decode prog_13_method_61_code 123 = .ok (.iload_n 3, 1) := by decide +kernel
theorem dX12_sits_124 : decode prog_13_method_61_code 124 = .ok (.iaload, 1) := by decide +kernel
theorem dX12_sits_125 : decode prog_13_method_61_code 125 = .ok (.invokestatic 160, 3) := by decide +kernel
theorem dX12_sits_128 : decode prog_13_method_61_code 128 = .ok (.ifCond .ne 6, 3) := by decide +kernel
theorem dX12_sits_131 : decode prog_13_method_61_code 131 = .ok (.goto 39, 3) := by decide +kernel
theorem dX12_sits_134 : decode prog_13_method_61_code 134 = .ok (.aload_n 0, 1) := by decide +kernel
theorem dX12_sits_135 : decode prog_13_method_61_code 135 = .ok (.getfield 39, 3) := by decide +kernel
theorem dX12_sits_138 : decode prog_13_method_61_code 138 = .ok (.iload_n 2, 1) := by decide +kernel
theorem dX12_sits_139 : decode prog_13_method_61_code 139 = .ok (.dup2, 1) := by decide +kernel
theorem dX12_sits_140 : decode prog_13_method_61_code 140 = .ok (.iaload, 1) := by decide +kernel
theorem dX12_sits_141 : decode prog_13_method_61_code 141 = .ok (.aload_n 0, 1) := by decide +kernel
theorem dX12_sits_142 : decode prog_13_method_61_code 142 = .ok (.getfield 409, 3) := by decide +kernel
theorem dX12_sits_145 : decode prog_13_method_61_code 145 = .ok (.getfield 356, 3) := by decide +kernel
theorem dX12_sits_148 : decode prog_13_method_61_code 148 = .ok (.iload_n 3, 1) := by decide +kernel
theorem dX12_sits_149 : decode prog_13_method_61_code 149 = .ok (.iaload, 1) := by decide +kernel
theorem dX12_sits_150 : decode prog_13_method_61_code 150 = .ok (.iadd, 1) := by decide +kernel
theorem dX12_sits_151 : decode prog_13_method_61_code 151 = .ok (.iastore, 1) := by decide +kernel
theorem dX12_sits_152 : decode prog_13_method_61_code 152 = .ok (.aload_n 0, 1) := by decide +kernel
theorem dX12_sits_153 : decode prog_13_method_61_code 153 = .ok (.getfield 70, 3) := by decide +kernel
theorem dX12_sits_156 : decode prog_13_method_61_code 156 = .ok (.iload_n 1, 1) := by decide +kernel
theorem dX12_sits_157 : decode prog_13_method_61_code 157 = .ok (.dup2, 1) := by decide +kernel
theorem dX12_sits_158 : decode prog_13_method_61_code 158 = .ok (.iaload, 1) := by decide +kernel
theorem dX12_sits_159 : decode prog_13_method_61_code 159 = .ok (.aload_n 0, 1) := by decide +kernel
theorem dX12_sits_160 : decode prog_13_method_61_code 160 = .ok (.getfield 409, 3) := by decide +kernel
theorem dX12_sits_163 : decode prog_13_method_61_code 163 = .ok (.getfield 356, 3) := by decide +kernel
theorem dX12_sits_166 : decode prog_13_method_61_code 166 = .ok (.iload_n 3, 1) := by decide +kernel
theorem dX12_sits_167 : decode prog_13_method_61_code 167 = .ok (.iaload, 1) := by decide +kernel
theorem dX12_sits_168 : decode prog_13_method_61_code 168 = .ok (.iadd, 1) := by decide +kernel
theorem dX12_sits_169 : decode prog_13_method_61_code 169 = .ok (.iastore, 1) := by decide +kernel
theorem dX12_sits_170 : decode prog_13_method_61_code 170 = .ok (.iinc 3 1, 3) := by decide +kernel
theorem dX12_sits_173 : decode prog_13_method_61_code 173 = .ok (.goto (-91), 3) := by decide +kernel
theorem dX12_sits_176 : decode prog_13_method_61_code 176 = .ok (.aload_n 0, 1) := by decide +kernel
theorem dX12_sits_177 : decode prog_13_method_61_code 177 = .ok (.dup, 1) := by decide +kernel
theorem dX12_sits_178 : decode prog_13_method_61_code 178 = .ok (.getfield 437, 3) := by decide +kernel
theorem dX12_sits_181 : decode prog_13_method_61_code 181 = .ok (.aload_n 0, 1) := by decide +kernel
theorem dX12_sits_182 : decode prog_13_method_61_code 182 = .ok (.getfield 39, 3) := by decide +kernel
theorem dX12_sits_185 : decode prog_13_method_61_code 185 = .ok (.iload_n 2, 1) := by decide +kernel
theorem dX12_sits_186 : decode prog_13_method_61_code 186 = .ok (.iaload, 1) := by decide +kernel
theorem dX12_sits_187 : decode prog_13_method_61_code 187 = .ok (.iadd, 1) := by decide +kernel
theorem dX12_sits_188 : decode prog_13_method_61_code 188 = .ok (.putfield 437, 3) := by decide +kernel
theorem dX12_sits_191 : decode prog_13_method_61_code 191 = .ok (.aload_n 0, 1) := by decide +kernel
theorem dX12_sits_192 : decode prog_13_method_61_code 192 = .ok (.getfield 409, 3) := by decide +kernel
theorem dX12_sits_195 : decode prog_13_method_61_code 195 = .ok (.getfield 323, 3) := by decide +kernel
theorem dX12_sits_198 : decode prog_13_method_61_code 198 = .ok (.iload_n 1, 1) := by decide +kernel
theorem dX12_sits_199 : decode prog_13_method_61_code 199 = .ok (.iaload, 1) := by decide +kernel
theorem dX12_sits_200 : decode prog_13_method_61_code 200 = .ok (.iconst 2, 1) := by decide +kernel
theorem dX12_sits_201 : decode prog_13_method_61_code 201 = .ok (.if_icmp .ne 19, 3) := by decide +kernel
theorem dX12_sits_204 : decode prog_13_method_61_code 204 = .ok (.aload_n 0, 1) := by decide +kernel
theorem dX12_sits_205 : decode prog_13_method_61_code 205 = .ok (.getfield 67, 3) := by decide +kernel
theorem dX12_sits_208 : decode prog_13_method_61_code 208 = .ok (.iload_n 1, 1) := by decide +kernel
theorem dX12_sits_209 : decode prog_13_method_61_code 209 = .ok (.dup2, 1) := by decide +kernel
theorem dX12_sits_210 : decode prog_13_method_61_code 210 = .ok (.iaload, 1) := by decide +kernel
theorem dX12_sits_211 : decode prog_13_method_61_code 211 = .ok (.aload_n 0, 1) := by decide +kernel
theorem dX12_sits_212 : decode prog_13_method_61_code 212 = .ok (.getfield 409, 3) := by decide +kernel
theorem dX12_sits_215 : decode prog_13_method_61_code 215 = .ok (.getfield 279, 3) := by decide +kernel
theorem dX12_sits_218 : decode prog_13_method_61_code 218 = .ok (.isub, 1) := by decide +kernel
theorem dX12_sits_219 : decode prog_13_method_61_code 219 = .ok (.iastore, 1) := by decide +kernel
theorem dX12_sits_220 : decode prog_13_method_61_code 220 = .ok (.aload_n 0, 1) := by decide +kernel
theorem dX12_sits_221 : decode prog_13_method_61_code 221 = .ok (.getfield 61, 3) := by decide +kernel
theorem dX12_sits_224 : decode prog_13_method_61_code 224 = .ok (.iload_n 1, 1) := by decide +kernel
theorem dX12_sits_225 : decode prog_13_method_61_code 225 = .ok (.iaload, 1) := by decide +kernel
theorem dX12_sits_226 : decode prog_13_method_61_code 226 = .ok (.ifCond .ne 23, 3) := by decide +kernel
theorem dX12_sits_229 : decode prog_13_method_61_code 229 = .ok (.aload_n 0, 1) := by decide +kernel
theorem dX12_sits_230 : decode prog_13_method_61_code 230 = .ok (.getfield 73, 3) := by decide +kernel
theorem dX12_sits_233 : decode prog_13_method_61_code 233 = .ok (.iload_n 1, 1) := by decide +kernel
theorem dX12_sits_234 : decode prog_13_method_61_code 234 = .ok (.iload_n 2, 1) := by decide +kernel
theorem dX12_sits_235 : decode prog_13_method_61_code 235 = .ok (.iconst 1, 1) := by decide +kernel
theorem dX12_sits_236 : decode prog_13_method_61_code 236 = .ok (.iadd, 1) := by decide +kernel
theorem dX12_sits_237 : decode prog_13_method_61_code 237 = .ok (.iastore, 1) := by decide +kernel
theorem dX12_sits_238 : decode prog_13_method_61_code 238 = .ok (.aload_n 0, 1) := by decide +kernel
theorem dX12_sits_239 : decode prog_13_method_61_code 239 = .ok (.dup, 1) := by decide +kernel
theorem dX12_sits_240 : decode prog_13_method_61_code 240 = .ok (.getfield 434, 3) := by decide +kernel
theorem dX12_sits_243 : decode prog_13_method_61_code 243 = .ok (.iconst 1, 1) := by decide +kernel
theorem dX12_sits_244 : decode prog_13_method_61_code 244 = .ok (.iadd, 1) := by decide +kernel
theorem dX12_sits_245 : decode prog_13_method_61_code 245 = .ok (.putfield 434, 3) := by decide +kernel
theorem dX12_sits_248 : decode prog_13_method_61_code 248 = .ok (.return_, 1) := by decide +kernel
theorem dX12_sits_249 : decode prog_13_method_61_code 249 = .ok (.iconst 0, 1) := by decide +kernel
theorem dX12_sits_250 : decode prog_13_method_61_code 250 = .ok (.istore_n 3, 1) := by decide +kernel
theorem dX12_sits_251 : decode prog_13_method_61_code 251 = .ok (.iload_n 3, 1) := by decide +kernel
theorem dX12_sits_252 : decode prog_13_method_61_code 252 = .ok (.aload_n 0, 1) := by decide +kernel
theorem dX12_sits_253 : decode prog_13_method_61_code 253 = .ok (.getfield 409, 3) := by decide +kernel
theorem dX12_sits_256 : decode prog_13_method_61_code 256 = .ok (.getfield 375, 3) := by decide +kernel
theorem dX12_sits_259 : decode prog_13_method_61_code 259 = .ok (.if_icmp .ge 84, 3) := by decide +kernel
theorem dX12_sits_262 : decode prog_13_method_61_code 262 = .ok (.aload_n 0, 1) := by decide +kernel
theorem dX12_sits_263 : decode prog_13_method_61_code 263 = .ok (.getfield 64, 3) := by decide +kernel
theorem dX12_sits_266 : decode prog_13_method_61_code 266 = .ok (.iload_n 1, 1) := by decide +kernel
theorem dX12_sits_267 : decode prog_13_method_61_code 267 = .ok (.iaload, 1) := by decide +kernel
theorem dX12_sits_268 : decode prog_13_method_61_code 268 = .ok (.iload_n 3, 1) := by decide +kernel
theorem dX12_sits_269 : decode prog_13_method_61_code 269 = .ok (.invokestatic 386, 3) := by decide +kernel
theorem dX12_sits_272 : decode prog_13_method_61_code 272 = .ok (.ifCond .ne 6, 3) := by decide +kernel
theorem dX12_sits_275 : decode prog_13_method_61_code 275 = .ok (.goto 62, 3) := by decide +kernel
theorem dX12_sits_278 : decode prog_13_method_61_code 278 = .ok (.aload_n 0, 1) := by decide +kernel
theorem dX12_sits_279 : decode prog_13_method_61_code 279 = .ok (.getfield 409, 3) := by decide +kernel
theorem dX12_sits_282 : decode prog_13_method_61_code 282 = .ok (.getfield 383, 3) := by decide +kernel
theorem dX12_sits_285 : decode prog_13_method_61_code 285 = .ok (.bipush 8, 2) := by decide +kernel
theorem dX12_sits_287 : decode prog_13_method_61_code 287 = .ok (.iload_n 1, 1) := by decide +kernel
theorem dX12_sits_288 : decode prog_13_method_61_code 288 = .ok (.imul, 1) := by decide +kernel
theorem dX12_sits_289 : decode prog_13_method_61_code 289 = .ok (.iload_n 3, 1) := by decide +kernel
theorem dX12_sits_290 : decode prog_13_method_61_code 290 = .ok (.iadd, 1) := by decide +kernel
theorem dX12_sits_291 : decode prog_13_method_61_code 291 = .ok (.iaload, 1) := by decide +kernel
theorem dX12_sits_292 : decode prog_13_method_61_code 292 = .ok (.istore 4, 2) := by decide +kernel
theorem dX12_sits_294 : decode prog_13_method_61_code 294 = .ok (.aload_n 0, 1) := by decide +kernel
theorem dX12_sits_295 : decode prog_13_method_61_code 295 = .ok (.getfield 76, 3) := by decide +kernel
theorem dX12_sits_298 : decode prog_13_method_61_code 298 = .ok (.iload_n 3, 1) := by decide +kernel
theorem dX12_sits_299 : decode prog_13_method_61_code 299 = .ok (.aload_n 0, 1) := by decide +kernel
theorem dX12_sits_300 : decode prog_13_method_61_code 300 = .ok (.getfield 440, 3) := by decide +kernel
theorem dX12_sits_303 : decode prog_13_method_61_code 303 = .ok (.iload_n 3, 1) := by decide +kernel
theorem dX12_sits_304 : decode prog_13_method_61_code 304 = .ok (.invokestatic 386, 3) := by decide +kernel
theorem dX12_sits_307 : decode prog_13_method_61_code 307 = .ok (.ifCond .eq 15, 3) := by decide +kernel
theorem dX12_sits_310 : decode prog_13_method_61_code 310 = .ok (.aload_n 0, 1) := by decide +kernel
theorem dX12_sits_311 : decode prog_13_method_61_code 311 = .ok (.getfield 76, 3) := by decide +kernel
theorem dX12_sits_314 : decode prog_13_method_61_code 314 = .ok (.iload_n 3, 1) := by decide +kernel
theorem dX12_sits_315 : decode prog_13_method_61_code 315 = .ok (.iaload, 1) := by decide +kernel
theorem dX12_sits_316 : decode prog_13_method_61_code 316 = .ok (.iload 4, 2) := by decide +kernel
theorem dX12_sits_318 : decode prog_13_method_61_code 318 = .ok (.iand, 1) := by decide +kernel
theorem dX12_sits_319 : decode prog_13_method_61_code 319 = .ok (.goto 5, 3) := by decide +kernel
theorem dX12_sits_322 : decode prog_13_method_61_code 322 = .ok (.iload 4, 2) := by decide +kernel
theorem dX12_sits_324 : decode prog_13_method_61_code 324 = .ok (.iastore, 1) := by decide +kernel
theorem dX12_sits_325 : decode prog_13_method_61_code 325 = .ok (.aload_n 0, 1) := by decide +kernel
theorem dX12_sits_326 : decode prog_13_method_61_code 326 = .ok (.dup, 1) := by decide +kernel
theorem dX12_sits_327 : decode prog_13_method_61_code 327 = .ok (.getfield 440, 3) := by decide +kernel
theorem dX12_sits_330 : decode prog_13_method_61_code 330 = .ok (.iconst 1, 1) := by decide +kernel
theorem dX12_sits_331 : decode prog_13_method_61_code 331 = .ok (.iload_n 3, 1) := by decide +kernel
theorem dX12_sits_332 : decode prog_13_method_61_code 332 = .ok (.ishl, 1) := by decide +kernel
theorem dX12_sits_333 : decode prog_13_method_61_code 333 = .ok (.ior, 1) := by decide +kernel
theorem dX12_sits_334 : decode prog_13_method_61_code 334 = .ok (.putfield 440, 3) := by decide +kernel
theorem dX12_sits_337 : decode prog_13_method_61_code 337 = .ok (.iinc 3 1, 3) := by decide +kernel
theorem dX12_sits_340 : decode prog_13_method_61_code 340 = .ok (.goto (-89), 3) := by decide +kernel
theorem dX12_sits_343 : decode prog_13_method_61_code 343 = .ok (.return_, 1) := by decide +kernel
theorem dX12_fairNow_0 : decode prog_13_method_62_code 0 = .ok (.iconst (-1), 1) := by decide +kernel
theorem dX12_fairNow_1 : decode prog_13_method_62_code 1 = .ok (.istore_n 1, 1) := by decide +kernel
theorem dX12_fairNow_2 : decode prog_13_method_62_code 2 = .ok (.iconst (-1), 1) := by decide +kernel
theorem dX12_fairNow_3 : decode prog_13_method_62_code 3 = .ok (.istore_n 2, 1) := by decide +kernel
theorem dX12_fairNow_4 : decode prog_13_method_62_code 4 = .ok (.iconst 0, 1) := by decide +kernel
theorem dX12_fairNow_5 : decode prog_13_method_62_code 5 = .ok (.istore_n 3, 1) := by decide +kernel
theorem dX12_fairNow_6 : decode prog_13_method_62_code 6 = .ok (.iload_n 3, 1) := by decide +kernel
theorem dX12_fairNow_7 : decode prog_13_method_62_code 7 = .ok (.aload_n 0, 1) := by decide +kernel
theorem dX12_fairNow_8 : decode prog_13_method_62_code 8 = .ok (.getfield 409, 3) := by decide +kernel
theorem dX12_fairNow_11 : decode prog_13_method_62_code 11 = .ok (.getfield 230, 3) := by decide +kernel
theorem dX12_fairNow_14 : decode prog_13_method_62_code 14 = .ok (.if_icmp .ge 78, 3) := by decide +kernel
theorem dX12_fairNow_17 : decode prog_13_method_62_code 17 = .ok (.aload_n 0, 1) := by decide +kernel
theorem dX12_fairNow_18 : decode prog_13_method_62_code 18 = .ok (.getfield 30, 3) := by decide +kernel
theorem dX12_fairNow_21 : decode prog_13_method_62_code 21 = .ok (.aload_n 0, 1) := by decide +kernel
theorem dX12_fairNow_22 : decode prog_13_method_62_code 22 = .ok (.getfield 409, 3) := by decide +kernel
theorem dX12_fairNow_25 : decode prog_13_method_62_code 25 = .ok (.getfield 176, 3) := by decide +kernel
theorem dX12_fairNow_28 : decode prog_13_method_62_code 28 = .ok (.iaload, 1) := by decide +kernel
theorem dX12_fairNow_29 : decode prog_13_method_62_code 29 = .ok (.iload_n 3, 1) := by decide +kernel
theorem dX12_fairNow_30 : decode prog_13_method_62_code 30 = .ok (.invokestatic 386, 3) := by decide +kernel
theorem dX12_fairNow_33 : decode prog_13_method_62_code 33 = .ok (.ifCond .ne 6, 3) := by decide +kernel
theorem dX12_fairNow_36 : decode prog_13_method_62_code 36 = .ok (.goto 50, 3) := by decide +kernel
theorem dX12_fairNow_39 : decode prog_13_method_62_code 39 = .ok (.aload_n 0, 1) := by decide +kernel
theorem dX12_fairNow_40 : decode prog_13_method_62_code 40 = .ok (.getfield 58, 3) := by decide +kernel
theorem dX12_fairNow_43 : decode prog_13_method_62_code 43 = .ok (.iload_n 3, 1) := by decide +kernel
theorem dX12_fairNow_44 : decode prog_13_method_62_code 44 = .ok (.iaload, 1) := by decide +kernel
theorem dX12_fairNow_45 : decode prog_13_method_62_code 45 = .ok (.iload_n 1, 1) := by decide +kernel
theorem dX12_fairNow_46 : decode prog_13_method_62_code 46 = .ok (.if_icmp .le 12, 3) := by decide +kernel
theorem dX12_fairNow_49 : decode prog_13_method_62_code 49 = .ok (.aload_n 0, 1) := by decide +kernel
theorem dX12_fairNow_50 : decode prog_13_method_62_code 50 = .ok (.getfield 58, 3) := by decide +kernel
theorem dX12_fairNow_53 : decode prog_13_method_62_code 53 = .ok (.iload_n 3, 1) := by decide +kernel
theorem dX12_fairNow_54 : decode prog_13_method_62_code 54 = .ok (.iaload, 1) := by decide +kernel
theorem dX12_fairNow_55 : decode prog_13_method_62_code 55 = .ok (.goto 4, 3) := by decide +kernel
theorem dX12_fairNow_58 : decode prog_13_method_62_code 58 = .ok (.iload_n 1, 1) := by decide +kernel
theorem dX12_fairNow_59 : decode prog_13_method_62_code 59 = .ok (.istore_n 1, 1) := by decide +kernel
theorem dX12_fairNow_60 : decode prog_13_method_62_code 60 = .ok (.iload_n 2, 1) := by decide +kernel
theorem dX12_fairNow_61 : decode prog_13_method_62_code 61 = .ok (.iconst (-1), 1) := by decide +kernel
theorem dX12_fairNow_62 : decode prog_13_method_62_code 62 = .ok (.if_icmp .eq 13, 3) := by decide +kernel
theorem dX12_fairNow_65 : decode prog_13_method_62_code 65 = .ok (.aload_n 0, 1) := by decide +kernel
theorem dX12_fairNow_66 : decode prog_13_method_62_code 66 = .ok (.getfield 58, 3) := by decide +kernel
theorem dX12_fairNow_69 : decode prog_13_method_62_code 69 = .ok (.iload_n 3, 1) := by decide +kernel
theorem dX12_fairNow_70 : decode prog_13_method_62_code 70 = .ok (.iaload, 1) := by decide +kernel
theorem dX12_fairNow_71 : decode prog_13_method_62_code 71 = .ok (.iload_n 2, 1) := by decide +kernel
theorem dX12_fairNow_72 : decode prog_13_method_62_code 72 = .ok (.if_icmp .ge 12, 3) := by decide +kernel
theorem dX12_fairNow_75 : decode prog_13_method_62_code 75 = .ok (.aload_n 0, 1) := by decide +kernel
theorem dX12_fairNow_76 : decode prog_13_method_62_code 76 = .ok (.getfield 58, 3) := by decide +kernel
theorem dX12_fairNow_79 : decode prog_13_method_62_code 79 = .ok (.iload_n 3, 1) := by decide +kernel
theorem dX12_fairNow_80 : decode prog_13_method_62_code 80 = .ok (.iaload, 1) := by decide +kernel
theorem dX12_fairNow_81 : decode prog_13_method_62_code 81 = .ok (.goto 4, 3) := by decide +kernel
theorem dX12_fairNow_84 : decode prog_13_method_62_code 84 = .ok (.iload_n 2, 1) := by decide +kernel
theorem dX12_fairNow_85 : decode prog_13_method_62_code 85 = .ok (.istore_n 2, 1) := by decide +kernel
theorem dX12_fairNow_86 : decode prog_13_method_62_code 86 = .ok (.iinc 3 1, 3) := by decide +kernel
theorem dX12_fairNow_89 : decode prog_13_method_62_code 89 = .ok (.goto (-83), 3) := by decide +kernel
theorem dX12_fairNow_92 : decode prog_13_method_62_code 92 = .ok (.iload_n 1, 1) := by decide +kernel
theorem dX12_fairNow_93 : decode prog_13_method_62_code 93 = .ok (.iconst (-1), 1) := by decide +kernel
theorem dX12_fairNow_94 : decode prog_13_method_62_code 94 = .ok (.if_icmp .ne 7, 3) := by decide +kernel
theorem dX12_fairNow_97 : decode prog_13_method_62_code 97 = .ok (.iconst 0, 1) := by decide +kernel
theorem dX12_fairNow_98 : decode prog_13_method_62_code 98 = .ok (.goto 6, 3) := by decide +kernel
theorem dX12_fairNow_101 : decode prog_13_method_62_code 101 = .ok (.iload_n 1, 1) := by decide +kernel
theorem dX12_fairNow_102 : decode prog_13_method_62_code 102 = .ok (.iload_n 2, 1) := by decide +kernel
theorem dX12_fairNow_103 : decode prog_13_method_62_code 103 = .ok (.isub, 1) := by decide +kernel
theorem dX12_fairNow_104 : decode prog_13_method_62_code 104 = .ok (.ireturn, 1) := by decide +kernel
theorem dX12_emptyYears_0 : decode prog_13_method_63_code 0 = .ok (.iconst 0, 1) := by decide +kernel
theorem dX12_emptyYears_1 : decode prog_13_method_63_code 1 = .ok (.istore_n 1, 1) := by decide +kernel
theorem dX12_emptyYears_2 : decode prog_13_method_63_code 2 = .ok (.iconst 0, 1) := by decide +kernel
theorem dX12_emptyYears_3 : decode prog_13_method_63_code 3 = .ok (.istore_n 2, 1) := by decide +kernel
theorem dX12_emptyYears_4 : decode prog_13_method_63_code 4 = .ok (.iload_n 2, 1) := by decide +kernel
theorem dX12_emptyYears_5 : decode prog_13_method_63_code 5 = .ok (.aload_n 0, 1) := by decide +kernel
theorem dX12_emptyYears_6 : decode prog_13_method_63_code 6 = .ok (.getfield 409, 3) := by decide +kernel
theorem dX12_emptyYears_9 : decode prog_13_method_63_code 9 = .ok (.getfield 176, 3) := by decide +kernel
theorem dX12_emptyYears_12 : decode prog_13_method_63_code 12 = .ok (.if_icmp .ge 26, 3) := by decide +kernel
theorem dX12_emptyYears_15 : decode prog_13_method_63_code 15 = .ok (.iload_n 1, 1) := by decide +kernel
theorem dX12_emptyYears_16 : decode prog_13_method_63_code 16 = .ok (.aload_n 0, 1) := by decide +kernel
theorem dX12_emptyYears_17 : decode prog_13_method_63_code 17 = .ok (.getfield 42, 3) := by decide +kernel
theorem dX12_emptyYears_20 : decode prog_13_method_63_code 20 = .ok (.iload_n 2, 1) := by decide +kernel
theorem dX12_emptyYears_21 : decode prog_13_method_63_code 21 = .ok (.baload, 1) := by decide +kernel
theorem dX12_emptyYears_22 : decode prog_13_method_63_code 22 = .ok (.ifCond .eq 7, 3) := by decide +kernel
theorem dX12_emptyYears_25 : decode prog_13_method_63_code 25 = .ok (.iconst 1, 1) := by decide +kernel
theorem dX12_emptyYears_26 : decode prog_13_method_63_code 26 = .ok (.goto 4, 3) := by decide +kernel
theorem dX12_emptyYears_29 : decode prog_13_method_63_code 29 = .ok (.iconst 0, 1) := by decide +kernel
theorem dX12_emptyYears_30 : decode prog_13_method_63_code 30 = .ok (.iadd, 1) := by decide +kernel
theorem dX12_emptyYears_31 : decode prog_13_method_63_code 31 = .ok (.istore_n 1, 1) := by decide +kernel
theorem dX12_emptyYears_32 : decode prog_13_method_63_code 32 = .ok (.iinc 2 1, 3) := by decide +kernel
theorem dX12_emptyYears_35 : decode prog_13_method_63_code 35 = .ok (.goto (-31), 3) := by decide +kernel
theorem dX12_emptyYears_38 : decode prog_13_method_63_code 38 = .ok (.iload_n 1, 1) := by decide +kernel
theorem dX12_emptyYears_39 : decode prog_13_method_63_code 39 = .ok (.ireturn, 1) := by decide +kernel
theorem dX12_isPerson_0 : decode prog_13_method_64_code 0 = .ok (.aload_n 0, 1) := by decide +kernel
theorem dX12_isPerson_1 : decode prog_13_method_64_code 1 = .ok (.getfield 409, 3) := by decide +kernel
theorem dX12_isPerson_4 : decode prog_13_method_64_code 4 = .ok (.ifnull 22, 3) := by decide +kernel
theorem dX12_isPerson_7 : decode prog_13_method_64_code 7 = .ok (.iload_n 1, 1) := by decide +kernel
theorem dX12_isPerson_8 : decode prog_13_method_64_code 8 = .ok (.ifCond .lt 18, 3) := by decide +kernel
theorem dX12_isPerson_11 : decode prog_13_method_64_code 11 = .ok (.iload_n 1, 1) := by decide +kernel
theorem dX12_isPerson_12 : decode prog_13_method_64_code 12 = .ok (.aload_n 0, 1) := by decide +kernel
theorem dX12_isPerson_13 : decode prog_13_method_64_code 13 = .ok (.getfield 409, 3) := by decide +kernel
theorem dX12_isPerson_16 : decode prog_13_method_64_code 16 = .ok (.getfield 230, 3) := by decide +kernel
theorem dX12_isPerson_19 : decode prog_13_method_64_code 19 = .ok (.if_icmp .ge 7, 3) := by decide +kernel
theorem dX12_isPerson_22 : decode prog_13_method_64_code 22 = .ok (.iconst 1, 1) := by decide +kernel
theorem dX12_isPerson_23 : decode prog_13_method_64_code 23 = .ok (.goto 4, 3) := by decide +kernel
theorem dX12_isPerson_26 : decode prog_13_method_64_code 26 = .ok (.iconst 0, 1) := by decide +kernel
theorem dX12_isPerson_27 : decode prog_13_method_64_code 27 = .ok (.ireturn, 1) := by decide +kernel
theorem dX12_isSecretNumber_0 : decode prog_13_method_65_code 0 = .ok (.aload_n 0, 1) := by decide +kernel
theorem dX12_isSecretNumber_1 : decode prog_13_method_65_code 1 = .ok (.getfield 409, 3) := by decide +kernel
theorem dX12_isSecretNumber_4 : decode prog_13_method_65_code 4 = .ok (.ifnull 22, 3) := by decide +kernel
theorem dX12_isSecretNumber_7 : decode prog_13_method_65_code 7 = .ok (.iload_n 1, 1) := by decide +kernel
theorem dX12_isSecretNumber_8 : decode prog_13_method_65_code 8 = .ok (.ifCond .lt 18, 3) := by decide +kernel
theorem dX12_isSecretNumber_11 : decode prog_13_method_65_code 11 = .ok (.iload_n 1, 1) := by decide +kernel
theorem dX12_isSecretNumber_12 : decode prog_13_method_65_code 12 = .ok (.aload_n 0, 1) := by decide +kernel
theorem dX12_isSecretNumber_13 : decode prog_13_method_65_code 13 = .ok (.getfield 409, 3) := by decide +kernel
theorem dX12_isSecretNumber_16 : decode prog_13_method_65_code 16 = .ok (.getfield 375, 3) := by decide +kernel
theorem dX12_isSecretNumber_19 : decode prog_13_method_65_code 19 = .ok (.if_icmp .ge 7, 3) := by decide +kernel
theorem dX12_isSecretNumber_22 : decode prog_13_method_65_code 22 = .ok (.iconst 1, 1) := by decide +kernel
theorem dX12_isSecretNumber_23 : decode prog_13_method_65_code 23 = .ok (.goto 4, 3) := by decide +kernel
theorem dX12_isSecretNumber_26 : decode prog_13_method_65_code 26 = .ok (.iconst 0, 1) := by decide +kernel
theorem dX12_isSecretNumber_27 : decode prog_13_method_65_code 27 = .ok (.ireturn, 1) := by decide +kernel
theorem dX12_isYear_0 : decode prog_13_method_66_code 0 = .ok (.iload_n 1, 1) := by decide +kernel
theorem dX12_isYear_1 : decode prog_13_method_66_code 1 = .ok (.ifCond .lt 18, 3) := by decide +kernel
theorem dX12_isYear_4 : decode prog_13_method_66_code 4 = .ok (.iload_n 1, 1) := by decide +kernel
theorem dX12_isYear_5 : decode prog_13_method_66_code 5 = .ok (.aload_n 0, 1) := by decide +kernel
theorem dX12_isYear_6 : decode prog_13_method_66_code 6 = .ok (.getfield 409, 3) := by decide +kernel
theorem dX12_isYear_9 : decode prog_13_method_66_code 9 = .ok (.getfield 176, 3) := by decide +kernel
theorem dX12_isYear_12 : decode prog_13_method_66_code 12 = .ok (.if_icmp .ge 7, 3) := by decide +kernel
theorem dX12_isYear_15 : decode prog_13_method_66_code 15 = .ok (.iconst 1, 1) := by decide +kernel
theorem dX12_isYear_16 : decode prog_13_method_66_code 16 = .ok (.goto 4, 3) := by decide +kernel
theorem dX12_isYear_19 : decode prog_13_method_66_code 19 = .ok (.iconst 0, 1) := by decide +kernel
theorem dX12_isYear_20 : decode prog_13_method_66_code 20 = .ok (.ireturn, 1) := by decide +kernel
theorem dX12_asksYear_0 : decode prog_13_method_67_code 0 = .ok (.aload_n 0, 1) := by decide +kernel
theorem dX12_asksYear_1 : decode prog_13_method_67_code 1 = .ok (.getfield 409, 3) := by decide +kernel
theorem dX12_asksYear_4 : decode prog_13_method_67_code 4 = .ok (.ifnull 7, 3) := by decide +kernel
theorem dX12_asksYear_7 : decode prog_13_method_67_code 7 = .ok (.iload_n 1, 1) := by decide +kernel
theorem dX12_asksYear_8 : decode prog_13_method_67_code 8 = .ok (.ifCond .ne 5, 3) := by decide +kernel
theorem dX12_asksYear_11 : decode prog_13_method_67_code 11 = .ok (.iconst 1, 1) := by decide +kernel
theorem dX12_asksYear_12 : decode prog_13_method_67_code 12 = .ok (.ireturn, 1) := by decide +kernel
theorem dX12_asksYear_13 : decode prog_13_method_67_code 13 = .ok (.aload_n 0, 1) := by decide +kernel
theorem dX12_asksYear_14 : decode prog_13_method_67_code 14 = .ok (.iload_n 2, 1) := by decide +kernel
theorem dX12_asksYear_15 : decode prog_13_method_67_code 15 = .ok (.invokevirtual 507, 3) := by decide +kernel
theorem dX12_asksYear_18 : decode prog_13_method_67_code 18 = .ok (.ifCond .ne 5, 3) := by decide +kernel
theorem dX12_asksYear_21 : decode prog_13_method_67_code 21 = .ok (.iconst 2, 1) := by decide +kernel
theorem dX12_asksYear_22 : decode prog_13_method_67_code 22 = .ok (.ireturn, 1) := by decide +kernel
theorem dX12_asksYear_23 : decode prog_13_method_67_code 23 = .ok (.aload_n 0, 1) := by decide +kernel
theorem dX12_asksYear_24 : decode prog_13_method_67_code 24 = .ok (.invokevirtual 510, 3) := by decide +kernel
theorem dX12_asksYear_27 : decode prog_13_method_67_code 27 = .ok (.iconst 0, 1) := by decide +kernel
theorem dX12_asksYear_28 : decode prog_13_method_67_code 28 = .ok (.ireturn, 1) := by decide +kernel
theorem dX12_asks_0 : decode prog_13_method_68_code 0 = .ok (.aload_n 0, 1) := by decide +kernel
theorem dX12_asks_1 : decode prog_13_method_68_code 1 = .ok (.getfield 409, 3) := by decide +kernel
theorem dX12_asks_4 : decode prog_13_method_68_code 4 = .ok (.ifnull 7, 3) := by decide +kernel
theorem dX12_asks_7 : decode prog_13_method_68_code 7 = .ok (.iload_n 1, 1) := by decide +kernel
theorem dX12_asks_8 : decode prog_13_method_68_code 8 = .ok (.ifCond .ne 5, 3) := by decide +kernel
theorem dX12_asks_11 : decode prog_13_method_68_code 11 = .ok (.iconst 0, 1) := by decide +kernel
theorem dX12_asks_12 : decode prog_13_method_68_code 12 = .ok (.ireturn, 1) := by decide +kernel
theorem dX12_asks_13 : decode prog_13_method_68_code 13 = .ok (.aload_n 0, 1) := by decide +kernel
theorem dX12_asks_14 : decode prog_13_method_68_code 14 = .ok (.invokevirtual 510, 3) := by decide +kernel
theorem dX12_asks_17 : decode prog_13_method_68_code 17 = .ok (.iconst 1, 1) := by decide +kernel
theorem dX12_asks_18 : decode prog_13_method_68_code 18 = .ok (.ireturn, 1) := by decide +kernel
theorem dX12_person_0 : decode prog_13_method_69_code 0 = .ok (.aload_n 0, 1) := by decide +kernel
theorem dX12_person_1 : decode prog_13_method_69_code 1 = .ok (.iconst 0, 1) := by decide +kernel
theorem dX12_person_2 : decode prog_13_method_69_code 2 = .ok (.putfield 85, 3) := by decide +kernel
theorem dX12_person_5 : decode prog_13_method_69_code 5 = .ok (.aload_n 0, 1) := by decide +kernel
theorem dX12_person_6 : decode prog_13_method_69_code 6 = .ok (.iload_n 1, 1) := by decide +kernel
theorem dX12_person_7 : decode prog_13_method_69_code 7 = .ok (.invokevirtual 513, 3) := by decide +kernel
theorem dX12_person_10 : decode prog_13_method_69_code 10 = .ok (.ifCond .eq 13, 3) := by decide +kernel
theorem dX12_person_13 : decode prog_13_method_69_code 13 = .ok (.iload_n 2, 1) := by decide +kernel
theorem dX12_person_14 : decode prog_13_method_69_code 14 = .ok (.iconst 0, 1) := by decide +kernel
theorem dX12_person_15 : decode prog_13_method_69_code 15 = .ok (.bipush 6, 2) := by decide +kernel
theorem dX12_person_17 : decode prog_13_method_69_code 17 = .ok (.invokestatic 160, 3) := by decide +kernel
theorem dX12_person_20 : decode prog_13_method_69_code 20 = .ok (.ifCond .ne 9, 3) := by decide +kernel
theorem dX12_person_23 : decode prog_13_method_69_code 23 = .ok (.aload_n 0, 1) := by decide +kernel
theorem dX12_person_24 : decode prog_13_method_69_code 24 = .ok (.iconst 1, 1) := by decide +kernel
theorem dX12_person_25 : decode prog_13_method_69_code 25 = .ok (.invokevirtual 91, 3) := by decide +kernel
theorem dX12_person_28 : decode prog_13_method_69_code 28 = .ok (.ireturn, 1) := by decide +kernel
theorem dX12_person_29 : decode prog_13_method_69_code 29 = .ok (.iload_n 2, 1) := by decide +kernel
theorem dX12_person_30 : decode prog_13_method_69_code 30 = .ok (.tableswitch 139 0 5 #[38, 52, 66, 97, 111, 125], 38) := by decide +kernel
theorem dX12_person_68 : decode prog_13_method_69_code 68 = .ok (.aload_n 0, 1) := by decide +kernel
theorem dX12_person_69 : decode prog_13_method_69_code 69 = .ok (.aload_n 0, 1) := by decide +kernel
theorem dX12_person_70 : decode prog_13_method_69_code 70 = .ok (.getfield 409, 3) := by decide +kernel
theorem dX12_person_73 : decode prog_13_method_69_code 73 = .ok (.getfield 323, 3) := by decide +kernel
theorem dX12_person_76 : decode prog_13_method_69_code 76 = .ok (.iload_n 1, 1) := by decide +kernel
theorem dX12_person_77 : decode prog_13_method_69_code 77 = .ok (.iaload, 1) := by decide +kernel
theorem dX12_person_78 : decode prog_13_method_69_code 78 = .ok (.invokevirtual 95, 3) := by decide +kernel
theorem dX12_person_81 : decode prog_13_method_69_code 81 = .ok (.ireturn, 1) := by decide +kernel
theorem dX12_person_82 : decode prog_13_method_69_code 82 = .ok (.aload_n 0, 1) := by decide +kernel
theorem dX12_person_83 : decode prog_13_method_69_code 83 = .ok (.aload_n 0, 1) := by decide +kernel
theorem dX12_person_84 : decode prog_13_method_69_code 84 = .ok (.getfield 409, 3) := by decide +kernel
theorem dX12_person_87 : decode prog_13_method_69_code 87 = .ok (.getfield 326, 3) := by decide +kernel
theorem dX12_person_90 : decode prog_13_method_69_code 90 = .ok (.iload_n 1, 1) := by decide +kernel
theorem dX12_person_91 : decode prog_13_method_69_code 91 = .ok (.iaload, 1) := by decide +kernel
theorem dX12_person_92 : decode prog_13_method_69_code 92 = .ok (.invokevirtual 95, 3) := by decide +kernel
theorem dX12_person_95 : decode prog_13_method_69_code 95 = .ok (.ireturn, 1) := by decide +kernel
theorem dX12_person_96 : decode prog_13_method_69_code 96 = .ok (.aload_n 0, 1) := by decide +kernel
theorem dX12_person_97 : decode prog_13_method_69_code 97 = .ok (.aload_n 0, 1) := by decide +kernel
theorem dX12_person_98 : decode prog_13_method_69_code 98 = .ok (.getfield 409, 3) := by decide +kernel
theorem dX12_person_101 : decode prog_13_method_69_code 101 = .ok (.iload_n 1, 1) := by decide +kernel
theorem dX12_person_102 : decode prog_13_method_69_code 102 = .ok (.iconst 0, 1) := by decide +kernel
theorem dX12_person_103 : decode prog_13_method_69_code 103 = .ok (.invokevirtual 452, 3) := by decide +kernel
theorem dX12_person_106 : decode prog_13_method_69_code 106 = .ok (.ifCond .eq 15, 3) := by decide +kernel
theorem dX12_person_109 : decode prog_13_method_69_code 109 = .ok (.aload_n 0, 1) := by decide +kernel
theorem dX12_person_110 : decode prog_13_method_69_code 110 = .ok (.getfield 409, 3) := by decide +kernel
theorem dX12_person_113 : decode prog_13_method_69_code 113 = .ok (.iload_n 1, 1) := by decide +kernel
theorem dX12_person_114 : decode prog_13_method_69_code 114 = .ok (.iconst 0, 1) := by decide +kernel
theorem dX12_person_115 : decode prog_13_method_69_code 115 = .ok (.invokevirtual 458, 3) := by decide +kernel
theorem dX12_person_118 : decode prog_13_method_69_code 118 = .ok (.goto 5, 3) := by decide +kernel
theorem dX12_person_121 : decode prog_13_method_69_code 121 = .ok (.bipush (-100), 2) := by decide +kernel
theorem dX12_person_123 : decode prog_13_method_69_code 123 = .ok (.invokevirtual 95, 3) := by decide +kernel
theorem dX12_person_126 : decode prog_13_method_69_code 126 = .ok (.ireturn, 1) := by decide +kernel
theorem dX12_person_127 : decode prog_13_method_69_code 127 = .ok (.aload_n 0, 1) := by decide +kernel
theorem dX12_person_128 : decode prog_13_method_69_code 128 = .ok (.aload_n 0, 1) := by decide +kernel
theorem dX12_person_129 : decode prog_13_method_69_code 129 = .ok (.getfield 409, 3) := by decide +kernel
theorem dX12_person_132 : decode prog_13_method_69_code 132 = .ok (.getfield 330, 3) := by decide +kernel
theorem dX12_person_135 : decode prog_13_method_69_code 135 = .ok (.iload_n 1, 1) := by decide +kernel
theorem dX12_person_136 : decode prog_13_method_69_code 136 = .ok (.iaload, 1) := by decide +kernel
theorem dX12_person_137 : decode prog_13_method_69_code 137 = .ok (.invokevirtual 95, 3) := by decide +kernel
theorem dX12_person_140 : decode prog_13_method_69_code 140 = .ok (.ireturn, 1) := by decide +kernel
theorem dX12_person_141 : decode prog_13_method_69_code 141 = .ok (.aload_n 0, 1) := by decide +kernel
theorem dX12_person_142 : decode prog_13_method_69_code 142 = .ok (.aload_n 0, 1) := by decide +kernel
theorem dX12_person_143 : decode prog_13_method_69_code 143 = .ok (.getfield 409, 3) := by decide +kernel
theorem dX12_person_146 : decode prog_13_method_69_code 146 = .ok (.getfield 331, 3) := by decide +kernel
theorem dX12_person_149 : decode prog_13_method_69_code 149 = .ok (.iload_n 1, 1) := by decide +kernel
theorem dX12_person_150 : decode prog_13_method_69_code 150 = .ok (.iaload, 1) := by decide +kernel
theorem dX12_person_151 : decode prog_13_method_69_code 151 = .ok (.invokevirtual 95, 3) := by decide +kernel
theorem dX12_person_154 : decode prog_13_method_69_code 154 = .ok (.ireturn, 1) := by decide +kernel
theorem dX12_person_155 : decode prog_13_method_69_code 155 = .ok (.aload_n 0, 1) := by decide +kernel
theorem dX12_person_156 : decode prog_13_method_69_code 156 = .ok (.aload_n 0, 1) := by decide +kernel
theorem dX12_person_157 : decode prog_13_method_69_code 157 = .ok (.getfield 409, 3) := by decide +kernel
theorem dX12_person_160 : decode prog_13_method_69_code 160 = .ok (.getfield 333, 3) := by decide +kernel
theorem dX12_person_163 : decode prog_13_method_69_code 163 = .ok (.iload_n 1, 1) := by decide +kernel
theorem dX12_person_164 : decode prog_13_method_69_code 164 = .ok (.iaload, 1) := by decide +kernel
theorem dX12_person_165 : decode prog_13_method_69_code 165 = .ok (.invokevirtual 95, 3) := by decide +kernel
theorem dX12_person_168 : decode prog_13_method_69_code 168 = .ok (.ireturn, 1) := by decide +kernel
theorem dX12_person_169 : decode prog_13_method_69_code 169 = .ok (.aload_n 0, 1) := by decide +kernel
theorem dX12_person_170 : decode prog_13_method_69_code 170 = .ok (.aload_n 0, 1) := by decide +kernel
theorem dX12_person_171 : decode prog_13_method_69_code 171 = .ok (.getfield 17, 3) := by decide +kernel
theorem dX12_person_174 : decode prog_13_method_69_code 174 = .ok (.iconst 2, 1) := by decide +kernel
theorem dX12_person_175 : decode prog_13_method_69_code 175 = .ok (.iload_n 1, 1) := by decide +kernel
theorem dX12_person_176 : decode prog_13_method_69_code 176 = .ok (.iadd, 1) := by decide +kernel
theorem dX12_person_177 : decode prog_13_method_69_code 177 = .ok (.iaload, 1) := by decide +kernel
theorem dX12_person_178 : decode prog_13_method_69_code 178 = .ok (.invokevirtual 95, 3) := by decide +kernel
theorem dX12_person_181 : decode prog_13_method_69_code 181 = .ok (.ireturn, 1) := by decide +kernel
theorem dX12_plan_0 : decode prog_13_method_70_code 0 = .ok (.aload_n 0, 1) := by decide +kernel
theorem dX12_plan_1 : decode prog_13_method_70_code 1 = .ok (.iconst 0, 1) := by decide +kernel
theorem dX12_plan_2 : decode prog_13_method_70_code 2 = .ok (.putfield 85, 3) := by decide +kernel
theorem dX12_plan_5 : decode prog_13_method_70_code 5 = .ok (.aload_n 0, 1) := by decide +kernel
theorem dX12_plan_6 : decode prog_13_method_70_code 6 = .ok (.getfield 409, 3) := by decide +kernel
theorem dX12_plan_9 : decode prog_13_method_70_code 9 = .ok (.ifnull 27, 3) := by decide +kernel
theorem dX12_plan_12 : decode prog_13_method_70_code 12 = .ok (.iload_n 1, 1) := by decide +kernel
theorem dX12_plan_13 : decode prog_13_method_70_code 13 = .ok (.ifCond .lt 23, 3) := by decide +kernel
theorem dX12_plan_16 : decode prog_13_method_70_code 16 = .ok (.iload_n 1, 1) := by decide +kernel
theorem dX12_plan_17 : decode prog_13_method_70_code 17 = .ok (.aload_n 0, 1) := by decide +kernel
theorem dX12_plan_18 : decode prog_13_method_70_code 18 = .ok (.getfield 409, 3) := by decide +kernel
theorem dX12_plan_21 : decode prog_13_method_70_code 21 = .ok (.getfield 337, 3) := by decide +kernel
theorem dX12_plan_24 : decode prog_13_method_70_code 24 = .ok (.if_icmp .ge 12, 3) := by decide +kernel
theorem dX12_plan_27 : decode prog_13_method_70_code 27 = .ok (.iload_n 2, 1) := by decide +kernel
theorem dX12_plan_28 : decode prog_13_method_70_code 28 = .ok (.iconst 0, 1) := by decide +kernel
theorem dX12_plan_29 : decode prog_13_method_70_code 29 = .ok (.iconst 3, 1) := by decide +kernel
theorem dX12_plan_30 : decode prog_13_method_70_code 30 = .ok (.invokestatic 160, 3) := by decide +kernel
theorem dX12_plan_33 : decode prog_13_method_70_code 33 = .ok (.ifCond .ne 9, 3) := by decide +kernel
theorem dX12_plan_36 : decode prog_13_method_70_code 36 = .ok (.aload_n 0, 1) := by decide +kernel
theorem dX12_plan_37 : decode prog_13_method_70_code 37 = .ok (.iconst 1, 1) := by decide +kernel
theorem dX12_plan_38 : decode prog_13_method_70_code 38 = .ok (.invokevirtual 91, 3) := by decide +kernel
theorem dX12_plan_41 : decode prog_13_method_70_code 41 = .ok (.ireturn, 1) := by decide +kernel
theorem dX12_plan_42 : decode prog_13_method_70_code 42 = .ok (.aload_n 0, 1) := by decide +kernel
theorem dX12_plan_43 : decode prog_13_method_70_code 43 = .ok (.iload_n 2, 1) := by decide +kernel
theorem dX12_plan_44 : decode prog_13_method_70_code 44 = .ok (.ifCond .ne 15, 3) := by decide +kernel
theorem dX12_plan_47 : decode prog_13_method_70_code 47 = .ok (.aload_n 0, 1) := by decide +kernel
theorem dX12_plan_48 : decode prog_13_method_70_code 48 = .ok (.getfield 409, 3) := by decide +kernel
theorem dX12_plan_51 : decode prog_13_method_70_code 51 = .ok (.getfield 347, 3) := by decide +kernel
theorem dX12_plan_54 : decode prog_13_method_70_code 54 = .ok (.iload_n 1, 1) := by decide +kernel
theorem dX12_plan_55 : decode prog_13_method_70_code 55 = .ok (.iaload, 1) := by decide +kernel
theorem dX12_plan_56 : decode prog_13_method_70_code 56 = .ok (.goto 46, 3) := by decide +kernel
theorem dX12_plan_59 : decode prog_13_method_70_code 59 = .ok (.iload_n 2, 1) := by decide +kernel
theorem dX12_plan_60 : decode prog_13_method_70_code 60 = .ok (.iconst 1, 1) := by decide +kernel
theorem dX12_plan_61 : decode prog_13_method_70_code 61 = .ok (.if_icmp .ne 15, 3) := by decide +kernel
theorem dX12_plan_64 : decode prog_13_method_70_code 64 = .ok (.aload_n 0, 1) := by decide +kernel
theorem dX12_plan_65 : decode prog_13_method_70_code 65 = .ok (.getfield 409, 3) := by decide +kernel
theorem dX12_plan_68 : decode prog_13_method_70_code 68 = .ok (.getfield 350, 3) := by decide +kernel
theorem dX12_plan_71 : decode prog_13_method_70_code 71 = .ok (.iload_n 1, 1) := by decide +kernel
theorem dX12_plan_72 : decode prog_13_method_70_code 72 = .ok (.iaload, 1) := by decide +kernel
theorem dX12_plan_73 : decode prog_13_method_70_code 73 = .ok (.goto 29, 3) := by decide +kernel
theorem dX12_plan_76 : decode prog_13_method_70_code 76 = .ok (.iload_n 2, 1) := by decide +kernel
theorem dX12_plan_77 : decode prog_13_method_70_code 77 = .ok (.iconst 2, 1) := by decide +kernel
theorem dX12_plan_78 : decode prog_13_method_70_code 78 = .ok (.if_icmp .ne 15, 3) := by decide +kernel
theorem dX12_plan_81 : decode prog_13_method_70_code 81 = .ok (.aload_n 0, 1) := by decide +kernel
theorem dX12_plan_82 : decode prog_13_method_70_code 82 = .ok (.getfield 409, 3) := by decide +kernel
theorem dX12_plan_85 : decode prog_13_method_70_code 85 = .ok (.getfield 353, 3) := by decide +kernel
theorem dX12_plan_88 : decode prog_13_method_70_code 88 = .ok (.iload_n 1, 1) := by decide +kernel
theorem dX12_plan_89 : decode prog_13_method_70_code 89 = .ok (.iaload, 1) := by decide +kernel
theorem dX12_plan_90 : decode prog_13_method_70_code 90 = .ok (.goto 12, 3) := by decide +kernel
theorem dX12_plan_93 : decode prog_13_method_70_code 93 = .ok (.aload_n 0, 1) := by decide +kernel
theorem dX12_plan_94 : decode prog_13_method_70_code 94 = .ok (.getfield 409, 3) := by decide +kernel
theorem dX12_plan_97 : decode prog_13_method_70_code 97 = .ok (.getfield 356, 3) := by decide +kernel
theorem dX12_plan_100 : decode prog_13_method_70_code 100 = .ok (.iload_n 1, 1) := by decide +kernel
theorem dX12_plan_101 : decode prog_13_method_70_code 101 = .ok (.iaload, 1) := by decide +kernel
theorem dX12_plan_102 : decode prog_13_method_70_code 102 = .ok (.invokevirtual 95, 3) := by decide +kernel
theorem dX12_plan_105 : decode prog_13_method_70_code 105 = .ok (.ireturn, 1) := by decide +kernel
theorem dX12_secret_0 : decode prog_13_method_71_code 0 = .ok (.aload_n 0, 1) := by decide +kernel
theorem dX12_secret_1 : decode prog_13_method_71_code 1 = .ok (.iconst 0, 1) := by decide +kernel
theorem dX12_secret_2 : decode prog_13_method_71_code 2 = .ok (.putfield 85, 3) := by decide +kernel
theorem dX12_secret_5 : decode prog_13_method_71_code 5 = .ok (.aload_n 0, 1) := by decide +kernel
theorem dX12_secret_6 : decode prog_13_method_71_code 6 = .ok (.iload_n 1, 1) := by decide +kernel
theorem dX12_secret_7 : decode prog_13_method_71_code 7 = .ok (.invokevirtual 516, 3) := by decide +kernel
theorem dX12_secret_10 : decode prog_13_method_71_code 10 = .ok (.ifCond .eq 19, 3) := by decide +kernel
theorem dX12_secret_13 : decode prog_13_method_71_code 13 = .ok (.aload_n 0, 1) := by decide +kernel
theorem dX12_secret_14 : decode prog_13_method_71_code 14 = .ok (.aload_n 0, 1) := by decide +kernel
theorem dX12_secret_15 : decode prog_13_method_71_code 15 = .ok (.getfield 409, 3) := by decide +kernel
theorem dX12_secret_18 : decode prog_13_method_71_code 18 = .ok (.getfield 378, 3) := by decide +kernel
theorem dX12_secret_21 : decode prog_13_method_71_code 21 = .ok (.iload_n 1, 1) := by decide +kernel
theorem dX12_secret_22 : decode prog_13_method_71_code 22 = .ok (.iaload, 1) := by decide +kernel
theorem dX12_secret_23 : decode prog_13_method_71_code 23 = .ok (.invokevirtual 95, 3) := by decide +kernel
theorem dX12_secret_26 : decode prog_13_method_71_code 26 = .ok (.goto 8, 3) := by decide +kernel
theorem dX12_secret_29 : decode prog_13_method_71_code 29 = .ok (.aload_n 0, 1) := by decide +kernel
theorem dX12_secret_30 : decode prog_13_method_71_code 30 = .ok (.iconst 1, 1) := by decide +kernel
theorem dX12_secret_31 : decode prog_13_method_71_code 31 = .ok (.invokevirtual 91, 3) := by decide +kernel
theorem dX12_secret_34 : decode prog_13_method_71_code 34 = .ok (.ireturn, 1) := by decide +kernel
theorem dX12_elder_0 : decode prog_13_method_72_code 0 = .ok (.aload_n 0, 1) := by decide +kernel
theorem dX12_elder_1 : decode prog_13_method_72_code 1 = .ok (.iconst 0, 1) := by decide +kernel
theorem dX12_elder_2 : decode prog_13_method_72_code 2 = .ok (.putfield 85, 3) := by decide +kernel
theorem dX12_elder_5 : decode prog_13_method_72_code 5 = .ok (.aload_n 0, 1) := by decide +kernel
theorem dX12_elder_6 : decode prog_13_method_72_code 6 = .ok (.iconst 1, 1) := by decide +kernel
theorem dX12_elder_7 : decode prog_13_method_72_code 7 = .ok (.iload_n 1, 1) := by decide +kernel
theorem dX12_elder_8 : decode prog_13_method_72_code 8 = .ok (.invokevirtual 519, 3) := by decide +kernel
theorem dX12_elder_11 : decode prog_13_method_72_code 11 = .ok (.istore_n 2, 1) := by decide +kernel
theorem dX12_elder_12 : decode prog_13_method_72_code 12 = .ok (.iload_n 2, 1) := by decide +kernel
theorem dX12_elder_13 : decode prog_13_method_72_code 13 = .ok (.ifCond .le 11, 3) := by decide +kernel
theorem dX12_elder_16 : decode prog_13_method_72_code 16 = .ok (.aload_n 0, 1) := by decide +kernel
theorem dX12_elder_17 : decode prog_13_method_72_code 17 = .ok (.iload_n 2, 1) := by decide +kernel
theorem dX12_elder_18 : decode prog_13_method_72_code 18 = .ok (.invokevirtual 91, 3) := by decide +kernel
theorem dX12_elder_21 : decode prog_13_method_72_code 21 = .ok (.goto 13, 3) := by decide +kernel
theorem dX12_elder_24 : decode prog_13_method_72_code 24 = .ok (.aload_n 0, 1) := by decide +kernel
theorem dX12_elder_25 : decode prog_13_method_72_code 25 = .ok (.aload_n 0, 1) := by decide +kernel
theorem dX12_elder_26 : decode prog_13_method_72_code 26 = .ok (.getfield 27, 3) := by decide +kernel
theorem dX12_elder_29 : decode prog_13_method_72_code 29 = .ok (.iload_n 1, 1) := by decide +kernel
theorem dX12_elder_30 : decode prog_13_method_72_code 30 = .ok (.iaload, 1) := by decide +kernel
theorem dX12_elder_31 : decode prog_13_method_72_code 31 = .ok (.invokevirtual 95, 3) := by decide +kernel
theorem dX12_elder_34 : decode prog_13_method_72_code 34 = .ok (.ireturn, 1) := by decide +kernel
theorem dX12_empty_0 : decode prog_13_method_73_code 0 = .ok (.aload_n 0, 1) := by decide +kernel
theorem dX12_empty_1 : decode prog_13_method_73_code 1 = .ok (.iconst 0, 1) := by decide +kernel
theorem dX12_empty_2 : decode prog_13_method_73_code 2 = .ok (.putfield 85, 3) := by decide +kernel
theorem dX12_empty_5 : decode prog_13_method_73_code 5 = .ok (.aload_n 0, 1) := by decide +kernel
theorem dX12_empty_6 : decode prog_13_method_73_code 6 = .ok (.iconst 1, 1) := by decide +kernel
theorem dX12_empty_7 : decode prog_13_method_73_code 7 = .ok (.iload_n 1, 1) := by decide +kernel
theorem dX12_empty_8 : decode prog_13_method_73_code 8 = .ok (.invokevirtual 519, 3) := by decide +kernel
theorem dX12_empty_11 : decode prog_13_method_73_code 11 = .ok (.istore_n 2, 1) := by decide +kernel
theorem dX12_empty_12 : decode prog_13_method_73_code 12 = .ok (.iload_n 2, 1) := by decide +kernel
theorem dX12_empty_13 : decode prog_13_method_73_code 13 = .ok (.ifCond .le 11, 3) := by decide +kernel
theorem dX12_empty_16 : decode prog_13_method_73_code 16 = .ok (.aload_n 0, 1) := by decide +kernel
theorem dX12_empty_17 : decode prog_13_method_73_code 17 = .ok (.iload_n 2, 1) := by decide +kernel
theorem dX12_empty_18 : decode prog_13_method_73_code 18 = .ok (.invokevirtual 91, 3) := by decide +kernel
theorem dX12_empty_21 : decode prog_13_method_73_code 21 = .ok (.goto 21, 3) := by decide +kernel
theorem dX12_empty_24 : decode prog_13_method_73_code 24 = .ok (.aload_n 0, 1) := by decide +kernel
theorem dX12_empty_25 : decode prog_13_method_73_code 25 = .ok (.aload_n 0, 1) := by decide +kernel
theorem dX12_empty_26 : decode prog_13_method_73_code 26 = .ok (.getfield 42, 3) := by decide +kernel
theorem dX12_empty_29 : decode prog_13_method_73_code 29 = .ok (.iload_n 1, 1) := by decide +kernel
theorem dX12_empty_30 : decode prog_13_method_73_code 30 = .ok (.baload, 1) := by decide +kernel
theorem dX12_empty_31 : decode prog_13_method_73_code 31 = .ok (.ifCond .eq 7, 3) := by decide +kernel
theorem dX12_empty_34 : decode prog_13_method_73_code 34 = .ok (.iconst 1, 1) := by decide +kernel
theorem dX12_empty_35 : decode prog_13_method_73_code 35 = .ok (.goto 4, 3) := by decide +kernel
theorem dX12_empty_38 : decode prog_13_method_73_code 38 = .ok (.iconst 0, 1) := by decide +kernel
theorem dX12_empty_39 : decode prog_13_method_73_code 39 = .ok (.invokevirtual 95, 3) := by decide +kernel
theorem dX12_empty_42 : decode prog_13_method_73_code 42 = .ok (.ireturn, 1) := by decide +kernel
theorem dX12_there_0 : decode prog_13_method_74_code 0 = .ok (.aload_n 0, 1) := by decide +kernel
theorem dX12_there_1 : decode prog_13_method_74_code 1 = .ok (.iconst 0, 1) := by decide +kernel
theorem dX12_there_2 : decode prog_13_method_74_code 2 = .ok (.putfield 85, 3) := by decide +kernel
theorem dX12_there_5 : decode prog_13_method_74_code 5 = .ok (.aload_n 0, 1) := by decide +kernel
theorem dX12_there_6 : decode prog_13_method_74_code 6 = .ok (.iconst 1, 1) := by decide +kernel
theorem dX12_there_7 : decode prog_13_method_74_code 7 = .ok (.iload_n 1, 1) := by decide +kernel
theorem dX12_there_8 : decode prog_13_method_74_code 8 = .ok (.invokevirtual 519, 3) := by decide +kernel
theorem dX12_there_11 : decode prog_13_method_74_code 11 = .ok (.istore_n 2, 1) := by decide +kernel
theorem dX12_there_12 : decode prog_13_method_74_code 12 = .ok (.iload_n 2, 1) := by decide +kernel
theorem dX12_there_13 : decode prog_13_method_74_code 13 = .ok (.ifCond .le 11, 3) := by decide +kernel
theorem dX12_there_16 : decode prog_13_method_74_code 16 = .ok (.aload_n 0, 1) := by decide +kernel
theorem dX12_there_17 : decode prog_13_method_74_code 17 = .ok (.iload_n 2, 1) := by decide +kernel
theorem dX12_there_18 : decode prog_13_method_74_code 18 = .ok (.invokevirtual 91, 3) := by decide +kernel
theorem dX12_there_21 : decode prog_13_method_74_code 21 = .ok (.goto 13, 3) := by decide +kernel
theorem dX12_there_24 : decode prog_13_method_74_code 24 = .ok (.aload_n 0, 1) := by decide +kernel
theorem dX12_there_25 : decode prog_13_method_74_code 25 = .ok (.aload_n 0, 1) := by decide +kernel
theorem dX12_there_26 : decode prog_13_method_74_code 26 = .ok (.getfield 30, 3) := by decide +kernel
theorem dX12_there_29 : decode prog_13_method_74_code 29 = .ok (.iload_n 1, 1) := by decide +kernel
theorem dX12_there_30 : decode prog_13_method_74_code 30 = .ok (.iaload, 1) := by decide +kernel
theorem dX12_there_31 : decode prog_13_method_74_code 31 = .ok (.invokevirtual 95, 3) := by decide +kernel
theorem dX12_there_34 : decode prog_13_method_74_code 34 = .ok (.ireturn, 1) := by decide +kernel
theorem dX12_can_0 : decode prog_13_method_75_code 0 = .ok (.aload_n 0, 1) := by decide +kernel
theorem dX12_can_1 : decode prog_13_method_75_code 1 = .ok (.iconst 0, 1) := by decide +kernel
theorem dX12_can_2 : decode prog_13_method_75_code 2 = .ok (.putfield 85, 3) := by decide +kernel
theorem dX12_can_5 : decode prog_13_method_75_code 5 = .ok (.aload_n 0, 1) := by decide +kernel
theorem dX12_can_6 : decode prog_13_method_75_code 6 = .ok (.iconst 1, 1) := by decide +kernel
theorem dX12_can_7 : decode prog_13_method_75_code 7 = .ok (.iload_n 1, 1) := by decide +kernel
theorem dX12_can_8 : decode prog_13_method_75_code 8 = .ok (.invokevirtual 519, 3) := by decide +kernel
theorem dX12_can_11 : decode prog_13_method_75_code 11 = .ok (.istore_n 2, 1) := by decide +kernel
theorem dX12_can_12 : decode prog_13_method_75_code 12 = .ok (.iload_n 2, 1) := by decide +kernel
theorem dX12_can_13 : decode prog_13_method_75_code 13 = .ok (.ifCond .le 11, 3) := by decide +kernel
theorem dX12_can_16 : decode prog_13_method_75_code 16 = .ok (.aload_n 0, 1) := by decide +kernel
theorem dX12_can_17 : decode prog_13_method_75_code 17 = .ok (.iload_n 2, 1) := by decide +kernel
theorem dX12_can_18 : decode prog_13_method_75_code 18 = .ok (.invokevirtual 91, 3) := by decide +kernel
theorem dX12_can_21 : decode prog_13_method_75_code 21 = .ok (.goto 13, 3) := by decide +kernel
theorem dX12_can_24 : decode prog_13_method_75_code 24 = .ok (.aload_n 0, 1) := by decide +kernel
theorem dX12_can_25 : decode prog_13_method_75_code 25 = .ok (.aload_n 0, 1) := by decide +kernel
theorem dX12_can_26 : decode prog_13_method_75_code 26 = .ok (.getfield 33, 3) := by decide +kernel
theorem dX12_can_29 : decode prog_13_method_75_code 29 = .ok (.iload_n 1, 1) := by decide +kernel
theorem dX12_can_30 : decode prog_13_method_75_code 30 = .ok (.iaload, 1) := by decide +kernel
theorem dX12_can_31 : decode prog_13_method_75_code 31 = .ok (.invokevirtual 95, 3) := by decide +kernel
theorem dX12_can_34 : decode prog_13_method_75_code 34 = .ok (.ireturn, 1) := by decide +kernel
theorem dX12_age_0 : decode prog_13_method_76_code 0 = .ok (.aload_n 0, 1) := by decide +kernel
theorem dX12_age_1 : decode prog_13_method_76_code 1 = .ok (.iconst 0, 1) := by decide +kernel
theorem dX12_age_2 : decode prog_13_method_76_code 2 = .ok (.putfield 85, 3) := by decide +kernel
theorem dX12_age_5 : decode prog_13_method_76_code 5 = .ok (.aload_n 0, 1) := by decide +kernel
theorem dX12_age_6 : decode prog_13_method_76_code 6 = .ok (.aload_n 0, 1) := by decide +kernel
theorem dX12_age_7 : decode prog_13_method_76_code 7 = .ok (.iload_n 1, 1) := by decide +kernel
theorem dX12_age_8 : decode prog_13_method_76_code 8 = .ok (.invokevirtual 513, 3) := by decide +kernel
theorem dX12_age_11 : decode prog_13_method_76_code 11 = .ok (.iload_n 2, 1) := by decide +kernel
theorem dX12_age_12 : decode prog_13_method_76_code 12 = .ok (.invokevirtual 519, 3) := by decide +kernel
theorem dX12_age_15 : decode prog_13_method_76_code 15 = .ok (.istore_n 3, 1) := by decide +kernel
theorem dX12_age_16 : decode prog_13_method_76_code 16 = .ok (.iload_n 3, 1) := by decide +kernel
theorem dX12_age_17 : decode prog_13_method_76_code 17 = .ok (.ifCond .le 11, 3) := by decide +kernel
theorem dX12_age_20 : decode prog_13_method_76_code 20 = .ok (.aload_n 0, 1) := by decide +kernel
theorem dX12_age_21 : decode prog_13_method_76_code 21 = .ok (.iload_n 3, 1) := by decide +kernel
theorem dX12_age_22 : decode prog_13_method_76_code 22 = .ok (.invokevirtual 91, 3) := by decide +kernel
theorem dX12_age_25 : decode prog_13_method_76_code 25 = .ok (.goto 33, 3) := by decide +kernel
theorem dX12_age_28 : decode prog_13_method_76_code 28 = .ok (.aload_n 0, 1) := by decide +kernel
theorem dX12_age_29 : decode prog_13_method_76_code 29 = .ok (.aload_n 0, 1) := by decide +kernel
theorem dX12_age_30 : decode prog_13_method_76_code 30 = .ok (.getfield 409, 3) := by decide +kernel
theorem dX12_age_33 : decode prog_13_method_76_code 33 = .ok (.iload_n 1, 1) := by decide +kernel
theorem dX12_age_34 : decode prog_13_method_76_code 34 = .ok (.iload_n 2, 1) := by decide +kernel
theorem dX12_age_35 : decode prog_13_method_76_code 35 = .ok (.invokevirtual 452, 3) := by decide +kernel
theorem dX12_age_38 : decode prog_13_method_76_code 38 = .ok (.ifCond .eq 15, 3) := by decide +kernel
theorem dX12_age_41 : decode prog_13_method_76_code 41 = .ok (.aload_n 0, 1) := by decide +kernel
theorem dX12_age_42 : decode prog_13_method_76_code 42 = .ok (.getfield 409, 3) := by decide +kernel
theorem dX12_age_45 : decode prog_13_method_76_code 45 = .ok (.iload_n 1, 1) := by decide +kernel
theorem dX12_age_46 : decode prog_13_method_76_code 46 = .ok (.iload_n 2, 1) := by decide +kernel
theorem dX12_age_47 : decode prog_13_method_76_code 47 = .ok (.invokevirtual 458, 3) := by decide +kernel
theorem dX12_age_50 : decode prog_13_method_76_code 50 = .ok (.goto 5, 3) := by decide +kernel
theorem dX12_age_53 : decode prog_13_method_76_code 53 = .ok (.bipush (-2), 2) := by decide +kernel
theorem dX12_age_55 : decode prog_13_method_76_code 55 = .ok (.invokevirtual 95, 3) := by decide +kernel
theorem dX12_age_58 : decode prog_13_method_76_code 58 = .ok (.ireturn, 1) := by decide +kernel
theorem dX12_turnsOf_0 : decode prog_13_method_77_code 0 = .ok (.aload_n 0, 1) := by decide +kernel
theorem dX12_turnsOf_1 : decode prog_13_method_77_code 1 = .ok (.iconst 0, 1) := by decide +kernel
theorem dX12_turnsOf_2 : decode prog_13_method_77_code 2 = .ok (.putfield 85, 3) := by decide +kernel
theorem dX12_turnsOf_5 : decode prog_13_method_77_code 5 = .ok (.aload_n 0, 1) := by decide +kernel
theorem dX12_turnsOf_6 : decode prog_13_method_77_code 6 = .ok (.aload_n 0, 1) := by decide +kernel
theorem dX12_turnsOf_7 : decode prog_13_method_77_code 7 = .ok (.iload_n 1, 1) := by decide +kernel
theorem dX12_turnsOf_8 : decode prog_13_method_77_code 8 = .ok (.invokevirtual 513, 3) := by decide +kernel
theorem dX12_turnsOf_11 : decode prog_13_method_77_code 11 = .ok (.iload_n 2, 1) := by decide +kernel
theorem dX12_turnsOf_12 : decode prog_13_method_77_code 12 = .ok (.invokevirtual 519, 3) := by decide +kernel
theorem dX12_turnsOf_15 : decode prog_13_method_77_code 15 = .ok (.istore_n 3, 1) := by decide +kernel
theorem dX12_turnsOf_16 : decode prog_13_method_77_code 16 = .ok (.iload_n 3, 1) := by decide +kernel
theorem dX12_turnsOf_17 : decode prog_13_method_77_code 17 = .ok (.ifCond .le 11, 3) := by decide +kernel
theorem dX12_turnsOf_20 : decode prog_13_method_77_code 20 = .ok (.aload_n 0, 1) := by decide +kernel
theorem dX12_turnsOf_21 : decode prog_13_method_77_code 21 = .ok (.iload_n 3, 1) := by decide +kernel
theorem dX12_turnsOf_22 : decode prog_13_method_77_code 22 = .ok (.invokevirtual 91, 3) := by decide +kernel
theorem dX12_turnsOf_25 : decode prog_13_method_77_code 25 = .ok (.goto 18, 3) := by decide +kernel
theorem dX12_turnsOf_28 : decode prog_13_method_77_code 28 = .ok (.aload_n 0, 1) := by decide +kernel
theorem dX12_turnsOf_29 : decode prog_13_method_77_code 29 = .ok (.aload_n 0, 1) := by decide +kernel
theorem dX12_turnsOf_30 : decode prog_13_method_77_code 30 = .ok (.getfield 46, 3) := by decide +kernel
theorem dX12_turnsOf_33 : decode prog_13_method_77_code 33 = .ok (.bipush 10, 2) := by decide +kernel
theorem dX12_turnsOf_35 : decode prog_13_method_77_code 35 = .ok (.iload_n 2, 1) := by decide +kernel
theorem dX12_turnsOf_36 : decode prog_13_method_77_code 36 = .ok (.imul, 1) := by decide +kernel
theorem dX12_turnsOf_37 : decode prog_13_method_77_code 37 = .ok (.iload_n 1, 1) := by decide +kernel
theorem dX12_turnsOf_38 : decode prog_13_method_77_code 38 = .ok (.iadd, 1) := by decide +kernel
theorem dX12_turnsOf_39 : decode prog_13_method_77_code 39 = .ok (.iaload, 1) := by decide +kernel
theorem dX12_turnsOf_40 : decode prog_13_method_77_code 40 = .ok (.invokevirtual 95, 3) := by decide +kernel
theorem dX12_turnsOf_43 : decode prog_13_method_77_code 43 = .ok (.ireturn, 1) := by decide +kernel
theorem dX12_strength_0 : decode prog_13_method_78_code 0 = .ok (.aload_n 0, 1) := by decide +kernel
theorem dX12_strength_1 : decode prog_13_method_78_code 1 = .ok (.iconst 0, 1) := by decide +kernel
theorem dX12_strength_2 : decode prog_13_method_78_code 2 = .ok (.putfield 85, 3) := by decide +kernel
theorem dX12_strength_5 : decode prog_13_method_78_code 5 = .ok (.aload_n 0, 1) := by decide +kernel
theorem dX12_strength_6 : decode prog_13_method_78_code 6 = .ok (.aload_n 0, 1) := by decide +kernel
theorem dX12_strength_7 : decode prog_13_method_78_code 7 = .ok (.iload_n 1, 1) := by decide +kernel
theorem dX12_strength_8 : decode prog_13_method_78_code 8 = .ok (.invokevirtual 513, 3) := by decide +kernel
theorem dX12_strength_11 : decode prog_13_method_78_code 11 = .ok (.iload_n 2, 1) := by decide +kernel
theorem dX12_strength_12 : decode prog_13_method_78_code 12 = .ok (.invokevirtual 519, 3) := by decide +kernel
theorem dX12_strength_15 : decode prog_13_method_78_code 15 = .ok (.istore_n 3, 1) := by decide +kernel
theorem dX12_strength_16 : decode prog_13_method_78_code 16 = .ok (.iload_n 3, 1) := by decide +kernel
theorem dX12_strength_17 : decode prog_13_method_78_code 17 = .ok (.ifCond .le 11, 3) := by decide +kernel
theorem dX12_strength_20 : decode prog_13_method_78_code 20 = .ok (.aload_n 0, 1) := by decide +kernel
theorem dX12_strength_21 : decode prog_13_method_78_code 21 = .ok (.iload_n 3, 1) := by decide +kernel
theorem dX12_strength_22 : decode prog_13_method_78_code 22 = .ok (.invokevirtual 91, 3) := by decide +kernel
theorem dX12_strength_25 : decode prog_13_method_78_code 25 = .ok (.goto 18, 3) := by decide +kernel
theorem dX12_strength_28 : decode prog_13_method_78_code 28 = .ok (.aload_n 0, 1) := by decide +kernel
theorem dX12_strength_29 : decode prog_13_method_78_code 29 = .ok (.aload_n 0, 1) := by decide +kernel
theorem dX12_strength_30 : decode prog_13_method_78_code 30 = .ok (.getfield 49, 3) := by decide +kernel
theorem dX12_strength_33 : decode prog_13_method_78_code 33 = .ok (.bipush 10, 2) := by decide +kernel
theorem dX12_strength_35 : decode prog_13_method_78_code 35 = .ok (.iload_n 2, 1) := by decide +kernel
theorem dX12_strength_36 : decode prog_13_method_78_code 36 = .ok (.imul, 1) := by decide +kernel
theorem dX12_strength_37 : decode prog_13_method_78_code 37 = .ok (.iload_n 1, 1) := by decide +kernel
theorem dX12_strength_38 : decode prog_13_method_78_code 38 = .ok (.iadd, 1) := by decide +kernel
theorem dX12_strength_39 : decode prog_13_method_78_code 39 = .ok (.iaload, 1) := by decide +kernel
theorem dX12_strength_40 : decode prog_13_method_78_code 40 = .ok (.invokevirtual 95, 3) := by decide +kernel
theorem dX12_strength_43 : decode prog_13_method_78_code 43 = .ok (.ireturn, 1) := by decide +kernel
theorem dX12_knows_0 : decode prog_13_method_79_code 0 = .ok (.aload_n 0, 1) := by decide +kernel
theorem dX12_knows_1 : decode prog_13_method_79_code 1 = .ok (.iconst 0, 1) := by decide +kernel
theorem dX12_knows_2 : decode prog_13_method_79_code 2 = .ok (.putfield 85, 3) := by decide +kernel
theorem dX12_knows_5 : decode prog_13_method_79_code 5 = .ok (.aload_n 0, 1) := by decide +kernel
theorem dX12_knows_6 : decode prog_13_method_79_code 6 = .ok (.aload_n 0, 1) := by decide +kernel
theorem dX12_knows_7 : decode prog_13_method_79_code 7 = .ok (.iload_n 1, 1) := by decide +kernel
theorem dX12_knows_8 : decode prog_13_method_79_code 8 = .ok (.invokevirtual 513, 3) := by decide +kernel
theorem dX12_knows_11 : decode prog_13_method_79_code 11 = .ok (.iload_n 2, 1) := by decide +kernel
theorem dX12_knows_12 : decode prog_13_method_79_code 12 = .ok (.invokevirtual 519, 3) := by decide +kernel
theorem dX12_knows_15 : decode prog_13_method_79_code 15 = .ok (.istore_n 3, 1) := by decide +kernel
theorem dX12_knows_16 : decode prog_13_method_79_code 16 = .ok (.iload_n 3, 1) := by decide +kernel
theorem dX12_knows_17 : decode prog_13_method_79_code 17 = .ok (.ifCond .le 11, 3) := by decide +kernel
theorem dX12_knows_20 : decode prog_13_method_79_code 20 = .ok (.aload_n 0, 1) := by decide +kernel
theorem dX12_knows_21 : decode prog_13_method_79_code 21 = .ok (.iload_n 3, 1) := by decide +kernel
theorem dX12_knows_22 : decode prog_13_method_79_code 22 = .ok (.invokevirtual 91, 3) := by decide +kernel
theorem dX12_knows_25 : decode prog_13_method_79_code 25 = .ok (.goto 18, 3) := by decide +kernel
theorem dX12_knows_28 : decode prog_13_method_79_code 28 = .ok (.aload_n 0, 1) := by decide +kernel
theorem dX12_knows_29 : decode prog_13_method_79_code 29 = .ok (.aload_n 0, 1) := by decide +kernel
theorem dX12_knows_30 : decode prog_13_method_79_code 30 = .ok (.getfield 52, 3) := by decide +kernel
theorem dX12_knows_33 : decode prog_13_method_79_code 33 = .ok (.bipush 10, 2) := by decide +kernel
theorem dX12_knows_35 : decode prog_13_method_79_code 35 = .ok (.iload_n 2, 1) := by decide +kernel
theorem dX12_knows_36 : decode prog_13_method_79_code 36 = .ok (.imul, 1) := by decide +kernel
theorem dX12_knows_37 : decode prog_13_method_79_code 37 = .ok (.iload_n 1, 1) := by decide +kernel
theorem dX12_knows_38 : decode prog_13_method_79_code 38 = .ok (.iadd, 1) := by decide +kernel
theorem dX12_knows_39 : decode prog_13_method_79_code 39 = .ok (.iaload, 1) := by decide +kernel
theorem dX12_knows_40 : decode prog_13_method_79_code 40 = .ok (.invokevirtual 95, 3) := by decide +kernel
theorem dX12_knows_43 : decode prog_13_method_79_code 43 = .ok (.ireturn, 1) := by decide +kernel
theorem dX12_box_0 : decode prog_13_method_80_code 0 = .ok (.aload_n 0, 1) := by decide +kernel
theorem dX12_box_1 : decode prog_13_method_80_code 1 = .ok (.iconst 0, 1) := by decide +kernel
theorem dX12_box_2 : decode prog_13_method_80_code 2 = .ok (.putfield 85, 3) := by decide +kernel
theorem dX12_box_5 : decode prog_13_method_80_code 5 = .ok (.aload_n 0, 1) := by decide +kernel
theorem dX12_box_6 : decode prog_13_method_80_code 6 = .ok (.iconst 1, 1) := by decide +kernel
theorem dX12_box_7 : decode prog_13_method_80_code 7 = .ok (.iload_n 1, 1) := by decide +kernel
theorem dX12_box_8 : decode prog_13_method_80_code 8 = .ok (.invokevirtual 519, 3) := by decide +kernel
theorem dX12_box_11 : decode prog_13_method_80_code 11 = .ok (.istore_n 2, 1) := by decide +kernel
theorem dX12_box_12 : decode prog_13_method_80_code 12 = .ok (.iload_n 2, 1) := by decide +kernel
theorem dX12_box_13 : decode prog_13_method_80_code 13 = .ok (.ifCond .le 11, 3) := by decide +kernel
theorem dX12_box_16 : decode prog_13_method_80_code 16 = .ok (.aload_n 0, 1) := by decide +kernel
theorem dX12_box_17 : decode prog_13_method_80_code 17 = .ok (.iload_n 2, 1) := by decide +kernel
theorem dX12_box_18 : decode prog_13_method_80_code 18 = .ok (.invokevirtual 91, 3) := by decide +kernel
theorem dX12_box_21 : decode prog_13_method_80_code 21 = .ok (.goto 13, 3) := by decide +kernel
theorem dX12_box_24 : decode prog_13_method_80_code 24 = .ok (.aload_n 0, 1) := by decide +kernel
theorem dX12_box_25 : decode prog_13_method_80_code 25 = .ok (.aload_n 0, 1) := by decide +kernel
theorem dX12_box_26 : decode prog_13_method_80_code 26 = .ok (.getfield 36, 3) := by decide +kernel
theorem dX12_box_29 : decode prog_13_method_80_code 29 = .ok (.iload_n 1, 1) := by decide +kernel
theorem dX12_box_30 : decode prog_13_method_80_code 30 = .ok (.iaload, 1) := by decide +kernel
theorem dX12_box_31 : decode prog_13_method_80_code 31 = .ok (.invokevirtual 95, 3) := by decide +kernel
theorem dX12_box_34 : decode prog_13_method_80_code 34 = .ok (.ireturn, 1) := by decide +kernel
theorem dX12_kept_0 : decode prog_13_method_81_code 0 = .ok (.aload_n 0, 1) := by decide +kernel
theorem dX12_kept_1 : decode prog_13_method_81_code 1 = .ok (.iconst 0, 1) := by decide +kernel
theorem dX12_kept_2 : decode prog_13_method_81_code 2 = .ok (.putfield 85, 3) := by decide +kernel
theorem dX12_kept_5 : decode prog_13_method_81_code 5 = .ok (.aload_n 0, 1) := by decide +kernel
theorem dX12_kept_6 : decode prog_13_method_81_code 6 = .ok (.aload_n 0, 1) := by decide +kernel
theorem dX12_kept_7 : decode prog_13_method_81_code 7 = .ok (.iload_n 1, 1) := by decide +kernel
theorem dX12_kept_8 : decode prog_13_method_81_code 8 = .ok (.invokevirtual 516, 3) := by decide +kernel
theorem dX12_kept_11 : decode prog_13_method_81_code 11 = .ok (.iload_n 2, 1) := by decide +kernel
theorem dX12_kept_12 : decode prog_13_method_81_code 12 = .ok (.invokevirtual 519, 3) := by decide +kernel
theorem dX12_kept_15 : decode prog_13_method_81_code 15 = .ok (.istore_n 3, 1) := by decide +kernel
theorem dX12_kept_16 : decode prog_13_method_81_code 16 = .ok (.iload_n 3, 1) := by decide +kernel
theorem dX12_kept_17 : decode prog_13_method_81_code 17 = .ok (.ifCond .le 9, 3) := by decide +kernel
theorem dX12_kept_20 : decode prog_13_method_81_code 20 = .ok (.aload_n 0, 1) := by decide +kernel
theorem dX12_kept_21 : decode prog_13_method_81_code 21 = .ok (.iload_n 3, 1) := by decide +kernel
theorem dX12_kept_22 : decode prog_13_method_81_code 22 = .ok (.invokevirtual 91, 3) := by decide +kernel
theorem dX12_kept_25 : decode prog_13_method_81_code 25 = .ok (.ireturn, 1) := by decide +kernel
theorem dX12_kept_26 : decode prog_13_method_81_code 26 = .ok (.aload_n 0, 1) := by decide +kernel
theorem dX12_kept_27 : decode prog_13_method_81_code 27 = .ok (.aload_n 0, 1) := by decide +kernel
theorem dX12_kept_28 : decode prog_13_method_81_code 28 = .ok (.getfield 36, 3) := by decide +kernel
theorem dX12_kept_31 : decode prog_13_method_81_code 31 = .ok (.iload_n 2, 1) := by decide +kernel
theorem dX12_kept_32 : decode prog_13_method_81_code 32 = .ok (.iaload, 1) := by decide +kernel
theorem dX12_kept_33 : decode prog_13_method_81_code 33 = .ok (.iload_n 1, 1) := by decide +kernel
theorem dX12_kept_34 : decode prog_13_method_81_code 34 = .ok (.invokestatic 386, 3) := by decide +kernel
theorem dX12_kept_37 : decode prog_13_method_81_code 37 = .ok (.ifCond .eq 17, 3) := by decide +kernel
theorem dX12_kept_40 : decode prog_13_method_81_code 40 = .ok (.aload_n 0, 1) := by decide +kernel
theorem dX12_kept_41 : decode prog_13_method_81_code 41 = .ok (.getfield 55, 3) := by decide +kernel
theorem dX12_kept_44 : decode prog_13_method_81_code 44 = .ok (.bipush 8, 2) := by decide +kernel
theorem dX12_kept_46 : decode prog_13_method_81_code 46 = .ok (.iload_n 2, 1) := by decide +kernel
theorem dX12_kept_47 : decode prog_13_method_81_code 47 = .ok (.imul, 1) := by decide +kernel
theorem dX12_kept_48 : decode prog_13_method_81_code 48 = .ok (.iload_n 1, 1) := by decide +kernel
theorem dX12_kept_49 : decode prog_13_method_81_code 49 = .ok (.iadd, 1) := by decide +kernel
theorem dX12_kept_50 : decode prog_13_method_81_code 50 = .ok (.iaload, 1) := by decide +kernel
theorem dX12_kept_51 : decode prog_13_method_81_code 51 = .ok (.goto 5, 3) := by decide +kernel
theorem dX12_kept_54 : decode prog_13_method_81_code 54 = .ok (.bipush (-2), 2) := by decide +kernel
theorem dX12_kept_56 : decode prog_13_method_81_code 56 = .ok (.invokevirtual 95, 3) := by decide +kernel
theorem dX12_kept_59 : decode prog_13_method_81_code 59 = .ok (.ireturn, 1) := by decide +kernel
theorem dX12_harm_0 : decode prog_13_method_82_code 0 = .ok (.aload_n 0, 1) := by decide +kernel
theorem dX12_harm_1 : decode prog_13_method_82_code 1 = .ok (.iconst 0, 1) := by decide +kernel
theorem dX12_harm_2 : decode prog_13_method_82_code 2 = .ok (.putfield 85, 3) := by decide +kernel
theorem dX12_harm_5 : decode prog_13_method_82_code 5 = .ok (.aload_n 0, 1) := by decide +kernel
theorem dX12_harm_6 : decode prog_13_method_82_code 6 = .ok (.iconst 1, 1) := by decide +kernel
theorem dX12_harm_7 : decode prog_13_method_82_code 7 = .ok (.iload_n 1, 1) := by decide +kernel
theorem dX12_harm_8 : decode prog_13_method_82_code 8 = .ok (.invokevirtual 519, 3) := by decide +kernel
theorem dX12_harm_11 : decode prog_13_method_82_code 11 = .ok (.istore_n 2, 1) := by decide +kernel
theorem dX12_harm_12 : decode prog_13_method_82_code 12 = .ok (.iload_n 2, 1) := by decide +kernel
theorem dX12_harm_13 : decode prog_13_method_82_code 13 = .ok (.ifCond .le 11, 3) := by decide +kernel
theorem dX12_harm_16 : decode prog_13_method_82_code 16 = .ok (.aload_n 0, 1) := by decide +kernel
theorem dX12_harm_17 : decode prog_13_method_82_code 17 = .ok (.iload_n 2, 1) := by decide +kernel
theorem dX12_harm_18 : decode prog_13_method_82_code 18 = .ok (.invokevirtual 91, 3) := by decide +kernel
theorem dX12_harm_21 : decode prog_13_method_82_code 21 = .ok (.goto 13, 3) := by decide +kernel
theorem dX12_harm_24 : decode prog_13_method_82_code 24 = .ok (.aload_n 0, 1) := by decide +kernel
theorem dX12_harm_25 : decode prog_13_method_82_code 25 = .ok (.aload_n 0, 1) := by decide +kernel
theorem dX12_harm_26 : decode prog_13_method_82_code 26 = .ok (.getfield 39, 3) := by decide +kernel
theorem dX12_harm_29 : decode prog_13_method_82_code 29 = .ok (.iload_n 1, 1) := by decide +kernel
theorem dX12_harm_30 : decode prog_13_method_82_code 30 = .ok (.iaload, 1) := by decide +kernel
theorem dX12_harm_31 : decode prog_13_method_82_code 31 = .ok (.invokevirtual 95, 3) := by decide +kernel
theorem dX12_harm_34 : decode prog_13_method_82_code 34 = .ok (.ireturn, 1) := by decide +kernel
theorem dX12_harmAll_0 : decode prog_13_method_83_code 0 = .ok (.aload_n 0, 1) := by decide +kernel
theorem dX12_harmAll_1 : decode prog_13_method_83_code 1 = .ok (.iconst 0, 1) := by decide +kernel
theorem dX12_harmAll_2 : decode prog_13_method_83_code 2 = .ok (.putfield 85, 3) := by decide +kernel
theorem dX12_harmAll_5 : decode prog_13_method_83_code 5 = .ok (.aload_n 0, 1) := by decide +kernel
theorem dX12_harmAll_6 : decode prog_13_method_83_code 6 = .ok (.iconst 1, 1) := by decide +kernel
theorem dX12_harmAll_7 : decode prog_13_method_83_code 7 = .ok (.invokevirtual 523, 3) := by decide +kernel
theorem dX12_harmAll_10 : decode prog_13_method_83_code 10 = .ok (.ifCond .eq 14, 3) := by decide +kernel
theorem dX12_harmAll_13 : decode prog_13_method_83_code 13 = .ok (.aload_n 0, 1) := by decide +kernel
theorem dX12_harmAll_14 : decode prog_13_method_83_code 14 = .ok (.aload_n 0, 1) := by decide +kernel
theorem dX12_harmAll_15 : decode prog_13_method_83_code 15 = .ok (.getfield 437, 3) := by decide +kernel
theorem dX12_harmAll_18 : decode prog_13_method_83_code 18 = .ok (.invokevirtual 95, 3) := by decide +kernel
theorem dX12_harmAll_21 : decode prog_13_method_83_code 21 = .ok (.goto 8, 3) := by decide +kernel
theorem dX12_harmAll_24 : decode prog_13_method_83_code 24 = .ok (.aload_n 0, 1) := by decide +kernel
theorem dX12_harmAll_25 : decode prog_13_method_83_code 25 = .ok (.iconst 1, 1) := by decide +kernel
theorem dX12_harmAll_26 : decode prog_13_method_83_code 26 = .ok (.invokevirtual 91, 3) := by decide +kernel
theorem dX12_harmAll_29 : decode prog_13_method_83_code 29 = .ok (.ireturn, 1) := by decide +kernel
theorem dX12_harmOf_0 : decode prog_13_method_84_code 0 = .ok (.aload_n 0, 1) := by decide +kernel
theorem dX12_harmOf_1 : decode prog_13_method_84_code 1 = .ok (.iconst 0, 1) := by decide +kernel
theorem dX12_harmOf_2 : decode prog_13_method_84_code 2 = .ok (.putfield 85, 3) := by decide +kernel
theorem dX12_harmOf_5 : decode prog_13_method_84_code 5 = .ok (.aload_n 0, 1) := by decide +kernel
theorem dX12_harmOf_6 : decode prog_13_method_84_code 6 = .ok (.aload_n 0, 1) := by decide +kernel
theorem dX12_harmOf_7 : decode prog_13_method_84_code 7 = .ok (.iload_n 1, 1) := by decide +kernel
theorem dX12_harmOf_8 : decode prog_13_method_84_code 8 = .ok (.invokevirtual 513, 3) := by decide +kernel
theorem dX12_harmOf_11 : decode prog_13_method_84_code 11 = .ok (.invokevirtual 523, 3) := by decide +kernel
theorem dX12_harmOf_14 : decode prog_13_method_84_code 14 = .ok (.ifCond .eq 16, 3) := by decide +kernel
theorem dX12_harmOf_17 : decode prog_13_method_84_code 17 = .ok (.aload_n 0, 1) := by decide +kernel
theorem dX12_harmOf_18 : decode prog_13_method_84_code 18 = .ok (.aload_n 0, 1) := by decide +kernel
theorem dX12_harmOf_19 : decode prog_13_method_84_code 19 = .ok (.getfield 70, 3) := by decide +kernel
theorem dX12_harmOf_22 : decode prog_13_method_84_code 22 = .ok (.iload_n 1, 1) := by decide +kernel
theorem dX12_harmOf_23 : decode prog_13_method_84_code 23 = .ok (.iaload, 1) := by decide +kernel
theorem dX12_harmOf_24 : decode prog_13_method_84_code 24 = .ok (.invokevirtual 95, 3) := by decide +kernel
theorem dX12_harmOf_27 : decode prog_13_method_84_code 27 = .ok (.goto 8, 3) := by decide +kernel
theorem dX12_harmOf_30 : decode prog_13_method_84_code 30 = .ok (.aload_n 0, 1) := by decide +kernel
theorem dX12_harmOf_31 : decode prog_13_method_84_code 31 = .ok (.iconst 1, 1) := by decide +kernel
theorem dX12_harmOf_32 : decode prog_13_method_84_code 32 = .ok (.invokevirtual 91, 3) := by decide +kernel
theorem dX12_harmOf_35 : decode prog_13_method_84_code 35 = .ok (.ireturn, 1) := by decide +kernel
theorem dX12_purse_0 : decode prog_13_method_85_code 0 = .ok (.aload_n 0, 1) := by decide +kernel
theorem dX12_purse_1 : decode prog_13_method_85_code 1 = .ok (.iconst 0, 1) := by decide +kernel
theorem dX12_purse_2 : decode prog_13_method_85_code 2 = .ok (.putfield 85, 3) := by decide +kernel
theorem dX12_purse_5 : decode prog_13_method_85_code 5 = .ok (.aload_n 0, 1) := by decide +kernel
theorem dX12_purse_6 : decode prog_13_method_85_code 6 = .ok (.aload_n 0, 1) := by decide +kernel
theorem dX12_purse_7 : decode prog_13_method_85_code 7 = .ok (.iload_n 1, 1) := by decide +kernel
theorem dX12_purse_8 : decode prog_13_method_85_code 8 = .ok (.invokevirtual 513, 3) := by decide +kernel
theorem dX12_purse_11 : decode prog_13_method_85_code 11 = .ok (.invokevirtual 523, 3) := by decide +kernel
theorem dX12_purse_14 : decode prog_13_method_85_code 14 = .ok (.ifCond .eq 16, 3) := by decide +kernel
theorem dX12_purse_17 : decode prog_13_method_85_code 17 = .ok (.aload_n 0, 1) := by decide +kernel
theorem dX12_purse_18 : decode prog_13_method_85_code 18 = .ok (.aload_n 0, 1) := by decide +kernel
theorem dX12_purse_19 : decode prog_13_method_85_code 19 = .ok (.getfield 67, 3) := by decide +kernel
theorem dX12_purse_22 : decode prog_13_method_85_code 22 = .ok (.iload_n 1, 1) := by decide +kernel
theorem dX12_purse_23 : decode prog_13_method_85_code 23 = .ok (.iaload, 1) := by decide +kernel
theorem dX12_purse_24 : decode prog_13_method_85_code 24 = .ok (.invokevirtual 95, 3) := by decide +kernel
theorem dX12_purse_27 : decode prog_13_method_85_code 27 = .ok (.goto 8, 3) := by decide +kernel
theorem dX12_purse_30 : decode prog_13_method_85_code 30 = .ok (.aload_n 0, 1) := by decide +kernel
theorem dX12_purse_31 : decode prog_13_method_85_code 31 = .ok (.iconst 1, 1) := by decide +kernel
theorem dX12_purse_32 : decode prog_13_method_85_code 32 = .ok (.invokevirtual 527, 3) := by decide +kernel
theorem dX12_purse_35 : decode prog_13_method_85_code 35 = .ok (.ireturn, 1) := by decide +kernel
theorem dX12_first_0 : decode prog_13_method_86_code 0 = .ok (.aload_n 0, 1) := by decide +kernel
theorem dX12_first_1 : decode prog_13_method_86_code 1 = .ok (.iconst 0, 1) := by decide +kernel
theorem dX12_first_2 : decode prog_13_method_86_code 2 = .ok (.putfield 85, 3) := by decide +kernel
theorem dX12_first_5 : decode prog_13_method_86_code 5 = .ok (.aload_n 0, 1) := by decide +kernel
theorem dX12_first_6 : decode prog_13_method_86_code 6 = .ok (.aload_n 0, 1) := by decide +kernel
theorem dX12_first_7 : decode prog_13_method_86_code 7 = .ok (.iload_n 1, 1) := by decide +kernel
theorem dX12_first_8 : decode prog_13_method_86_code 8 = .ok (.invokevirtual 513, 3) := by decide +kernel
theorem dX12_first_11 : decode prog_13_method_86_code 11 = .ok (.invokevirtual 523, 3) := by decide +kernel
theorem dX12_first_14 : decode prog_13_method_86_code 14 = .ok (.ifCond .ne 9, 3) := by decide +kernel
theorem dX12_first_17 : decode prog_13_method_86_code 17 = .ok (.aload_n 0, 1) := by decide +kernel
theorem dX12_first_18 : decode prog_13_method_86_code 18 = .ok (.iconst 1, 1) := by decide +kernel
theorem dX12_first_19 : decode prog_13_method_86_code 19 = .ok (.invokevirtual 91, 3) := by decide +kernel
theorem dX12_first_22 : decode prog_13_method_86_code 22 = .ok (.ireturn, 1) := by decide +kernel
theorem dX12_first_23 : decode prog_13_method_86_code 23 = .ok (.iconst 0, 1) := by decide +kernel
theorem dX12_first_24 : decode prog_13_method_86_code 24 = .ok (.istore_n 2, 1) := by decide +kernel
theorem dX12_first_25 : decode prog_13_method_86_code 25 = .ok (.iload_n 2, 1) := by decide +kernel
theorem dX12_first_26 : decode prog_13_method_86_code 26 = .ok (.aload_n 0, 1) := by decide +kernel
theorem dX12_first_27 : decode prog_13_method_86_code 27 = .ok (.getfield 409, 3) := by decide +kernel
theorem dX12_first_30 : decode prog_13_method_86_code 30 = .ok (.getfield 176, 3) := by decide +kernel
theorem dX12_first_33 : decode prog_13_method_86_code 33 = .ok (.if_icmp .ge 25, 3) := by decide +kernel
theorem dX12_first_36 : decode prog_13_method_86_code 36 = .ok (.aload_n 0, 1) := by decide +kernel
theorem dX12_first_37 : decode prog_13_method_86_code 37 = .ok (.getfield 27, 3) := by decide +kernel
theorem dX12_first_40 : decode prog_13_method_86_code 40 = .ok (.iload_n 2, 1) := by decide +kernel
theorem dX12_first_41 : decode prog_13_method_86_code 41 = .ok (.iaload, 1) := by decide +kernel
theorem dX12_first_42 : decode prog_13_method_86_code 42 = .ok (.iload_n 1, 1) := by decide +kernel
theorem dX12_first_43 : decode prog_13_method_86_code 43 = .ok (.if_icmp .ne 9, 3) := by decide +kernel
theorem dX12_first_46 : decode prog_13_method_86_code 46 = .ok (.aload_n 0, 1) := by decide +kernel
theorem dX12_first_47 : decode prog_13_method_86_code 47 = .ok (.iload_n 2, 1) := by decide +kernel
theorem dX12_first_48 : decode prog_13_method_86_code 48 = .ok (.invokevirtual 95, 3) := by decide +kernel
theorem dX12_first_51 : decode prog_13_method_86_code 51 = .ok (.ireturn, 1) := by decide +kernel
theorem dX12_first_52 : decode prog_13_method_86_code 52 = .ok (.iinc 2 1, 3) := by decide +kernel
theorem dX12_first_55 : decode prog_13_method_86_code 55 = .ok (.goto (-30), 3) := by decide +kernel
theorem dX12_first_58 : decode prog_13_method_86_code 58 = .ok (.aload_n 0, 1) := by decide +kernel
theorem dX12_first_59 : decode prog_13_method_86_code 59 = .ok (.bipush (-2), 2) := by decide +kernel
theorem dX12_first_61 : decode prog_13_method_86_code 61 = .ok (.invokevirtual 95, 3) := by decide +kernel
theorem dX12_first_64 : decode prog_13_method_86_code 64 = .ok (.ireturn, 1) := by decide +kernel
theorem dX12_last_0 : decode prog_13_method_87_code 0 = .ok (.aload_n 0, 1) := by decide +kernel
theorem dX12_last_1 : decode prog_13_method_87_code 1 = .ok (.iconst 0, 1) := by decide +kernel
theorem dX12_last_2 : decode prog_13_method_87_code 2 = .ok (.putfield 85, 3) := by decide +kernel
theorem dX12_last_5 : decode prog_13_method_87_code 5 = .ok (.aload_n 0, 1) := by decide +kernel
theorem dX12_last_6 : decode prog_13_method_87_code 6 = .ok (.aload_n 0, 1) := by decide +kernel
theorem dX12_last_7 : decode prog_13_method_87_code 7 = .ok (.iload_n 1, 1) := by decide +kernel
theorem dX12_last_8 : decode prog_13_method_87_code 8 = .ok (.invokevirtual 513, 3) := by decide +kernel
theorem dX12_last_11 : decode prog_13_method_87_code 11 = .ok (.invokevirtual 523, 3) := by decide +kernel
theorem dX12_last_14 : decode prog_13_method_87_code 14 = .ok (.ifCond .ne 9, 3) := by decide +kernel
theorem dX12_last_17 : decode prog_13_method_87_code 17 = .ok (.aload_n 0, 1) := by decide +kernel
theorem dX12_last_18 : decode prog_13_method_87_code 18 = .ok (.iconst 1, 1) := by decide +kernel
theorem dX12_last_19 : decode prog_13_method_87_code 19 = .ok (.invokevirtual 91, 3) := by decide +kernel
theorem dX12_last_22 : decode prog_13_method_87_code 22 = .ok (.ireturn, 1) := by decide +kernel
theorem dX12_last_23 : decode prog_13_method_87_code 23 = .ok (.aload_n 0, 1) := by decide +kernel
theorem dX12_last_24 : decode prog_13_method_87_code 24 = .ok (.getfield 409, 3) := by decide +kernel
theorem dX12_last_27 : decode prog_13_method_87_code 27 = .ok (.getfield 176, 3) := by decide +kernel
theorem dX12_last_30 : decode prog_13_method_87_code 30 = .ok (.iconst 1, 1) := by decide +kernel
theorem dX12_last_31 : decode prog_13_method_87_code 31 = .ok (.isub, 1) := by decide +kernel
theorem dX12_last_32 : decode prog_13_method_87_code 32 = .ok (.istore_n 2, 1) := by decide +kernel
theorem dX12_last_33 : decode prog_13_method_87_code 33 = .ok (.iload_n 2, 1) := by decide +kernel
theorem dX12_last_34 : decode prog_13_method_87_code 34 = .ok (.ifCond .lt 25, 3) := by decide +kernel
theorem dX12_last_37 : decode prog_13_method_87_code 37 = .ok (.aload_n 0, 1) := by decide +kernel
theorem dX12_last_38 : decode prog_13_method_87_code 38 = .ok (.getfield 27, 3) := by decide +kernel
theorem dX12_last_41 : decode prog_13_method_87_code 41 = .ok (.iload_n 2, 1) := by decide +kernel
theorem dX12_last_42 : decode prog_13_method_87_code 42 = .ok (.iaload, 1) := by decide +kernel
theorem dX12_last_43 : decode prog_13_method_87_code 43 = .ok (.iload_n 1, 1) := by decide +kernel
theorem dX12_last_44 : decode prog_13_method_87_code 44 = .ok (.if_icmp .ne 9, 3) := by decide +kernel
theorem dX12_last_47 : decode prog_13_method_87_code 47 = .ok (.aload_n 0, 1) := by decide +kernel
theorem dX12_last_48 : decode prog_13_method_87_code 48 = .ok (.iload_n 2, 1) := by decide +kernel
theorem dX12_last_49 : decode prog_13_method_87_code 49 = .ok (.invokevirtual 95, 3) := by decide +kernel
theorem dX12_last_52 : decode prog_13_method_87_code 52 = .ok (.ireturn, 1) := by decide +kernel
theorem dX12_last_53 : decode prog_13_method_87_code 53 = .ok (.iinc 2 (-1), 3) := by decide +kernel
theorem dX12_last_56 : decode prog_13_method_87_code 56 = .ok (.goto (-23), 3) := by decide +kernel
theorem dX12_last_59 : decode prog_13_method_87_code 59 = .ok (.aload_n 0, 1) := by decide +kernel
theorem dX12_last_60 : decode prog_13_method_87_code 60 = .ok (.bipush (-2), 2) := by decide +kernel
theorem dX12_last_62 : decode prog_13_method_87_code 62 = .ok (.invokevirtual 95, 3) := by decide +kernel
theorem dX12_last_65 : decode prog_13_method_87_code 65 = .ok (.ireturn, 1) := by decide +kernel
theorem dX12_fair_0 : decode prog_13_method_88_code 0 = .ok (.aload_n 0, 1) := by decide +kernel
theorem dX12_fair_1 : decode prog_13_method_88_code 1 = .ok (.iconst 0, 1) := by decide +kernel
theorem dX12_fair_2 : decode prog_13_method_88_code 2 = .ok (.putfield 85, 3) := by decide +kernel
theorem dX12_fair_5 : decode prog_13_method_88_code 5 = .ok (.aload_n 0, 1) := by decide +kernel
theorem dX12_fair_6 : decode prog_13_method_88_code 6 = .ok (.iconst 1, 1) := by decide +kernel
theorem dX12_fair_7 : decode prog_13_method_88_code 7 = .ok (.invokevirtual 523, 3) := by decide +kernel
theorem dX12_fair_10 : decode prog_13_method_88_code 10 = .ok (.ifCond .eq 14, 3) := by decide +kernel
theorem dX12_fair_13 : decode prog_13_method_88_code 13 = .ok (.aload_n 0, 1) := by decide +kernel
theorem dX12_fair_14 : decode prog_13_method_88_code 14 = .ok (.aload_n 0, 1) := by decide +kernel
theorem dX12_fair_15 : decode prog_13_method_88_code 15 = .ok (.invokevirtual 530, 3) := by decide +kernel
theorem dX12_fair_18 : decode prog_13_method_88_code 18 = .ok (.invokevirtual 95, 3) := by decide +kernel
theorem dX12_fair_21 : decode prog_13_method_88_code 21 = .ok (.goto 8, 3) := by decide +kernel
theorem dX12_fair_24 : decode prog_13_method_88_code 24 = .ok (.aload_n 0, 1) := by decide +kernel
theorem dX12_fair_25 : decode prog_13_method_88_code 25 = .ok (.iconst 1, 1) := by decide +kernel
theorem dX12_fair_26 : decode prog_13_method_88_code 26 = .ok (.invokevirtual 91, 3) := by decide +kernel
theorem dX12_fair_29 : decode prog_13_method_88_code 29 = .ok (.ireturn, 1) := by decide +kernel
theorem dX12_deaths_0 : decode prog_13_method_89_code 0 = .ok (.aload_n 0, 1) := by decide +kernel
theorem dX12_deaths_1 : decode prog_13_method_89_code 1 = .ok (.iconst 0, 1) := by decide +kernel
theorem dX12_deaths_2 : decode prog_13_method_89_code 2 = .ok (.putfield 85, 3) := by decide +kernel
theorem dX12_deaths_5 : decode prog_13_method_89_code 5 = .ok (.aload_n 0, 1) := by decide +kernel
theorem dX12_deaths_6 : decode prog_13_method_89_code 6 = .ok (.iconst 1, 1) := by decide +kernel
theorem dX12_deaths_7 : decode prog_13_method_89_code 7 = .ok (.invokevirtual 523, 3) := by decide +kernel
theorem dX12_deaths_10 : decode prog_13_method_89_code 10 = .ok (.ifCond .eq 14, 3) := by decide +kernel
theorem dX12_deaths_13 : decode prog_13_method_89_code 13 = .ok (.aload_n 0, 1) := by decide +kernel
theorem dX12_deaths_14 : decode prog_13_method_89_code 14 = .ok (.aload_n 0, 1) := by decide +kernel
theorem dX12_deaths_15 : decode prog_13_method_89_code 15 = .ok (.getfield 434, 3) := by decide +kernel
theorem dX12_deaths_18 : decode prog_13_method_89_code 18 = .ok (.invokevirtual 95, 3) := by decide +kernel
theorem dX12_deaths_21 : decode prog_13_method_89_code 21 = .ok (.goto 8, 3) := by decide +kernel
theorem dX12_deaths_24 : decode prog_13_method_89_code 24 = .ok (.aload_n 0, 1) := by decide +kernel
theorem dX12_deaths_25 : decode prog_13_method_89_code 25 = .ok (.iconst 1, 1) := by decide +kernel
theorem dX12_deaths_26 : decode prog_13_method_89_code 26 = .ok (.invokevirtual 91, 3) := by decide +kernel
theorem dX12_deaths_29 : decode prog_13_method_89_code 29 = .ok (.ireturn, 1) := by decide +kernel
theorem dX12_soonest_0 : decode prog_13_method_90_code 0 = .ok (.aload_n 0, 1) := by decide +kernel
theorem dX12_soonest_1 : decode prog_13_method_90_code 1 = .ok (.iconst 0, 1) := by decide +kernel
theorem dX12_soonest_2 : decode prog_13_method_90_code 2 = .ok (.putfield 85, 3) := by decide +kernel
theorem dX12_soonest_5 : decode prog_13_method_90_code 5 = .ok (.aload_n 0, 1) := by decide +kernel
theorem dX12_soonest_6 : decode prog_13_method_90_code 6 = .ok (.aload_n 0, 1) := by decide +kernel
theorem dX12_soonest_7 : decode prog_13_method_90_code 7 = .ok (.iload_n 1, 1) := by decide +kernel
theorem dX12_soonest_8 : decode prog_13_method_90_code 8 = .ok (.invokevirtual 516, 3) := by decide +kernel
theorem dX12_soonest_11 : decode prog_13_method_90_code 11 = .ok (.ifCond .eq 15, 3) := by decide +kernel
theorem dX12_soonest_14 : decode prog_13_method_90_code 14 = .ok (.aload_n 0, 1) := by decide +kernel
theorem dX12_soonest_15 : decode prog_13_method_90_code 15 = .ok (.iload_n 2, 1) := by decide +kernel
theorem dX12_soonest_16 : decode prog_13_method_90_code 16 = .ok (.invokevirtual 513, 3) := by decide +kernel
theorem dX12_soonest_19 : decode prog_13_method_90_code 19 = .ok (.ifCond .eq 7, 3) := by decide +kernel
theorem dX12_soonest_22 : decode prog_13_method_90_code 22 = .ok (.iconst 1, 1) := by decide +kernel
theorem dX12_soonest_23 : decode prog_13_method_90_code 23 = .ok (.goto 4, 3) := by decide +kernel
theorem dX12_soonest_26 : decode prog_13_method_90_code 26 = .ok (.iconst 0, 1) := by decide +kernel
theorem dX12_soonest_27 : decode prog_13_method_90_code 27 = .ok (.invokevirtual 523, 3) := by decide +kernel
theorem dX12_soonest_30 : decode prog_13_method_90_code 30 = .ok (.ifCond .ne 9, 3) := by decide +kernel
theorem dX12_soonest_33 : decode prog_13_method_90_code 33 = .ok (.aload_n 0, 1) := by decide +kernel
theorem dX12_soonest_34 : decode prog_13_method_90_code 34 = .ok (.iconst 1, 1) := by decide +kernel
theorem dX12_soonest_35 : decode prog_13_method_90_code 35 = .ok (.invokevirtual 91, 3) := by decide +kernel
theorem dX12_soonest_38 : decode prog_13_method_90_code 38 = .ok (.ireturn, 1) := by decide +kernel
theorem dX12_soonest_39 : decode prog_13_method_90_code 39 = .ok (.iconst 0, 1) := by decide +kernel
theorem dX12_soonest_40 : decode prog_13_method_90_code 40 = .ok (.istore_n 3, 1) := by decide +kernel
theorem dX12_soonest_41 : decode prog_13_method_90_code 41 = .ok (.iload_n 3, 1) := by decide +kernel
theorem dX12_soonest_42 : decode prog_13_method_90_code 42 = .ok (.aload_n 0, 1) := by decide +kernel
theorem dX12_soonest_43 : decode prog_13_method_90_code 43 = .ok (.getfield 409, 3) := by decide +kernel
theorem dX12_soonest_46 : decode prog_13_method_90_code 46 = .ok (.getfield 176, 3) := by decide +kernel
theorem dX12_soonest_49 : decode prog_13_method_90_code 49 = .ok (.if_icmp .ge 33, 3) := by decide +kernel
theorem dX12_soonest_52 : decode prog_13_method_90_code 52 = .ok (.aload_n 0, 1) := by decide +kernel
theorem dX12_soonest_53 : decode prog_13_method_90_code 53 = .ok (.getfield 52, 3) := by decide +kernel
theorem dX12_soonest_56 : decode prog_13_method_90_code 56 = .ok (.bipush 10, 2) := by decide +kernel
theorem dX12_soonest_58 : decode prog_13_method_90_code 58 = .ok (.iload_n 3, 1) := by decide +kernel
theorem dX12_soonest_59 : decode prog_13_method_90_code 59 = .ok (.imul, 1) := by decide +kernel
theorem dX12_soonest_60 : decode prog_13_method_90_code 60 = .ok (.iload_n 2, 1) := by decide +kernel
theorem dX12_soonest_61 : decode prog_13_method_90_code 61 = .ok (.iadd, 1) := by decide +kernel
theorem dX12_soonest_62 : decode prog_13_method_90_code 62 = .ok (.iaload, 1) := by decide +kernel
theorem dX12_soonest_63 : decode prog_13_method_90_code 63 = .ok (.iload_n 1, 1) := by decide +kernel
theorem dX12_soonest_64 : decode prog_13_method_90_code 64 = .ok (.invokestatic 386, 3) := by decide +kernel
theorem dX12_soonest_67 : decode prog_13_method_90_code 67 = .ok (.ifCond .eq 9, 3) := by decide +kernel
theorem dX12_soonest_70 : decode prog_13_method_90_code 70 = .ok (.aload_n 0, 1) := by decide +kernel
theorem dX12_soonest_71 : decode prog_13_method_90_code 71 = .ok (.iload_n 3, 1) := by decide +kernel
theorem dX12_soonest_72 : decode prog_13_method_90_code 72 = .ok (.invokevirtual 95, 3) := by decide +kernel
theorem dX12_soonest_75 : decode prog_13_method_90_code 75 = .ok (.ireturn, 1) := by decide +kernel
theorem dX12_soonest_76 : decode prog_13_method_90_code 76 = .ok (.iinc 3 1, 3) := by decide +kernel
theorem dX12_soonest_79 : decode prog_13_method_90_code 79 = .ok (.goto (-38), 3) := by decide +kernel
theorem dX12_soonest_82 : decode prog_13_method_90_code 82 = .ok (.aload_n 0, 1) := by decide +kernel
theorem dX12_soonest_83 : decode prog_13_method_90_code 83 = .ok (.bipush (-2), 2) := by decide +kernel
theorem dX12_soonest_85 : decode prog_13_method_90_code 85 = .ok (.invokevirtual 95, 3) := by decide +kernel
theorem dX12_soonest_88 : decode prog_13_method_90_code 88 = .ok (.ireturn, 1) := by decide +kernel
theorem dX12_know_0 : decode prog_13_method_91_code 0 = .ok (.aload_n 0, 1) := by decide +kernel
theorem dX12_know_1 : decode prog_13_method_91_code 1 = .ok (.iconst 0, 1) := by decide +kernel
theorem dX12_know_2 : decode prog_13_method_91_code 2 = .ok (.putfield 85, 3) := by decide +kernel
theorem dX12_know_5 : decode prog_13_method_91_code 5 = .ok (.aload_n 0, 1) := by decide +kernel
theorem dX12_know_6 : decode prog_13_method_91_code 6 = .ok (.aload_n 0, 1) := by decide +kernel
theorem dX12_know_7 : decode prog_13_method_91_code 7 = .ok (.iload_n 1, 1) := by decide +kernel
theorem dX12_know_8 : decode prog_13_method_91_code 8 = .ok (.invokevirtual 516, 3) := by decide +kernel
theorem dX12_know_11 : decode prog_13_method_91_code 11 = .ok (.invokevirtual 523, 3) := by decide +kernel
theorem dX12_know_14 : decode prog_13_method_91_code 14 = .ok (.ifCond .ne 9, 3) := by decide +kernel
theorem dX12_know_17 : decode prog_13_method_91_code 17 = .ok (.aload_n 0, 1) := by decide +kernel
theorem dX12_know_18 : decode prog_13_method_91_code 18 = .ok (.iconst 1, 1) := by decide +kernel
theorem dX12_know_19 : decode prog_13_method_91_code 19 = .ok (.invokevirtual 91, 3) := by decide +kernel
theorem dX12_know_22 : decode prog_13_method_91_code 22 = .ok (.ireturn, 1) := by decide +kernel
theorem dX12_know_23 : decode prog_13_method_91_code 23 = .ok (.iconst 0, 1) := by decide +kernel
theorem dX12_know_24 : decode prog_13_method_91_code 24 = .ok (.istore_n 2, 1) := by decide +kernel
theorem dX12_know_25 : decode prog_13_method_91_code 25 = .ok (.iconst 0, 1) := by decide +kernel
theorem dX12_know_26 : decode prog_13_method_91_code 26 = .ok (.istore_n 3, 1) := by decide +kernel
theorem dX12_know_27 : decode prog_13_method_91_code 27 = .ok (.iload_n 3, 1) := by decide +kernel
theorem dX12_know_28 : decode prog_13_method_91_code 28 = .ok (.aload_n 0, 1) := by decide +kernel
theorem dX12_know_29 : decode prog_13_method_91_code 29 = .ok (.getfield 409, 3) := by decide +kernel
theorem dX12_know_32 : decode prog_13_method_91_code 32 = .ok (.getfield 230, 3) := by decide +kernel
theorem dX12_know_35 : decode prog_13_method_91_code 35 = .ok (.if_icmp .ge 30, 3) := by decide +kernel
theorem dX12_know_38 : decode prog_13_method_91_code 38 = .ok (.iload_n 2, 1) := by decide +kernel
theorem dX12_know_39 : decode prog_13_method_91_code 39 = .ok (.aload_n 0, 1) := by decide +kernel
theorem dX12_know_40 : decode prog_13_method_91_code 40 = .ok (.getfield 64, 3) := by decide +kernel
theorem dX12_know_43 : decode prog_13_method_91_code 43 = .ok (.iload_n 3, 1) := by decide +kernel
theorem dX12_know_44 : decode prog_13_method_91_code 44 = .ok (.iaload, 1) := by decide +kernel
theorem dX12_know_45 : decode prog_13_method_91_code 45 = .ok (.iload_n 1, 1) := by decide +kernel
theorem dX12_know_46 : decode prog_13_method_91_code 46 = .ok (.invokestatic 386, 3) := by decide +kernel
theorem dX12_know_49 : decode prog_13_method_91_code 49 = .ok (.ifCond .eq 7, 3) := by decide +kernel
theorem dX12_know_52 : decode prog_13_method_91_code 52 = .ok (.iconst 1, 1) := by decide +kernel
theorem dX12_know_53 : decode prog_13_method_91_code 53 = .ok (.goto 4, 3) := by decide +kernel
theorem dX12_know_56 : decode prog_13_method_91_code 56 = .ok (.iconst 0, 1) := by decide +kernel
theorem dX12_know_57 : decode prog_13_method_91_code 57 = .ok (.iadd, 1) := by decide +kernel
theorem dX12_know_58 : decode prog_13_method_91_code 58 = .ok (.istore_n 2, 1) := by decide +kernel
theorem dX12_know_59 : decode prog_13_method_91_code 59 = .ok (.iinc 3 1, 3) := by decide +kernel
theorem dX12_know_62 : decode prog_13_method_91_code 62 = .ok (.goto (-35), 3) := by decide +kernel
theorem dX12_know_65 : decode prog_13_method_91_code 65 = .ok (.aload_n 0, 1) := by decide +kernel
theorem dX12_know_66 : decode prog_13_method_91_code 66 = .ok (.iload_n 2, 1) := by decide +kernel
theorem dX12_know_67 : decode prog_13_method_91_code 67 = .ok (.invokevirtual 95, 3) := by decide +kernel
theorem dX12_know_70 : decode prog_13_method_91_code 70 = .ok (.ireturn, 1) := by decide +kernel
theorem dX12_by_0 : decode prog_13_method_92_code 0 = .ok (.aload_n 0, 1) := by decide +kernel
theorem dX12_by_1 : decode prog_13_method_92_code 1 = .ok (.iload_n 1, 1) := by decide +kernel
theorem dX12_by_2 : decode prog_13_method_92_code 2 = .ok (.aload_n 0, 1) := by decide +kernel
theorem dX12_by_3 : decode prog_13_method_92_code 3 = .ok (.getfield 17, 3) := by decide +kernel
theorem dX12_by_6 : decode prog_13_method_92_code 6 = .ok (.iconst 1, 1) := by decide +kernel
theorem dX12_by_7 : decode prog_13_method_92_code 7 = .ok (.iaload, 1) := by decide +kernel
theorem dX12_by_8 : decode prog_13_method_92_code 8 = .ok (.invokevirtual 417, 3) := by decide +kernel
theorem dX12_by_11 : decode prog_13_method_92_code 11 = .ok (.iload_n 2, 1) := by decide +kernel
theorem dX12_by_12 : decode prog_13_method_92_code 12 = .ok (.ifCond .ne 10, 3) := by decide +kernel
theorem dX12_by_15 : decode prog_13_method_92_code 15 = .ok (.aload_n 0, 1) := by decide +kernel
theorem dX12_by_16 : decode prog_13_method_92_code 16 = .ok (.getfield 437, 3) := by decide +kernel
theorem dX12_by_19 : decode prog_13_method_92_code 19 = .ok (.goto 31, 3) := by decide +kernel
theorem dX12_by_22 : decode prog_13_method_92_code 22 = .ok (.iload_n 2, 1) := by decide +kernel
theorem dX12_by_23 : decode prog_13_method_92_code 23 = .ok (.iconst 1, 1) := by decide +kernel
theorem dX12_by_24 : decode prog_13_method_92_code 24 = .ok (.if_icmp .ne 10, 3) := by decide +kernel
theorem dX12_by_27 : decode prog_13_method_92_code 27 = .ok (.aload_n 0, 1) := by decide +kernel
theorem dX12_by_28 : decode prog_13_method_92_code 28 = .ok (.getfield 434, 3) := by decide +kernel
theorem dX12_by_31 : decode prog_13_method_92_code 31 = .ok (.goto 19, 3) := by decide +kernel
theorem dX12_by_34 : decode prog_13_method_92_code 34 = .ok (.iload_n 2, 1) := by decide +kernel
theorem dX12_by_35 : decode prog_13_method_92_code 35 = .ok (.iconst 2, 1) := by decide +kernel
theorem dX12_by_36 : decode prog_13_method_92_code 36 = .ok (.if_icmp .ne 10, 3) := by decide +kernel
theorem dX12_by_39 : decode prog_13_method_92_code 39 = .ok (.aload_n 0, 1) := by decide +kernel
theorem dX12_by_40 : decode prog_13_method_92_code 40 = .ok (.invokevirtual 530, 3) := by decide +kernel
theorem dX12_by_43 : decode prog_13_method_92_code 43 = .ok (.goto 7, 3) := by decide +kernel
theorem dX12_by_46 : decode prog_13_method_92_code 46 = .ok (.aload_n 0, 1) := by decide +kernel
theorem dX12_by_47 : decode prog_13_method_92_code 47 = .ok (.invokevirtual 533, 3) := by decide +kernel
theorem dX12_by_50 : decode prog_13_method_92_code 50 = .ok (.ireturn, 1) := by decide +kernel
theorem dX12_byLaw_0 : decode prog_13_method_93_code 0 = .ok (.aload_n 0, 1) := by decide +kernel
theorem dX12_byLaw_1 : decode prog_13_method_93_code 1 = .ok (.iconst 0, 1) := by decide +kernel
theorem dX12_byLaw_2 : decode prog_13_method_93_code 2 = .ok (.putfield 85, 3) := by decide +kernel
theorem dX12_byLaw_5 : decode prog_13_method_93_code 5 = .ok (.aload_n 0, 1) := by decide +kernel
theorem dX12_byLaw_6 : decode prog_13_method_93_code 6 = .ok (.getfield 409, 3) := by decide +kernel
theorem dX12_byLaw_9 : decode prog_13_method_93_code 9 = .ok (.ifnull 34, 3) := by decide +kernel
theorem dX12_byLaw_12 : decode prog_13_method_93_code 12 = .ok (.iload_n 1, 1) := by decide +kernel
theorem dX12_byLaw_13 : decode prog_13_method_93_code 13 = .ok (.iconst 0, 1) := by decide +kernel
theorem dX12_byLaw_14 : decode prog_13_method_93_code 14 = .ok (.iconst 4, 1) := by decide +kernel
theorem dX12_byLaw_15 : decode prog_13_method_93_code 15 = .ok (.invokestatic 160, 3) := by decide +kernel
theorem dX12_byLaw_18 : decode prog_13_method_93_code 18 = .ok (.ifCond .eq 25, 3) := by decide +kernel
theorem dX12_byLaw_21 : decode prog_13_method_93_code 21 = .ok (.iload_n 2, 1) := by decide +kernel
theorem dX12_byLaw_22 : decode prog_13_method_93_code 22 = .ok (.iconst 0, 1) := by decide +kernel
theorem dX12_byLaw_23 : decode prog_13_method_93_code 23 = .ok (.iconst 3, 1) := by decide +kernel
theorem dX12_byLaw_24 : decode prog_13_method_93_code 24 = .ok (.invokestatic 160, 3) := by decide +kernel
theorem dX12_byLaw_27 : decode prog_13_method_93_code 27 = .ok (.ifCond .eq 16, 3) := by decide +kernel
theorem dX12_byLaw_30 : decode prog_13_method_93_code 30 = .ok (.aload_n 0, 1) := by decide +kernel
theorem dX12_byLaw_31 : decode prog_13_method_93_code 31 = .ok (.aload_n 0, 1) := by decide +kernel
theorem dX12_byLaw_32 : decode prog_13_method_93_code 32 = .ok (.iload_n 1, 1) := by decide +kernel
theorem dX12_byLaw_33 : decode prog_13_method_93_code 33 = .ok (.iload_n 2, 1) := by decide +kernel
theorem dX12_byLaw_34 : decode prog_13_method_93_code 34 = .ok (.invokevirtual 536, 3) := by decide +kernel
theorem dX12_byLaw_37 : decode prog_13_method_93_code 37 = .ok (.invokevirtual 95, 3) := by decide +kernel
theorem dX12_byLaw_40 : decode prog_13_method_93_code 40 = .ok (.goto 8, 3) := by decide +kernel
theorem dX12_byLaw_43 : decode prog_13_method_93_code 43 = .ok (.aload_n 0, 1) := by decide +kernel
theorem dX12_byLaw_44 : decode prog_13_method_93_code 44 = .ok (.iconst 1, 1) := by decide +kernel
theorem dX12_byLaw_45 : decode prog_13_method_93_code 45 = .ok (.invokevirtual 91, 3) := by decide +kernel
theorem dX12_byLaw_48 : decode prog_13_method_93_code 48 = .ok (.ireturn, 1) := by decide +kernel
theorem dX12_bestLaw_0 : decode prog_13_method_94_code 0 = .ok (.aload_n 0, 1) := by decide +kernel
theorem dX12_bestLaw_1 : decode prog_13_method_94_code 1 = .ok (.iconst 0, 1) := by decide +kernel
theorem dX12_bestLaw_2 : decode prog_13_method_94_code 2 = .ok (.putfield 85, 3) := by decide +kernel
theorem dX12_bestLaw_5 : decode prog_13_method_94_code 5 = .ok (.aload_n 0, 1) := by decide +kernel
theorem dX12_bestLaw_6 : decode prog_13_method_94_code 6 = .ok (.getfield 409, 3) := by decide +kernel
theorem dX12_bestLaw_9 : decode prog_13_method_94_code 9 = .ok (.ifnull 12, 3) := by decide +kernel
theorem dX12_bestLaw_12 : decode prog_13_method_94_code 12 = .ok (.iload_n 1, 1) := by decide +kernel
theorem dX12_bestLaw_13 : decode prog_13_method_94_code 13 = .ok (.iconst 0, 1) := by decide +kernel
theorem dX12_bestLaw_14 : decode prog_13_method_94_code 14 = .ok (.iconst 3, 1) := by decide +kernel
theorem dX12_bestLaw_15 : decode prog_13_method_94_code 15 = .ok (.invokestatic 160, 3) := by decide +kernel
theorem dX12_bestLaw_18 : decode prog_13_method_94_code 18 = .ok (.ifCond .ne 9, 3) := by decide +kernel
theorem dX12_bestLaw_21 : decode prog_13_method_94_code 21 = .ok (.aload_n 0, 1) := by decide +kernel
theorem dX12_bestLaw_22 : decode prog_13_method_94_code 22 = .ok (.iconst 1, 1) := by decide +kernel
theorem dX12_bestLaw_23 : decode prog_13_method_94_code 23 = .ok (.invokevirtual 91, 3) := by decide +kernel
theorem dX12_bestLaw_26 : decode prog_13_method_94_code 26 = .ok (.ireturn, 1) := by decide +kernel
theorem dX12_bestLaw_27 : decode prog_13_method_94_code 27 = .ok (.iconst 0, 1) := by decide +kernel
theorem dX12_bestLaw_28 : decode prog_13_method_94_code 28 = .ok (.istore_n 2, 1) := by decide +kernel
theorem dX12_bestLaw_29 : decode prog_13_method_94_code 29 = .ok (.aload_n 0, 1) := by decide +kernel
theorem dX12_bestLaw_30 : decode prog_13_method_94_code 30 = .ok (.iconst 0, 1) := by decide +kernel
theorem dX12_bestLaw_31 : decode prog_13_method_94_code 31 = .ok (.iload_n 1, 1) := by decide +kernel
theorem dX12_bestLaw_32 : decode prog_13_method_94_code 32 = .ok (.invokevirtual 536, 3) := by decide +kernel
theorem dX12_bestLaw_35 : decode prog_13_method_94_code 35 = .ok (.istore_n 3, 1) := by decide +kernel
theorem dX12_bestLaw_36 : decode prog_13_method_94_code 36 = .ok (.iconst 1, 1) := by decide +kernel
theorem dX12_bestLaw_37 : decode prog_13_method_94_code 37 = .ok (.istore 4, 2) := by decide +kernel
theorem dX12_bestLaw_39 : decode prog_13_method_94_code 39 = .ok (.iload 4, 2) := by decide +kernel
theorem dX12_bestLaw_41 : decode prog_13_method_94_code 41 = .ok (.iconst 5, 1) := by decide +kernel
theorem dX12_bestLaw_42 : decode prog_13_method_94_code 42 = .ok (.if_icmp .ge 33, 3) := by decide +kernel
theorem dX12_bestLaw_45 : decode prog_13_method_94_code 45 = .ok (.aload_n 0, 1) := by decide +kernel
theorem dX12_bestLaw_46 : decode prog_13_method_94_code 46 = .ok (.iload 4, 2) := by decide +kernel
theorem dX12_bestLaw_48 : decode prog_13_method_94_code 48 = .ok (.iload_n 1, 1) := by decide +kernel
theorem dX12_bestLaw_49 : decode prog_13_method_94_code 49 = .ok (.invokevirtual 536, 3) := by decide +kernel
theorem dX12_bestLaw_52 : decode prog_13_method_94_code 52 = .ok (.istore 5, 2) := by decide +kernel
theorem dX12_bestLaw_54 : decode prog_13_method_94_code 54 = .ok (.iload 5, 2) := by decide +kernel
theorem dX12_bestLaw_56 : decode prog_13_method_94_code 56 = .ok (.iload_n 3, 1) := by decide +kernel
theorem dX12_bestLaw_57 : decode prog_13_method_94_code 57 = .ok (.if_icmp .lt 6, 3) := by decide +kernel
theorem dX12_bestLaw_60 : decode prog_13_method_94_code 60 = .ok (.goto 9, 3) := by decide +kernel
theorem dX12_bestLaw_63 : decode prog_13_method_94_code 63 = .ok (.iload 4, 2) := by decide +kernel
theorem dX12_bestLaw_65 : decode prog_13_method_94_code 65 = .ok (.istore_n 2, 1) := by decide +kernel
theorem dX12_bestLaw_66 : decode prog_13_method_94_code 66 = .ok (.iload 5, 2) := by decide +kernel
theorem dX12_bestLaw_68 : decode prog_13_method_94_code 68 = .ok (.istore_n 3, 1) := by decide +kernel
theorem dX12_bestLaw_69 : decode prog_13_method_94_code 69 = .ok (.iinc 4 1, 3) := by decide +kernel
theorem dX12_bestLaw_72 : decode prog_13_method_94_code 72 = .ok (.goto (-33), 3) := by decide +kernel
theorem dX12_bestLaw_75 : decode prog_13_method_94_code 75 = .ok (.aload_n 0, 1) := by decide +kernel
theorem dX12_bestLaw_76 : decode prog_13_method_94_code 76 = .ok (.iload_n 2, 1) := by decide +kernel
theorem dX12_bestLaw_77 : decode prog_13_method_94_code 77 = .ok (.invokevirtual 95, 3) := by decide +kernel
theorem dX12_bestLaw_80 : decode prog_13_method_94_code 80 = .ok (.ireturn, 1) := by decide +kernel
theorem dX12_tries_0 : decode prog_13_method_95_code 0 = .ok (.aload_n 0, 1) := by decide +kernel
theorem dX12_tries_1 : decode prog_13_method_95_code 1 = .ok (.bipush (-2), 2) := by decide +kernel
theorem dX12_tries_3 : decode prog_13_method_95_code 3 = .ok (.putfield 423, 3) := by decide +kernel
theorem dX12_tries_6 : decode prog_13_method_95_code 6 = .ok (.aload_n 0, 1) := by decide +kernel
theorem dX12_tries_7 : decode prog_13_method_95_code 7 = .ok (.iload_n 1, 1) := by decide +kernel
theorem dX12_tries_8 : decode prog_13_method_95_code 8 = .ok (.putfield 420, 3) := by decide +kernel
theorem dX12_tries_11 : decode prog_13_method_95_code 11 = .ok (.aload_n 0, 1) := by decide +kernel
theorem dX12_tries_12 : decode prog_13_method_95_code 12 = .ok (.iconst (-1), 1) := by decide +kernel
theorem dX12_tries_13 : decode prog_13_method_95_code 13 = .ok (.putfield 539, 3) := by decide +kernel
theorem dX12_tries_16 : decode prog_13_method_95_code 16 = .ok (.aload_n 0, 1) := by decide +kernel
theorem dX12_tries_17 : decode prog_13_method_95_code 17 = .ok (.iconst 0, 1) := by decide +kernel
theorem dX12_tries_18 : decode prog_13_method_95_code 18 = .ok (.putfield 542, 3) := by decide +kernel
theorem dX12_tries_21 : decode prog_13_method_95_code 21 = .ok (.iconst 0, 1) := by decide +kernel
theorem dX12_tries_22 : decode prog_13_method_95_code 22 = .ok (.istore_n 3, 1) := by decide +kernel
theorem dX12_tries_23 : decode prog_13_method_95_code 23 = .ok (.iload_n 3, 1) := by decide +kernel
theorem dX12_tries_24 : decode prog_13_method_95_code 24 = .ok (.iconst 4, 1) := by decide +kernel
theorem dX12_tries_25 : decode prog_13_method_95_code 25 = .ok (.if_icmp .ge 16, 3) := by decide +kernel
theorem dX12_tries_28 : decode prog_13_method_95_code 28 = .ok (.aload_n 0, 1) := by decide +kernel
theorem dX12_tries_29 : decode prog_13_method_95_code 29 = .ok (.getfield 79, 3) := by decide +kernel
theorem dX12_tries_32 : decode prog_13_method_95_code 32 = .ok (.iload_n 3, 1) := by decide +kernel
theorem dX12_tries_33 : decode prog_13_method_95_code 33 = .ok (.iconst (-1), 1) := by decide +kernel
theorem dX12_tries_34 : decode prog_13_method_95_code 34 = .ok (.iastore, 1) := by decide +kernel
theorem dX12_tries_35 : decode prog_13_method_95_code 35 = .ok (.iinc 3 1, 3) := by decide +kernel
theorem dX12_tries_38 : decode prog_13_method_95_code 38 = .ok (.goto (-15), 3) := by decide +kernel
theorem dX12_tries_41 : decode prog_13_method_95_code 41 = .ok (.iconst 0, 1) := by decide +kernel
theorem dX12_tries_42 : decode prog_13_method_95_code 42 = .ok (.istore_n 3, 1) := by decide +kernel
theorem dX12_tries_43 : decode prog_13_method_95_code 43 = .ok (.iload_n 3, 1) := by decide +kernel
theorem dX12_tries_44 : decode prog_13_method_95_code 44 = .ok (.ifCond .lt 168, 3) := by decide +kernel
theorem dX12_tries_47 : decode prog_13_method_95_code 47 = .ok (.aload_n 0, 1) := by decide +kernel
theorem dX12_tries_48 : decode prog_13_method_95_code 48 = .ok (.getfield 542, 3) := by decide +kernel
theorem dX12_tries_51 : decode prog_13_method_95_code 51 = .ok (.ifCond .ne 161, 3) := by decide +kernel
theorem dX12_tries_54 : decode prog_13_method_95_code 54 = .ok (.iload_n 3, 1) := by decide +kernel
theorem dX12_tries_55 : decode prog_13_method_95_code 55 = .ok (.iload_n 1, 1) := by decide +kernel
theorem dX12_tries_56 : decode prog_13_method_95_code 56 = .ok (.if_icmp .ne 15, 3) := by decide +kernel
theorem dX12_tries_59 : decode prog_13_method_95_code 59 = .ok (.aload_n 0, 1) := by decide +kernel
theorem dX12_tries_60 : decode prog_13_method_95_code 60 = .ok (.iload_n 1, 1) := by decide +kernel
theorem dX12_tries_61 : decode prog_13_method_95_code 61 = .ok (.iload_n 2, 1) := by decide +kernel
theorem dX12_tries_62 : decode prog_13_method_95_code 62 = .ok (.invokevirtual 546, 3) := by decide +kernel
theorem dX12_tries_65 : decode prog_13_method_95_code 65 = .ok (.iinc 3 (-1), 3) := by decide +kernel
theorem dX12_tries_68 : decode prog_13_method_95_code 68 = .ok (.goto (-25), 3) := by decide +kernel
theorem dX12_tries_71 : decode prog_13_method_95_code 71 = .ok (.aload_n 0, 1) := by decide +kernel
theorem dX12_tries_72 : decode prog_13_method_95_code 72 = .ok (.iload_n 3, 1) := by decide +kernel
theorem dX12_tries_73 : decode prog_13_method_95_code 73 = .ok (.invokevirtual 550, 3) := by decide +kernel
theorem dX12_tries_76 : decode prog_13_method_95_code 76 = .ok (.istore 4, 2) := by decide +kernel
theorem dX12_tries_78 : decode prog_13_method_95_code 78 = .ok (.iload 4, 2) := by decide +kernel
theorem dX12_tries_80 : decode prog_13_method_95_code 80 = .ok (.ifCond .ne 47, 3) := by decide +kernel
theorem dX12_tries_83 : decode prog_13_method_95_code 83 = .ok (.aload_n 0, 1) := by decide +kernel
theorem dX12_tries_84 : decode prog_13_method_95_code 84 = .ok (.getfield 79, 3) := by decide +kernel
theorem dX12_tries_87 : decode prog_13_method_95_code 87 = .ok (.iload_n 3, 1) := by decide +kernel
theorem dX12_tries_88 : decode prog_13_method_95_code 88 = .ok (.aload_n 0, 1) := by decide +kernel
theorem dX12_tries_89 : decode prog_13_method_95_code 89 = .ok (.getfield 79, 3) := by decide +kernel
theorem dX12_tries_92 : decode prog_13_method_95_code 92 = .ok (.iload_n 3, 1) := by decide +kernel
theorem dX12_tries_93 : decode prog_13_method_95_code 93 = .ok (.iaload, 1) := by decide +kernel
theorem dX12_tries_94 : decode prog_13_method_95_code 94 = .ok (.iconst (-1), 1) := by decide +kernel
theorem dX12_tries_95 : decode prog_13_method_95_code 95 = .ok (.if_icmp .ne 8, 3) := by decide +kernel
theorem dX12_tries_98 : decode prog_13_method_95_code 98 = .ok (.bipush 10, 2) := by decide +kernel
theorem dX12_tries_100 : decode prog_13_method_95_code 100 = .ok (.goto 4, 3) := by decide +kernel
theorem dX12_tries_103 : decode prog_13_method_95_code 103 = .ok (.iconst (-1), 1) := by decide +kernel
theorem dX12_tries_104 : decode prog_13_method_95_code 104 = .ok (.iastore, 1) := by decide +kernel
theorem dX12_tries_105 : decode prog_13_method_95_code 105 = .ok (.iload_n 3, 1) := by decide +kernel
theorem dX12_tries_106 : decode prog_13_method_95_code 106 = .ok (.aload_n 0, 1) := by decide +kernel
theorem dX12_tries_107 : decode prog_13_method_95_code 107 = .ok (.getfield 79, 3) := by decide +kernel
theorem dX12_tries_110 : decode prog_13_method_95_code 110 = .ok (.iload_n 3, 1) := by decide +kernel
theorem dX12_tries_111 : decode prog_13_method_95_code 111 = .ok (.iaload, 1) := by decide +kernel
theorem dX12_tries_112 : decode prog_13_method_95_code 112 = .ok (.bipush 10, 2) := by decide +kernel
theorem dX12_tries_114 : decode prog_13_method_95_code 114 = .ok (.if_icmp .ne 7, 3) := by decide +kernel
theorem dX12_tries_117 : decode prog_13_method_95_code 117 = .ok (.iconst 1, 1) := by decide +kernel
theorem dX12_tries_118 : decode prog_13_method_95_code 118 = .ok (.goto 4, 3) := by decide +kernel
theorem dX12_tries_121 : decode prog_13_method_95_code 121 = .ok (.iconst (-1), 1) := by decide +kernel
theorem dX12_tries_122 : decode prog_13_method_95_code 122 = .ok (.iadd, 1) := by decide +kernel
theorem dX12_tries_123 : decode prog_13_method_95_code 123 = .ok (.istore_n 3, 1) := by decide +kernel
theorem dX12_tries_124 : decode prog_13_method_95_code 124 = .ok (.goto (-81), 3) := by decide +kernel
theorem dX12_tries_127 : decode prog_13_method_95_code 127 = .ok (.aload_n 0, 1) := by decide +kernel
theorem dX12_tries_128 : decode prog_13_method_95_code 128 = .ok (.getfield 79, 3) := by decide +kernel
theorem dX12_tries_131 : decode prog_13_method_95_code 131 = .ok (.iload_n 3, 1) := by decide +kernel
theorem dX12_tries_132 : decode prog_13_method_95_code 132 = .ok (.iaload, 1) := by decide +kernel
theorem dX12_tries_133 : decode prog_13_method_95_code 133 = .ok (.iconst 1, 1) := by decide +kernel
theorem dX12_tries_134 : decode prog_13_method_95_code 134 = .ok (.iadd, 1) := by decide +kernel
theorem dX12_tries_135 : decode prog_13_method_95_code 135 = .ok (.istore 5, 2) := by decide +kernel
theorem dX12_tries_137 : decode prog_13_method_95_code 137 = .ok (.iload 5, 2) := by decide +kernel
theorem dX12_tries_139 : decode prog_13_method_95_code 139 = .ok (.aload_n 0, 1) := by decide +kernel
theorem dX12_tries_140 : decode prog_13_method_95_code 140 = .ok (.getfield 409, 3) := by decide +kernel
theorem dX12_tries_143 : decode prog_13_method_95_code 143 = .ok (.getfield 230, 3) := by decide +kernel
theorem dX12_tries_146 : decode prog_13_method_95_code 146 = .ok (.if_icmp .ge 19, 3) := by decide +kernel
theorem dX12_tries_149 : decode prog_13_method_95_code 149 = .ok (.iload 4, 2) := by decide +kernel
theorem dX12_tries_151 : decode prog_13_method_95_code 151 = .ok (.iload 5, 2) := by decide +kernel
theorem dX12_tries_153 : decode prog_13_method_95_code 153 = .ok (.invokestatic 386, 3) := by decide +kernel
theorem dX12_tries_156 : decode prog_13_method_95_code 156 = .ok (.ifCond .ne 9, 3) := by decide +kernel
theorem dX12_tries_159 : decode prog_13_method_95_code 159 = .ok (.iinc 5 1, 3) := by decide +kernel
theorem dX12_tries_162 : decode prog_13_method_95_code 162 = .ok (.goto (-25), 3) := by decide +kernel
theorem dX12_tries_165 : decode prog_13_method_95_code 165 = .ok (.aload_n 0, 1) := by decide +kernel
theorem dX12_tries_166 : decode prog_13_method_95_code 166 = .ok (.getfield 79, 3) := by decide +kernel
theorem dX12_tries_169 : decode prog_13_method_95_code 169 = .ok (.iload_n 3, 1) := by decide +kernel
theorem dX12_tries_170 : decode prog_13_method_95_code 170 = .ok (.iload 5, 2) := by decide +kernel
theorem dX12_tries_172 : decode prog_13_method_95_code 172 = .ok (.aload_n 0, 1) := by decide +kernel
theorem dX12_tries_173 : decode prog_13_method_95_code 173 = .ok (.getfield 409, 3) := by decide +kernel
theorem dX12_tries_176 : decode prog_13_method_95_code 176 = .ok (.getfield 230, 3) := by decide +kernel
theorem dX12_tries_179 : decode prog_13_method_95_code 179 = .ok (.if_icmp .ge 8, 3) := by decide +kernel
theorem dX12_tries_182 : decode prog_13_method_95_code 182 = .ok (.iload 5, 2) := by decide +kernel
theorem dX12_tries_184 : decode prog_13_method_95_code 184 = .ok (.goto 4, 3) := by decide +kernel
theorem dX12_tries_187 : decode prog_13_method_95_code 187 = .ok (.iconst (-1), 1) := by decide +kernel
theorem dX12_tries_188 : decode prog_13_method_95_code 188 = .ok (.iastore, 1) := by decide +kernel
theorem dX12_tries_189 : decode prog_13_method_95_code 189 = .ok (.iload_n 3, 1) := by decide +kernel
theorem dX12_tries_190 : decode prog_13_method_95_code 190 = .ok (.iload 5, 2) := by decide +kernel
theorem dX12_tries_192 : decode prog_13_method_95_code 192 = .ok (.aload_n 0, 1) := by decide +kernel
theorem dX12_tries_193 : decode prog_13_method_95_code 193 = .ok (.getfield 409, 3) := by decide +kernel
theorem dX12_tries_196 : decode prog_13_method_95_code 196 = .ok (.getfield 230, 3) := by decide +kernel
theorem dX12_tries_199 : decode prog_13_method_95_code 199 = .ok (.if_icmp .ge 7, 3) := by decide +kernel
theorem dX12_tries_202 : decode prog_13_method_95_code 202 = .ok (.iconst 1, 1) := by decide +kernel
theorem dX12_tries_203 : decode prog_13_method_95_code 203 = .ok (.goto 4, 3) := by decide +kernel
theorem dX12_tries_206 : decode prog_13_method_95_code 206 = .ok (.iconst (-1), 1) := by decide +kernel
theorem dX12_tries_207 : decode prog_13_method_95_code 207 = .ok (.iadd, 1) := by decide +kernel
theorem dX12_tries_208 : decode prog_13_method_95_code 208 = .ok (.istore_n 3, 1) := by decide +kernel
theorem dX12_tries_209 : decode prog_13_method_95_code 209 = .ok (.goto (-166), 3) := by decide +kernel
theorem dX12_tries_212 : decode prog_13_method_95_code 212 = .ok (.return_, 1) := by decide +kernel
theorem dX12_choices_0 : decode prog_13_method_96_code 0 = .ok (.aload_n 0, 1) := by decide +kernel
theorem dX12_choices_1 : decode prog_13_method_96_code 1 = .ok (.getfield 420, 3) := by decide +kernel
theorem dX12_choices_4 : decode prog_13_method_96_code 4 = .ok (.istore_n 2, 1) := by decide +kernel
theorem dX12_choices_5 : decode prog_13_method_96_code 5 = .ok (.aload_n 0, 1) := by decide +kernel
theorem dX12_choices_6 : decode prog_13_method_96_code 6 = .ok (.iload_n 1, 1) := by decide +kernel
theorem dX12_choices_7 : decode prog_13_method_96_code 7 = .ok (.putfield 420, 3) := by decide +kernel
theorem dX12_choices_10 : decode prog_13_method_96_code 10 = .ok (.aload_n 0, 1) := by decide +kernel
theorem dX12_choices_11 : decode prog_13_method_96_code 11 = .ok (.aload_n 0, 1) := by decide +kernel
theorem dX12_choices_12 : decode prog_13_method_96_code 12 = .ok (.getfield 17, 3) := by decide +kernel
theorem dX12_choices_15 : decode prog_13_method_96_code 15 = .ok (.iconst 0, 1) := by decide +kernel
theorem dX12_choices_16 : decode prog_13_method_96_code 16 = .ok (.iaload, 1) := by decide +kernel
theorem dX12_choices_17 : decode prog_13_method_96_code 17 = .ok (.aload_n 0, 1) := by decide +kernel
theorem dX12_choices_18 : decode prog_13_method_96_code 18 = .ok (.getfield 17, 3) := by decide +kernel
theorem dX12_choices_21 : decode prog_13_method_96_code 21 = .ok (.iconst 1, 1) := by decide +kernel
theorem dX12_choices_22 : decode prog_13_method_96_code 22 = .ok (.iaload, 1) := by decide +kernel
theorem dX12_choices_23 : decode prog_13_method_96_code 23 = .ok (.iload_n 1, 1) := by decide +kernel
theorem dX12_choices_24 : decode prog_13_method_96_code 24 = .ok (.invokevirtual 426, 3) := by decide +kernel
theorem dX12_choices_27 : decode prog_13_method_96_code 27 = .ok (.aload_n 0, 1) := by decide +kernel
theorem dX12_choices_28 : decode prog_13_method_96_code 28 = .ok (.iload_n 2, 1) := by decide +kernel
theorem dX12_choices_29 : decode prog_13_method_96_code 29 = .ok (.putfield 420, 3) := by decide +kernel
theorem dX12_choices_32 : decode prog_13_method_96_code 32 = .ok (.iconst 0, 1) := by decide +kernel
theorem dX12_choices_33 : decode prog_13_method_96_code 33 = .ok (.istore_n 3, 1) := by decide +kernel
theorem dX12_choices_34 : decode prog_13_method_96_code 34 = .ok (.iconst 0, 1) := by decide +kernel
theorem dX12_choices_35 : decode prog_13_method_96_code 35 = .ok (.istore 4, 2) := by decide +kernel
theorem dX12_choices_37 : decode prog_13_method_96_code 37 = .ok (.iload 4, 2) := by decide +kernel
theorem dX12_choices_39 : decode prog_13_method_96_code 39 = .ok (.aload_n 0, 1) := by decide +kernel
theorem dX12_choices_40 : decode prog_13_method_96_code 40 = .ok (.getfield 409, 3) := by decide +kernel
theorem dX12_choices_43 : decode prog_13_method_96_code 43 = .ok (.getfield 230, 3) := by decide +kernel
theorem dX12_choices_46 : decode prog_13_method_96_code 46 = .ok (.if_icmp .ge 30, 3) := by decide +kernel
theorem dX12_choices_49 : decode prog_13_method_96_code 49 = .ok (.iload_n 3, 1) := by decide +kernel
theorem dX12_choices_50 : decode prog_13_method_96_code 50 = .ok (.aload_n 0, 1) := by decide +kernel
theorem dX12_choices_51 : decode prog_13_method_96_code 51 = .ok (.iload 4, 2) := by decide +kernel
theorem dX12_choices_53 : decode prog_13_method_96_code 53 = .ok (.iload_n 1, 1) := by decide +kernel
theorem dX12_choices_54 : decode prog_13_method_96_code 54 = .ok (.invokevirtual 460, 3) := by decide +kernel
theorem dX12_choices_57 : decode prog_13_method_96_code 57 = .ok (.ifCond .eq 10, 3) := by decide +kernel
theorem dX12_choices_60 : decode prog_13_method_96_code 60 = .ok (.iconst 1, 1) := by decide +kernel
theorem dX12_choices_61 : decode prog_13_method_96_code 61 = .ok (.iload 4, 2) := by decide +kernel
theorem dX12_choices_63 : decode prog_13_method_96_code 63 = .ok (.ishl, 1) := by decide +kernel
theorem dX12_choices_64 : decode prog_13_method_96_code 64 = .ok (.goto 4, 3) := by decide +kernel
theorem dX12_choices_67 : decode prog_13_method_96_code 67 = .ok (.iconst 0, 1) := by decide +kernel
theorem dX12_choices_68 : decode prog_13_method_96_code 68 = .ok (.ior, 1) := by decide +kernel
theorem dX12_choices_69 : decode prog_13_method_96_code 69 = .ok (.istore_n 3, 1) := by decide +kernel
theorem dX12_choices_70 : decode prog_13_method_96_code 70 = .ok (.iinc 4 1, 3) := by decide +kernel
theorem dX12_choices_73 : decode prog_13_method_96_code 73 = .ok (.goto (-36), 3) := by decide +kernel
theorem dX12_choices_76 : decode prog_13_method_96_code 76 = .ok (.iload_n 1, 1) := by decide +kernel
theorem dX12_choices_77 : decode prog_13_method_96_code 77 = .ok (.ifCond .le 35, 3) := by decide +kernel
theorem dX12_choices_80 : decode prog_13_method_96_code 80 = .ok (.aload_n 0, 1) := by decide +kernel
theorem dX12_choices_81 : decode prog_13_method_96_code 81 = .ok (.getfield 27, 3) := by decide +kernel
theorem dX12_choices_84 : decode prog_13_method_96_code 84 = .ok (.iload_n 1, 1) := by decide +kernel
theorem dX12_choices_85 : decode prog_13_method_96_code 85 = .ok (.iconst 1, 1) := by decide +kernel
theorem dX12_choices_86 : decode prog_13_method_96_code 86 = .ok (.isub, 1) := by decide +kernel
theorem dX12_choices_87 : decode prog_13_method_96_code 87 = .ok (.iaload, 1) := by decide +kernel
theorem dX12_choices_88 : decode prog_13_method_96_code 88 = .ok (.bipush (-2), 2) := by decide +kernel
theorem dX12_choices_90 : decode prog_13_method_96_code 90 = .ok (.if_icmp .eq 22, 3) := by decide +kernel
theorem dX12_choices_93 : decode prog_13_method_96_code 93 = .ok (.aload_n 0, 1) := by decide +kernel
theorem dX12_choices_94 : decode prog_13_method_96_code 94 = .ok (.getfield 73, 3) := by decide +kernel
theorem dX12_choices_97 : decode prog_13_method_96_code 97 = .ok (.aload_n 0, 1) := by decide +kernel
theorem dX12_choices_98 : decode prog_13_method_96_code 98 = .ok (.getfield 27, 3) := by decide +kernel
theorem dX12_choices_101 : decode prog_13_method_96_code 101 = .ok (.iload_n 1, 1) := by decide +kernel
theorem dX12_choices_102 : decode prog_13_method_96_code 102 = .ok (.iconst 1, 1) := by decide +kernel
theorem dX12_choices_103 : decode prog_13_method_96_code 103 = .ok (.isub, 1) := by decide +kernel
theorem dX12_choices_104 : decode prog_13_method_96_code 104 = .ok (.iaload, 1) := by decide +kernel
theorem dX12_choices_105 : decode prog_13_method_96_code 105 = .ok (.iaload, 1) := by decide +kernel
theorem dX12_choices_106 : decode prog_13_method_96_code 106 = .ok (.iload_n 1, 1) := by decide +kernel
theorem dX12_choices_107 : decode prog_13_method_96_code 107 = .ok (.if_icmp .ne 5, 3) := by decide +kernel
theorem dX12_choices_110 : decode prog_13_method_96_code 110 = .ok (.iconst 0, 1) := by decide +kernel
theorem dX12_choices_111 : decode prog_13_method_96_code 111 = .ok (.ireturn, 1) := by decide +kernel
theorem dX12_choices_112 : decode prog_13_method_96_code 112 = .ok (.aload_n 0, 1) := by decide +kernel
theorem dX12_choices_113 : decode prog_13_method_96_code 113 = .ok (.getfield 33, 3) := by decide +kernel
theorem dX12_choices_116 : decode prog_13_method_96_code 116 = .ok (.iload_n 1, 1) := by decide +kernel
theorem dX12_choices_117 : decode prog_13_method_96_code 117 = .ok (.iload_n 3, 1) := by decide +kernel
theorem dX12_choices_118 : decode prog_13_method_96_code 118 = .ok (.iastore, 1) := by decide +kernel
theorem dX12_choices_119 : decode prog_13_method_96_code 119 = .ok (.aload_n 0, 1) := by decide +kernel
theorem dX12_choices_120 : decode prog_13_method_96_code 120 = .ok (.iload_n 1, 1) := by decide +kernel
theorem dX12_choices_121 : decode prog_13_method_96_code 121 = .ok (.invokevirtual 463, 3) := by decide +kernel
theorem dX12_choices_124 : decode prog_13_method_96_code 124 = .ok (.ifCond .eq 7, 3) := by decide +kernel
theorem dX12_choices_127 : decode prog_13_method_96_code 127 = .ok (.iconst 0, 1) := by decide +kernel
theorem dX12_choices_128 : decode prog_13_method_96_code 128 = .ok (.goto 4, 3) := by decide +kernel
theorem dX12_choices_131 : decode prog_13_method_96_code 131 = .ok (.iload_n 3, 1) := by decide +kernel
theorem dX12_choices_132 : decode prog_13_method_96_code 132 = .ok (.ireturn, 1) := by decide +kernel
theorem dX12_ends_0 : decode prog_13_method_97_code 0 = .ok (.aload_n 0, 1) := by decide +kernel
theorem dX12_ends_1 : decode prog_13_method_97_code 1 = .ok (.aload_n 0, 1) := by decide +kernel
theorem dX12_ends_2 : decode prog_13_method_97_code 2 = .ok (.getfield 17, 3) := by decide +kernel
theorem dX12_ends_5 : decode prog_13_method_97_code 5 = .ok (.iconst 0, 1) := by decide +kernel
theorem dX12_ends_6 : decode prog_13_method_97_code 6 = .ok (.iaload, 1) := by decide +kernel
theorem dX12_ends_7 : decode prog_13_method_97_code 7 = .ok (.aload_n 0, 1) := by decide +kernel
theorem dX12_ends_8 : decode prog_13_method_97_code 8 = .ok (.getfield 17, 3) := by decide +kernel
theorem dX12_ends_11 : decode prog_13_method_97_code 11 = .ok (.iconst 1, 1) := by decide +kernel
theorem dX12_ends_12 : decode prog_13_method_97_code 12 = .ok (.iaload, 1) := by decide +kernel
theorem dX12_ends_13 : decode prog_13_method_97_code 13 = .ok (.iload_n 2, 1) := by decide +kernel
theorem dX12_ends_14 : decode prog_13_method_97_code 14 = .ok (.ifCond .eq 13, 3) := by decide +kernel
theorem dX12_ends_17 : decode prog_13_method_97_code 17 = .ok (.aload_n 0, 1) := by decide +kernel
theorem dX12_ends_18 : decode prog_13_method_97_code 18 = .ok (.getfield 409, 3) := by decide +kernel
theorem dX12_ends_21 : decode prog_13_method_97_code 21 = .ok (.getfield 176, 3) := by decide +kernel
theorem dX12_ends_24 : decode prog_13_method_97_code 24 = .ok (.goto 4, 3) := by decide +kernel
theorem dX12_ends_27 : decode prog_13_method_97_code 27 = .ok (.iload_n 1, 1) := by decide +kernel
theorem dX12_ends_28 : decode prog_13_method_97_code 28 = .ok (.invokevirtual 426, 3) := by decide +kernel
theorem dX12_ends_31 : decode prog_13_method_97_code 31 = .ok (.iload_n 2, 1) := by decide +kernel
theorem dX12_ends_32 : decode prog_13_method_97_code 32 = .ok (.ifCond .ne 26, 3) := by decide +kernel
theorem dX12_ends_35 : decode prog_13_method_97_code 35 = .ok (.aload_n 0, 1) := by decide +kernel
theorem dX12_ends_36 : decode prog_13_method_97_code 36 = .ok (.aload_n 0, 1) := by decide +kernel
theorem dX12_ends_37 : decode prog_13_method_97_code 37 = .ok (.getfield 64, 3) := by decide +kernel
theorem dX12_ends_40 : decode prog_13_method_97_code 40 = .ok (.aload_n 0, 1) := by decide +kernel
theorem dX12_ends_41 : decode prog_13_method_97_code 41 = .ok (.getfield 553, 3) := by decide +kernel
theorem dX12_ends_44 : decode prog_13_method_97_code 44 = .ok (.iaload, 1) := by decide +kernel
theorem dX12_ends_45 : decode prog_13_method_97_code 45 = .ok (.aload_n 0, 1) := by decide +kernel
theorem dX12_ends_46 : decode prog_13_method_97_code 46 = .ok (.getfield 556, 3) := by decide +kernel
theorem dX12_ends_49 : decode prog_13_method_97_code 49 = .ok (.invokestatic 386, 3) := by decide +kernel
theorem dX12_ends_52 : decode prog_13_method_97_code 52 = .ok (.putfield 542, 3) := by decide +kernel
theorem dX12_ends_55 : decode prog_13_method_97_code 55 = .ok (.goto 55, 3) := by decide +kernel
theorem dX12_ends_58 : decode prog_13_method_97_code 58 = .ok (.aload_n 0, 1) := by decide +kernel
theorem dX12_ends_59 : decode prog_13_method_97_code 59 = .ok (.getfield 539, 3) := by decide +kernel
theorem dX12_ends_62 : decode prog_13_method_97_code 62 = .ok (.iconst (-1), 1) := by decide +kernel
theorem dX12_ends_63 : decode prog_13_method_97_code 63 = .ok (.if_icmp .eq 14, 3) := by decide +kernel
theorem dX12_ends_66 : decode prog_13_method_97_code 66 = .ok (.aload_n 0, 1) := by decide +kernel
theorem dX12_ends_67 : decode prog_13_method_97_code 67 = .ok (.getfield 437, 3) := by decide +kernel
theorem dX12_ends_70 : decode prog_13_method_97_code 70 = .ok (.aload_n 0, 1) := by decide +kernel
theorem dX12_ends_71 : decode prog_13_method_97_code 71 = .ok (.getfield 539, 3) := by decide +kernel
theorem dX12_ends_74 : decode prog_13_method_97_code 74 = .ok (.if_icmp .ge 36, 3) := by decide +kernel
theorem dX12_ends_77 : decode prog_13_method_97_code 77 = .ok (.aload_n 0, 1) := by decide +kernel
theorem dX12_ends_78 : decode prog_13_method_97_code 78 = .ok (.aload_n 0, 1) := by decide +kernel
theorem dX12_ends_79 : decode prog_13_method_97_code 79 = .ok (.getfield 437, 3) := by decide +kernel
theorem dX12_ends_82 : decode prog_13_method_97_code 82 = .ok (.putfield 539, 3) := by decide +kernel
theorem dX12_ends_85 : decode prog_13_method_97_code 85 = .ok (.iconst 0, 1) := by decide +kernel
theorem dX12_ends_86 : decode prog_13_method_97_code 86 = .ok (.istore_n 3, 1) := by decide +kernel
theorem dX12_ends_87 : decode prog_13_method_97_code 87 = .ok (.iload_n 3, 1) := by decide +kernel
theorem dX12_ends_88 : decode prog_13_method_97_code 88 = .ok (.iload_n 1, 1) := by decide +kernel
theorem dX12_ends_89 : decode prog_13_method_97_code 89 = .ok (.if_icmp .ge 21, 3) := by decide +kernel
theorem dX12_ends_92 : decode prog_13_method_97_code 92 = .ok (.aload_n 0, 1) := by decide +kernel
theorem dX12_ends_93 : decode prog_13_method_97_code 93 = .ok (.getfield 82, 3) := by decide +kernel
theorem dX12_ends_96 : decode prog_13_method_97_code 96 = .ok (.iload_n 3, 1) := by decide +kernel
theorem dX12_ends_97 : decode prog_13_method_97_code 97 = .ok (.aload_n 0, 1) := by decide +kernel
theorem dX12_ends_98 : decode prog_13_method_97_code 98 = .ok (.getfield 27, 3) := by decide +kernel
theorem dX12_ends_101 : decode prog_13_method_97_code 101 = .ok (.iload_n 3, 1) := by decide +kernel
theorem dX12_ends_102 : decode prog_13_method_97_code 102 = .ok (.iaload, 1) := by decide +kernel
theorem dX12_ends_103 : decode prog_13_method_97_code 103 = .ok (.iastore, 1) := by decide +kernel
theorem dX12_ends_104 : decode prog_13_method_97_code 104 = .ok (.iinc 3 1, 3) := by decide +kernel
theorem dX12_ends_107 : decode prog_13_method_97_code 107 = .ok (.goto (-20), 3) := by decide +kernel
theorem dX12_ends_110 : decode prog_13_method_97_code 110 = .ok (.return_, 1) := by decide +kernel
theorem dX12_refusesRow_0 : decode prog_13_method_98_code 0 = .ok (.aload_n 0, 1) := by decide +kernel
theorem dX12_refusesRow_1 : decode prog_13_method_98_code 1 = .ok (.getfield 409, 3) := by decide +kernel
theorem dX12_refusesRow_4 : decode prog_13_method_98_code 4 = .ok (.ifnonnull 7, 3) := by decide +kernel
theorem dX12_refusesRow_7 : decode prog_13_method_98_code 7 = .ok (.iconst 1, 1) := by decide +kernel
theorem dX12_refusesRow_8 : decode prog_13_method_98_code 8 = .ok (.goto 17, 3) := by decide +kernel
theorem dX12_refusesRow_11 : decode prog_13_method_98_code 11 = .ok (.iload_n 1, 1) := by decide +kernel
theorem dX12_refusesRow_12 : decode prog_13_method_98_code 12 = .ok (.iconst 1, 1) := by decide +kernel
theorem dX12_refusesRow_13 : decode prog_13_method_98_code 13 = .ok (.iconst 4, 1) := by decide +kernel
theorem dX12_refusesRow_14 : decode prog_13_method_98_code 14 = .ok (.invokestatic 160, 3) := by decide +kernel
theorem dX12_refusesRow_17 : decode prog_13_method_98_code 17 = .ok (.ifCond .eq 7, 3) := by decide +kernel
theorem dX12_refusesRow_20 : decode prog_13_method_98_code 20 = .ok (.iconst 0, 1) := by decide +kernel
theorem dX12_refusesRow_21 : decode prog_13_method_98_code 21 = .ok (.goto 4, 3) := by decide +kernel
theorem dX12_refusesRow_24 : decode prog_13_method_98_code 24 = .ok (.iconst 2, 1) := by decide +kernel
theorem dX12_refusesRow_25 : decode prog_13_method_98_code 25 = .ok (.ireturn, 1) := by decide +kernel
theorem dX12_row_0 : decode prog_13_method_99_code 0 = .ok (.aload_n 0, 1) := by decide +kernel
theorem dX12_row_1 : decode prog_13_method_99_code 1 = .ok (.iconst 0, 1) := by decide +kernel
theorem dX12_row_2 : decode prog_13_method_99_code 2 = .ok (.putfield 85, 3) := by decide +kernel
theorem dX12_row_5 : decode prog_13_method_99_code 5 = .ok (.aload_n 0, 1) := by decide +kernel
theorem dX12_row_6 : decode prog_13_method_99_code 6 = .ok (.iload_n 1, 1) := by decide +kernel
theorem dX12_row_7 : decode prog_13_method_99_code 7 = .ok (.invokevirtual 559, 3) := by decide +kernel
theorem dX12_row_10 : decode prog_13_method_99_code 10 = .ok (.istore_n 2, 1) := by decide +kernel
theorem dX12_row_11 : decode prog_13_method_99_code 11 = .ok (.iload_n 2, 1) := by decide +kernel
theorem dX12_row_12 : decode prog_13_method_99_code 12 = .ok (.ifCond .le 9, 3) := by decide +kernel
theorem dX12_row_15 : decode prog_13_method_99_code 15 = .ok (.aload_n 0, 1) := by decide +kernel
theorem dX12_row_16 : decode prog_13_method_99_code 16 = .ok (.iload_n 2, 1) := by decide +kernel
theorem dX12_row_17 : decode prog_13_method_99_code 17 = .ok (.invokevirtual 91, 3) := by decide +kernel
theorem dX12_row_20 : decode prog_13_method_99_code 20 = .ok (.ireturn, 1) := by decide +kernel
theorem dX12_row_21 : decode prog_13_method_99_code 21 = .ok (.aload_n 0, 1) := by decide +kernel
theorem dX12_row_22 : decode prog_13_method_99_code 22 = .ok (.iload_n 1, 1) := by decide +kernel
theorem dX12_row_23 : decode prog_13_method_99_code 23 = .ok (.iconst 1, 1) := by decide +kernel
theorem dX12_row_24 : decode prog_13_method_99_code 24 = .ok (.invokevirtual 562, 3) := by decide +kernel
theorem dX12_row_27 : decode prog_13_method_99_code 27 = .ok (.aload_n 0, 1) := by decide +kernel
theorem dX12_row_28 : decode prog_13_method_99_code 28 = .ok (.aload_n 0, 1) := by decide +kernel
theorem dX12_row_29 : decode prog_13_method_99_code 29 = .ok (.getfield 539, 3) := by decide +kernel
theorem dX12_row_32 : decode prog_13_method_99_code 32 = .ok (.invokevirtual 95, 3) := by decide +kernel
theorem dX12_row_35 : decode prog_13_method_99_code 35 = .ok (.ireturn, 1) := by decide +kernel
theorem dX12_rowAt_0 : decode prog_13_method_100_code 0 = .ok (.aload_n 0, 1) := by decide +kernel
theorem dX12_rowAt_1 : decode prog_13_method_100_code 1 = .ok (.iconst 0, 1) := by decide +kernel
theorem dX12_rowAt_2 : decode prog_13_method_100_code 2 = .ok (.putfield 85, 3) := by decide +kernel
theorem dX12_rowAt_5 : decode prog_13_method_100_code 5 = .ok (.aload_n 0, 1) := by decide +kernel
theorem dX12_rowAt_6 : decode prog_13_method_100_code 6 = .ok (.iload_n 1, 1) := by decide +kernel
theorem dX12_rowAt_7 : decode prog_13_method_100_code 7 = .ok (.invokevirtual 559, 3) := by decide +kernel
theorem dX12_rowAt_10 : decode prog_13_method_100_code 10 = .ok (.istore_n 3, 1) := by decide +kernel
theorem dX12_rowAt_11 : decode prog_13_method_100_code 11 = .ok (.iload_n 3, 1) := by decide +kernel
theorem dX12_rowAt_12 : decode prog_13_method_100_code 12 = .ok (.ifCond .le 9, 3) := by decide +kernel
theorem dX12_rowAt_15 : decode prog_13_method_100_code 15 = .ok (.aload_n 0, 1) := by decide +kernel
theorem dX12_rowAt_16 : decode prog_13_method_100_code 16 = .ok (.iload_n 3, 1) := by decide +kernel
theorem dX12_rowAt_17 : decode prog_13_method_100_code 17 = .ok (.invokevirtual 91, 3) := by decide +kernel
theorem dX12_rowAt_20 : decode prog_13_method_100_code 20 = .ok (.ireturn, 1) := by decide +kernel
theorem dX12_rowAt_21 : decode prog_13_method_100_code 21 = .ok (.iload_n 2, 1) := by decide +kernel
theorem dX12_rowAt_22 : decode prog_13_method_100_code 22 = .ok (.ifCond .lt 8, 3) := by decide +kernel
theorem dX12_rowAt_25 : decode prog_13_method_100_code 25 = .ok (.iload_n 2, 1) := by decide +kernel
theorem dX12_rowAt_26 : decode prog_13_method_100_code 26 = .ok (.iload_n 1, 1) := by decide +kernel
theorem dX12_rowAt_27 : decode prog_13_method_100_code 27 = .ok (.if_icmp .lt 9, 3) := by decide +kernel
theorem dX12_rowAt_30 : decode prog_13_method_100_code 30 = .ok (.aload_n 0, 1) := by decide +kernel
theorem dX12_rowAt_31 : decode prog_13_method_100_code 31 = .ok (.iconst 1, 1) := by decide +kernel
theorem dX12_rowAt_32 : decode prog_13_method_100_code 32 = .ok (.invokevirtual 91, 3) := by decide +kernel
theorem dX12_rowAt_35 : decode prog_13_method_100_code 35 = .ok (.ireturn, 1) := by decide +kernel
theorem dX12_rowAt_36 : decode prog_13_method_100_code 36 = .ok (.aload_n 0, 1) := by decide +kernel
theorem dX12_rowAt_37 : decode prog_13_method_100_code 37 = .ok (.iload_n 1, 1) := by decide +kernel
theorem dX12_rowAt_38 : decode prog_13_method_100_code 38 = .ok (.iconst 1, 1) := by decide +kernel
theorem dX12_rowAt_39 : decode prog_13_method_100_code 39 = .ok (.invokevirtual 562, 3) := by decide +kernel
theorem dX12_rowAt_42 : decode prog_13_method_100_code 42 = .ok (.aload_n 0, 1) := by decide +kernel
theorem dX12_rowAt_43 : decode prog_13_method_100_code 43 = .ok (.aload_n 0, 1) := by decide +kernel
theorem dX12_rowAt_44 : decode prog_13_method_100_code 44 = .ok (.getfield 82, 3) := by decide +kernel
theorem dX12_rowAt_47 : decode prog_13_method_100_code 47 = .ok (.iload_n 2, 1) := by decide +kernel
theorem dX12_rowAt_48 : decode prog_13_method_100_code 48 = .ok (.iaload, 1) := by decide +kernel
theorem dX12_rowAt_49 : decode prog_13_method_100_code 49 = .ok (.invokevirtual 95, 3) := by decide +kernel
theorem dX12_rowAt_52 : decode prog_13_method_100_code 52 = .ok (.ireturn, 1) := by decide +kernel
theorem dX12_chain_0 : decode prog_13_method_101_code 0 = .ok (.aload_n 0, 1) := by decide +kernel
theorem dX12_chain_1 : decode prog_13_method_101_code 1 = .ok (.iconst 0, 1) := by decide +kernel
theorem dX12_chain_2 : decode prog_13_method_101_code 2 = .ok (.putfield 85, 3) := by decide +kernel
theorem dX12_chain_5 : decode prog_13_method_101_code 5 = .ok (.aload_n 0, 1) := by decide +kernel
theorem dX12_chain_6 : decode prog_13_method_101_code 6 = .ok (.iload_n 1, 1) := by decide +kernel
theorem dX12_chain_7 : decode prog_13_method_101_code 7 = .ok (.invokevirtual 516, 3) := by decide +kernel
theorem dX12_chain_10 : decode prog_13_method_101_code 10 = .ok (.ifCond .eq 11, 3) := by decide +kernel
theorem dX12_chain_13 : decode prog_13_method_101_code 13 = .ok (.aload_n 0, 1) := by decide +kernel
theorem dX12_chain_14 : decode prog_13_method_101_code 14 = .ok (.iload_n 2, 1) := by decide +kernel
theorem dX12_chain_15 : decode prog_13_method_101_code 15 = .ok (.invokevirtual 513, 3) := by decide +kernel
theorem dX12_chain_18 : decode prog_13_method_101_code 18 = .ok (.ifCond .ne 9, 3) := by decide +kernel
theorem dX12_chain_21 : decode prog_13_method_101_code 21 = .ok (.aload_n 0, 1) := by decide +kernel
theorem dX12_chain_22 : decode prog_13_method_101_code 22 = .ok (.iconst 1, 1) := by decide +kernel
theorem dX12_chain_23 : decode prog_13_method_101_code 23 = .ok (.invokevirtual 91, 3) := by decide +kernel
theorem dX12_chain_26 : decode prog_13_method_101_code 26 = .ok (.ireturn, 1) := by decide +kernel
theorem dX12_chain_27 : decode prog_13_method_101_code 27 = .ok (.aload_n 0, 1) := by decide +kernel
theorem dX12_chain_28 : decode prog_13_method_101_code 28 = .ok (.getfield 409, 3) := by decide +kernel
theorem dX12_chain_31 : decode prog_13_method_101_code 31 = .ok (.getfield 378, 3) := by decide +kernel
theorem dX12_chain_34 : decode prog_13_method_101_code 34 = .ok (.iload_n 1, 1) := by decide +kernel
theorem dX12_chain_35 : decode prog_13_method_101_code 35 = .ok (.iaload, 1) := by decide +kernel
theorem dX12_chain_36 : decode prog_13_method_101_code 36 = .ok (.iload_n 2, 1) := by decide +kernel
theorem dX12_chain_37 : decode prog_13_method_101_code 37 = .ok (.if_icmp .ne 9, 3) := by decide +kernel
theorem dX12_chain_40 : decode prog_13_method_101_code 40 = .ok (.aload_n 0, 1) := by decide +kernel
theorem dX12_chain_41 : decode prog_13_method_101_code 41 = .ok (.iconst 0, 1) := by decide +kernel
theorem dX12_chain_42 : decode prog_13_method_101_code 42 = .ok (.invokevirtual 95, 3) := by decide +kernel
theorem dX12_chain_45 : decode prog_13_method_101_code 45 = .ok (.ireturn, 1) := by decide +kernel
theorem dX12_chain_46 : decode prog_13_method_101_code 46 = .ok (.aload_n 0, 1) := by decide +kernel
theorem dX12_chain_47 : decode prog_13_method_101_code 47 = .ok (.iload_n 1, 1) := by decide +kernel
theorem dX12_chain_48 : decode prog_13_method_101_code 48 = .ok (.putfield 556, 3) := by decide +kernel
theorem dX12_chain_51 : decode prog_13_method_101_code 51 = .ok (.aload_n 0, 1) := by decide +kernel
theorem dX12_chain_52 : decode prog_13_method_101_code 52 = .ok (.iload_n 2, 1) := by decide +kernel
theorem dX12_chain_53 : decode prog_13_method_101_code 53 = .ok (.putfield 553, 3) := by decide +kernel
theorem dX12_chain_56 : decode prog_13_method_101_code 56 = .ok (.iconst 1, 1) := by decide +kernel
theorem dX12_chain_57 : decode prog_13_method_101_code 57 = .ok (.istore_n 3, 1) := by decide +kernel
theorem dX12_chain_58 : decode prog_13_method_101_code 58 = .ok (.iload_n 3, 1) := by decide +kernel
theorem dX12_chain_59 : decode prog_13_method_101_code 59 = .ok (.iconst 4, 1) := by decide +kernel
theorem dX12_chain_60 : decode prog_13_method_101_code 60 = .ok (.if_icmp .gt 28, 3) := by decide +kernel
theorem dX12_chain_63 : decode prog_13_method_101_code 63 = .ok (.aload_n 0, 1) := by decide +kernel
theorem dX12_chain_64 : decode prog_13_method_101_code 64 = .ok (.iload_n 3, 1) := by decide +kernel
theorem dX12_chain_65 : decode prog_13_method_101_code 65 = .ok (.iconst 0, 1) := by decide +kernel
theorem dX12_chain_66 : decode prog_13_method_101_code 66 = .ok (.invokevirtual 562, 3) := by decide +kernel
theorem dX12_chain_69 : decode prog_13_method_101_code 69 = .ok (.aload_n 0, 1) := by decide +kernel
theorem dX12_chain_70 : decode prog_13_method_101_code 70 = .ok (.getfield 542, 3) := by decide +kernel
theorem dX12_chain_73 : decode prog_13_method_101_code 73 = .ok (.ifCond .eq 9, 3) := by decide +kernel
theorem dX12_chain_76 : decode prog_13_method_101_code 76 = .ok (.aload_n 0, 1) := by decide +kernel
theorem dX12_chain_77 : decode prog_13_method_101_code 77 = .ok (.iload_n 3, 1) := by decide +kernel
theorem dX12_chain_78 : decode prog_13_method_101_code 78 = .ok (.invokevirtual 95, 3) := by decide +kernel
theorem dX12_chain_81 : decode prog_13_method_101_code 81 = .ok (.ireturn, 1) := by decide +kernel
theorem dX12_chain_82 : decode prog_13_method_101_code 82 = .ok (.iinc 3 1, 3) := by decide +kernel
theorem dX12_chain_85 : decode prog_13_method_101_code 85 = .ok (.goto (-27), 3) := by decide +kernel
theorem dX12_chain_88 : decode prog_13_method_101_code 88 = .ok (.aload_n 0, 1) := by decide +kernel
theorem dX12_chain_89 : decode prog_13_method_101_code 89 = .ok (.bipush (-2), 2) := by decide +kernel
theorem dX12_chain_91 : decode prog_13_method_101_code 91 = .ok (.invokevirtual 95, 3) := by decide +kernel
theorem dX12_chain_94 : decode prog_13_method_101_code 94 = .ok (.ireturn, 1) := by decide +kernel
theorem dX12_tradeOf_0 : decode prog_13_method_102_code 0 = .ok (.aload_n 0, 1) := by decide +kernel
theorem dX12_tradeOf_1 : decode prog_13_method_102_code 1 = .ok (.invokevirtual 510, 3) := by decide +kernel
theorem dX12_tradeOf_4 : decode prog_13_method_102_code 4 = .ok (.aload_n 0, 1) := by decide +kernel
theorem dX12_tradeOf_5 : decode prog_13_method_102_code 5 = .ok (.getfield 437, 3) := by decide +kernel
theorem dX12_tradeOf_8 : decode prog_13_method_102_code 8 = .ok (.istore_n 3, 1) := by decide +kernel
theorem dX12_tradeOf_9 : decode prog_13_method_102_code 9 = .ok (.aload_n 0, 1) := by decide +kernel
theorem dX12_tradeOf_10 : decode prog_13_method_102_code 10 = .ok (.iload_n 1, 1) := by decide +kernel
theorem dX12_tradeOf_11 : decode prog_13_method_102_code 11 = .ok (.putfield 423, 3) := by decide +kernel
theorem dX12_tradeOf_14 : decode prog_13_method_102_code 14 = .ok (.aload_n 0, 1) := by decide +kernel
theorem dX12_tradeOf_15 : decode prog_13_method_102_code 15 = .ok (.iload_n 2, 1) := by decide +kernel
theorem dX12_tradeOf_16 : decode prog_13_method_102_code 16 = .ok (.putfield 478, 3) := by decide +kernel
theorem dX12_tradeOf_19 : decode prog_13_method_102_code 19 = .ok (.aload_n 0, 1) := by decide +kernel
theorem dX12_tradeOf_20 : decode prog_13_method_102_code 20 = .ok (.aload_n 0, 1) := by decide +kernel
theorem dX12_tradeOf_21 : decode prog_13_method_102_code 21 = .ok (.getfield 17, 3) := by decide +kernel
theorem dX12_tradeOf_24 : decode prog_13_method_102_code 24 = .ok (.iconst 0, 1) := by decide +kernel
theorem dX12_tradeOf_25 : decode prog_13_method_102_code 25 = .ok (.iaload, 1) := by decide +kernel
theorem dX12_tradeOf_26 : decode prog_13_method_102_code 26 = .ok (.aload_n 0, 1) := by decide +kernel
theorem dX12_tradeOf_27 : decode prog_13_method_102_code 27 = .ok (.getfield 17, 3) := by decide +kernel
theorem dX12_tradeOf_30 : decode prog_13_method_102_code 30 = .ok (.iconst 1, 1) := by decide +kernel
theorem dX12_tradeOf_31 : decode prog_13_method_102_code 31 = .ok (.iaload, 1) := by decide +kernel
theorem dX12_tradeOf_32 : decode prog_13_method_102_code 32 = .ok (.aload_n 0, 1) := by decide +kernel
theorem dX12_tradeOf_33 : decode prog_13_method_102_code 33 = .ok (.getfield 409, 3) := by decide +kernel
theorem dX12_tradeOf_36 : decode prog_13_method_102_code 36 = .ok (.getfield 176, 3) := by decide +kernel
theorem dX12_tradeOf_39 : decode prog_13_method_102_code 39 = .ok (.invokevirtual 426, 3) := by decide +kernel
theorem dX12_tradeOf_42 : decode prog_13_method_102_code 42 = .ok (.aload_n 0, 1) := by decide +kernel
theorem dX12_tradeOf_43 : decode prog_13_method_102_code 43 = .ok (.getfield 437, 3) := by decide +kernel
theorem dX12_tradeOf_46 : decode prog_13_method_102_code 46 = .ok (.iload_n 3, 1) := by decide +kernel
theorem dX12_tradeOf_47 : decode prog_13_method_102_code 47 = .ok (.isub, 1) := by decide +kernel
theorem dX12_tradeOf_48 : decode prog_13_method_102_code 48 = .ok (.ireturn, 1) := by decide +kernel
theorem dX12_trade_0 : decode prog_13_method_103_code 0 = .ok (.aload_n 0, 1) := by decide +kernel
theorem dX12_trade_1 : decode prog_13_method_103_code 1 = .ok (.iconst 0, 1) := by decide +kernel
theorem dX12_trade_2 : decode prog_13_method_103_code 2 = .ok (.putfield 85, 3) := by decide +kernel
theorem dX12_trade_5 : decode prog_13_method_103_code 5 = .ok (.aload_n 0, 1) := by decide +kernel
theorem dX12_trade_6 : decode prog_13_method_103_code 6 = .ok (.iload_n 1, 1) := by decide +kernel
theorem dX12_trade_7 : decode prog_13_method_103_code 7 = .ok (.invokevirtual 513, 3) := by decide +kernel
theorem dX12_trade_10 : decode prog_13_method_103_code 10 = .ok (.ifCond .eq 29, 3) := by decide +kernel
theorem dX12_trade_13 : decode prog_13_method_103_code 13 = .ok (.aload_n 0, 1) := by decide +kernel
theorem dX12_trade_14 : decode prog_13_method_103_code 14 = .ok (.iload_n 2, 1) := by decide +kernel
theorem dX12_trade_15 : decode prog_13_method_103_code 15 = .ok (.invokevirtual 513, 3) := by decide +kernel
theorem dX12_trade_18 : decode prog_13_method_103_code 18 = .ok (.ifCond .eq 21, 3) := by decide +kernel
theorem dX12_trade_21 : decode prog_13_method_103_code 21 = .ok (.iload_n 1, 1) := by decide +kernel
theorem dX12_trade_22 : decode prog_13_method_103_code 22 = .ok (.iload_n 2, 1) := by decide +kernel
theorem dX12_trade_23 : decode prog_13_method_103_code 23 = .ok (.if_icmp .eq 16, 3) := by decide +kernel
theorem dX12_trade_26 : decode prog_13_method_103_code 26 = .ok (.aload_n 0, 1) := by decide +kernel
theorem dX12_trade_27 : decode prog_13_method_103_code 27 = .ok (.aload_n 0, 1) := by decide +kernel
theorem dX12_trade_28 : decode prog_13_method_103_code 28 = .ok (.iload_n 1, 1) := by decide +kernel
theorem dX12_trade_29 : decode prog_13_method_103_code 29 = .ok (.iload_n 2, 1) := by decide +kernel
theorem dX12_trade_30 : decode prog_13_method_103_code 30 = .ok (.invokevirtual 565, 3) := by decide +kernel
theorem dX12_trade_33 : decode prog_13_method_103_code 33 = .ok (.invokevirtual 95, 3) := by decide +kernel
theorem dX12_trade_36 : decode prog_13_method_103_code 36 = .ok (.goto 8, 3) := by decide +kernel
theorem dX12_trade_39 : decode prog_13_method_103_code 39 = .ok (.aload_n 0, 1) := by decide +kernel
theorem dX12_trade_40 : decode prog_13_method_103_code 40 = .ok (.iconst 1, 1) := by decide +kernel
theorem dX12_trade_41 : decode prog_13_method_103_code 41 = .ok (.invokevirtual 527, 3) := by decide +kernel
theorem dX12_trade_44 : decode prog_13_method_103_code 44 = .ok (.ireturn, 1) := by decide +kernel
theorem dX12_bestTrade_0 : decode prog_13_method_104_code 0 = .ok (.aload_n 0, 1) := by decide +kernel
theorem dX12_bestTrade_1 : decode prog_13_method_104_code 1 = .ok (.iconst 0, 1) := by decide +kernel
theorem dX12_bestTrade_2 : decode prog_13_method_104_code 2 = .ok (.putfield 85, 3) := by decide +kernel
theorem dX12_bestTrade_5 : decode prog_13_method_104_code 5 = .ok (.aload_n 0, 1) := by decide +kernel
theorem dX12_bestTrade_6 : decode prog_13_method_104_code 6 = .ok (.getfield 409, 3) := by decide +kernel
theorem dX12_bestTrade_9 : decode prog_13_method_104_code 9 = .ok (.ifnonnull 9, 3) := by decide +kernel
theorem dX12_bestTrade_12 : decode prog_13_method_104_code 12 = .ok (.aload_n 0, 1) := by decide +kernel
theorem dX12_bestTrade_13 : decode prog_13_method_104_code 13 = .ok (.iconst 1, 1) := by decide +kernel
theorem dX12_bestTrade_14 : decode prog_13_method_104_code 14 = .ok (.invokevirtual 91, 3) := by decide +kernel
theorem dX12_bestTrade_17 : decode prog_13_method_104_code 17 = .ok (.ireturn, 1) := by decide +kernel
theorem dX12_bestTrade_18 : decode prog_13_method_104_code 18 = .ok (.aload_n 0, 1) := by decide +kernel
theorem dX12_bestTrade_19 : decode prog_13_method_104_code 19 = .ok (.getfield 409, 3) := by decide +kernel
theorem dX12_bestTrade_22 : decode prog_13_method_104_code 22 = .ok (.getfield 230, 3) := by decide +kernel
theorem dX12_bestTrade_25 : decode prog_13_method_104_code 25 = .ok (.iconst 2, 1) := by decide +kernel
theorem dX12_bestTrade_26 : decode prog_13_method_104_code 26 = .ok (.if_icmp .ge 10, 3) := by decide +kernel
theorem dX12_bestTrade_29 : decode prog_13_method_104_code 29 = .ok (.aload_n 0, 1) := by decide +kernel
theorem dX12_bestTrade_30 : decode prog_13_method_104_code 30 = .ok (.bipush 6, 2) := by decide +kernel
theorem dX12_bestTrade_32 : decode prog_13_method_104_code 32 = .ok (.invokevirtual 91, 3) := by decide +kernel
theorem dX12_bestTrade_35 : decode prog_13_method_104_code 35 = .ok (.ireturn, 1) := by decide +kernel
theorem dX12_bestTrade_36 : decode prog_13_method_104_code 36 = .ok (.iconst 1, 1) := by decide +kernel
theorem dX12_bestTrade_37 : decode prog_13_method_104_code 37 = .ok (.istore_n 1, 1) := by decide +kernel
theorem dX12_bestTrade_38 : decode prog_13_method_104_code 38 = .ok (.aload_n 0, 1) := by decide +kernel
theorem dX12_bestTrade_39 : decode prog_13_method_104_code 39 = .ok (.iconst 0, 1) := by decide +kernel
theorem dX12_bestTrade_40 : decode prog_13_method_104_code 40 = .ok (.iconst 1, 1) := by decide +kernel
theorem dX12_bestTrade_41 : decode prog_13_method_104_code 41 = .ok (.invokevirtual 565, 3) := by decide +kernel
theorem dX12_bestTrade_44 : decode prog_13_method_104_code 44 = .ok (.istore_n 2, 1) := by decide +kernel
theorem dX12_bestTrade_45 : decode prog_13_method_104_code 45 = .ok (.iconst 0, 1) := by decide +kernel
theorem dX12_bestTrade_46 : decode prog_13_method_104_code 46 = .ok (.istore_n 3, 1) := by decide +kernel
theorem dX12_bestTrade_47 : decode prog_13_method_104_code 47 = .ok (.iload_n 3, 1) := by decide +kernel
theorem dX12_bestTrade_48 : decode prog_13_method_104_code 48 = .ok (.aload_n 0, 1) := by decide +kernel
theorem dX12_bestTrade_49 : decode prog_13_method_104_code 49 = .ok (.getfield 409, 3) := by decide +kernel
theorem dX12_bestTrade_52 : decode prog_13_method_104_code 52 = .ok (.getfield 230, 3) := by decide +kernel
theorem dX12_bestTrade_55 : decode prog_13_method_104_code 55 = .ok (.if_icmp .ge 61, 3) := by decide +kernel
theorem dX12_bestTrade_58 : decode prog_13_method_104_code 58 = .ok (.iload_n 3, 1) := by decide +kernel
theorem dX12_bestTrade_59 : decode prog_13_method_104_code 59 = .ok (.iconst 1, 1) := by decide +kernel
theorem dX12_bestTrade_60 : decode prog_13_method_104_code 60 = .ok (.iadd, 1) := by decide +kernel
theorem dX12_bestTrade_61 : decode prog_13_method_104_code 61 = .ok (.istore 4, 2) := by decide +kernel
theorem dX12_bestTrade_63 : decode prog_13_method_104_code 63 = .ok (.iload 4, 2) := by decide +kernel
theorem dX12_bestTrade_65 : decode prog_13_method_104_code 65 = .ok (.aload_n 0, 1) := by decide +kernel
theorem dX12_bestTrade_66 : decode prog_13_method_104_code 66 = .ok (.getfield 409, 3) := by decide +kernel
theorem dX12_bestTrade_69 : decode prog_13_method_104_code 69 = .ok (.getfield 230, 3) := by decide +kernel
theorem dX12_bestTrade_72 : decode prog_13_method_104_code 72 = .ok (.if_icmp .ge 38, 3) := by decide +kernel
theorem dX12_bestTrade_75 : decode prog_13_method_104_code 75 = .ok (.aload_n 0, 1) := by decide +kernel
theorem dX12_bestTrade_76 : decode prog_13_method_104_code 76 = .ok (.iload_n 3, 1) := by decide +kernel
theorem dX12_bestTrade_77 : decode prog_13_method_104_code 77 = .ok (.iload 4, 2) := by decide +kernel
theorem dX12_bestTrade_79 : decode prog_13_method_104_code 79 = .ok (.invokevirtual 565, 3) := by decide +kernel
theorem dX12_bestTrade_82 : decode prog_13_method_104_code 82 = .ok (.istore 5, 2) := by decide +kernel
theorem dX12_bestTrade_84 : decode prog_13_method_104_code 84 = .ok (.iload 5, 2) := by decide +kernel
theorem dX12_bestTrade_86 : decode prog_13_method_104_code 86 = .ok (.iload_n 2, 1) := by decide +kernel
theorem dX12_bestTrade_87 : decode prog_13_method_104_code 87 = .ok (.if_icmp .lt 6, 3) := by decide +kernel
theorem dX12_bestTrade_90 : decode prog_13_method_104_code 90 = .ok (.goto 14, 3) := by decide +kernel
theorem dX12_bestTrade_93 : decode prog_13_method_104_code 93 = .ok (.bipush 100, 2) := by decide +kernel
theorem dX12_bestTrade_95 : decode prog_13_method_104_code 95 = .ok (.iload_n 3, 1) := by decide +kernel
theorem dX12_bestTrade_96 : decode prog_13_method_104_code 96 = .ok (.imul, 1) := by decide +kernel
theorem dX12_bestTrade_97 : decode prog_13_method_104_code 97 = .ok (.iload 4, 2) := by decide +kernel
theorem dX12_bestTrade_99 : decode prog_13_method_104_code 99 = .ok (.iadd, 1) := by decide +kernel
theorem dX12_bestTrade_100 : decode prog_13_method_104_code 100 = .ok (.istore_n 1, 1) := by decide +kernel
theorem dX12_bestTrade_101 : decode prog_13_method_104_code 101 = .ok (.iload 5, 2) := by decide +kernel
theorem dX12_bestTrade_103 : decode prog_13_method_104_code 103 = .ok (.istore_n 2, 1) := by decide +kernel
theorem dX12_bestTrade_104 : decode prog_13_method_104_code 104 = .ok (.iinc 4 1, 3) := by decide +kernel
theorem dX12_bestTrade_107 : decode prog_13_method_104_code 107 = .ok (.goto (-44), 3) := by decide +kernel
theorem dX12_bestTrade_110 : decode prog_13_method_104_code 110 = .ok (.iinc 3 1, 3) := by decide +kernel
theorem dX12_bestTrade_113 : decode prog_13_method_104_code 113 = .ok (.goto (-66), 3) := by decide +kernel
theorem dX12_bestTrade_116 : decode prog_13_method_104_code 116 = .ok (.aload_n 0, 1) := by decide +kernel
theorem dX12_bestTrade_117 : decode prog_13_method_104_code 117 = .ok (.iload_n 1, 1) := by decide +kernel
theorem dX12_bestTrade_118 : decode prog_13_method_104_code 118 = .ok (.invokevirtual 95, 3) := by decide +kernel
theorem dX12_bestTrade_121 : decode prog_13_method_104_code 121 = .ok (.ireturn, 1) := by decide +kernel
