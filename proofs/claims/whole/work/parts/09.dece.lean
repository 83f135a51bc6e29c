/-! ===== decode rows, by wip/whole/gen09.py ===== -/
theorem dX12_readPersonLine_0 : decode prog_13_method_33_code 0 = .ok (.aload_n 0, 1) := by decide +kernel
theorem dX12_readPersonLine_1 : decode prog_13_method_33_code 1 = .ok (.aload_n 0, 1) := by decide +kernel
theorem dX12_readPersonLine_2 : decode prog_13_method_33_code 2 = .ok (.getfield 172, 3) := by decide +kernel
theorem dX12_readPersonLine_5 : decode prog_13_method_33_code 5 = .ok (.getfield 230, 3) := by decide +kernel
theorem dX12_readPersonLine_8 : decode prog_13_method_33_code 8 = .ok (.bipush 10, 2) := by decide +kernel
theorem dX12_readPersonLine_10 : decode prog_13_method_33_code 10 = .ok (.invokevirtual 291, 3) := by decide +kernel
theorem dX12_readPersonLine_13 : decode prog_13_method_33_code 13 = .ok (.aload_n 0, 1) := by decide +kernel
theorem dX12_readPersonLine_14 : decode prog_13_method_33_code 14 = .ok (.invokevirtual 295, 3) := by decide +kernel
theorem dX12_readPersonLine_17 : decode prog_13_method_33_code 17 = .ok (.lstore_n 1, 1) := by decide +kernel
theorem dX12_readPersonLine_18 : decode prog_13_method_33_code 18 = .ok (.aload_n 0, 1) := by decide +kernel
theorem dX12_readPersonLine_19 : decode prog_13_method_33_code 19 = .ok (.invokevirtual 299, 3) := by decide +kernel
theorem dX12_readPersonLine_22 : decode prog_13_method_33_code 22 = .ok (.istore_n 3, 1) := by decide +kernel
theorem dX12_readPersonLine_23 : decode prog_13_method_33_code 23 = .ok (.aload_n 0, 1) := by decide +kernel
theorem dX12_readPersonLine_24 : decode prog_13_method_33_code 24 = .ok (.ldc_w 302, 3) := by decide +kernel
theorem dX12_readPersonLine_27 : decode prog_13_method_33_code 27 = .ok (.invokevirtual 164, 3) := by decide +kernel
theorem dX12_readPersonLine_30 : decode prog_13_method_33_code 30 = .ok (.aload_n 0, 1) := by decide +kernel
theorem dX12_readPersonLine_31 : decode prog_13_method_33_code 31 = .ok (.ldc_w 304, 3) := by decide +kernel
theorem dX12_readPersonLine_34 : decode prog_13_method_33_code 34 = .ok (.invokevirtual 152, 3) := by decide +kernel
theorem dX12_readPersonLine_37 : decode prog_13_method_33_code 37 = .ok (.istore 4, 2) := by decide +kernel
theorem dX12_readPersonLine_39 : decode prog_13_method_33_code 39 = .ok (.iload 4, 2) := by decide +kernel
theorem dX12_readPersonLine_41 : decode prog_13_method_33_code 41 = .ok (.ifCond .ne 18, 3) := by decide +kernel
theorem dX12_readPersonLine_44 : decode prog_13_method_33_code 44 = .ok (.aload_n 0, 1) := by decide +kernel
theorem dX12_readPersonLine_45 : decode prog_13_method_33_code 45 = .ok (.ldc_w 306, 3) := by decide +kernel
theorem dX12_readPersonLine_48 : decode prog_13_method_33_code 48 = .ok (.invokevirtual 152, 3) := by decide +kernel
theorem dX12_readPersonLine_51 : decode prog_13_method_33_code 51 = .ok (.ifCond .ne 8, 3) := by decide +kernel
theorem dX12_readPersonLine_54 : decode prog_13_method_33_code 54 = .ok (.aload_n 0, 1) := by decide +kernel
theorem dX12_readPersonLine_55 : decode prog_13_method_33_code 55 = .ok (.iconst 1, 1) := by decide +kernel
theorem dX12_readPersonLine_56 : decode prog_13_method_33_code 56 = .ok (.invokevirtual 156, 3) := by decide +kernel
theorem dX12_readPersonLine_59 : decode prog_13_method_33_code 59 = .ok (.aload_n 0, 1) := by decide +kernel
theorem dX12_readPersonLine_60 : decode prog_13_method_33_code 60 = .ok (.invokevirtual 149, 3) := by decide +kernel
theorem dX12_readPersonLine_63 : decode prog_13_method_33_code 63 = .ok (.aload_n 0, 1) := by decide +kernel
theorem dX12_readPersonLine_64 : decode prog_13_method_33_code 64 = .ok (.ldc_w 308, 3) := by decide +kernel
theorem dX12_readPersonLine_67 : decode prog_13_method_33_code 67 = .ok (.invokevirtual 152, 3) := by decide +kernel
theorem dX12_readPersonLine_70 : decode prog_13_method_33_code 70 = .ok (.istore 5, 2) := by decide +kernel
theorem dX12_readPersonLine_72 : decode prog_13_method_33_code 72 = .ok (.iload 5, 2) := by decide +kernel
theorem dX12_readPersonLine_74 : decode prog_13_method_33_code 74 = .ok (.ifCond .ne 18, 3) := by decide +kernel
theorem dX12_readPersonLine_77 : decode prog_13_method_33_code 77 = .ok (.aload_n 0, 1) := by decide +kernel
theorem dX12_readPersonLine_78 : decode prog_13_method_33_code 78 = .ok (.ldc_w 310, 3) := by decide +kernel
theorem dX12_readPersonLine_81 : decode prog_13_method_33_code 81 = .ok (.invokevirtual 152, 3) := by decide +kernel
theorem dX12_readPersonLine_84 : decode prog_13_method_33_code 84 = .ok (.ifCond .ne 8, 3) := by decide +kernel
theorem dX12_readPersonLine_87 : decode prog_13_method_33_code 87 = .ok (.aload_n 0, 1) := by decide +kernel
theorem dX12_readPersonLine_88 : decode prog_13_method_33_code 88 = .ok (.iconst 1, 1) := by decide +kernel
theorem dX12_readPersonLine_89 : decode prog_13_method_33_code 89 = .ok (.invokevirtual 156, 3) := by decide +kernel
theorem dX12_readPersonLine_92 : decode prog_13_method_33_code 92 = .ok (.aload_n 0, 1) := by decide +kernel
theorem dX12_readPersonLine_93 : decode prog_13_method_33_code 93 = .ok (.invokevirtual 149, 3) := by decide +kernel
theorem dX12_readPersonLine_96 : decode prog_13_method_33_code 96 = .ok (.iload 5, 2) := by decide +kernel
theorem dX12_readPersonLine_98 : decode prog_13_method_33_code 98 = .ok (.ifCond .eq 11, 3) := by decide +kernel
theorem dX12_readPersonLine_101 : decode prog_13_method_33_code 101 = .ok (.aload_n 0, 1) := by decide +kernel
theorem dX12_readPersonLine_102 : decode prog_13_method_33_code 102 = .ok (.iconst 1, 1) := by decide +kernel
theorem dX12_readPersonLine_103 : decode prog_13_method_33_code 103 = .ok (.invokevirtual 312, 3) := by decide +kernel
theorem dX12_readPersonLine_106 : decode prog_13_method_33_code 106 = .ok (.goto 11, 3) := by decide +kernel
theorem dX12_readPersonLine_109 : decode prog_13_method_33_code 109 = .ok (.aload_n 0, 1) := by decide +kernel
theorem dX12_readPersonLine_110 : decode prog_13_method_33_code 110 = .ok (.iconst 0, 1) := by decide +kernel
theorem dX12_readPersonLine_111 : decode prog_13_method_33_code 111 = .ok (.bipush 90, 2) := by decide +kernel
theorem dX12_readPersonLine_113 : decode prog_13_method_33_code 113 = .ok (.invokevirtual 168, 3) := by decide +kernel
theorem dX12_readPersonLine_116 : decode prog_13_method_33_code 116 = .ok (.ineg, 1) := by decide +kernel
theorem dX12_readPersonLine_117 : decode prog_13_method_33_code 117 = .ok (.istore 6, 2) := by decide +kernel
theorem dX12_readPersonLine_119 : decode prog_13_method_33_code 119 = .ok (.aload_n 0, 1) := by decide +kernel
theorem dX12_readPersonLine_120 : decode prog_13_method_33_code 120 = .ok (.ldc_w 315, 3) := by decide +kernel
theorem dX12_readPersonLine_123 : decode prog_13_method_33_code 123 = .ok (.iconst 1, 1) := by decide +kernel
theorem dX12_readPersonLine_124 : decode prog_13_method_33_code 124 = .ok (.bipush 9, 2) := by decide +kernel
theorem dX12_readPersonLine_126 : decode prog_13_method_33_code 126 = .ok (.invokevirtual 259, 3) := by decide +kernel
theorem dX12_readPersonLine_129 : decode prog_13_method_33_code 129 = .ok (.istore 7, 2) := by decide +kernel
theorem dX12_readPersonLine_131 : decode prog_13_method_33_code 131 = .ok (.aload_n 0, 1) := by decide +kernel
theorem dX12_readPersonLine_132 : decode prog_13_method_33_code 132 = .ok (.ldc_w 316, 3) := by decide +kernel
theorem dX12_readPersonLine_135 : decode prog_13_method_33_code 135 = .ok (.iconst 0, 1) := by decide +kernel
theorem dX12_readPersonLine_136 : decode prog_13_method_33_code 136 = .ok (.bipush 9, 2) := by decide +kernel
theorem dX12_readPersonLine_138 : decode prog_13_method_33_code 138 = .ok (.invokevirtual 259, 3) := by decide +kernel
theorem dX12_readPersonLine_141 : decode prog_13_method_33_code 141 = .ok (.istore 8, 2) := by decide +kernel
theorem dX12_readPersonLine_143 : decode prog_13_method_33_code 143 = .ok (.aload_n 0, 1) := by decide +kernel
theorem dX12_readPersonLine_144 : decode prog_13_method_33_code 144 = .ok (.ldc_w 318, 3) := by decide +kernel
theorem dX12_readPersonLine_147 : decode prog_13_method_33_code 147 = .ok (.iconst 0, 1) := by decide +kernel
theorem dX12_readPersonLine_148 : decode prog_13_method_33_code 148 = .ok (.bipush 100, 2) := by decide +kernel
theorem dX12_readPersonLine_150 : decode prog_13_method_33_code 150 = .ok (.invokevirtual 259, 3) := by decide +kernel
theorem dX12_readPersonLine_153 : decode prog_13_method_33_code 153 = .ok (.istore 9, 2) := by decide +kernel
theorem dX12_readPersonLine_155 : decode prog_13_method_33_code 155 = .ok (.aload_n 0, 1) := by decide +kernel
theorem dX12_readPersonLine_156 : decode prog_13_method_33_code 156 = .ok (.getfield 113, 3) := by decide +kernel
theorem dX12_readPersonLine_159 : decode prog_13_method_33_code 159 = .ok (.iconst 5, 1) := by decide +kernel
theorem dX12_readPersonLine_160 : decode prog_13_method_33_code 160 = .ok (.if_icmp .ne 4, 3) := by decide +kernel
theorem dX12_readPersonLine_163 : decode prog_13_method_33_code 163 = .ok (.return_, 1) := by decide +kernel
theorem dX12_readPersonLine_164 : decode prog_13_method_33_code 164 = .ok (.aload_n 0, 1) := by decide +kernel
theorem dX12_readPersonLine_165 : decode prog_13_method_33_code 165 = .ok (.getfield 172, 3) := by decide +kernel
theorem dX12_readPersonLine_168 : decode prog_13_method_33_code 168 = .ok (.getfield 230, 3) := by decide +kernel
theorem dX12_readPersonLine_171 : decode prog_13_method_33_code 171 = .ok (.istore 10, 2) := by decide +kernel
theorem dX12_readPersonLine_173 : decode prog_13_method_33_code 173 = .ok (.aload_n 0, 1) := by decide +kernel
theorem dX12_readPersonLine_174 : decode prog_13_method_33_code 174 = .ok (.lload_n 1, 1) := by decide +kernel
theorem dX12_readPersonLine_175 : decode prog_13_method_33_code 175 = .ok (.iconst 0, 1) := by decide +kernel
theorem dX12_readPersonLine_176 : decode prog_13_method_33_code 176 = .ok (.iload 10, 2) := by decide +kernel
theorem dX12_readPersonLine_178 : decode prog_13_method_33_code 178 = .ok (.invokevirtual 320, 3) := by decide +kernel
theorem dX12_readPersonLine_181 : decode prog_13_method_33_code 181 = .ok (.aload_n 0, 1) := by decide +kernel
theorem dX12_readPersonLine_182 : decode prog_13_method_33_code 182 = .ok (.getfield 172, 3) := by decide +kernel
theorem dX12_readPersonLine_185 : decode prog_13_method_33_code 185 = .ok (.getfield 323, 3) := by decide +kernel
theorem dX12_readPersonLine_188 : decode prog_13_method_33_code 188 = .ok (.iload 10, 2) := by decide +kernel
theorem dX12_readPersonLine_190 : decode prog_13_method_33_code 190 = .ok (.iload_n 3, 1) := by decide +kernel
theorem dX12_readPersonLine_191 : decode prog_13_method_33_code 191 = .ok (.iastore, 1) := by decide +kernel
theorem dX12_readPersonLine_192 : decode prog_13_method_33_code 192 = .ok (.aload_n 0, 1) := by decide +kernel
theorem dX12_readPersonLine_193 : decode prog_13_method_33_code 193 = .ok (.getfield 172, 3) := by decide +kernel
theorem dX12_readPersonLine_196 : decode prog_13_method_33_code 196 = .ok (.getfield 326, 3) := by decide +kernel
theorem dX12_readPersonLine_199 : decode prog_13_method_33_code 199 = .ok (.iload 10, 2) := by decide +kernel
theorem dX12_readPersonLine_201 : decode prog_13_method_33_code 201 = .ok (.iload 4, 2) := by decide +kernel
theorem dX12_readPersonLine_203 : decode prog_13_method_33_code 203 = .ok (.ifCond .eq 7, 3) := by decide +kernel
theorem dX12_readPersonLine_206 : decode prog_13_method_33_code 206 = .ok (.iconst 1, 1) := by decide +kernel
theorem dX12_readPersonLine_207 : decode prog_13_method_33_code 207 = .ok (.goto 4, 3) := by decide +kernel
theorem dX12_readPersonLine_210 : decode prog_13_method_33_code 210 = .ok (.iconst 0, 1) := by decide +kernel
theorem dX12_readPersonLine_211 : decode prog_13_method_33_code 211 = .ok (.iastore, 1) := by decide +kernel
theorem dX12_readPersonLine_212 : decode prog_13_method_33_code 212 = .ok (.aload_n 0, 1) := by decide +kernel
theorem dX12_readPersonLine_213 : decode prog_13_method_33_code 213 = .ok (.getfield 172, 3) := by decide +kernel
theorem dX12_readPersonLine_216 : decode prog_13_method_33_code 216 = .ok (.getfield 328, 3) := by decide +kernel
theorem dX12_readPersonLine_219 : decode prog_13_method_33_code 219 = .ok (.iload 10, 2) := by decide +kernel
theorem dX12_readPersonLine_221 : decode prog_13_method_33_code 221 = .ok (.iload 6, 2) := by decide +kernel
theorem dX12_readPersonLine_223 : decode prog_13_method_33_code 223 = .ok (.iastore, 1) := by decide +kernel
theorem dX12_readPersonLine_224 : decode prog_13_method_33_code 224 = .ok (.aload_n 0, 1) := by decide +kernel
theorem dX12_readPersonLine_225 : decode prog_13_method_33_code 225 = .ok (.getfield 172, 3) := by decide +kernel
theorem dX12_readPersonLine_228 : decode prog_13_method_33_code 228 = .ok (.getfield 330, 3) := by decide +kernel
theorem dX12_readPersonLine_231 : decode prog_13_method_33_code 231 = .ok (.iload 10, 2) := by decide +kernel
theorem dX12_readPersonLine_233 : decode prog_13_method_33_code 233 = .ok (.iload 7, 2) := by decide +kernel
theorem dX12_readPersonLine_235 : decode prog_13_method_33_code 235 = .ok (.iastore, 1) := by decide +kernel
theorem dX12_readPersonLine_236 : decode prog_13_method_33_code 236 = .ok (.aload_n 0, 1) := by decide +kernel
theorem dX12_readPersonLine_237 : decode prog_13_method_33_code 237 = .ok (.getfield 172, 3) := by decide +kernel
theorem dX12_readPersonLine_240 : decode prog_13_method_33_code 240 = .ok (.getfield 331, 3) := by decide +kernel
theorem dX12_readPersonLine_243 : decode prog_13_method_33_code 243 = .ok (.iload 10, 2) := by decide +kernel
theorem dX12_readPersonLine_245 : decode prog_13_method_33_code 245 = .ok (.iload 8, 2) := by decide +kernel
theorem dX12_readPersonLine_247 : decode prog_13_method_33_code 247 = .ok (.iastore, 1) := by decide +kernel
theorem dX12_readPersonLine_248 : decode prog_13_method_33_code 248 = .ok (.aload_n 0, 1) := by decide +kernel
theorem dX12_readPersonLine_249 : decode prog_13_method_33_code 249 = .ok (.getfield 172, 3) := by decide +kernel
theorem dX12_readPersonLine_252 : decode prog_13_method_33_code 252 = .ok (.getfield 333, 3) := by decide +kernel
theorem dX12_readPersonLine_255 : decode prog_13_method_33_code 255 = .ok (.iload 10, 2) := by decide +kernel
theorem dX12_readPersonLine_257 : decode prog_13_method_33_code 257 = .ok (.iload 9, 2) := by decide +kernel
theorem dX12_readPersonLine_259 : decode prog_13_method_33_code 259 = .ok (.iastore, 1) := by decide +kernel
theorem dX12_readPersonLine_260 : decode prog_13_method_33_code 260 = .ok (.aload_n 0, 1) := by decide +kernel
theorem dX12_readPersonLine_261 : decode prog_13_method_33_code 261 = .ok (.getfield 172, 3) := by decide +kernel
theorem dX12_readPersonLine_264 : decode prog_13_method_33_code 264 = .ok (.getfield 335, 3) := by decide +kernel
theorem dX12_readPersonLine_267 : decode prog_13_method_33_code 267 = .ok (.iload 10, 2) := by decide +kernel
theorem dX12_readPersonLine_269 : decode prog_13_method_33_code 269 = .ok (.bipush (-2), 2) := by decide +kernel
theorem dX12_readPersonLine_271 : decode prog_13_method_33_code 271 = .ok (.iastore, 1) := by decide +kernel
theorem dX12_readPersonLine_272 : decode prog_13_method_33_code 272 = .ok (.aload_n 0, 1) := by decide +kernel
theorem dX12_readPersonLine_273 : decode prog_13_method_33_code 273 = .ok (.getfield 172, 3) := by decide +kernel
theorem dX12_readPersonLine_276 : decode prog_13_method_33_code 276 = .ok (.dup, 1) := by decide +kernel
theorem dX12_readPersonLine_277 : decode prog_13_method_33_code 277 = .ok (.getfield 230, 3) := by decide +kernel
theorem dX12_readPersonLine_280 : decode prog_13_method_33_code 280 = .ok (.iconst 1, 1) := by decide +kernel
theorem dX12_readPersonLine_281 : decode prog_13_method_33_code 281 = .ok (.iadd, 1) := by decide +kernel
theorem dX12_readPersonLine_282 : decode prog_13_method_33_code 282 = .ok (.putfield 230, 3) := by decide +kernel
theorem dX12_readPersonLine_285 : decode prog_13_method_33_code 285 = .ok (.return_, 1) := by decide +kernel
theorem dX12_readPlan_0 : decode prog_13_method_34_code 0 = .ok (.aload_n 0, 1) := by decide +kernel
theorem dX12_readPlan_1 : decode prog_13_method_34_code 1 = .ok (.aload_n 0, 1) := by decide +kernel
theorem dX12_readPlan_2 : decode prog_13_method_34_code 2 = .ok (.getfield 172, 3) := by decide +kernel
theorem dX12_readPlan_5 : decode prog_13_method_34_code 5 = .ok (.getfield 337, 3) := by decide +kernel
theorem dX12_readPlan_8 : decode prog_13_method_34_code 8 = .ok (.bipush 12, 2) := by decide +kernel
theorem dX12_readPlan_10 : decode prog_13_method_34_code 10 = .ok (.invokevirtual 291, 3) := by decide +kernel
theorem dX12_readPlan_13 : decode prog_13_method_34_code 13 = .ok (.aload_n 0, 1) := by decide +kernel
theorem dX12_readPlan_14 : decode prog_13_method_34_code 14 = .ok (.invokevirtual 340, 3) := by decide +kernel
theorem dX12_readPlan_17 : decode prog_13_method_34_code 17 = .ok (.istore_n 1, 1) := by decide +kernel
theorem dX12_readPlan_18 : decode prog_13_method_34_code 18 = .ok (.aload_n 0, 1) := by decide +kernel
theorem dX12_readPlan_19 : decode prog_13_method_34_code 19 = .ok (.iconst 0, 1) := by decide +kernel
theorem dX12_readPlan_20 : decode prog_13_method_34_code 20 = .ok (.invokevirtual 312, 3) := by decide +kernel
theorem dX12_readPlan_23 : decode prog_13_method_34_code 23 = .ok (.istore_n 2, 1) := by decide +kernel
theorem dX12_readPlan_24 : decode prog_13_method_34_code 24 = .ok (.aload_n 0, 1) := by decide +kernel
theorem dX12_readPlan_25 : decode prog_13_method_34_code 25 = .ok (.ldc_w 343, 3) := by decide +kernel
theorem dX12_readPlan_28 : decode prog_13_method_34_code 28 = .ok (.invokevirtual 164, 3) := by decide +kernel
theorem dX12_readPlan_31 : decode prog_13_method_34_code 31 = .ok (.aload_n 0, 1) := by decide +kernel
theorem dX12_readPlan_32 : decode prog_13_method_34_code 32 = .ok (.iload_n 2, 1) := by decide +kernel
theorem dX12_readPlan_33 : decode prog_13_method_34_code 33 = .ok (.invokevirtual 312, 3) := by decide +kernel
theorem dX12_readPlan_36 : decode prog_13_method_34_code 36 = .ok (.istore_n 3, 1) := by decide +kernel
theorem dX12_readPlan_37 : decode prog_13_method_34_code 37 = .ok (.aload_n 0, 1) := by decide +kernel
theorem dX12_readPlan_38 : decode prog_13_method_34_code 38 = .ok (.ldc_w 345, 3) := by decide +kernel
theorem dX12_readPlan_41 : decode prog_13_method_34_code 41 = .ok (.iconst 1, 1) := by decide +kernel
theorem dX12_readPlan_42 : decode prog_13_method_34_code 42 = .ok (.bipush 99, 2) := by decide +kernel
theorem dX12_readPlan_44 : decode prog_13_method_34_code 44 = .ok (.invokevirtual 259, 3) := by decide +kernel
theorem dX12_readPlan_47 : decode prog_13_method_34_code 47 = .ok (.istore 4, 2) := by decide +kernel
theorem dX12_readPlan_49 : decode prog_13_method_34_code 49 = .ok (.aload_n 0, 1) := by decide +kernel
theorem dX12_readPlan_50 : decode prog_13_method_34_code 50 = .ok (.getfield 113, 3) := by decide +kernel
theorem dX12_readPlan_53 : decode prog_13_method_34_code 53 = .ok (.iconst 5, 1) := by decide +kernel
theorem dX12_readPlan_54 : decode prog_13_method_34_code 54 = .ok (.if_icmp .ne 4, 3) := by decide +kernel
theorem dX12_readPlan_57 : decode prog_13_method_34_code 57 = .ok (.return_, 1) := by decide +kernel
theorem dX12_readPlan_58 : decode prog_13_method_34_code 58 = .ok (.aload_n 0, 1) := by decide +kernel
theorem dX12_readPlan_59 : decode prog_13_method_34_code 59 = .ok (.getfield 172, 3) := by decide +kernel
theorem dX12_readPlan_62 : decode prog_13_method_34_code 62 = .ok (.getfield 347, 3) := by decide +kernel
theorem dX12_readPlan_65 : decode prog_13_method_34_code 65 = .ok (.aload_n 0, 1) := by decide +kernel
theorem dX12_readPlan_66 : decode prog_13_method_34_code 66 = .ok (.getfield 172, 3) := by decide +kernel
theorem dX12_readPlan_69 : decode prog_13_method_34_code 69 = .ok (.getfield 337, 3) := by decide +kernel
theorem dX12_readPlan_72 : decode prog_13_method_34_code 72 = .ok (.iload_n 1, 1) := by decide +kernel
theorem dX12_readPlan_73 : decode prog_13_method_34_code 73 = .ok (.iastore, 1) := by decide +kernel
theorem dX12_readPlan_74 : decode prog_13_method_34_code 74 = .ok (.aload_n 0, 1) := by decide +kernel
theorem dX12_readPlan_75 : decode prog_13_method_34_code 75 = .ok (.getfield 172, 3) := by decide +kernel
theorem dX12_readPlan_78 : decode prog_13_method_34_code 78 = .ok (.getfield 350, 3) := by decide +kernel
theorem dX12_readPlan_81 : decode prog_13_method_34_code 81 = .ok (.aload_n 0, 1) := by decide +kernel
theorem dX12_readPlan_82 : decode prog_13_method_34_code 82 = .ok (.getfield 172, 3) := by decide +kernel
theorem dX12_readPlan_85 : decode prog_13_method_34_code 85 = .ok (.getfield 337, 3) := by decide +kernel
theorem dX12_readPlan_88 : decode prog_13_method_34_code 88 = .ok (.iload_n 2, 1) := by decide +kernel
theorem dX12_readPlan_89 : decode prog_13_method_34_code 89 = .ok (.iastore, 1) := by decide +kernel
theorem dX12_readPlan_90 : decode prog_13_method_34_code 90 = .ok (.aload_n 0, 1) := by decide +kernel
theorem dX12_readPlan_91 : decode prog_13_method_34_code 91 = .ok (.getfield 172, 3) := by decide +kernel
theorem dX12_readPlan_94 : decode prog_13_method_34_code 94 = .ok (.getfield 353, 3) := by decide +kernel
theorem dX12_readPlan_97 : decode prog_13_method_34_code 97 = .ok (.aload_n 0, 1) := by decide +kernel
theorem dX12_readPlan_98 : decode prog_13_method_34_code 98 = .ok (.getfield 172, 3) := by decide +kernel
theorem dX12_readPlan_101 : decode prog_13_method_34_code 101 = .ok (.getfield 337, 3) := by decide +kernel
theorem dX12_readPlan_104 : decode prog_13_method_34_code 104 = .ok (.iload_n 3, 1) := by decide +kernel
theorem dX12_readPlan_105 : decode prog_13_method_34_code 105 = .ok (.iastore, 1) := by decide +kernel
theorem dX12_readPlan_106 : decode prog_13_method_34_code 106 = .ok (.aload_n 0, 1) := by decide +kernel
theorem dX12_readPlan_107 : decode prog_13_method_34_code 107 = .ok (.getfield 172, 3) := by decide +kernel
theorem dX12_readPlan_110 : decode prog_13_method_34_code 110 = .ok (.getfield 356, 3) := by decide +kernel
theorem dX12_readPlan_113 : decode prog_13_method_34_code 113 = .ok (.aload_n 0, 1) := by decide +kernel
theorem dX12_readPlan_114 : decode prog_13_method_34_code 114 = .ok (.getfield 172, 3) := by decide +kernel
theorem dX12_readPlan_117 : decode prog_13_method_34_code 117 = .ok (.getfield 337, 3) := by decide +kernel
theorem dX12_readPlan_120 : decode prog_13_method_34_code 120 = .ok (.iload 4, 2) := by decide +kernel
theorem dX12_readPlan_122 : decode prog_13_method_34_code 122 = .ok (.iastore, 1) := by decide +kernel
theorem dX12_readPlan_123 : decode prog_13_method_34_code 123 = .ok (.aload_n 0, 1) := by decide +kernel
theorem dX12_readPlan_124 : decode prog_13_method_34_code 124 = .ok (.getfield 172, 3) := by decide +kernel
theorem dX12_readPlan_127 : decode prog_13_method_34_code 127 = .ok (.dup, 1) := by decide +kernel
theorem dX12_readPlan_128 : decode prog_13_method_34_code 128 = .ok (.getfield 337, 3) := by decide +kernel
theorem dX12_readPlan_131 : decode prog_13_method_34_code 131 = .ok (.iconst 1, 1) := by decide +kernel
theorem dX12_readPlan_132 : decode prog_13_method_34_code 132 = .ok (.iadd, 1) := by decide +kernel
theorem dX12_readPlan_133 : decode prog_13_method_34_code 133 = .ok (.putfield 337, 3) := by decide +kernel
theorem dX12_readPlan_136 : decode prog_13_method_34_code 136 = .ok (.return_, 1) := by decide +kernel
theorem dX12_readDies_0 : decode prog_13_method_35_code 0 = .ok (.aload_n 0, 1) := by decide +kernel
theorem dX12_readDies_1 : decode prog_13_method_35_code 1 = .ok (.iconst 0, 1) := by decide +kernel
theorem dX12_readDies_2 : decode prog_13_method_35_code 2 = .ok (.iconst 1, 1) := by decide +kernel
theorem dX12_readDies_3 : decode prog_13_method_35_code 3 = .ok (.invokevirtual 291, 3) := by decide +kernel
theorem dX12_readDies_6 : decode prog_13_method_35_code 6 = .ok (.aload_n 0, 1) := by decide +kernel
theorem dX12_readDies_7 : decode prog_13_method_35_code 7 = .ok (.iconst 0, 1) := by decide +kernel
theorem dX12_readDies_8 : decode prog_13_method_35_code 8 = .ok (.invokevirtual 220, 3) := by decide +kernel
theorem dX12_readDies_11 : decode prog_13_method_35_code 11 = .ok (.istore_n 1, 1) := by decide +kernel
theorem dX12_readDies_12 : decode prog_13_method_35_code 12 = .ok (.aload_n 0, 1) := by decide +kernel
theorem dX12_readDies_13 : decode prog_13_method_35_code 13 = .ok (.getfield 113, 3) := by decide +kernel
theorem dX12_readDies_16 : decode prog_13_method_35_code 16 = .ok (.iconst 5, 1) := by decide +kernel
theorem dX12_readDies_17 : decode prog_13_method_35_code 17 = .ok (.if_icmp .eq 22, 3) := by decide +kernel
theorem dX12_readDies_20 : decode prog_13_method_35_code 20 = .ok (.aload_n 0, 1) := by decide +kernel
theorem dX12_readDies_21 : decode prog_13_method_35_code 21 = .ok (.getfield 172, 3) := by decide +kernel
theorem dX12_readDies_24 : decode prog_13_method_35_code 24 = .ok (.getfield 335, 3) := by decide +kernel
theorem dX12_readDies_27 : decode prog_13_method_35_code 27 = .ok (.iload_n 1, 1) := by decide +kernel
theorem dX12_readDies_28 : decode prog_13_method_35_code 28 = .ok (.iaload, 1) := by decide +kernel
theorem dX12_readDies_29 : decode prog_13_method_35_code 29 = .ok (.bipush (-2), 2) := by decide +kernel
theorem dX12_readDies_31 : decode prog_13_method_35_code 31 = .ok (.if_icmp .eq 8, 3) := by decide +kernel
theorem dX12_readDies_34 : decode prog_13_method_35_code 34 = .ok (.aload_n 0, 1) := by decide +kernel
theorem dX12_readDies_35 : decode prog_13_method_35_code 35 = .ok (.iconst 3, 1) := by decide +kernel
theorem dX12_readDies_36 : decode prog_13_method_35_code 36 = .ok (.invokevirtual 156, 3) := by decide +kernel
theorem dX12_readDies_39 : decode prog_13_method_35_code 39 = .ok (.aload_n 0, 1) := by decide +kernel
theorem dX12_readDies_40 : decode prog_13_method_35_code 40 = .ok (.invokevirtual 149, 3) := by decide +kernel
theorem dX12_readDies_43 : decode prog_13_method_35_code 43 = .ok (.aload_n 0, 1) := by decide +kernel
theorem dX12_readDies_44 : decode prog_13_method_35_code 44 = .ok (.iconst 0, 1) := by decide +kernel
theorem dX12_readDies_45 : decode prog_13_method_35_code 45 = .ok (.invokevirtual 312, 3) := by decide +kernel
theorem dX12_readDies_48 : decode prog_13_method_35_code 48 = .ok (.istore_n 2, 1) := by decide +kernel
theorem dX12_readDies_49 : decode prog_13_method_35_code 49 = .ok (.aload_n 0, 1) := by decide +kernel
theorem dX12_readDies_50 : decode prog_13_method_35_code 50 = .ok (.getfield 113, 3) := by decide +kernel
theorem dX12_readDies_53 : decode prog_13_method_35_code 53 = .ok (.iconst 5, 1) := by decide +kernel
theorem dX12_readDies_54 : decode prog_13_method_35_code 54 = .ok (.if_icmp .eq 13, 3) := by decide +kernel
theorem dX12_readDies_57 : decode prog_13_method_35_code 57 = .ok (.aload_n 0, 1) := by decide +kernel
theorem dX12_readDies_58 : decode prog_13_method_35_code 58 = .ok (.getfield 172, 3) := by decide +kernel
theorem dX12_readDies_61 : decode prog_13_method_35_code 61 = .ok (.getfield 335, 3) := by decide +kernel
theorem dX12_readDies_64 : decode prog_13_method_35_code 64 = .ok (.iload_n 1, 1) := by decide +kernel
theorem dX12_readDies_65 : decode prog_13_method_35_code 65 = .ok (.iload_n 2, 1) := by decide +kernel
theorem dX12_readDies_66 : decode prog_13_method_35_code 66 = .ok (.iastore, 1) := by decide +kernel
theorem dX12_readDies_67 : decode prog_13_method_35_code 67 = .ok (.return_, 1) := by decide +kernel
theorem dX12_readBuys_0 : decode prog_13_method_36_code 0 = .ok (.aload_n 0, 1) := by decide +kernel
theorem dX12_readBuys_1 : decode prog_13_method_36_code 1 = .ok (.aload_n 0, 1) := by decide +kernel
theorem dX12_readBuys_2 : decode prog_13_method_36_code 2 = .ok (.getfield 172, 3) := by decide +kernel
theorem dX12_readBuys_5 : decode prog_13_method_36_code 5 = .ok (.getfield 359, 3) := by decide +kernel
theorem dX12_readBuys_8 : decode prog_13_method_36_code 8 = .ok (.bipush 8, 2) := by decide +kernel
theorem dX12_readBuys_10 : decode prog_13_method_36_code 10 = .ok (.invokevirtual 291, 3) := by decide +kernel
theorem dX12_readBuys_13 : decode prog_13_method_36_code 13 = .ok (.aload_n 0, 1) := by decide +kernel
theorem dX12_readBuys_14 : decode prog_13_method_36_code 14 = .ok (.iconst 0, 1) := by decide +kernel
theorem dX12_readBuys_15 : decode prog_13_method_36_code 15 = .ok (.invokevirtual 312, 3) := by decide +kernel
theorem dX12_readBuys_18 : decode prog_13_method_36_code 18 = .ok (.istore_n 1, 1) := by decide +kernel
theorem dX12_readBuys_19 : decode prog_13_method_36_code 19 = .ok (.aload_n 0, 1) := by decide +kernel
theorem dX12_readBuys_20 : decode prog_13_method_36_code 20 = .ok (.invokevirtual 340, 3) := by decide +kernel
theorem dX12_readBuys_23 : decode prog_13_method_36_code 23 = .ok (.istore_n 2, 1) := by decide +kernel
theorem dX12_readBuys_24 : decode prog_13_method_36_code 24 = .ok (.aload_n 0, 1) := by decide +kernel
theorem dX12_readBuys_25 : decode prog_13_method_36_code 25 = .ok (.iconst 0, 1) := by decide +kernel
theorem dX12_readBuys_26 : decode prog_13_method_36_code 26 = .ok (.invokevirtual 220, 3) := by decide +kernel
theorem dX12_readBuys_29 : decode prog_13_method_36_code 29 = .ok (.istore_n 3, 1) := by decide +kernel
theorem dX12_readBuys_30 : decode prog_13_method_36_code 30 = .ok (.aload_n 0, 1) := by decide +kernel
theorem dX12_readBuys_31 : decode prog_13_method_36_code 31 = .ok (.getfield 113, 3) := by decide +kernel
theorem dX12_readBuys_34 : decode prog_13_method_36_code 34 = .ok (.iconst 5, 1) := by decide +kernel
theorem dX12_readBuys_35 : decode prog_13_method_36_code 35 = .ok (.if_icmp .eq 13, 3) := by decide +kernel
theorem dX12_readBuys_38 : decode prog_13_method_36_code 38 = .ok (.iload_n 2, 1) := by decide +kernel
theorem dX12_readBuys_39 : decode prog_13_method_36_code 39 = .ok (.iload_n 3, 1) := by decide +kernel
theorem dX12_readBuys_40 : decode prog_13_method_36_code 40 = .ok (.if_icmp .ne 8, 3) := by decide +kernel
theorem dX12_readBuys_43 : decode prog_13_method_36_code 43 = .ok (.aload_n 0, 1) := by decide +kernel
theorem dX12_readBuys_44 : decode prog_13_method_36_code 44 = .ok (.iconst 3, 1) := by decide +kernel
theorem dX12_readBuys_45 : decode prog_13_method_36_code 45 = .ok (.invokevirtual 156, 3) := by decide +kernel
theorem dX12_readBuys_48 : decode prog_13_method_36_code 48 = .ok (.aload_n 0, 1) := by decide +kernel
theorem dX12_readBuys_49 : decode prog_13_method_36_code 49 = .ok (.invokevirtual 149, 3) := by decide +kernel
theorem dX12_readBuys_52 : decode prog_13_method_36_code 52 = .ok (.aload_n 0, 1) := by decide +kernel
theorem dX12_readBuys_53 : decode prog_13_method_36_code 53 = .ok (.ldc_w 361, 3) := by decide +kernel
theorem dX12_readBuys_56 : decode prog_13_method_36_code 56 = .ok (.iconst 0, 1) := by decide +kernel
theorem dX12_readBuys_57 : decode prog_13_method_36_code 57 = .ok (.bipush 99, 2) := by decide +kernel
theorem dX12_readBuys_59 : decode prog_13_method_36_code 59 = .ok (.invokevirtual 259, 3) := by decide +kernel
theorem dX12_readBuys_62 : decode prog_13_method_36_code 62 = .ok (.istore 4, 2) := by decide +kernel
theorem dX12_readBuys_64 : decode prog_13_method_36_code 64 = .ok (.aload_n 0, 1) := by decide +kernel
theorem dX12_readBuys_65 : decode prog_13_method_36_code 65 = .ok (.getfield 113, 3) := by decide +kernel
theorem dX12_readBuys_68 : decode prog_13_method_36_code 68 = .ok (.iconst 5, 1) := by decide +kernel
theorem dX12_readBuys_69 : decode prog_13_method_36_code 69 = .ok (.if_icmp .ne 4, 3) := by decide +kernel
theorem dX12_readBuys_72 : decode prog_13_method_36_code 72 = .ok (.return_, 1) := by decide +kernel
theorem dX12_readBuys_73 : decode prog_13_method_36_code 73 = .ok (.aload_n 0, 1) := by decide +kernel
theorem dX12_readBuys_74 : decode prog_13_method_36_code 74 = .ok (.getfield 172, 3) := by decide +kernel
theorem dX12_readBuys_77 : decode prog_13_method_36_code 77 = .ok (.getfield 363, 3) := by decide +kernel
theorem dX12_readBuys_80 : decode prog_13_method_36_code 80 = .ok (.aload_n 0, 1) := by decide +kernel
theorem dX12_readBuys_81 : decode prog_13_method_36_code 81 = .ok (.getfield 172, 3) := by decide +kernel
theorem dX12_readBuys_84 : decode prog_13_method_36_code 84 = .ok (.getfield 359, 3) := by decide +kernel
theorem dX12_readBuys_87 : decode prog_13_method_36_code 87 = .ok (.iload_n 1, 1) := by decide +kernel
theorem dX12_readBuys_88 : decode prog_13_method_36_code 88 = .ok (.iastore, 1) := by decide +kernel
theorem dX12_readBuys_89 : decode prog_13_method_36_code 89 = .ok (.aload_n 0, 1) := by decide +kernel
theorem dX12_readBuys_90 : decode prog_13_method_36_code 90 = .ok (.getfield 172, 3) := by decide +kernel
theorem dX12_readBuys_93 : decode prog_13_method_36_code 93 = .ok (.getfield 366, 3) := by decide +kernel
theorem dX12_readBuys_96 : decode prog_13_method_36_code 96 = .ok (.aload_n 0, 1) := by decide +kernel
theorem dX12_readBuys_97 : decode prog_13_method_36_code 97 = .ok (.getfield 172, 3) := by decide +kernel
theorem dX12_readBuys_100 : decode prog_13_method_36_code 100 = .ok (.getfield 359, 3) := by decide +kernel
theorem dX12_readBuys_103 : decode prog_13_method_36_code 103 = .ok (.iload_n 2, 1) := by decide +kernel
theorem dX12_readBuys_104 : decode prog_13_method_36_code 104 = .ok (.iastore, 1) := by decide +kernel
theorem dX12_readBuys_105 : decode prog_13_method_36_code 105 = .ok (.aload_n 0, 1) := by decide +kernel
theorem dX12_readBuys_106 : decode prog_13_method_36_code 106 = .ok (.getfield 172, 3) := by decide +kernel
theorem dX12_readBuys_109 : decode prog_13_method_36_code 109 = .ok (.getfield 369, 3) := by decide +kernel
theorem dX12_readBuys_112 : decode prog_13_method_36_code 112 = .ok (.aload_n 0, 1) := by decide +kernel
theorem dX12_readBuys_113 : decode prog_13_method_36_code 113 = .ok (.getfield 172, 3) := by decide +kernel
theorem dX12_readBuys_116 : decode prog_13_method_36_code 116 = .ok (.getfield 359, 3) := by decide +kernel
theorem dX12_readBuys_119 : decode prog_13_method_36_code 119 = .ok (.iload_n 3, 1) := by decide +kernel
theorem dX12_readBuys_120 : decode prog_13_method_36_code 120 = .ok (.iastore, 1) := by decide +kernel
theorem dX12_readBuys_121 : decode prog_13_method_36_code 121 = .ok (.aload_n 0, 1) := by decide +kernel
theorem dX12_readBuys_122 : decode prog_13_method_36_code 122 = .ok (.getfield 172, 3) := by decide +kernel
theorem dX12_readBuys_125 : decode prog_13_method_36_code 125 = .ok (.getfield 372, 3) := by decide +kernel
theorem dX12_readBuys_128 : decode prog_13_method_36_code 128 = .ok (.aload_n 0, 1) := by decide +kernel
theorem dX12_readBuys_129 : decode prog_13_method_36_code 129 = .ok (.getfield 172, 3) := by decide +kernel
theorem dX12_readBuys_132 : decode prog_13_method_36_code 132 = .ok (.getfield 359, 3) := by decide +kernel
theorem dX12_readBuys_135 : decode prog_13_method_36_code 135 = .ok (.iload 4, 2) := by decide +kernel
theorem dX12_readBuys_137 : decode prog_13_method_36_code 137 = .ok (.iastore, 1) := by decide +kernel
theorem dX12_readBuys_138 : decode prog_13_method_36_code 138 = .ok (.aload_n 0, 1) := by decide +kernel
theorem dX12_readBuys_139 : decode prog_13_method_36_code 139 = .ok (.getfield 172, 3) := by decide +kernel
theorem dX12_readBuys_142 : decode prog_13_method_36_code 142 = .ok (.dup, 1) := by decide +kernel
theorem dX12_readBuys_143 : decode prog_13_method_36_code 143 = .ok (.getfield 359, 3) := by decide +kernel
theorem dX12_readBuys_146 : decode prog_13_method_36_code 146 = .ok (.iconst 1, 1) := by decide +kernel
theorem dX12_readBuys_147 : decode prog_13_method_36_code 147 = .ok (.iadd, 1) := by decide +kernel
theorem dX12_readBuys_148 : decode prog_13_method_36_code 148 = .ok (.putfield 359, 3) := by decide +kernel
theorem dX12_readBuys_151 : decode prog_13_method_36_code 151 = .ok (.return_, 1) := by decide +kernel
theorem dX12_readSecret_0 : decode prog_13_method_37_code 0 = .ok (.aload_n 0, 1) := by decide +kernel
theorem dX12_readSecret_1 : decode prog_13_method_37_code 1 = .ok (.aload_n 0, 1) := by decide +kernel
theorem dX12_readSecret_2 : decode prog_13_method_37_code 2 = .ok (.getfield 172, 3) := by decide +kernel
theorem dX12_readSecret_5 : decode prog_13_method_37_code 5 = .ok (.getfield 375, 3) := by decide +kernel
theorem dX12_readSecret_8 : decode prog_13_method_37_code 8 = .ok (.bipush 8, 2) := by decide +kernel
theorem dX12_readSecret_10 : decode prog_13_method_37_code 10 = .ok (.invokevirtual 291, 3) := by decide +kernel
theorem dX12_readSecret_13 : decode prog_13_method_37_code 13 = .ok (.aload_n 0, 1) := by decide +kernel
theorem dX12_readSecret_14 : decode prog_13_method_37_code 14 = .ok (.invokevirtual 295, 3) := by decide +kernel
theorem dX12_readSecret_17 : decode prog_13_method_37_code 17 = .ok (.lstore_n 1, 1) := by decide +kernel
theorem dX12_readSecret_18 : decode prog_13_method_37_code 18 = .ok (.aload_n 0, 1) := by decide +kernel
theorem dX12_readSecret_19 : decode prog_13_method_37_code 19 = .ok (.invokevirtual 340, 3) := by decide +kernel
theorem dX12_readSecret_22 : decode prog_13_method_37_code 22 = .ok (.istore_n 3, 1) := by decide +kernel
theorem dX12_readSecret_23 : decode prog_13_method_37_code 23 = .ok (.aload_n 0, 1) := by decide +kernel
theorem dX12_readSecret_24 : decode prog_13_method_37_code 24 = .ok (.getfield 113, 3) := by decide +kernel
theorem dX12_readSecret_27 : decode prog_13_method_37_code 27 = .ok (.iconst 5, 1) := by decide +kernel
theorem dX12_readSecret_28 : decode prog_13_method_37_code 28 = .ok (.if_icmp .ne 4, 3) := by decide +kernel
theorem dX12_readSecret_31 : decode prog_13_method_37_code 31 = .ok (.return_, 1) := by decide +kernel
theorem dX12_readSecret_32 : decode prog_13_method_37_code 32 = .ok (.aload_n 0, 1) := by decide +kernel
theorem dX12_readSecret_33 : decode prog_13_method_37_code 33 = .ok (.lload_n 1, 1) := by decide +kernel
theorem dX12_readSecret_34 : decode prog_13_method_37_code 34 = .ok (.iconst 1, 1) := by decide +kernel
theorem dX12_readSecret_35 : decode prog_13_method_37_code 35 = .ok (.aload_n 0, 1) := by decide +kernel
theorem dX12_readSecret_36 : decode prog_13_method_37_code 36 = .ok (.getfield 172, 3) := by decide +kernel
theorem dX12_readSecret_39 : decode prog_13_method_37_code 39 = .ok (.getfield 375, 3) := by decide +kernel
theorem dX12_readSecret_42 : decode prog_13_method_37_code 42 = .ok (.invokevirtual 320, 3) := by decide +kernel
theorem dX12_readSecret_45 : decode prog_13_method_37_code 45 = .ok (.aload_n 0, 1) := by decide +kernel
theorem dX12_readSecret_46 : decode prog_13_method_37_code 46 = .ok (.getfield 172, 3) := by decide +kernel
theorem dX12_readSecret_49 : decode prog_13_method_37_code 49 = .ok (.getfield 378, 3) := by decide +kernel
theorem dX12_readSecret_52 : decode prog_13_method_37_code 52 = .ok (.aload_n 0, 1) := by decide +kernel
theorem dX12_readSecret_53 : decode prog_13_method_37_code 53 = .ok (.getfield 172, 3) := by decide +kernel
theorem dX12_readSecret_56 : decode prog_13_method_37_code 56 = .ok (.getfield 375, 3) := by decide +kernel
theorem dX12_readSecret_59 : decode prog_13_method_37_code 59 = .ok (.iload_n 3, 1) := by decide +kernel
theorem dX12_readSecret_60 : decode prog_13_method_37_code 60 = .ok (.iastore, 1) := by decide +kernel
theorem dX12_readSecret_61 : decode prog_13_method_37_code 61 = .ok (.aload_n 0, 1) := by decide +kernel
theorem dX12_readSecret_62 : decode prog_13_method_37_code 62 = .ok (.getfield 172, 3) := by decide +kernel
theorem dX12_readSecret_65 : decode prog_13_method_37_code 65 = .ok (.dup, 1) := by decide +kernel
theorem dX12_readSecret_66 : decode prog_13_method_37_code 66 = .ok (.getfield 375, 3) := by decide +kernel
theorem dX12_readSecret_69 : decode prog_13_method_37_code 69 = .ok (.iconst 1, 1) := by decide +kernel
theorem dX12_readSecret_70 : decode prog_13_method_37_code 70 = .ok (.iadd, 1) := by decide +kernel
theorem dX12_readSecret_71 : decode prog_13_method_37_code 71 = .ok (.putfield 375, 3) := by decide +kernel
theorem dX12_readSecret_74 : decode prog_13_method_37_code 74 = .ok (.return_, 1) := by decide +kernel
theorem dX12_readHides_0 : decode prog_13_method_38_code 0 = .ok (.aload_n 0, 1) := by decide +kernel
theorem dX12_readHides_1 : decode prog_13_method_38_code 1 = .ok (.aload_n 0, 1) := by decide +kernel
theorem dX12_readHides_2 : decode prog_13_method_38_code 2 = .ok (.getfield 172, 3) := by decide +kernel
theorem dX12_readHides_5 : decode prog_13_method_38_code 5 = .ok (.getfield 381, 3) := by decide +kernel
theorem dX12_readHides_8 : decode prog_13_method_38_code 8 = .ok (.bipush 8, 2) := by decide +kernel
theorem dX12_readHides_10 : decode prog_13_method_38_code 10 = .ok (.invokevirtual 291, 3) := by decide +kernel
theorem dX12_readHides_13 : decode prog_13_method_38_code 13 = .ok (.aload_n 0, 1) := by decide +kernel
theorem dX12_readHides_14 : decode prog_13_method_38_code 14 = .ok (.invokevirtual 340, 3) := by decide +kernel
theorem dX12_readHides_17 : decode prog_13_method_38_code 17 = .ok (.istore_n 1, 1) := by decide +kernel
theorem dX12_readHides_18 : decode prog_13_method_38_code 18 = .ok (.aload_n 0, 1) := by decide +kernel
theorem dX12_readHides_19 : decode prog_13_method_38_code 19 = .ok (.iconst 1, 1) := by decide +kernel
theorem dX12_readHides_20 : decode prog_13_method_38_code 20 = .ok (.invokevirtual 220, 3) := by decide +kernel
theorem dX12_readHides_23 : decode prog_13_method_38_code 23 = .ok (.istore_n 2, 1) := by decide +kernel
theorem dX12_readHides_24 : decode prog_13_method_38_code 24 = .ok (.aload_n 0, 1) := by decide +kernel
theorem dX12_readHides_25 : decode prog_13_method_38_code 25 = .ok (.invokevirtual 149, 3) := by decide +kernel
theorem dX12_readHides_28 : decode prog_13_method_38_code 28 = .ok (.aload_n 0, 1) := by decide +kernel
theorem dX12_readHides_29 : decode prog_13_method_38_code 29 = .ok (.iconst 0, 1) := by decide +kernel
theorem dX12_readHides_30 : decode prog_13_method_38_code 30 = .ok (.invokevirtual 220, 3) := by decide +kernel
theorem dX12_readHides_33 : decode prog_13_method_38_code 33 = .ok (.istore_n 3, 1) := by decide +kernel
theorem dX12_readHides_34 : decode prog_13_method_38_code 34 = .ok (.aload_n 0, 1) := by decide +kernel
theorem dX12_readHides_35 : decode prog_13_method_38_code 35 = .ok (.getfield 113, 3) := by decide +kernel
theorem dX12_readHides_38 : decode prog_13_method_38_code 38 = .ok (.iconst 5, 1) := by decide +kernel
theorem dX12_readHides_39 : decode prog_13_method_38_code 39 = .ok (.if_icmp .eq 34, 3) := by decide +kernel
theorem dX12_readHides_42 : decode prog_13_method_38_code 42 = .ok (.iload_n 1, 1) := by decide +kernel
theorem dX12_readHides_43 : decode prog_13_method_38_code 43 = .ok (.iload_n 3, 1) := by decide +kernel
theorem dX12_readHides_44 : decode prog_13_method_38_code 44 = .ok (.if_icmp .eq 24, 3) := by decide +kernel
theorem dX12_readHides_47 : decode prog_13_method_38_code 47 = .ok (.aload_n 0, 1) := by decide +kernel
theorem dX12_readHides_48 : decode prog_13_method_38_code 48 = .ok (.getfield 172, 3) := by decide +kernel
theorem dX12_readHides_51 : decode prog_13_method_38_code 51 = .ok (.getfield 383, 3) := by decide +kernel
theorem dX12_readHides_54 : decode prog_13_method_38_code 54 = .ok (.bipush 8, 2) := by decide +kernel
theorem dX12_readHides_56 : decode prog_13_method_38_code 56 = .ok (.iload_n 1, 1) := by decide +kernel
theorem dX12_readHides_57 : decode prog_13_method_38_code 57 = .ok (.imul, 1) := by decide +kernel
theorem dX12_readHides_58 : decode prog_13_method_38_code 58 = .ok (.iload_n 2, 1) := by decide +kernel
theorem dX12_readHides_59 : decode prog_13_method_38_code 59 = .ok (.iadd, 1) := by decide +kernel
theorem dX12_readHides_60 : decode prog_13_method_38_code 60 = .ok (.iaload, 1) := by decide +kernel
theorem dX12_readHides_61 : decode prog_13_method_38_code 61 = .ok (.iload_n 3, 1) := by decide +kernel
theorem dX12_readHides_62 : decode prog_13_method_38_code 62 = .ok (.invokestatic 386, 3) := by decide +kernel
theorem dX12_readHides_65 : decode prog_13_method_38_code 65 = .ok (.ifCond .eq 8, 3) := by decide +kernel
theorem dX12_readHides_68 : decode prog_13_method_38_code 68 = .ok (.aload_n 0, 1) := by decide +kernel
theorem dX12_readHides_69 : decode prog_13_method_38_code 69 = .ok (.iconst 3, 1) := by decide +kernel
theorem dX12_readHides_70 : decode prog_13_method_38_code 70 = .ok (.invokevirtual 156, 3) := by decide +kernel
theorem dX12_readHides_73 : decode prog_13_method_38_code 73 = .ok (.aload_n 0, 1) := by decide +kernel
theorem dX12_readHides_74 : decode prog_13_method_38_code 74 = .ok (.invokevirtual 149, 3) := by decide +kernel
theorem dX12_readHides_77 : decode prog_13_method_38_code 77 = .ok (.aload_n 0, 1) := by decide +kernel
theorem dX12_readHides_78 : decode prog_13_method_38_code 78 = .ok (.getfield 113, 3) := by decide +kernel
theorem dX12_readHides_81 : decode prog_13_method_38_code 81 = .ok (.iconst 5, 1) := by decide +kernel
theorem dX12_readHides_82 : decode prog_13_method_38_code 82 = .ok (.if_icmp .ne 4, 3) := by decide +kernel
theorem dX12_readHides_85 : decode prog_13_method_38_code 85 = .ok (.return_, 1) := by decide +kernel
theorem dX12_readHides_86 : decode prog_13_method_38_code 86 = .ok (.aload_n 0, 1) := by decide +kernel
theorem dX12_readHides_87 : decode prog_13_method_38_code 87 = .ok (.getfield 172, 3) := by decide +kernel
theorem dX12_readHides_90 : decode prog_13_method_38_code 90 = .ok (.getfield 383, 3) := by decide +kernel
theorem dX12_readHides_93 : decode prog_13_method_38_code 93 = .ok (.bipush 8, 2) := by decide +kernel
theorem dX12_readHides_95 : decode prog_13_method_38_code 95 = .ok (.iload_n 1, 1) := by decide +kernel
theorem dX12_readHides_96 : decode prog_13_method_38_code 96 = .ok (.imul, 1) := by decide +kernel
theorem dX12_readHides_97 : decode prog_13_method_38_code 97 = .ok (.iload_n 2, 1) := by decide +kernel
theorem dX12_readHides_98 : decode prog_13_method_38_code 98 = .ok (.iadd, 1) := by decide +kernel
theorem dX12_readHides_99 : decode prog_13_method_38_code 99 = .ok (.dup2, 1) := by decide +kernel
theorem dX12_readHides_100 : decode prog_13_method_38_code 100 = .ok (.iaload, 1) := by decide +kernel
theorem dX12_readHides_101 : decode prog_13_method_38_code 101 = .ok (.iconst 1, 1) := by decide +kernel
theorem dX12_readHides_102 : decode prog_13_method_38_code 102 = .ok (.iload_n 3, 1) := by decide +kernel
theorem dX12_readHides_103 : decode prog_13_method_38_code 103 = .ok (.ishl, 1) := by decide +kernel
theorem dX12_readHides_104 : decode prog_13_method_38_code 104 = .ok (.ior, 1) := by decide +kernel
theorem dX12_readHides_105 : decode prog_13_method_38_code 105 = .ok (.iastore, 1) := by decide +kernel
theorem dX12_readHides_106 : decode prog_13_method_38_code 106 = .ok (.aload_n 0, 1) := by decide +kernel
theorem dX12_readHides_107 : decode prog_13_method_38_code 107 = .ok (.getfield 172, 3) := by decide +kernel
theorem dX12_readHides_110 : decode prog_13_method_38_code 110 = .ok (.dup, 1) := by decide +kernel
theorem dX12_readHides_111 : decode prog_13_method_38_code 111 = .ok (.getfield 381, 3) := by decide +kernel
theorem dX12_readHides_114 : decode prog_13_method_38_code 114 = .ok (.iconst 1, 1) := by decide +kernel
theorem dX12_readHides_115 : decode prog_13_method_38_code 115 = .ok (.iadd, 1) := by decide +kernel
theorem dX12_readHides_116 : decode prog_13_method_38_code 116 = .ok (.putfield 381, 3) := by decide +kernel
theorem dX12_readHides_119 : decode prog_13_method_38_code 119 = .ok (.return_, 1) := by decide +kernel
theorem dX12_readDiary_0 : decode prog_13_method_39_code 0 = .ok (.aload_n 0, 1) := by decide +kernel
theorem dX12_readDiary_1 : decode prog_13_method_39_code 1 = .ok (.aload_n 0, 1) := by decide +kernel
theorem dX12_readDiary_2 : decode prog_13_method_39_code 2 = .ok (.getfield 172, 3) := by decide +kernel
theorem dX12_readDiary_5 : decode prog_13_method_39_code 5 = .ok (.getfield 390, 3) := by decide +kernel
theorem dX12_readDiary_8 : decode prog_13_method_39_code 8 = .ok (.bipush 8, 2) := by decide +kernel
theorem dX12_readDiary_10 : decode prog_13_method_39_code 10 = .ok (.invokevirtual 291, 3) := by decide +kernel
theorem dX12_readDiary_13 : decode prog_13_method_39_code 13 = .ok (.aload_n 0, 1) := by decide +kernel
theorem dX12_readDiary_14 : decode prog_13_method_39_code 14 = .ok (.iconst 0, 1) := by decide +kernel
theorem dX12_readDiary_15 : decode prog_13_method_39_code 15 = .ok (.invokevirtual 312, 3) := by decide +kernel
theorem dX12_readDiary_18 : decode prog_13_method_39_code 18 = .ok (.istore_n 2, 1) := by decide +kernel
theorem dX12_readDiary_19 : decode prog_13_method_39_code 19 = .ok (.aload_n 0, 1) := by decide +kernel
theorem dX12_readDiary_20 : decode prog_13_method_39_code 20 = .ok (.invokevirtual 340, 3) := by decide +kernel
theorem dX12_readDiary_23 : decode prog_13_method_39_code 23 = .ok (.istore_n 3, 1) := by decide +kernel
theorem dX12_readDiary_24 : decode prog_13_method_39_code 24 = .ok (.aload_n 0, 1) := by decide +kernel
theorem dX12_readDiary_25 : decode prog_13_method_39_code 25 = .ok (.getfield 113, 3) := by decide +kernel
theorem dX12_readDiary_28 : decode prog_13_method_39_code 28 = .ok (.iconst 5, 1) := by decide +kernel
theorem dX12_readDiary_29 : decode prog_13_method_39_code 29 = .ok (.if_icmp .ne 4, 3) := by decide +kernel
theorem dX12_readDiary_32 : decode prog_13_method_39_code 32 = .ok (.return_, 1) := by decide +kernel
theorem dX12_readDiary_33 : decode prog_13_method_39_code 33 = .ok (.aload_n 0, 1) := by decide +kernel
theorem dX12_readDiary_34 : decode prog_13_method_39_code 34 = .ok (.getfield 172, 3) := by decide +kernel
theorem dX12_readDiary_37 : decode prog_13_method_39_code 37 = .ok (.getfield 393, 3) := by decide +kernel
theorem dX12_readDiary_40 : decode prog_13_method_39_code 40 = .ok (.aload_n 0, 1) := by decide +kernel
theorem dX12_readDiary_41 : decode prog_13_method_39_code 41 = .ok (.getfield 172, 3) := by decide +kernel
theorem dX12_readDiary_44 : decode prog_13_method_39_code 44 = .ok (.getfield 390, 3) := by decide +kernel
theorem dX12_readDiary_47 : decode prog_13_method_39_code 47 = .ok (.iload_n 2, 1) := by decide +kernel
theorem dX12_readDiary_48 : decode prog_13_method_39_code 48 = .ok (.iastore, 1) := by decide +kernel
theorem dX12_readDiary_49 : decode prog_13_method_39_code 49 = .ok (.aload_n 0, 1) := by decide +kernel
theorem dX12_readDiary_50 : decode prog_13_method_39_code 50 = .ok (.getfield 172, 3) := by decide +kernel
theorem dX12_readDiary_53 : decode prog_13_method_39_code 53 = .ok (.getfield 396, 3) := by decide +kernel
theorem dX12_readDiary_56 : decode prog_13_method_39_code 56 = .ok (.aload_n 0, 1) := by decide +kernel
theorem dX12_readDiary_57 : decode prog_13_method_39_code 57 = .ok (.getfield 172, 3) := by decide +kernel
theorem dX12_readDiary_60 : decode prog_13_method_39_code 60 = .ok (.getfield 390, 3) := by decide +kernel
theorem dX12_readDiary_63 : decode prog_13_method_39_code 63 = .ok (.iload_n 3, 1) := by decide +kernel
theorem dX12_readDiary_64 : decode prog_13_method_39_code 64 = .ok (.iastore, 1) := by decide +kernel
theorem dX12_readDiary_65 : decode prog_13_method_39_code 65 = .ok (.aload_n 0, 1) := by decide +kernel
theorem dX12_readDiary_66 : decode prog_13_method_39_code 66 = .ok (.getfield 172, 3) := by decide +kernel
theorem dX12_readDiary_69 : decode prog_13_method_39_code 69 = .ok (.getfield 399, 3) := by decide +kernel
theorem dX12_readDiary_72 : decode prog_13_method_39_code 72 = .ok (.aload_n 0, 1) := by decide +kernel
theorem dX12_readDiary_73 : decode prog_13_method_39_code 73 = .ok (.getfield 172, 3) := by decide +kernel
theorem dX12_readDiary_76 : decode prog_13_method_39_code 76 = .ok (.getfield 390, 3) := by decide +kernel
theorem dX12_readDiary_79 : decode prog_13_method_39_code 79 = .ok (.iload_n 1, 1) := by decide +kernel
theorem dX12_readDiary_80 : decode prog_13_method_39_code 80 = .ok (.bastore, 1) := by decide +kernel
theorem dX12_readDiary_81 : decode prog_13_method_39_code 81 = .ok (.aload_n 0, 1) := by decide +kernel
theorem dX12_readDiary_82 : decode prog_13_method_39_code 82 = .ok (.getfield 172, 3) := by decide +kernel
theorem dX12_readDiary_85 : decode prog_13_method_39_code 85 = .ok (.dup, 1) := by decide +kernel
theorem dX12_readDiary_86 : decode prog_13_method_39_code 86 = .ok (.getfield 390, 3) := by decide +kernel
theorem dX12_readDiary_89 : decode prog_13_method_39_code 89 = .ok (.iconst 1, 1) := by decide +kernel
theorem dX12_readDiary_90 : decode prog_13_method_39_code 90 = .ok (.iadd, 1) := by decide +kernel
theorem dX12_readDiary_91 : decode prog_13_method_39_code 91 = .ok (.putfield 390, 3) := by decide +kernel
theorem dX12_readDiary_94 : decode prog_13_method_39_code 94 = .ok (.return_, 1) := by decide +kernel
theorem dX12_feed_0 : decode prog_13_method_40_code 0 = .ok (.aload_n 0, 1) := by decide +kernel
theorem dX12_feed_1 : decode prog_13_method_40_code 1 = .ok (.iconst 0, 1) := by decide +kernel
theorem dX12_feed_2 : decode prog_13_method_40_code 2 = .ok (.putfield 85, 3) := by decide +kernel
theorem dX12_feed_5 : decode prog_13_method_40_code 5 = .ok (.aload_n 0, 1) := by decide +kernel
theorem dX12_feed_6 : decode prog_13_method_40_code 6 = .ok (.getfield 402, 3) := by decide +kernel
theorem dX12_feed_9 : decode prog_13_method_40_code 9 = .ok (.bipush 20, 2) := by decide +kernel
theorem dX12_feed_11 : decode prog_13_method_40_code 11 = .ok (.iadd, 1) := by decide +kernel
theorem dX12_feed_12 : decode prog_13_method_40_code 12 = .ok (.sipush 1100, 3) := by decide +kernel
theorem dX12_feed_15 : decode prog_13_method_40_code 15 = .ok (.if_icmp .le 5, 3) := by decide +kernel
theorem dX12_feed_18 : decode prog_13_method_40_code 18 = .ok (.iconst (-1), 1) := by decide +kernel
theorem dX12_feed_19 : decode prog_13_method_40_code 19 = .ok (.ireturn, 1) := by decide +kernel
theorem dX12_feed_20 : decode prog_13_method_40_code 20 = .ok (.iconst 0, 1) := by decide +kernel
theorem dX12_feed_21 : decode prog_13_method_40_code 21 = .ok (.istore 6, 2) := by decide +kernel
theorem dX12_feed_23 : decode prog_13_method_40_code 23 = .ok (.iload 6, 2) := by decide +kernel
theorem dX12_feed_25 : decode prog_13_method_40_code 25 = .ok (.bipush 20, 2) := by decide +kernel
theorem dX12_feed_27 : decode prog_13_method_40_code 27 = .ok (.if_icmp .ge 90, 3) := by decide +kernel
theorem dX12_feed_30 : decode prog_13_method_40_code 30 = .ok (.iload 6, 2) := by decide +kernel
theorem dX12_feed_32 : decode prog_13_method_40_code 32 = .ok (.iconst 4, 1) := by decide +kernel
theorem dX12_feed_33 : decode prog_13_method_40_code 33 = .ok (.if_icmp .ge 7, 3) := by decide +kernel
theorem dX12_feed_36 : decode prog_13_method_40_code 36 = .ok (.iload_n 1, 1) := by decide +kernel
theorem dX12_feed_37 : decode prog_13_method_40_code 37 = .ok (.goto 39, 3) := by decide +kernel
theorem dX12_feed_40 : decode prog_13_method_40_code 40 = .ok (.iload 6, 2) := by decide +kernel
theorem dX12_feed_42 : decode prog_13_method_40_code 42 = .ok (.bipush 8, 2) := by decide +kernel
theorem dX12_feed_44 : decode prog_13_method_40_code 44 = .ok (.if_icmp .ge 7, 3) := by decide +kernel
theorem dX12_feed_47 : decode prog_13_method_40_code 47 = .ok (.iload_n 2, 1) := by decide +kernel
theorem dX12_feed_48 : decode prog_13_method_40_code 48 = .ok (.goto 28, 3) := by decide +kernel
theorem dX12_feed_51 : decode prog_13_method_40_code 51 = .ok (.iload 6, 2) := by decide +kernel
theorem dX12_feed_53 : decode prog_13_method_40_code 53 = .ok (.bipush 12, 2) := by decide +kernel
theorem dX12_feed_55 : decode prog_13_method_40_code 55 = .ok (.if_icmp .ge 7, 3) := by decide +kernel
theorem dX12_feed_58 : decode prog_13_method_40_code 58 = .ok (.iload_n 3, 1) := by decide +kernel
theorem dX12_feed_59 : decode prog_13_method_40_code 59 = .ok (.goto 17, 3) := by decide +kernel
theorem dX12_feed_62 : decode prog_13_method_40_code 62 = .ok (.iload 6, 2) := by decide +kernel
theorem dX12_feed_64 : decode prog_13_method_40_code 64 = .ok (.bipush 16, 2) := by decide +kernel
theorem dX12_feed_66 : decode prog_13_method_40_code 66 = .ok (.if_icmp .ge 8, 3) := by decide +kernel
theorem dX12_feed_69 : decode prog_13_method_40_code 69 = .ok (.iload 4, 2) := by decide +kernel
theorem dX12_feed_71 : decode prog_13_method_40_code 71 = .ok (.goto 5, 3) := by decide +kernel
theorem dX12_feed_74 : decode prog_13_method_40_code 74 = .ok (.iload 5, 2) := by decide +kernel
theorem dX12_feed_76 : decode prog_13_method_40_code 76 = .ok (.istore 7, 2) := by decide +kernel
theorem dX12_feed_78 : decode prog_13_method_40_code 78 = .ok (.aload_n 0, 1) := by decide +kernel
theorem dX12_feed_79 : decode prog_13_method_40_code 79 = .ok (.getfield 13, 3) := by decide +kernel
theorem dX12_feed_82 : decode prog_13_method_40_code 82 = .ok (.aload_n 0, 1) := by decide +kernel
theorem dX12_feed_83 : decode prog_13_method_40_code 83 = .ok (.getfield 402, 3) := by decide +kernel
theorem dX12_feed_86 : decode prog_13_method_40_code 86 = .ok (.iload 7, 2) := by decide +kernel
theorem dX12_feed_88 : decode prog_13_method_40_code 88 = .ok (.bipush 24, 2) := by decide +kernel
theorem dX12_feed_90 : decode prog_13_method_40_code 90 = .ok (.bipush 8, 2) := by decide +kernel
theorem dX12_feed_92 : decode prog_13_method_40_code 92 = .ok (.iload 6, 2) := by decide +kernel
theorem dX12_feed_94 : decode prog_13_method_40_code 94 = .ok (.iconst 4, 1) := by decide +kernel
theorem dX12_feed_95 : decode prog_13_method_40_code 95 = .ok (.irem, 1) := by decide +kernel
theorem dX12_feed_96 : decode prog_13_method_40_code 96 = .ok (.imul, 1) := by decide +kernel
theorem dX12_feed_97 : decode prog_13_method_40_code 97 = .ok (.isub, 1) := by decide +kernel
theorem dX12_feed_98 : decode prog_13_method_40_code 98 = .ok (.ishr, 1) := by decide +kernel
theorem dX12_feed_99 : decode prog_13_method_40_code 99 = .ok (.i2b, 1) := by decide +kernel
theorem dX12_feed_100 : decode prog_13_method_40_code 100 = .ok (.bastore, 1) := by decide +kernel
theorem dX12_feed_101 : decode prog_13_method_40_code 101 = .ok (.aload_n 0, 1) := by decide +kernel
theorem dX12_feed_102 : decode prog_13_method_40_code 102 = .ok (.dup, 1) := by decide +kernel
theorem dX12_feed_103 : decode prog_13_method_40_code 103 = .ok (.getfield 402, 3) := by decide +kernel
theorem dX12_feed_106 : decode prog_13_method_40_code 106 = .ok (.iconst 1, 1) := by decide +kernel
theorem dX12_feed_107 : decode prog_13_method_40_code 107 = .ok (.iadd, 1) := by decide +kernel
theorem dX12_feed_108 : decode prog_13_method_40_code 108 = .ok (.putfield 402, 3) := by decide +kernel
theorem dX12_feed_111 : decode prog_13_method_40_code 111 = .ok (.iinc 6 1, 3) := by decide +kernel
theorem dX12_feed_114 : decode prog_13_method_40_code 114 = .ok (.goto (-91), 3) := by decide +kernel
theorem dX12_feed_117 : decode prog_13_method_40_code 117 = .ok (.aload_n 0, 1) := by decide +kernel
theorem dX12_feed_118 : decode prog_13_method_40_code 118 = .ok (.getfield 402, 3) := by decide +kernel
theorem dX12_feed_121 : decode prog_13_method_40_code 121 = .ok (.ireturn, 1) := by decide +kernel
theorem dX12_family_0 : decode prog_13_method_41_code 0 = .ok (.aload_n 0, 1) := by decide +kernel
theorem dX12_family_1 : decode prog_13_method_41_code 1 = .ok (.iconst 0, 1) := by decide +kernel
theorem dX12_family_2 : decode prog_13_method_41_code 2 = .ok (.putfield 85, 3) := by decide +kernel
theorem dX12_family_5 : decode prog_13_method_41_code 5 = .ok (.iload_n 1, 1) := by decide +kernel
theorem dX12_family_6 : decode prog_13_method_41_code 6 = .ok (.ifCond .lt 11, 3) := by decide +kernel
theorem dX12_family_9 : decode prog_13_method_41_code 9 = .ok (.iload_n 1, 1) := by decide +kernel
theorem dX12_family_10 : decode prog_13_method_41_code 10 = .ok (.aload_n 0, 1) := by decide +kernel
theorem dX12_family_11 : decode prog_13_method_41_code 11 = .ok (.getfield 402, 3) := by decide +kernel
theorem dX12_family_14 : decode prog_13_method_41_code 14 = .ok (.if_icmp .le 9, 3) := by decide +kernel
theorem dX12_family_17 : decode prog_13_method_41_code 17 = .ok (.aload_n 0, 1) := by decide +kernel
theorem dX12_family_18 : decode prog_13_method_41_code 18 = .ok (.iconst 2, 1) := by decide +kernel
theorem dX12_family_19 : decode prog_13_method_41_code 19 = .ok (.invokevirtual 91, 3) := by decide +kernel
theorem dX12_family_22 : decode prog_13_method_41_code 22 = .ok (.ireturn, 1) := by decide +kernel
theorem dX12_family_23 : decode prog_13_method_41_code 23 = .ok (.aload_n 0, 1) := by decide +kernel
theorem dX12_family_24 : decode prog_13_method_41_code 24 = .ok (.iload_n 1, 1) := by decide +kernel
theorem dX12_family_25 : decode prog_13_method_41_code 25 = .ok (.putfield 98, 3) := by decide +kernel
theorem dX12_family_28 : decode prog_13_method_41_code 28 = .ok (.aload_n 0, 1) := by decide +kernel
theorem dX12_family_29 : decode prog_13_method_41_code 29 = .ok (.iconst 0, 1) := by decide +kernel
theorem dX12_family_30 : decode prog_13_method_41_code 30 = .ok (.putfield 402, 3) := by decide +kernel
theorem dX12_family_33 : decode prog_13_method_41_code 33 = .ok (.aload_n 0, 1) := by decide +kernel
theorem dX12_family_34 : decode prog_13_method_41_code 34 = .ok (.iconst 0, 1) := by decide +kernel
theorem dX12_family_35 : decode prog_13_method_41_code 35 = .ok (.putfield 116, 3) := by decide +kernel
theorem dX12_family_38 : decode prog_13_method_41_code 38 = .ok (.aload_n 0, 1) := by decide +kernel
theorem dX12_family_39 : decode prog_13_method_41_code 39 = .ok (.iconst 0, 1) := by decide +kernel
theorem dX12_family_40 : decode prog_13_method_41_code 40 = .ok (.putfield 139, 3) := by decide +kernel
theorem dX12_family_43 : decode prog_13_method_41_code 43 = .ok (.aload_n 0, 1) := by decide +kernel
theorem dX12_family_44 : decode prog_13_method_41_code 44 = .ok (.new 177, 3) := by decide +kernel
theorem dX12_family_47 : decode prog_13_method_41_code 47 = .ok (.dup, 1) := by decide +kernel
theorem dX12_family_48 : decode prog_13_method_41_code 48 = .ok (.invokespecial 405, 3) := by decide +kernel
theorem dX12_family_51 : decode prog_13_method_41_code 51 = .ok (.putfield 172, 3) := by decide +kernel
theorem dX12_family_54 : decode prog_13_method_41_code 54 = .ok (.aload_n 0, 1) := by decide +kernel
theorem dX12_family_55 : decode prog_13_method_41_code 55 = .ok (.iconst 0, 1) := by decide +kernel
theorem dX12_family_56 : decode prog_13_method_41_code 56 = .ok (.putfield 113, 3) := by decide +kernel
theorem dX12_family_59 : decode prog_13_method_41_code 59 = .ok (.aload_n 0, 1) := by decide +kernel
theorem dX12_family_60 : decode prog_13_method_41_code 60 = .ok (.invokevirtual 149, 3) := by decide +kernel
theorem dX12_family_63 : decode prog_13_method_41_code 63 = .ok (.aload_n 0, 1) := by decide +kernel
theorem dX12_family_64 : decode prog_13_method_41_code 64 = .ok (.invokevirtual 406, 3) := by decide +kernel
theorem dX12_family_67 : decode prog_13_method_41_code 67 = .ok (.aload_n 0, 1) := by decide +kernel
theorem dX12_family_68 : decode prog_13_method_41_code 68 = .ok (.getfield 139, 3) := by decide +kernel
theorem dX12_family_71 : decode prog_13_method_41_code 71 = .ok (.ifCond .le 18, 3) := by decide +kernel
theorem dX12_family_74 : decode prog_13_method_41_code 74 = .ok (.aload_n 0, 1) := by decide +kernel
theorem dX12_family_75 : decode prog_13_method_41_code 75 = .ok (.iconst 4, 1) := by decide +kernel
theorem dX12_family_76 : decode prog_13_method_41_code 76 = .ok (.putfield 88, 3) := by decide +kernel
theorem dX12_family_79 : decode prog_13_method_41_code 79 = .ok (.aload_n 0, 1) := by decide +kernel
theorem dX12_family_80 : decode prog_13_method_41_code 80 = .ok (.aload_n 0, 1) := by decide +kernel
theorem dX12_family_81 : decode prog_13_method_41_code 81 = .ok (.getfield 142, 3) := by decide +kernel
theorem dX12_family_84 : decode prog_13_method_41_code 84 = .ok (.putfield 9, 3) := by decide +kernel
theorem dX12_family_87 : decode prog_13_method_41_code 87 = .ok (.iconst (-1), 1) := by decide +kernel
theorem dX12_family_88 : decode prog_13_method_41_code 88 = .ok (.ireturn, 1) := by decide +kernel
theorem dX12_family_89 : decode prog_13_method_41_code 89 = .ok (.aload_n 0, 1) := by decide +kernel
theorem dX12_family_90 : decode prog_13_method_41_code 90 = .ok (.aload_n 0, 1) := by decide +kernel
theorem dX12_family_91 : decode prog_13_method_41_code 91 = .ok (.getfield 172, 3) := by decide +kernel
theorem dX12_family_94 : decode prog_13_method_41_code 94 = .ok (.putfield 409, 3) := by decide +kernel
theorem dX12_family_97 : decode prog_13_method_41_code 97 = .ok (.iconst 0, 1) := by decide +kernel
theorem dX12_family_98 : decode prog_13_method_41_code 98 = .ok (.istore_n 2, 1) := by decide +kernel
theorem dX12_family_99 : decode prog_13_method_41_code 99 = .ok (.iload_n 2, 1) := by decide +kernel
theorem dX12_family_100 : decode prog_13_method_41_code 100 = .ok (.bipush 45, 2) := by decide +kernel
theorem dX12_family_102 : decode prog_13_method_41_code 102 = .ok (.if_icmp .ge 16, 3) := by decide +kernel
theorem dX12_family_105 : decode prog_13_method_41_code 105 = .ok (.aload_n 0, 1) := by decide +kernel
theorem dX12_family_106 : decode prog_13_method_41_code 106 = .ok (.getfield 17, 3) := by decide +kernel
theorem dX12_family_109 : decode prog_13_method_41_code 109 = .ok (.iload_n 2, 1) := by decide +kernel
theorem dX12_family_110 : decode prog_13_method_41_code 110 = .ok (.iconst 0, 1) := by decide +kernel
theorem dX12_family_111 : decode prog_13_method_41_code 111 = .ok (.iastore, 1) := by decide +kernel
theorem dX12_family_112 : decode prog_13_method_41_code 112 = .ok (.iinc 2 1, 3) := by decide +kernel
theorem dX12_family_115 : decode prog_13_method_41_code 115 = .ok (.goto (-16), 3) := by decide +kernel
theorem dX12_family_118 : decode prog_13_method_41_code 118 = .ok (.aload_n 0, 1) := by decide +kernel
theorem dX12_family_119 : decode prog_13_method_41_code 119 = .ok (.getfield 17, 3) := by decide +kernel
theorem dX12_family_122 : decode prog_13_method_41_code 122 = .ok (.iconst 0, 1) := by decide +kernel
theorem dX12_family_123 : decode prog_13_method_41_code 123 = .ok (.aload_n 0, 1) := by decide +kernel
theorem dX12_family_124 : decode prog_13_method_41_code 124 = .ok (.getfield 409, 3) := by decide +kernel
theorem dX12_family_127 : decode prog_13_method_41_code 127 = .ok (.getfield 277, 3) := by decide +kernel
theorem dX12_family_130 : decode prog_13_method_41_code 130 = .ok (.iastore, 1) := by decide +kernel
theorem dX12_family_131 : decode prog_13_method_41_code 131 = .ok (.iconst 0, 1) := by decide +kernel
theorem dX12_family_132 : decode prog_13_method_41_code 132 = .ok (.istore_n 2, 1) := by decide +kernel
theorem dX12_family_133 : decode prog_13_method_41_code 133 = .ok (.iload_n 2, 1) := by decide +kernel
theorem dX12_family_134 : decode prog_13_method_41_code 134 = .ok (.bipush 10, 2) := by decide +kernel
theorem dX12_family_136 : decode prog_13_method_41_code 136 = .ok (.if_icmp .ge 26, 3) := by decide +kernel
theorem dX12_family_139 : decode prog_13_method_41_code 139 = .ok (.aload_n 0, 1) := by decide +kernel
theorem dX12_family_140 : decode prog_13_method_41_code 140 = .ok (.getfield 17, 3) := by decide +kernel
theorem dX12_family_143 : decode prog_13_method_41_code 143 = .ok (.iconst 2, 1) := by decide +kernel
theorem dX12_family_144 : decode prog_13_method_41_code 144 = .ok (.iload_n 2, 1) := by decide +kernel
theorem dX12_family_145 : decode prog_13_method_41_code 145 = .ok (.iadd, 1) := by decide +kernel
theorem dX12_family_146 : decode prog_13_method_41_code 146 = .ok (.aload_n 0, 1) := by decide +kernel
theorem dX12_family_147 : decode prog_13_method_41_code 147 = .ok (.getfield 409, 3) := by decide +kernel
theorem dX12_family_150 : decode prog_13_method_41_code 150 = .ok (.getfield 335, 3) := by decide +kernel
theorem dX12_family_153 : decode prog_13_method_41_code 153 = .ok (.iload_n 2, 1) := by decide +kernel
theorem dX12_family_154 : decode prog_13_method_41_code 154 = .ok (.iaload, 1) := by decide +kernel
theorem dX12_family_155 : decode prog_13_method_41_code 155 = .ok (.iastore, 1) := by decide +kernel
theorem dX12_family_156 : decode prog_13_method_41_code 156 = .ok (.iinc 2 1, 3) := by decide +kernel
theorem dX12_family_159 : decode prog_13_method_41_code 159 = .ok (.goto (-26), 3) := by decide +kernel
theorem dX12_family_162 : decode prog_13_method_41_code 162 = .ok (.aload_n 0, 1) := by decide +kernel
theorem dX12_family_163 : decode prog_13_method_41_code 163 = .ok (.iconst 0, 1) := by decide +kernel
theorem dX12_family_164 : decode prog_13_method_41_code 164 = .ok (.putfield 411, 3) := by decide +kernel
theorem dX12_family_167 : decode prog_13_method_41_code 167 = .ok (.aload_n 0, 1) := by decide +kernel
theorem dX12_family_168 : decode prog_13_method_41_code 168 = .ok (.iconst 0, 1) := by decide +kernel
theorem dX12_family_169 : decode prog_13_method_41_code 169 = .ok (.putfield 414, 3) := by decide +kernel
theorem dX12_family_172 : decode prog_13_method_41_code 172 = .ok (.aload_n 0, 1) := by decide +kernel
theorem dX12_family_173 : decode prog_13_method_41_code 173 = .ok (.aload_n 0, 1) := by decide +kernel
theorem dX12_family_174 : decode prog_13_method_41_code 174 = .ok (.getfield 409, 3) := by decide +kernel
theorem dX12_family_177 : decode prog_13_method_41_code 177 = .ok (.getfield 230, 3) := by decide +kernel
theorem dX12_family_180 : decode prog_13_method_41_code 180 = .ok (.invokevirtual 95, 3) := by decide +kernel
theorem dX12_family_183 : decode prog_13_method_41_code 183 = .ok (.ireturn, 1) := by decide +kernel
theorem dX12_fault_0 : decode prog_13_method_42_code 0 = .ok (.aload_n 0, 1) := by decide +kernel
theorem dX12_fault_1 : decode prog_13_method_42_code 1 = .ok (.iconst 0, 1) := by decide +kernel
theorem dX12_fault_2 : decode prog_13_method_42_code 2 = .ok (.putfield 85, 3) := by decide +kernel
theorem dX12_fault_5 : decode prog_13_method_42_code 5 = .ok (.aload_n 0, 1) := by decide +kernel
theorem dX12_fault_6 : decode prog_13_method_42_code 6 = .ok (.getfield 139, 3) := by decide +kernel
theorem dX12_fault_9 : decode prog_13_method_42_code 9 = .ok (.ireturn, 1) := by decide +kernel
theorem dX12_where_0 : decode prog_13_method_43_code 0 = .ok (.aload_n 0, 1) := by decide +kernel
theorem dX12_where_1 : decode prog_13_method_43_code 1 = .ok (.iconst 0, 1) := by decide +kernel
theorem dX12_where_2 : decode prog_13_method_43_code 2 = .ok (.putfield 85, 3) := by decide +kernel
theorem dX12_where_5 : decode prog_13_method_43_code 5 = .ok (.aload_n 0, 1) := by decide +kernel
theorem dX12_where_6 : decode prog_13_method_43_code 6 = .ok (.getfield 9, 3) := by decide +kernel
theorem dX12_where_9 : decode prog_13_method_43_code 9 = .ok (.ireturn, 1) := by decide +kernel
theorem dX12_runs_0 : decode prog_13_method_44_code 0 = .ok (.aload_n 0, 1) := by decide +kernel
theorem dX12_runs_1 : decode prog_13_method_44_code 1 = .ok (.aload_n 0, 1) := by decide +kernel
theorem dX12_runs_2 : decode prog_13_method_44_code 2 = .ok (.getfield 17, 3) := by decide +kernel
theorem dX12_runs_5 : decode prog_13_method_44_code 5 = .ok (.iconst 0, 1) := by decide +kernel
theorem dX12_runs_6 : decode prog_13_method_44_code 6 = .ok (.iaload, 1) := by decide +kernel
theorem dX12_runs_7 : decode prog_13_method_44_code 7 = .ok (.aload_n 0, 1) := by decide +kernel
theorem dX12_runs_8 : decode prog_13_method_44_code 8 = .ok (.getfield 17, 3) := by decide +kernel
theorem dX12_runs_11 : decode prog_13_method_44_code 11 = .ok (.iconst 1, 1) := by decide +kernel
theorem dX12_runs_12 : decode prog_13_method_44_code 12 = .ok (.iaload, 1) := by decide +kernel
theorem dX12_runs_13 : decode prog_13_method_44_code 13 = .ok (.invokevirtual 417, 3) := by decide +kernel
theorem dX12_runs_16 : decode prog_13_method_44_code 16 = .ok (.return_, 1) := by decide +kernel
theorem dX12_runsBy_0 : decode prog_13_method_45_code 0 = .ok (.aload_n 0, 1) := by decide +kernel
theorem dX12_runsBy_1 : decode prog_13_method_45_code 1 = .ok (.iconst 0, 1) := by decide +kernel
theorem dX12_runsBy_2 : decode prog_13_method_45_code 2 = .ok (.putfield 420, 3) := by decide +kernel
theorem dX12_runsBy_5 : decode prog_13_method_45_code 5 = .ok (.aload_n 0, 1) := by decide +kernel
theorem dX12_runsBy_6 : decode prog_13_method_45_code 6 = .ok (.bipush (-2), 2) := by decide +kernel
theorem dX12_runsBy_8 : decode prog_13_method_45_code 8 = .ok (.putfield 423, 3) := by decide +kernel
theorem dX12_runsBy_11 : decode prog_13_method_45_code 11 = .ok (.aload_n 0, 1) := by decide +kernel
theorem dX12_runsBy_12 : decode prog_13_method_45_code 12 = .ok (.iload_n 1, 1) := by decide +kernel
theorem dX12_runsBy_13 : decode prog_13_method_45_code 13 = .ok (.iload_n 2, 1) := by decide +kernel
theorem dX12_runsBy_14 : decode prog_13_method_45_code 14 = .ok (.aload_n 0, 1) := by decide +kernel
theorem dX12_runsBy_15 : decode prog_13_method_45_code 15 = .ok (.getfield 409, 3) := by decide +kernel
theorem dX12_runsBy_18 : decode prog_13_method_45_code 18 = .ok (.getfield 176, 3) := by decide +kernel
theorem dX12_runsBy_21 : decode prog_13_method_45_code 21 = .ok (.invokevirtual 426, 3) := by decide +kernel
theorem dX12_runsBy_24 : decode prog_13_method_45_code 24 = .ok (.return_, 1) := by decide +kernel
theorem dX12_goes_0 : decode prog_13_method_46_code 0 = .ok (.aload_n 0, 1) := by decide +kernel
theorem dX12_goes_1 : decode prog_13_method_46_code 1 = .ok (.iload_n 1, 1) := by decide +kernel
theorem dX12_goes_2 : decode prog_13_method_46_code 2 = .ok (.putfield 430, 3) := by decide +kernel
theorem dX12_goes_5 : decode prog_13_method_46_code 5 = .ok (.aload_n 0, 1) := by decide +kernel
theorem dX12_goes_6 : decode prog_13_method_46_code 6 = .ok (.iload_n 2, 1) := by decide +kernel
theorem dX12_goes_7 : decode prog_13_method_46_code 7 = .ok (.putfield 431, 3) := by decide +kernel
theorem dX12_goes_10 : decode prog_13_method_46_code 10 = .ok (.aload_n 0, 1) := by decide +kernel
theorem dX12_goes_11 : decode prog_13_method_46_code 11 = .ok (.iconst 0, 1) := by decide +kernel
theorem dX12_goes_12 : decode prog_13_method_46_code 12 = .ok (.putfield 434, 3) := by decide +kernel
theorem dX12_goes_15 : decode prog_13_method_46_code 15 = .ok (.aload_n 0, 1) := by decide +kernel
theorem dX12_goes_16 : decode prog_13_method_46_code 16 = .ok (.iconst 0, 1) := by decide +kernel
theorem dX12_goes_17 : decode prog_13_method_46_code 17 = .ok (.putfield 437, 3) := by decide +kernel
theorem dX12_goes_20 : decode prog_13_method_46_code 20 = .ok (.aload_n 0, 1) := by decide +kernel
theorem dX12_goes_21 : decode prog_13_method_46_code 21 = .ok (.iconst 0, 1) := by decide +kernel
theorem dX12_goes_22 : decode prog_13_method_46_code 22 = .ok (.putfield 440, 3) := by decide +kernel
theorem dX12_goes_25 : decode prog_13_method_46_code 25 = .ok (.aload_n 0, 1) := by decide +kernel
theorem dX12_goes_26 : decode prog_13_method_46_code 26 = .ok (.bipush (-2), 2) := by decide +kernel
theorem dX12_goes_28 : decode prog_13_method_46_code 28 = .ok (.putfield 443, 3) := by decide +kernel
theorem dX12_goes_31 : decode prog_13_method_46_code 31 = .ok (.iconst 0, 1) := by decide +kernel
theorem dX12_goes_32 : decode prog_13_method_46_code 32 = .ok (.istore 4, 2) := by decide +kernel
theorem dX12_goes_34 : decode prog_13_method_46_code 34 = .ok (.iload 4, 2) := by decide +kernel
theorem dX12_goes_36 : decode prog_13_method_46_code 36 = .ok (.bipush 10, 2) := by decide +kernel
theorem dX12_goes_38 : decode prog_13_method_46_code 38 = .ok (.if_icmp .ge 83, 3) := by decide +kernel
theorem dX12_goes_41 : decode prog_13_method_46_code 41 = .ok (.aload_n 0, 1) := by decide +kernel
theorem dX12_goes_42 : decode prog_13_method_46_code 42 = .ok (.getfield 58, 3) := by decide +kernel
theorem dX12_goes_45 : decode prog_13_method_46_code 45 = .ok (.iload 4, 2) := by decide +kernel
theorem dX12_goes_47 : decode prog_13_method_46_code 47 = .ok (.iconst 0, 1) := by decide +kernel
theorem dX12_goes_48 : decode prog_13_method_46_code 48 = .ok (.iastore, 1) := by decide +kernel
theorem dX12_goes_49 : decode prog_13_method_46_code 49 = .ok (.aload_n 0, 1) := by decide +kernel
theorem dX12_goes_50 : decode prog_13_method_46_code 50 = .ok (.getfield 61, 3) := by decide +kernel
theorem dX12_goes_53 : decode prog_13_method_46_code 53 = .ok (.iload 4, 2) := by decide +kernel
theorem dX12_goes_55 : decode prog_13_method_46_code 55 = .ok (.iload 4, 2) := by decide +kernel
theorem dX12_goes_57 : decode prog_13_method_46_code 57 = .ok (.aload_n 0, 1) := by decide +kernel
theorem dX12_goes_58 : decode prog_13_method_46_code 58 = .ok (.getfield 409, 3) := by decide +kernel
theorem dX12_goes_61 : decode prog_13_method_46_code 61 = .ok (.getfield 230, 3) := by decide +kernel
theorem dX12_goes_64 : decode prog_13_method_46_code 64 = .ok (.if_icmp .ge 16, 3) := by decide +kernel
theorem dX12_goes_67 : decode prog_13_method_46_code 67 = .ok (.aload_n 0, 1) := by decide +kernel
theorem dX12_goes_68 : decode prog_13_method_46_code 68 = .ok (.getfield 409, 3) := by decide +kernel
theorem dX12_goes_71 : decode prog_13_method_46_code 71 = .ok (.getfield 330, 3) := by decide +kernel
theorem dX12_goes_74 : decode prog_13_method_46_code 74 = .ok (.iload 4, 2) := by decide +kernel
theorem dX12_goes_76 : decode prog_13_method_46_code 76 = .ok (.iaload, 1) := by decide +kernel
theorem dX12_goes_77 : decode prog_13_method_46_code 77 = .ok (.goto 4, 3) := by decide +kernel
theorem dX12_goes_80 : decode prog_13_method_46_code 80 = .ok (.iconst 0, 1) := by decide +kernel
theorem dX12_goes_81 : decode prog_13_method_46_code 81 = .ok (.iastore, 1) := by decide +kernel
theorem dX12_goes_82 : decode prog_13_method_46_code 82 = .ok (.aload_n 0, 1) := by decide +kernel
theorem dX12_goes_83 : decode prog_13_method_46_code 83 = .ok (.getfield 64, 3) := by decide +kernel
theorem dX12_goes_86 : decode prog_13_method_46_code 86 = .ok (.iload 4, 2) := by decide +kernel
theorem dX12_goes_88 : decode prog_13_method_46_code 88 = .ok (.iconst 0, 1) := by decide +kernel
theorem dX12_goes_89 : decode prog_13_method_46_code 89 = .ok (.iastore, 1) := by decide +kernel
theorem dX12_goes_90 : decode prog_13_method_46_code 90 = .ok (.aload_n 0, 1) := by decide +kernel
theorem dX12_goes_91 : decode prog_13_method_46_code 91 = .ok (.getfield 67, 3) := by decide +kernel
theorem dX12_goes_94 : decode prog_13_method_46_code 94 = .ok (.iload 4, 2) := by decide +kernel
theorem dX12_goes_96 : decode prog_13_method_46_code 96 = .ok (.iconst 0, 1) := by decide +kernel
theorem dX12_goes_97 : decode prog_13_method_46_code 97 = .ok (.iastore, 1) := by decide +kernel
theorem dX12_goes_98 : decode prog_13_method_46_code 98 = .ok (.aload_n 0, 1) := by decide +kernel
theorem dX12_goes_99 : decode prog_13_method_46_code 99 = .ok (.getfield 70, 3) := by decide +kernel
theorem dX12_goes_102 : decode prog_13_method_46_code 102 = .ok (.iload 4, 2) := by decide +kernel
theorem dX12_goes_104 : decode prog_13_method_46_code 104 = .ok (.iconst 0, 1) := by decide +kernel
theorem dX12_goes_105 : decode prog_13_method_46_code 105 = .ok (.iastore, 1) := by decide +kernel
theorem dX12_goes_106 : decode prog_13_method_46_code 106 = .ok (.aload_n 0, 1) := by decide +kernel
theorem dX12_goes_107 : decode prog_13_method_46_code 107 = .ok (.getfield 73, 3) := by decide +kernel
theorem dX12_goes_110 : decode prog_13_method_46_code 110 = .ok (.iload 4, 2) := by decide +kernel
theorem dX12_goes_112 : decode prog_13_method_46_code 112 = .ok (.bipush 25, 2) := by decide +kernel
theorem dX12_goes_114 : decode prog_13_method_46_code 114 = .ok (.iastore, 1) := by decide +kernel
theorem dX12_goes_115 : decode prog_13_method_46_code 115 = .ok (.iinc 4 1, 3) := by decide +kernel
theorem dX12_goes_118 : decode prog_13_method_46_code 118 = .ok (.goto (-84), 3) := by decide +kernel
theorem dX12_goes_121 : decode prog_13_method_46_code 121 = .ok (.iconst 0, 1) := by decide +kernel
theorem dX12_goes_122 : decode prog_13_method_46_code 122 = .ok (.istore 4, 2) := by decide +kernel
theorem dX12_goes_124 : decode prog_13_method_46_code 124 = .ok (.iload 4, 2) := by decide +kernel
theorem dX12_goes_126 : decode prog_13_method_46_code 126 = .ok (.aload_n 0, 1) := by decide +kernel
theorem dX12_goes_127 : decode prog_13_method_46_code 127 = .ok (.getfield 409, 3) := by decide +kernel
theorem dX12_goes_130 : decode prog_13_method_46_code 130 = .ok (.getfield 375, 3) := by decide +kernel
theorem dX12_goes_133 : decode prog_13_method_46_code 133 = .ok (.if_icmp .ge 31, 3) := by decide +kernel
theorem dX12_goes_136 : decode prog_13_method_46_code 136 = .ok (.aload_n 0, 1) := by decide +kernel
theorem dX12_goes_137 : decode prog_13_method_46_code 137 = .ok (.getfield 64, 3) := by decide +kernel
theorem dX12_goes_140 : decode prog_13_method_46_code 140 = .ok (.aload_n 0, 1) := by decide +kernel
theorem dX12_goes_141 : decode prog_13_method_46_code 141 = .ok (.getfield 409, 3) := by decide +kernel
theorem dX12_goes_144 : decode prog_13_method_46_code 144 = .ok (.getfield 378, 3) := by decide +kernel
theorem dX12_goes_147 : decode prog_13_method_46_code 147 = .ok (.iload 4, 2) := by decide +kernel
theorem dX12_goes_149 : decode prog_13_method_46_code 149 = .ok (.iaload, 1) := by decide +kernel
theorem dX12_goes_150 : decode prog_13_method_46_code 150 = .ok (.dup2, 1) := by decide +kernel
theorem dX12_goes_151 : decode prog_13_method_46_code 151 = .ok (.iaload, 1) := by decide +kernel
theorem dX12_goes_152 : decode prog_13_method_46_code 152 = .ok (.iconst 1, 1) := by decide +kernel
theorem dX12_goes_153 : decode prog_13_method_46_code 153 = .ok (.iload 4, 2) := by decide +kernel
theorem dX12_goes_155 : decode prog_13_method_46_code 155 = .ok (.ishl, 1) := by decide +kernel
theorem dX12_goes_156 : decode prog_13_method_46_code 156 = .ok (.ior, 1) := by decide +kernel
theorem dX12_goes_157 : decode prog_13_method_46_code 157 = .ok (.iastore, 1) := by decide +kernel
theorem dX12_goes_158 : decode prog_13_method_46_code 158 = .ok (.iinc 4 1, 3) := by decide +kernel
theorem dX12_goes_161 : decode prog_13_method_46_code 161 = .ok (.goto (-37), 3) := by decide +kernel
theorem dX12_goes_164 : decode prog_13_method_46_code 164 = .ok (.iconst 0, 1) := by decide +kernel
theorem dX12_goes_165 : decode prog_13_method_46_code 165 = .ok (.istore 4, 2) := by decide +kernel
theorem dX12_goes_167 : decode prog_13_method_46_code 167 = .ok (.iload 4, 2) := by decide +kernel
theorem dX12_goes_169 : decode prog_13_method_46_code 169 = .ok (.iload_n 3, 1) := by decide +kernel
theorem dX12_goes_170 : decode prog_13_method_46_code 170 = .ok (.if_icmp .ge 15, 3) := by decide +kernel
theorem dX12_goes_173 : decode prog_13_method_46_code 173 = .ok (.aload_n 0, 1) := by decide +kernel
theorem dX12_goes_174 : decode prog_13_method_46_code 174 = .ok (.iload 4, 2) := by decide +kernel
theorem dX12_goes_176 : decode prog_13_method_46_code 176 = .ok (.invokevirtual 446, 3) := by decide +kernel
theorem dX12_goes_179 : decode prog_13_method_46_code 179 = .ok (.iinc 4 1, 3) := by decide +kernel
theorem dX12_goes_182 : decode prog_13_method_46_code 182 = .ok (.goto (-15), 3) := by decide +kernel
theorem dX12_goes_185 : decode prog_13_method_46_code 185 = .ok (.aload_n 0, 1) := by decide +kernel
theorem dX12_goes_186 : decode prog_13_method_46_code 186 = .ok (.getfield 30, 3) := by decide +kernel
theorem dX12_goes_189 : decode prog_13_method_46_code 189 = .ok (.aload_n 0, 1) := by decide +kernel
theorem dX12_goes_190 : decode prog_13_method_46_code 190 = .ok (.getfield 409, 3) := by decide +kernel
theorem dX12_goes_193 : decode prog_13_method_46_code 193 = .ok (.getfield 176, 3) := by decide +kernel
theorem dX12_goes_196 : decode prog_13_method_46_code 196 = .ok (.aload_n 0, 1) := by decide +kernel
theorem dX12_goes_197 : decode prog_13_method_46_code 197 = .ok (.aload_n 0, 1) := by decide +kernel
theorem dX12_goes_198 : decode prog_13_method_46_code 198 = .ok (.getfield 409, 3) := by decide +kernel
theorem dX12_goes_201 : decode prog_13_method_46_code 201 = .ok (.getfield 176, 3) := by decide +kernel
theorem dX12_goes_204 : decode prog_13_method_46_code 204 = .ok (.invokevirtual 449, 3) := by decide +kernel
theorem dX12_goes_207 : decode prog_13_method_46_code 207 = .ok (.iastore, 1) := by decide +kernel
theorem dX12_goes_208 : decode prog_13_method_46_code 208 = .ok (.return_, 1) := by decide +kernel
theorem dX12_isThere_0 : decode prog_13_method_47_code 0 = .ok (.aload_n 0, 1) := by decide +kernel
theorem dX12_isThere_1 : decode prog_13_method_47_code 1 = .ok (.getfield 409, 3) := by decide +kernel
theorem dX12_isThere_4 : decode prog_13_method_47_code 4 = .ok (.iload_n 1, 1) := by decide +kernel
theorem dX12_isThere_5 : decode prog_13_method_47_code 5 = .ok (.iload_n 2, 1) := by decide +kernel
theorem dX12_isThere_6 : decode prog_13_method_47_code 6 = .ok (.invokevirtual 452, 3) := by decide +kernel
theorem dX12_isThere_9 : decode prog_13_method_47_code 9 = .ok (.ifCond .eq 42, 3) := by decide +kernel
theorem dX12_isThere_12 : decode prog_13_method_47_code 12 = .ok (.aload_n 0, 1) := by decide +kernel
theorem dX12_isThere_13 : decode prog_13_method_47_code 13 = .ok (.getfield 17, 3) := by decide +kernel
theorem dX12_isThere_16 : decode prog_13_method_47_code 16 = .ok (.iconst 2, 1) := by decide +kernel
theorem dX12_isThere_17 : decode prog_13_method_47_code 17 = .ok (.iload_n 1, 1) := by decide +kernel
theorem dX12_isThere_18 : decode prog_13_method_47_code 18 = .ok (.iadd, 1) := by decide +kernel
theorem dX12_isThere_19 : decode prog_13_method_47_code 19 = .ok (.iaload, 1) := by decide +kernel
theorem dX12_isThere_20 : decode prog_13_method_47_code 20 = .ok (.bipush (-2), 2) := by decide +kernel
theorem dX12_isThere_22 : decode prog_13_method_47_code 22 = .ok (.if_icmp .eq 15, 3) := by decide +kernel
theorem dX12_isThere_25 : decode prog_13_method_47_code 25 = .ok (.iload_n 2, 1) := by decide +kernel
theorem dX12_isThere_26 : decode prog_13_method_47_code 26 = .ok (.aload_n 0, 1) := by decide +kernel
theorem dX12_isThere_27 : decode prog_13_method_47_code 27 = .ok (.getfield 17, 3) := by decide +kernel
theorem dX12_isThere_30 : decode prog_13_method_47_code 30 = .ok (.iconst 2, 1) := by decide +kernel
theorem dX12_isThere_31 : decode prog_13_method_47_code 31 = .ok (.iload_n 1, 1) := by decide +kernel
theorem dX12_isThere_32 : decode prog_13_method_47_code 32 = .ok (.iadd, 1) := by decide +kernel
theorem dX12_isThere_33 : decode prog_13_method_47_code 33 = .ok (.iaload, 1) := by decide +kernel
theorem dX12_isThere_34 : decode prog_13_method_47_code 34 = .ok (.if_icmp .ge 17, 3) := by decide +kernel
theorem dX12_isThere_37 : decode prog_13_method_47_code 37 = .ok (.iload_n 2, 1) := by decide +kernel
theorem dX12_isThere_38 : decode prog_13_method_47_code 38 = .ok (.aload_n 0, 1) := by decide +kernel
theorem dX12_isThere_39 : decode prog_13_method_47_code 39 = .ok (.getfield 73, 3) := by decide +kernel
theorem dX12_isThere_42 : decode prog_13_method_47_code 42 = .ok (.iload_n 1, 1) := by decide +kernel
theorem dX12_isThere_43 : decode prog_13_method_47_code 43 = .ok (.iaload, 1) := by decide +kernel
theorem dX12_isThere_44 : decode prog_13_method_47_code 44 = .ok (.if_icmp .ge 7, 3) := by decide +kernel
theorem dX12_isThere_47 : decode prog_13_method_47_code 47 = .ok (.iconst 1, 1) := by decide +kernel
theorem dX12_isThere_48 : decode prog_13_method_47_code 48 = .ok (.goto 4, 3) := by decide +kernel
theorem dX12_isThere_51 : decode prog_13_method_47_code 51 = .ok (.iconst 0, 1) := by decide +kernel
theorem dX12_isThere_52 : decode prog_13_method_47_code 52 = .ok (.ireturn, 1) := by decide +kernel
theorem dX12_thereIn_0 : decode prog_13_method_48_code 0 = .ok (.iconst 0, 1) := by decide +kernel
theorem dX12_thereIn_1 : decode prog_13_method_48_code 1 = .ok (.istore_n 2, 1) := by decide +kernel
theorem dX12_thereIn_2 : decode prog_13_method_48_code 2 = .ok (.iconst 0, 1) := by decide +kernel
theorem dX12_thereIn_3 : decode prog_13_method_48_code 3 = .ok (.istore_n 3, 1) := by decide +kernel
theorem dX12_thereIn_4 : decode prog_13_method_48_code 4 = .ok (.iload_n 3, 1) := by decide +kernel
theorem dX12_thereIn_5 : decode prog_13_method_48_code 5 = .ok (.aload_n 0, 1) := by decide +kernel
theorem dX12_thereIn_6 : decode prog_13_method_48_code 6 = .ok (.getfield 409, 3) := by decide +kernel
theorem dX12_thereIn_9 : decode prog_13_method_48_code 9 = .ok (.getfield 230, 3) := by decide +kernel
theorem dX12_thereIn_12 : decode prog_13_method_48_code 12 = .ok (.if_icmp .ge 28, 3) := by decide +kernel
theorem dX12_thereIn_15 : decode prog_13_method_48_code 15 = .ok (.iload_n 2, 1) := by decide +kernel
theorem dX12_thereIn_16 : decode prog_13_method_48_code 16 = .ok (.aload_n 0, 1) := by decide +kernel
theorem dX12_thereIn_17 : decode prog_13_method_48_code 17 = .ok (.iload_n 3, 1) := by decide +kernel
theorem dX12_thereIn_18 : decode prog_13_method_48_code 18 = .ok (.iload_n 1, 1) := by decide +kernel
theorem dX12_thereIn_19 : decode prog_13_method_48_code 19 = .ok (.invokevirtual 455, 3) := by decide +kernel
theorem dX12_thereIn_22 : decode prog_13_method_48_code 22 = .ok (.ifCond .eq 9, 3) := by decide +kernel
theorem dX12_thereIn_25 : decode prog_13_method_48_code 25 = .ok (.iconst 1, 1) := by decide +kernel
theorem dX12_thereIn_26 : decode prog_13_method_48_code 26 = .ok (.iload_n 3, 1) := by decide +kernel
theorem dX12_thereIn_27 : decode prog_13_method_48_code 27 = .ok (.ishl, 1) := by decide +kernel
theorem dX12_thereIn_28 : decode prog_13_method_48_code 28 = .ok (.goto 4, 3) := by decide +kernel
theorem dX12_thereIn_31 : decode prog_13_method_48_code 31 = .ok (.iconst 0, 1) := by decide +kernel
theorem dX12_thereIn_32 : decode prog_13_method_48_code 32 = .ok (.ior, 1) := by decide +kernel
theorem dX12_thereIn_33 : decode prog_13_method_48_code 33 = .ok (.istore_n 2, 1) := by decide +kernel
theorem dX12_thereIn_34 : decode prog_13_method_48_code 34 = .ok (.iinc 3 1, 3) := by decide +kernel
theorem dX12_thereIn_37 : decode prog_13_method_48_code 37 = .ok (.goto (-33), 3) := by decide +kernel
theorem dX12_thereIn_40 : decode prog_13_method_48_code 40 = .ok (.iload_n 2, 1) := by decide +kernel
theorem dX12_thereIn_41 : decode prog_13_method_48_code 41 = .ok (.ireturn, 1) := by decide +kernel
theorem dX12_isAble_0 : decode prog_13_method_49_code 0 = .ok (.aload_n 0, 1) := by decide +kernel
theorem dX12_isAble_1 : decode prog_13_method_49_code 1 = .ok (.iload_n 1, 1) := by decide +kernel
theorem dX12_isAble_2 : decode prog_13_method_49_code 2 = .ok (.iload_n 2, 1) := by decide +kernel
theorem dX12_isAble_3 : decode prog_13_method_49_code 3 = .ok (.invokevirtual 455, 3) := by decide +kernel
theorem dX12_isAble_6 : decode prog_13_method_49_code 6 = .ok (.ifCond .eq 34, 3) := by decide +kernel
theorem dX12_isAble_9 : decode prog_13_method_49_code 9 = .ok (.aload_n 0, 1) := by decide +kernel
theorem dX12_isAble_10 : decode prog_13_method_49_code 10 = .ok (.getfield 409, 3) := by decide +kernel
theorem dX12_isAble_13 : decode prog_13_method_49_code 13 = .ok (.getfield 323, 3) := by decide +kernel
theorem dX12_isAble_16 : decode prog_13_method_49_code 16 = .ok (.iload_n 1, 1) := by decide +kernel
theorem dX12_isAble_17 : decode prog_13_method_49_code 17 = .ok (.iaload, 1) := by decide +kernel
theorem dX12_isAble_18 : decode prog_13_method_49_code 18 = .ok (.iconst 1, 1) := by decide +kernel
theorem dX12_isAble_19 : decode prog_13_method_49_code 19 = .ok (.if_icmp .ne 17, 3) := by decide +kernel
theorem dX12_isAble_22 : decode prog_13_method_49_code 22 = .ok (.aload_n 0, 1) := by decide +kernel
theorem dX12_isAble_23 : decode prog_13_method_49_code 23 = .ok (.getfield 409, 3) := by decide +kernel
theorem dX12_isAble_26 : decode prog_13_method_49_code 26 = .ok (.iload_n 1, 1) := by decide +kernel
theorem dX12_isAble_27 : decode prog_13_method_49_code 27 = .ok (.iload_n 2, 1) := by decide +kernel
theorem dX12_isAble_28 : decode prog_13_method_49_code 28 = .ok (.invokevirtual 458, 3) := by decide +kernel
theorem dX12_isAble_31 : decode prog_13_method_49_code 31 = .ok (.bipush 30, 2) := by decide +kernel
theorem dX12_isAble_33 : decode prog_13_method_49_code 33 = .ok (.if_icmp .ge 7, 3) := by decide +kernel
theorem dX12_isAble_36 : decode prog_13_method_49_code 36 = .ok (.iconst 1, 1) := by decide +kernel
theorem dX12_isAble_37 : decode prog_13_method_49_code 37 = .ok (.goto 4, 3) := by decide +kernel
theorem dX12_isAble_40 : decode prog_13_method_49_code 40 = .ok (.iconst 0, 1) := by decide +kernel
theorem dX12_isAble_41 : decode prog_13_method_49_code 41 = .ok (.ireturn, 1) := by decide +kernel
theorem dX12_counted_0 : decode prog_13_method_50_code 0 = .ok (.aload_n 0, 1) := by decide +kernel
theorem dX12_counted_1 : decode prog_13_method_50_code 1 = .ok (.getfield 58, 3) := by decide +kernel
theorem dX12_counted_4 : decode prog_13_method_50_code 4 = .ok (.iload_n 1, 1) := by decide +kernel
theorem dX12_counted_5 : decode prog_13_method_50_code 5 = .ok (.iaload, 1) := by decide +kernel
theorem dX12_counted_6 : decode prog_13_method_50_code 6 = .ok (.aload_n 0, 1) := by decide +kernel
theorem dX12_counted_7 : decode prog_13_method_50_code 7 = .ok (.getfield 409, 3) := by decide +kernel
theorem dX12_counted_10 : decode prog_13_method_50_code 10 = .ok (.getfield 323, 3) := by decide +kernel
theorem dX12_counted_13 : decode prog_13_method_50_code 13 = .ok (.iload_n 1, 1) := by decide +kernel
theorem dX12_counted_14 : decode prog_13_method_50_code 14 = .ok (.iaload, 1) := by decide +kernel
theorem dX12_counted_15 : decode prog_13_method_50_code 15 = .ok (.iconst 4, 1) := by decide +kernel
theorem dX12_counted_16 : decode prog_13_method_50_code 16 = .ok (.if_icmp .ne 7, 3) := by decide +kernel
theorem dX12_counted_19 : decode prog_13_method_50_code 19 = .ok (.iconst 1, 1) := by decide +kernel
theorem dX12_counted_20 : decode prog_13_method_50_code 20 = .ok (.goto 4, 3) := by decide +kernel
theorem dX12_counted_23 : decode prog_13_method_50_code 23 = .ok (.iconst 0, 1) := by decide +kernel
theorem dX12_counted_24 : decode prog_13_method_50_code 24 = .ok (.isub, 1) := by decide +kernel
theorem dX12_counted_25 : decode prog_13_method_50_code 25 = .ok (.ireturn, 1) := by decide +kernel
theorem dX12_isSecond_0 : decode prog_13_method_51_code 0 = .ok (.iload_n 1, 1) := by decide +kernel
theorem dX12_isSecond_1 : decode prog_13_method_51_code 1 = .ok (.ifCond .eq 16, 3) := by decide +kernel
theorem dX12_isSecond_4 : decode prog_13_method_51_code 4 = .ok (.aload_n 0, 1) := by decide +kernel
theorem dX12_isSecond_5 : decode prog_13_method_51_code 5 = .ok (.getfield 27, 3) := by decide +kernel
theorem dX12_isSecond_8 : decode prog_13_method_51_code 8 = .ok (.iload_n 1, 1) := by decide +kernel
theorem dX12_isSecond_9 : decode prog_13_method_51_code 9 = .ok (.iconst 1, 1) := by decide +kernel
theorem dX12_isSecond_10 : decode prog_13_method_51_code 10 = .ok (.isub, 1) := by decide +kernel
theorem dX12_isSecond_11 : decode prog_13_method_51_code 11 = .ok (.iaload, 1) := by decide +kernel
theorem dX12_isSecond_12 : decode prog_13_method_51_code 12 = .ok (.bipush (-2), 2) := by decide +kernel
theorem dX12_isSecond_14 : decode prog_13_method_51_code 14 = .ok (.if_icmp .ne 5, 3) := by decide +kernel
theorem dX12_isSecond_17 : decode prog_13_method_51_code 17 = .ok (.iconst 0, 1) := by decide +kernel
theorem dX12_isSecond_18 : decode prog_13_method_51_code 18 = .ok (.ireturn, 1) := by decide +kernel
theorem dX12_isSecond_19 : decode prog_13_method_51_code 19 = .ok (.aload_n 0, 1) := by decide +kernel
theorem dX12_isSecond_20 : decode prog_13_method_51_code 20 = .ok (.getfield 27, 3) := by decide +kernel
theorem dX12_isSecond_23 : decode prog_13_method_51_code 23 = .ok (.iload_n 1, 1) := by decide +kernel
theorem dX12_isSecond_24 : decode prog_13_method_51_code 24 = .ok (.iconst 1, 1) := by decide +kernel
theorem dX12_isSecond_25 : decode prog_13_method_51_code 25 = .ok (.isub, 1) := by decide +kernel
theorem dX12_isSecond_26 : decode prog_13_method_51_code 26 = .ok (.iaload, 1) := by decide +kernel
theorem dX12_isSecond_27 : decode prog_13_method_51_code 27 = .ok (.istore_n 2, 1) := by decide +kernel
theorem dX12_isSecond_28 : decode prog_13_method_51_code 28 = .ok (.aload_n 0, 1) := by decide +kernel
theorem dX12_isSecond_29 : decode prog_13_method_51_code 29 = .ok (.getfield 409, 3) := by decide +kernel
theorem dX12_isSecond_32 : decode prog_13_method_51_code 32 = .ok (.getfield 323, 3) := by decide +kernel
theorem dX12_isSecond_35 : decode prog_13_method_51_code 35 = .ok (.iload_n 2, 1) := by decide +kernel
theorem dX12_isSecond_36 : decode prog_13_method_51_code 36 = .ok (.iaload, 1) := by decide +kernel
theorem dX12_isSecond_37 : decode prog_13_method_51_code 37 = .ok (.iconst 3, 1) := by decide +kernel
theorem dX12_isSecond_38 : decode prog_13_method_51_code 38 = .ok (.if_icmp .ne 37, 3) := by decide +kernel
theorem dX12_isSecond_41 : decode prog_13_method_51_code 41 = .ok (.iload_n 1, 1) := by decide +kernel
theorem dX12_isSecond_42 : decode prog_13_method_51_code 42 = .ok (.iconst 1, 1) := by decide +kernel
theorem dX12_isSecond_43 : decode prog_13_method_51_code 43 = .ok (.if_icmp .eq 15, 3) := by decide +kernel
theorem dX12_isSecond_46 : decode prog_13_method_51_code 46 = .ok (.aload_n 0, 1) := by decide +kernel
theorem dX12_isSecond_47 : decode prog_13_method_51_code 47 = .ok (.getfield 27, 3) := by decide +kernel
theorem dX12_isSecond_50 : decode prog_13_method_51_code 50 = .ok (.iload_n 1, 1) := by decide +kernel
theorem dX12_isSecond_51 : decode prog_13_method_51_code 51 = .ok (.iconst 2, 1) := by decide +kernel
theorem dX12_isSecond_52 : decode prog_13_method_51_code 52 = .ok (.isub, 1) := by decide +kernel
theorem dX12_isSecond_53 : decode prog_13_method_51_code 53 = .ok (.iaload, 1) := by decide +kernel
theorem dX12_isSecond_54 : decode prog_13_method_51_code 54 = .ok (.iload_n 2, 1) := by decide +kernel
theorem dX12_isSecond_55 : decode prog_13_method_51_code 55 = .ok (.if_icmp .eq 20, 3) := by decide +kernel
theorem dX12_isSecond_58 : decode prog_13_method_51_code 58 = .ok (.aload_n 0, 1) := by decide +kernel
theorem dX12_isSecond_59 : decode prog_13_method_51_code 59 = .ok (.getfield 33, 3) := by decide +kernel
theorem dX12_isSecond_62 : decode prog_13_method_51_code 62 = .ok (.iload_n 1, 1) := by decide +kernel
theorem dX12_isSecond_63 : decode prog_13_method_51_code 63 = .ok (.iaload, 1) := by decide +kernel
theorem dX12_isSecond_64 : decode prog_13_method_51_code 64 = .ok (.iload_n 2, 1) := by decide +kernel
theorem dX12_isSecond_65 : decode prog_13_method_51_code 65 = .ok (.invokestatic 386, 3) := by decide +kernel
theorem dX12_isSecond_68 : decode prog_13_method_51_code 68 = .ok (.ifCond .eq 7, 3) := by decide +kernel
theorem dX12_isSecond_71 : decode prog_13_method_51_code 71 = .ok (.iconst 1, 1) := by decide +kernel
theorem dX12_isSecond_72 : decode prog_13_method_51_code 72 = .ok (.goto 4, 3) := by decide +kernel
theorem dX12_isSecond_75 : decode prog_13_method_51_code 75 = .ok (.iconst 0, 1) := by decide +kernel
theorem dX12_isSecond_76 : decode prog_13_method_51_code 76 = .ok (.ireturn, 1) := by decide +kernel
theorem dX12_year_0 : decode prog_13_method_52_code 0 = .ok (.aload_n 0, 1) := by decide +kernel
theorem dX12_year_1 : decode prog_13_method_52_code 1 = .ok (.getfield 30, 3) := by decide +kernel
theorem dX12_year_4 : decode prog_13_method_52_code 4 = .ok (.iload_n 1, 1) := by decide +kernel
theorem dX12_year_5 : decode prog_13_method_52_code 5 = .ok (.aload_n 0, 1) := by decide +kernel
theorem dX12_year_6 : decode prog_13_method_52_code 6 = .ok (.iload_n 1, 1) := by decide +kernel
theorem dX12_year_7 : decode prog_13_method_52_code 7 = .ok (.invokevirtual 449, 3) := by decide +kernel
theorem dX12_year_10 : decode prog_13_method_52_code 10 = .ok (.iastore, 1) := by decide +kernel
theorem dX12_year_11 : decode prog_13_method_52_code 11 = .ok (.aload_n 0, 1) := by decide +kernel
theorem dX12_year_12 : decode prog_13_method_52_code 12 = .ok (.getfield 33, 3) := by decide +kernel
theorem dX12_year_15 : decode prog_13_method_52_code 15 = .ok (.iload_n 1, 1) := by decide +kernel
theorem dX12_year_16 : decode prog_13_method_52_code 16 = .ok (.iconst 0, 1) := by decide +kernel
theorem dX12_year_17 : decode prog_13_method_52_code 17 = .ok (.iastore, 1) := by decide +kernel
theorem dX12_year_18 : decode prog_13_method_52_code 18 = .ok (.iconst 0, 1) := by decide +kernel
theorem dX12_year_19 : decode prog_13_method_52_code 19 = .ok (.istore_n 2, 1) := by decide +kernel
theorem dX12_year_20 : decode prog_13_method_52_code 20 = .ok (.iload_n 2, 1) := by decide +kernel
theorem dX12_year_21 : decode prog_13_method_52_code 21 = .ok (.aload_n 0, 1) := by decide +kernel
theorem dX12_year_22 : decode prog_13_method_52_code 22 = .ok (.getfield 409, 3) := by decide +kernel
theorem dX12_year_25 : decode prog_13_method_52_code 25 = .ok (.getfield 230, 3) := by decide +kernel
theorem dX12_year_28 : decode prog_13_method_52_code 28 = .ok (.if_icmp .ge 34, 3) := by decide +kernel
theorem dX12_year_31 : decode prog_13_method_52_code 31 = .ok (.aload_n 0, 1) := by decide +kernel
theorem dX12_year_32 : decode prog_13_method_52_code 32 = .ok (.getfield 33, 3) := by decide +kernel
theorem dX12_year_35 : decode prog_13_method_52_code 35 = .ok (.iload_n 1, 1) := by decide +kernel
theorem dX12_year_36 : decode prog_13_method_52_code 36 = .ok (.dup2, 1) := by decide +kernel
theorem dX12_year_37 : decode prog_13_method_52_code 37 = .ok (.iaload, 1) := by decide +kernel
theorem dX12_year_38 : decode prog_13_method_52_code 38 = .ok (.aload_n 0, 1) := by decide +kernel
theorem dX12_year_39 : decode prog_13_method_52_code 39 = .ok (.iload_n 2, 1) := by decide +kernel
theorem dX12_year_40 : decode prog_13_method_52_code 40 = .ok (.iload_n 1, 1) := by decide +kernel
theorem dX12_year_41 : decode prog_13_method_52_code 41 = .ok (.invokevirtual 460, 3) := by decide +kernel
theorem dX12_year_44 : decode prog_13_method_52_code 44 = .ok (.ifCond .eq 9, 3) := by decide +kernel
theorem dX12_year_47 : decode prog_13_method_52_code 47 = .ok (.iconst 1, 1) := by decide +kernel
theorem dX12_year_48 : decode prog_13_method_52_code 48 = .ok (.iload_n 2, 1) := by decide +kernel
theorem dX12_year_49 : decode prog_13_method_52_code 49 = .ok (.ishl, 1) := by decide +kernel
theorem dX12_year_50 : decode prog_13_method_52_code 50 = .ok (.goto 4, 3) := by decide +kernel
theorem dX12_year_53 : decode prog_13_method_52_code 53 = .ok (.iconst 0, 1) := by decide +kernel
theorem dX12_year_54 : decode prog_13_method_52_code 54 = .ok (.ior, 1) := by decide +kernel
theorem dX12_year_55 : decode prog_13_method_52_code 55 = .ok (.iastore, 1) := by decide +kernel
theorem dX12_year_56 : decode prog_13_method_52_code 56 = .ok (.iinc 2 1, 3) := by decide +kernel
theorem dX12_year_59 : decode prog_13_method_52_code 59 = .ok (.goto (-39), 3) := by decide +kernel
theorem dX12_year_62 : decode prog_13_method_52_code 62 = .ok (.aload_n 0, 1) := by decide +kernel
theorem dX12_year_63 : decode prog_13_method_52_code 63 = .ok (.getfield 42, 3) := by decide +kernel
theorem dX12_year_66 : decode prog_13_method_52_code 66 = .ok (.iload_n 1, 1) := by decide +kernel
theorem dX12_year_67 : decode prog_13_method_52_code 67 = .ok (.iload_n 1, 1) := by decide +kernel
theorem dX12_year_68 : decode prog_13_method_52_code 68 = .ok (.ifCond .le 37, 3) := by decide +kernel
theorem dX12_year_71 : decode prog_13_method_52_code 71 = .ok (.aload_n 0, 1) := by decide +kernel
theorem dX12_year_72 : decode prog_13_method_52_code 72 = .ok (.getfield 27, 3) := by decide +kernel
theorem dX12_year_75 : decode prog_13_method_52_code 75 = .ok (.iload_n 1, 1) := by decide +kernel
theorem dX12_year_76 : decode prog_13_method_52_code 76 = .ok (.iconst 1, 1) := by decide +kernel
theorem dX12_year_77 : decode prog_13_method_52_code 77 = .ok (.isub, 1) := by decide +kernel
theorem dX12_year_78 : decode prog_13_method_52_code 78 = .ok (.iaload, 1) := by decide +kernel
theorem dX12_year_79 : decode prog_13_method_52_code 79 = .ok (.bipush (-2), 2) := by decide +kernel
theorem dX12_year_81 : decode prog_13_method_52_code 81 = .ok (.if_icmp .eq 24, 3) := by decide +kernel
theorem dX12_year_84 : decode prog_13_method_52_code 84 = .ok (.aload_n 0, 1) := by decide +kernel
theorem dX12_year_85 : decode prog_13_method_52_code 85 = .ok (.getfield 73, 3) := by decide +kernel
theorem dX12_year_88 : decode prog_13_method_52_code 88 = .ok (.aload_n 0, 1) := by decide +kernel
theorem dX12_year_89 : decode prog_13_method_52_code 89 = .ok (.getfield 27, 3) := by decide +kernel
theorem dX12_year_92 : decode prog_13_method_52_code 92 = .ok (.iload_n 1, 1) := by decide +kernel
theorem dX12_year_93 : decode prog_13_method_52_code 93 = .ok (.iconst 1, 1) := by decide +kernel
theorem dX12_year_94 : decode prog_13_method_52_code 94 = .ok (.isub, 1) := by decide +kernel
theorem dX12_year_95 : decode prog_13_method_52_code 95 = .ok (.iaload, 1) := by decide +kernel
theorem dX12_year_96 : decode prog_13_method_52_code 96 = .ok (.iaload, 1) := by decide +kernel
theorem dX12_year_97 : decode prog_13_method_52_code 97 = .ok (.iload_n 1, 1) := by decide +kernel
theorem dX12_year_98 : decode prog_13_method_52_code 98 = .ok (.if_icmp .ne 7, 3) := by decide +kernel
theorem dX12_year_101 : decode prog_13_method_52_code 101 = .ok (.iconst 1, 1) := by decide +kernel
theorem dX12_year_102 : decode prog_13_method_52_code 102 = .ok (.goto 4, 3) := by decide +kernel
theorem dX12_year_105 : decode prog_13_method_52_code 105 = .ok (.iconst 0, 1) := by decide +kernel
theorem dX12_year_106 : decode prog_13_method_52_code 106 = .ok (.bastore, 1) := by decide +kernel
theorem dX12_year_107 : decode prog_13_method_52_code 107 = .ok (.aload_n 0, 1) := by decide +kernel
theorem dX12_year_108 : decode prog_13_method_52_code 108 = .ok (.getfield 39, 3) := by decide +kernel
theorem dX12_year_111 : decode prog_13_method_52_code 111 = .ok (.iload_n 1, 1) := by decide +kernel
theorem dX12_year_112 : decode prog_13_method_52_code 112 = .ok (.iconst 0, 1) := by decide +kernel
theorem dX12_year_113 : decode prog_13_method_52_code 113 = .ok (.iastore, 1) := by decide +kernel
theorem dX12_year_114 : decode prog_13_method_52_code 114 = .ok (.bipush (-2), 2) := by decide +kernel
theorem dX12_year_116 : decode prog_13_method_52_code 116 = .ok (.istore_n 2, 1) := by decide +kernel
theorem dX12_year_117 : decode prog_13_method_52_code 117 = .ok (.aload_n 0, 1) := by decide +kernel
theorem dX12_year_118 : decode prog_13_method_52_code 118 = .ok (.getfield 42, 3) := by decide +kernel
theorem dX12_year_121 : decode prog_13_method_52_code 121 = .ok (.iload_n 1, 1) := by decide +kernel
theorem dX12_year_122 : decode prog_13_method_52_code 122 = .ok (.baload, 1) := by decide +kernel
theorem dX12_year_123 : decode prog_13_method_52_code 123 = .ok (.ifCond .ne 76, 3) := by decide +kernel
theorem dX12_year_126 : decode prog_13_method_52_code 126 = .ok (.aload_n 0, 1) := by decide +kernel
theorem dX12_year_127 : decode prog_13_method_52_code 127 = .ok (.getfield 33, 3) := by decide +kernel
theorem dX12_year_130 : decode prog_13_method_52_code 130 = .ok (.iload_n 1, 1) := by decide +kernel
theorem dX12_year_131 : decode prog_13_method_52_code 131 = .ok (.iaload, 1) := by decide +kernel
theorem dX12_year_132 : decode prog_13_method_52_code 132 = .ok (.ifCond .eq 67, 3) := by decide +kernel
theorem dX12_year_135 : decode prog_13_method_52_code 135 = .ok (.aload_n 0, 1) := by decide +kernel
theorem dX12_year_136 : decode prog_13_method_52_code 136 = .ok (.iload_n 1, 1) := by decide +kernel
theorem dX12_year_137 : decode prog_13_method_52_code 137 = .ok (.invokevirtual 463, 3) := by decide +kernel
theorem dX12_year_140 : decode prog_13_method_52_code 140 = .ok (.ifCond .eq 15, 3) := by decide +kernel
theorem dX12_year_143 : decode prog_13_method_52_code 143 = .ok (.aload_n 0, 1) := by decide +kernel
theorem dX12_year_144 : decode prog_13_method_52_code 144 = .ok (.getfield 27, 3) := by decide +kernel
theorem dX12_year_147 : decode prog_13_method_52_code 147 = .ok (.iload_n 1, 1) := by decide +kernel
theorem dX12_year_148 : decode prog_13_method_52_code 148 = .ok (.iconst 1, 1) := by decide +kernel
theorem dX12_year_149 : decode prog_13_method_52_code 149 = .ok (.isub, 1) := by decide +kernel
theorem dX12_year_150 : decode prog_13_method_52_code 150 = .ok (.iaload, 1) := by decide +kernel
theorem dX12_year_151 : decode prog_13_method_52_code 151 = .ok (.istore_n 2, 1) := by decide +kernel
theorem dX12_year_152 : decode prog_13_method_52_code 152 = .ok (.goto 32, 3) := by decide +kernel
theorem dX12_year_155 : decode prog_13_method_52_code 155 = .ok (.iload_n 1, 1) := by decide +kernel
theorem dX12_year_156 : decode prog_13_method_52_code 156 = .ok (.aload_n 0, 1) := by decide +kernel
theorem dX12_year_157 : decode prog_13_method_52_code 157 = .ok (.getfield 420, 3) := by decide +kernel
theorem dX12_year_160 : decode prog_13_method_52_code 160 = .ok (.if_icmp .ge 13, 3) := by decide +kernel
theorem dX12_year_163 : decode prog_13_method_52_code 163 = .ok (.aload_n 0, 1) := by decide +kernel
theorem dX12_year_164 : decode prog_13_method_52_code 164 = .ok (.getfield 79, 3) := by decide +kernel
theorem dX12_year_167 : decode prog_13_method_52_code 167 = .ok (.iload_n 1, 1) := by decide +kernel
theorem dX12_year_168 : decode prog_13_method_52_code 168 = .ok (.iaload, 1) := by decide +kernel
theorem dX12_year_169 : decode prog_13_method_52_code 169 = .ok (.istore_n 2, 1) := by decide +kernel
theorem dX12_year_170 : decode prog_13_method_52_code 170 = .ok (.goto 14, 3) := by decide +kernel
theorem dX12_year_173 : decode prog_13_method_52_code 173 = .ok (.aload_n 0, 1) := by decide +kernel
theorem dX12_year_174 : decode prog_13_method_52_code 174 = .ok (.aload_n 0, 1) := by decide +kernel
theorem dX12_year_175 : decode prog_13_method_52_code 175 = .ok (.iload_n 1, 1) := by decide +kernel
theorem dX12_year_176 : decode prog_13_method_52_code 176 = .ok (.invokevirtual 466, 3) := by decide +kernel
theorem dX12_year_179 : decode prog_13_method_52_code 179 = .ok (.iload_n 1, 1) := by decide +kernel
theorem dX12_year_180 : decode prog_13_method_52_code 180 = .ok (.invokevirtual 469, 3) := by decide +kernel
theorem dX12_year_183 : decode prog_13_method_52_code 183 = .ok (.istore_n 2, 1) := by decide +kernel
theorem dX12_year_184 : decode prog_13_method_52_code 184 = .ok (.iload_n 1, 1) := by decide +kernel
theorem dX12_year_185 : decode prog_13_method_52_code 185 = .ok (.aload_n 0, 1) := by decide +kernel
theorem dX12_year_186 : decode prog_13_method_52_code 186 = .ok (.getfield 420, 3) := by decide +kernel
theorem dX12_year_189 : decode prog_13_method_52_code 189 = .ok (.if_icmp .lt 10, 3) := by decide +kernel
theorem dX12_year_192 : decode prog_13_method_52_code 192 = .ok (.aload_n 0, 1) := by decide +kernel
theorem dX12_year_193 : decode prog_13_method_52_code 193 = .ok (.iload_n 2, 1) := by decide +kernel
theorem dX12_year_194 : decode prog_13_method_52_code 194 = .ok (.iload_n 1, 1) := by decide +kernel
theorem dX12_year_195 : decode prog_13_method_52_code 195 = .ok (.invokevirtual 472, 3) := by decide +kernel
theorem dX12_year_198 : decode prog_13_method_52_code 198 = .ok (.istore_n 2, 1) := by decide +kernel
theorem dX12_year_199 : decode prog_13_method_52_code 199 = .ok (.aload_n 0, 1) := by decide +kernel
theorem dX12_year_200 : decode prog_13_method_52_code 200 = .ok (.getfield 27, 3) := by decide +kernel
theorem dX12_year_203 : decode prog_13_method_52_code 203 = .ok (.iload_n 1, 1) := by decide +kernel
theorem dX12_year_204 : decode prog_13_method_52_code 204 = .ok (.iload_n 2, 1) := by decide +kernel
theorem dX12_year_205 : decode prog_13_method_52_code 205 = .ok (.iastore, 1) := by decide +kernel
theorem dX12_year_206 : decode prog_13_method_52_code 206 = .ok (.iload_n 2, 1) := by decide +kernel
theorem dX12_year_207 : decode prog_13_method_52_code 207 = .ok (.bipush (-2), 2) := by decide +kernel
theorem dX12_year_209 : decode prog_13_method_52_code 209 = .ok (.if_icmp .eq 9, 3) := by decide +kernel
theorem dX12_year_212 : decode prog_13_method_52_code 212 = .ok (.aload_n 0, 1) := by decide +kernel
theorem dX12_year_213 : decode prog_13_method_52_code 213 = .ok (.iload_n 2, 1) := by decide +kernel
theorem dX12_year_214 : decode prog_13_method_52_code 214 = .ok (.iload_n 1, 1) := by decide +kernel
theorem dX12_year_215 : decode prog_13_method_52_code 215 = .ok (.invokevirtual 475, 3) := by decide +kernel
theorem dX12_year_218 : decode prog_13_method_52_code 218 = .ok (.iconst 0, 1) := by decide +kernel
theorem dX12_year_219 : decode prog_13_method_52_code 219 = .ok (.istore_n 3, 1) := by decide +kernel
theorem dX12_year_220 : decode prog_13_method_52_code 220 = .ok (.iload_n 3, 1) := by decide +kernel
theorem dX12_year_221 : decode prog_13_method_52_code 221 = .ok (.bipush 10, 2) := by decide +kernel
theorem dX12_year_223 : decode prog_13_method_52_code 223 = .ok (.if_icmp .ge 60, 3) := by decide +kernel
theorem dX12_year_226 : decode prog_13_method_52_code 226 = .ok (.aload_n 0, 1) := by decide +kernel
theorem dX12_year_227 : decode prog_13_method_52_code 227 = .ok (.getfield 46, 3) := by decide +kernel
theorem dX12_year_230 : decode prog_13_method_52_code 230 = .ok (.bipush 10, 2) := by decide +kernel
theorem dX12_year_232 : decode prog_13_method_52_code 232 = .ok (.iload_n 1, 1) := by decide +kernel
theorem dX12_year_233 : decode prog_13_method_52_code 233 = .ok (.imul, 1) := by decide +kernel
theorem dX12_year_234 : decode prog_13_method_52_code 234 = .ok (.iload_n 3, 1) := by decide +kernel
theorem dX12_year_235 : decode prog_13_method_52_code 235 = .ok (.iadd, 1) := by decide +kernel
theorem dX12_year_236 : decode prog_13_method_52_code 236 = .ok (.aload_n 0, 1) := by decide +kernel
theorem dX12_year_237 : decode prog_13_method_52_code 237 = .ok (.getfield 58, 3) := by decide +kernel
theorem dX12_year_240 : decode prog_13_method_52_code 240 = .ok (.iload_n 3, 1) := by decide +kernel
theorem dX12_year_241 : decode prog_13_method_52_code 241 = .ok (.iaload, 1) := by decide +kernel
theorem dX12_year_242 : decode prog_13_method_52_code 242 = .ok (.iastore, 1) := by decide +kernel
theorem dX12_year_243 : decode prog_13_method_52_code 243 = .ok (.aload_n 0, 1) := by decide +kernel
theorem dX12_year_244 : decode prog_13_method_52_code 244 = .ok (.getfield 49, 3) := by decide +kernel
theorem dX12_year_247 : decode prog_13_method_52_code 247 = .ok (.bipush 10, 2) := by decide +kernel
theorem dX12_year_249 : decode prog_13_method_52_code 249 = .ok (.iload_n 1, 1) := by decide +kernel
theorem dX12_year_250 : decode prog_13_method_52_code 250 = .ok (.imul, 1) := by decide +kernel
theorem dX12_year_251 : decode prog_13_method_52_code 251 = .ok (.iload_n 3, 1) := by decide +kernel
theorem dX12_year_252 : decode prog_13_method_52_code 252 = .ok (.iadd, 1) := by decide +kernel
theorem dX12_year_253 : decode prog_13_method_52_code 253 = .ok (.aload_n 0, 1) := by decide +kernel
theorem dX12_year_254 : decode prog_13_method_52_code 254 = .ok (.getfield 61, 3) := by decide +kernel
theorem dX12_year_257 : decode prog_13_method_52_code 257 = .ok (.iload_n 3, 1) := by decide +kernel
theorem dX12_year_258 : decode prog_13_method_52_code 258 = .ok (.iaload, 1) := by decide +kernel
theorem dX12_year_259 : decode prog_13_method_52_code 259 = .ok (.iastore, 1) := by decide +kernel
theorem dX12_year_260 : decode prog_13_method_52_code 260 = .ok (.aload_n 0, 1) := by decide +kernel
theorem dX12_year_261 : decode prog_13_method_52_code 261 = .ok (.getfield 52, 3) := by decide +kernel
theorem dX12_year_264 : decode prog_13_method_52_code 264 = .ok (.bipush 10, 2) := by decide +kernel
theorem dX12_year_266 : decode prog_13_method_52_code 266 = .ok (.iload_n 1, 1) := by decide +kernel
theorem dX12_year_267 : decode prog_13_method_52_code 267 = .ok (.imul, 1) := by decide +kernel
theorem dX12_year_268 : decode prog_13_method_52_code 268 = .ok (.iload_n 3, 1) := by decide +kernel
theorem dX12_year_269 : decode prog_13_method_52_code 269 = .ok (.iadd, 1) := by decide +kernel
theorem dX12_year_270 : decode prog_13_method_52_code 270 = .ok (.aload_n 0, 1) := by decide +kernel
theorem dX12_year_271 : decode prog_13_method_52_code 271 = .ok (.getfield 64, 3) := by decide +kernel
theorem dX12_year_274 : decode prog_13_method_52_code 274 = .ok (.iload_n 3, 1) := by decide +kernel
theorem dX12_year_275 : decode prog_13_method_52_code 275 = .ok (.iaload, 1) := by decide +kernel
theorem dX12_year_276 : decode prog_13_method_52_code 276 = .ok (.iastore, 1) := by decide +kernel
theorem dX12_year_277 : decode prog_13_method_52_code 277 = .ok (.iinc 3 1, 3) := by decide +kernel
theorem dX12_year_280 : decode prog_13_method_52_code 280 = .ok (.goto (-60), 3) := by decide +kernel
theorem dX12_year_283 : decode prog_13_method_52_code 283 = .ok (.aload_n 0, 1) := by decide +kernel
theorem dX12_year_284 : decode prog_13_method_52_code 284 = .ok (.getfield 36, 3) := by decide +kernel
theorem dX12_year_287 : decode prog_13_method_52_code 287 = .ok (.iload_n 1, 1) := by decide +kernel
theorem dX12_year_288 : decode prog_13_method_52_code 288 = .ok (.aload_n 0, 1) := by decide +kernel
theorem dX12_year_289 : decode prog_13_method_52_code 289 = .ok (.getfield 440, 3) := by decide +kernel
theorem dX12_year_292 : decode prog_13_method_52_code 292 = .ok (.iastore, 1) := by decide +kernel
theorem dX12_year_293 : decode prog_13_method_52_code 293 = .ok (.iconst 0, 1) := by decide +kernel
theorem dX12_year_294 : decode prog_13_method_52_code 294 = .ok (.istore_n 3, 1) := by decide +kernel
theorem dX12_year_295 : decode prog_13_method_52_code 295 = .ok (.iload_n 3, 1) := by decide +kernel
theorem dX12_year_296 : decode prog_13_method_52_code 296 = .ok (.bipush 8, 2) := by decide +kernel
theorem dX12_year_298 : decode prog_13_method_52_code 298 = .ok (.if_icmp .ge 26, 3) := by decide +kernel
theorem dX12_year_301 : decode prog_13_method_52_code 301 = .ok (.aload_n 0, 1) := by decide +kernel
theorem dX12_year_302 : decode prog_13_method_52_code 302 = .ok (.getfield 55, 3) := by decide +kernel
theorem dX12_year_305 : decode prog_13_method_52_code 305 = .ok (.bipush 8, 2) := by decide +kernel
theorem dX12_year_307 : decode prog_13_method_52_code 307 = .ok (.iload_n 1, 1) := by decide +kernel
theorem dX12_year_308 : decode prog_13_method_52_code 308 = .ok (.imul, 1) := by decide +kernel
theorem dX12_year_309 : decode prog_13_method_52_code 309 = .ok (.iload_n 3, 1) := by decide +kernel
theorem dX12_year_310 : decode prog_13_method_52_code 310 = .ok (.iadd, 1) := by decide +kernel
theorem dX12_year_311 : decode prog_13_method_52_code 311 = .ok (.aload_n 0, 1) := by decide +kernel
theorem dX12_year_312 : decode prog_13_method_52_code 312 = .ok (.getfield 76, 3) := by decide +kernel
theorem dX12_year_315 : decode prog_13_method_52_code 315 = .ok (.iload_n 3, 1) := by decide +kernel
theorem dX12_year_316 : decode prog_13_method_52_code 316 = .ok (.iaload, 1) := by decide +kernel
theorem dX12_year_317 : decode prog_13_method_52_code 317 = .ok (.iastore, 1) := by decide +kernel
theorem dX12_year_318 : decode prog_13_method_52_code 318 = .ok (.iinc 3 1, 3) := by decide +kernel
theorem dX12_year_321 : decode prog_13_method_52_code 321 = .ok (.goto (-26), 3) := by decide +kernel
theorem dX12_year_324 : decode prog_13_method_52_code 324 = .ok (.return_, 1) := by decide +kernel
theorem dX12_traded_0 : decode prog_13_method_53_code 0 = .ok (.iload_n 1, 1) := by decide +kernel
theorem dX12_traded_1 : decode prog_13_method_53_code 1 = .ok (.aload_n 0, 1) := by decide +kernel
theorem dX12_traded_2 : decode prog_13_method_53_code 2 = .ok (.getfield 423, 3) := by decide +kernel
theorem dX12_traded_5 : decode prog_13_method_53_code 5 = .ok (.if_icmp .ne 10, 3) := by decide +kernel
theorem dX12_traded_8 : decode prog_13_method_53_code 8 = .ok (.aload_n 0, 1) := by decide +kernel
theorem dX12_traded_9 : decode prog_13_method_53_code 9 = .ok (.getfield 478, 3) := by decide +kernel
theorem dX12_traded_12 : decode prog_13_method_53_code 12 = .ok (.goto 19, 3) := by decide +kernel
theorem dX12_traded_15 : decode prog_13_method_53_code 15 = .ok (.iload_n 1, 1) := by decide +kernel
theorem dX12_traded_16 : decode prog_13_method_53_code 16 = .ok (.aload_n 0, 1) := by decide +kernel
theorem dX12_traded_17 : decode prog_13_method_53_code 17 = .ok (.getfield 478, 3) := by decide +kernel
theorem dX12_traded_20 : decode prog_13_method_53_code 20 = .ok (.if_icmp .ne 10, 3) := by decide +kernel
theorem dX12_traded_23 : decode prog_13_method_53_code 23 = .ok (.aload_n 0, 1) := by decide +kernel
theorem dX12_traded_24 : decode prog_13_method_53_code 24 = .ok (.getfield 423, 3) := by decide +kernel
theorem dX12_traded_27 : decode prog_13_method_53_code 27 = .ok (.goto 4, 3) := by decide +kernel
theorem dX12_traded_30 : decode prog_13_method_53_code 30 = .ok (.iload_n 1, 1) := by decide +kernel
theorem dX12_traded_31 : decode prog_13_method_53_code 31 = .ok (.istore_n 3, 1) := by decide +kernel
theorem dX12_traded_32 : decode prog_13_method_53_code 32 = .ok (.aload_n 0, 1) := by decide +kernel
theorem dX12_traded_33 : decode prog_13_method_53_code 33 = .ok (.getfield 423, 3) := by decide +kernel
theorem dX12_traded_36 : decode prog_13_method_53_code 36 = .ok (.bipush (-2), 2) := by decide +kernel
theorem dX12_traded_38 : decode prog_13_method_53_code 38 = .ok (.if_icmp .eq 20, 3) := by decide +kernel
theorem dX12_traded_41 : decode prog_13_method_53_code 41 = .ok (.aload_n 0, 1) := by decide +kernel
theorem dX12_traded_42 : decode prog_13_method_53_code 42 = .ok (.getfield 33, 3) := by decide +kernel
theorem dX12_traded_45 : decode prog_13_method_53_code 45 = .ok (.iload_n 2, 1) := by decide +kernel
theorem dX12_traded_46 : decode prog_13_method_53_code 46 = .ok (.iaload, 1) := by decide +kernel
theorem dX12_traded_47 : decode prog_13_method_53_code 47 = .ok (.iload_n 3, 1) := by decide +kernel
theorem dX12_traded_48 : decode prog_13_method_53_code 48 = .ok (.invokestatic 386, 3) := by decide +kernel
theorem dX12_traded_51 : decode prog_13_method_53_code 51 = .ok (.ifCond .eq 7, 3) := by decide +kernel
theorem dX12_traded_54 : decode prog_13_method_53_code 54 = .ok (.iload_n 3, 1) := by decide +kernel
theorem dX12_traded_55 : decode prog_13_method_53_code 55 = .ok (.goto 4, 3) := by decide +kernel
theorem dX12_traded_58 : decode prog_13_method_53_code 58 = .ok (.iload_n 1, 1) := by decide +kernel
theorem dX12_traded_59 : decode prog_13_method_53_code 59 = .ok (.ireturn, 1) := by decide +kernel
theorem dX12_bought_0 : decode prog_13_method_54_code 0 = .ok (.iload_n 1, 1) := by decide +kernel
theorem dX12_bought_1 : decode prog_13_method_54_code 1 = .ok (.istore_n 3, 1) := by decide +kernel
theorem dX12_bought_2 : decode prog_13_method_54_code 2 = .ok (.iconst 0, 1) := by decide +kernel
theorem dX12_bought_3 : decode prog_13_method_54_code 3 = .ok (.istore 4, 2) := by decide +kernel
theorem dX12_bought_5 : decode prog_13_method_54_code 5 = .ok (.iload 4, 2) := by decide +kernel
theorem dX12_bought_7 : decode prog_13_method_54_code 7 = .ok (.aload_n 0, 1) := by decide +kernel
theorem dX12_bought_8 : decode prog_13_method_54_code 8 = .ok (.getfield 409, 3) := by decide +kernel
theorem dX12_bought_11 : decode prog_13_method_54_code 11 = .ok (.getfield 359, 3) := by decide +kernel
theorem dX12_bought_14 : decode prog_13_method_54_code 14 = .ok (.if_icmp .ge 60, 3) := by decide +kernel
theorem dX12_bought_17 : decode prog_13_method_54_code 17 = .ok (.aload_n 0, 1) := by decide +kernel
theorem dX12_bought_18 : decode prog_13_method_54_code 18 = .ok (.getfield 409, 3) := by decide +kernel
theorem dX12_bought_21 : decode prog_13_method_54_code 21 = .ok (.getfield 363, 3) := by decide +kernel
theorem dX12_bought_24 : decode prog_13_method_54_code 24 = .ok (.iload 4, 2) := by decide +kernel
theorem dX12_bought_26 : decode prog_13_method_54_code 26 = .ok (.iaload, 1) := by decide +kernel
theorem dX12_bought_27 : decode prog_13_method_54_code 27 = .ok (.iload_n 2, 1) := by decide +kernel
theorem dX12_bought_28 : decode prog_13_method_54_code 28 = .ok (.if_icmp .ne 40, 3) := by decide +kernel
theorem dX12_bought_31 : decode prog_13_method_54_code 31 = .ok (.aload_n 0, 1) := by decide +kernel
theorem dX12_bought_32 : decode prog_13_method_54_code 32 = .ok (.iload_n 3, 1) := by decide +kernel
theorem dX12_bought_33 : decode prog_13_method_54_code 33 = .ok (.aload_n 0, 1) := by decide +kernel
theorem dX12_bought_34 : decode prog_13_method_54_code 34 = .ok (.getfield 409, 3) := by decide +kernel
theorem dX12_bought_37 : decode prog_13_method_54_code 37 = .ok (.getfield 366, 3) := by decide +kernel
theorem dX12_bought_40 : decode prog_13_method_54_code 40 = .ok (.iload 4, 2) := by decide +kernel
theorem dX12_bought_42 : decode prog_13_method_54_code 42 = .ok (.iaload, 1) := by decide +kernel
theorem dX12_bought_43 : decode prog_13_method_54_code 43 = .ok (.aload_n 0, 1) := by decide +kernel
theorem dX12_bought_44 : decode prog_13_method_54_code 44 = .ok (.getfield 409, 3) := by decide +kernel
theorem dX12_bought_47 : decode prog_13_method_54_code 47 = .ok (.getfield 369, 3) := by decide +kernel
theorem dX12_bought_50 : decode prog_13_method_54_code 50 = .ok (.iload 4, 2) := by decide +kernel
theorem dX12_bought_52 : decode prog_13_method_54_code 52 = .ok (.iaload, 1) := by decide +kernel
theorem dX12_bought_53 : decode prog_13_method_54_code 53 = .ok (.aload_n 0, 1) := by decide +kernel
theorem dX12_bought_54 : decode prog_13_method_54_code 54 = .ok (.getfield 409, 3) := by decide +kernel
theorem dX12_bought_57 : decode prog_13_method_54_code 57 = .ok (.getfield 372, 3) := by decide +kernel
theorem dX12_bought_60 : decode prog_13_method_54_code 60 = .ok (.iload 4, 2) := by decide +kernel
theorem dX12_bought_62 : decode prog_13_method_54_code 62 = .ok (.iaload, 1) := by decide +kernel
theorem dX12_bought_63 : decode prog_13_method_54_code 63 = .ok (.iload_n 2, 1) := by decide +kernel
theorem dX12_bought_64 : decode prog_13_method_54_code 64 = .ok (.invokevirtual 481, 3) := by decide +kernel
theorem dX12_bought_67 : decode prog_13_method_54_code 67 = .ok (.istore_n 3, 1) := by decide +kernel
theorem dX12_bought_68 : decode prog_13_method_54_code 68 = .ok (.iinc 4 1, 3) := by decide +kernel
theorem dX12_bought_71 : decode prog_13_method_54_code 71 = .ok (.goto (-66), 3) := by decide +kernel
theorem dX12_bought_74 : decode prog_13_method_54_code 74 = .ok (.iconst 0, 1) := by decide +kernel
theorem dX12_bought_75 : decode prog_13_method_54_code 75 = .ok (.istore 4, 2) := by decide +kernel
theorem dX12_bought_77 : decode prog_13_method_54_code 77 = .ok (.iload 4, 2) := by decide +kernel
theorem dX12_bought_79 : decode prog_13_method_54_code 79 = .ok (.aload_n 0, 1) := by decide +kernel
theorem dX12_bought_80 : decode prog_13_method_54_code 80 = .ok (.getfield 17, 3) := by decide +kernel
theorem dX12_bought_83 : decode prog_13_method_54_code 83 = .ok (.bipush 12, 2) := by decide +kernel
theorem dX12_bought_85 : decode prog_13_method_54_code 85 = .ok (.iaload, 1) := by decide +kernel
theorem dX12_bought_86 : decode prog_13_method_54_code 86 = .ok (.if_icmp .ge 74, 3) := by decide +kernel
theorem dX12_bought_89 : decode prog_13_method_54_code 89 = .ok (.aload_n 0, 1) := by decide +kernel
theorem dX12_bought_90 : decode prog_13_method_54_code 90 = .ok (.getfield 17, 3) := by decide +kernel
theorem dX12_bought_93 : decode prog_13_method_54_code 93 = .ok (.bipush 13, 2) := by decide +kernel
theorem dX12_bought_95 : decode prog_13_method_54_code 95 = .ok (.iconst 4, 1) := by decide +kernel
theorem dX12_bought_96 : decode prog_13_method_54_code 96 = .ok (.iload 4, 2) := by decide +kernel
theorem dX12_bought_98 : decode prog_13_method_54_code 98 = .ok (.imul, 1) := by decide +kernel
theorem dX12_bought_99 : decode prog_13_method_54_code 99 = .ok (.iadd, 1) := by decide +kernel
theorem dX12_bought_100 : decode prog_13_method_54_code 100 = .ok (.iaload, 1) := by decide +kernel
theorem dX12_bought_101 : decode prog_13_method_54_code 101 = .ok (.iload_n 2, 1) := by decide +kernel
theorem dX12_bought_102 : decode prog_13_method_54_code 102 = .ok (.if_icmp .ne 52, 3) := by decide +kernel
theorem dX12_bought_105 : decode prog_13_method_54_code 105 = .ok (.aload_n 0, 1) := by decide +kernel
theorem dX12_bought_106 : decode prog_13_method_54_code 106 = .ok (.iload_n 3, 1) := by decide +kernel
theorem dX12_bought_107 : decode prog_13_method_54_code 107 = .ok (.aload_n 0, 1) := by decide +kernel
theorem dX12_bought_108 : decode prog_13_method_54_code 108 = .ok (.getfield 17, 3) := by decide +kernel
theorem dX12_bought_111 : decode prog_13_method_54_code 111 = .ok (.bipush 13, 2) := by decide +kernel
theorem dX12_bought_113 : decode prog_13_method_54_code 113 = .ok (.iconst 4, 1) := by decide +kernel
theorem dX12_bought_114 : decode prog_13_method_54_code 114 = .ok (.iload 4, 2) := by decide +kernel
theorem dX12_bought_116 : decode prog_13_method_54_code 116 = .ok (.imul, 1) := by decide +kernel
theorem dX12_bought_117 : decode prog_13_method_54_code 117 = .ok (.iadd, 1) := by decide +kernel
theorem dX12_bought_118 : decode prog_13_method_54_code 118 = .ok (.iconst 1, 1) := by decide +kernel
theorem dX12_bought_119 : decode prog_13_method_54_code 119 = .ok (.iadd, 1) := by decide +kernel
theorem dX12_bought_120 : decode prog_13_method_54_code 120 = .ok (.iaload, 1) := by decide +kernel
theorem dX12_bought_121 : decode prog_13_method_54_code 121 = .ok (.aload_n 0, 1) := by decide +kernel
theorem dX12_bought_122 : decode prog_13_method_54_code 122 = .ok (.getfield 17, 3) := by decide +kernel
theorem dX12_bought_125 : decode prog_13_method_54_code 125 = .ok (.bipush 13, 2) := by decide +kernel
theorem dX12_bought_127 : decode prog_13_method_54_code 127 = .ok (.iconst 4, 1) := by decide +kernel
theorem dX12_bought_128 : decode prog_13_method_54_code 128 = .ok (.iload 4, 2) := by decide +kernel
theorem dX12_bought_130 : decode prog_13_method_54_code 130 = .ok (.imul, 1) := by decide +kernel
theorem dX12_bought_131 : decode prog_13_method_54_code 131 = .ok (.iadd, 1) := by decide +kernel
theorem dX12_bought_132 : decode prog_13_method_54_code 132 = .ok (.iconst 2, 1) := by decide +kernel
theorem dX12_bought_133 : decode prog_13_method_54_code 133 = .ok (.iadd, 1) := by decide +kernel
theorem dX12_bought_134 : decode prog_13_method_54_code 134 = .ok (.iaload, 1) := by decide +kernel
theorem dX12_bought_135 : decode prog_13_method_54_code 135 = .ok (.aload_n 0, 1) := by decide +kernel
theorem dX12_bought_136 : decode prog_13_method_54_code 136 = .ok (.getfield 17, 3) := by decide +kernel
theorem dX12_bought_139 : decode prog_13_method_54_code 139 = .ok (.bipush 13, 2) := by decide +kernel
theorem dX12_bought_141 : decode prog_13_method_54_code 141 = .ok (.iconst 4, 1) := by decide +kernel
theorem dX12_bought_142 : decode prog_13_method_54_code 142 = .ok (.iload 4, 2) := by decide +kernel
theorem dX12_bought_144 : decode prog_13_method_54_code 144 = .ok (.imul, 1) := by decide +kernel
theorem dX12_bought_145 : decode prog_13_method_54_code 145 = .ok (.iadd, 1) := by decide +kernel
theorem dX12_bought_146 : decode prog_13_method_54_code 146 = .ok (.iconst 3, 1) := by decide +kernel
theorem dX12_bought_147 : decode prog_13_method_54_code 147 = .ok (.iadd, 1) := by decide +kernel
theorem dX12_bought_148 : decode prog_13_method_54_code 148 = .ok (.iaload, 1) := by decide +kernel
theorem dX12_bought_149 : decode prog_13_method_54_code 149 = .ok (.iload_n 2, 1) := by decide +kernel
theorem dX12_bought_150 : decode prog_13_method_54_code 150 = .ok (.invokevirtual 481, 3) := by decide +kernel
theorem dX12_bought_153 : decode prog_13_method_54_code 153 = .ok (.istore_n 3, 1) := by decide +kernel
theorem dX12_bought_154 : decode prog_13_method_54_code 154 = .ok (.iinc 4 1, 3) := by decide +kernel
theorem dX12_bought_157 : decode prog_13_method_54_code 157 = .ok (.goto (-80), 3) := by decide +kernel
theorem dX12_bought_160 : decode prog_13_method_54_code 160 = .ok (.iload_n 3, 1) := by decide +kernel
theorem dX12_bought_161 : decode prog_13_method_54_code 161 = .ok (.ireturn, 1) := by decide +kernel
theorem dX12_sold_0 : decode prog_13_method_55_code 0 = .ok (.iload_n 1, 1) := by decide +kernel
theorem dX12_sold_1 : decode prog_13_method_55_code 1 = .ok (.iload_n 2, 1) := by decide +kernel
theorem dX12_sold_2 : decode prog_13_method_55_code 2 = .ok (.if_icmp .ne 17, 3) := by decide +kernel
theorem dX12_sold_5 : decode prog_13_method_55_code 5 = .ok (.aload_n 0, 1) := by decide +kernel
theorem dX12_sold_6 : decode prog_13_method_55_code 6 = .ok (.getfield 33, 3) := by decide +kernel
theorem dX12_sold_9 : decode prog_13_method_55_code 9 = .ok (.iload 5, 2) := by decide +kernel
theorem dX12_sold_11 : decode prog_13_method_55_code 11 = .ok (.iaload, 1) := by decide +kernel
theorem dX12_sold_12 : decode prog_13_method_55_code 12 = .ok (.iload_n 3, 1) := by decide +kernel
theorem dX12_sold_13 : decode prog_13_method_55_code 13 = .ok (.invokestatic 386, 3) := by decide +kernel
theorem dX12_sold_16 : decode prog_13_method_55_code 16 = .ok (.ifCond .ne 5, 3) := by decide +kernel
theorem dX12_sold_19 : decode prog_13_method_55_code 19 = .ok (.iload_n 1, 1) := by decide +kernel
theorem dX12_sold_20 : decode prog_13_method_55_code 20 = .ok (.ireturn, 1) := by decide +kernel
theorem dX12_sold_21 : decode prog_13_method_55_code 21 = .ok (.aload_n 0, 1) := by decide +kernel
theorem dX12_sold_22 : decode prog_13_method_55_code 22 = .ok (.getfield 67, 3) := by decide +kernel
theorem dX12_sold_25 : decode prog_13_method_55_code 25 = .ok (.iload_n 2, 1) := by decide +kernel
theorem dX12_sold_26 : decode prog_13_method_55_code 26 = .ok (.dup2, 1) := by decide +kernel
theorem dX12_sold_27 : decode prog_13_method_55_code 27 = .ok (.iaload, 1) := by decide +kernel
theorem dX12_sold_28 : decode prog_13_method_55_code 28 = .ok (.iload 4, 2) := by decide +kernel
theorem dX12_sold_30 : decode prog_13_method_55_code 30 = .ok (.isub, 1) := by decide +kernel
theorem dX12_sold_31 : decode prog_13_method_55_code 31 = .ok (.iastore, 1) := by decide +kernel
theorem dX12_sold_32 : decode prog_13_method_55_code 32 = .ok (.aload_n 0, 1) := by decide +kernel
theorem dX12_sold_33 : decode prog_13_method_55_code 33 = .ok (.getfield 67, 3) := by decide +kernel
theorem dX12_sold_36 : decode prog_13_method_55_code 36 = .ok (.iload_n 3, 1) := by decide +kernel
theorem dX12_sold_37 : decode prog_13_method_55_code 37 = .ok (.dup2, 1) := by decide +kernel
theorem dX12_sold_38 : decode prog_13_method_55_code 38 = .ok (.iaload, 1) := by decide +kernel
theorem dX12_sold_39 : decode prog_13_method_55_code 39 = .ok (.iload 4, 2) := by decide +kernel
theorem dX12_sold_41 : decode prog_13_method_55_code 41 = .ok (.iadd, 1) := by decide +kernel
theorem dX12_sold_42 : decode prog_13_method_55_code 42 = .ok (.iastore, 1) := by decide +kernel
theorem dX12_sold_43 : decode prog_13_method_55_code 43 = .ok (.iload_n 3, 1) := by decide +kernel
theorem dX12_sold_44 : decode prog_13_method_55_code 44 = .ok (.ireturn, 1) := by decide +kernel
theorem dX12_lawful_0 : decode prog_13_method_56_code 0 = .ok (.aload_n 0, 1) := by decide +kernel
theorem dX12_lawful_1 : decode prog_13_method_56_code 1 = .ok (.getfield 430, 3) := by decide +kernel
theorem dX12_lawful_4 : decode prog_13_method_56_code 4 = .ok (.ifCond .ne 61, 3) := by decide +kernel
theorem dX12_lawful_7 : decode prog_13_method_56_code 7 = .ok (.aload_n 0, 1) := by decide +kernel
theorem dX12_lawful_8 : decode prog_13_method_56_code 8 = .ok (.getfield 443, 3) := by decide +kernel
theorem dX12_lawful_11 : decode prog_13_method_56_code 11 = .ok (.bipush (-2), 2) := by decide +kernel
theorem dX12_lawful_13 : decode prog_13_method_56_code 13 = .ok (.if_icmp .ne 7, 3) := by decide +kernel
theorem dX12_lawful_16 : decode prog_13_method_56_code 16 = .ok (.iconst 0, 1) := by decide +kernel
theorem dX12_lawful_17 : decode prog_13_method_56_code 17 = .ok (.goto 17, 3) := by decide +kernel
theorem dX12_lawful_20 : decode prog_13_method_56_code 20 = .ok (.aload_n 0, 1) := by decide +kernel
theorem dX12_lawful_21 : decode prog_13_method_56_code 21 = .ok (.getfield 443, 3) := by decide +kernel
theorem dX12_lawful_24 : decode prog_13_method_56_code 24 = .ok (.iconst 1, 1) := by decide +kernel
theorem dX12_lawful_25 : decode prog_13_method_56_code 25 = .ok (.iadd, 1) := by decide +kernel
theorem dX12_lawful_26 : decode prog_13_method_56_code 26 = .ok (.aload_n 0, 1) := by decide +kernel
theorem dX12_lawful_27 : decode prog_13_method_56_code 27 = .ok (.getfield 409, 3) := by decide +kernel
theorem dX12_lawful_30 : decode prog_13_method_56_code 30 = .ok (.getfield 230, 3) := by decide +kernel
theorem dX12_lawful_33 : decode prog_13_method_56_code 33 = .ok (.irem, 1) := by decide +kernel
theorem dX12_lawful_34 : decode prog_13_method_56_code 34 = .ok (.istore_n 2, 1) := by decide +kernel
theorem dX12_lawful_35 : decode prog_13_method_56_code 35 = .ok (.aload_n 0, 1) := by decide +kernel
theorem dX12_lawful_36 : decode prog_13_method_56_code 36 = .ok (.getfield 33, 3) := by decide +kernel
theorem dX12_lawful_39 : decode prog_13_method_56_code 39 = .ok (.iload_n 1, 1) := by decide +kernel
theorem dX12_lawful_40 : decode prog_13_method_56_code 40 = .ok (.iaload, 1) := by decide +kernel
theorem dX12_lawful_41 : decode prog_13_method_56_code 41 = .ok (.iload_n 2, 1) := by decide +kernel
theorem dX12_lawful_42 : decode prog_13_method_56_code 42 = .ok (.invokestatic 386, 3) := by decide +kernel
theorem dX12_lawful_45 : decode prog_13_method_56_code 45 = .ok (.ifCond .ne 18, 3) := by decide +kernel
theorem dX12_lawful_48 : decode prog_13_method_56_code 48 = .ok (.iload_n 2, 1) := by decide +kernel
theorem dX12_lawful_49 : decode prog_13_method_56_code 49 = .ok (.iconst 1, 1) := by decide +kernel
theorem dX12_lawful_50 : decode prog_13_method_56_code 50 = .ok (.iadd, 1) := by decide +kernel
theorem dX12_lawful_51 : decode prog_13_method_56_code 51 = .ok (.aload_n 0, 1) := by decide +kernel
theorem dX12_lawful_52 : decode prog_13_method_56_code 52 = .ok (.getfield 409, 3) := by decide +kernel
theorem dX12_lawful_55 : decode prog_13_method_56_code 55 = .ok (.getfield 230, 3) := by decide +kernel
theorem dX12_lawful_58 : decode prog_13_method_56_code 58 = .ok (.irem, 1) := by decide +kernel
theorem dX12_lawful_59 : decode prog_13_method_56_code 59 = .ok (.istore_n 2, 1) := by decide +kernel
theorem dX12_lawful_60 : decode prog_13_method_56_code 60 = .ok (.goto (-25), 3) := by decide +kernel
theorem dX12_lawful_63 : decode prog_13_method_56_code 63 = .ok (.iload_n 2, 1) := by decide +kernel
theorem dX12_lawful_64 : decode prog_13_method_56_code 64 = .ok (.ireturn, 1) := by decide +kernel
theorem dX12_lawful_65 : decode prog_13_method_56_code 65 = .ok (.aload_n 0, 1) := by decide +kernel
theorem dX12_lawful_66 : decode prog_13_method_56_code 66 = .ok (.getfield 430, 3) := by decide +kernel
theorem dX12_lawful_69 : decode prog_13_method_56_code 69 = .ok (.iconst 4, 1) := by decide +kernel
theorem dX12_lawful_70 : decode prog_13_method_56_code 70 = .ok (.if_icmp .ne 9, 3) := by decide +kernel
theorem dX12_lawful_73 : decode prog_13_method_56_code 73 = .ok (.aload_n 0, 1) := by decide +kernel
theorem dX12_lawful_74 : decode prog_13_method_56_code 74 = .ok (.iload_n 1, 1) := by decide +kernel
theorem dX12_lawful_75 : decode prog_13_method_56_code 75 = .ok (.invokevirtual 485, 3) := by decide +kernel
theorem dX12_lawful_78 : decode prog_13_method_56_code 78 = .ok (.ireturn, 1) := by decide +kernel
theorem dX12_lawful_79 : decode prog_13_method_56_code 79 = .ok (.aload_n 0, 1) := by decide +kernel
theorem dX12_lawful_80 : decode prog_13_method_56_code 80 = .ok (.getfield 430, 3) := by decide +kernel
theorem dX12_lawful_83 : decode prog_13_method_56_code 83 = .ok (.iconst 3, 1) := by decide +kernel
theorem dX12_lawful_84 : decode prog_13_method_56_code 84 = .ok (.if_icmp .ne 9, 3) := by decide +kernel
theorem dX12_lawful_87 : decode prog_13_method_56_code 87 = .ok (.aload_n 0, 1) := by decide +kernel
theorem dX12_lawful_88 : decode prog_13_method_56_code 88 = .ok (.iload_n 1, 1) := by decide +kernel
theorem dX12_lawful_89 : decode prog_13_method_56_code 89 = .ok (.invokevirtual 488, 3) := by decide +kernel
theorem dX12_lawful_92 : decode prog_13_method_56_code 92 = .ok (.ireturn, 1) := by decide +kernel
theorem dX12_lawful_93 : decode prog_13_method_56_code 93 = .ok (.aload_n 0, 1) := by decide +kernel
theorem dX12_lawful_94 : decode prog_13_method_56_code 94 = .ok (.aload_n 0, 1) := by decide +kernel
theorem dX12_lawful_95 : decode prog_13_method_56_code 95 = .ok (.getfield 33, 3) := by decide +kernel
theorem dX12_lawful_98 : decode prog_13_method_56_code 98 = .ok (.iload_n 1, 1) := by decide +kernel
theorem dX12_lawful_99 : decode prog_13_method_56_code 99 = .ok (.iaload, 1) := by decide +kernel
theorem dX12_lawful_100 : decode prog_13_method_56_code 100 = .ok (.iload_n 1, 1) := by decide +kernel
theorem dX12_lawful_101 : decode prog_13_method_56_code 101 = .ok (.aload_n 0, 1) := by decide +kernel
theorem dX12_lawful_102 : decode prog_13_method_56_code 102 = .ok (.getfield 430, 3) := by decide +kernel
theorem dX12_lawful_105 : decode prog_13_method_56_code 105 = .ok (.iconst 2, 1) := by decide +kernel
theorem dX12_lawful_106 : decode prog_13_method_56_code 106 = .ok (.if_icmp .ne 7, 3) := by decide +kernel
theorem dX12_lawful_109 : decode prog_13_method_56_code 109 = .ok (.iconst 1, 1) := by decide +kernel
theorem dX12_lawful_110 : decode prog_13_method_56_code 110 = .ok (.goto 4, 3) := by decide +kernel
theorem dX12_lawful_113 : decode prog_13_method_56_code 113 = .ok (.iconst 0, 1) := by decide +kernel
theorem dX12_lawful_114 : decode prog_13_method_56_code 114 = .ok (.invokevirtual 491, 3) := by decide +kernel
theorem dX12_lawful_117 : decode prog_13_method_56_code 117 = .ok (.ireturn, 1) := by decide +kernel
theorem dX12_foremost_0 : decode prog_13_method_57_code 0 = .ok (.bipush (-2), 2) := by decide +kernel
theorem dX12_foremost_2 : decode prog_13_method_57_code 2 = .ok (.istore 4, 2) := by decide +kernel
theorem dX12_foremost_4 : decode prog_13_method_57_code 4 = .ok (.iconst 0, 1) := by decide +kernel
theorem dX12_foremost_5 : decode prog_13_method_57_code 5 = .ok (.istore 5, 2) := by decide +kernel
theorem dX12_foremost_7 : decode prog_13_method_57_code 7 = .ok (.iload 5, 2) := by decide +kernel
theorem dX12_foremost_9 : decode prog_13_method_57_code 9 = .ok (.aload_n 0, 1) := by decide +kernel
theorem dX12_foremost_10 : decode prog_13_method_57_code 10 = .ok (.getfield 409, 3) := by decide +kernel
theorem dX12_foremost_13 : decode prog_13_method_57_code 13 = .ok (.getfield 230, 3) := by decide +kernel
theorem dX12_foremost_16 : decode prog_13_method_57_code 16 = .ok (.if_icmp .ge 144, 3) := by decide +kernel
theorem dX12_foremost_19 : decode prog_13_method_57_code 19 = .ok (.iload_n 1, 1) := by decide +kernel
theorem dX12_foremost_20 : decode prog_13_method_57_code 20 = .ok (.iload 5, 2) := by decide +kernel
theorem dX12_foremost_22 : decode prog_13_method_57_code 22 = .ok (.invokestatic 386, 3) := by decide +kernel
theorem dX12_foremost_25 : decode prog_13_method_57_code 25 = .ok (.ifCond .ne 6, 3) := by decide +kernel
theorem dX12_foremost_28 : decode prog_13_method_57_code 28 = .ok (.goto 126, 3) := by decide +kernel
theorem dX12_foremost_31 : decode prog_13_method_57_code 31 = .ok (.iload 4, 2) := by decide +kernel
theorem dX12_foremost_33 : decode prog_13_method_57_code 33 = .ok (.bipush (-2), 2) := by decide +kernel
theorem dX12_foremost_35 : decode prog_13_method_57_code 35 = .ok (.if_icmp .eq 18, 3) := by decide +kernel
theorem dX12_foremost_38 : decode prog_13_method_57_code 38 = .ok (.aload_n 0, 1) := by decide +kernel
theorem dX12_foremost_39 : decode prog_13_method_57_code 39 = .ok (.iload 5, 2) := by decide +kernel
theorem dX12_foremost_41 : decode prog_13_method_57_code 41 = .ok (.invokevirtual 495, 3) := by decide +kernel
theorem dX12_foremost_44 : decode prog_13_method_57_code 44 = .ok (.aload_n 0, 1) := by decide +kernel
theorem dX12_foremost_45 : decode prog_13_method_57_code 45 = .ok (.iload 4, 2) := by decide +kernel
theorem dX12_foremost_47 : decode prog_13_method_57_code 47 = .ok (.invokevirtual 495, 3) := by decide +kernel
theorem dX12_foremost_50 : decode prog_13_method_57_code 50 = .ok (.if_icmp .ge 7, 3) := by decide +kernel
theorem dX12_foremost_53 : decode prog_13_method_57_code 53 = .ok (.iconst 1, 1) := by decide +kernel
theorem dX12_foremost_54 : decode prog_13_method_57_code 54 = .ok (.goto 4, 3) := by decide +kernel
theorem dX12_foremost_57 : decode prog_13_method_57_code 57 = .ok (.iconst 0, 1) := by decide +kernel
theorem dX12_foremost_58 : decode prog_13_method_57_code 58 = .ok (.istore 6, 2) := by decide +kernel
theorem dX12_foremost_60 : decode prog_13_method_57_code 60 = .ok (.iload 6, 2) := by decide +kernel
theorem dX12_foremost_62 : decode prog_13_method_57_code 62 = .ok (.ifCond .ne 83, 3) := by decide +kernel
theorem dX12_foremost_65 : decode prog_13_method_57_code 65 = .ok (.aload_n 0, 1) := by decide +kernel
theorem dX12_foremost_66 : decode prog_13_method_57_code 66 = .ok (.iload 5, 2) := by decide +kernel
theorem dX12_foremost_68 : decode prog_13_method_57_code 68 = .ok (.invokevirtual 495, 3) := by decide +kernel
theorem dX12_foremost_71 : decode prog_13_method_57_code 71 = .ok (.aload_n 0, 1) := by decide +kernel
theorem dX12_foremost_72 : decode prog_13_method_57_code 72 = .ok (.iload 4, 2) := by decide +kernel
theorem dX12_foremost_74 : decode prog_13_method_57_code 74 = .ok (.invokevirtual 495, 3) := by decide +kernel
theorem dX12_foremost_77 : decode prog_13_method_57_code 77 = .ok (.if_icmp .ne 68, 3) := by decide +kernel
theorem dX12_foremost_80 : decode prog_13_method_57_code 80 = .ok (.iload_n 3, 1) := by decide +kernel
theorem dX12_foremost_81 : decode prog_13_method_57_code 81 = .ok (.ifCond .eq 34, 3) := by decide +kernel
theorem dX12_foremost_84 : decode prog_13_method_57_code 84 = .ok (.aload_n 0, 1) := by decide +kernel
theorem dX12_foremost_85 : decode prog_13_method_57_code 85 = .ok (.getfield 409, 3) := by decide +kernel
theorem dX12_foremost_88 : decode prog_13_method_57_code 88 = .ok (.iload 5, 2) := by decide +kernel
theorem dX12_foremost_90 : decode prog_13_method_57_code 90 = .ok (.iload_n 2, 1) := by decide +kernel
theorem dX12_foremost_91 : decode prog_13_method_57_code 91 = .ok (.invokevirtual 458, 3) := by decide +kernel
theorem dX12_foremost_94 : decode prog_13_method_57_code 94 = .ok (.aload_n 0, 1) := by decide +kernel
theorem dX12_foremost_95 : decode prog_13_method_57_code 95 = .ok (.getfield 409, 3) := by decide +kernel
theorem dX12_foremost_98 : decode prog_13_method_57_code 98 = .ok (.iload 4, 2) := by decide +kernel
theorem dX12_foremost_100 : decode prog_13_method_57_code 100 = .ok (.iload_n 2, 1) := by decide +kernel
theorem dX12_foremost_101 : decode prog_13_method_57_code 101 = .ok (.invokevirtual 458, 3) := by decide +kernel
theorem dX12_foremost_104 : decode prog_13_method_57_code 104 = .ok (.if_icmp .ge 7, 3) := by decide +kernel
theorem dX12_foremost_107 : decode prog_13_method_57_code 107 = .ok (.iconst 1, 1) := by decide +kernel
theorem dX12_foremost_108 : decode prog_13_method_57_code 108 = .ok (.goto 35, 3) := by decide +kernel
theorem dX12_foremost_111 : decode prog_13_method_57_code 111 = .ok (.iconst 0, 1) := by decide +kernel
theorem dX12_foremost_112 : decode prog_13_method_57_code 112 = .ok (.goto 31, 3) := by decide +kernel
theorem dX12_foremost_115 : decode prog_13_method_57_code 115 = .ok (.aload_n 0, 1) := by decide +kernel
theorem dX12_foremost_116 : decode prog_13_method_57_code 116 = .ok (.getfield 409, 3) := by decide +kernel
theorem dX12_foremost_119 : decode prog_13_method_57_code 119 = .ok (.iload 5, 2) := by decide +kernel
theorem dX12_foremost_121 : decode prog_13_method_57_code 121 = .ok (.iload_n 2, 1) := by decide +kernel
theorem dX12_foremost_122 : decode prog_13_method_57_code 122 = .ok (.invokevirtual 458, 3) := by decide +kernel
theorem dX12_foremost_125 : decode prog_13_method_57_code 125 = .ok (.aload_n 0, 1) := by decide +kernel
theorem dX12_foremost_126 : decode prog_13_method_57_code 126 = .ok (.getfield 409, 3) := by decide +kernel
theorem dX12_foremost_129 : decode prog_13_method_57_code 129 = .ok (.iload 4, 2) := by decide +kernel
theorem dX12_foremost_131 : decode prog_13_method_57_code 131 = .ok (.iload_n 2, 1) := by decide +kernel
theorem dX12_foremost_132 : decode prog_13_method_57_code 132 = .ok (.invokevirtual 458, 3) := by decide +kernel
theorem dX12_foremost_135 : decode prog_13_method_57_code 135 = .ok (.if_icmp .le 7, 3) := by decide +kernel
theorem dX12_foremost_138 : decode prog_13_method_57_code 138 = .ok (.iconst 1, 1) := by decide +kernel
theorem dX12_foremost_139 : decode prog_13_method_57_code 139 = .ok (.goto 4, 3) := by decide +kernel
theorem dX12_foremost_142 : decode prog_13_method_57_code 142 = .ok (.iconst 0, 1) := by decide +kernel
theorem dX12_foremost_143 : decode prog_13_method_57_code 143 = .ok (.istore 6, 2) := by decide +kernel
theorem dX12_foremost_145 : decode prog_13_method_57_code 145 = .ok (.iload 6, 2) := by decide +kernel
theorem dX12_foremost_147 : decode prog_13_method_57_code 147 = .ok (.ifCond .eq 7, 3) := by decide +kernel
theorem dX12_foremost_150 : decode prog_13_method_57_code 150 = .ok (.iload 5, 2) := by decide +kernel
theorem dX12_foremost_152 : decode prog_13_method_57_code 152 = .ok (.istore 4, 2) := by decide +kernel
theorem dX12_foremost_154 : decode prog_13_method_57_code 154 = .ok (.iinc 5 1, 3) := by decide +kernel
theorem dX12_foremost_157 : decode prog_13_method_57_code 157 = .ok (.goto (-150), 3) := by decide +kernel
theorem dX12_foremost_160 : decode prog_13_method_57_code 160 = .ok (.iload 4, 2) := by decide +kernel
theorem dX12_foremost_162 : decode prog_13_method_57_code 162 = .ok (.ireturn, 1) := by decide +kernel
theorem dX12_drawnOf_0 : decode prog_13_method_58_code 0 = .ok (.aload_n 0, 1) := by decide +kernel
theorem dX12_drawnOf_1 : decode prog_13_method_58_code 1 = .ok (.aload_n 0, 1) := by decide +kernel
theorem dX12_drawnOf_2 : decode prog_13_method_58_code 2 = .ok (.getfield 33, 3) := by decide +kernel
theorem dX12_drawnOf_5 : decode prog_13_method_58_code 5 = .ok (.iload_n 1, 1) := by decide +kernel
theorem dX12_drawnOf_6 : decode prog_13_method_58_code 6 = .ok (.iaload, 1) := by decide +kernel
theorem dX12_drawnOf_7 : decode prog_13_method_58_code 7 = .ok (.iload_n 1, 1) := by decide +kernel
theorem dX12_drawnOf_8 : decode prog_13_method_58_code 8 = .ok (.iconst 0, 1) := by decide +kernel
theorem dX12_drawnOf_9 : decode prog_13_method_58_code 9 = .ok (.invokevirtual 491, 3) := by decide +kernel
theorem dX12_drawnOf_12 : decode prog_13_method_58_code 12 = .ok (.istore_n 2, 1) := by decide +kernel
theorem dX12_drawnOf_13 : decode prog_13_method_58_code 13 = .ok (.iconst 0, 1) := by decide +kernel
theorem dX12_drawnOf_14 : decode prog_13_method_58_code 14 = .ok (.istore_n 3, 1) := by decide +kernel
theorem dX12_drawnOf_15 : decode prog_13_method_58_code 15 = .ok (.iconst 0, 1) := by decide +kernel
theorem dX12_drawnOf_16 : decode prog_13_method_58_code 16 = .ok (.istore 4, 2) := by decide +kernel
theorem dX12_drawnOf_18 : decode prog_13_method_58_code 18 = .ok (.iload 4, 2) := by decide +kernel
theorem dX12_drawnOf_20 : decode prog_13_method_58_code 20 = .ok (.aload_n 0, 1) := by decide +kernel
theorem dX12_drawnOf_21 : decode prog_13_method_58_code 21 = .ok (.getfield 409, 3) := by decide +kernel
theorem dX12_drawnOf_24 : decode prog_13_method_58_code 24 = .ok (.getfield 230, 3) := by decide +kernel
theorem dX12_drawnOf_27 : decode prog_13_method_58_code 27 = .ok (.if_icmp .ge 45, 3) := by decide +kernel
theorem dX12_drawnOf_30 : decode prog_13_method_58_code 30 = .ok (.iload_n 3, 1) := by decide +kernel
theorem dX12_drawnOf_31 : decode prog_13_method_58_code 31 = .ok (.aload_n 0, 1) := by decide +kernel
theorem dX12_drawnOf_32 : decode prog_13_method_58_code 32 = .ok (.getfield 33, 3) := by decide +kernel
theorem dX12_drawnOf_35 : decode prog_13_method_58_code 35 = .ok (.iload_n 1, 1) := by decide +kernel
theorem dX12_drawnOf_36 : decode prog_13_method_58_code 36 = .ok (.iaload, 1) := by decide +kernel
theorem dX12_drawnOf_37 : decode prog_13_method_58_code 37 = .ok (.iload 4, 2) := by decide +kernel
theorem dX12_drawnOf_39 : decode prog_13_method_58_code 39 = .ok (.invokestatic 386, 3) := by decide +kernel
theorem dX12_drawnOf_42 : decode prog_13_method_58_code 42 = .ok (.ifCond .eq 21, 3) := by decide +kernel
theorem dX12_drawnOf_45 : decode prog_13_method_58_code 45 = .ok (.aload_n 0, 1) := by decide +kernel
theorem dX12_drawnOf_46 : decode prog_13_method_58_code 46 = .ok (.iload 4, 2) := by decide +kernel
theorem dX12_drawnOf_48 : decode prog_13_method_58_code 48 = .ok (.invokevirtual 495, 3) := by decide +kernel
theorem dX12_drawnOf_51 : decode prog_13_method_58_code 51 = .ok (.aload_n 0, 1) := by decide +kernel
theorem dX12_drawnOf_52 : decode prog_13_method_58_code 52 = .ok (.iload_n 2, 1) := by decide +kernel
theorem dX12_drawnOf_53 : decode prog_13_method_58_code 53 = .ok (.invokevirtual 495, 3) := by decide +kernel
theorem dX12_drawnOf_56 : decode prog_13_method_58_code 56 = .ok (.if_icmp .ne 7, 3) := by decide +kernel
theorem dX12_drawnOf_59 : decode prog_13_method_58_code 59 = .ok (.iconst 1, 1) := by decide +kernel
theorem dX12_drawnOf_60 : decode prog_13_method_58_code 60 = .ok (.goto 4, 3) := by decide +kernel
theorem dX12_drawnOf_63 : decode prog_13_method_58_code 63 = .ok (.iconst 0, 1) := by decide +kernel
theorem dX12_drawnOf_64 : decode prog_13_method_58_code 64 = .ok (.iadd, 1) := by decide +kernel
theorem dX12_drawnOf_65 : decode prog_13_method_58_code 65 = .ok (.istore_n 3, 1) := by decide +kernel
theorem dX12_drawnOf_66 : decode prog_13_method_58_code 66 = .ok (.iinc 4 1, 3) := by decide +kernel
theorem dX12_drawnOf_69 : decode prog_13_method_58_code 69 = .ok (.goto (-51), 3) := by decide +kernel
theorem dX12_drawnOf_72 : decode prog_13_method_58_code 72 = .ok (.aload_n 0, 1) := by decide +kernel
theorem dX12_drawnOf_73 : decode prog_13_method_58_code 73 = .ok (.ldc2_w 498, 3) := by decide +kernel
theorem dX12_drawnOf_76 : decode prog_13_method_58_code 76 = .ok (.aload_n 0, 1) := by decide +kernel
theorem dX12_drawnOf_77 : decode prog_13_method_58_code 77 = .ok (.getfield 431, 3) := by decide +kernel
theorem dX12_drawnOf_80 : decode prog_13_method_58_code 80 = .ok (.i2l, 1) := by decide +kernel
theorem dX12_drawnOf_81 : decode prog_13_method_58_code 81 = .ok (.lmul, 1) := by decide +kernel
theorem dX12_drawnOf_82 : decode prog_13_method_58_code 82 = .ok (.ldc2_w 500, 3) := by decide +kernel
theorem dX12_drawnOf_85 : decode prog_13_method_58_code 85 = .ok (.ladd, 1) := by decide +kernel
theorem dX12_drawnOf_86 : decode prog_13_method_58_code 86 = .ok (.ldc2_w 502, 3) := by decide +kernel
theorem dX12_drawnOf_89 : decode prog_13_method_58_code 89 = .ok (.lrem, 1) := by decide +kernel
theorem dX12_drawnOf_90 : decode prog_13_method_58_code 90 = .ok (.l2i, 1) := by decide +kernel
theorem dX12_drawnOf_91 : decode prog_13_method_58_code 91 = .ok (.putfield 431, 3) := by decide +kernel
theorem dX12_drawnOf_94 : decode prog_13_method_58_code 94 = .ok (.aload_n 0, 1) := by decide +kernel
theorem dX12_drawnOf_95 : decode prog_13_method_58_code 95 = .ok (.getfield 431, 3) := by decide +kernel
theorem dX12_drawnOf_98 : decode prog_13_method_58_code 98 = .ok (.iload_n 3, 1) := by decide +kernel
theorem dX12_drawnOf_99 : decode prog_13_method_58_code 99 = .ok (.irem, 1) := by decide +kernel
theorem dX12_drawnOf_100 : decode prog_13_method_58_code 100 = .ok (.istore 4, 2) := by decide +kernel
theorem dX12_drawnOf_102 : decode prog_13_method_58_code 102 = .ok (.iconst 0, 1) := by decide +kernel
theorem dX12_drawnOf_103 : decode prog_13_method_58_code 103 = .ok (.istore 5, 2) := by decide +kernel
theorem dX12_drawnOf_105 : decode prog_13_method_58_code 105 = .ok (.aload_n 0, 1) := by decide +kernel
theorem dX12_drawnOf_106 : decode prog_13_method_58_code 106 = .ok (.getfield 33, 3) := by decide +kernel
theorem dX12_drawnOf_109 : decode prog_13_method_58_code 109 = .ok (.iload_n 1, 1) := by decide +kernel
theorem dX12_drawnOf_110 : decode prog_13_method_58_code 110 = .ok (.iaload, 1) := by decide +kernel
theorem dX12_drawnOf_111 : decode prog_13_method_58_code 111 = .ok (.iload 5, 2) := by decide +kernel
theorem dX12_drawnOf_113 : decode prog_13_method_58_code 113 = .ok (.invokestatic 386, 3) := by decide +kernel
theorem dX12_drawnOf_116 : decode prog_13_method_58_code 116 = .ok (.ifCond .eq 22, 3) := by decide +kernel
theorem dX12_drawnOf_119 : decode prog_13_method_58_code 119 = .ok (.aload_n 0, 1) := by decide +kernel
theorem dX12_drawnOf_120 : decode prog_13_method_58_code 120 = .ok (.iload 5, 2) := by decide +kernel
theorem dX12_drawnOf_122 : decode prog_13_method_58_code 122 = .ok (.invokevirtual 495, 3) := by decide +kernel
theorem dX12_drawnOf_125 : decode prog_13_method_58_code 125 = .ok (.aload_n 0, 1) := by decide +kernel
theorem dX12_drawnOf_126 : decode prog_13_method_58_code 126 = .ok (.iload_n 2, 1) := by decide +kernel
theorem dX12_drawnOf_127 : decode prog_13_method_58_code 127 = .ok (.invokevirtual 495, 3) := by decide +kernel
theorem dX12_drawnOf_130 : decode prog_13_method_58_code 130 = .ok (.if_icmp .ne 8, 3) := by decide +kernel
theorem dX12_drawnOf_133 : decode prog_13_method_58_code 133 = .ok (.iload 4, 2) := by decide +kernel
theorem dX12_drawnOf_135 : decode prog_13_method_58_code 135 = .ok (.ifCond .le 47, 3) := by decide +kernel
theorem dX12_drawnOf_138 : decode prog_13_method_58_code 138 = .ok (.iload 4, 2) := by decide +kernel
theorem dX12_drawnOf_140 : decode prog_13_method_58_code 140 = .ok (.aload_n 0, 1) := by decide +kernel
theorem dX12_drawnOf_141 : decode prog_13_method_58_code 141 = .ok (.getfield 33, 3) := by decide +kernel
theorem dX12_drawnOf_144 : decode prog_13_method_58_code 144 = .ok (.iload_n 1, 1) := by decide +kernel
theorem dX12_drawnOf_145 : decode prog_13_method_58_code 145 = .ok (.iaload, 1) := by decide +kernel
theorem dX12_drawnOf_146 : decode prog_13_method_58_code 146 = .ok (.iload 5, 2) := by decide +kernel
theorem dX12_drawnOf_148 : decode prog_13_method_58_code 148 = .ok (.invokestatic 386, 3) := by decide +kernel
theorem dX12_drawnOf_151 : decode prog_13_method_58_code 151 = .ok (.ifCond .eq 21, 3) := by decide +kernel
theorem dX12_drawnOf_154 : decode prog_13_method_58_code 154 = .ok (.aload_n 0, 1) := by decide +kernel
theorem dX12_drawnOf_155 : decode prog_13_method_58_code 155 = .ok (.iload 5, 2) := by decide +kernel
theorem dX12_drawnOf_157 : decode prog_13_method_58_code 157 = .ok (.invokevirtual 495, 3) := by decide +kernel
theorem dX12_drawnOf_160 : decode prog_13_method_58_code 160 = .ok (.aload_n 0, 1) := by decide +kernel
theorem dX12_drawnOf_161 : decode prog_13_method_58_code 161 = .ok (.iload_n 2, 1) := by decide +kernel
theorem dX12_drawnOf_162 : decode prog_13_method_58_code 162 = .ok (.invokevirtual 495, 3) := by decide +kernel
theorem dX12_drawnOf_165 : decode prog_13_method_58_code 165 = .ok (.if_icmp .ne 7, 3) := by decide +kernel
theorem dX12_drawnOf_168 : decode prog_13_method_58_code 168 = .ok (.iconst 1, 1) := by decide +kernel
theorem dX12_drawnOf_169 : decode prog_13_method_58_code 169 = .ok (.goto 4, 3) := by decide +kernel
theorem dX12_drawnOf_172 : decode prog_13_method_58_code 172 = .ok (.iconst 0, 1) := by decide +kernel
theorem dX12_drawnOf_173 : decode prog_13_method_58_code 173 = .ok (.isub, 1) := by decide +kernel
theorem dX12_drawnOf_174 : decode prog_13_method_58_code 174 = .ok (.istore 4, 2) := by decide +kernel
theorem dX12_drawnOf_176 : decode prog_13_method_58_code 176 = .ok (.iinc 5 1, 3) := by decide +kernel
theorem dX12_drawnOf_179 : decode prog_13_method_58_code 179 = .ok (.goto (-74), 3) := by decide +kernel
theorem dX12_drawnOf_182 : decode prog_13_method_58_code 182 = .ok (.iload 5, 2) := by decide +kernel
theorem dX12_drawnOf_184 : decode prog_13_method_58_code 184 = .ok (.ireturn, 1) := by decide +kernel
theorem dX12_branchOf_0 : decode prog_13_method_59_code 0 = .ok (.iconst 0, 1) := by decide +kernel
theorem dX12_branchOf_1 : decode prog_13_method_59_code 1 = .ok (.istore_n 3, 1) := by decide +kernel
theorem dX12_branchOf_2 : decode prog_13_method_59_code 2 = .ok (.iconst 0, 1) := by decide +kernel
theorem dX12_branchOf_3 : decode prog_13_method_59_code 3 = .ok (.istore 4, 2) := by decide +kernel
theorem dX12_branchOf_5 : decode prog_13_method_59_code 5 = .ok (.iload 4, 2) := by decide +kernel
theorem dX12_branchOf_7 : decode prog_13_method_59_code 7 = .ok (.aload_n 0, 1) := by decide +kernel
theorem dX12_branchOf_8 : decode prog_13_method_59_code 8 = .ok (.getfield 409, 3) := by decide +kernel
theorem dX12_branchOf_11 : decode prog_13_method_59_code 11 = .ok (.getfield 230, 3) := by decide +kernel
theorem dX12_branchOf_14 : decode prog_13_method_59_code 14 = .ok (.if_icmp .ge 43, 3) := by decide +kernel
theorem dX12_branchOf_17 : decode prog_13_method_59_code 17 = .ok (.iload_n 3, 1) := by decide +kernel
theorem dX12_branchOf_18 : decode prog_13_method_59_code 18 = .ok (.iload_n 1, 1) := by decide +kernel
theorem dX12_branchOf_19 : decode prog_13_method_59_code 19 = .ok (.iload 4, 2) := by decide +kernel
theorem dX12_branchOf_21 : decode prog_13_method_59_code 21 = .ok (.invokestatic 386, 3) := by decide +kernel
theorem dX12_branchOf_24 : decode prog_13_method_59_code 24 = .ok (.ifCond .eq 24, 3) := by decide +kernel
theorem dX12_branchOf_27 : decode prog_13_method_59_code 27 = .ok (.aload_n 0, 1) := by decide +kernel
theorem dX12_branchOf_28 : decode prog_13_method_59_code 28 = .ok (.getfield 409, 3) := by decide +kernel
theorem dX12_branchOf_31 : decode prog_13_method_59_code 31 = .ok (.getfield 326, 3) := by decide +kernel
theorem dX12_branchOf_34 : decode prog_13_method_59_code 34 = .ok (.iload 4, 2) := by decide +kernel
theorem dX12_branchOf_36 : decode prog_13_method_59_code 36 = .ok (.iaload, 1) := by decide +kernel
theorem dX12_branchOf_37 : decode prog_13_method_59_code 37 = .ok (.iload_n 2, 1) := by decide +kernel
theorem dX12_branchOf_38 : decode prog_13_method_59_code 38 = .ok (.if_icmp .ne 10, 3) := by decide +kernel
theorem dX12_branchOf_41 : decode prog_13_method_59_code 41 = .ok (.iconst 1, 1) := by decide +kernel
theorem dX12_branchOf_42 : decode prog_13_method_59_code 42 = .ok (.iload 4, 2) := by decide +kernel
theorem dX12_branchOf_44 : decode prog_13_method_59_code 44 = .ok (.ishl, 1) := by decide +kernel
theorem dX12_branchOf_45 : decode prog_13_method_59_code 45 = .ok (.goto 4, 3) := by decide +kernel
theorem dX12_branchOf_48 : decode prog_13_method_59_code 48 = .ok (.iconst 0, 1) := by decide +kernel
theorem dX12_branchOf_49 : decode prog_13_method_59_code 49 = .ok (.ior, 1) := by decide +kernel
theorem dX12_branchOf_50 : decode prog_13_method_59_code 50 = .ok (.istore_n 3, 1) := by decide +kernel
theorem dX12_branchOf_51 : decode prog_13_method_59_code 51 = .ok (.iinc 4 1, 3) := by decide +kernel
theorem dX12_branchOf_54 : decode prog_13_method_59_code 54 = .ok (.goto (-49), 3) := by decide +kernel
theorem dX12_branchOf_57 : decode prog_13_method_59_code 57 = .ok (.iload_n 3, 1) := by decide +kernel
theorem dX12_branchOf_58 : decode prog_13_method_59_code 58 = .ok (.ireturn, 1) := by decide +kernel
theorem dX12_voted_0 : decode prog_13_method_60_code 0 = .ok (.aload_n 0, 1) := by decide +kernel
theorem dX12_voted_1 : decode prog_13_method_60_code 1 = .ok (.aload_n 0, 1) := by decide +kernel
theorem dX12_voted_2 : decode prog_13_method_60_code 2 = .ok (.aload_n 0, 1) := by decide +kernel
theorem dX12_voted_3 : decode prog_13_method_60_code 3 = .ok (.getfield 33, 3) := by decide +kernel
theorem dX12_voted_6 : decode prog_13_method_60_code 6 = .ok (.iload_n 1, 1) := by decide +kernel
theorem dX12_voted_7 : decode prog_13_method_60_code 7 = .ok (.iaload, 1) := by decide +kernel
theorem dX12_voted_8 : decode prog_13_method_60_code 8 = .ok (.iconst 0, 1) := by decide +kernel
theorem dX12_voted_9 : decode prog_13_method_60_code 9 = .ok (.invokevirtual 504, 3) := by decide +kernel
theorem dX12_voted_12 : decode prog_13_method_60_code 12 = .ok (.iload_n 1, 1) := by decide +kernel
theorem dX12_voted_13 : decode prog_13_method_60_code 13 = .ok (.iconst 0, 1) := by decide +kernel
theorem dX12_voted_14 : decode prog_13_method_60_code 14 = .ok (.invokevirtual 491, 3) := by decide +kernel
theorem dX12_voted_17 : decode prog_13_method_60_code 17 = .ok (.istore_n 2, 1) := by decide +kernel
theorem dX12_voted_18 : decode prog_13_method_60_code 18 = .ok (.aload_n 0, 1) := by decide +kernel
theorem dX12_voted_19 : decode prog_13_method_60_code 19 = .ok (.aload_n 0, 1) := by decide +kernel
theorem dX12_voted_20 : decode prog_13_method_60_code 20 = .ok (.aload_n 0, 1) := by decide +kernel
theorem dX12_voted_21 : decode prog_13_method_60_code 21 = .ok (.getfield 33, 3) := by decide +kernel
theorem dX12_voted_24 : decode prog_13_method_60_code 24 = .ok (.iload_n 1, 1) := by decide +kernel
theorem dX12_voted_25 : decode prog_13_method_60_code 25 = .ok (.iaload, 1) := by decide +kernel
theorem dX12_voted_26 : decode prog_13_method_60_code 26 = .ok (.iconst 1, 1) := by decide +kernel
theorem dX12_voted_27 : decode prog_13_method_60_code 27 = .ok (.invokevirtual 504, 3) := by decide +kernel
theorem dX12_voted_30 : decode prog_13_method_60_code 30 = .ok (.iload_n 1, 1) := by decide +kernel
theorem dX12_voted_31 : decode prog_13_method_60_code 31 = .ok (.iconst 0, 1) := by decide +kernel
theorem dX12_voted_32 : decode prog_13_method_60_code 32 = .ok (.invokevirtual 491, 3) := by decide +kernel
theorem dX12_voted_35 : decode prog_13_method_60_code 35 = .ok (.istore_n 3, 1) := by decide +kernel
theorem dX12_voted_36 : decode prog_13_method_60_code 36 = .ok (.iload_n 2, 1) := by decide +kernel
theorem dX12_voted_37 : decode prog_13_method_60_code 37 = .ok (.bipush (-2), 2) := by decide +kernel
theorem dX12_voted_39 : decode prog_13_method_60_code 39 = .ok (.if_icmp .ne 5, 3) := by decide +kernel
theorem dX12_voted_42 : decode prog_13_method_60_code 42 = .ok (.iload_n 3, 1) := by decide +kernel
theorem dX12_voted_43 : decode prog_13_method_60_code 43 = .ok (.ireturn, 1) := by decide +kernel
theorem dX12_voted_44 : decode prog_13_method_60_code 44 = .ok (.iload_n 3, 1) := by decide +kernel
theorem dX12_voted_45 : decode prog_13_method_60_code 45 = .ok (.bipush (-2), 2) := by decide +kernel
theorem dX12_voted_47 : decode prog_13_method_60_code 47 = .ok (.if_icmp .ne 5, 3) := by decide +kernel
theorem dX12_voted_50 : decode prog_13_method_60_code 50 = .ok (.iload_n 2, 1) := by decide +kernel
theorem dX12_voted_51 : decode prog_13_method_60_code 51 = .ok (.ireturn, 1) := by decide +kernel
theorem dX12_voted_52 : decode prog_13_method_60_code 52 = .ok (.iconst 0, 1) := by decide +kernel
theorem dX12_voted_53 : decode prog_13_method_60_code 53 = .ok (.istore 4, 2) := by decide +kernel
theorem dX12_voted_55 : decode prog_13_method_60_code 55 = .ok (.iconst 0, 1) := by decide +kernel
theorem dX12_voted_56 : decode prog_13_method_60_code 56 = .ok (.istore 5, 2) := by decide +kernel
theorem dX12_voted_58 : decode prog_13_method_60_code 58 = .ok (.iload 5, 2) := by decide +kernel
theorem dX12_voted_60 : decode prog_13_method_60_code 60 = .ok (.aload_n 0, 1) := by decide +kernel
theorem dX12_voted_61 : decode prog_13_method_60_code 61 = .ok (.getfield 409, 3) := by decide +kernel
theorem dX12_voted_64 : decode prog_13_method_60_code 64 = .ok (.getfield 230, 3) := by decide +kernel
theorem dX12_voted_67 : decode prog_13_method_60_code 67 = .ok (.if_icmp .ge 66, 3) := by decide +kernel
theorem dX12_voted_70 : decode prog_13_method_60_code 70 = .ok (.aload_n 0, 1) := by decide +kernel
theorem dX12_voted_71 : decode prog_13_method_60_code 71 = .ok (.getfield 30, 3) := by decide +kernel
theorem dX12_voted_74 : decode prog_13_method_60_code 74 = .ok (.iload_n 1, 1) := by decide +kernel
theorem dX12_voted_75 : decode prog_13_method_60_code 75 = .ok (.iaload, 1) := by decide +kernel
theorem dX12_voted_76 : decode prog_13_method_60_code 76 = .ok (.iload 5, 2) := by decide +kernel
theorem dX12_voted_78 : decode prog_13_method_60_code 78 = .ok (.invokestatic 386, 3) := by decide +kernel
theorem dX12_voted_81 : decode prog_13_method_60_code 81 = .ok (.ifCond .eq 46, 3) := by decide +kernel
theorem dX12_voted_84 : decode prog_13_method_60_code 84 = .ok (.iload 4, 2) := by decide +kernel
theorem dX12_voted_86 : decode prog_13_method_60_code 86 = .ok (.aload_n 0, 1) := by decide +kernel
theorem dX12_voted_87 : decode prog_13_method_60_code 87 = .ok (.getfield 409, 3) := by decide +kernel
theorem dX12_voted_90 : decode prog_13_method_60_code 90 = .ok (.getfield 326, 3) := by decide +kernel
theorem dX12_voted_93 : decode prog_13_method_60_code 93 = .ok (.iload 5, 2) := by decide +kernel
theorem dX12_voted_95 : decode prog_13_method_60_code 95 = .ok (.iaload, 1) := by decide +kernel
theorem dX12_voted_96 : decode prog_13_method_60_code 96 = .ok (.iconst 1, 1) := by decide +kernel
theorem dX12_voted_97 : decode prog_13_method_60_code 97 = .ok (.if_icmp .ne 16, 3) := by decide +kernel
theorem dX12_voted_100 : decode prog_13_method_60_code 100 = .ok (.aload_n 0, 1) := by decide +kernel
theorem dX12_voted_101 : decode prog_13_method_60_code 101 = .ok (.getfield 409, 3) := by decide +kernel
theorem dX12_voted_104 : decode prog_13_method_60_code 104 = .ok (.getfield 331, 3) := by decide +kernel
theorem dX12_voted_107 : decode prog_13_method_60_code 107 = .ok (.iload 5, 2) := by decide +kernel
theorem dX12_voted_109 : decode prog_13_method_60_code 109 = .ok (.iaload, 1) := by decide +kernel
theorem dX12_voted_110 : decode prog_13_method_60_code 110 = .ok (.goto 14, 3) := by decide +kernel
theorem dX12_voted_113 : decode prog_13_method_60_code 113 = .ok (.aload_n 0, 1) := by decide +kernel
theorem dX12_voted_114 : decode prog_13_method_60_code 114 = .ok (.getfield 409, 3) := by decide +kernel
theorem dX12_voted_117 : decode prog_13_method_60_code 117 = .ok (.getfield 331, 3) := by decide +kernel
theorem dX12_voted_120 : decode prog_13_method_60_code 120 = .ok (.iload 5, 2) := by decide +kernel
theorem dX12_voted_122 : decode prog_13_method_60_code 122 = .ok (.iaload, 1) := by decide +kernel
theorem dX12_voted_123 : decode prog_13_method_60_code 123 = .ok (.ineg, 1) := by decide +kernel
theorem dX12_voted_124 : decode prog_13_method_60_code 124 = .ok (.iadd, 1) := by decide +kernel
theorem dX12_voted_125 : decode prog_13_method_60_code 125 = .ok (.istore 4, 2) := by decide +kernel
theorem dX12_voted_127 : decode prog_13_method_60_code 127 = .ok (.iinc 5 1, 3) := by decide +kernel
theorem dX12_voted_130 : decode prog_13_method_60_code 130 = .ok (.goto (-72), 3) := by decide +kernel
theorem dX12_voted_133 : decode prog_13_method_60_code 133 = .ok (.iload 4, 2) := by decide +kernel
theorem dX12_voted_135 : decode prog_13_method_60_code 135 = .ok (.ifCond .ne 14, 3) := by decide +kernel
theorem dX12_voted_138 : decode prog_13_method_60_code 138 = .ok (.iload_n 2, 1) := by decide +kernel
theorem dX12_voted_139 : decode prog_13_method_60_code 139 = .ok (.iload_n 3, 1) := by decide +kernel
theorem dX12_voted_140 : decode prog_13_method_60_code 140 = .ok (.if_icmp .ge 7, 3) := by decide +kernel
theorem dX12_voted_143 : decode prog_13_method_60_code 143 = .ok (.iload_n 2, 1) := by decide +kernel
theorem dX12_voted_144 : decode prog_13_method_60_code 144 = .ok (.goto 4, 3) := by decide +kernel
theorem dX12_voted_147 : decode prog_13_method_60_code 147 = .ok (.iload_n 3, 1) := by decide +kernel
theorem dX12_voted_148 : decode prog_13_method_60_code 148 = .ok (.ireturn, 1) := by decide +kernel
theorem dX12_voted_149 : decode prog_13_method_60_code 149 = .ok (.iload 4, 2) := by decide +kernel
theorem dX12_voted_151 : decode prog_13_method_60_code 151 = .ok (.ifCond .le 7, 3) := by decide +kernel
theorem dX12_voted_154 : decode prog_13_method_60_code 154 = .ok (.iload_n 2, 1) := by decide +kernel
theorem dX12_voted_155 : decode prog_13_method_60_code 155 = .ok (.goto 4, 3) := by decide +kernel
theorem dX12_voted_158 : decode prog_13_method_60_code 158 = .ok (.iload_n 3, 1) := by decide +kernel
theorem dX12_voted_159 : decode prog_13_method_60_code 159 = .ok (.ireturn, 1) := by decide +kernel
