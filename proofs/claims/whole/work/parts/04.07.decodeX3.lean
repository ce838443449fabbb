theorem dX3_range_25 : decode cX3_range 25 = .ok (.iload_n 1, 1) := by decide +kernel
theorem dX3_range_26 : decode cX3_range 26 = .ok (.imul, 1) := by decide +kernel
theorem dX3_range_27 : decode cX3_range 27 = .ok (.iload 4, 2) := by decide +kernel
theorem dX3_range_29 : decode cX3_range 29 = .ok (.iadd, 1) := by decide +kernel
theorem dX3_range_30 : decode cX3_range 30 = .ok (.iaload, 1) := by decide +kernel
theorem dX3_range_31 : decode cX3_range 31 = .ok (.iload_n 2, 1) := by decide +kernel
theorem dX3_range_32 : decode cX3_range 32 = .ok (.if_icmp .le 17, 3) := by decide +kernel
theorem dX3_range_35 : decode cX3_range 35 = .ok (.aload_n 0, 1) := by decide +kernel
theorem dX3_range_36 : decode cX3_range 36 = .ok (.getfield 37, 3) := by decide +kernel
theorem dX3_range_39 : decode cX3_range 39 = .ok (.iconst 3, 1) := by decide +kernel
theorem dX3_range_40 : decode cX3_range 40 = .ok (.iload_n 1, 1) := by decide +kernel
theorem dX3_range_41 : decode cX3_range 41 = .ok (.imul, 1) := by decide +kernel
theorem dX3_range_42 : decode cX3_range 42 = .ok (.iload 4, 2) := by decide +kernel
theorem dX3_range_44 : decode cX3_range 44 = .ok (.iadd, 1) := by decide +kernel
theorem dX3_range_45 : decode cX3_range 45 = .ok (.iaload, 1) := by decide +kernel
theorem dX3_range_46 : decode cX3_range 46 = .ok (.goto 4, 3) := by decide +kernel
theorem dX3_range_49 : decode cX3_range 49 = .ok (.iload_n 2, 1) := by decide +kernel
theorem dX3_range_50 : decode cX3_range 50 = .ok (.istore_n 2, 1) := by decide +kernel
theorem dX3_range_51 : decode cX3_range 51 = .ok (.aload_n 0, 1) := by decide +kernel
theorem dX3_range_52 : decode cX3_range 52 = .ok (.getfield 37, 3) := by decide +kernel
theorem dX3_range_55 : decode cX3_range 55 = .ok (.iconst 3, 1) := by decide +kernel
theorem dX3_range_56 : decode cX3_range 56 = .ok (.iload_n 1, 1) := by decide +kernel
theorem dX3_range_57 : decode cX3_range 57 = .ok (.imul, 1) := by decide +kernel
theorem dX3_range_58 : decode cX3_range 58 = .ok (.iload 4, 2) := by decide +kernel
theorem dX3_range_60 : decode cX3_range 60 = .ok (.iadd, 1) := by decide +kernel
theorem dX3_range_61 : decode cX3_range 61 = .ok (.iaload, 1) := by decide +kernel
theorem dX3_range_62 : decode cX3_range 62 = .ok (.iload_n 3, 1) := by decide +kernel
theorem dX3_range_63 : decode cX3_range 63 = .ok (.if_icmp .ge 17, 3) := by decide +kernel
theorem dX3_range_66 : decode cX3_range 66 = .ok (.aload_n 0, 1) := by decide +kernel
theorem dX3_range_67 : decode cX3_range 67 = .ok (.getfield 37, 3) := by decide +kernel
theorem dX3_range_70 : decode cX3_range 70 = .ok (.iconst 3, 1) := by decide +kernel
theorem dX3_range_71 : decode cX3_range 71 = .ok (.iload_n 1, 1) := by decide +kernel
theorem dX3_range_72 : decode cX3_range 72 = .ok (.imul, 1) := by decide +kernel
theorem dX3_range_73 : decode cX3_range 73 = .ok (.iload 4, 2) := by decide +kernel
theorem dX3_range_75 : decode cX3_range 75 = .ok (.iadd, 1) := by decide +kernel
theorem dX3_range_76 : decode cX3_range 76 = .ok (.iaload, 1) := by decide +kernel
theorem dX3_range_77 : decode cX3_range 77 = .ok (.goto 4, 3) := by decide +kernel
theorem dX3_range_80 : decode cX3_range 80 = .ok (.iload_n 3, 1) := by decide +kernel
theorem dX3_range_81 : decode cX3_range 81 = .ok (.istore_n 3, 1) := by decide +kernel
theorem dX3_range_82 : decode cX3_range 82 = .ok (.iinc 4 1, 3) := by decide +kernel
theorem dX3_range_85 : decode cX3_range 85 = .ok (.goto (-71), 3) := by decide +kernel
theorem dX3_range_88 : decode cX3_range 88 = .ok (.iload_n 2, 1) := by decide +kernel
theorem dX3_range_89 : decode cX3_range 89 = .ok (.iload_n 3, 1) := by decide +kernel
theorem dX3_range_90 : decode cX3_range 90 = .ok (.isub, 1) := by decide +kernel
theorem dX3_range_91 : decode cX3_range 91 = .ok (.ireturn, 1) := by decide +kernel
theorem dX3_trial_0 : decode cX3_trial 0 = .ok (.aload_n 0, 1) := by decide +kernel
theorem dX3_trial_1 : decode cX3_trial 1 = .ok (.iload_n 1, 1) := by decide +kernel
theorem dX3_trial_2 : decode cX3_trial 2 = .ok (.invokevirtual 96, 3) := by decide +kernel
theorem dX3_trial_5 : decode cX3_trial 5 = .ok (.ifCond .eq 11, 3) := by decide +kernel
theorem dX3_trial_8 : decode cX3_trial 8 = .ok (.aload_n 0, 1) := by decide +kernel
theorem dX3_trial_9 : decode cX3_trial 9 = .ok (.iload_n 2, 1) := by decide +kernel
theorem dX3_trial_10 : decode cX3_trial 10 = .ok (.invokevirtual 96, 3) := by decide +kernel
theorem dX3_trial_13 : decode cX3_trial 13 = .ok (.ifCond .ne 5, 3) := by decide +kernel
theorem dX3_trial_16 : decode cX3_trial 16 = .ok (.iconst (-1), 1) := by decide +kernel
theorem dX3_trial_17 : decode cX3_trial 17 = .ok (.ireturn, 1) := by decide +kernel
theorem dX3_trial_18 : decode cX3_trial 18 = .ok (.aload_n 0, 1) := by decide +kernel
theorem dX3_trial_19 : decode cX3_trial 19 = .ok (.getfield 7, 3) := by decide +kernel
theorem dX3_trial_22 : decode cX3_trial 22 = .ok (.iload_n 1, 1) := by decide +kernel
theorem dX3_trial_23 : decode cX3_trial 23 = .ok (.iaload, 1) := by decide +kernel
theorem dX3_trial_24 : decode cX3_trial 24 = .ok (.iconst 3, 1) := by decide +kernel
theorem dX3_trial_25 : decode cX3_trial 25 = .ok (.if_icmp .ne 7, 3) := by decide +kernel
theorem dX3_trial_28 : decode cX3_trial 28 = .ok (.iconst 1, 1) := by decide +kernel
theorem dX3_trial_29 : decode cX3_trial 29 = .ok (.goto 4, 3) := by decide +kernel
theorem dX3_trial_32 : decode cX3_trial 32 = .ok (.iconst 0, 1) := by decide +kernel
theorem dX3_trial_33 : decode cX3_trial 33 = .ok (.istore 5, 2) := by decide +kernel
theorem dX3_trial_35 : decode cX3_trial 35 = .ok (.iload 5, 2) := by decide +kernel
theorem dX3_trial_37 : decode cX3_trial 37 = .ok (.ifCond .ne 14, 3) := by decide +kernel
theorem dX3_trial_40 : decode cX3_trial 40 = .ok (.iload_n 3, 1) := by decide +kernel
theorem dX3_trial_41 : decode cX3_trial 41 = .ok (.ldc 100, 2) := by decide +kernel
theorem dX3_trial_43 : decode cX3_trial 43 = .ok (.ldc 101, 2) := by decide +kernel
theorem dX3_trial_45 : decode cX3_trial 45 = .ok (.invokestatic 88, 3) := by decide +kernel
theorem dX3_trial_48 : decode cX3_trial 48 = .ok (.ifCond .eq 14, 3) := by decide +kernel
theorem dX3_trial_51 : decode cX3_trial 51 = .ok (.iload 4, 2) := by decide +kernel
theorem dX3_trial_53 : decode cX3_trial 53 = .ok (.iconst 0, 1) := by decide +kernel
theorem dX3_trial_54 : decode cX3_trial 54 = .ok (.ldc 101, 2) := by decide +kernel
theorem dX3_trial_56 : decode cX3_trial 56 = .ok (.invokestatic 88, 3) := by decide +kernel
theorem dX3_trial_59 : decode cX3_trial 59 = .ok (.ifCond .ne 6, 3) := by decide +kernel
theorem dX3_trial_62 : decode cX3_trial 62 = .ok (.bipush (-2), 2) := by decide +kernel
theorem dX3_trial_64 : decode cX3_trial 64 = .ok (.ireturn, 1) := by decide +kernel
theorem dX3_trial_65 : decode cX3_trial 65 = .ok (.aload_n 0, 1) := by decide +kernel
theorem dX3_trial_66 : decode cX3_trial 66 = .ok (.getfield 7, 3) := by decide +kernel
theorem dX3_trial_69 : decode cX3_trial 69 = .ok (.iload_n 1, 1) := by decide +kernel
theorem dX3_trial_70 : decode cX3_trial 70 = .ok (.iaload, 1) := by decide +kernel
theorem dX3_trial_71 : decode cX3_trial 71 = .ok (.ifCond .eq 37, 3) := by decide +kernel
theorem dX3_trial_74 : decode cX3_trial 74 = .ok (.iload 5, 2) := by decide +kernel
theorem dX3_trial_76 : decode cX3_trial 76 = .ok (.ifCond .eq 13, 3) := by decide +kernel
theorem dX3_trial_79 : decode cX3_trial 79 = .ok (.aload_n 0, 1) := by decide +kernel
theorem dX3_trial_80 : decode cX3_trial 80 = .ok (.getfield 34, 3) := by decide +kernel
theorem dX3_trial_83 : decode cX3_trial 83 = .ok (.iload_n 1, 1) := by decide +kernel
theorem dX3_trial_84 : decode cX3_trial 84 = .ok (.iaload, 1) := by decide +kernel
theorem dX3_trial_85 : decode cX3_trial 85 = .ok (.iconst 3, 1) := by decide +kernel
theorem dX3_trial_86 : decode cX3_trial 86 = .ok (.if_icmp .ne 22, 3) := by decide +kernel
theorem dX3_trial_89 : decode cX3_trial 89 = .ok (.iload_n 2, 1) := by decide +kernel
theorem dX3_trial_90 : decode cX3_trial 90 = .ok (.iload_n 1, 1) := by decide +kernel
theorem dX3_trial_91 : decode cX3_trial 91 = .ok (.if_icmp .eq 17, 3) := by decide +kernel
theorem dX3_trial_94 : decode cX3_trial 94 = .ok (.aload_n 0, 1) := by decide +kernel
theorem dX3_trial_95 : decode cX3_trial 95 = .ok (.getfield 7, 3) := by decide +kernel
theorem dX3_trial_98 : decode cX3_trial 98 = .ok (.iload_n 2, 1) := by decide +kernel
theorem dX3_trial_99 : decode cX3_trial 99 = .ok (.iaload, 1) := by decide +kernel
theorem dX3_trial_100 : decode cX3_trial 100 = .ok (.iconst 1, 1) := by decide +kernel
theorem dX3_trial_101 : decode cX3_trial 101 = .ok (.if_icmp .gt 7, 3) := by decide +kernel
theorem dX3_trial_104 : decode cX3_trial 104 = .ok (.iconst 1, 1) := by decide +kernel
theorem dX3_trial_105 : decode cX3_trial 105 = .ok (.goto 4, 3) := by decide +kernel
theorem dX3_trial_108 : decode cX3_trial 108 = .ok (.iconst 0, 1) := by decide +kernel
theorem dX3_trial_109 : decode cX3_trial 109 = .ok (.istore 6, 2) := by decide +kernel
theorem dX3_trial_111 : decode cX3_trial 111 = .ok (.iload 6, 2) := by decide +kernel
theorem dX3_trial_113 : decode cX3_trial 113 = .ok (.ifCond .eq 19, 3) := by decide +kernel
theorem dX3_trial_116 : decode cX3_trial 116 = .ok (.aload_n 0, 1) := by decide +kernel
theorem dX3_trial_117 : decode cX3_trial 117 = .ok (.iload_n 2, 1) := by decide +kernel
theorem dX3_trial_118 : decode cX3_trial 118 = .ok (.invokevirtual 105, 3) := by decide +kernel
theorem dX3_trial_121 : decode cX3_trial 121 = .ok (.ifCond .eq 11, 3) := by decide +kernel
theorem dX3_trial_124 : decode cX3_trial 124 = .ok (.aload_n 0, 1) := by decide +kernel
theorem dX3_trial_125 : decode cX3_trial 125 = .ok (.iload_n 2, 1) := by decide +kernel
theorem dX3_trial_126 : decode cX3_trial 126 = .ok (.invokevirtual 108, 3) := by decide +kernel
theorem dX3_trial_129 : decode cX3_trial 129 = .ok (.ifCond .eq 6, 3) := by decide +kernel
theorem dX3_trial_132 : decode cX3_trial 132 = .ok (.bipush (-3), 2) := by decide +kernel
theorem dX3_trial_134 : decode cX3_trial 134 = .ok (.ireturn, 1) := by decide +kernel
theorem dX3_trial_135 : decode cX3_trial 135 = .ok (.aload_n 0, 1) := by decide +kernel
theorem dX3_trial_136 : decode cX3_trial 136 = .ok (.getfield 111, 3) := by decide +kernel
theorem dX3_trial_139 : decode cX3_trial 139 = .ok (.sipush 300, 3) := by decide +kernel
theorem dX3_trial_142 : decode cX3_trial 142 = .ok (.if_icmp .ne 6, 3) := by decide +kernel
theorem dX3_trial_145 : decode cX3_trial 145 = .ok (.bipush (-4), 2) := by decide +kernel
theorem dX3_trial_147 : decode cX3_trial 147 = .ok (.ireturn, 1) := by decide +kernel
theorem dX3_trial_148 : decode cX3_trial 148 = .ok (.aload_n 0, 1) := by decide +kernel
theorem dX3_trial_149 : decode cX3_trial 149 = .ok (.getfield 111, 3) := by decide +kernel
theorem dX3_trial_152 : decode cX3_trial 152 = .ok (.istore 7, 2) := by decide +kernel
theorem dX3_trial_154 : decode cX3_trial 154 = .ok (.aload_n 0, 1) := by decide +kernel
theorem dX3_trial_155 : decode cX3_trial 155 = .ok (.dup, 1) := by decide +kernel
theorem dX3_trial_156 : decode cX3_trial 156 = .ok (.getfield 111, 3) := by decide +kernel
theorem dX3_trial_159 : decode cX3_trial 159 = .ok (.iconst 1, 1) := by decide +kernel
theorem dX3_trial_160 : decode cX3_trial 160 = .ok (.iadd, 1) := by decide +kernel
theorem dX3_trial_161 : decode cX3_trial 161 = .ok (.putfield 111, 3) := by decide +kernel
theorem dX3_trial_164 : decode cX3_trial 164 = .ok (.aload_n 0, 1) := by decide +kernel
theorem dX3_trial_165 : decode cX3_trial 165 = .ok (.getfield 50, 3) := by decide +kernel
theorem dX3_trial_168 : decode cX3_trial 168 = .ok (.iload 7, 2) := by decide +kernel
theorem dX3_trial_170 : decode cX3_trial 170 = .ok (.iload_n 1, 1) := by decide +kernel
theorem dX3_trial_171 : decode cX3_trial 171 = .ok (.iastore, 1) := by decide +kernel
theorem dX3_trial_172 : decode cX3_trial 172 = .ok (.aload_n 0, 1) := by decide +kernel
theorem dX3_trial_173 : decode cX3_trial 173 = .ok (.getfield 53, 3) := by decide +kernel
theorem dX3_trial_176 : decode cX3_trial 176 = .ok (.iload 7, 2) := by decide +kernel
theorem dX3_trial_178 : decode cX3_trial 178 = .ok (.iload_n 2, 1) := by decide +kernel
theorem dX3_trial_179 : decode cX3_trial 179 = .ok (.iastore, 1) := by decide +kernel
theorem dX3_trial_180 : decode cX3_trial 180 = .ok (.aload_n 0, 1) := by decide +kernel
theorem dX3_trial_181 : decode cX3_trial 181 = .ok (.getfield 56, 3) := by decide +kernel
theorem dX3_trial_184 : decode cX3_trial 184 = .ok (.iload 7, 2) := by decide +kernel
theorem dX3_trial_186 : decode cX3_trial 186 = .ok (.aload_n 0, 1) := by decide +kernel
theorem dX3_trial_187 : decode cX3_trial 187 = .ok (.getfield 92, 3) := by decide +kernel
theorem dX3_trial_190 : decode cX3_trial 190 = .ok (.iastore, 1) := by decide +kernel
theorem dX3_trial_191 : decode cX3_trial 191 = .ok (.aload_n 0, 1) := by decide +kernel
theorem dX3_trial_192 : decode cX3_trial 192 = .ok (.getfield 59, 3) := by decide +kernel
theorem dX3_trial_195 : decode cX3_trial 195 = .ok (.iload 7, 2) := by decide +kernel
theorem dX3_trial_197 : decode cX3_trial 197 = .ok (.aload_n 0, 1) := by decide +kernel
theorem dX3_trial_198 : decode cX3_trial 198 = .ok (.iload_n 2, 1) := by decide +kernel
theorem dX3_trial_199 : decode cX3_trial 199 = .ok (.invokevirtual 114, 3) := by decide +kernel
theorem dX3_trial_202 : decode cX3_trial 202 = .ok (.iload 5, 2) := by decide +kernel
theorem dX3_trial_204 : decode cX3_trial 204 = .ok (.ifCond .eq 11, 3) := by decide +kernel
theorem dX3_trial_207 : decode cX3_trial 207 = .ok (.aload_n 0, 1) := by decide +kernel
theorem dX3_trial_208 : decode cX3_trial 208 = .ok (.iload_n 1, 1) := by decide +kernel
theorem dX3_trial_209 : decode cX3_trial 209 = .ok (.invokevirtual 118, 3) := by decide +kernel
theorem dX3_trial_212 : decode cX3_trial 212 = .ok (.goto 4, 3) := by decide +kernel
theorem dX3_trial_215 : decode cX3_trial 215 = .ok (.iload_n 3, 1) := by decide +kernel
theorem dX3_trial_216 : decode cX3_trial 216 = .ok (.iadd, 1) := by decide +kernel
theorem dX3_trial_217 : decode cX3_trial 217 = .ok (.iastore, 1) := by decide +kernel
theorem dX3_trial_218 : decode cX3_trial 218 = .ok (.aload_n 0, 1) := by decide +kernel
theorem dX3_trial_219 : decode cX3_trial 219 = .ok (.getfield 62, 3) := by decide +kernel
theorem dX3_trial_222 : decode cX3_trial 222 = .ok (.iload 7, 2) := by decide +kernel
theorem dX3_trial_224 : decode cX3_trial 224 = .ok (.aload_n 0, 1) := by decide +kernel
theorem dX3_trial_225 : decode cX3_trial 225 = .ok (.iload_n 2, 1) := by decide +kernel
theorem dX3_trial_226 : decode cX3_trial 226 = .ok (.aload_n 0, 1) := by decide +kernel
theorem dX3_trial_227 : decode cX3_trial 227 = .ok (.getfield 92, 3) := by decide +kernel
theorem dX3_trial_230 : decode cX3_trial 230 = .ok (.invokevirtual 121, 3) := by decide +kernel
theorem dX3_trial_233 : decode cX3_trial 233 = .ok (.iload 4, 2) := by decide +kernel
theorem dX3_trial_235 : decode cX3_trial 235 = .ok (.iadd, 1) := by decide +kernel
theorem dX3_trial_236 : decode cX3_trial 236 = .ok (.iload 5, 2) := by decide +kernel
theorem dX3_trial_238 : decode cX3_trial 238 = .ok (.ifCond .eq 11, 3) := by decide +kernel
theorem dX3_trial_241 : decode cX3_trial 241 = .ok (.aload_n 0, 1) := by decide +kernel
theorem dX3_trial_242 : decode cX3_trial 242 = .ok (.iload_n 1, 1) := by decide +kernel
theorem dX3_trial_243 : decode cX3_trial 243 = .ok (.invokevirtual 125, 3) := by decide +kernel
theorem dX3_trial_246 : decode cX3_trial 246 = .ok (.goto 4, 3) := by decide +kernel
theorem dX3_trial_249 : decode cX3_trial 249 = .ok (.iconst 0, 1) := by decide +kernel
theorem dX3_trial_250 : decode cX3_trial 250 = .ok (.iadd, 1) := by decide +kernel
theorem dX3_trial_251 : decode cX3_trial 251 = .ok (.iastore, 1) := by decide +kernel
theorem dX3_trial_252 : decode cX3_trial 252 = .ok (.aload_n 0, 1) := by decide +kernel
theorem dX3_trial_253 : decode cX3_trial 253 = .ok (.getfield 65, 3) := by decide +kernel
theorem dX3_trial_256 : decode cX3_trial 256 = .ok (.iload 7, 2) := by decide +kernel
theorem dX3_trial_258 : decode cX3_trial 258 = .ok (.iconst 1, 1) := by decide +kernel
theorem dX3_trial_259 : decode cX3_trial 259 = .ok (.bastore, 1) := by decide +kernel
theorem dX3_trial_260 : decode cX3_trial 260 = .ok (.aload_n 0, 1) := by decide +kernel
theorem dX3_trial_261 : decode cX3_trial 261 = .ok (.getfield 71, 3) := by decide +kernel
theorem dX3_trial_264 : decode cX3_trial 264 = .ok (.iload 7, 2) := by decide +kernel
theorem dX3_trial_266 : decode cX3_trial 266 = .ok (.aload_n 0, 1) := by decide +kernel
theorem dX3_trial_267 : decode cX3_trial 267 = .ok (.getfield 25, 3) := by decide +kernel
theorem dX3_trial_270 : decode cX3_trial 270 = .ok (.iload_n 2, 1) := by decide +kernel
theorem dX3_trial_271 : decode cX3_trial 271 = .ok (.iaload, 1) := by decide +kernel
theorem dX3_trial_272 : decode cX3_trial 272 = .ok (.iastore, 1) := by decide +kernel
theorem dX3_trial_273 : decode cX3_trial 273 = .ok (.aload_n 0, 1) := by decide +kernel
theorem dX3_trial_274 : decode cX3_trial 274 = .ok (.getfield 25, 3) := by decide +kernel
theorem dX3_trial_277 : decode cX3_trial 277 = .ok (.iload_n 1, 1) := by decide +kernel
theorem dX3_trial_278 : decode cX3_trial 278 = .ok (.iaload, 1) := by decide +kernel
theorem dX3_trial_279 : decode cX3_trial 279 = .ok (.istore 8, 2) := by decide +kernel
theorem dX3_trial_281 : decode cX3_trial 281 = .ok (.iload 8, 2) := by decide +kernel
theorem dX3_trial_283 : decode cX3_trial 283 = .ok (.ldc 95, 2) := by decide +kernel
theorem dX3_trial_285 : decode cX3_trial 285 = .ok (.if_icmp .eq 90, 3) := by decide +kernel
theorem dX3_trial_288 : decode cX3_trial 288 = .ok (.aload_n 0, 1) := by decide +kernel
theorem dX3_trial_289 : decode cX3_trial 289 = .ok (.iload_n 1, 1) := by decide +kernel
theorem dX3_trial_290 : decode cX3_trial 290 = .ok (.invokevirtual 105, 3) := by decide +kernel
theorem dX3_trial_293 : decode cX3_trial 293 = .ok (.ifCond .eq 82, 3) := by decide +kernel
theorem dX3_trial_296 : decode cX3_trial 296 = .ok (.aload_n 0, 1) := by decide +kernel
theorem dX3_trial_297 : decode cX3_trial 297 = .ok (.iload_n 1, 1) := by decide +kernel
theorem dX3_trial_298 : decode cX3_trial 298 = .ok (.aload_n 0, 1) := by decide +kernel
theorem dX3_trial_299 : decode cX3_trial 299 = .ok (.getfield 92, 3) := by decide +kernel
theorem dX3_trial_302 : decode cX3_trial 302 = .ok (.invokevirtual 121, 3) := by decide +kernel
theorem dX3_trial_305 : decode cX3_trial 305 = .ok (.istore 9, 2) := by decide +kernel
theorem dX3_trial_307 : decode cX3_trial 307 = .ok (.aload_n 0, 1) := by decide +kernel
theorem dX3_trial_308 : decode cX3_trial 308 = .ok (.getfield 68, 3) := by decide +kernel
theorem dX3_trial_311 : decode cX3_trial 311 = .ok (.iload 7, 2) := by decide +kernel
theorem dX3_trial_313 : decode cX3_trial 313 = .ok (.aload_n 0, 1) := by decide +kernel
theorem dX3_trial_314 : decode cX3_trial 314 = .ok (.getfield 59, 3) := by decide +kernel
theorem dX3_trial_317 : decode cX3_trial 317 = .ok (.iload 8, 2) := by decide +kernel
theorem dX3_trial_319 : decode cX3_trial 319 = .ok (.iaload, 1) := by decide +kernel
theorem dX3_trial_320 : decode cX3_trial 320 = .ok (.iload 9, 2) := by decide +kernel
theorem dX3_trial_322 : decode cX3_trial 322 = .ok (.isub, 1) := by decide +kernel
theorem dX3_trial_323 : decode cX3_trial 323 = .ok (.aload_n 0, 1) := by decide +kernel
theorem dX3_trial_324 : decode cX3_trial 324 = .ok (.getfield 59, 3) := by decide +kernel
theorem dX3_trial_327 : decode cX3_trial 327 = .ok (.iload 7, 2) := by decide +kernel
theorem dX3_trial_329 : decode cX3_trial 329 = .ok (.iaload, 1) := by decide +kernel
theorem dX3_trial_330 : decode cX3_trial 330 = .ok (.aload_n 0, 1) := by decide +kernel
theorem dX3_trial_331 : decode cX3_trial 331 = .ok (.getfield 62, 3) := by decide +kernel
theorem dX3_trial_334 : decode cX3_trial 334 = .ok (.iload 7, 2) := by decide +kernel
theorem dX3_trial_336 : decode cX3_trial 336 = .ok (.iaload, 1) := by decide +kernel
theorem dX3_trial_337 : decode cX3_trial 337 = .ok (.iadd, 1) := by decide +kernel
theorem dX3_trial_338 : decode cX3_trial 338 = .ok (.if_icmp .gt 31, 3) := by decide +kernel
theorem dX3_trial_341 : decode cX3_trial 341 = .ok (.aload_n 0, 1) := by decide +kernel
theorem dX3_trial_342 : decode cX3_trial 342 = .ok (.getfield 59, 3) := by decide +kernel
theorem dX3_trial_345 : decode cX3_trial 345 = .ok (.iload 8, 2) := by decide +kernel
theorem dX3_trial_347 : decode cX3_trial 347 = .ok (.iaload, 1) := by decide +kernel
theorem dX3_trial_348 : decode cX3_trial 348 = .ok (.iload 9, 2) := by decide +kernel
theorem dX3_trial_350 : decode cX3_trial 350 = .ok (.iadd, 1) := by decide +kernel
theorem dX3_trial_351 : decode cX3_trial 351 = .ok (.aload_n 0, 1) := by decide +kernel
theorem dX3_trial_352 : decode cX3_trial 352 = .ok (.getfield 59, 3) := by decide +kernel
theorem dX3_trial_355 : decode cX3_trial 355 = .ok (.iload 7, 2) := by decide +kernel
theorem dX3_trial_357 : decode cX3_trial 357 = .ok (.iaload, 1) := by decide +kernel
theorem dX3_trial_358 : decode cX3_trial 358 = .ok (.aload_n 0, 1) := by decide +kernel
theorem dX3_trial_359 : decode cX3_trial 359 = .ok (.getfield 62, 3) := by decide +kernel
theorem dX3_trial_362 : decode cX3_trial 362 = .ok (.iload 7, 2) := by decide +kernel
theorem dX3_trial_364 : decode cX3_trial 364 = .ok (.iaload, 1) := by decide +kernel
theorem dX3_trial_365 : decode cX3_trial 365 = .ok (.isub, 1) := by decide +kernel
theorem dX3_trial_366 : decode cX3_trial 366 = .ok (.if_icmp .ge 7, 3) := by decide +kernel
theorem dX3_trial_369 : decode cX3_trial 369 = .ok (.iconst 1, 1) := by decide +kernel
theorem dX3_trial_370 : decode cX3_trial 370 = .ok (.goto 4, 3) := by decide +kernel
theorem dX3_trial_373 : decode cX3_trial 373 = .ok (.iconst 0, 1) := by decide +kernel
theorem dX3_trial_374 : decode cX3_trial 374 = .ok (.bastore, 1) := by decide +kernel
theorem dX3_trial_375 : decode cX3_trial 375 = .ok (.aload_n 0, 1) := by decide +kernel
theorem dX3_trial_376 : decode cX3_trial 376 = .ok (.getfield 68, 3) := by decide +kernel
theorem dX3_trial_379 : decode cX3_trial 379 = .ok (.iload 7, 2) := by decide +kernel
theorem dX3_trial_381 : decode cX3_trial 381 = .ok (.baload, 1) := by decide +kernel
theorem dX3_trial_382 : decode cX3_trial 382 = .ok (.ifCond .eq 17, 3) := by decide +kernel
theorem dX3_trial_385 : decode cX3_trial 385 = .ok (.aload_n 0, 1) := by decide +kernel
theorem dX3_trial_386 : decode cX3_trial 386 = .ok (.iload 8, 2) := by decide +kernel
theorem dX3_trial_388 : decode cX3_trial 388 = .ok (.invokevirtual 128, 3) := by decide +kernel
theorem dX3_trial_391 : decode cX3_trial 391 = .ok (.aload_n 0, 1) := by decide +kernel
theorem dX3_trial_392 : decode cX3_trial 392 = .ok (.getfield 28, 3) := by decide +kernel
theorem dX3_trial_395 : decode cX3_trial 395 = .ok (.iload_n 1, 1) := by decide +kernel
theorem dX3_trial_396 : decode cX3_trial 396 = .ok (.ldc 95, 2) := by decide +kernel
theorem dX3_trial_398 : decode cX3_trial 398 = .ok (.iastore, 1) := by decide +kernel
theorem dX3_trial_399 : decode cX3_trial 399 = .ok (.aload_n 0, 1) := by decide +kernel
theorem dX3_trial_400 : decode cX3_trial 400 = .ok (.getfield 25, 3) := by decide +kernel
theorem dX3_trial_403 : decode cX3_trial 403 = .ok (.iload_n 1, 1) := by decide +kernel
theorem dX3_trial_404 : decode cX3_trial 404 = .ok (.iload 7, 2) := by decide +kernel
theorem dX3_trial_406 : decode cX3_trial 406 = .ok (.iastore, 1) := by decide +kernel
theorem dX3_trial_407 : decode cX3_trial 407 = .ok (.aload_n 0, 1) := by decide +kernel
theorem dX3_trial_408 : decode cX3_trial 408 = .ok (.getfield 22, 3) := by decide +kernel
theorem dX3_trial_411 : decode cX3_trial 411 = .ok (.iload_n 1, 1) := by decide +kernel
theorem dX3_trial_412 : decode cX3_trial 412 = .ok (.dup2, 1) := by decide +kernel
theorem dX3_trial_413 : decode cX3_trial 413 = .ok (.iaload, 1) := by decide +kernel
theorem dX3_trial_414 : decode cX3_trial 414 = .ok (.iconst 1, 1) := by decide +kernel
theorem dX3_trial_415 : decode cX3_trial 415 = .ok (.iadd, 1) := by decide +kernel
theorem dX3_trial_416 : decode cX3_trial 416 = .ok (.iastore, 1) := by decide +kernel
theorem dX3_trial_417 : decode cX3_trial 417 = .ok (.aload_n 0, 1) := by decide +kernel
theorem dX3_trial_418 : decode cX3_trial 418 = .ok (.getfield 34, 3) := by decide +kernel
theorem dX3_trial_421 : decode cX3_trial 421 = .ok (.iload_n 1, 1) := by decide +kernel
theorem dX3_trial_422 : decode cX3_trial 422 = .ok (.iconst 0, 1) := by decide +kernel
theorem dX3_trial_423 : decode cX3_trial 423 = .ok (.iastore, 1) := by decide +kernel
theorem dX3_trial_424 : decode cX3_trial 424 = .ok (.iload 7, 2) := by decide +kernel
theorem dX3_trial_426 : decode cX3_trial 426 = .ok (.ireturn, 1) := by decide +kernel
theorem dX3_unsettle_0 : decode cX3_unsettle 0 = .ok (.iconst 0, 1) := by decide +kernel
theorem dX3_unsettle_1 : decode cX3_unsettle 1 = .ok (.istore_n 2, 1) := by decide +kernel
theorem dX3_unsettle_2 : decode cX3_unsettle 2 = .ok (.iload_n 2, 1) := by decide +kernel
theorem dX3_unsettle_3 : decode cX3_unsettle 3 = .ok (.aload_n 0, 1) := by decide +kernel
theorem dX3_unsettle_4 : decode cX3_unsettle 4 = .ok (.getfield 111, 3) := by decide +kernel
theorem dX3_unsettle_7 : decode cX3_unsettle 7 = .ok (.if_icmp .ge 51, 3) := by decide +kernel
theorem dX3_unsettle_10 : decode cX3_unsettle 10 = .ok (.aload_n 0, 1) := by decide +kernel
theorem dX3_unsettle_11 : decode cX3_unsettle 11 = .ok (.getfield 71, 3) := by decide +kernel
theorem dX3_unsettle_14 : decode cX3_unsettle 14 = .ok (.iload_n 2, 1) := by decide +kernel
theorem dX3_unsettle_15 : decode cX3_unsettle 15 = .ok (.iaload, 1) := by decide +kernel
theorem dX3_unsettle_16 : decode cX3_unsettle 16 = .ok (.ldc 95, 2) := by decide +kernel
theorem dX3_unsettle_18 : decode cX3_unsettle 18 = .ok (.if_icmp .eq 34, 3) := by decide +kernel
theorem dX3_unsettle_21 : decode cX3_unsettle 21 = .ok (.aload_n 0, 1) := by decide +kernel
theorem dX3_unsettle_22 : decode cX3_unsettle 22 = .ok (.getfield 71, 3) := by decide +kernel
theorem dX3_unsettle_25 : decode cX3_unsettle 25 = .ok (.iload_n 2, 1) := by decide +kernel
theorem dX3_unsettle_26 : decode cX3_unsettle 26 = .ok (.iaload, 1) := by decide +kernel
theorem dX3_unsettle_27 : decode cX3_unsettle 27 = .ok (.iload_n 1, 1) := by decide +kernel
theorem dX3_unsettle_28 : decode cX3_unsettle 28 = .ok (.if_icmp .eq 17, 3) := by decide +kernel
theorem dX3_unsettle_31 : decode cX3_unsettle 31 = .ok (.aload_n 0, 1) := by decide +kernel
theorem dX3_unsettle_32 : decode cX3_unsettle 32 = .ok (.getfield 65, 3) := by decide +kernel
theorem dX3_unsettle_35 : decode cX3_unsettle 35 = .ok (.aload_n 0, 1) := by decide +kernel
theorem dX3_unsettle_36 : decode cX3_unsettle 36 = .ok (.getfield 71, 3) := by decide +kernel
theorem dX3_unsettle_39 : decode cX3_unsettle 39 = .ok (.iload_n 2, 1) := by decide +kernel
theorem dX3_unsettle_40 : decode cX3_unsettle 40 = .ok (.iaload, 1) := by decide +kernel
theorem dX3_unsettle_41 : decode cX3_unsettle 41 = .ok (.baload, 1) := by decide +kernel
theorem dX3_unsettle_42 : decode cX3_unsettle 42 = .ok (.ifCond .ne 10, 3) := by decide +kernel
theorem dX3_unsettle_45 : decode cX3_unsettle 45 = .ok (.aload_n 0, 1) := by decide +kernel
theorem dX3_unsettle_46 : decode cX3_unsettle 46 = .ok (.getfield 65, 3) := by decide +kernel
theorem dX3_unsettle_49 : decode cX3_unsettle 49 = .ok (.iload_n 2, 1) := by decide +kernel
theorem dX3_unsettle_50 : decode cX3_unsettle 50 = .ok (.iconst 0, 1) := by decide +kernel
theorem dX3_unsettle_51 : decode cX3_unsettle 51 = .ok (.bastore, 1) := by decide +kernel
theorem dX3_unsettle_52 : decode cX3_unsettle 52 = .ok (.iinc 2 1, 3) := by decide +kernel
theorem dX3_unsettle_55 : decode cX3_unsettle 55 = .ok (.goto (-53), 3) := by decide +kernel
theorem dX3_unsettle_58 : decode cX3_unsettle 58 = .ok (.return_, 1) := by decide +kernel
theorem dX3_told_0 : decode cX3_told 0 = .ok (.iload_n 1, 1) := by decide +kernel
theorem dX3_told_1 : decode cX3_told 1 = .ok (.iconst 0, 1) := by decide +kernel
theorem dX3_told_2 : decode cX3_told 2 = .ok (.aload_n 0, 1) := by decide +kernel
theorem dX3_told_3 : decode cX3_told 3 = .ok (.getfield 111, 3) := by decide +kernel
theorem dX3_told_6 : decode cX3_told 6 = .ok (.iconst 1, 1) := by decide +kernel
theorem dX3_told_7 : decode cX3_told 7 = .ok (.isub, 1) := by decide +kernel
theorem dX3_told_8 : decode cX3_told 8 = .ok (.invokestatic 88, 3) := by decide +kernel
theorem dX3_told_11 : decode cX3_told 11 = .ok (.ifCond .ne 5, 3) := by decide +kernel
theorem dX3_told_14 : decode cX3_told 14 = .ok (.iconst (-1), 1) := by decide +kernel
theorem dX3_told_15 : decode cX3_told 15 = .ok (.ireturn, 1) := by decide +kernel
theorem dX3_told_16 : decode cX3_told 16 = .ok (.iload_n 2, 1) := by decide +kernel
theorem dX3_told_17 : decode cX3_told 17 = .ok (.tableswitch 119 0 7 #[47, 54, 61, 68, 75, 82, 97, 112], 47) := by decide +kernel
theorem dX3_told_64 : decode cX3_told 64 = .ok (.aload_n 0, 1) := by decide +kernel
theorem dX3_told_65 : decode cX3_told 65 = .ok (.getfield 50, 3) := by decide +kernel
theorem dX3_told_68 : decode cX3_told 68 = .ok (.iload_n 1, 1) := by decide +kernel
theorem dX3_told_69 : decode cX3_told 69 = .ok (.iaload, 1) := by decide +kernel
theorem dX3_told_70 : decode cX3_told 70 = .ok (.ireturn, 1) := by decide +kernel
theorem dX3_told_71 : decode cX3_told 71 = .ok (.aload_n 0, 1) := by decide +kernel
theorem dX3_told_72 : decode cX3_told 72 = .ok (.getfield 53, 3) := by decide +kernel
theorem dX3_told_75 : decode cX3_told 75 = .ok (.iload_n 1, 1) := by decide +kernel
theorem dX3_told_76 : decode cX3_told 76 = .ok (.iaload, 1) := by decide +kernel
theorem dX3_told_77 : decode cX3_told 77 = .ok (.ireturn, 1) := by decide +kernel
theorem dX3_told_78 : decode cX3_told 78 = .ok (.aload_n 0, 1) := by decide +kernel
theorem dX3_told_79 : decode cX3_told 79 = .ok (.getfield 56, 3) := by decide +kernel
theorem dX3_told_82 : decode cX3_told 82 = .ok (.iload_n 1, 1) := by decide +kernel
theorem dX3_told_83 : decode cX3_told 83 = .ok (.iaload, 1) := by decide +kernel
theorem dX3_told_84 : decode cX3_told 84 = .ok (.ireturn, 1) := by decide +kernel
theorem dX3_told_85 : decode cX3_told 85 = .ok (.aload_n 0, 1) := by decide +kernel
theorem dX3_told_86 : decode cX3_told 86 = .ok (.getfield 59, 3) := by decide +kernel
theorem dX3_told_89 : decode cX3_told 89 = .ok (.iload_n 1, 1) := by decide +kernel
theorem dX3_told_90 : decode cX3_told 90 = .ok (.iaload, 1) := by decide +kernel
theorem dX3_told_91 : decode cX3_told 91 = .ok (.ireturn, 1) := by decide +kernel
theorem dX3_told_92 : decode cX3_told 92 = .ok (.aload_n 0, 1) := by decide +kernel
theorem dX3_told_93 : decode cX3_told 93 = .ok (.getfield 62, 3) := by decide +kernel
theorem dX3_told_96 : decode cX3_told 96 = .ok (.iload_n 1, 1) := by decide +kernel
theorem dX3_told_97 : decode cX3_told 97 = .ok (.iaload, 1) := by decide +kernel
theorem dX3_told_98 : decode cX3_told 98 = .ok (.ireturn, 1) := by decide +kernel
theorem dX3_told_99 : decode cX3_told 99 = .ok (.aload_n 0, 1) := by decide +kernel
theorem dX3_told_100 : decode cX3_told 100 = .ok (.getfield 65, 3) := by decide +kernel
theorem dX3_told_103 : decode cX3_told 103 = .ok (.iload_n 1, 1) := by decide +kernel
theorem dX3_told_104 : decode cX3_told 104 = .ok (.baload, 1) := by decide +kernel
theorem dX3_told_105 : decode cX3_told 105 = .ok (.ifCond .eq 7, 3) := by decide +kernel
theorem dX3_told_108 : decode cX3_told 108 = .ok (.iconst 1, 1) := by decide +kernel
theorem dX3_told_109 : decode cX3_told 109 = .ok (.goto 4, 3) := by decide +kernel
theorem dX3_told_112 : decode cX3_told 112 = .ok (.iconst 0, 1) := by decide +kernel
theorem dX3_told_113 : decode cX3_told 113 = .ok (.ireturn, 1) := by decide +kernel
theorem dX3_told_114 : decode cX3_told 114 = .ok (.aload_n 0, 1) := by decide +kernel
theorem dX3_told_115 : decode cX3_told 115 = .ok (.getfield 68, 3) := by decide +kernel
theorem dX3_told_118 : decode cX3_told 118 = .ok (.iload_n 1, 1) := by decide +kernel
theorem dX3_told_119 : decode cX3_told 119 = .ok (.baload, 1) := by decide +kernel
theorem dX3_told_120 : decode cX3_told 120 = .ok (.ifCond .eq 7, 3) := by decide +kernel
theorem dX3_told_123 : decode cX3_told 123 = .ok (.iconst 1, 1) := by decide +kernel
theorem dX3_told_124 : decode cX3_told 124 = .ok (.goto 4, 3) := by decide +kernel
theorem dX3_told_127 : decode cX3_told 127 = .ok (.iconst 0, 1) := by decide +kernel
theorem dX3_told_128 : decode cX3_told 128 = .ok (.ireturn, 1) := by decide +kernel
theorem dX3_told_129 : decode cX3_told 129 = .ok (.aload_n 0, 1) := by decide +kernel
theorem dX3_told_130 : decode cX3_told 130 = .ok (.getfield 71, 3) := by decide +kernel
theorem dX3_told_133 : decode cX3_told 133 = .ok (.iload_n 1, 1) := by decide +kernel
theorem dX3_told_134 : decode cX3_told 134 = .ok (.iaload, 1) := by decide +kernel
theorem dX3_told_135 : decode cX3_told 135 = .ok (.ireturn, 1) := by decide +kernel
theorem dX3_told_136 : decode cX3_told 136 = .ok (.bipush (-2), 2) := by decide +kernel
theorem dX3_told_138 : decode cX3_told 138 = .ok (.ireturn, 1) := by decide +kernel
theorem dX3_error_0 : decode cX3_error 0 = .ok (.aload_n 0, 1) := by decide +kernel
theorem dX3_error_1 : decode cX3_error 1 = .ok (.iload_n 1, 1) := by decide +kernel
theorem dX3_error_2 : decode cX3_error 2 = .ok (.invokevirtual 96, 3) := by decide +kernel
theorem dX3_error_5 : decode cX3_error 5 = .ok (.ifCond .ne 5, 3) := by decide +kernel
theorem dX3_error_8 : decode cX3_error 8 = .ok (.iconst (-1), 1) := by decide +kernel
theorem dX3_error_9 : decode cX3_error 9 = .ok (.ireturn, 1) := by decide +kernel
theorem dX3_error_10 : decode cX3_error 10 = .ok (.aload_n 0, 1) := by decide +kernel
theorem dX3_error_11 : decode cX3_error 11 = .ok (.getfield 7, 3) := by decide +kernel
theorem dX3_error_14 : decode cX3_error 14 = .ok (.iload_n 1, 1) := by decide +kernel
theorem dX3_error_15 : decode cX3_error 15 = .ok (.iaload, 1) := by decide +kernel
theorem dX3_error_16 : decode cX3_error 16 = .ok (.ifCond .ne 7, 3) := by decide +kernel
theorem dX3_error_19 : decode cX3_error 19 = .ok (.iconst 0, 1) := by decide +kernel
theorem dX3_error_20 : decode cX3_error 20 = .ok (.goto 30, 3) := by decide +kernel
theorem dX3_error_23 : decode cX3_error 23 = .ok (.aload_n 0, 1) := by decide +kernel
theorem dX3_error_24 : decode cX3_error 24 = .ok (.getfield 25, 3) := by decide +kernel
theorem dX3_error_27 : decode cX3_error 27 = .ok (.iload_n 1, 1) := by decide +kernel
theorem dX3_error_28 : decode cX3_error 28 = .ok (.iaload, 1) := by decide +kernel
theorem dX3_error_29 : decode cX3_error 29 = .ok (.ldc 95, 2) := by decide +kernel
theorem dX3_error_31 : decode cX3_error 31 = .ok (.if_icmp .ne 8, 3) := by decide +kernel
theorem dX3_error_34 : decode cX3_error 34 = .ok (.ldc 95, 2) := by decide +kernel
theorem dX3_error_36 : decode cX3_error 36 = .ok (.goto 14, 3) := by decide +kernel
theorem dX3_error_39 : decode cX3_error 39 = .ok (.aload_n 0, 1) := by decide +kernel
theorem dX3_error_40 : decode cX3_error 40 = .ok (.getfield 59, 3) := by decide +kernel
theorem dX3_error_43 : decode cX3_error 43 = .ok (.aload_n 0, 1) := by decide +kernel
theorem dX3_error_44 : decode cX3_error 44 = .ok (.getfield 25, 3) := by decide +kernel
theorem dX3_error_47 : decode cX3_error 47 = .ok (.iload_n 1, 1) := by decide +kernel
theorem dX3_error_48 : decode cX3_error 48 = .ok (.iaload, 1) := by decide +kernel
theorem dX3_error_49 : decode cX3_error 49 = .ok (.iaload, 1) := by decide +kernel
theorem dX3_error_50 : decode cX3_error 50 = .ok (.ireturn, 1) := by decide +kernel
theorem dX3_span_0 : decode cX3_span 0 = .ok (.aload_n 0, 1) := by decide +kernel
theorem dX3_span_1 : decode cX3_span 1 = .ok (.iload_n 1, 1) := by decide +kernel
theorem dX3_span_2 : decode cX3_span 2 = .ok (.invokevirtual 96, 3) := by decide +kernel
theorem dX3_span_5 : decode cX3_span 5 = .ok (.ifCond .ne 5, 3) := by decide +kernel
theorem dX3_span_8 : decode cX3_span 8 = .ok (.iconst (-1), 1) := by decide +kernel
theorem dX3_span_9 : decode cX3_span 9 = .ok (.ireturn, 1) := by decide +kernel
theorem dX3_span_10 : decode cX3_span 10 = .ok (.aload_n 0, 1) := by decide +kernel
theorem dX3_span_11 : decode cX3_span 11 = .ok (.getfield 7, 3) := by decide +kernel
theorem dX3_span_14 : decode cX3_span 14 = .ok (.iload_n 1, 1) := by decide +kernel
theorem dX3_span_15 : decode cX3_span 15 = .ok (.iaload, 1) := by decide +kernel
theorem dX3_span_16 : decode cX3_span 16 = .ok (.ifCond .ne 7, 3) := by decide +kernel
theorem dX3_span_19 : decode cX3_span 19 = .ok (.iconst 0, 1) := by decide +kernel
theorem dX3_span_20 : decode cX3_span 20 = .ok (.goto 28, 3) := by decide +kernel
theorem dX3_span_23 : decode cX3_span 23 = .ok (.aload_n 0, 1) := by decide +kernel
theorem dX3_span_24 : decode cX3_span 24 = .ok (.getfield 25, 3) := by decide +kernel
theorem dX3_span_27 : decode cX3_span 27 = .ok (.iload_n 1, 1) := by decide +kernel
theorem dX3_span_28 : decode cX3_span 28 = .ok (.iaload, 1) := by decide +kernel
theorem dX3_span_29 : decode cX3_span 29 = .ok (.ldc 95, 2) := by decide +kernel
theorem dX3_span_31 : decode cX3_span 31 = .ok (.if_icmp .ne 8, 3) := by decide +kernel
theorem dX3_span_34 : decode cX3_span 34 = .ok (.ldc 95, 2) := by decide +kernel
theorem dX3_span_36 : decode cX3_span 36 = .ok (.goto 12, 3) := by decide +kernel
theorem dX3_span_39 : decode cX3_span 39 = .ok (.aload_n 0, 1) := by decide +kernel
theorem dX3_span_40 : decode cX3_span 40 = .ok (.iload_n 1, 1) := by decide +kernel
theorem dX3_span_41 : decode cX3_span 41 = .ok (.aload_n 0, 1) := by decide +kernel
theorem dX3_span_42 : decode cX3_span 42 = .ok (.getfield 92, 3) := by decide +kernel
theorem dX3_span_45 : decode cX3_span 45 = .ok (.invokevirtual 121, 3) := by decide +kernel
theorem dX3_span_48 : decode cX3_span 48 = .ok (.ireturn, 1) := by decide +kernel
theorem dX3_settled_0 : decode cX3_settled 0 = .ok (.aload_n 0, 1) := by decide +kernel
theorem dX3_settled_1 : decode cX3_settled 1 = .ok (.iload_n 1, 1) := by decide +kernel
theorem dX3_settled_2 : decode cX3_settled 2 = .ok (.invokevirtual 96, 3) := by decide +kernel
theorem dX3_settled_5 : decode cX3_settled 5 = .ok (.ifCond .ne 7, 3) := by decide +kernel
theorem dX3_settled_8 : decode cX3_settled 8 = .ok (.iconst (-1), 1) := by decide +kernel
theorem dX3_settled_9 : decode cX3_settled 9 = .ok (.goto 16, 3) := by decide +kernel
theorem dX3_settled_12 : decode cX3_settled 12 = .ok (.aload_n 0, 1) := by decide +kernel
theorem dX3_settled_13 : decode cX3_settled 13 = .ok (.iload_n 1, 1) := by decide +kernel
theorem dX3_settled_14 : decode cX3_settled 14 = .ok (.invokevirtual 105, 3) := by decide +kernel
theorem dX3_settled_17 : decode cX3_settled 17 = .ok (.ifCond .eq 7, 3) := by decide +kernel
theorem dX3_settled_20 : decode cX3_settled 20 = .ok (.iconst 1, 1) := by decide +kernel
theorem dX3_settled_21 : decode cX3_settled 21 = .ok (.goto 4, 3) := by decide +kernel
theorem dX3_settled_24 : decode cX3_settled 24 = .ok (.iconst 0, 1) := by decide +kernel
theorem dX3_settled_25 : decode cX3_settled 25 = .ok (.ireturn, 1) := by decide +kernel
theorem dX3_due_0 : decode cX3_due 0 = .ok (.aload_n 0, 1) := by decide +kernel
theorem dX3_due_1 : decode cX3_due 1 = .ok (.iload_n 1, 1) := by decide +kernel
theorem dX3_due_2 : decode cX3_due 2 = .ok (.invokevirtual 96, 3) := by decide +kernel
theorem dX3_due_5 : decode cX3_due 5 = .ok (.ifCond .ne 7, 3) := by decide +kernel
theorem dX3_due_8 : decode cX3_due 8 = .ok (.iconst (-1), 1) := by decide +kernel
theorem dX3_due_9 : decode cX3_due 9 = .ok (.goto 16, 3) := by decide +kernel
theorem dX3_due_12 : decode cX3_due 12 = .ok (.aload_n 0, 1) := by decide +kernel
theorem dX3_due_13 : decode cX3_due 13 = .ok (.iload_n 1, 1) := by decide +kernel
theorem dX3_due_14 : decode cX3_due 14 = .ok (.invokevirtual 108, 3) := by decide +kernel
theorem dX3_due_17 : decode cX3_due 17 = .ok (.ifCond .eq 7, 3) := by decide +kernel
theorem dX3_due_20 : decode cX3_due 20 = .ok (.iconst 1, 1) := by decide +kernel
theorem dX3_due_21 : decode cX3_due 21 = .ok (.goto 4, 3) := by decide +kernel
theorem dX3_due_24 : decode cX3_due 24 = .ok (.iconst 0, 1) := by decide +kernel
theorem dX3_due_25 : decode cX3_due 25 = .ok (.ireturn, 1) := by decide +kernel
theorem dX3_left_0 : decode cX3_left 0 = .ok (.aload_n 0, 1) := by decide +kernel
theorem dX3_left_1 : decode cX3_left 1 = .ok (.iload_n 1, 1) := by decide +kernel
theorem dX3_left_2 : decode cX3_left 2 = .ok (.invokevirtual 96, 3) := by decide +kernel
theorem dX3_left_5 : decode cX3_left 5 = .ok (.ifCond .ne 5, 3) := by decide +kernel
theorem dX3_left_8 : decode cX3_left 8 = .ok (.iconst (-1), 1) := by decide +kernel
theorem dX3_left_9 : decode cX3_left 9 = .ok (.ireturn, 1) := by decide +kernel
theorem dX3_left_10 : decode cX3_left 10 = .ok (.aload_n 0, 1) := by decide +kernel
theorem dX3_left_11 : decode cX3_left 11 = .ok (.getfield 7, 3) := by decide +kernel
theorem dX3_left_14 : decode cX3_left 14 = .ok (.iload_n 1, 1) := by decide +kernel
theorem dX3_left_15 : decode cX3_left 15 = .ok (.iaload, 1) := by decide +kernel
theorem dX3_left_16 : decode cX3_left 16 = .ok (.ifCond .ne 8, 3) := by decide +kernel
theorem dX3_left_19 : decode cX3_left 19 = .ok (.ldc 95, 2) := by decide +kernel
theorem dX3_left_21 : decode cX3_left 21 = .ok (.goto 40, 3) := by decide +kernel
theorem dX3_left_24 : decode cX3_left 24 = .ok (.aload_n 0, 1) := by decide +kernel
theorem dX3_left_25 : decode cX3_left 25 = .ok (.iload_n 1, 1) := by decide +kernel
theorem dX3_left_26 : decode cX3_left 26 = .ok (.invokevirtual 108, 3) := by decide +kernel
theorem dX3_left_29 : decode cX3_left 29 = .ok (.ifCond .eq 7, 3) := by decide +kernel
theorem dX3_left_32 : decode cX3_left 32 = .ok (.iconst 0, 1) := by decide +kernel
theorem dX3_left_33 : decode cX3_left 33 = .ok (.goto 28, 3) := by decide +kernel
theorem dX3_left_36 : decode cX3_left 36 = .ok (.aload_n 0, 1) := by decide +kernel
theorem dX3_left_37 : decode cX3_left 37 = .ok (.getfield 56, 3) := by decide +kernel
theorem dX3_left_40 : decode cX3_left 40 = .ok (.aload_n 0, 1) := by decide +kernel
theorem dX3_left_41 : decode cX3_left 41 = .ok (.getfield 25, 3) := by decide +kernel
theorem dX3_left_44 : decode cX3_left 44 = .ok (.iload_n 1, 1) := by decide +kernel
theorem dX3_left_45 : decode cX3_left 45 = .ok (.iaload, 1) := by decide +kernel
theorem dX3_left_46 : decode cX3_left 46 = .ok (.iaload, 1) := by decide +kernel
theorem dX3_left_47 : decode cX3_left 47 = .ok (.aload_n 0, 1) := by decide +kernel
theorem dX3_left_48 : decode cX3_left 48 = .ok (.getfield 16, 3) := by decide +kernel
theorem dX3_left_51 : decode cX3_left 51 = .ok (.iload_n 1, 1) := by decide +kernel
theorem dX3_left_52 : decode cX3_left 52 = .ok (.iaload, 1) := by decide +kernel
theorem dX3_left_53 : decode cX3_left 53 = .ok (.iadd, 1) := by decide +kernel
theorem dX3_left_54 : decode cX3_left 54 = .ok (.iconst 1, 1) := by decide +kernel
theorem dX3_left_55 : decode cX3_left 55 = .ok (.iadd, 1) := by decide +kernel
theorem dX3_left_56 : decode cX3_left 56 = .ok (.aload_n 0, 1) := by decide +kernel
theorem dX3_left_57 : decode cX3_left 57 = .ok (.getfield 92, 3) := by decide +kernel
theorem dX3_left_60 : decode cX3_left 60 = .ok (.isub, 1) := by decide +kernel
theorem dX3_left_61 : decode cX3_left 61 = .ok (.ireturn, 1) := by decide +kernel
theorem dX3_chain_0 : decode cX3_chain 0 = .ok (.aload_n 0, 1) := by decide +kernel
theorem dX3_chain_1 : decode cX3_chain 1 = .ok (.iload_n 1, 1) := by decide +kernel
theorem dX3_chain_2 : decode cX3_chain 2 = .ok (.invokevirtual 96, 3) := by decide +kernel
theorem dX3_chain_5 : decode cX3_chain 5 = .ok (.ifCond .ne 5, 3) := by decide +kernel
theorem dX3_chain_8 : decode cX3_chain 8 = .ok (.iconst (-1), 1) := by decide +kernel
theorem dX3_chain_9 : decode cX3_chain 9 = .ok (.ireturn, 1) := by decide +kernel
theorem dX3_chain_10 : decode cX3_chain 10 = .ok (.aload_n 0, 1) := by decide +kernel
theorem dX3_chain_11 : decode cX3_chain 11 = .ok (.getfield 25, 3) := by decide +kernel
theorem dX3_chain_14 : decode cX3_chain 14 = .ok (.iload_n 1, 1) := by decide +kernel
theorem dX3_chain_15 : decode cX3_chain 15 = .ok (.iaload, 1) := by decide +kernel
theorem dX3_chain_16 : decode cX3_chain 16 = .ok (.istore_n 3, 1) := by decide +kernel
theorem dX3_chain_17 : decode cX3_chain 17 = .ok (.iconst 0, 1) := by decide +kernel
theorem dX3_chain_18 : decode cX3_chain 18 = .ok (.istore 4, 2) := by decide +kernel
theorem dX3_chain_20 : decode cX3_chain 20 = .ok (.iload 4, 2) := by decide +kernel
theorem dX3_chain_22 : decode cX3_chain 22 = .ok (.iload_n 2, 1) := by decide +kernel
theorem dX3_chain_23 : decode cX3_chain 23 = .ok (.if_icmp .ge 22, 3) := by decide +kernel
theorem dX3_chain_26 : decode cX3_chain 26 = .ok (.iload_n 3, 1) := by decide +kernel
theorem dX3_chain_27 : decode cX3_chain 27 = .ok (.ldc 95, 2) := by decide +kernel
theorem dX3_chain_29 : decode cX3_chain 29 = .ok (.if_icmp .eq 16, 3) := by decide +kernel
theorem dX3_chain_32 : decode cX3_chain 32 = .ok (.aload_n 0, 1) := by decide +kernel
theorem dX3_chain_33 : decode cX3_chain 33 = .ok (.getfield 71, 3) := by decide +kernel
theorem dX3_chain_36 : decode cX3_chain 36 = .ok (.iload_n 3, 1) := by decide +kernel
theorem dX3_chain_37 : decode cX3_chain 37 = .ok (.iaload, 1) := by decide +kernel
theorem dX3_chain_38 : decode cX3_chain 38 = .ok (.istore_n 3, 1) := by decide +kernel
theorem dX3_chain_39 : decode cX3_chain 39 = .ok (.iinc 4 1, 3) := by decide +kernel
theorem dX3_chain_42 : decode cX3_chain 42 = .ok (.goto (-22), 3) := by decide +kernel
theorem dX3_chain_45 : decode cX3_chain 45 = .ok (.iload_n 2, 1) := by decide +kernel
theorem dX3_chain_46 : decode cX3_chain 46 = .ok (.ifCond .ge 8, 3) := by decide +kernel
theorem dX3_chain_49 : decode cX3_chain 49 = .ok (.ldc 95, 2) := by decide +kernel
theorem dX3_chain_51 : decode cX3_chain 51 = .ok (.goto 4, 3) := by decide +kernel
theorem dX3_chain_54 : decode cX3_chain 54 = .ok (.iload_n 3, 1) := by decide +kernel
theorem dX3_chain_55 : decode cX3_chain 55 = .ok (.ireturn, 1) := by decide +kernel
theorem dX3_unsettled_0 : decode cX3_unsettled 0 = .ok (.iconst 0, 1) := by decide +kernel
theorem dX3_unsettled_1 : decode cX3_unsettled 1 = .ok (.istore_n 1, 1) := by decide +kernel
theorem dX3_unsettled_2 : decode cX3_unsettled 2 = .ok (.iconst 0, 1) := by decide +kernel
theorem dX3_unsettled_3 : decode cX3_unsettled 3 = .ok (.istore_n 2, 1) := by decide +kernel
theorem dX3_unsettled_4 : decode cX3_unsettled 4 = .ok (.iload_n 2, 1) := by decide +kernel
theorem dX3_unsettled_5 : decode cX3_unsettled 5 = .ok (.aload_n 0, 1) := by decide +kernel
theorem dX3_unsettled_6 : decode cX3_unsettled 6 = .ok (.getfield 111, 3) := by decide +kernel
theorem dX3_unsettled_9 : decode cX3_unsettled 9 = .ok (.if_icmp .ge 26, 3) := by decide +kernel
theorem dX3_unsettled_12 : decode cX3_unsettled 12 = .ok (.iload_n 1, 1) := by decide +kernel
theorem dX3_unsettled_13 : decode cX3_unsettled 13 = .ok (.aload_n 0, 1) := by decide +kernel
theorem dX3_unsettled_14 : decode cX3_unsettled 14 = .ok (.getfield 65, 3) := by decide +kernel
theorem dX3_unsettled_17 : decode cX3_unsettled 17 = .ok (.iload_n 2, 1) := by decide +kernel
theorem dX3_unsettled_18 : decode cX3_unsettled 18 = .ok (.baload, 1) := by decide +kernel
theorem dX3_unsettled_19 : decode cX3_unsettled 19 = .ok (.ifCond .eq 7, 3) := by decide +kernel
theorem dX3_unsettled_22 : decode cX3_unsettled 22 = .ok (.iconst 0, 1) := by decide +kernel
theorem dX3_unsettled_23 : decode cX3_unsettled 23 = .ok (.goto 4, 3) := by decide +kernel
theorem dX3_unsettled_26 : decode cX3_unsettled 26 = .ok (.iconst 1, 1) := by decide +kernel
theorem dX3_unsettled_27 : decode cX3_unsettled 27 = .ok (.iadd, 1) := by decide +kernel
theorem dX3_unsettled_28 : decode cX3_unsettled 28 = .ok (.istore_n 1, 1) := by decide +kernel
theorem dX3_unsettled_29 : decode cX3_unsettled 29 = .ok (.iinc 2 1, 3) := by decide +kernel
theorem dX3_unsettled_32 : decode cX3_unsettled 32 = .ok (.goto (-28), 3) := by decide +kernel
theorem dX3_unsettled_35 : decode cX3_unsettled 35 = .ok (.iload_n 1, 1) := by decide +kernel
theorem dX3_unsettled_36 : decode cX3_unsettled 36 = .ok (.ireturn, 1) := by decide +kernel
theorem dX3_allowance_0 : decode cX3_allowance 0 = .ok (.aload_n 0, 1) := by decide +kernel
theorem dX3_allowance_1 : decode cX3_allowance 1 = .ok (.getfield 22, 3) := by decide +kernel
theorem dX3_allowance_4 : decode cX3_allowance 4 = .ok (.iload_n 1, 1) := by decide +kernel
theorem dX3_allowance_5 : decode cX3_allowance 5 = .ok (.iaload, 1) := by decide +kernel
theorem dX3_allowance_6 : decode cX3_allowance 6 = .ok (.iconst 1, 1) := by decide +kernel
theorem dX3_allowance_7 : decode cX3_allowance 7 = .ok (.if_icmp .ne 17, 3) := by decide +kernel
theorem dX3_allowance_10 : decode cX3_allowance 10 = .ok (.aload_n 0, 1) := by decide +kernel
theorem dX3_allowance_11 : decode cX3_allowance 11 = .ok (.getfield 40, 3) := by decide +kernel
theorem dX3_allowance_14 : decode cX3_allowance 14 = .ok (.aload_n 0, 1) := by decide +kernel
theorem dX3_allowance_15 : decode cX3_allowance 15 = .ok (.getfield 7, 3) := by decide +kernel
theorem dX3_allowance_18 : decode cX3_allowance 18 = .ok (.iload_n 1, 1) := by decide +kernel
theorem dX3_allowance_19 : decode cX3_allowance 19 = .ok (.iaload, 1) := by decide +kernel
theorem dX3_allowance_20 : decode cX3_allowance 20 = .ok (.iaload, 1) := by decide +kernel
theorem dX3_allowance_21 : decode cX3_allowance 21 = .ok (.goto 14, 3) := by decide +kernel
theorem dX3_allowance_24 : decode cX3_allowance 24 = .ok (.aload_n 0, 1) := by decide +kernel
theorem dX3_allowance_25 : decode cX3_allowance 25 = .ok (.getfield 43, 3) := by decide +kernel
theorem dX3_allowance_28 : decode cX3_allowance 28 = .ok (.aload_n 0, 1) := by decide +kernel
theorem dX3_allowance_29 : decode cX3_allowance 29 = .ok (.getfield 7, 3) := by decide +kernel
theorem dX3_allowance_32 : decode cX3_allowance 32 = .ok (.iload_n 1, 1) := by decide +kernel
theorem dX3_allowance_33 : decode cX3_allowance 33 = .ok (.iaload, 1) := by decide +kernel
theorem dX3_allowance_34 : decode cX3_allowance 34 = .ok (.iaload, 1) := by decide +kernel
theorem dX3_allowance_35 : decode cX3_allowance 35 = .ok (.ireturn, 1) := by decide +kernel
theorem dX3_judgedOn_0 : decode cX3_judgedOn 0 = .ok (.aload_n 0, 1) := by decide +kernel
theorem dX3_judgedOn_1 : decode cX3_judgedOn 1 = .ok (.getfield 7, 3) := by decide +kernel
theorem dX3_judgedOn_4 : decode cX3_judgedOn 4 = .ok (.iload_n 1, 1) := by decide +kernel
theorem dX3_judgedOn_5 : decode cX3_judgedOn 5 = .ok (.iaload, 1) := by decide +kernel
theorem dX3_judgedOn_6 : decode cX3_judgedOn 6 = .ok (.ifCond .eq 11, 3) := by decide +kernel
theorem dX3_judgedOn_9 : decode cX3_judgedOn 9 = .ok (.aload_n 0, 1) := by decide +kernel
theorem dX3_judgedOn_10 : decode cX3_judgedOn 10 = .ok (.iload_n 1, 1) := by decide +kernel
theorem dX3_judgedOn_11 : decode cX3_judgedOn 11 = .ok (.invokevirtual 105, 3) := by decide +kernel
theorem dX3_judgedOn_14 : decode cX3_judgedOn 14 = .ok (.ifCond .ne 5, 3) := by decide +kernel
theorem dX3_judgedOn_17 : decode cX3_judgedOn 17 = .ok (.iconst 0, 1) := by decide +kernel
theorem dX3_judgedOn_18 : decode cX3_judgedOn 18 = .ok (.ireturn, 1) := by decide +kernel
theorem dX3_judgedOn_19 : decode cX3_judgedOn 19 = .ok (.aload_n 0, 1) := by decide +kernel
theorem dX3_judgedOn_20 : decode cX3_judgedOn 20 = .ok (.iload_n 1, 1) := by decide +kernel
theorem dX3_judgedOn_21 : decode cX3_judgedOn 21 = .ok (.invokevirtual 132, 3) := by decide +kernel
theorem dX3_judgedOn_24 : decode cX3_judgedOn 24 = .ok (.istore_n 3, 1) := by decide +kernel
theorem dX3_judgedOn_25 : decode cX3_judgedOn 25 = .ok (.aload_n 0, 1) := by decide +kernel
theorem dX3_judgedOn_26 : decode cX3_judgedOn 26 = .ok (.iload_n 1, 1) := by decide +kernel
theorem dX3_judgedOn_27 : decode cX3_judgedOn 27 = .ok (.invokevirtual 114, 3) := by decide +kernel
theorem dX3_judgedOn_30 : decode cX3_judgedOn 30 = .ok (.aload_n 0, 1) := by decide +kernel
theorem dX3_judgedOn_31 : decode cX3_judgedOn 31 = .ok (.iload_n 1, 1) := by decide +kernel
theorem dX3_judgedOn_32 : decode cX3_judgedOn 32 = .ok (.iload_n 2, 1) := by decide +kernel
