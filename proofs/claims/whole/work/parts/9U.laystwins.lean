/-! ===== the reference's laysTwins ===== -/
theorem d_X12_laysTwins_0 : decode cX12_laysTwins 0 = .ok (.aload_n 0, 1) := by decide +kernel
theorem d_X12_laysTwins_1 : decode cX12_laysTwins 1 = .ok (.invokevirtual 421, 3) := by decide +kernel
theorem d_X12_laysTwins_4 : decode cX12_laysTwins 4 = .ok (.ifCond .ne 5, 3) := by decide +kernel
theorem d_X12_laysTwins_7 : decode cX12_laysTwins 7 = .ok (.iconst 0, 1) := by decide +kernel
theorem d_X12_laysTwins_8 : decode cX12_laysTwins 8 = .ok (.ireturn, 1) := by decide +kernel
theorem d_X12_laysTwins_9 : decode cX12_laysTwins 9 = .ok (.aload_n 0, 1) := by decide +kernel
theorem d_X12_laysTwins_10 : decode cX12_laysTwins 10 = .ok (.getfield 319, 3) := by decide +kernel
theorem d_X12_laysTwins_13 : decode cX12_laysTwins 13 = .ok (.ifCond .eq 5, 3) := by decide +kernel
theorem d_X12_laysTwins_16 : decode cX12_laysTwins 16 = .ok (.iconst 1, 1) := by decide +kernel
theorem d_X12_laysTwins_17 : decode cX12_laysTwins 17 = .ok (.ireturn, 1) := by decide +kernel
theorem d_X12_laysTwins_18 : decode cX12_laysTwins 18 = .ok (.aload_n 0, 1) := by decide +kernel
theorem d_X12_laysTwins_19 : decode cX12_laysTwins 19 = .ok (.iconst 1, 1) := by decide +kernel
theorem d_X12_laysTwins_20 : decode cX12_laysTwins 20 = .ok (.putfield 319, 3) := by decide +kernel
theorem d_X12_laysTwins_23 : decode cX12_laysTwins 23 = .ok (.iconst 0, 1) := by decide +kernel
theorem d_X12_laysTwins_24 : decode cX12_laysTwins 24 = .ok (.istore_n 1, 1) := by decide +kernel
theorem d_X12_laysTwins_25 : decode cX12_laysTwins 25 = .ok (.iload_n 1, 1) := by decide +kernel
theorem d_X12_laysTwins_26 : decode cX12_laysTwins 26 = .ok (.sipush 25600, 3) := by decide +kernel
theorem d_X12_laysTwins_29 : decode cX12_laysTwins 29 = .ok (.if_icmp .ge 25, 3) := by decide +kernel
theorem d_X12_laysTwins_32 : decode cX12_laysTwins 32 = .ok (.aload_n 0, 1) := by decide +kernel
theorem d_X12_laysTwins_33 : decode cX12_laysTwins 33 = .ok (.getfield 91, 3) := by decide +kernel
theorem d_X12_laysTwins_36 : decode cX12_laysTwins 36 = .ok (.iload_n 1, 1) := by decide +kernel
theorem d_X12_laysTwins_37 : decode cX12_laysTwins 37 = .ok (.ldc_w 439, 3) := by decide +kernel
theorem d_X12_laysTwins_40 : decode cX12_laysTwins 40 = .ok (.iastore, 1) := by decide +kernel
theorem d_X12_laysTwins_41 : decode cX12_laysTwins 41 = .ok (.aload_n 0, 1) := by decide +kernel
theorem d_X12_laysTwins_42 : decode cX12_laysTwins 42 = .ok (.getfield 103, 3) := by decide +kernel
theorem d_X12_laysTwins_45 : decode cX12_laysTwins 45 = .ok (.iload_n 1, 1) := by decide +kernel
theorem d_X12_laysTwins_46 : decode cX12_laysTwins 46 = .ok (.iconst 0, 1) := by decide +kernel
theorem d_X12_laysTwins_47 : decode cX12_laysTwins 47 = .ok (.bastore, 1) := by decide +kernel
theorem d_X12_laysTwins_48 : decode cX12_laysTwins 48 = .ok (.iinc 1 1, 3) := by decide +kernel
theorem d_X12_laysTwins_51 : decode cX12_laysTwins 51 = .ok (.goto (-26), 3) := by decide +kernel
theorem d_X12_laysTwins_54 : decode cX12_laysTwins 54 = .ok (.aload_n 0, 1) := by decide +kernel
theorem d_X12_laysTwins_55 : decode cX12_laysTwins 55 = .ok (.iconst 0, 1) := by decide +kernel
theorem d_X12_laysTwins_56 : decode cX12_laysTwins 56 = .ok (.putfield 430, 3) := by decide +kernel
theorem d_X12_laysTwins_59 : decode cX12_laysTwins 59 = .ok (.aload_n 0, 1) := by decide +kernel
theorem d_X12_laysTwins_60 : decode cX12_laysTwins 60 = .ok (.iconst 1, 1) := by decide +kernel
theorem d_X12_laysTwins_61 : decode cX12_laysTwins 61 = .ok (.putfield 440, 3) := by decide +kernel
theorem d_X12_laysTwins_64 : decode cX12_laysTwins 64 = .ok (.aload_n 0, 1) := by decide +kernel
theorem d_X12_laysTwins_65 : decode cX12_laysTwins 65 = .ok (.getfield 94, 3) := by decide +kernel
theorem d_X12_laysTwins_68 : decode cX12_laysTwins 68 = .ok (.iconst 0, 1) := by decide +kernel
theorem d_X12_laysTwins_69 : decode cX12_laysTwins 69 = .ok (.iconst 0, 1) := by decide +kernel
theorem d_X12_laysTwins_70 : decode cX12_laysTwins 70 = .ok (.iastore, 1) := by decide +kernel
theorem d_X12_laysTwins_71 : decode cX12_laysTwins 71 = .ok (.aload_n 0, 1) := by decide +kernel
theorem d_X12_laysTwins_72 : decode cX12_laysTwins 72 = .ok (.getfield 91, 3) := by decide +kernel
theorem d_X12_laysTwins_75 : decode cX12_laysTwins 75 = .ok (.iconst 0, 1) := by decide +kernel
theorem d_X12_laysTwins_76 : decode cX12_laysTwins 76 = .ok (.iconst 0, 1) := by decide +kernel
theorem d_X12_laysTwins_77 : decode cX12_laysTwins 77 = .ok (.iastore, 1) := by decide +kernel
theorem d_X12_laysTwins_78 : decode cX12_laysTwins 78 = .ok (.aload_n 0, 1) := by decide +kernel
theorem d_X12_laysTwins_79 : decode cX12_laysTwins 79 = .ok (.getfield 97, 3) := by decide +kernel
theorem d_X12_laysTwins_82 : decode cX12_laysTwins 82 = .ok (.iconst 0, 1) := by decide +kernel
theorem d_X12_laysTwins_83 : decode cX12_laysTwins 83 = .ok (.iconst 0, 1) := by decide +kernel
theorem d_X12_laysTwins_84 : decode cX12_laysTwins 84 = .ok (.iastore, 1) := by decide +kernel
theorem d_X12_laysTwins_85 : decode cX12_laysTwins 85 = .ok (.aload_n 0, 1) := by decide +kernel
theorem d_X12_laysTwins_86 : decode cX12_laysTwins 86 = .ok (.iconst 1, 1) := by decide +kernel
theorem d_X12_laysTwins_87 : decode cX12_laysTwins 87 = .ok (.putfield 446, 3) := by decide +kernel
theorem d_X12_laysTwins_90 : decode cX12_laysTwins 90 = .ok (.aload_n 0, 1) := by decide +kernel
theorem d_X12_laysTwins_91 : decode cX12_laysTwins 91 = .ok (.iconst 0, 1) := by decide +kernel
theorem d_X12_laysTwins_92 : decode cX12_laysTwins 92 = .ok (.putfield 443, 3) := by decide +kernel
theorem d_X12_laysTwins_95 : decode cX12_laysTwins 95 = .ok (.aload_n 0, 1) := by decide +kernel
theorem d_X12_laysTwins_96 : decode cX12_laysTwins 96 = .ok (.iconst 0, 1) := by decide +kernel
theorem d_X12_laysTwins_97 : decode cX12_laysTwins 97 = .ok (.putfield 436, 3) := by decide +kernel
theorem d_X12_laysTwins_100 : decode cX12_laysTwins 100 = .ok (.aload_n 0, 1) := by decide +kernel
theorem d_X12_laysTwins_101 : decode cX12_laysTwins 101 = .ok (.getfield 446, 3) := by decide +kernel
theorem d_X12_laysTwins_104 : decode cX12_laysTwins 104 = .ok (.ifCond .le 101, 3) := by decide +kernel
theorem d_X12_laysTwins_107 : decode cX12_laysTwins 107 = .ok (.iconst 0, 1) := by decide +kernel
theorem d_X12_laysTwins_108 : decode cX12_laysTwins 108 = .ok (.istore_n 1, 1) := by decide +kernel
theorem d_X12_laysTwins_109 : decode cX12_laysTwins 109 = .ok (.iload_n 1, 1) := by decide +kernel
theorem d_X12_laysTwins_110 : decode cX12_laysTwins 110 = .ok (.aload_n 0, 1) := by decide +kernel
theorem d_X12_laysTwins_111 : decode cX12_laysTwins 111 = .ok (.getfield 446, 3) := by decide +kernel
theorem d_X12_laysTwins_114 : decode cX12_laysTwins 114 = .ok (.if_icmp .ge 37, 3) := by decide +kernel
theorem d_X12_laysTwins_117 : decode cX12_laysTwins 117 = .ok (.aload_n 0, 1) := by decide +kernel
theorem d_X12_laysTwins_118 : decode cX12_laysTwins 118 = .ok (.getfield 91, 3) := by decide +kernel
theorem d_X12_laysTwins_121 : decode cX12_laysTwins 121 = .ok (.aload_n 0, 1) := by decide +kernel
theorem d_X12_laysTwins_122 : decode cX12_laysTwins 122 = .ok (.getfield 97, 3) := by decide +kernel
theorem d_X12_laysTwins_125 : decode cX12_laysTwins 125 = .ok (.iload_n 1, 1) := by decide +kernel
theorem d_X12_laysTwins_126 : decode cX12_laysTwins 126 = .ok (.iaload, 1) := by decide +kernel
theorem d_X12_laysTwins_127 : decode cX12_laysTwins 127 = .ok (.iaload, 1) := by decide +kernel
theorem d_X12_laysTwins_128 : decode cX12_laysTwins 128 = .ok (.aload_n 0, 1) := by decide +kernel
theorem d_X12_laysTwins_129 : decode cX12_laysTwins 129 = .ok (.getfield 436, 3) := by decide +kernel
theorem d_X12_laysTwins_132 : decode cX12_laysTwins 132 = .ok (.if_icmp .ne 13, 3) := by decide +kernel
theorem d_X12_laysTwins_135 : decode cX12_laysTwins 135 = .ok (.aload_n 0, 1) := by decide +kernel
theorem d_X12_laysTwins_136 : decode cX12_laysTwins 136 = .ok (.aload_n 0, 1) := by decide +kernel
theorem d_X12_laysTwins_137 : decode cX12_laysTwins 137 = .ok (.getfield 97, 3) := by decide +kernel
theorem d_X12_laysTwins_140 : decode cX12_laysTwins 140 = .ok (.iload_n 1, 1) := by decide +kernel
theorem d_X12_laysTwins_141 : decode cX12_laysTwins 141 = .ok (.iaload, 1) := by decide +kernel
theorem d_X12_laysTwins_142 : decode cX12_laysTwins 142 = .ok (.invokevirtual 460, 3) := by decide +kernel
theorem d_X12_laysTwins_145 : decode cX12_laysTwins 145 = .ok (.iinc 1 1, 3) := by decide +kernel
theorem d_X12_laysTwins_148 : decode cX12_laysTwins 148 = .ok (.goto (-39), 3) := by decide +kernel
theorem d_X12_laysTwins_151 : decode cX12_laysTwins 151 = .ok (.aload_n 0, 1) := by decide +kernel
theorem d_X12_laysTwins_152 : decode cX12_laysTwins 152 = .ok (.aload_n 0, 1) := by decide +kernel
theorem d_X12_laysTwins_153 : decode cX12_laysTwins 153 = .ok (.getfield 443, 3) := by decide +kernel
theorem d_X12_laysTwins_156 : decode cX12_laysTwins 156 = .ok (.putfield 446, 3) := by decide +kernel
theorem d_X12_laysTwins_159 : decode cX12_laysTwins 159 = .ok (.iconst 0, 1) := by decide +kernel
theorem d_X12_laysTwins_160 : decode cX12_laysTwins 160 = .ok (.istore_n 1, 1) := by decide +kernel
theorem d_X12_laysTwins_161 : decode cX12_laysTwins 161 = .ok (.iload_n 1, 1) := by decide +kernel
theorem d_X12_laysTwins_162 : decode cX12_laysTwins 162 = .ok (.aload_n 0, 1) := by decide +kernel
theorem d_X12_laysTwins_163 : decode cX12_laysTwins 163 = .ok (.getfield 443, 3) := by decide +kernel
theorem d_X12_laysTwins_166 : decode cX12_laysTwins 166 = .ok (.if_icmp .ge 21, 3) := by decide +kernel
theorem d_X12_laysTwins_169 : decode cX12_laysTwins 169 = .ok (.aload_n 0, 1) := by decide +kernel
theorem d_X12_laysTwins_170 : decode cX12_laysTwins 170 = .ok (.getfield 97, 3) := by decide +kernel
theorem d_X12_laysTwins_173 : decode cX12_laysTwins 173 = .ok (.iload_n 1, 1) := by decide +kernel
theorem d_X12_laysTwins_174 : decode cX12_laysTwins 174 = .ok (.aload_n 0, 1) := by decide +kernel
theorem d_X12_laysTwins_175 : decode cX12_laysTwins 175 = .ok (.getfield 100, 3) := by decide +kernel
theorem d_X12_laysTwins_178 : decode cX12_laysTwins 178 = .ok (.iload_n 1, 1) := by decide +kernel
theorem d_X12_laysTwins_179 : decode cX12_laysTwins 179 = .ok (.iaload, 1) := by decide +kernel
theorem d_X12_laysTwins_180 : decode cX12_laysTwins 180 = .ok (.iastore, 1) := by decide +kernel
theorem d_X12_laysTwins_181 : decode cX12_laysTwins 181 = .ok (.iinc 1 1, 3) := by decide +kernel
theorem d_X12_laysTwins_184 : decode cX12_laysTwins 184 = .ok (.goto (-23), 3) := by decide +kernel
theorem d_X12_laysTwins_187 : decode cX12_laysTwins 187 = .ok (.aload_n 0, 1) := by decide +kernel
theorem d_X12_laysTwins_188 : decode cX12_laysTwins 188 = .ok (.iconst 0, 1) := by decide +kernel
theorem d_X12_laysTwins_189 : decode cX12_laysTwins 189 = .ok (.putfield 443, 3) := by decide +kernel
theorem d_X12_laysTwins_192 : decode cX12_laysTwins 192 = .ok (.aload_n 0, 1) := by decide +kernel
theorem d_X12_laysTwins_193 : decode cX12_laysTwins 193 = .ok (.dup, 1) := by decide +kernel
theorem d_X12_laysTwins_194 : decode cX12_laysTwins 194 = .ok (.getfield 436, 3) := by decide +kernel
theorem d_X12_laysTwins_197 : decode cX12_laysTwins 197 = .ok (.iconst 1, 1) := by decide +kernel
theorem d_X12_laysTwins_198 : decode cX12_laysTwins 198 = .ok (.iadd, 1) := by decide +kernel
theorem d_X12_laysTwins_199 : decode cX12_laysTwins 199 = .ok (.putfield 436, 3) := by decide +kernel
theorem d_X12_laysTwins_202 : decode cX12_laysTwins 202 = .ok (.goto (-102), 3) := by decide +kernel
theorem d_X12_laysTwins_205 : decode cX12_laysTwins 205 = .ok (.aload_n 0, 1) := by decide +kernel
theorem d_X12_laysTwins_206 : decode cX12_laysTwins 206 = .ok (.iconst 1, 1) := by decide +kernel
theorem d_X12_laysTwins_207 : decode cX12_laysTwins 207 = .ok (.putfield 430, 3) := by decide +kernel
theorem d_X12_laysTwins_210 : decode cX12_laysTwins 210 = .ok (.aload_n 0, 1) := by decide +kernel
theorem d_X12_laysTwins_211 : decode cX12_laysTwins 211 = .ok (.getfield 91, 3) := by decide +kernel
theorem d_X12_laysTwins_214 : decode cX12_laysTwins 214 = .ok (.sipush 325, 3) := by decide +kernel
theorem d_X12_laysTwins_217 : decode cX12_laysTwins 217 = .ok (.iaload, 1) := by decide +kernel
theorem d_X12_laysTwins_218 : decode cX12_laysTwins 218 = .ok (.ldc_w 439, 3) := by decide +kernel
theorem d_X12_laysTwins_221 : decode cX12_laysTwins 221 = .ok (.if_icmp .ge 7, 3) := by decide +kernel
theorem d_X12_laysTwins_224 : decode cX12_laysTwins 224 = .ok (.iconst 1, 1) := by decide +kernel
theorem d_X12_laysTwins_225 : decode cX12_laysTwins 225 = .ok (.goto 4, 3) := by decide +kernel
theorem d_X12_laysTwins_228 : decode cX12_laysTwins 228 = .ok (.iconst 0, 1) := by decide +kernel
theorem d_X12_laysTwins_229 : decode cX12_laysTwins 229 = .ok (.istore_n 1, 1) := by decide +kernel
theorem d_X12_laysTwins_230 : decode cX12_laysTwins 230 = .ok (.iload_n 1, 1) := by decide +kernel
theorem d_X12_laysTwins_231 : decode cX12_laysTwins 231 = .ok (.ifCond .eq 12, 3) := by decide +kernel
theorem d_X12_laysTwins_234 : decode cX12_laysTwins 234 = .ok (.aload_n 0, 1) := by decide +kernel
theorem d_X12_laysTwins_235 : decode cX12_laysTwins 235 = .ok (.getfield 103, 3) := by decide +kernel
theorem d_X12_laysTwins_238 : decode cX12_laysTwins 238 = .ok (.sipush 325, 3) := by decide +kernel
theorem d_X12_laysTwins_241 : decode cX12_laysTwins 241 = .ok (.iconst 1, 1) := by decide +kernel
theorem d_X12_laysTwins_242 : decode cX12_laysTwins 242 = .ok (.bastore, 1) := by decide +kernel
theorem d_X12_laysTwins_243 : decode cX12_laysTwins 243 = .ok (.iload_n 1, 1) := by decide +kernel
theorem d_X12_laysTwins_244 : decode cX12_laysTwins 244 = .ok (.ifCond .eq 79, 3) := by decide +kernel
theorem d_X12_laysTwins_247 : decode cX12_laysTwins 247 = .ok (.iconst 0, 1) := by decide +kernel
theorem d_X12_laysTwins_248 : decode cX12_laysTwins 248 = .ok (.istore_n 1, 1) := by decide +kernel
theorem d_X12_laysTwins_249 : decode cX12_laysTwins 249 = .ok (.aload_n 0, 1) := by decide +kernel
theorem d_X12_laysTwins_250 : decode cX12_laysTwins 250 = .ok (.getfield 440, 3) := by decide +kernel
theorem d_X12_laysTwins_253 : decode cX12_laysTwins 253 = .ok (.iconst 1, 1) := by decide +kernel
theorem d_X12_laysTwins_254 : decode cX12_laysTwins 254 = .ok (.isub, 1) := by decide +kernel
theorem d_X12_laysTwins_255 : decode cX12_laysTwins 255 = .ok (.istore_n 2, 1) := by decide +kernel
theorem d_X12_laysTwins_256 : decode cX12_laysTwins 256 = .ok (.iload_n 2, 1) := by decide +kernel
theorem d_X12_laysTwins_257 : decode cX12_laysTwins 257 = .ok (.ifCond .lt 63, 3) := by decide +kernel
theorem d_X12_laysTwins_260 : decode cX12_laysTwins 260 = .ok (.aload_n 0, 1) := by decide +kernel
theorem d_X12_laysTwins_261 : decode cX12_laysTwins 261 = .ok (.getfield 94, 3) := by decide +kernel
theorem d_X12_laysTwins_264 : decode cX12_laysTwins 264 = .ok (.iload_n 2, 1) := by decide +kernel
theorem d_X12_laysTwins_265 : decode cX12_laysTwins 265 = .ok (.iaload, 1) := by decide +kernel
theorem d_X12_laysTwins_266 : decode cX12_laysTwins 266 = .ok (.istore_n 3, 1) := by decide +kernel
theorem d_X12_laysTwins_267 : decode cX12_laysTwins 267 = .ok (.aload_n 0, 1) := by decide +kernel
theorem d_X12_laysTwins_268 : decode cX12_laysTwins 268 = .ok (.getfield 103, 3) := by decide +kernel
theorem d_X12_laysTwins_271 : decode cX12_laysTwins 271 = .ok (.iload_n 3, 1) := by decide +kernel
theorem d_X12_laysTwins_272 : decode cX12_laysTwins 272 = .ok (.baload, 1) := by decide +kernel
theorem d_X12_laysTwins_273 : decode cX12_laysTwins 273 = .ok (.ifCond .ne 41, 3) := by decide +kernel
theorem d_X12_laysTwins_276 : decode cX12_laysTwins 276 = .ok (.iload_n 3, 1) := by decide +kernel
theorem d_X12_laysTwins_277 : decode cX12_laysTwins 277 = .ok (.iconst 4, 1) := by decide +kernel
theorem d_X12_laysTwins_278 : decode cX12_laysTwins 278 = .ok (.irem, 1) := by decide +kernel
theorem d_X12_laysTwins_279 : decode cX12_laysTwins 279 = .ok (.ifCond .ne 6, 3) := by decide +kernel
theorem d_X12_laysTwins_282 : decode cX12_laysTwins 282 = .ok (.goto 32, 3) := by decide +kernel
theorem d_X12_laysTwins_285 : decode cX12_laysTwins 285 = .ok (.aload_n 0, 1) := by decide +kernel
theorem d_X12_laysTwins_286 : decode cX12_laysTwins 286 = .ok (.iconst 0, 1) := by decide +kernel
theorem d_X12_laysTwins_287 : decode cX12_laysTwins 287 = .ok (.putfield 433, 3) := by decide +kernel
theorem d_X12_laysTwins_290 : decode cX12_laysTwins 290 = .ok (.aload_n 0, 1) := by decide +kernel
theorem d_X12_laysTwins_291 : decode cX12_laysTwins 291 = .ok (.iload_n 3, 1) := by decide +kernel
theorem d_X12_laysTwins_292 : decode cX12_laysTwins 292 = .ok (.invokevirtual 460, 3) := by decide +kernel
theorem d_X12_laysTwins_295 : decode cX12_laysTwins 295 = .ok (.aload_n 0, 1) := by decide +kernel
theorem d_X12_laysTwins_296 : decode cX12_laysTwins 296 = .ok (.getfield 433, 3) := by decide +kernel
theorem d_X12_laysTwins_299 : decode cX12_laysTwins 299 = .ok (.ifCond .ne 6, 3) := by decide +kernel
theorem d_X12_laysTwins_302 : decode cX12_laysTwins 302 = .ok (.goto 12, 3) := by decide +kernel
theorem d_X12_laysTwins_305 : decode cX12_laysTwins 305 = .ok (.aload_n 0, 1) := by decide +kernel
theorem d_X12_laysTwins_306 : decode cX12_laysTwins 306 = .ok (.getfield 103, 3) := by decide +kernel
theorem d_X12_laysTwins_309 : decode cX12_laysTwins 309 = .ok (.iload_n 3, 1) := by decide +kernel
theorem d_X12_laysTwins_310 : decode cX12_laysTwins 310 = .ok (.iconst 1, 1) := by decide +kernel
theorem d_X12_laysTwins_311 : decode cX12_laysTwins 311 = .ok (.bastore, 1) := by decide +kernel
theorem d_X12_laysTwins_312 : decode cX12_laysTwins 312 = .ok (.iconst 1, 1) := by decide +kernel
theorem d_X12_laysTwins_313 : decode cX12_laysTwins 313 = .ok (.istore_n 1, 1) := by decide +kernel
theorem d_X12_laysTwins_314 : decode cX12_laysTwins 314 = .ok (.iinc 2 (-1), 3) := by decide +kernel
theorem d_X12_laysTwins_317 : decode cX12_laysTwins 317 = .ok (.goto (-61), 3) := by decide +kernel
theorem d_X12_laysTwins_320 : decode cX12_laysTwins 320 = .ok (.goto (-77), 3) := by decide +kernel
theorem d_X12_laysTwins_323 : decode cX12_laysTwins 323 = .ok (.iconst 1, 1) := by decide +kernel
theorem d_X12_laysTwins_324 : decode cX12_laysTwins 324 = .ok (.ireturn, 1) := by decide +kernel
def k_X12_laysTwins_0 (P : xP) (C25 : xK) : xK := x_aload 0 (y_cv0 180 (w_R f_X12_laysPlaces) (x_if_ne (x_aload 0 (y_getI 180 27 (x_if_eq (x_aload 0 (x_push (.int 1) (y_putZ 180 27 (x_push (.int 0) (x_istore 1 (C25)))))) (x_push (.int 1) (x_zret P))))) (x_push (.int 0) (x_zret P))))
set_option maxRecDepth 20000 in
theorem t_X12_laysTwins_0 {p : Program} {l : Launch} {e : Env} {s : State} {m : MethodId} {args : Array Value} {below : List Frame} {meth : Method} {c : Code} {g : xG} (X : xX p s m args c meth cX12_laysTwins RX12 4 g) (hr : meth.sig.returnType = (some .boolean)) {P : xP} {C25 : xK} (h25 : xAt p l e { frames := 6, cells := 0, slots := 0, locals := 138 } s m args below meth c g 4 xFT xN 0 0 (MQ below (xQc g xFT xN P) args s 0 0 (xFr g)) C25 25) : xAt p l e { frames := 6, cells := 0, slots := 0, locals := 138 } s m args below meth c g 4 xFT xN 0 0 (MQ below (xQc g xFT xN P) args s 0 0 (xFr g)) (k_X12_laysTwins_0 P C25) 0 := by
  unfold k_X12_laysTwins_0
  refine r_aload_n (pc := 0) X d_X12_laysTwins_0 fn0 ?_
  refine s_cv0 (pc := 1) (ci := 12) X xok12 (by decide +kernel) ob_180 rfl (con_X12_laysPlaces l) mf_X12_laysPlaces ml_RX12_421 (by decide +kernel) (by decide +kernel) d_X12_laysTwins_1 ?_
  refine r_if_ne (pc := 4) (tgt := 9) X d_X12_laysTwins_4 (by decide +kernel) ?_ ?_
  · refine r_aload_n (pc := 9) X d_X12_laysTwins_9 fn0 ?_
    refine s_getI (pc := 10) (ci := 12) X xok12 (by decide +kernel) ob_180 (by decide +kernel) fl_RX12_319 d_X12_laysTwins_10 ?_
    refine r_if_eq (pc := 13) (tgt := 18) X d_X12_laysTwins_13 (by decide +kernel) ?_ ?_
    · refine r_aload_n (pc := 18) X d_X12_laysTwins_18 fn0 ?_
      refine r_iconst (pc := 19) X d_X12_laysTwins_19 (by decide +kernel) ?_
      refine s_putZ (pc := 20) (ci := 12) X xok12 (by decide +kernel) ob_180 (by decide +kernel) (by decide +kernel) (by decide +kernel) fl_RX12_319 d_X12_laysTwins_20 ?_
      refine r_iconst (pc := 23) X d_X12_laysTwins_23 (by decide +kernel) ?_
      refine r_istore_n (pc := 24) X d_X12_laysTwins_24 fn1 (by decide +kernel) ?_
      exact h25
    · refine r_iconst (pc := 16) X d_X12_laysTwins_16 (by decide +kernel) ?_
      exact r_zret (pc := 17) X hr d_X12_laysTwins_17
  · refine r_iconst (pc := 7) X d_X12_laysTwins_7 (by decide +kernel) ?_
    exact r_zret (pc := 8) X hr d_X12_laysTwins_8
def k_X12_laysTwins_25 (P : xP) (C25 : xK) (C100 : xK) : xK := x_iload 1 (x_push (.int 25600) (x_icmp_ge (x_aload 0 (x_push (.int 0) (y_putZ 180 51 (x_aload 0 (x_push (.int 1) (y_putI 180 47 (x_aload 0 (y_getF 180 202 (x_push (.int 0) (x_push (.int 0) (y_iast 202 25600 (x_aload 0 (y_getF 180 201 (x_push (.int 0) (x_push (.int 0) (y_iast 201 25600 (x_aload 0 (y_getF 180 203 (x_push (.int 0) (x_push (.int 0) (y_iast 203 25600 (x_aload 0 (x_push (.int 1) (y_putI 180 48 (x_aload 0 (x_push (.int 0) (y_putI 180 49 (x_aload 0 (x_push (.int 0) (y_putI 180 50 (C100))))))))))))))))))))))))))))))) (x_aload 0 (y_getF 180 201 (x_iload 1 (x_push (.int 99999) (y_iast 201 25600 (x_aload 0 (y_getF 180 205 (x_iload 1 (x_push (.int 0) (y_bast 205 4 25600 (x_iinc 1 1 (C25))))))))))))))
set_option maxRecDepth 20000 in
theorem t_X12_laysTwins_25 {p : Program} {l : Launch} {e : Env} {s : State} {m : MethodId} {args : Array Value} {below : List Frame} {meth : Method} {c : Code} {g : xG} (X : xX p s m args c meth cX12_laysTwins RX12 4 g) (hr : meth.sig.returnType = (some .boolean)) {P : xP} {C25 : xK} {C100 : xK} (h25 : xAt p l e { frames := 6, cells := 0, slots := 0, locals := 138 } s m args below meth c g 4 xFT xN 0 0 (MQ below (xQc g xFT xN P) args s 0 0 (xFr g)) C25 25) (h100 : xAt p l e { frames := 6, cells := 0, slots := 0, locals := 138 } s m args below meth c g 4 xFT xN 0 0 (MQ below (xQc g xFT xN P) args s 0 0 (xFr g)) C100 100) : xAt p l e { frames := 6, cells := 0, slots := 0, locals := 138 } s m args below meth c g 4 xFT xN 0 0 (MQ below (xQc g xFT xN P) args s 0 0 (xFr g)) (k_X12_laysTwins_25 P C25 C100) 25 := by
  unfold k_X12_laysTwins_25
  refine r_iload_n (pc := 25) X d_X12_laysTwins_25 fn1 ?_
  refine r_sipush (pc := 26) X d_X12_laysTwins_26 (by decide +kernel) ?_
  refine r_icmp_ge (pc := 29) (tgt := 54) X d_X12_laysTwins_29 (by decide +kernel) ?_ ?_
  · refine r_aload_n (pc := 54) X d_X12_laysTwins_54 fn0 ?_
    refine r_iconst (pc := 55) X d_X12_laysTwins_55 (by decide +kernel) ?_
    refine s_putZ (pc := 56) (ci := 12) X xok12 (by decide +kernel) ob_180 (by decide +kernel) (by decide +kernel) (by decide +kernel) fl_RX12_430 d_X12_laysTwins_56 ?_
    refine r_aload_n (pc := 59) X d_X12_laysTwins_59 fn0 ?_
    refine r_iconst (pc := 60) X d_X12_laysTwins_60 (by decide +kernel) ?_
    refine s_putI (pc := 61) (ci := 12) X xok12 (by decide +kernel) ob_180 (by decide +kernel) (by decide +kernel) (by decide +kernel) fl_RX12_440 d_X12_laysTwins_61 ?_
    refine r_aload_n (pc := 64) X d_X12_laysTwins_64 fn0 ?_
    refine s_getF (pc := 65) (ci := 12) (k := 43) X xok12 (by decide +kernel) ob_180 trivial ly_180_43 (by decide +kernel) fl_RX12_94 d_X12_laysTwins_65 ?_
    refine r_iconst (pc := 68) X d_X12_laysTwins_68 (by decide +kernel) ?_
    refine r_iconst (pc := 69) X d_X12_laysTwins_69 (by decide +kernel) ?_
    refine s_iast (pc := 70) X tn_202 ln_202 d_X12_laysTwins_70 ?_
    refine r_aload_n (pc := 71) X d_X12_laysTwins_71 fn0 ?_
    refine s_getF (pc := 72) (ci := 12) (k := 42) X xok12 (by decide +kernel) ob_180 trivial ly_180_42 (by decide +kernel) fl_RX12_91 d_X12_laysTwins_72 ?_
    refine r_iconst (pc := 75) X d_X12_laysTwins_75 (by decide +kernel) ?_
    refine r_iconst (pc := 76) X d_X12_laysTwins_76 (by decide +kernel) ?_
    refine s_iast (pc := 77) X tn_201 ln_201 d_X12_laysTwins_77 ?_
    refine r_aload_n (pc := 78) X d_X12_laysTwins_78 fn0 ?_
    refine s_getF (pc := 79) (ci := 12) (k := 44) X xok12 (by decide +kernel) ob_180 trivial ly_180_44 (by decide +kernel) fl_RX12_97 d_X12_laysTwins_79 ?_
    refine r_iconst (pc := 82) X d_X12_laysTwins_82 (by decide +kernel) ?_
    refine r_iconst (pc := 83) X d_X12_laysTwins_83 (by decide +kernel) ?_
    refine s_iast (pc := 84) X tn_203 ln_203 d_X12_laysTwins_84 ?_
    refine r_aload_n (pc := 85) X d_X12_laysTwins_85 fn0 ?_
    refine r_iconst (pc := 86) X d_X12_laysTwins_86 (by decide +kernel) ?_
    refine s_putI (pc := 87) (ci := 12) X xok12 (by decide +kernel) ob_180 (by decide +kernel) (by decide +kernel) (by decide +kernel) fl_RX12_446 d_X12_laysTwins_87 ?_
    refine r_aload_n (pc := 90) X d_X12_laysTwins_90 fn0 ?_
    refine r_iconst (pc := 91) X d_X12_laysTwins_91 (by decide +kernel) ?_
    refine s_putI (pc := 92) (ci := 12) X xok12 (by decide +kernel) ob_180 (by decide +kernel) (by decide +kernel) (by decide +kernel) fl_RX12_443 d_X12_laysTwins_92 ?_
    refine r_aload_n (pc := 95) X d_X12_laysTwins_95 fn0 ?_
    refine r_iconst (pc := 96) X d_X12_laysTwins_96 (by decide +kernel) ?_
    refine s_putI (pc := 97) (ci := 12) X xok12 (by decide +kernel) ob_180 (by decide +kernel) (by decide +kernel) (by decide +kernel) fl_RX12_436 d_X12_laysTwins_97 ?_
    exact h100
  · refine r_aload_n (pc := 32) X d_X12_laysTwins_32 fn0 ?_
    refine s_getF (pc := 33) (ci := 12) (k := 42) X xok12 (by decide +kernel) ob_180 trivial ly_180_42 (by decide +kernel) fl_RX12_91 d_X12_laysTwins_33 ?_
    refine r_iload_n (pc := 36) X d_X12_laysTwins_36 fn1 ?_
    refine r_ldcw (pc := 37) X cw_RX12_439 d_X12_laysTwins_37 ?_
    refine s_iast (pc := 40) X tn_201 ln_201 d_X12_laysTwins_40 ?_
    refine r_aload_n (pc := 41) X d_X12_laysTwins_41 fn0 ?_
    refine s_getF (pc := 42) (ci := 12) (k := 46) X xok12 (by decide +kernel) ob_180 trivial ly_180_46 (by decide +kernel) fl_RX12_103 d_X12_laysTwins_42 ?_
    refine r_iload_n (pc := 45) X d_X12_laysTwins_45 fn1 ?_
    refine r_iconst (pc := 46) X d_X12_laysTwins_46 (by decide +kernel) ?_
    refine s_zast (pc := 47) X tn_205 ln_205 d_X12_laysTwins_47 ?_
    refine r_iinc (pc := 48) X d_X12_laysTwins_48 (by decide +kernel) (by decide +kernel) ?_
    refine r_goto (pc := 51) (tgt := 25) X d_X12_laysTwins_51 (by decide +kernel) ?_
    exact h25
def k_X12_laysTwins_229 (P : xP) (C243 : xK) : xK := x_istore 1 (x_iload 1 (x_if_eq (C243) (x_aload 0 (y_getF 180 205 (x_push (.int 325) (x_push (.int 1) (y_bast 205 4 25600 (C243))))))))
set_option maxRecDepth 20000 in
theorem t_X12_laysTwins_229 {p : Program} {l : Launch} {e : Env} {s : State} {m : MethodId} {args : Array Value} {below : List Frame} {meth : Method} {c : Code} {g : xG} (X : xX p s m args c meth cX12_laysTwins RX12 4 g) (hr : meth.sig.returnType = (some .boolean)) {P : xP} {C243 : xK} (h243 : xAt p l e { frames := 6, cells := 0, slots := 0, locals := 138 } s m args below meth c g 4 xFT xN 0 0 (MQ below (xQc g xFT xN P) args s 0 0 (xFr g)) C243 243) : xAt p l e { frames := 6, cells := 0, slots := 0, locals := 138 } s m args below meth c g 4 xFT xN 0 0 (MQ below (xQc g xFT xN P) args s 0 0 (xFr g)) (k_X12_laysTwins_229 P C243) 229 := by
  unfold k_X12_laysTwins_229
  refine r_istore_n (pc := 229) X d_X12_laysTwins_229 fn1 (by decide +kernel) ?_
  refine r_iload_n (pc := 230) X d_X12_laysTwins_230 fn1 ?_
  refine r_if_eq (pc := 231) (tgt := 243) X d_X12_laysTwins_231 (by decide +kernel) ?_ ?_
  · exact h243
  · refine r_aload_n (pc := 234) X d_X12_laysTwins_234 fn0 ?_
    refine s_getF (pc := 235) (ci := 12) (k := 46) X xok12 (by decide +kernel) ob_180 trivial ly_180_46 (by decide +kernel) fl_RX12_103 d_X12_laysTwins_235 ?_
    refine r_sipush (pc := 238) X d_X12_laysTwins_238 (by decide +kernel) ?_
    refine r_iconst (pc := 241) X d_X12_laysTwins_241 (by decide +kernel) ?_
    refine s_zast (pc := 242) X tn_205 ln_205 d_X12_laysTwins_242 ?_
    exact h243
def k_X12_laysTwins_100 (P : xP) (C109 : xK) (C243 : xK) : xK := x_aload 0 (y_getI 180 48 (x_if_le (x_aload 0 (x_push (.int 1) (y_putZ 180 51 (x_aload 0 (y_getF 180 201 (x_push (.int 325) (y_iald 201 25600 (x_push (.int 99999) (x_icmp_ge (x_push (.int 0) ((k_X12_laysTwins_229 P C243))) (x_push (.int 1) ((k_X12_laysTwins_229 P C243)))))))))))) (x_push (.int 0) (x_istore 1 (C109)))))
set_option maxRecDepth 20000 in
theorem t_X12_laysTwins_100 {p : Program} {l : Launch} {e : Env} {s : State} {m : MethodId} {args : Array Value} {below : List Frame} {meth : Method} {c : Code} {g : xG} (X : xX p s m args c meth cX12_laysTwins RX12 4 g) (hr : meth.sig.returnType = (some .boolean)) {P : xP} {C109 : xK} {C243 : xK} (h109 : xAt p l e { frames := 6, cells := 0, slots := 0, locals := 138 } s m args below meth c g 4 xFT xN 0 0 (MQ below (xQc g xFT xN P) args s 0 0 (xFr g)) C109 109) (h243 : xAt p l e { frames := 6, cells := 0, slots := 0, locals := 138 } s m args below meth c g 4 xFT xN 0 0 (MQ below (xQc g xFT xN P) args s 0 0 (xFr g)) C243 243) : xAt p l e { frames := 6, cells := 0, slots := 0, locals := 138 } s m args below meth c g 4 xFT xN 0 0 (MQ below (xQc g xFT xN P) args s 0 0 (xFr g)) (k_X12_laysTwins_100 P C109 C243) 100 := by
  unfold k_X12_laysTwins_100
  refine r_aload_n (pc := 100) X d_X12_laysTwins_100 fn0 ?_
  refine s_getI (pc := 101) (ci := 12) X xok12 (by decide +kernel) ob_180 (by decide +kernel) fl_RX12_446 d_X12_laysTwins_101 ?_
  refine r_if_le (pc := 104) (tgt := 205) X d_X12_laysTwins_104 (by decide +kernel) ?_ ?_
  · refine r_aload_n (pc := 205) X d_X12_laysTwins_205 fn0 ?_
    refine r_iconst (pc := 206) X d_X12_laysTwins_206 (by decide +kernel) ?_
    refine s_putZ (pc := 207) (ci := 12) X xok12 (by decide +kernel) ob_180 (by decide +kernel) (by decide +kernel) (by decide +kernel) fl_RX12_430 d_X12_laysTwins_207 ?_
    refine r_aload_n (pc := 210) X d_X12_laysTwins_210 fn0 ?_
    refine s_getF (pc := 211) (ci := 12) (k := 42) X xok12 (by decide +kernel) ob_180 trivial ly_180_42 (by decide +kernel) fl_RX12_91 d_X12_laysTwins_211 ?_
    refine r_sipush (pc := 214) X d_X12_laysTwins_214 (by decide +kernel) ?_
    refine s_iald (pc := 217) X tn_201 ln_201 d_X12_laysTwins_217 ?_
    refine r_ldcw (pc := 218) X cw_RX12_439 d_X12_laysTwins_218 ?_
    refine r_icmp_ge (pc := 221) (tgt := 228) X d_X12_laysTwins_221 (by decide +kernel) ?_ ?_
    · refine r_iconst (pc := 228) X d_X12_laysTwins_228 (by decide +kernel) ?_
      exact t_X12_laysTwins_229 X hr h243
    · refine r_iconst (pc := 224) X d_X12_laysTwins_224 (by decide +kernel) ?_
      refine r_goto (pc := 225) (tgt := 229) X d_X12_laysTwins_225 (by decide +kernel) ?_
      exact t_X12_laysTwins_229 X hr h243
  · refine r_iconst (pc := 107) X d_X12_laysTwins_107 (by decide +kernel) ?_
    refine r_istore_n (pc := 108) X d_X12_laysTwins_108 fn1 (by decide +kernel) ?_
    exact h109
def k_X12_laysTwins_145 (P : xP) (C109 : xK) : xK := x_iinc 1 1 (C109)
set_option maxRecDepth 20000 in
theorem t_X12_laysTwins_145 {p : Program} {l : Launch} {e : Env} {s : State} {m : MethodId} {args : Array Value} {below : List Frame} {meth : Method} {c : Code} {g : xG} (X : xX p s m args c meth cX12_laysTwins RX12 4 g) (hr : meth.sig.returnType = (some .boolean)) {P : xP} {C109 : xK} (h109 : xAt p l e { frames := 6, cells := 0, slots := 0, locals := 138 } s m args below meth c g 4 xFT xN 0 0 (MQ below (xQc g xFT xN P) args s 0 0 (xFr g)) C109 109) : xAt p l e { frames := 6, cells := 0, slots := 0, locals := 138 } s m args below meth c g 4 xFT xN 0 0 (MQ below (xQc g xFT xN P) args s 0 0 (xFr g)) (k_X12_laysTwins_145 P C109) 145 := by
  unfold k_X12_laysTwins_145
  refine r_iinc (pc := 145) X d_X12_laysTwins_145 (by decide +kernel) (by decide +kernel) ?_
  refine r_goto (pc := 148) (tgt := 109) X d_X12_laysTwins_148 (by decide +kernel) ?_
  exact h109
def k_X12_laysTwins_109 (P : xP) (C109 : xK) (C161 : xK) : xK := x_iload 1 (x_aload 0 (y_getI 180 48 (x_icmp_ge (x_aload 0 (x_aload 0 (y_getI 180 49 (y_putI 180 48 (x_push (.int 0) (x_istore 1 (C161))))))) (x_aload 0 (y_getF 180 201 (x_aload 0 (y_getF 180 203 (x_iload 1 (y_iald 203 25600 (y_iald 201 25600 (x_aload 0 (y_getI 180 50 (x_icmp_ne ((k_X12_laysTwins_145 P C109)) (x_aload 0 (x_aload 0 (y_getF 180 203 (x_iload 1 (y_iald 203 25600 (y_cv1 180 (w_RI f_X12_goesOn) ((k_X12_laysTwins_145 P C109)))))))))))))))))))))
set_option maxRecDepth 20000 in
theorem t_X12_laysTwins_109 {p : Program} {l : Launch} {e : Env} {s : State} {m : MethodId} {args : Array Value} {below : List Frame} {meth : Method} {c : Code} {g : xG} (X : xX p s m args c meth cX12_laysTwins RX12 4 g) (hr : meth.sig.returnType = (some .boolean)) {P : xP} {C109 : xK} {C161 : xK} (h109 : xAt p l e { frames := 6, cells := 0, slots := 0, locals := 138 } s m args below meth c g 4 xFT xN 0 0 (MQ below (xQc g xFT xN P) args s 0 0 (xFr g)) C109 109) (h161 : xAt p l e { frames := 6, cells := 0, slots := 0, locals := 138 } s m args below meth c g 4 xFT xN 0 0 (MQ below (xQc g xFT xN P) args s 0 0 (xFr g)) C161 161) : xAt p l e { frames := 6, cells := 0, slots := 0, locals := 138 } s m args below meth c g 4 xFT xN 0 0 (MQ below (xQc g xFT xN P) args s 0 0 (xFr g)) (k_X12_laysTwins_109 P C109 C161) 109 := by
  unfold k_X12_laysTwins_109
  refine r_iload_n (pc := 109) X d_X12_laysTwins_109 fn1 ?_
  refine r_aload_n (pc := 110) X d_X12_laysTwins_110 fn0 ?_
  refine s_getI (pc := 111) (ci := 12) X xok12 (by decide +kernel) ob_180 (by decide +kernel) fl_RX12_446 d_X12_laysTwins_111 ?_
  refine r_icmp_ge (pc := 114) (tgt := 151) X d_X12_laysTwins_114 (by decide +kernel) ?_ ?_
  · refine r_aload_n (pc := 151) X d_X12_laysTwins_151 fn0 ?_
    refine r_aload_n (pc := 152) X d_X12_laysTwins_152 fn0 ?_
    refine s_getI (pc := 153) (ci := 12) X xok12 (by decide +kernel) ob_180 (by decide +kernel) fl_RX12_443 d_X12_laysTwins_153 ?_
    refine s_putI (pc := 156) (ci := 12) X xok12 (by decide +kernel) ob_180 (by decide +kernel) (by decide +kernel) (by decide +kernel) fl_RX12_446 d_X12_laysTwins_156 ?_
    refine r_iconst (pc := 159) X d_X12_laysTwins_159 (by decide +kernel) ?_
    refine r_istore_n (pc := 160) X d_X12_laysTwins_160 fn1 (by decide +kernel) ?_
    exact h161
  · refine r_aload_n (pc := 117) X d_X12_laysTwins_117 fn0 ?_
    refine s_getF (pc := 118) (ci := 12) (k := 42) X xok12 (by decide +kernel) ob_180 trivial ly_180_42 (by decide +kernel) fl_RX12_91 d_X12_laysTwins_118 ?_
    refine r_aload_n (pc := 121) X d_X12_laysTwins_121 fn0 ?_
    refine s_getF (pc := 122) (ci := 12) (k := 44) X xok12 (by decide +kernel) ob_180 trivial ly_180_44 (by decide +kernel) fl_RX12_97 d_X12_laysTwins_122 ?_
    refine r_iload_n (pc := 125) X d_X12_laysTwins_125 fn1 ?_
    refine s_iald (pc := 126) X tn_203 ln_203 d_X12_laysTwins_126 ?_
    refine s_iald (pc := 127) X tn_201 ln_201 d_X12_laysTwins_127 ?_
    refine r_aload_n (pc := 128) X d_X12_laysTwins_128 fn0 ?_
    refine s_getI (pc := 129) (ci := 12) X xok12 (by decide +kernel) ob_180 (by decide +kernel) fl_RX12_436 d_X12_laysTwins_129 ?_
    refine r_icmp_ne (pc := 132) (tgt := 145) X d_X12_laysTwins_132 (by decide +kernel) ?_ ?_
    · exact t_X12_laysTwins_145 X hr h109
    · refine r_aload_n (pc := 135) X d_X12_laysTwins_135 fn0 ?_
      refine r_aload_n (pc := 136) X d_X12_laysTwins_136 fn0 ?_
      refine s_getF (pc := 137) (ci := 12) (k := 44) X xok12 (by decide +kernel) ob_180 trivial ly_180_44 (by decide +kernel) fl_RX12_97 d_X12_laysTwins_137 ?_
      refine r_iload_n (pc := 140) X d_X12_laysTwins_140 fn1 ?_
      refine s_iald (pc := 141) X tn_203 ln_203 d_X12_laysTwins_141 ?_
      refine s_cv1 (pc := 142) (ci := 12) X xok12 (by decide +kernel) ob_180 rfl (con_X12_goesOn l) mf_X12_goesOn ml_RX12_460 (by decide +kernel) (by decide +kernel) d_X12_laysTwins_142 ?_
      exact t_X12_laysTwins_145 X hr h109
def k_X12_laysTwins_161 (P : xP) (C100 : xK) (C161 : xK) : xK := x_iload 1 (x_aload 0 (y_getI 180 49 (x_icmp_ge (x_aload 0 (x_push (.int 0) (y_putI 180 49 (x_aload 0 (x_dup (y_getI 180 50 (x_push (.int 1) (x_iadd (y_putI 180 50 (C100)))))))))) (x_aload 0 (y_getF 180 203 (x_iload 1 (x_aload 0 (y_getF 180 204 (x_iload 1 (y_iald 204 25600 (y_iast 203 25600 (x_iinc 1 1 (C161)))))))))))))
set_option maxRecDepth 20000 in
theorem t_X12_laysTwins_161 {p : Program} {l : Launch} {e : Env} {s : State} {m : MethodId} {args : Array Value} {below : List Frame} {meth : Method} {c : Code} {g : xG} (X : xX p s m args c meth cX12_laysTwins RX12 4 g) (hr : meth.sig.returnType = (some .boolean)) {P : xP} {C100 : xK} {C161 : xK} (h100 : xAt p l e { frames := 6, cells := 0, slots := 0, locals := 138 } s m args below meth c g 4 xFT xN 0 0 (MQ below (xQc g xFT xN P) args s 0 0 (xFr g)) C100 100) (h161 : xAt p l e { frames := 6, cells := 0, slots := 0, locals := 138 } s m args below meth c g 4 xFT xN 0 0 (MQ below (xQc g xFT xN P) args s 0 0 (xFr g)) C161 161) : xAt p l e { frames := 6, cells := 0, slots := 0, locals := 138 } s m args below meth c g 4 xFT xN 0 0 (MQ below (xQc g xFT xN P) args s 0 0 (xFr g)) (k_X12_laysTwins_161 P C100 C161) 161 := by
  unfold k_X12_laysTwins_161
  refine r_iload_n (pc := 161) X d_X12_laysTwins_161 fn1 ?_
  refine r_aload_n (pc := 162) X d_X12_laysTwins_162 fn0 ?_
  refine s_getI (pc := 163) (ci := 12) X xok12 (by decide +kernel) ob_180 (by decide +kernel) fl_RX12_443 d_X12_laysTwins_163 ?_
  refine r_icmp_ge (pc := 166) (tgt := 187) X d_X12_laysTwins_166 (by decide +kernel) ?_ ?_
  · refine r_aload_n (pc := 187) X d_X12_laysTwins_187 fn0 ?_
    refine r_iconst (pc := 188) X d_X12_laysTwins_188 (by decide +kernel) ?_
    refine s_putI (pc := 189) (ci := 12) X xok12 (by decide +kernel) ob_180 (by decide +kernel) (by decide +kernel) (by decide +kernel) fl_RX12_443 d_X12_laysTwins_189 ?_
    refine r_aload_n (pc := 192) X d_X12_laysTwins_192 fn0 ?_
    refine r_dup (pc := 193) X d_X12_laysTwins_193 ?_
    refine s_getI (pc := 194) (ci := 12) X xok12 (by decide +kernel) ob_180 (by decide +kernel) fl_RX12_436 d_X12_laysTwins_194 ?_
    refine r_iconst (pc := 197) X d_X12_laysTwins_197 (by decide +kernel) ?_
    refine r_iadd (pc := 198) X d_X12_laysTwins_198 ?_
    refine s_putI (pc := 199) (ci := 12) X xok12 (by decide +kernel) ob_180 (by decide +kernel) (by decide +kernel) (by decide +kernel) fl_RX12_436 d_X12_laysTwins_199 ?_
    refine r_goto (pc := 202) (tgt := 100) X d_X12_laysTwins_202 (by decide +kernel) ?_
    exact h100
  · refine r_aload_n (pc := 169) X d_X12_laysTwins_169 fn0 ?_
    refine s_getF (pc := 170) (ci := 12) (k := 44) X xok12 (by decide +kernel) ob_180 trivial ly_180_44 (by decide +kernel) fl_RX12_97 d_X12_laysTwins_170 ?_
    refine r_iload_n (pc := 173) X d_X12_laysTwins_173 fn1 ?_
    refine r_aload_n (pc := 174) X d_X12_laysTwins_174 fn0 ?_
    refine s_getF (pc := 175) (ci := 12) (k := 45) X xok12 (by decide +kernel) ob_180 trivial ly_180_45 (by decide +kernel) fl_RX12_100 d_X12_laysTwins_175 ?_
    refine r_iload_n (pc := 178) X d_X12_laysTwins_178 fn1 ?_
    refine s_iald (pc := 179) X tn_204 ln_204 d_X12_laysTwins_179 ?_
    refine s_iast (pc := 180) X tn_203 ln_203 d_X12_laysTwins_180 ?_
    refine r_iinc (pc := 181) X d_X12_laysTwins_181 (by decide +kernel) (by decide +kernel) ?_
    refine r_goto (pc := 184) (tgt := 161) X d_X12_laysTwins_184 (by decide +kernel) ?_
    exact h161
def k_X12_laysTwins_243 (P : xP) (C256 : xK) : xK := x_iload 1 (x_if_eq (x_push (.int 1) (x_zret P)) (x_push (.int 0) (x_istore 1 (x_aload 0 (y_getI 180 47 (x_push (.int 1) (x_isub (x_istore 2 (C256)))))))))
set_option maxRecDepth 20000 in
theorem t_X12_laysTwins_243 {p : Program} {l : Launch} {e : Env} {s : State} {m : MethodId} {args : Array Value} {below : List Frame} {meth : Method} {c : Code} {g : xG} (X : xX p s m args c meth cX12_laysTwins RX12 4 g) (hr : meth.sig.returnType = (some .boolean)) {P : xP} {C256 : xK} (h256 : xAt p l e { frames := 6, cells := 0, slots := 0, locals := 138 } s m args below meth c g 4 xFT xN 0 0 (MQ below (xQc g xFT xN P) args s 0 0 (xFr g)) C256 256) : xAt p l e { frames := 6, cells := 0, slots := 0, locals := 138 } s m args below meth c g 4 xFT xN 0 0 (MQ below (xQc g xFT xN P) args s 0 0 (xFr g)) (k_X12_laysTwins_243 P C256) 243 := by
  unfold k_X12_laysTwins_243
  refine r_iload_n (pc := 243) X d_X12_laysTwins_243 fn1 ?_
  refine r_if_eq (pc := 244) (tgt := 323) X d_X12_laysTwins_244 (by decide +kernel) ?_ ?_
  · refine r_iconst (pc := 323) X d_X12_laysTwins_323 (by decide +kernel) ?_
    exact r_zret (pc := 324) X hr d_X12_laysTwins_324
  · refine r_iconst (pc := 247) X d_X12_laysTwins_247 (by decide +kernel) ?_
    refine r_istore_n (pc := 248) X d_X12_laysTwins_248 fn1 (by decide +kernel) ?_
    refine r_aload_n (pc := 249) X d_X12_laysTwins_249 fn0 ?_
    refine s_getI (pc := 250) (ci := 12) X xok12 (by decide +kernel) ob_180 (by decide +kernel) fl_RX12_440 d_X12_laysTwins_250 ?_
    refine r_iconst (pc := 253) X d_X12_laysTwins_253 (by decide +kernel) ?_
    refine r_isub (pc := 254) X d_X12_laysTwins_254 ?_
    refine r_istore_n (pc := 255) X d_X12_laysTwins_255 fn2 (by decide +kernel) ?_
    exact h256
def k_X12_laysTwins_314 (P : xP) (C256 : xK) : xK := x_iinc 2 (-1) (C256)
set_option maxRecDepth 20000 in
theorem t_X12_laysTwins_314 {p : Program} {l : Launch} {e : Env} {s : State} {m : MethodId} {args : Array Value} {below : List Frame} {meth : Method} {c : Code} {g : xG} (X : xX p s m args c meth cX12_laysTwins RX12 4 g) (hr : meth.sig.returnType = (some .boolean)) {P : xP} {C256 : xK} (h256 : xAt p l e { frames := 6, cells := 0, slots := 0, locals := 138 } s m args below meth c g 4 xFT xN 0 0 (MQ below (xQc g xFT xN P) args s 0 0 (xFr g)) C256 256) : xAt p l e { frames := 6, cells := 0, slots := 0, locals := 138 } s m args below meth c g 4 xFT xN 0 0 (MQ below (xQc g xFT xN P) args s 0 0 (xFr g)) (k_X12_laysTwins_314 P C256) 314 := by
  unfold k_X12_laysTwins_314
  refine r_iinc (pc := 314) X d_X12_laysTwins_314 (by decide +kernel) (by decide +kernel) ?_
  refine r_goto (pc := 317) (tgt := 256) X d_X12_laysTwins_317 (by decide +kernel) ?_
  exact h256
def k_X12_laysTwins_256 (P : xP) (C243 : xK) (C256 : xK) : xK := x_iload 2 (x_if_lt (C243) (x_aload 0 (y_getF 180 202 (x_iload 2 (y_iald 202 25600 (x_istore 3 (x_aload 0 (y_getF 180 205 (x_iload 3 (y_iald 205 25600 (x_if_ne ((k_X12_laysTwins_314 P C256)) (x_iload 3 (x_push (.int 4) (x_irem (x_if_ne (x_aload 0 (x_push (.int 0) (y_putZ 180 52 (x_aload 0 (x_iload 3 (y_cv1 180 (w_RI f_X12_goesOn) (x_aload 0 (y_getI 180 52 (x_if_ne (x_aload 0 (y_getF 180 205 (x_iload 3 (x_push (.int 1) (y_bast 205 4 25600 (x_push (.int 1) (x_istore 1 ((k_X12_laysTwins_314 P C256))))))))) ((k_X12_laysTwins_314 P C256))))))))))) ((k_X12_laysTwins_314 P C256)))))))))))))))))
set_option maxRecDepth 20000 in
theorem t_X12_laysTwins_256 {p : Program} {l : Launch} {e : Env} {s : State} {m : MethodId} {args : Array Value} {below : List Frame} {meth : Method} {c : Code} {g : xG} (X : xX p s m args c meth cX12_laysTwins RX12 4 g) (hr : meth.sig.returnType = (some .boolean)) {P : xP} {C243 : xK} {C256 : xK} (h243 : xAt p l e { frames := 6, cells := 0, slots := 0, locals := 138 } s m args below meth c g 4 xFT xN 0 0 (MQ below (xQc g xFT xN P) args s 0 0 (xFr g)) C243 243) (h256 : xAt p l e { frames := 6, cells := 0, slots := 0, locals := 138 } s m args below meth c g 4 xFT xN 0 0 (MQ below (xQc g xFT xN P) args s 0 0 (xFr g)) C256 256) : xAt p l e { frames := 6, cells := 0, slots := 0, locals := 138 } s m args below meth c g 4 xFT xN 0 0 (MQ below (xQc g xFT xN P) args s 0 0 (xFr g)) (k_X12_laysTwins_256 P C243 C256) 256 := by
  unfold k_X12_laysTwins_256
  refine r_iload_n (pc := 256) X d_X12_laysTwins_256 fn2 ?_
  refine r_if_lt (pc := 257) (tgt := 320) X d_X12_laysTwins_257 (by decide +kernel) ?_ ?_
  · refine r_goto (pc := 320) (tgt := 243) X d_X12_laysTwins_320 (by decide +kernel) ?_
    exact h243
  · refine r_aload_n (pc := 260) X d_X12_laysTwins_260 fn0 ?_
    refine s_getF (pc := 261) (ci := 12) (k := 43) X xok12 (by decide +kernel) ob_180 trivial ly_180_43 (by decide +kernel) fl_RX12_94 d_X12_laysTwins_261 ?_
    refine r_iload_n (pc := 264) X d_X12_laysTwins_264 fn2 ?_
    refine s_iald (pc := 265) X tn_202 ln_202 d_X12_laysTwins_265 ?_
    refine r_istore_n (pc := 266) X d_X12_laysTwins_266 fn3 (by decide +kernel) ?_
    refine r_aload_n (pc := 267) X d_X12_laysTwins_267 fn0 ?_
    refine s_getF (pc := 268) (ci := 12) (k := 46) X xok12 (by decide +kernel) ob_180 trivial ly_180_46 (by decide +kernel) fl_RX12_103 d_X12_laysTwins_268 ?_
    refine r_iload_n (pc := 271) X d_X12_laysTwins_271 fn3 ?_
    refine s_zald (pc := 272) X tn_205 ln_205 d_X12_laysTwins_272 ?_
    refine r_if_ne (pc := 273) (tgt := 314) X d_X12_laysTwins_273 (by decide +kernel) ?_ ?_
    · exact t_X12_laysTwins_314 X hr h256
    · refine r_iload_n (pc := 276) X d_X12_laysTwins_276 fn3 ?_
      refine r_iconst (pc := 277) X d_X12_laysTwins_277 (by decide +kernel) ?_
      refine r_irem (pc := 278) X d_X12_laysTwins_278 ?_
      refine r_if_ne (pc := 279) (tgt := 285) X d_X12_laysTwins_279 (by decide +kernel) ?_ ?_
      · refine r_aload_n (pc := 285) X d_X12_laysTwins_285 fn0 ?_
        refine r_iconst (pc := 286) X d_X12_laysTwins_286 (by decide +kernel) ?_
        refine s_putZ (pc := 287) (ci := 12) X xok12 (by decide +kernel) ob_180 (by decide +kernel) (by decide +kernel) (by decide +kernel) fl_RX12_433 d_X12_laysTwins_287 ?_
        refine r_aload_n (pc := 290) X d_X12_laysTwins_290 fn0 ?_
        refine r_iload_n (pc := 291) X d_X12_laysTwins_291 fn3 ?_
        refine s_cv1 (pc := 292) (ci := 12) X xok12 (by decide +kernel) ob_180 rfl (con_X12_goesOn l) mf_X12_goesOn ml_RX12_460 (by decide +kernel) (by decide +kernel) d_X12_laysTwins_292 ?_
        refine r_aload_n (pc := 295) X d_X12_laysTwins_295 fn0 ?_
        refine s_getI (pc := 296) (ci := 12) X xok12 (by decide +kernel) ob_180 (by decide +kernel) fl_RX12_433 d_X12_laysTwins_296 ?_
        refine r_if_ne (pc := 299) (tgt := 305) X d_X12_laysTwins_299 (by decide +kernel) ?_ ?_
        · refine r_aload_n (pc := 305) X d_X12_laysTwins_305 fn0 ?_
          refine s_getF (pc := 306) (ci := 12) (k := 46) X xok12 (by decide +kernel) ob_180 trivial ly_180_46 (by decide +kernel) fl_RX12_103 d_X12_laysTwins_306 ?_
          refine r_iload_n (pc := 309) X d_X12_laysTwins_309 fn3 ?_
          refine r_iconst (pc := 310) X d_X12_laysTwins_310 (by decide +kernel) ?_
          refine s_zast (pc := 311) X tn_205 ln_205 d_X12_laysTwins_311 ?_
          refine r_iconst (pc := 312) X d_X12_laysTwins_312 (by decide +kernel) ?_
          refine r_istore_n (pc := 313) X d_X12_laysTwins_313 fn1 (by decide +kernel) ?_
          exact t_X12_laysTwins_314 X hr h256
        · refine r_goto (pc := 302) (tgt := 314) X d_X12_laysTwins_302 (by decide +kernel) ?_
          exact t_X12_laysTwins_314 X hr h256
      · refine r_goto (pc := 282) (tgt := 314) X d_X12_laysTwins_282 (by decide +kernel) ?_
        exact t_X12_laysTwins_314 X hr h256
set_option maxRecDepth 20000 in
theorem m_X12_laysTwins {l : Launch} {f : Nat → xH → xP → Prop}  {I25 : Nat → xH → xP → xM → xK} {I100 : Nat → xH → xP → xM → xK} {I109 : Nat → xH → xP → xM → xK} {I161 : Nat → xH → xP → xM → xK} {I243 : Nat → xH → xP → xM → xK} {I256 : Nat → xH → xP → xM → xK}
    (v0 : ∀ (a0 : Nat) (A : xH) (P : xP), f a0 A P → k_X12_laysTwins_0 P (xE (I25 a0 A P)) [some (.ref a0), none, none, none] [] A)
    (v25 : ∀ (a0 : Nat) (A : xH) (P : xP), f a0 A P → ∀ (μ : xM) (L : xL) (st : List Value) (B : xH), I25 a0 A P μ L st B → k_X12_laysTwins_25 P (xB (I25 a0 A P) μ) (xE (I100 a0 A P)) L st B)
    (v100 : ∀ (a0 : Nat) (A : xH) (P : xP), f a0 A P → ∀ (μ : xM) (L : xL) (st : List Value) (B : xH), I100 a0 A P μ L st B → k_X12_laysTwins_100 P (xB (I109 a0 A P) μ) (xE (I243 a0 A P)) L st B)
    (v109 : ∀ (a0 : Nat) (A : xH) (P : xP), f a0 A P → ∀ (μ : xM) (L : xL) (st : List Value) (B : xH), I109 a0 A P μ L st B → k_X12_laysTwins_109 P (xB (I109 a0 A P) μ) (xB (I161 a0 A P) μ) L st B)
    (v161 : ∀ (a0 : Nat) (A : xH) (P : xP), f a0 A P → ∀ (μ : xM) (L : xL) (st : List Value) (B : xH), I161 a0 A P μ L st B → k_X12_laysTwins_161 P (xB (I100 a0 A P) μ) (xB (I161 a0 A P) μ) L st B)
    (v243 : ∀ (a0 : Nat) (A : xH) (P : xP), f a0 A P → ∀ (μ : xM) (L : xL) (st : List Value) (B : xH), I243 a0 A P μ L st B → k_X12_laysTwins_243 P (xB (I256 a0 A P) μ) L st B)
    (v256 : ∀ (a0 : Nat) (A : xH) (P : xP), f a0 A P → ∀ (μ : xM) (L : xL) (st : List Value) (B : xH), I256 a0 A P μ L st B → k_X12_laysTwins_256 P (xB (I243 a0 A P) μ) (xB (I256 a0 A P) μ) L st B) : xCon l yX12_laysTwins cX12_laysTwins 4 (some .boolean) 6 138 xN xN 0 xFT xFT (w_R f) := by
  refine xc_R (plainFor_of_name pn_RX12) (by decide +kernel) (fun p e s m args below meth c g a0 A P h X hr _ => ?_)
  obtain ⟨h243, h256⟩ := x_loop2 (p := p) (l := l) (e := e) (R := { frames := 6, cells := 0, slots := 0, locals := 138 }) (s := s) (m := m) (args := args) (below := below) (meth := meth) (c := c) (g := g) (nL := 4) (F := xFT) (n := xN) (cells := 0) (slots := 0) (Q := MQ below (xQc g xFT xN P) args s 0 0 (xFr g)) (I1 := I243 a0 A P) (I2 := I256 a0 A P) (pc1 := 243) (pc2 := 256) (fun μ i243 i256 => xAt_mono (t_X12_laysTwins_243 (P := P) X hr i256) (v243 a0 A P h μ)) (fun μ i243 i256 => xAt_mono (t_X12_laysTwins_256 (P := P) X hr i243 i256) (v256 a0 A P h μ))
  obtain ⟨h100, h109, h161⟩ := x_loop3 (p := p) (l := l) (e := e) (R := { frames := 6, cells := 0, slots := 0, locals := 138 }) (s := s) (m := m) (args := args) (below := below) (meth := meth) (c := c) (g := g) (nL := 4) (F := xFT) (n := xN) (cells := 0) (slots := 0) (Q := MQ below (xQc g xFT xN P) args s 0 0 (xFr g)) (I1 := I100 a0 A P) (I2 := I109 a0 A P) (I3 := I161 a0 A P) (pc1 := 100) (pc2 := 109) (pc3 := 161) (fun μ i100 i109 i161 => xAt_mono (t_X12_laysTwins_100 (P := P) X hr i109 h243) (v100 a0 A P h μ)) (fun μ i100 i109 i161 => xAt_mono (t_X12_laysTwins_109 (P := P) X hr i109 i161) (v109 a0 A P h μ)) (fun μ i100 i109 i161 => xAt_mono (t_X12_laysTwins_161 (P := P) X hr i100 i161) (v161 a0 A P h μ))
  have h25 := x_loop1 (p := p) (l := l) (e := e) (R := { frames := 6, cells := 0, slots := 0, locals := 138 }) (s := s) (m := m) (args := args) (below := below) (meth := meth) (c := c) (g := g) (nL := 4) (F := xFT) (n := xN) (cells := 0) (slots := 0) (Q := MQ below (xQc g xFT xN P) args s 0 0 (xFr g)) (I := I25 a0 A P) (pc1 := 25) (fun μ i25 => xAt_mono (t_X12_laysTwins_25 (P := P) X hr i25 h100) (v25 a0 A P h μ))
  exact ⟨_, v0 a0 A P h, t_X12_laysTwins_0 X hr h25⟩
def rch (v : xV) (t : Nat) : Prop := ∃ d, rcT (stT v) d (nDe t)
/-- how many signs at least; 99999: it is not come to -/
def isFar (v : xV) (t x : Nat) : Prop := (x = 99999 ∧ ¬ rch v t) ∨ (x ≤ 25600 ∧ rcT (stT v) x (nDe t) ∧ ∀ d, rcT (stT v) d (nDe t) → x ≤ d)
/-- suspects: least set -/
def suC (v : xV) (S : Nat → Prop) : Prop := (rch v 325 → S 325) ∧ ∀ t, t < 25600 → rch v t → t % 4 ≠ 0 → (∃ t' g, eV v (nDe t) t' g ∧ S t') → S t
def suT (v : xV) (t : Nat) : Prop := ∀ S, suC v S → S t
theorem su_meet {v : xV} (h : rch v 325) : suT v 325 := fun _ hS => hS.1 h
theorem su_step {v : xV} {t t' : Nat} {g : Bool} (ht : t < 25600) (hr : rch v t) (h4 : t % 4 ≠ 0) (e : eV v (nDe t) t' g) (h : suT v t') : suT v t := fun S hS => hS.2 t ht hr h4 ⟨t', g, e, h S hS⟩
def clo (v : xV) (F : Nat → Nat) (t : Nat) : Prop := ∀ t' g, eV v (nDe t) t' g → F t' ≤ (if g then F t + 1 else F t)
theorem eV_pl {v : xV} {n : Nat × Nat × Nat} {t : Nat} {g : Bool} (hn : n.1 < 4 ∧ n.2.1 < (plL v).length ∧ n.2.2 < (plL v).length) (h : eV v n t g) : ∃ n', t = nEn n' ∧ n'.1 < 4 ∧ n'.2.1 < (plL v).length ∧ n'.2.2 < (plL v).length := by
  obtain ⟨n', e, ⟨-, h⟩ | ⟨-, h⟩⟩ := h
  · refine ⟨n', e, e0_st h hn.1, ?_⟩
    rcases h with ⟨-, ⟨s, -, -, h⟩, e⟩ | ⟨-, e, ⟨s, -, -, h⟩⟩ | ⟨-, s, s', -, -, -, -, h, h', -⟩
    · exact ⟨(stT_pl h).2, by rw [e]; exact hn.2.2⟩
    · exact ⟨by rw [e]; exact hn.2.1, (stT_pl h).2⟩
    · exact ⟨(stT_pl h).2, (stT_pl h').2⟩
  · obtain ⟨⟨s, -, h, h'⟩, e2⟩ := h
    exact ⟨n', e, by rw [e2]; split <;> omega, (stT_pl h).2, (stT_pl h').2⟩
theorem isN_pl {v : xV} {n : Nat × Nat × Nat} (h80 : (plL v).length ≤ 80) (h : n.1 < 4 ∧ n.2.1 < (plL v).length ∧ n.2.2 < (plL v).length) : isN n := ⟨h.1, by have := h.2.1; omega, by have := h.2.2; omega⟩
theorem far_all {v : xV} {F : Nat → Nat} (h80 : (plL v).length ≤ 80) (h0 : F 0 = 0) (hF : ∀ t, t < 25600 → F t ≤ 25600 ∨ F t = 99999) (hc : ∀ t, t < 25600 → F t < 99999 → clo v F t) {d : Nat} {n : Nat × Nat × Nat} (h : rcT (stT v) d n) : F (nEn n) < 99999 ∧ F (nEn n) ≤ d := by
  have key := h (fun d n => rcT (stT v) d n ∧ F (nEn n) < 99999 ∧ F (nEn n) ≤ d) ⟨rc_start _, ?_, ?_⟩ ?_ ?_ ?_
  · exact key.2
  · show F 0 < 99999; omega
  · show F 0 ≤ 0; omega
  · rintro d a b ⟨h1, h2, h3⟩ e
    have pa := isN_pl h80 (rc_pl h1)
    have := hc (nEn a) (nEn_lt pa) h2 (nEn b) false (by rw [nDe_En pa]; exact ⟨b, rfl, Or.inl ⟨rfl, e⟩⟩)
    rw [if_neg (by decide)] at this
    exact ⟨rc_same h1 e, by omega, by omega⟩
  · rintro d a b ⟨h1, h2, h3⟩ e
    have pa := isN_pl h80 (rc_pl h1)
    have := hc (nEn a) (nEn_lt pa) h2 (nEn b) true (by rw [nDe_En pa]; exact ⟨b, rfl, Or.inr ⟨rfl, e⟩⟩)
    rw [if_pos rfl] at this
    have := hF (nEn a) (nEn_lt pa)
    exact ⟨rc_more h1 e, by omega, by omega⟩
  · rintro d a ⟨h1, h2, h3⟩
    exact ⟨rc_also h1, h2, by omega⟩
def twDU (A : xH) (v : xV) : Prop := ∃ (no : Nat) (F : Nat → Nat), xi A 180 47 = nI no ∧ okA A 202 no ∧ (∀ t, t < 25600 → (inA A 202 no t ↔ rch v t)) ∧ (∀ t, t < 25600 → xi A 201 t = nI (F t) ∧ isFar v t (F t)) ∧ ∀ t, t < 25600 → xi A 205 t = bI (bt (suT v t))
def twcU (A : xH) (v : xV) : Prop := xi A 180 27 = 0 ∨ (xi A 180 27 = 1 ∧ twDU A v)
def STw (c k : Nat) : Prop := SPU c k ∨ (201 ≤ c ∧ c ≤ 205) ∨ (c = 180 ∧ (k = 27 ∨ (47 ≤ k ∧ k ≤ 52)))
theorem twDU_fr {S : Nat → Nat → Prop} {A B : xH} {v : xV} (h : twDU A v) (hf : fr S A B) (hs : ∀ c k, S c k → ¬ (201 ≤ c ∧ c ≤ 205) ∧ ¬ (c = 180 ∧ k = 47)) : twDU B v := by
  have e : ∀ c k, ((201 ≤ c ∧ c ≤ 205) ∨ (c = 180 ∧ k = 47)) → xi B c k = xi A c k := fun c k q => fr_i hf fun q2 => by have := hs c k q2; omega
  obtain ⟨no, F, h1, h2, h3, h4, h5⟩ := h
  have e202 : ∀ k, k < no → xi B 202 k = xi A 202 k := fun k _ => e _ _ (by omega)
  refine ⟨no, F, by rw [e _ _ (by omega)]; exact h1, okA_congr h2 e202, fun t ht => by rw [inA_congr e202]; exact h3 t ht, fun t ht => by rw [e _ _ (by omega)]; exact h4 t ht, fun t ht => by rw [e _ _ (by omega)]; exact h5 t ht⟩
theorem twcU_fr {S : Nat → Nat → Prop} {A B : xH} {v : xV} (h : twcU A v) (hf : fr S A B) (hs : ∀ c k, S c k → ¬ (201 ≤ c ∧ c ≤ 205) ∧ ¬ (c = 180 ∧ (k = 47 ∨ k = 27))) : twcU B v := by
  have e : xi B 180 27 = xi A 180 27 := fr_i hf fun q => by have := hs _ _ q; omega
  rcases h with h | ⟨h1, h2⟩
  · exact Or.inl (by rw [e]; exact h)
  · exact Or.inr ⟨by rw [e]; exact h1, twDU_fr h2 hf fun c k w => by have := hs c k w; omega⟩
def ltP (A : xH) (P : xP) (v : xV) : Prop := (80 < (plL v).length → ∀ B, fr STw A B → hIt B v → plcU B v → twcU B v → P (some (.int 0)) B) ∧ ((plL v).length ≤ 80 → ∀ B, fr STw A B → hIt B v → plcU B v → plDU B v → twcU B v → twDU B v → P (some (.int 1)) B)
def f_X12_laysTwins (q : Nat) (A : xH) (P : xP) : Prop := q = 180 ∧ ∃ v, rr A v ∧ plcU A v ∧ twcU A v ∧ ltP A P v
theorem hIt_fr {S : Nat → Nat → Prop} {A B : xH} {v : xV} (h : hIt A v) (hf : fr S A B) (hs : ∀ c k, S c k → ¬ (188 ≤ c ∧ c ≤ 191) ∧ ¬ (c = 180 ∧ (k = 24 ∨ k = 25))) : hIt B v := by
  have e25 : xi B 180 25 = xi A 180 25 := fr_i hf fun w => by have := hs _ _ w; omega
  rcases h with h | ⟨h, h8⟩
  · exact Or.inl (e25.trans h)
  · exact Or.inr ⟨e25.trans h, itP_fr h8 hf fun c k w => by have := hs c k w; omega⟩
/-- what stands through all loops -/
def ltG (A B : xH) (P : xP) (v : xV) : Prop := ltP A P v ∧ fr STw A B ∧ hIt B v ∧ xi B 180 26 = 1 ∧ plDU B v ∧ xi B 180 27 = 1 ∧ (plL v).length ≤ 80 ∧ wfg v ∧ wfc v
theorem ltG_fr {A B C : xH} {P : xP} {v : xV} (h : ltG A B P v) (hf : fr (fun c k => (201 ≤ c ∧ c ≤ 205) ∨ (c = 180 ∧ 47 ≤ k ∧ k ≤ 52)) B C) : ltG A C P v := by
  obtain ⟨h1, h2, h3, h4, h5, h6, h7⟩ := h
  exact ⟨h1, fr_tr h2 (fr_mono hf (by unfold STw; omega)), hIt_fr h3 hf (by omega), by rw [fr_i hf (by omega)]; exact h4, plDU_fr h5 hf (by omega), by rw [fr_i hf (by omega)]; exact h6, h7⟩
/-- at the head of a level -/
def lvS (v : xV) (d nq : Nat) (F : Nat → Nat) (A : xH) : Prop := ∃ no, plDU A v ∧ xi A 180 51 = 0 ∧ xi A 180 50 = nI d ∧ d ≤ 25600 ∧ xi A 180 48 = nI nq ∧ xi A 180 49 = 0 ∧ xi A 180 47 = nI no ∧ (0 < nq → d + 1 ≤ no) ∧ (∀ t, t < 25600 → xi A 201 t = nI (F t) ∧ (F t ≤ d ∨ F t = 99999) ∧ (F t < 99999 → rcT (stT v) (F t) (nDe t))) ∧ okA A 203 nq ∧ okA A 202 no ∧ (∀ t, t < 25600 → (inA A 203 nq t → F t ≤ d) ∧ (F t = d → inA A 203 nq t) ∧ (inA A 202 no t ↔ F t < 99999)) ∧ F 0 = 0 ∧ ∀ t, t < 25600 → F t < d → clo v F t
/-- the later ones become the queue -/
def cpS (v : xV) (d nl : Nat) (F : Nat → Nat) (A : xH) : Prop := ∃ no, plDU A v ∧ xi A 180 51 = 0 ∧ xi A 180 50 = nI d ∧ d < 25600 ∧ xi A 180 48 = nI nl ∧ xi A 180 49 = nI nl ∧ xi A 180 47 = nI no ∧ (0 < nl → d + 2 ≤ no) ∧ (∀ t, t < 25600 → xi A 201 t = nI (F t) ∧ (F t ≤ d + 1 ∨ F t = 99999) ∧ (F t < 99999 → rcT (stT v) (F t) (nDe t))) ∧ okA A 204 nl ∧ okA A 202 no ∧ (∀ t, t < 25600 → (inA A 204 nl t → F t ≤ d + 1) ∧ (F t = d + 1 → inA A 204 nl t) ∧ (inA A 202 no t ↔ F t < 99999)) ∧ F 0 = 0 ∧ ∀ t, t < 25600 → F t ≤ d → clo v F t
/-- far and order are as they should be -/
def frS (v : xV) (no : Nat) (F : Nat → Nat) (A : xH) : Prop := xi A 180 47 = nI no ∧ 1 ≤ no ∧ okA A 202 no ∧ (∀ t, t < 25600 → (inA A 202 no t ↔ rch v t)) ∧ ∀ t, t < 25600 → xi A 201 t = nI (F t) ∧ isFar v t (F t)
def mtS (v : xV) (M : Nat → Bool) (A : xH) : Prop := xi A 180 51 = 1 ∧ (∀ t, t < 25600 → xi A 205 t = bI (M t)) ∧ (∀ t, t < 25600 → M t = true → suT v t) ∧ (rch v 325 → M 325 = true)
def mtC (v : xV) (M : Nat → Bool) (t : Nat) : Prop := rch v t → t % 4 ≠ 0 → (∃ t' g, eV v (nDe t) t' g ∧ M t' = true) → M t = true
def pI (k : Nat) : Int32 := if k = 0 then -1 else nI (k - 1)
def lt25 (A : xH) (P : xP) : xM → xK := fun μ L st B => ∃ (v : xV) (i : Nat), ltG A B P v ∧ i ≤ 25600 ∧ (∀ j, j < i → xi B 201 j = nI 99999 ∧ xi B 205 j = 0) ∧ st = [] ∧ L = [some (.ref 180), some (.int (nI i)), none, none] ∧ μ = (25600 - i, 0, 0)
def lt100 (A : xH) (P : xP) : xM → xK := fun μ L st B => ∃ (v : xV) (d nq : Nat) (F : Nat → Nat) (o1 : Option Value), ltG A B P v ∧ lvS v d nq F B ∧ (∀ t, t < 25600 → xi B 205 t = 0) ∧ st = [] ∧ L = [some (.ref 180), o1, none, none] ∧ μ = (30000 - d, 3, 0)
def lt109 (A : xH) (P : xP) : xM → xK := fun μ L st B => ∃ (v : xV) (d nq k : Nat) (F : Nat → Nat), ltG A B P v ∧ TS v d nq F B ∧ k ≤ nq ∧ F 0 = 0 ∧ (∀ t, t < 25600 → F t < d → clo v F t) ∧ (∀ j t, j < k → t < 25600 → xi B 203 j = nI t → F t < d ∨ clo v F t) ∧ (∀ t, t < 25600 → xi B 205 t = 0) ∧ st = [] ∧ L = [some (.ref 180), some (.int (nI k)), none, none] ∧ μ = (30000 - d, 2, 30000 - k)
def lt161 (A : xH) (P : xP) : xM → xK := fun μ L st B => ∃ (v : xV) (d nl k : Nat) (F : Nat → Nat), ltG A B P v ∧ cpS v d nl F B ∧ k ≤ nl ∧ (∀ j, j < k → xi B 203 j = xi B 204 j) ∧ (∀ t, t < 25600 → xi B 205 t = 0) ∧ st = [] ∧ L = [some (.ref 180), some (.int (nI k)), none, none] ∧ μ = (30000 - d, 1, 30000 - k)
def lt243 (A : xH) (P : xP) : xM → xK := fun μ L st B => ∃ (v : xV) (no : Nat) (F : Nat → Nat) (M : Nat → Bool) (b : Bool) (o2 o3 : Option Value), ltG A B P v ∧ frS v no F B ∧ mtS v M B ∧ (b = false → ∀ t, t < 25600 → mtC v M t) ∧ st = [] ∧ L = [some (.ref 180), some (.int (bI b)), o2, o3] ∧ μ = (25600 - cb M 25600, (if b then 2 else 0), 0)
def lt256 (A : xH) (P : xP) : xM → xK := fun μ L st B => ∃ (v : xV) (no : Nat) (F : Nat → Nat) (M : Nat → Bool) (b : Bool) (k : Nat) (o3 : Option Value), ltG A B P v ∧ frS v no F B ∧ mtS v M B ∧ k ≤ no ∧ (b = false → ∀ j t, k ≤ j → j < no → t < 25600 → xi B 202 j = nI t → mtC v M t) ∧ st = [] ∧ L = [some (.ref 180), some (.int (bI b)), some (.int (pI k)), o3] ∧ μ = (25600 - cb M 25600 + (if b then 1 else 0), 1, k)
set_option maxRecDepth 20000 in
set_option maxRecDepth 20000 in
theorem con_X12_laysTwins (l : Launch) : xCon l yX12_laysTwins cX12_laysTwins 4 (some .boolean) 6 138 xN xN 0 xFT xFT (w_R f_X12_laysTwins) := by
  refine m_X12_laysTwins (I25 := fun q A P => lt25 A P) (I100 := fun q A P => lt100 A P) (I109 := fun q A P => lt109 A P) (I161 := fun q A P => lt161 A P) (I243 := fun q A P => lt243 A P) (I256 := fun q A P => lt256 A P) ?_ ?_ ?_ ?_ ?_ ?_ ?_
  · rintro q A P ⟨rfl, v, hr, hp, ht, hP⟩
    simp (disch := omega) only [k_X12_laysTwins_0, k_X12_laysTwins_25, k_X12_laysTwins_100, k_X12_laysTwins_109, k_X12_laysTwins_161, k_X12_laysTwins_243, k_X12_laysTwins_256, k_X12_laysTwins_145, k_X12_laysTwins_229, k_X12_laysTwins_314, w_R, w_RI, x_aload, x_dup, x_iadd, x_icmp_ge, x_icmp_ne, x_if_eq, x_if_le, x_if_lt, x_if_ne, x_iinc, x_iload, x_irem, x_istore, x_isub, x_push, x_zret, y_bast, y_cv0, y_cv1, y_getF, y_getI, y_iald, y_iast, y_putI, y_putZ, xFT, xbool0, xbool1, Nat.reduceAdd, Nat.zero_add, xgl_0, xgl_s, xgl_n, xst_0, xst_1n, xst_1i, xst_1r, xst_1l, xst_s, set_0, set_s, true_and, and_true, xres, xcat_nil, xcat_i, xcat_r, xcat_l, Nat.add_zero, xble0, xble1, xble2, xble3, xble4, xble5, xble6, xble7, xble8, pk_mul, nI_add, nI_1, nI_leI, nI_ltI, nI_eq, n_in, n_cl, z_eq, z_lt, z_le, z_gt, z_ge, z_qe, o_eq, o_lt, o_le, o_gt, o_ge, vp0, vp1, cl0, cl1, n_sub, n_sub1, n_pm1, n_a0, n_0a, ofn, lN0, Nat.reduceLT, Nat.reduceLeDiff, Nat.reduceMul, Nat.reduceSub, Nat.reduceEqDiff, ne_eq, true_implies, false_implies, not_true_eq_false, not_false_eq_true, and_self, and_true, true_and, and_false, false_and, implies_true, if_true, if_false, i00, i10, i01, i11, ob_0, ob_1, tn_2, ln_2, ob_3, tn_4, ln_4, ob_5, tn_6, ln_6, tn_7, ln_7, ob_8, tn_9, ln_9, tn_10, ln_10, tn_11, ln_11, tn_12, ln_12, tn_13, ln_13, tn_14, ln_14, tn_15, ln_15, tn_16, ln_16, tn_17, ln_17, ob_18, tn_19, ln_19, tn_20, ln_20, tn_21, ln_21, tn_22, ln_22, tn_23, ln_23, tn_24, ln_24, tn_25, ln_25, tn_26, ln_26, tn_27, ln_27, ob_28, tn_29, ln_29, tn_30, ln_30, ob_31, tn_32, ln_32, tn_33, ln_33, ob_34, ob_35, tn_36, ln_36, tn_37, ln_37, tn_38, ln_38, ob_39, tn_40, ln_40, tn_41, ln_41, tn_42, ln_42, tn_43, ln_43, tn_44, ln_44, tn_45, ln_45, tn_46, ln_46, tn_47, ln_47, tn_48, ln_48, tn_49, ln_49, tn_50, ln_50, tn_51, ln_51, ob_52, tn_53, ln_53, tn_54, ln_54, tn_55, ln_55, tn_56, ln_56, ob_57, tn_58, ln_58, tn_59, ln_59, tn_60, ln_60, tn_61, ln_61, tn_62, ln_62, tn_63, ln_63, tn_64, ln_64, tn_65, ln_65, ob_66, tn_67, ln_67, tn_68, ln_68, tn_69, ln_69, tn_70, ln_70, tn_71, ln_71, tn_72, ln_72, tn_73, ln_73, ob_74, tn_75, ln_75, tn_76, ln_76, tn_77, ln_77, tn_78, ln_78, tn_79, ln_79, tn_80, ln_80, tn_81, ln_81, tn_82, ln_82, tn_83, ln_83, ob_84, tn_85, ln_85, tn_86, ln_86, tn_87, ln_87, tn_88, ln_88, tn_89, ln_89, tn_90, ln_90, tn_91, ln_91, tn_92, ln_92, tn_93, ln_93, ob_94, tn_95, ln_95, tn_96, ln_96, tn_97, ln_97, tn_98, ln_98, tn_99, ln_99, tn_100, ln_100, tn_101, ln_101, tn_102, ln_102, tn_103, ln_103, ob_104, tn_105, ln_105, tn_106, ln_106, tn_107, ln_107, tn_108, ln_108, tn_109, ln_109, tn_110, ln_110, tn_111, ln_111, tn_112, ln_112, tn_113, ln_113, ob_114, tn_115, ln_115, tn_116, ln_116, tn_117, ln_117, tn_118, ln_118, tn_119, ln_119, tn_120, ln_120, tn_121, ln_121, tn_122, ln_122, tn_123, ln_123, ob_124, tn_125, ln_125, tn_126, ln_126, tn_127, ln_127, tn_128, ln_128, tn_129, ln_129, tn_130, ln_130, tn_131, ln_131, tn_132, ln_132, tn_133, ln_133, ob_134, tn_135, ln_135, tn_136, ln_136, tn_137, ln_137, tn_138, ln_138, tn_139, ln_139, tn_140, ln_140, tn_141, ln_141, tn_142, ln_142, tn_143, ln_143, ob_144, tn_145, ln_145, tn_146, ln_146, tn_147, ln_147, tn_148, ln_148, tn_149, ln_149, tn_150, ln_150, tn_151, ln_151, tn_152, ln_152, tn_153, ln_153, ob_154, tn_155, ln_155, tn_156, ln_156, tn_157, ln_157, tn_158, ln_158, tn_159, ln_159, tn_160, ln_160, tn_161, ln_161, tn_162, ln_162, tn_163, ln_163, ob_164, tn_165, ln_165, tn_166, ln_166, ob_167, tn_168, ln_168, tn_169, ln_169, tn_170, ln_170, tn_171, ln_171, tn_172, ln_172, tn_173, ln_173, tn_174, ln_174, tn_175, ln_175, tn_176, ln_176, ob_177, tn_178, ln_178, tn_179, ln_179, ob_180, tn_181, ln_181, tn_182, ln_182, tn_183, ln_183, tn_184, ln_184, tn_185, ln_185, tn_186, ln_186, tn_187, ln_187, tn_188, ln_188, tn_189, ln_189, tn_190, ln_190, tn_191, ln_191, tn_192, ln_192, tn_193, ln_193, tn_194, ln_194, tn_195, ln_195, tn_196, ln_196, tn_197, ln_197, tn_198, ln_198, tn_199, ln_199, tn_200, ln_200, tn_201, ln_201, tn_202, ln_202, tn_203, ln_203, tn_204, ln_204, tn_205, ln_205, tn_206, ln_206, tn_207, ln_207, tn_208, ln_208, tn_209, ln_209, tn_210, ln_210, tn_211, ln_211, tn_212, ln_212, tn_213, ln_213, tn_214, ln_214, tn_215, ln_215, tn_216, ln_216, tn_217, ln_217, tn_218, ln_218, tn_219, ln_219, tn_220, ln_220, tn_221, ln_221, tn_222, ln_222, tn_223, ln_223, tn_224, ln_224, tn_225, ln_225, tn_226, ln_226, tn_227, ln_227, tn_228, ln_228, tn_229, ln_229, tn_230, ln_230, lx2, lx3, lx4, lx5, lx6, lx7, lx8, lx9, lx10, lx14, lx15, lx16, lx18, lx20, lx24, lx25, lx27, lx32, lx36, lx40, lx41, lx42, lx43, lx45, lx48, lx52, lx54, lx56, lx57, lx58, lx60, lx61, lx62, lx63, lx64, lx66, lx69, lx73, lx80, lx81, lx84, lx85, lx87, lx94, lx96, lx97, lx120, lx128, lx135, lx160, lx162, lx163, lx165, lx200, lx232, lx242, lx243, lx255, lx256, lx320, lx325, lx400, lx405, lx464, lx512, lx600, lx640, lx752, lx900, lx940, lx1000, lx1024, lx1764, lx3360, lx3840, lx5000, lx6400, lx9050, lx9998, lx9999, lx10000, lx25600, lx76800, lx99999]
    refine ⟨rfl, v, hr, hp, fun h80 B hB hI h26 hd => ?_, fun h80 B hB hI h26 hd => ?_⟩
    · simp (disch := omega) only [k_X12_laysTwins_0, k_X12_laysTwins_25, k_X12_laysTwins_100, k_X12_laysTwins_109, k_X12_laysTwins_161, k_X12_laysTwins_243, k_X12_laysTwins_256, k_X12_laysTwins_145, k_X12_laysTwins_229, k_X12_laysTwins_314, w_R, w_RI, x_aload, x_dup, x_iadd, x_icmp_ge, x_icmp_ne, x_if_eq, x_if_le, x_if_lt, x_if_ne, x_iinc, x_iload, x_irem, x_istore, x_isub, x_push, x_zret, y_bast, y_cv0, y_cv1, y_getF, y_getI, y_iald, y_iast, y_putI, y_putZ, xFT, xbool0, xbool1, Nat.reduceAdd, Nat.zero_add, xgl_0, xgl_s, xgl_n, xst_0, xst_1n, xst_1i, xst_1r, xst_1l, xst_s, set_0, set_s, true_and, and_true, xres, xcat_nil, xcat_i, xcat_r, xcat_l, Nat.add_zero, xble0, xble1, xble2, xble3, xble4, xble5, xble6, xble7, xble8, pk_mul, nI_add, nI_1, nI_leI, nI_ltI, nI_eq, n_in, n_cl, z_eq, z_lt, z_le, z_gt, z_ge, z_qe, o_eq, o_lt, o_le, o_gt, o_ge, vp0, vp1, cl0, cl1, n_sub, n_sub1, n_pm1, n_a0, n_0a, ofn, lN0, Nat.reduceLT, Nat.reduceLeDiff, Nat.reduceMul, Nat.reduceSub, Nat.reduceEqDiff, ne_eq, true_implies, false_implies, not_true_eq_false, not_false_eq_true, and_self, and_true, true_and, and_false, false_and, implies_true, if_true, if_false, i00, i10, i01, i11, ob_0, ob_1, tn_2, ln_2, ob_3, tn_4, ln_4, ob_5, tn_6, ln_6, tn_7, ln_7, ob_8, tn_9, ln_9, tn_10, ln_10, tn_11, ln_11, tn_12, ln_12, tn_13, ln_13, tn_14, ln_14, tn_15, ln_15, tn_16, ln_16, tn_17, ln_17, ob_18, tn_19, ln_19, tn_20, ln_20, tn_21, ln_21, tn_22, ln_22, tn_23, ln_23, tn_24, ln_24, tn_25, ln_25, tn_26, ln_26, tn_27, ln_27, ob_28, tn_29, ln_29, tn_30, ln_30, ob_31, tn_32, ln_32, tn_33, ln_33, ob_34, ob_35, tn_36, ln_36, tn_37, ln_37, tn_38, ln_38, ob_39, tn_40, ln_40, tn_41, ln_41, tn_42, ln_42, tn_43, ln_43, tn_44, ln_44, tn_45, ln_45, tn_46, ln_46, tn_47, ln_47, tn_48, ln_48, tn_49, ln_49, tn_50, ln_50, tn_51, ln_51, ob_52, tn_53, ln_53, tn_54, ln_54, tn_55, ln_55, tn_56, ln_56, ob_57, tn_58, ln_58, tn_59, ln_59, tn_60, ln_60, tn_61, ln_61, tn_62, ln_62, tn_63, ln_63, tn_64, ln_64, tn_65, ln_65, ob_66, tn_67, ln_67, tn_68, ln_68, tn_69, ln_69, tn_70, ln_70, tn_71, ln_71, tn_72, ln_72, tn_73, ln_73, ob_74, tn_75, ln_75, tn_76, ln_76, tn_77, ln_77, tn_78, ln_78, tn_79, ln_79, tn_80, ln_80, tn_81, ln_81, tn_82, ln_82, tn_83, ln_83, ob_84, tn_85, ln_85, tn_86, ln_86, tn_87, ln_87, tn_88, ln_88, tn_89, ln_89, tn_90, ln_90, tn_91, ln_91, tn_92, ln_92, tn_93, ln_93, ob_94, tn_95, ln_95, tn_96, ln_96, tn_97, ln_97, tn_98, ln_98, tn_99, ln_99, tn_100, ln_100, tn_101, ln_101, tn_102, ln_102, tn_103, ln_103, ob_104, tn_105, ln_105, tn_106, ln_106, tn_107, ln_107, tn_108, ln_108, tn_109, ln_109, tn_110, ln_110, tn_111, ln_111, tn_112, ln_112, tn_113, ln_113, ob_114, tn_115, ln_115, tn_116, ln_116, tn_117, ln_117, tn_118, ln_118, tn_119, ln_119, tn_120, ln_120, tn_121, ln_121, tn_122, ln_122, tn_123, ln_123, ob_124, tn_125, ln_125, tn_126, ln_126, tn_127, ln_127, tn_128, ln_128, tn_129, ln_129, tn_130, ln_130, tn_131, ln_131, tn_132, ln_132, tn_133, ln_133, ob_134, tn_135, ln_135, tn_136, ln_136, tn_137, ln_137, tn_138, ln_138, tn_139, ln_139, tn_140, ln_140, tn_141, ln_141, tn_142, ln_142, tn_143, ln_143, ob_144, tn_145, ln_145, tn_146, ln_146, tn_147, ln_147, tn_148, ln_148, tn_149, ln_149, tn_150, ln_150, tn_151, ln_151, tn_152, ln_152, tn_153, ln_153, ob_154, tn_155, ln_155, tn_156, ln_156, tn_157, ln_157, tn_158, ln_158, tn_159, ln_159, tn_160, ln_160, tn_161, ln_161, tn_162, ln_162, tn_163, ln_163, ob_164, tn_165, ln_165, tn_166, ln_166, ob_167, tn_168, ln_168, tn_169, ln_169, tn_170, ln_170, tn_171, ln_171, tn_172, ln_172, tn_173, ln_173, tn_174, ln_174, tn_175, ln_175, tn_176, ln_176, ob_177, tn_178, ln_178, tn_179, ln_179, ob_180, tn_181, ln_181, tn_182, ln_182, tn_183, ln_183, tn_184, ln_184, tn_185, ln_185, tn_186, ln_186, tn_187, ln_187, tn_188, ln_188, tn_189, ln_189, tn_190, ln_190, tn_191, ln_191, tn_192, ln_192, tn_193, ln_193, tn_194, ln_194, tn_195, ln_195, tn_196, ln_196, tn_197, ln_197, tn_198, ln_198, tn_199, ln_199, tn_200, ln_200, tn_201, ln_201, tn_202, ln_202, tn_203, ln_203, tn_204, ln_204, tn_205, ln_205, tn_206, ln_206, tn_207, ln_207, tn_208, ln_208, tn_209, ln_209, tn_210, ln_210, tn_211, ln_211, tn_212, ln_212, tn_213, ln_213, tn_214, ln_214, tn_215, ln_215, tn_216, ln_216, tn_217, ln_217, tn_218, ln_218, tn_219, ln_219, tn_220, ln_220, tn_221, ln_221, tn_222, ln_222, tn_223, ln_223, tn_224, ln_224, tn_225, ln_225, tn_226, ln_226, tn_227, ln_227, tn_228, ln_228, tn_229, ln_229, tn_230, ln_230, lx2, lx3, lx4, lx5, lx6, lx7, lx8, lx9, lx10, lx14, lx15, lx16, lx18, lx20, lx24, lx25, lx27, lx32, lx36, lx40, lx41, lx42, lx43, lx45, lx48, lx52, lx54, lx56, lx57, lx58, lx60, lx61, lx62, lx63, lx64, lx66, lx69, lx73, lx80, lx81, lx84, lx85, lx87, lx94, lx96, lx97, lx120, lx128, lx135, lx160, lx162, lx163, lx165, lx200, lx232, lx242, lx243, lx255, lx256, lx320, lx325, lx400, lx405, lx464, lx512, lx600, lx640, lx752, lx900, lx940, lx1000, lx1024, lx1764, lx3360, lx3840, lx5000, lx6400, lx9050, lx9998, lx9999, lx10000, lx25600, lx76800, lx99999]
      exact hP.1 h80 B (fr_mono hB fun c k w => Or.inl w) hI (Or.inr ⟨h26, hd⟩) (twcU_fr ht hB (by unfold SPU; omega))
    · have ht2 := twcU_fr ht hB (by unfold SPU; omega)
      have fB : fr STw A B := fr_mono hB fun c k w => Or.inl w
      simp (disch := omega) only [k_X12_laysTwins_0, k_X12_laysTwins_25, k_X12_laysTwins_100, k_X12_laysTwins_109, k_X12_laysTwins_161, k_X12_laysTwins_243, k_X12_laysTwins_256, k_X12_laysTwins_145, k_X12_laysTwins_229, k_X12_laysTwins_314, w_R, w_RI, x_aload, x_dup, x_iadd, x_icmp_ge, x_icmp_ne, x_if_eq, x_if_le, x_if_lt, x_if_ne, x_iinc, x_iload, x_irem, x_istore, x_isub, x_push, x_zret, y_bast, y_cv0, y_cv1, y_getF, y_getI, y_iald, y_iast, y_putI, y_putZ, xFT, xbool0, xbool1, Nat.reduceAdd, Nat.zero_add, xgl_0, xgl_s, xgl_n, xst_0, xst_1n, xst_1i, xst_1r, xst_1l, xst_s, set_0, set_s, true_and, and_true, xres, xcat_nil, xcat_i, xcat_r, xcat_l, Nat.add_zero, xble0, xble1, xble2, xble3, xble4, xble5, xble6, xble7, xble8, pk_mul, nI_add, nI_1, nI_leI, nI_ltI, nI_eq, n_in, n_cl, z_eq, z_lt, z_le, z_gt, z_ge, z_qe, o_eq, o_lt, o_le, o_gt, o_ge, vp0, vp1, cl0, cl1, n_sub, n_sub1, n_pm1, n_a0, n_0a, ofn, lN0, Nat.reduceLT, Nat.reduceLeDiff, Nat.reduceMul, Nat.reduceSub, Nat.reduceEqDiff, ne_eq, true_implies, false_implies, not_true_eq_false, not_false_eq_true, and_self, and_true, true_and, and_false, false_and, implies_true, if_true, if_false, i00, i10, i01, i11, ob_0, ob_1, tn_2, ln_2, ob_3, tn_4, ln_4, ob_5, tn_6, ln_6, tn_7, ln_7, ob_8, tn_9, ln_9, tn_10, ln_10, tn_11, ln_11, tn_12, ln_12, tn_13, ln_13, tn_14, ln_14, tn_15, ln_15, tn_16, ln_16, tn_17, ln_17, ob_18, tn_19, ln_19, tn_20, ln_20, tn_21, ln_21, tn_22, ln_22, tn_23, ln_23, tn_24, ln_24, tn_25, ln_25, tn_26, ln_26, tn_27, ln_27, ob_28, tn_29, ln_29, tn_30, ln_30, ob_31, tn_32, ln_32, tn_33, ln_33, ob_34, ob_35, tn_36, ln_36, tn_37, ln_37, tn_38, ln_38, ob_39, tn_40, ln_40, tn_41, ln_41, tn_42, ln_42, tn_43, ln_43, tn_44, ln_44, tn_45, ln_45, tn_46, ln_46, tn_47, ln_47, tn_48, ln_48, tn_49, ln_49, tn_50, ln_50, tn_51, ln_51, ob_52, tn_53, ln_53, tn_54, ln_54, tn_55, ln_55, tn_56, ln_56, ob_57, tn_58, ln_58, tn_59, ln_59, tn_60, ln_60, tn_61, ln_61, tn_62, ln_62, tn_63, ln_63, tn_64, ln_64, tn_65, ln_65, ob_66, tn_67, ln_67, tn_68, ln_68, tn_69, ln_69, tn_70, ln_70, tn_71, ln_71, tn_72, ln_72, tn_73, ln_73, ob_74, tn_75, ln_75, tn_76, ln_76, tn_77, ln_77, tn_78, ln_78, tn_79, ln_79, tn_80, ln_80, tn_81, ln_81, tn_82, ln_82, tn_83, ln_83, ob_84, tn_85, ln_85, tn_86, ln_86, tn_87, ln_87, tn_88, ln_88, tn_89, ln_89, tn_90, ln_90, tn_91, ln_91, tn_92, ln_92, tn_93, ln_93, ob_94, tn_95, ln_95, tn_96, ln_96, tn_97, ln_97, tn_98, ln_98, tn_99, ln_99, tn_100, ln_100, tn_101, ln_101, tn_102, ln_102, tn_103, ln_103, ob_104, tn_105, ln_105, tn_106, ln_106, tn_107, ln_107, tn_108, ln_108, tn_109, ln_109, tn_110, ln_110, tn_111, ln_111, tn_112, ln_112, tn_113, ln_113, ob_114, tn_115, ln_115, tn_116, ln_116, tn_117, ln_117, tn_118, ln_118, tn_119, ln_119, tn_120, ln_120, tn_121, ln_121, tn_122, ln_122, tn_123, ln_123, ob_124, tn_125, ln_125, tn_126, ln_126, tn_127, ln_127, tn_128, ln_128, tn_129, ln_129, tn_130, ln_130, tn_131, ln_131, tn_132, ln_132, tn_133, ln_133, ob_134, tn_135, ln_135, tn_136, ln_136, tn_137, ln_137, tn_138, ln_138, tn_139, ln_139, tn_140, ln_140, tn_141, ln_141, tn_142, ln_142, tn_143, ln_143, ob_144, tn_145, ln_145, tn_146, ln_146, tn_147, ln_147, tn_148, ln_148, tn_149, ln_149, tn_150, ln_150, tn_151, ln_151, tn_152, ln_152, tn_153, ln_153, ob_154, tn_155, ln_155, tn_156, ln_156, tn_157, ln_157, tn_158, ln_158, tn_159, ln_159, tn_160, ln_160, tn_161, ln_161, tn_162, ln_162, tn_163, ln_163, ob_164, tn_165, ln_165, tn_166, ln_166, ob_167, tn_168, ln_168, tn_169, ln_169, tn_170, ln_170, tn_171, ln_171, tn_172, ln_172, tn_173, ln_173, tn_174, ln_174, tn_175, ln_175, tn_176, ln_176, ob_177, tn_178, ln_178, tn_179, ln_179, ob_180, tn_181, ln_181, tn_182, ln_182, tn_183, ln_183, tn_184, ln_184, tn_185, ln_185, tn_186, ln_186, tn_187, ln_187, tn_188, ln_188, tn_189, ln_189, tn_190, ln_190, tn_191, ln_191, tn_192, ln_192, tn_193, ln_193, tn_194, ln_194, tn_195, ln_195, tn_196, ln_196, tn_197, ln_197, tn_198, ln_198, tn_199, ln_199, tn_200, ln_200, tn_201, ln_201, tn_202, ln_202, tn_203, ln_203, tn_204, ln_204, tn_205, ln_205, tn_206, ln_206, tn_207, ln_207, tn_208, ln_208, tn_209, ln_209, tn_210, ln_210, tn_211, ln_211, tn_212, ln_212, tn_213, ln_213, tn_214, ln_214, tn_215, ln_215, tn_216, ln_216, tn_217, ln_217, tn_218, ln_218, tn_219, ln_219, tn_220, ln_220, tn_221, ln_221, tn_222, ln_222, tn_223, ln_223, tn_224, ln_224, tn_225, ln_225, tn_226, ln_226, tn_227, ln_227, tn_228, ln_228, tn_229, ln_229, tn_230, ln_230, lx2, lx3, lx4, lx5, lx6, lx7, lx8, lx9, lx10, lx14, lx15, lx16, lx18, lx20, lx24, lx25, lx27, lx32, lx36, lx40, lx41, lx42, lx43, lx45, lx48, lx52, lx54, lx56, lx57, lx58, lx60, lx61, lx62, lx63, lx64, lx66, lx69, lx73, lx80, lx81, lx84, lx85, lx87, lx94, lx96, lx97, lx120, lx128, lx135, lx160, lx162, lx163, lx165, lx200, lx232, lx242, lx243, lx255, lx256, lx320, lx325, lx400, lx405, lx464, lx512, lx600, lx640, lx752, lx900, lx940, lx1000, lx1024, lx1764, lx3360, lx3840, lx5000, lx6400, lx9050, lx9998, lx9999, lx10000, lx25600, lx76800, lx99999]
      refine ⟨fun z => ?_, fun z => ?_⟩
      · have f27 : fr (fun c k => c = 180 ∧ k = 27) B (xsi B 180 27 1) := fr_si fr_rf (by omega)
        exact xE0 (25600 - 0, 0, 0) ⟨v, 0, ⟨hP, fr_tr fB (fr_mono f27 (by unfold STw; omega)), hIt_fr hI f27 (by omega), by rw [si_ne (by omega)]; exact h26, plDU_fr hd f27 (by omega), si_eq, h80, hr.2.1, hr.2.2.1⟩, Nat.zero_le _, fun j hj => absurd hj (Nat.not_lt_zero j), rfl, rfl, rfl⟩
      · rcases ht2 with h27 | ⟨h27, hT⟩
        · exact absurd h27 z
        · exact hP.2 h80 B fB hI (Or.inr ⟨h26, hd⟩) hd (Or.inr ⟨h27, hT⟩) hT
  · rintro q A P - μ L st B ⟨v, i, hG, hi, hz, rfl, rfl, rfl⟩
    simp (disch := omega) only [k_X12_laysTwins_0, k_X12_laysTwins_25, k_X12_laysTwins_100, k_X12_laysTwins_109, k_X12_laysTwins_161, k_X12_laysTwins_243, k_X12_laysTwins_256, k_X12_laysTwins_145, k_X12_laysTwins_229, k_X12_laysTwins_314, w_R, w_RI, x_aload, x_dup, x_iadd, x_icmp_ge, x_icmp_ne, x_if_eq, x_if_le, x_if_lt, x_if_ne, x_iinc, x_iload, x_irem, x_istore, x_isub, x_push, x_zret, y_bast, y_cv0, y_cv1, y_getF, y_getI, y_iald, y_iast, y_putI, y_putZ, xFT, xbool0, xbool1, Nat.reduceAdd, Nat.zero_add, xgl_0, xgl_s, xgl_n, xst_0, xst_1n, xst_1i, xst_1r, xst_1l, xst_s, set_0, set_s, true_and, and_true, xres, xcat_nil, xcat_i, xcat_r, xcat_l, Nat.add_zero, xble0, xble1, xble2, xble3, xble4, xble5, xble6, xble7, xble8, pk_mul, nI_add, nI_1, nI_leI, nI_ltI, nI_eq, n_in, n_cl, z_eq, z_lt, z_le, z_gt, z_ge, z_qe, o_eq, o_lt, o_le, o_gt, o_ge, vp0, vp1, cl0, cl1, n_sub, n_sub1, n_pm1, n_a0, n_0a, ofn, lN0, Nat.reduceLT, Nat.reduceLeDiff, Nat.reduceMul, Nat.reduceSub, Nat.reduceEqDiff, ne_eq, true_implies, false_implies, not_true_eq_false, not_false_eq_true, and_self, and_true, true_and, and_false, false_and, implies_true, if_true, if_false, i00, i10, i01, i11, ob_0, ob_1, tn_2, ln_2, ob_3, tn_4, ln_4, ob_5, tn_6, ln_6, tn_7, ln_7, ob_8, tn_9, ln_9, tn_10, ln_10, tn_11, ln_11, tn_12, ln_12, tn_13, ln_13, tn_14, ln_14, tn_15, ln_15, tn_16, ln_16, tn_17, ln_17, ob_18, tn_19, ln_19, tn_20, ln_20, tn_21, ln_21, tn_22, ln_22, tn_23, ln_23, tn_24, ln_24, tn_25, ln_25, tn_26, ln_26, tn_27, ln_27, ob_28, tn_29, ln_29, tn_30, ln_30, ob_31, tn_32, ln_32, tn_33, ln_33, ob_34, ob_35, tn_36, ln_36, tn_37, ln_37, tn_38, ln_38, ob_39, tn_40, ln_40, tn_41, ln_41, tn_42, ln_42, tn_43, ln_43, tn_44, ln_44, tn_45, ln_45, tn_46, ln_46, tn_47, ln_47, tn_48, ln_48, tn_49, ln_49, tn_50, ln_50, tn_51, ln_51, ob_52, tn_53, ln_53, tn_54, ln_54, tn_55, ln_55, tn_56, ln_56, ob_57, tn_58, ln_58, tn_59, ln_59, tn_60, ln_60, tn_61, ln_61, tn_62, ln_62, tn_63, ln_63, tn_64, ln_64, tn_65, ln_65, ob_66, tn_67, ln_67, tn_68, ln_68, tn_69, ln_69, tn_70, ln_70, tn_71, ln_71, tn_72, ln_72, tn_73, ln_73, ob_74, tn_75, ln_75, tn_76, ln_76, tn_77, ln_77, tn_78, ln_78, tn_79, ln_79, tn_80, ln_80, tn_81, ln_81, tn_82, ln_82, tn_83, ln_83, ob_84, tn_85, ln_85, tn_86, ln_86, tn_87, ln_87, tn_88, ln_88, tn_89, ln_89, tn_90, ln_90, tn_91, ln_91, tn_92, ln_92, tn_93, ln_93, ob_94, tn_95, ln_95, tn_96, ln_96, tn_97, ln_97, tn_98, ln_98, tn_99, ln_99, tn_100, ln_100, tn_101, ln_101, tn_102, ln_102, tn_103, ln_103, ob_104, tn_105, ln_105, tn_106, ln_106, tn_107, ln_107, tn_108, ln_108, tn_109, ln_109, tn_110, ln_110, tn_111, ln_111, tn_112, ln_112, tn_113, ln_113, ob_114, tn_115, ln_115, tn_116, ln_116, tn_117, ln_117, tn_118, ln_118, tn_119, ln_119, tn_120, ln_120, tn_121, ln_121, tn_122, ln_122, tn_123, ln_123, ob_124, tn_125, ln_125, tn_126, ln_126, tn_127, ln_127, tn_128, ln_128, tn_129, ln_129, tn_130, ln_130, tn_131, ln_131, tn_132, ln_132, tn_133, ln_133, ob_134, tn_135, ln_135, tn_136, ln_136, tn_137, ln_137, tn_138, ln_138, tn_139, ln_139, tn_140, ln_140, tn_141, ln_141, tn_142, ln_142, tn_143, ln_143, ob_144, tn_145, ln_145, tn_146, ln_146, tn_147, ln_147, tn_148, ln_148, tn_149, ln_149, tn_150, ln_150, tn_151, ln_151, tn_152, ln_152, tn_153, ln_153, ob_154, tn_155, ln_155, tn_156, ln_156, tn_157, ln_157, tn_158, ln_158, tn_159, ln_159, tn_160, ln_160, tn_161, ln_161, tn_162, ln_162, tn_163, ln_163, ob_164, tn_165, ln_165, tn_166, ln_166, ob_167, tn_168, ln_168, tn_169, ln_169, tn_170, ln_170, tn_171, ln_171, tn_172, ln_172, tn_173, ln_173, tn_174, ln_174, tn_175, ln_175, tn_176, ln_176, ob_177, tn_178, ln_178, tn_179, ln_179, ob_180, tn_181, ln_181, tn_182, ln_182, tn_183, ln_183, tn_184, ln_184, tn_185, ln_185, tn_186, ln_186, tn_187, ln_187, tn_188, ln_188, tn_189, ln_189, tn_190, ln_190, tn_191, ln_191, tn_192, ln_192, tn_193, ln_193, tn_194, ln_194, tn_195, ln_195, tn_196, ln_196, tn_197, ln_197, tn_198, ln_198, tn_199, ln_199, tn_200, ln_200, tn_201, ln_201, tn_202, ln_202, tn_203, ln_203, tn_204, ln_204, tn_205, ln_205, tn_206, ln_206, tn_207, ln_207, tn_208, ln_208, tn_209, ln_209, tn_210, ln_210, tn_211, ln_211, tn_212, ln_212, tn_213, ln_213, tn_214, ln_214, tn_215, ln_215, tn_216, ln_216, tn_217, ln_217, tn_218, ln_218, tn_219, ln_219, tn_220, ln_220, tn_221, ln_221, tn_222, ln_222, tn_223, ln_223, tn_224, ln_224, tn_225, ln_225, tn_226, ln_226, tn_227, ln_227, tn_228, ln_228, tn_229, ln_229, tn_230, ln_230, lx2, lx3, lx4, lx5, lx6, lx7, lx8, lx9, lx10, lx14, lx15, lx16, lx18, lx20, lx24, lx25, lx27, lx32, lx36, lx40, lx41, lx42, lx43, lx45, lx48, lx52, lx54, lx56, lx57, lx58, lx60, lx61, lx62, lx63, lx64, lx66, lx69, lx73, lx80, lx81, lx84, lx85, lx87, lx94, lx96, lx97, lx120, lx128, lx135, lx160, lx162, lx163, lx165, lx200, lx232, lx242, lx243, lx255, lx256, lx320, lx325, lx400, lx405, lx464, lx512, lx600, lx640, lx752, lx900, lx940, lx1000, lx1024, lx1764, lx3360, lx3840, lx5000, lx6400, lx9050, lx9998, lx9999, lx10000, lx25600, lx76800, lx99999, si_ne, si_eq, sl_ne, sl_eq, xl_si, xi_sl, sA_ne, sA_eq, xl_sA, nar40]
    refine ⟨fun a => ?_, fun a => ⟨by omega, by omega, ?_⟩⟩
    · have ei : i = 25600 := by omega
      subst ei
      have hB : fr (fun c k => (201 ≤ c ∧ c ≤ 205) ∨ (c = 180 ∧ 47 ≤ k ∧ k ≤ 52)) B (xsi (xsi (xsi (xsi (xsi (xsi (xsi (xsi B 180 51 0) 180 47 1) 202 0 0) 201 0 0) 203 0 0) 180 48 1) 180 49 0) 180 50 0) := by
        refine fr_si (fr_si (fr_si (fr_si (fr_si (fr_si (fr_si (fr_si fr_rf ?_) ?_) ?_) ?_) ?_) ?_) ?_) ?_ <;> omega
      have e1 : ∀ j, xi (xsi (xsi (xsi (xsi (xsi (xsi (xsi (xsi B 180 51 0) 180 47 1) 202 0 0) 201 0 0) 203 0 0) 180 48 1) 180 49 0) 180 50 0) 201 j = if j = 0 then 0 else xi B 201 j := fun j => by
        by_cases e : j = 0
        · subst e; simp (disch := omega) only [si_ne, si_eq, sl_ne, sl_eq, xl_si, xi_sl, sA_ne, sA_eq, xl_sA, if_true]
        · rw [if_neg e]; simp (disch := omega) only [si_ne, si_eq, sl_ne, sl_eq, xl_si, xi_sl, sA_ne, sA_eq, xl_sA]
      have e2 : ∀ j, xi (xsi (xsi (xsi (xsi (xsi (xsi (xsi (xsi B 180 51 0) 180 47 1) 202 0 0) 201 0 0) 203 0 0) 180 48 1) 180 49 0) 180 50 0) 205 j = xi B 205 j := fun j => by
        simp (disch := omega) only [si_ne, si_eq, sl_ne, sl_eq, xl_si, xi_sl, sA_ne, sA_eq, xl_sA]
      have e3 : xi (xsi (xsi (xsi (xsi (xsi (xsi (xsi (xsi B 180 51 0) 180 47 1) 202 0 0) 201 0 0) 203 0 0) 180 48 1) 180 49 0) 180 50 0) 202 0 = nI 0 := by
        simp (disch := omega) only [si_ne, si_eq, sl_ne, sl_eq, xl_si, xi_sl, sA_ne, sA_eq, xl_sA]; rfl
      have e4 : xi (xsi (xsi (xsi (xsi (xsi (xsi (xsi (xsi B 180 51 0) 180 47 1) 202 0 0) 201 0 0) 203 0 0) 180 48 1) 180 49 0) 180 50 0) 203 0 = nI 0 := by
        simp (disch := omega) only [si_ne, si_eq, sl_ne, sl_eq, xl_si, xi_sl, sA_ne, sA_eq, xl_sA]; rfl
      have e5 : xi (xsi (xsi (xsi (xsi (xsi (xsi (xsi (xsi B 180 51 0) 180 47 1) 202 0 0) 201 0 0) 203 0 0) 180 48 1) 180 49 0) 180 50 0) 180 51 = 0 := by
        simp (disch := omega) only [si_ne, si_eq, sl_ne, sl_eq, xl_si, xi_sl, sA_ne, sA_eq, xl_sA]
      have e6 : xi (xsi (xsi (xsi (xsi (xsi (xsi (xsi (xsi B 180 51 0) 180 47 1) 202 0 0) 201 0 0) 203 0 0) 180 48 1) 180 49 0) 180 50 0) 180 47 = nI 1 := by
        simp (disch := omega) only [si_ne, si_eq, sl_ne, sl_eq, xl_si, xi_sl, sA_ne, sA_eq, xl_sA]; rfl
      have e7 : xi (xsi (xsi (xsi (xsi (xsi (xsi (xsi (xsi B 180 51 0) 180 47 1) 202 0 0) 201 0 0) 203 0 0) 180 48 1) 180 49 0) 180 50 0) 180 48 = nI 1 := by
        simp (disch := omega) only [si_ne, si_eq, sl_ne, sl_eq, xl_si, xi_sl, sA_ne, sA_eq, xl_sA]; rfl
      have e8 : xi (xsi (xsi (xsi (xsi (xsi (xsi (xsi (xsi B 180 51 0) 180 47 1) 202 0 0) 201 0 0) 203 0 0) 180 48 1) 180 49 0) 180 50 0) 180 49 = 0 := by
        simp (disch := omega) only [si_ne, si_eq, sl_ne, sl_eq, xl_si, xi_sl, sA_ne, sA_eq, xl_sA]
      have e9 : xi (xsi (xsi (xsi (xsi (xsi (xsi (xsi (xsi B 180 51 0) 180 47 1) 202 0 0) 201 0 0) 203 0 0) 180 48 1) 180 49 0) 180 50 0) 180 50 = nI 0 := by
        simp (disch := omega) only [si_ne, si_eq, sl_ne, sl_eq, xl_si, xi_sl, sA_ne, sA_eq, xl_sA]; rfl
      generalize xsi (xsi (xsi (xsi (xsi (xsi (xsi (xsi B 180 51 0) 180 47 1) 202 0 0) 201 0 0) 203 0 0) 180 48 1) 180 49 0) 180 50 0 = C at *
      have gC := ltG_fr hG hB
      have k2 : okA C 202 1 := okA_push (A := C) (okA_0 C 202) (fun ⟨k, hk, _⟩ => Nat.not_lt_zero k hk) (t := 0) (by omega) (fun k hk => rfl) e3
      have k3 : okA C 203 1 := okA_push (A := C) (okA_0 C 203) (fun ⟨k, hk, _⟩ => Nat.not_lt_zero k hk) (t := 0) (by omega) (fun k hk => rfl) e4
      have m0 : ∀ c x, ¬ inA C c 0 x := fun c x ⟨k, hk, _⟩ => Nat.not_lt_zero k hk
      have m2 : ∀ x, x < 25600 → (inA C 202 1 x ↔ x = 0) := fun x hx => by
        rw [inA_push (A := C) (n := 0) (t := 0) (by omega) hx (fun k hk => rfl) e3]
        exact ⟨fun w => w.elim (fun w => absurd w (m0 _ _)) id, Or.inr⟩
      have m3 : ∀ x, x < 25600 → (inA C 203 1 x ↔ x = 0) := fun x hx => by
        rw [inA_push (A := C) (n := 0) (t := 0) (by omega) hx (fun k hk => rfl) e4]
        exact ⟨fun w => w.elim (fun w => absurd w (m0 _ _)) id, Or.inr⟩
      refine xE0 (30000 - 0, 3, 0) ⟨v, 0, 1, fun t => if t = 0 then 0 else 99999, _, gC, ⟨1, gC.2.2.2.2.1, e5, e9, by omega, e7, e8, e6, fun _ => Nat.le_refl _, fun t ht => ?_, k3, k2, fun t ht => ?_, if_pos rfl, fun t ht w => absurd w (Nat.not_lt_zero _)⟩, fun t ht => by rw [e2]; exact (hz t ht).2, rfl, rfl, rfl⟩
      · rw [e1]
        by_cases e : t = 0
        · subst e
          simp only [if_true]
          exact ⟨rfl, Or.inl (Nat.le_refl _), fun _ => rc_start _⟩
        · simp only [if_neg e]
          exact ⟨(hz t ht).1, Or.inr trivial, fun w => absurd w (by omega)⟩
      · rw [m2 t ht, m3 t ht]
        by_cases e : t = 0
        · subst e; simp only [if_true]; exact ⟨fun _ => by omega, fun _ => trivial, fun _ => by omega, fun _ => trivial⟩
        · simp only [if_neg e]; exact ⟨fun w => absurd w e, fun w => absurd w (by omega), fun w => absurd w e, fun w => absurd w (by omega)⟩
    · refine xB1 (b := 25600 - (i + 1)) (by omega) ⟨v, i + 1, ltG_fr hG (fr_si (fr_si fr_rf (by omega)) (by omega)), by omega, fun j hj => ?_, rfl, rfl, rfl⟩
      by_cases e : j = i
      · subst e; simp (disch := omega) only [si_ne, si_eq, sl_ne, sl_eq, xl_si, xi_sl, sA_ne, sA_eq, xl_sA]; exact ⟨trivial, trivial⟩
      · simp (disch := omega) only [si_ne, si_eq, sl_ne, sl_eq, xl_si, xi_sl, sA_ne, sA_eq, xl_sA]; exact hz j (by omega)
  · rintro q A P - μ L st B ⟨v, d, nq, F, o1, hG, hS, hm, rfl, rfl, rfl⟩
    have h80 := hG.2.2.2.2.2.2.1
    obtain ⟨no, hD, h51, h50, hd, h48, h49, h47, h1, hF, kq, ko, hs, h0, hc⟩ := hS
    have hnq := okA_le kq
    have hno := okA_le ko
    have h325 : F 325 ≤ 99999 := by rcases (hF 325 (by omega)).2.1 with w | w <;> omega
    simp (disch := omega) only [k_X12_laysTwins_0, k_X12_laysTwins_25, k_X12_laysTwins_100, k_X12_laysTwins_109, k_X12_laysTwins_161, k_X12_laysTwins_243, k_X12_laysTwins_256, k_X12_laysTwins_145, k_X12_laysTwins_229, k_X12_laysTwins_314, w_R, w_RI, x_aload, x_dup, x_iadd, x_icmp_ge, x_icmp_ne, x_if_eq, x_if_le, x_if_lt, x_if_ne, x_iinc, x_iload, x_irem, x_istore, x_isub, x_push, x_zret, y_bast, y_cv0, y_cv1, y_getF, y_getI, y_iald, y_iast, y_putI, y_putZ, xFT, xbool0, xbool1, Nat.reduceAdd, Nat.zero_add, xgl_0, xgl_s, xgl_n, xst_0, xst_1n, xst_1i, xst_1r, xst_1l, xst_s, set_0, set_s, true_and, and_true, xres, xcat_nil, xcat_i, xcat_r, xcat_l, Nat.add_zero, xble0, xble1, xble2, xble3, xble4, xble5, xble6, xble7, xble8, pk_mul, nI_add, nI_1, nI_leI, nI_ltI, nI_eq, n_in, n_cl, z_eq, z_lt, z_le, z_gt, z_ge, z_qe, o_eq, o_lt, o_le, o_gt, o_ge, vp0, vp1, cl0, cl1, n_sub, n_sub1, n_pm1, n_a0, n_0a, ofn, lN0, Nat.reduceLT, Nat.reduceLeDiff, Nat.reduceMul, Nat.reduceSub, Nat.reduceEqDiff, ne_eq, true_implies, false_implies, not_true_eq_false, not_false_eq_true, and_self, and_true, true_and, and_false, false_and, implies_true, if_true, if_false, i00, i10, i01, i11, ob_0, ob_1, tn_2, ln_2, ob_3, tn_4, ln_4, ob_5, tn_6, ln_6, tn_7, ln_7, ob_8, tn_9, ln_9, tn_10, ln_10, tn_11, ln_11, tn_12, ln_12, tn_13, ln_13, tn_14, ln_14, tn_15, ln_15, tn_16, ln_16, tn_17, ln_17, ob_18, tn_19, ln_19, tn_20, ln_20, tn_21, ln_21, tn_22, ln_22, tn_23, ln_23, tn_24, ln_24, tn_25, ln_25, tn_26, ln_26, tn_27, ln_27, ob_28, tn_29, ln_29, tn_30, ln_30, ob_31, tn_32, ln_32, tn_33, ln_33, ob_34, ob_35, tn_36, ln_36, tn_37, ln_37, tn_38, ln_38, ob_39, tn_40, ln_40, tn_41, ln_41, tn_42, ln_42, tn_43, ln_43, tn_44, ln_44, tn_45, ln_45, tn_46, ln_46, tn_47, ln_47, tn_48, ln_48, tn_49, ln_49, tn_50, ln_50, tn_51, ln_51, ob_52, tn_53, ln_53, tn_54, ln_54, tn_55, ln_55, tn_56, ln_56, ob_57, tn_58, ln_58, tn_59, ln_59, tn_60, ln_60, tn_61, ln_61, tn_62, ln_62, tn_63, ln_63, tn_64, ln_64, tn_65, ln_65, ob_66, tn_67, ln_67, tn_68, ln_68, tn_69, ln_69, tn_70, ln_70, tn_71, ln_71, tn_72, ln_72, tn_73, ln_73, ob_74, tn_75, ln_75, tn_76, ln_76, tn_77, ln_77, tn_78, ln_78, tn_79, ln_79, tn_80, ln_80, tn_81, ln_81, tn_82, ln_82, tn_83, ln_83, ob_84, tn_85, ln_85, tn_86, ln_86, tn_87, ln_87, tn_88, ln_88, tn_89, ln_89, tn_90, ln_90, tn_91, ln_91, tn_92, ln_92, tn_93, ln_93, ob_94, tn_95, ln_95, tn_96, ln_96, tn_97, ln_97, tn_98, ln_98, tn_99, ln_99, tn_100, ln_100, tn_101, ln_101, tn_102, ln_102, tn_103, ln_103, ob_104, tn_105, ln_105, tn_106, ln_106, tn_107, ln_107, tn_108, ln_108, tn_109, ln_109, tn_110, ln_110, tn_111, ln_111, tn_112, ln_112, tn_113, ln_113, ob_114, tn_115, ln_115, tn_116, ln_116, tn_117, ln_117, tn_118, ln_118, tn_119, ln_119, tn_120, ln_120, tn_121, ln_121, tn_122, ln_122, tn_123, ln_123, ob_124, tn_125, ln_125, tn_126, ln_126, tn_127, ln_127, tn_128, ln_128, tn_129, ln_129, tn_130, ln_130, tn_131, ln_131, tn_132, ln_132, tn_133, ln_133, ob_134, tn_135, ln_135, tn_136, ln_136, tn_137, ln_137, tn_138, ln_138, tn_139, ln_139, tn_140, ln_140, tn_141, ln_141, tn_142, ln_142, tn_143, ln_143, ob_144, tn_145, ln_145, tn_146, ln_146, tn_147, ln_147, tn_148, ln_148, tn_149, ln_149, tn_150, ln_150, tn_151, ln_151, tn_152, ln_152, tn_153, ln_153, ob_154, tn_155, ln_155, tn_156, ln_156, tn_157, ln_157, tn_158, ln_158, tn_159, ln_159, tn_160, ln_160, tn_161, ln_161, tn_162, ln_162, tn_163, ln_163, ob_164, tn_165, ln_165, tn_166, ln_166, ob_167, tn_168, ln_168, tn_169, ln_169, tn_170, ln_170, tn_171, ln_171, tn_172, ln_172, tn_173, ln_173, tn_174, ln_174, tn_175, ln_175, tn_176, ln_176, ob_177, tn_178, ln_178, tn_179, ln_179, ob_180, tn_181, ln_181, tn_182, ln_182, tn_183, ln_183, tn_184, ln_184, tn_185, ln_185, tn_186, ln_186, tn_187, ln_187, tn_188, ln_188, tn_189, ln_189, tn_190, ln_190, tn_191, ln_191, tn_192, ln_192, tn_193, ln_193, tn_194, ln_194, tn_195, ln_195, tn_196, ln_196, tn_197, ln_197, tn_198, ln_198, tn_199, ln_199, tn_200, ln_200, tn_201, ln_201, tn_202, ln_202, tn_203, ln_203, tn_204, ln_204, tn_205, ln_205, tn_206, ln_206, tn_207, ln_207, tn_208, ln_208, tn_209, ln_209, tn_210, ln_210, tn_211, ln_211, tn_212, ln_212, tn_213, ln_213, tn_214, ln_214, tn_215, ln_215, tn_216, ln_216, tn_217, ln_217, tn_218, ln_218, tn_219, ln_219, tn_220, ln_220, tn_221, ln_221, tn_222, ln_222, tn_223, ln_223, tn_224, ln_224, tn_225, ln_225, tn_226, ln_226, tn_227, ln_227, tn_228, ln_228, tn_229, ln_229, tn_230, ln_230, lx2, lx3, lx4, lx5, lx6, lx7, lx8, lx9, lx10, lx14, lx15, lx16, lx18, lx20, lx24, lx25, lx27, lx32, lx36, lx40, lx41, lx42, lx43, lx45, lx48, lx52, lx54, lx56, lx57, lx58, lx60, lx61, lx62, lx63, lx64, lx66, lx69, lx73, lx80, lx81, lx84, lx85, lx87, lx94, lx96, lx97, lx120, lx128, lx135, lx160, lx162, lx163, lx165, lx200, lx232, lx242, lx243, lx255, lx256, lx320, lx325, lx400, lx405, lx464, lx512, lx600, lx640, lx752, lx900, lx940, lx1000, lx1024, lx1764, lx3360, lx3840, lx5000, lx6400, lx9050, lx9998, lx9999, lx10000, lx25600, lx76800, lx99999, si_ne, si_eq, sl_ne, sl_eq, xl_si, xi_sl, sA_ne, sA_eq, xl_sA, h48, (hF 325 (by omega)).1, nar4]
    refine ⟨fun z => ?_, fun z => ?_⟩
    · subst z
      have hFc : ∀ t, t < 25600 → F t ≤ 25600 ∨ F t = 99999 := fun t ht => by
        rcases (hF t ht).2.1 with w | w <;> omega
      have hlt : ∀ t, t < 25600 → F t < 99999 → F t < d := fun t ht w => by
        have h2 := hF t ht
        have h3 := (hs t ht).2.1
        rcases h2.2.1 with h2 | h2
        · by_cases e : F t = d
          · obtain ⟨k, hk, -⟩ := h3 e
            exact absurd hk (Nat.not_lt_zero k)
          · omega
        · omega
      have hcl : ∀ t, t < 25600 → F t < 99999 → clo v F t := fun t ht w => hc t ht (hlt t ht w)
      have hr : ∀ t, t < 25600 → (F t < 99999 ↔ rch v t) := fun t ht => by
        constructor
        · exact fun w => ⟨_, (hF t ht).2.2 w⟩
        · rintro ⟨d', w⟩
          have := (far_all h80 h0 hFc hcl w).1
          rw [nEn_De ht] at this
          exact this
      have hfr : ∀ t, t < 25600 → isFar v t (F t) := fun t ht => by
        by_cases w : F t < 99999
        · refine Or.inr ⟨?_, (hF t ht).2.2 w, fun d' w' => ?_⟩
          · rcases hFc t ht with q | q <;> omega
          · have := (far_all h80 h0 hFc hcl w').2
            rw [nEn_De ht] at this
            exact this
        · refine Or.inl ⟨?_, fun q => w ((hr t ht).mpr q)⟩
          rcases hFc t ht with q | q <;> omega
      have no1 : 1 ≤ no := by
        have := (hs 0 (by omega)).2.2.mpr (by omega)
        obtain ⟨k, hk, -⟩ := this
        omega
      have hfS : ∀ C, fr (fun c k => c = 205 ∨ (c = 180 ∧ k = 51)) B C → frS v no F C := fun C hC => by
        have e202 : ∀ k, k < no → xi C 202 k = xi B 202 k := fun k _ => fr_i hC (by omega)
        exact ⟨by rw [fr_i hC (by omega)]; exact h47, no1, okA_congr ko e202, fun t ht => by rw [inA_congr e202, (hs t ht).2.2]; exact hr t ht, fun t ht => ⟨by rw [fr_i hC (by omega)]; exact (hF t ht).1, hfr t ht⟩⟩
      refine ⟨fun w => ?_, fun w => ?_⟩
      · have nr : ¬ rch v 325 := fun q => by have := (hr 325 (by omega)).mpr q; omega
        have f1 : fr (fun c k => c = 205 ∨ (c = 180 ∧ k = 51)) B (xsi B 180 51 1) := fr_si fr_rf (by omega)
        exact xE0 _ ⟨v, no, F, fun _ => false, false, _, _, ltG_fr hG (fr_mono f1 (by omega)), hfS _ f1, ⟨si_eq, fun t ht => by rw [si_ne (by omega)]; exact hm t ht, fun t ht w => (by cases w), fun w => absurd w nr⟩, fun _ t ht _ _ ⟨t', g, _, w⟩ => (by cases w), rfl, rfl, rfl⟩
      · have yr : rch v 325 := (hr 325 (by omega)).mp (by omega)
        have f1 : fr (fun c k => c = 205 ∨ (c = 180 ∧ k = 51)) B (xsi (xsi B 180 51 1) 205 325 1) := fr_si (fr_si fr_rf (by omega)) (by omega)
        refine xE0 _ ⟨v, no, F, fun t => decide (t = 325), true, _, _, ltG_fr hG (fr_mono f1 (by omega)), hfS _ f1, ⟨by rw [si_ne (by omega)]; exact si_eq, fun t ht => ?_, fun t ht w => ?_, fun _ => decide_eq_true rfl⟩, fun w => (by cases w), rfl, rfl, rfl⟩
        · show _ = bI (decide (t = 325))
          by_cases e : t = 325
          · subst e; rw [si_eq, decide_eq_true rfl]; rfl
          · rw [si_ne (by omega), si_ne (by omega), decide_eq_false e]; exact hm t ht
        · simp only [decide_eq_true_eq] at w
          subst w
          exact su_meet yr
    · refine xB2 (c := 2) (by omega) ⟨v, d, nq, 0, F, hG, ⟨0, no, hD, h51, h50, h48, h49, h47, h1 (by omega), fun w => absurd w (Nat.lt_irrefl 0), fun t ht => ⟨(hF t ht).1, by have := (hF t ht).2.1; omega, (hF t ht).2.2⟩, kq, okA_0 B 204, ko, fun t ht => ⟨(hs t ht).1, (hs t ht).2.1, fun ⟨k, hk, _⟩ => absurd hk (Nat.not_lt_zero k), fun w => ?_, (hs t ht).2.2⟩⟩, Nat.zero_le _, h0, hc, fun j t hj => absurd hj (Nat.not_lt_zero j), hm, rfl, rfl, rfl⟩
      have := (hF t ht).2.1
      omega
  · rintro q A P - μ L st B ⟨v, d, nq, k, F, hG, hS, hk, h0, hc, hq, hm, rfl, rfl, rfl⟩
    have hS0 := hS
    have h80 := hG.2.2.2.2.2.2.1
    have hw := hG.2.2.2.2.2.2.2.1
    have hwc := hG.2.2.2.2.2.2.2.2
    obtain ⟨nl, no, hD, h51, h50, h48, h49, h47, h1, h2, hF, kq, kl, ko, hs⟩ := hS
    have hnq := okA_le kq
    have hno := okA_le ko
    have hnl := okA_le kl
    simp (disch := omega) only [k_X12_laysTwins_0, k_X12_laysTwins_25, k_X12_laysTwins_100, k_X12_laysTwins_109, k_X12_laysTwins_161, k_X12_laysTwins_243, k_X12_laysTwins_256, k_X12_laysTwins_145, k_X12_laysTwins_229, k_X12_laysTwins_314, w_R, w_RI, x_aload, x_dup, x_iadd, x_icmp_ge, x_icmp_ne, x_if_eq, x_if_le, x_if_lt, x_if_ne, x_iinc, x_iload, x_irem, x_istore, x_isub, x_push, x_zret, y_bast, y_cv0, y_cv1, y_getF, y_getI, y_iald, y_iast, y_putI, y_putZ, xFT, xbool0, xbool1, Nat.reduceAdd, Nat.zero_add, xgl_0, xgl_s, xgl_n, xst_0, xst_1n, xst_1i, xst_1r, xst_1l, xst_s, set_0, set_s, true_and, and_true, xres, xcat_nil, xcat_i, xcat_r, xcat_l, Nat.add_zero, xble0, xble1, xble2, xble3, xble4, xble5, xble6, xble7, xble8, pk_mul, nI_add, nI_1, nI_leI, nI_ltI, nI_eq, n_in, n_cl, z_eq, z_lt, z_le, z_gt, z_ge, z_qe, o_eq, o_lt, o_le, o_gt, o_ge, vp0, vp1, cl0, cl1, n_sub, n_sub1, n_pm1, n_a0, n_0a, ofn, lN0, Nat.reduceLT, Nat.reduceLeDiff, Nat.reduceMul, Nat.reduceSub, Nat.reduceEqDiff, ne_eq, true_implies, false_implies, not_true_eq_false, not_false_eq_true, and_self, and_true, true_and, and_false, false_and, implies_true, if_true, if_false, i00, i10, i01, i11, ob_0, ob_1, tn_2, ln_2, ob_3, tn_4, ln_4, ob_5, tn_6, ln_6, tn_7, ln_7, ob_8, tn_9, ln_9, tn_10, ln_10, tn_11, ln_11, tn_12, ln_12, tn_13, ln_13, tn_14, ln_14, tn_15, ln_15, tn_16, ln_16, tn_17, ln_17, ob_18, tn_19, ln_19, tn_20, ln_20, tn_21, ln_21, tn_22, ln_22, tn_23, ln_23, tn_24, ln_24, tn_25, ln_25, tn_26, ln_26, tn_27, ln_27, ob_28, tn_29, ln_29, tn_30, ln_30, ob_31, tn_32, ln_32, tn_33, ln_33, ob_34, ob_35, tn_36, ln_36, tn_37, ln_37, tn_38, ln_38, ob_39, tn_40, ln_40, tn_41, ln_41, tn_42, ln_42, tn_43, ln_43, tn_44, ln_44, tn_45, ln_45, tn_46, ln_46, tn_47, ln_47, tn_48, ln_48, tn_49, ln_49, tn_50, ln_50, tn_51, ln_51, ob_52, tn_53, ln_53, tn_54, ln_54, tn_55, ln_55, tn_56, ln_56, ob_57, tn_58, ln_58, tn_59, ln_59, tn_60, ln_60, tn_61, ln_61, tn_62, ln_62, tn_63, ln_63, tn_64, ln_64, tn_65, ln_65, ob_66, tn_67, ln_67, tn_68, ln_68, tn_69, ln_69, tn_70, ln_70, tn_71, ln_71, tn_72, ln_72, tn_73, ln_73, ob_74, tn_75, ln_75, tn_76, ln_76, tn_77, ln_77, tn_78, ln_78, tn_79, ln_79, tn_80, ln_80, tn_81, ln_81, tn_82, ln_82, tn_83, ln_83, ob_84, tn_85, ln_85, tn_86, ln_86, tn_87, ln_87, tn_88, ln_88, tn_89, ln_89, tn_90, ln_90, tn_91, ln_91, tn_92, ln_92, tn_93, ln_93, ob_94, tn_95, ln_95, tn_96, ln_96, tn_97, ln_97, tn_98, ln_98, tn_99, ln_99, tn_100, ln_100, tn_101, ln_101, tn_102, ln_102, tn_103, ln_103, ob_104, tn_105, ln_105, tn_106, ln_106, tn_107, ln_107, tn_108, ln_108, tn_109, ln_109, tn_110, ln_110, tn_111, ln_111, tn_112, ln_112, tn_113, ln_113, ob_114, tn_115, ln_115, tn_116, ln_116, tn_117, ln_117, tn_118, ln_118, tn_119, ln_119, tn_120, ln_120, tn_121, ln_121, tn_122, ln_122, tn_123, ln_123, ob_124, tn_125, ln_125, tn_126, ln_126, tn_127, ln_127, tn_128, ln_128, tn_129, ln_129, tn_130, ln_130, tn_131, ln_131, tn_132, ln_132, tn_133, ln_133, ob_134, tn_135, ln_135, tn_136, ln_136, tn_137, ln_137, tn_138, ln_138, tn_139, ln_139, tn_140, ln_140, tn_141, ln_141, tn_142, ln_142, tn_143, ln_143, ob_144, tn_145, ln_145, tn_146, ln_146, tn_147, ln_147, tn_148, ln_148, tn_149, ln_149, tn_150, ln_150, tn_151, ln_151, tn_152, ln_152, tn_153, ln_153, ob_154, tn_155, ln_155, tn_156, ln_156, tn_157, ln_157, tn_158, ln_158, tn_159, ln_159, tn_160, ln_160, tn_161, ln_161, tn_162, ln_162, tn_163, ln_163, ob_164, tn_165, ln_165, tn_166, ln_166, ob_167, tn_168, ln_168, tn_169, ln_169, tn_170, ln_170, tn_171, ln_171, tn_172, ln_172, tn_173, ln_173, tn_174, ln_174, tn_175, ln_175, tn_176, ln_176, ob_177, tn_178, ln_178, tn_179, ln_179, ob_180, tn_181, ln_181, tn_182, ln_182, tn_183, ln_183, tn_184, ln_184, tn_185, ln_185, tn_186, ln_186, tn_187, ln_187, tn_188, ln_188, tn_189, ln_189, tn_190, ln_190, tn_191, ln_191, tn_192, ln_192, tn_193, ln_193, tn_194, ln_194, tn_195, ln_195, tn_196, ln_196, tn_197, ln_197, tn_198, ln_198, tn_199, ln_199, tn_200, ln_200, tn_201, ln_201, tn_202, ln_202, tn_203, ln_203, tn_204, ln_204, tn_205, ln_205, tn_206, ln_206, tn_207, ln_207, tn_208, ln_208, tn_209, ln_209, tn_210, ln_210, tn_211, ln_211, tn_212, ln_212, tn_213, ln_213, tn_214, ln_214, tn_215, ln_215, tn_216, ln_216, tn_217, ln_217, tn_218, ln_218, tn_219, ln_219, tn_220, ln_220, tn_221, ln_221, tn_222, ln_222, tn_223, ln_223, tn_224, ln_224, tn_225, ln_225, tn_226, ln_226, tn_227, ln_227, tn_228, ln_228, tn_229, ln_229, tn_230, ln_230, lx2, lx3, lx4, lx5, lx6, lx7, lx8, lx9, lx10, lx14, lx15, lx16, lx18, lx20, lx24, lx25, lx27, lx32, lx36, lx40, lx41, lx42, lx43, lx45, lx48, lx52, lx54, lx56, lx57, lx58, lx60, lx61, lx62, lx63, lx64, lx66, lx69, lx73, lx80, lx81, lx84, lx85, lx87, lx94, lx96, lx97, lx120, lx128, lx135, lx160, lx162, lx163, lx165, lx200, lx232, lx242, lx243, lx255, lx256, lx320, lx325, lx400, lx405, lx464, lx512, lx600, lx640, lx752, lx900, lx940, lx1000, lx1024, lx1764, lx3360, lx3840, lx5000, lx6400, lx9050, lx9998, lx9999, lx10000, lx25600, lx76800, lx99999, si_ne, si_eq, sl_ne, sl_eq, xl_si, xi_sl, sA_ne, sA_eq, xl_sA, h48, h49, h50]
    refine ⟨fun z => ?_, fun z => ?_⟩
    · have ek : k = nq := by omega
      subst ek
      have f1 : fr (fun c k => c = 180 ∧ k = 48) B (xsi B 180 48 (nI nl)) := fr_si fr_rf (by omega)
      have f2 : fr (fun c k => (201 ≤ c ∧ c ≤ 205) ∨ (c = 180 ∧ 47 ≤ k ∧ k ≤ 52)) B (xsi B 180 48 (nI nl)) := fr_si fr_rf (by omega)
      have gC := ltG_fr hG f2
      have e202 : ∀ k, k < no → xi (xsi B 180 48 (nI nl)) 202 k = xi B 202 k := fun k _ => si_ne (by omega)
      have e204 : ∀ k, k < nl → xi (xsi B 180 48 (nI nl)) 204 k = xi B 204 k := fun k _ => si_ne (by omega)
      refine xB2 (c := 1) (by omega) ⟨v, d, nl, 0, F, gC, ⟨no, gC.2.2.2.2.1, by rw [si_ne (by omega)]; exact h51, by rw [si_ne (by omega)]; exact h50, by omega, si_eq, by rw [si_ne (by omega)]; exact h49, by rw [si_ne (by omega)]; exact h47, h2, fun t ht => ⟨by rw [si_ne (by omega)]; exact (hF t ht).1, (hF t ht).2⟩, okA_congr kl e204, okA_congr ko e202, fun t ht => by rw [inA_congr e204, inA_congr e202]; exact (hs t ht).2.2, h0, fun t ht w => ?_⟩, Nat.zero_le _, fun j hj => absurd hj (Nat.not_lt_zero j), fun t ht => by rw [si_ne (by omega)]; exact hm t ht, rfl, rfl, rfl⟩
      by_cases e : F t = d
      · obtain ⟨j, hj, ej⟩ := (hs t ht).2.1 e
        rcases hq j t hj ht ej with w2 | w2
        · omega
        · exact w2
      · exact hc t ht (by omega)
    · obtain ⟨t, ht, et⟩ := kq.1 k (by omega)
      have hin : inA B 203 nq t := ⟨k, by omega, et⟩
      have hFt := hF t ht
      have hle := (hs t ht).1 hin
      simp (disch := omega) only [pk_mul, nI_add, nI_1, nI_leI, nI_ltI, nI_eq, n_in, n_cl, z_eq, z_lt, z_le, z_gt, z_ge, z_qe, o_eq, o_lt, o_le, o_gt, o_ge, vp0, vp1, cl0, cl1, n_sub, n_sub1, n_pm1, n_a0, n_0a, ofn, lN0, Nat.reduceLT, Nat.reduceLeDiff, Nat.reduceMul, Nat.reduceSub, Nat.reduceEqDiff, ne_eq, true_implies, false_implies, not_true_eq_false, not_false_eq_true, and_self, and_true, true_and, and_false, false_and, implies_true, if_true, if_false, i00, i10, i01, i11, ob_0, ob_1, tn_2, ln_2, ob_3, tn_4, ln_4, ob_5, tn_6, ln_6, tn_7, ln_7, ob_8, tn_9, ln_9, tn_10, ln_10, tn_11, ln_11, tn_12, ln_12, tn_13, ln_13, tn_14, ln_14, tn_15, ln_15, tn_16, ln_16, tn_17, ln_17, ob_18, tn_19, ln_19, tn_20, ln_20, tn_21, ln_21, tn_22, ln_22, tn_23, ln_23, tn_24, ln_24, tn_25, ln_25, tn_26, ln_26, tn_27, ln_27, ob_28, tn_29, ln_29, tn_30, ln_30, ob_31, tn_32, ln_32, tn_33, ln_33, ob_34, ob_35, tn_36, ln_36, tn_37, ln_37, tn_38, ln_38, ob_39, tn_40, ln_40, tn_41, ln_41, tn_42, ln_42, tn_43, ln_43, tn_44, ln_44, tn_45, ln_45, tn_46, ln_46, tn_47, ln_47, tn_48, ln_48, tn_49, ln_49, tn_50, ln_50, tn_51, ln_51, ob_52, tn_53, ln_53, tn_54, ln_54, tn_55, ln_55, tn_56, ln_56, ob_57, tn_58, ln_58, tn_59, ln_59, tn_60, ln_60, tn_61, ln_61, tn_62, ln_62, tn_63, ln_63, tn_64, ln_64, tn_65, ln_65, ob_66, tn_67, ln_67, tn_68, ln_68, tn_69, ln_69, tn_70, ln_70, tn_71, ln_71, tn_72, ln_72, tn_73, ln_73, ob_74, tn_75, ln_75, tn_76, ln_76, tn_77, ln_77, tn_78, ln_78, tn_79, ln_79, tn_80, ln_80, tn_81, ln_81, tn_82, ln_82, tn_83, ln_83, ob_84, tn_85, ln_85, tn_86, ln_86, tn_87, ln_87, tn_88, ln_88, tn_89, ln_89, tn_90, ln_90, tn_91, ln_91, tn_92, ln_92, tn_93, ln_93, ob_94, tn_95, ln_95, tn_96, ln_96, tn_97, ln_97, tn_98, ln_98, tn_99, ln_99, tn_100, ln_100, tn_101, ln_101, tn_102, ln_102, tn_103, ln_103, ob_104, tn_105, ln_105, tn_106, ln_106, tn_107, ln_107, tn_108, ln_108, tn_109, ln_109, tn_110, ln_110, tn_111, ln_111, tn_112, ln_112, tn_113, ln_113, ob_114, tn_115, ln_115, tn_116, ln_116, tn_117, ln_117, tn_118, ln_118, tn_119, ln_119, tn_120, ln_120, tn_121, ln_121, tn_122, ln_122, tn_123, ln_123, ob_124, tn_125, ln_125, tn_126, ln_126, tn_127, ln_127, tn_128, ln_128, tn_129, ln_129, tn_130, ln_130, tn_131, ln_131, tn_132, ln_132, tn_133, ln_133, ob_134, tn_135, ln_135, tn_136, ln_136, tn_137, ln_137, tn_138, ln_138, tn_139, ln_139, tn_140, ln_140, tn_141, ln_141, tn_142, ln_142, tn_143, ln_143, ob_144, tn_145, ln_145, tn_146, ln_146, tn_147, ln_147, tn_148, ln_148, tn_149, ln_149, tn_150, ln_150, tn_151, ln_151, tn_152, ln_152, tn_153, ln_153, ob_154, tn_155, ln_155, tn_156, ln_156, tn_157, ln_157, tn_158, ln_158, tn_159, ln_159, tn_160, ln_160, tn_161, ln_161, tn_162, ln_162, tn_163, ln_163, ob_164, tn_165, ln_165, tn_166, ln_166, ob_167, tn_168, ln_168, tn_169, ln_169, tn_170, ln_170, tn_171, ln_171, tn_172, ln_172, tn_173, ln_173, tn_174, ln_174, tn_175, ln_175, tn_176, ln_176, ob_177, tn_178, ln_178, tn_179, ln_179, ob_180, tn_181, ln_181, tn_182, ln_182, tn_183, ln_183, tn_184, ln_184, tn_185, ln_185, tn_186, ln_186, tn_187, ln_187, tn_188, ln_188, tn_189, ln_189, tn_190, ln_190, tn_191, ln_191, tn_192, ln_192, tn_193, ln_193, tn_194, ln_194, tn_195, ln_195, tn_196, ln_196, tn_197, ln_197, tn_198, ln_198, tn_199, ln_199, tn_200, ln_200, tn_201, ln_201, tn_202, ln_202, tn_203, ln_203, tn_204, ln_204, tn_205, ln_205, tn_206, ln_206, tn_207, ln_207, tn_208, ln_208, tn_209, ln_209, tn_210, ln_210, tn_211, ln_211, tn_212, ln_212, tn_213, ln_213, tn_214, ln_214, tn_215, ln_215, tn_216, ln_216, tn_217, ln_217, tn_218, ln_218, tn_219, ln_219, tn_220, ln_220, tn_221, ln_221, tn_222, ln_222, tn_223, ln_223, tn_224, ln_224, tn_225, ln_225, tn_226, ln_226, tn_227, ln_227, tn_228, ln_228, tn_229, ln_229, tn_230, ln_230, lx2, lx3, lx4, lx5, lx6, lx7, lx8, lx9, lx10, lx14, lx15, lx16, lx18, lx20, lx24, lx25, lx27, lx32, lx36, lx40, lx41, lx42, lx43, lx45, lx48, lx52, lx54, lx56, lx57, lx58, lx60, lx61, lx62, lx63, lx64, lx66, lx69, lx73, lx80, lx81, lx84, lx85, lx87, lx94, lx96, lx97, lx120, lx128, lx135, lx160, lx162, lx163, lx165, lx200, lx232, lx242, lx243, lx255, lx256, lx320, lx325, lx400, lx405, lx464, lx512, lx600, lx640, lx752, lx900, lx940, lx1000, lx1024, lx1764, lx3360, lx3840, lx5000, lx6400, lx9050, lx9998, lx9999, lx10000, lx25600, lx76800, lx99999, et, hFt.1]
      refine ⟨by omega, ht, fun ne => ?_, fun e => ⟨by omega, ?_⟩⟩
      · refine xB3 (d := 30000 - (k + 1)) (by omega) ⟨v, d, nq, k + 1, F, hG, hS0, by omega, h0, hc, fun j t' hj ht' ej => ?_, hm, rfl, rfl, rfl⟩
        by_cases e : j = k
        · subst e
          rw [et] at ej
          have := (nI_eq (by omega) (by omega)).mp ej
          subst this
          exact Or.inl (by omega)
        · exact hq j t' (by omega) ht' ej
      · have pt := rc_pl (hFt.2.2 (by omega))
        have p1 : t / 320 < (plL v).length := pt.2.1
        have p2 : t / 4 % 80 < (plL v).length := pt.2.2
        refine ⟨rfl, v, Wse v d nq F B, _, fun _ _ => False, t, ⟨cm_se, hw, hwc, h80, ht, p1, p2, fun x g w => ?_, fun C hC => ?_⟩, ⟨F, nq, hS0, fr_rf, Nat.le_refl _, fun _ _ => rfl, fun x hx => ⟨Nat.le_refl _, Or.inl rfl⟩, fun x g hx w => w.elim⟩, rfl⟩
        · obtain ⟨n', hn', w1, w2, w3⟩ := eV_pl pt w
          obtain ⟨n2, hn2, w⟩ := w
          have rt := hFt.2.2 (by omega)
          rw [e] at rt
          have i1 := isN_pl h80 ⟨w1, w2, w3⟩
          have i2 : isN n2 := by
            have h3 : n2.1 < 4 ∧ n2.2.1 < (plL v).length ∧ n2.2.2 < (plL v).length := by
              rcases w with ⟨-, w⟩ | ⟨-, w⟩
              · exact rc_pl (rc_same rt w)
              · exact rc_pl (rc_more rt w)
            exact isN_pl h80 h3
          rw [hn2, nDe_En i2]
          rcases w with ⟨rfl, w⟩ | ⟨rfl, w⟩
          · rw [if_neg (by decide)]; exact rc_same rt w
          · rw [if_pos rfl]; exact rc_more rt w
        · obtain ⟨F', nq', k1, k2, k3, k4, k5, k6⟩ := hC
          have gC := ltG_fr hG (fr_mono k2 (by unfold SCo; omega))
          have keep : ∀ x, x < 25600 → F x ≤ d → F' x = F x := fun x hx w => by
            have := k5 x hx; omega
          have clk : ∀ x, x < 25600 → F x ≤ d → clo v F x → clo v F' x := fun x hx w hcx t' g w2 => by
            have h3 := hcx t' g w2
            have pl := rc_pl ((hF x hx).2.2 (by omega))
            obtain ⟨n', hn', q1⟩ := eV_pl pl w2
            have ht' : t' < 25600 := by rw [hn']; exact nEn_lt (isN_pl h80 q1)
            have := (k5 t' ht').1
            rw [keep x hx w]
            omega
          refine xB3 (d := 30000 - (k + 1)) (by omega) ⟨v, d, nq', k + 1, F', gC, k1, by omega, by rw [keep 0 (by omega) (by omega)]; exact h0, fun x hx w => ?_, fun j t' hj ht' ej => ?_, fun x hx => by rw [fr_i k2 (by unfold SCo; omega)]; exact hm x hx, rfl, rfl, rfl⟩
          · have h3 := k5 x hx
            have h4 : F x < d := by omega
            exact clk x hx (by omega) (hc x hx h4)
          · rw [k4 j (by omega)] at ej
            by_cases ejk : j = k
            · subst ejk
              rw [et] at ej
              have := (nI_eq (by omega) (by omega)).mp ej
              subst this
              refine Or.inr fun t' g w2 => ?_
              obtain ⟨n', hn', q1⟩ := eV_pl pt w2
              have ht' : t' < 25600 := by rw [hn']; exact nEn_lt (isN_pl h80 q1)
              have := k6 t' g ht' (Or.inr w2)
              rw [keep t ht (by omega), e]
              exact this
            · have hle2 := (hs t' ht').1 ⟨j, by omega, ej⟩
              rcases hq j t' (by omega) ht' ej with w2 | w2
              · exact Or.inl (by rw [keep t' ht' (by omega)]; exact w2)
              · exact Or.inr (clk t' ht' hle2 w2)
  · rintro q A P - μ L st B ⟨v, d, nl, k, F, hG, hS, hk, hq, hm, rfl, rfl, rfl⟩
    have hS0 := hS
    obtain ⟨no, hD, h51, h50, hd, h48, h49, h47, h2, hF, kl, ko, hs, h0, hc⟩ := hS
    have hno := okA_le ko
    have hnl := okA_le kl
    simp (disch := omega) only [k_X12_laysTwins_0, k_X12_laysTwins_25, k_X12_laysTwins_100, k_X12_laysTwins_109, k_X12_laysTwins_161, k_X12_laysTwins_243, k_X12_laysTwins_256, k_X12_laysTwins_145, k_X12_laysTwins_229, k_X12_laysTwins_314, w_R, w_RI, x_aload, x_dup, x_iadd, x_icmp_ge, x_icmp_ne, x_if_eq, x_if_le, x_if_lt, x_if_ne, x_iinc, x_iload, x_irem, x_istore, x_isub, x_push, x_zret, y_bast, y_cv0, y_cv1, y_getF, y_getI, y_iald, y_iast, y_putI, y_putZ, xFT, xbool0, xbool1, Nat.reduceAdd, Nat.zero_add, xgl_0, xgl_s, xgl_n, xst_0, xst_1n, xst_1i, xst_1r, xst_1l, xst_s, set_0, set_s, true_and, and_true, xres, xcat_nil, xcat_i, xcat_r, xcat_l, Nat.add_zero, xble0, xble1, xble2, xble3, xble4, xble5, xble6, xble7, xble8, pk_mul, nI_add, nI_1, nI_leI, nI_ltI, nI_eq, n_in, n_cl, z_eq, z_lt, z_le, z_gt, z_ge, z_qe, o_eq, o_lt, o_le, o_gt, o_ge, vp0, vp1, cl0, cl1, n_sub, n_sub1, n_pm1, n_a0, n_0a, ofn, lN0, Nat.reduceLT, Nat.reduceLeDiff, Nat.reduceMul, Nat.reduceSub, Nat.reduceEqDiff, ne_eq, true_implies, false_implies, not_true_eq_false, not_false_eq_true, and_self, and_true, true_and, and_false, false_and, implies_true, if_true, if_false, i00, i10, i01, i11, ob_0, ob_1, tn_2, ln_2, ob_3, tn_4, ln_4, ob_5, tn_6, ln_6, tn_7, ln_7, ob_8, tn_9, ln_9, tn_10, ln_10, tn_11, ln_11, tn_12, ln_12, tn_13, ln_13, tn_14, ln_14, tn_15, ln_15, tn_16, ln_16, tn_17, ln_17, ob_18, tn_19, ln_19, tn_20, ln_20, tn_21, ln_21, tn_22, ln_22, tn_23, ln_23, tn_24, ln_24, tn_25, ln_25, tn_26, ln_26, tn_27, ln_27, ob_28, tn_29, ln_29, tn_30, ln_30, ob_31, tn_32, ln_32, tn_33, ln_33, ob_34, ob_35, tn_36, ln_36, tn_37, ln_37, tn_38, ln_38, ob_39, tn_40, ln_40, tn_41, ln_41, tn_42, ln_42, tn_43, ln_43, tn_44, ln_44, tn_45, ln_45, tn_46, ln_46, tn_47, ln_47, tn_48, ln_48, tn_49, ln_49, tn_50, ln_50, tn_51, ln_51, ob_52, tn_53, ln_53, tn_54, ln_54, tn_55, ln_55, tn_56, ln_56, ob_57, tn_58, ln_58, tn_59, ln_59, tn_60, ln_60, tn_61, ln_61, tn_62, ln_62, tn_63, ln_63, tn_64, ln_64, tn_65, ln_65, ob_66, tn_67, ln_67, tn_68, ln_68, tn_69, ln_69, tn_70, ln_70, tn_71, ln_71, tn_72, ln_72, tn_73, ln_73, ob_74, tn_75, ln_75, tn_76, ln_76, tn_77, ln_77, tn_78, ln_78, tn_79, ln_79, tn_80, ln_80, tn_81, ln_81, tn_82, ln_82, tn_83, ln_83, ob_84, tn_85, ln_85, tn_86, ln_86, tn_87, ln_87, tn_88, ln_88, tn_89, ln_89, tn_90, ln_90, tn_91, ln_91, tn_92, ln_92, tn_93, ln_93, ob_94, tn_95, ln_95, tn_96, ln_96, tn_97, ln_97, tn_98, ln_98, tn_99, ln_99, tn_100, ln_100, tn_101, ln_101, tn_102, ln_102, tn_103, ln_103, ob_104, tn_105, ln_105, tn_106, ln_106, tn_107, ln_107, tn_108, ln_108, tn_109, ln_109, tn_110, ln_110, tn_111, ln_111, tn_112, ln_112, tn_113, ln_113, ob_114, tn_115, ln_115, tn_116, ln_116, tn_117, ln_117, tn_118, ln_118, tn_119, ln_119, tn_120, ln_120, tn_121, ln_121, tn_122, ln_122, tn_123, ln_123, ob_124, tn_125, ln_125, tn_126, ln_126, tn_127, ln_127, tn_128, ln_128, tn_129, ln_129, tn_130, ln_130, tn_131, ln_131, tn_132, ln_132, tn_133, ln_133, ob_134, tn_135, ln_135, tn_136, ln_136, tn_137, ln_137, tn_138, ln_138, tn_139, ln_139, tn_140, ln_140, tn_141, ln_141, tn_142, ln_142, tn_143, ln_143, ob_144, tn_145, ln_145, tn_146, ln_146, tn_147, ln_147, tn_148, ln_148, tn_149, ln_149, tn_150, ln_150, tn_151, ln_151, tn_152, ln_152, tn_153, ln_153, ob_154, tn_155, ln_155, tn_156, ln_156, tn_157, ln_157, tn_158, ln_158, tn_159, ln_159, tn_160, ln_160, tn_161, ln_161, tn_162, ln_162, tn_163, ln_163, ob_164, tn_165, ln_165, tn_166, ln_166, ob_167, tn_168, ln_168, tn_169, ln_169, tn_170, ln_170, tn_171, ln_171, tn_172, ln_172, tn_173, ln_173, tn_174, ln_174, tn_175, ln_175, tn_176, ln_176, ob_177, tn_178, ln_178, tn_179, ln_179, ob_180, tn_181, ln_181, tn_182, ln_182, tn_183, ln_183, tn_184, ln_184, tn_185, ln_185, tn_186, ln_186, tn_187, ln_187, tn_188, ln_188, tn_189, ln_189, tn_190, ln_190, tn_191, ln_191, tn_192, ln_192, tn_193, ln_193, tn_194, ln_194, tn_195, ln_195, tn_196, ln_196, tn_197, ln_197, tn_198, ln_198, tn_199, ln_199, tn_200, ln_200, tn_201, ln_201, tn_202, ln_202, tn_203, ln_203, tn_204, ln_204, tn_205, ln_205, tn_206, ln_206, tn_207, ln_207, tn_208, ln_208, tn_209, ln_209, tn_210, ln_210, tn_211, ln_211, tn_212, ln_212, tn_213, ln_213, tn_214, ln_214, tn_215, ln_215, tn_216, ln_216, tn_217, ln_217, tn_218, ln_218, tn_219, ln_219, tn_220, ln_220, tn_221, ln_221, tn_222, ln_222, tn_223, ln_223, tn_224, ln_224, tn_225, ln_225, tn_226, ln_226, tn_227, ln_227, tn_228, ln_228, tn_229, ln_229, tn_230, ln_230, lx2, lx3, lx4, lx5, lx6, lx7, lx8, lx9, lx10, lx14, lx15, lx16, lx18, lx20, lx24, lx25, lx27, lx32, lx36, lx40, lx41, lx42, lx43, lx45, lx48, lx52, lx54, lx56, lx57, lx58, lx60, lx61, lx62, lx63, lx64, lx66, lx69, lx73, lx80, lx81, lx84, lx85, lx87, lx94, lx96, lx97, lx120, lx128, lx135, lx160, lx162, lx163, lx165, lx200, lx232, lx242, lx243, lx255, lx256, lx320, lx325, lx400, lx405, lx464, lx512, lx600, lx640, lx752, lx900, lx940, lx1000, lx1024, lx1764, lx3360, lx3840, lx5000, lx6400, lx9050, lx9998, lx9999, lx10000, lx25600, lx76800, lx99999, si_ne, si_eq, sl_ne, sl_eq, xl_si, xi_sl, sA_ne, sA_eq, xl_sA, h48, h49, h50]
    refine ⟨fun z => ?_, fun z => ⟨by omega, by omega, ?_⟩⟩
    · have ek : k = nl := by omega
      subst ek
      have f2 : fr (fun c k => (201 ≤ c ∧ c ≤ 205) ∨ (c = 180 ∧ 47 ≤ k ∧ k ≤ 52)) B (xsi (xsi B 180 49 0) 180 50 (nI (d + 1))) := fr_si (fr_si fr_rf (by omega)) (by omega)
      have gC := ltG_fr hG f2
      have e202 : ∀ k, k < no → xi (xsi (xsi B 180 49 0) 180 50 (nI (d + 1))) 202 k = xi B 202 k := fun k _ => by rw [si_ne (by omega), si_ne (by omega)]
      have e203 : ∀ j, j < k → xi (xsi (xsi B 180 49 0) 180 50 (nI (d + 1))) 203 j = xi B 204 j := fun j hj => by rw [si_ne (by omega), si_ne (by omega)]; exact hq j hj
      have i203 : ∀ t, inA (xsi (xsi B 180 49 0) 180 50 (nI (d + 1))) 203 k t ↔ inA B 204 k t := fun t => by
        constructor
        · rintro ⟨j, a, b⟩; exact ⟨j, a, by rw [← e203 j a]; exact b⟩
        · rintro ⟨j, a, b⟩; exact ⟨j, a, by rw [e203 j a]; exact b⟩
      have k203 : okA (xsi (xsi B 180 49 0) 180 50 (nI (d + 1))) 203 k := by
        obtain ⟨a, b, c⟩ := kl
        refine ⟨fun j hj => by rw [e203 j hj]; exact a j hj, ?_, fun i j hi hj => by rw [e203 i (by omega), e203 j hj]; exact c i j hi hj⟩
        rw [cb_congr (g := fun t => bt (inA B 204 k t)) fun t _ => bt_congr (i203 t)]
        exact b
      refine xB1 (b := 30000 - (d + 1)) (by omega) ⟨v, d + 1, k, F, _, gC, ⟨no, gC.2.2.2.2.1, by simp (disch := omega) only [si_ne, si_eq, sl_ne, sl_eq, xl_si, xi_sl, sA_ne, sA_eq, xl_sA]; exact h51, si_eq, by omega, by simp (disch := omega) only [si_ne, si_eq, sl_ne, sl_eq, xl_si, xi_sl, sA_ne, sA_eq, xl_sA]; exact h48, by simp (disch := omega) only [si_ne, si_eq, sl_ne, sl_eq, xl_si, xi_sl, sA_ne, sA_eq, xl_sA], by simp (disch := omega) only [si_ne, si_eq, sl_ne, sl_eq, xl_si, xi_sl, sA_ne, sA_eq, xl_sA]; exact h47, fun w => by have := h2 w; omega, fun t ht => ⟨by simp (disch := omega) only [si_ne, si_eq, sl_ne, sl_eq, xl_si, xi_sl, sA_ne, sA_eq, xl_sA]; exact (hF t ht).1, (hF t ht).2⟩, k203, okA_congr ko e202, fun t ht => by rw [i203, inA_congr e202]; exact hs t ht, h0, fun t ht w => hc t ht (by omega)⟩, fun t ht => by simp (disch := omega) only [si_ne, si_eq, sl_ne, sl_eq, xl_si, xi_sl, sA_ne, sA_eq, xl_sA]; exact hm t ht, rfl, rfl, rfl⟩
    · have f1 : fr (fun c j => c = 203 ∧ j = k) B (xsi B 203 k (xi B 204 k)) := fr_si fr_rf (by omega)
      have f2 : fr (fun c k => (201 ≤ c ∧ c ≤ 205) ∨ (c = 180 ∧ 47 ≤ k ∧ k ≤ 52)) B (xsi B 203 k (xi B 204 k)) := fr_si fr_rf (by omega)
      have gC := ltG_fr hG f2
      have e202 : ∀ j, j < no → xi (xsi B 203 k (xi B 204 k)) 202 j = xi B 202 j := fun j _ => si_ne (by omega)
      have e204 : ∀ j, j < nl → xi (xsi B 203 k (xi B 204 k)) 204 j = xi B 204 j := fun j _ => si_ne (by omega)
      refine xB3 (d := 30000 - (k + 1)) (by omega) ⟨v, d, nl, k + 1, F, gC, ⟨no, gC.2.2.2.2.1, by rw [si_ne (by omega)]; exact h51, by rw [si_ne (by omega)]; exact h50, hd, by rw [si_ne (by omega)]; exact h48, by rw [si_ne (by omega)]; exact h49, by rw [si_ne (by omega)]; exact h47, h2, fun t ht => ⟨by rw [si_ne (by omega)]; exact (hF t ht).1, (hF t ht).2⟩, okA_congr kl e204, okA_congr ko e202, fun t ht => by rw [inA_congr e204, inA_congr e202]; exact hs t ht, h0, hc⟩, by omega, fun j hj => ?_, fun t ht => by rw [si_ne (by omega)]; exact hm t ht, rfl, rfl, rfl⟩
      rw [si_ne (c := 203) (d := 204) (by omega)]
      by_cases e : j = k
      · subst e; rw [si_eq]
      · rw [si_ne (by omega)]; exact hq j (by omega)
  · rintro q A P - μ L st B ⟨v, no, F, M, b, o2, o3, hG, hS, hM, hc, rfl, rfl, rfl⟩
    have h80 := hG.2.2.2.2.2.2.1
    obtain ⟨h47, h1, ko, hr, hF⟩ := hS
    have hno := okA_le ko
    simp (disch := omega) only [k_X12_laysTwins_0, k_X12_laysTwins_25, k_X12_laysTwins_100, k_X12_laysTwins_109, k_X12_laysTwins_161, k_X12_laysTwins_243, k_X12_laysTwins_256, k_X12_laysTwins_145, k_X12_laysTwins_229, k_X12_laysTwins_314, w_R, w_RI, x_aload, x_dup, x_iadd, x_icmp_ge, x_icmp_ne, x_if_eq, x_if_le, x_if_lt, x_if_ne, x_iinc, x_iload, x_irem, x_istore, x_isub, x_push, x_zret, y_bast, y_cv0, y_cv1, y_getF, y_getI, y_iald, y_iast, y_putI, y_putZ, xFT, xbool0, xbool1, Nat.reduceAdd, Nat.zero_add, xgl_0, xgl_s, xgl_n, xst_0, xst_1n, xst_1i, xst_1r, xst_1l, xst_s, set_0, set_s, true_and, and_true, xres, xcat_nil, xcat_i, xcat_r, xcat_l, Nat.add_zero, xble0, xble1, xble2, xble3, xble4, xble5, xble6, xble7, xble8, pk_mul, nI_add, nI_1, nI_leI, nI_ltI, nI_eq, n_in, n_cl, z_eq, z_lt, z_le, z_gt, z_ge, z_qe, o_eq, o_lt, o_le, o_gt, o_ge, vp0, vp1, cl0, cl1, n_sub, n_sub1, n_pm1, n_a0, n_0a, ofn, lN0, Nat.reduceLT, Nat.reduceLeDiff, Nat.reduceMul, Nat.reduceSub, Nat.reduceEqDiff, ne_eq, true_implies, false_implies, not_true_eq_false, not_false_eq_true, and_self, and_true, true_and, and_false, false_and, implies_true, if_true, if_false, i00, i10, i01, i11, ob_0, ob_1, tn_2, ln_2, ob_3, tn_4, ln_4, ob_5, tn_6, ln_6, tn_7, ln_7, ob_8, tn_9, ln_9, tn_10, ln_10, tn_11, ln_11, tn_12, ln_12, tn_13, ln_13, tn_14, ln_14, tn_15, ln_15, tn_16, ln_16, tn_17, ln_17, ob_18, tn_19, ln_19, tn_20, ln_20, tn_21, ln_21, tn_22, ln_22, tn_23, ln_23, tn_24, ln_24, tn_25, ln_25, tn_26, ln_26, tn_27, ln_27, ob_28, tn_29, ln_29, tn_30, ln_30, ob_31, tn_32, ln_32, tn_33, ln_33, ob_34, ob_35, tn_36, ln_36, tn_37, ln_37, tn_38, ln_38, ob_39, tn_40, ln_40, tn_41, ln_41, tn_42, ln_42, tn_43, ln_43, tn_44, ln_44, tn_45, ln_45, tn_46, ln_46, tn_47, ln_47, tn_48, ln_48, tn_49, ln_49, tn_50, ln_50, tn_51, ln_51, ob_52, tn_53, ln_53, tn_54, ln_54, tn_55, ln_55, tn_56, ln_56, ob_57, tn_58, ln_58, tn_59, ln_59, tn_60, ln_60, tn_61, ln_61, tn_62, ln_62, tn_63, ln_63, tn_64, ln_64, tn_65, ln_65, ob_66, tn_67, ln_67, tn_68, ln_68, tn_69, ln_69, tn_70, ln_70, tn_71, ln_71, tn_72, ln_72, tn_73, ln_73, ob_74, tn_75, ln_75, tn_76, ln_76, tn_77, ln_77, tn_78, ln_78, tn_79, ln_79, tn_80, ln_80, tn_81, ln_81, tn_82, ln_82, tn_83, ln_83, ob_84, tn_85, ln_85, tn_86, ln_86, tn_87, ln_87, tn_88, ln_88, tn_89, ln_89, tn_90, ln_90, tn_91, ln_91, tn_92, ln_92, tn_93, ln_93, ob_94, tn_95, ln_95, tn_96, ln_96, tn_97, ln_97, tn_98, ln_98, tn_99, ln_99, tn_100, ln_100, tn_101, ln_101, tn_102, ln_102, tn_103, ln_103, ob_104, tn_105, ln_105, tn_106, ln_106, tn_107, ln_107, tn_108, ln_108, tn_109, ln_109, tn_110, ln_110, tn_111, ln_111, tn_112, ln_112, tn_113, ln_113, ob_114, tn_115, ln_115, tn_116, ln_116, tn_117, ln_117, tn_118, ln_118, tn_119, ln_119, tn_120, ln_120, tn_121, ln_121, tn_122, ln_122, tn_123, ln_123, ob_124, tn_125, ln_125, tn_126, ln_126, tn_127, ln_127, tn_128, ln_128, tn_129, ln_129, tn_130, ln_130, tn_131, ln_131, tn_132, ln_132, tn_133, ln_133, ob_134, tn_135, ln_135, tn_136, ln_136, tn_137, ln_137, tn_138, ln_138, tn_139, ln_139, tn_140, ln_140, tn_141, ln_141, tn_142, ln_142, tn_143, ln_143, ob_144, tn_145, ln_145, tn_146, ln_146, tn_147, ln_147, tn_148, ln_148, tn_149, ln_149, tn_150, ln_150, tn_151, ln_151, tn_152, ln_152, tn_153, ln_153, ob_154, tn_155, ln_155, tn_156, ln_156, tn_157, ln_157, tn_158, ln_158, tn_159, ln_159, tn_160, ln_160, tn_161, ln_161, tn_162, ln_162, tn_163, ln_163, ob_164, tn_165, ln_165, tn_166, ln_166, ob_167, tn_168, ln_168, tn_169, ln_169, tn_170, ln_170, tn_171, ln_171, tn_172, ln_172, tn_173, ln_173, tn_174, ln_174, tn_175, ln_175, tn_176, ln_176, ob_177, tn_178, ln_178, tn_179, ln_179, ob_180, tn_181, ln_181, tn_182, ln_182, tn_183, ln_183, tn_184, ln_184, tn_185, ln_185, tn_186, ln_186, tn_187, ln_187, tn_188, ln_188, tn_189, ln_189, tn_190, ln_190, tn_191, ln_191, tn_192, ln_192, tn_193, ln_193, tn_194, ln_194, tn_195, ln_195, tn_196, ln_196, tn_197, ln_197, tn_198, ln_198, tn_199, ln_199, tn_200, ln_200, tn_201, ln_201, tn_202, ln_202, tn_203, ln_203, tn_204, ln_204, tn_205, ln_205, tn_206, ln_206, tn_207, ln_207, tn_208, ln_208, tn_209, ln_209, tn_210, ln_210, tn_211, ln_211, tn_212, ln_212, tn_213, ln_213, tn_214, ln_214, tn_215, ln_215, tn_216, ln_216, tn_217, ln_217, tn_218, ln_218, tn_219, ln_219, tn_220, ln_220, tn_221, ln_221, tn_222, ln_222, tn_223, ln_223, tn_224, ln_224, tn_225, ln_225, tn_226, ln_226, tn_227, ln_227, tn_228, ln_228, tn_229, ln_229, tn_230, ln_230, lx2, lx3, lx4, lx5, lx6, lx7, lx8, lx9, lx10, lx14, lx15, lx16, lx18, lx20, lx24, lx25, lx27, lx32, lx36, lx40, lx41, lx42, lx43, lx45, lx48, lx52, lx54, lx56, lx57, lx58, lx60, lx61, lx62, lx63, lx64, lx66, lx69, lx73, lx80, lx81, lx84, lx85, lx87, lx94, lx96, lx97, lx120, lx128, lx135, lx160, lx162, lx163, lx165, lx200, lx232, lx242, lx243, lx255, lx256, lx320, lx325, lx400, lx405, lx464, lx512, lx600, lx640, lx752, lx900, lx940, lx1000, lx1024, lx1764, lx3360, lx3840, lx5000, lx6400, lx9050, lx9998, lx9999, lx10000, lx25600, lx76800, lx99999, si_ne, si_eq, sl_ne, sl_eq, xl_si, xi_sl, sA_ne, sA_eq, xl_sA, h47, bI_t]
    refine ⟨fun z => ?_, fun z => ?_⟩
    · have hD : twDU B v := by
        refine ⟨no, F, h47, ko, hr, hF, fun t ht => ?_⟩
        rw [hM.2.1 t ht]
        congr 1
        refine b_ext ?_
        rw [bt_iff]
        constructor
        · exact hM.2.2.1 t ht
        · intro w
          have := w (fun t => t < 25600 ∧ M t = true) ⟨fun w => ⟨by omega, hM.2.2.2 w⟩, fun t ht a b ⟨t', g, c, _, d⟩ => ⟨ht, hc z t ht a b ⟨t', g, c, d⟩⟩⟩
          exact this.2
      exact hG.1.2 h80 B hG.2.1 hG.2.2.1 (Or.inr ⟨hG.2.2.2.1, hG.2.2.2.2.1⟩) hG.2.2.2.2.1 (Or.inr ⟨hG.2.2.2.2.2.1, hD⟩) hD
    · have eb : b = true := by cases b; exact absurd rfl z; rfl
      subst eb
      refine xB2 (c := 1) (by decide) ⟨v, no, F, M, false, no, o3, hG, ⟨h47, h1, ko, hr, hF⟩, hM, Nat.le_refl _, fun _ j t h1 h2 => absurd h2 (by omega), rfl, ?_, rfl⟩
      unfold pI
      rw [if_neg (by omega)]
      rfl
  · rintro q A P - μ L st B ⟨v, no, F, M, b, k, o3, hG, hS, hM, hk, hc, rfl, rfl, rfl⟩
    have hS0 := hS
    have h80 := hG.2.2.2.2.2.2.1
    have hw := hG.2.2.2.2.2.2.2.1
    have hwc := hG.2.2.2.2.2.2.2.2
    obtain ⟨h47, h1, ko, hr, hF⟩ := hS
    obtain ⟨m1, m2, m3, m4⟩ := hM
    have hno := okA_le ko
    have cM := cb_le M 25600
    have p0 : pI k < 0 ↔ k = 0 := by
      unfold pI
      split
      · rename_i e; exact ⟨fun _ => e, fun _ => by decide⟩
      · rename_i e; exact ⟨fun w => absurd w (nI_pos (by omega)), fun w => absurd w e⟩
    simp (disch := omega) only [k_X12_laysTwins_0, k_X12_laysTwins_25, k_X12_laysTwins_100, k_X12_laysTwins_109, k_X12_laysTwins_161, k_X12_laysTwins_243, k_X12_laysTwins_256, k_X12_laysTwins_145, k_X12_laysTwins_229, k_X12_laysTwins_314, w_R, w_RI, x_aload, x_dup, x_iadd, x_icmp_ge, x_icmp_ne, x_if_eq, x_if_le, x_if_lt, x_if_ne, x_iinc, x_iload, x_irem, x_istore, x_isub, x_push, x_zret, y_bast, y_cv0, y_cv1, y_getF, y_getI, y_iald, y_iast, y_putI, y_putZ, xFT, xbool0, xbool1, Nat.reduceAdd, Nat.zero_add, xgl_0, xgl_s, xgl_n, xst_0, xst_1n, xst_1i, xst_1r, xst_1l, xst_s, set_0, set_s, true_and, and_true, xres, xcat_nil, xcat_i, xcat_r, xcat_l, Nat.add_zero, xble0, xble1, xble2, xble3, xble4, xble5, xble6, xble7, xble8, pk_mul, nI_add, nI_1, nI_leI, nI_ltI, nI_eq, n_in, n_cl, z_eq, z_lt, z_le, z_gt, z_ge, z_qe, o_eq, o_lt, o_le, o_gt, o_ge, vp0, vp1, cl0, cl1, n_sub, n_sub1, n_pm1, n_a0, n_0a, ofn, lN0, Nat.reduceLT, Nat.reduceLeDiff, Nat.reduceMul, Nat.reduceSub, Nat.reduceEqDiff, ne_eq, true_implies, false_implies, not_true_eq_false, not_false_eq_true, and_self, and_true, true_and, and_false, false_and, implies_true, if_true, if_false, i00, i10, i01, i11, ob_0, ob_1, tn_2, ln_2, ob_3, tn_4, ln_4, ob_5, tn_6, ln_6, tn_7, ln_7, ob_8, tn_9, ln_9, tn_10, ln_10, tn_11, ln_11, tn_12, ln_12, tn_13, ln_13, tn_14, ln_14, tn_15, ln_15, tn_16, ln_16, tn_17, ln_17, ob_18, tn_19, ln_19, tn_20, ln_20, tn_21, ln_21, tn_22, ln_22, tn_23, ln_23, tn_24, ln_24, tn_25, ln_25, tn_26, ln_26, tn_27, ln_27, ob_28, tn_29, ln_29, tn_30, ln_30, ob_31, tn_32, ln_32, tn_33, ln_33, ob_34, ob_35, tn_36, ln_36, tn_37, ln_37, tn_38, ln_38, ob_39, tn_40, ln_40, tn_41, ln_41, tn_42, ln_42, tn_43, ln_43, tn_44, ln_44, tn_45, ln_45, tn_46, ln_46, tn_47, ln_47, tn_48, ln_48, tn_49, ln_49, tn_50, ln_50, tn_51, ln_51, ob_52, tn_53, ln_53, tn_54, ln_54, tn_55, ln_55, tn_56, ln_56, ob_57, tn_58, ln_58, tn_59, ln_59, tn_60, ln_60, tn_61, ln_61, tn_62, ln_62, tn_63, ln_63, tn_64, ln_64, tn_65, ln_65, ob_66, tn_67, ln_67, tn_68, ln_68, tn_69, ln_69, tn_70, ln_70, tn_71, ln_71, tn_72, ln_72, tn_73, ln_73, ob_74, tn_75, ln_75, tn_76, ln_76, tn_77, ln_77, tn_78, ln_78, tn_79, ln_79, tn_80, ln_80, tn_81, ln_81, tn_82, ln_82, tn_83, ln_83, ob_84, tn_85, ln_85, tn_86, ln_86, tn_87, ln_87, tn_88, ln_88, tn_89, ln_89, tn_90, ln_90, tn_91, ln_91, tn_92, ln_92, tn_93, ln_93, ob_94, tn_95, ln_95, tn_96, ln_96, tn_97, ln_97, tn_98, ln_98, tn_99, ln_99, tn_100, ln_100, tn_101, ln_101, tn_102, ln_102, tn_103, ln_103, ob_104, tn_105, ln_105, tn_106, ln_106, tn_107, ln_107, tn_108, ln_108, tn_109, ln_109, tn_110, ln_110, tn_111, ln_111, tn_112, ln_112, tn_113, ln_113, ob_114, tn_115, ln_115, tn_116, ln_116, tn_117, ln_117, tn_118, ln_118, tn_119, ln_119, tn_120, ln_120, tn_121, ln_121, tn_122, ln_122, tn_123, ln_123, ob_124, tn_125, ln_125, tn_126, ln_126, tn_127, ln_127, tn_128, ln_128, tn_129, ln_129, tn_130, ln_130, tn_131, ln_131, tn_132, ln_132, tn_133, ln_133, ob_134, tn_135, ln_135, tn_136, ln_136, tn_137, ln_137, tn_138, ln_138, tn_139, ln_139, tn_140, ln_140, tn_141, ln_141, tn_142, ln_142, tn_143, ln_143, ob_144, tn_145, ln_145, tn_146, ln_146, tn_147, ln_147, tn_148, ln_148, tn_149, ln_149, tn_150, ln_150, tn_151, ln_151, tn_152, ln_152, tn_153, ln_153, ob_154, tn_155, ln_155, tn_156, ln_156, tn_157, ln_157, tn_158, ln_158, tn_159, ln_159, tn_160, ln_160, tn_161, ln_161, tn_162, ln_162, tn_163, ln_163, ob_164, tn_165, ln_165, tn_166, ln_166, ob_167, tn_168, ln_168, tn_169, ln_169, tn_170, ln_170, tn_171, ln_171, tn_172, ln_172, tn_173, ln_173, tn_174, ln_174, tn_175, ln_175, tn_176, ln_176, ob_177, tn_178, ln_178, tn_179, ln_179, ob_180, tn_181, ln_181, tn_182, ln_182, tn_183, ln_183, tn_184, ln_184, tn_185, ln_185, tn_186, ln_186, tn_187, ln_187, tn_188, ln_188, tn_189, ln_189, tn_190, ln_190, tn_191, ln_191, tn_192, ln_192, tn_193, ln_193, tn_194, ln_194, tn_195, ln_195, tn_196, ln_196, tn_197, ln_197, tn_198, ln_198, tn_199, ln_199, tn_200, ln_200, tn_201, ln_201, tn_202, ln_202, tn_203, ln_203, tn_204, ln_204, tn_205, ln_205, tn_206, ln_206, tn_207, ln_207, tn_208, ln_208, tn_209, ln_209, tn_210, ln_210, tn_211, ln_211, tn_212, ln_212, tn_213, ln_213, tn_214, ln_214, tn_215, ln_215, tn_216, ln_216, tn_217, ln_217, tn_218, ln_218, tn_219, ln_219, tn_220, ln_220, tn_221, ln_221, tn_222, ln_222, tn_223, ln_223, tn_224, ln_224, tn_225, ln_225, tn_226, ln_226, tn_227, ln_227, tn_228, ln_228, tn_229, ln_229, tn_230, ln_230, lx2, lx3, lx4, lx5, lx6, lx7, lx8, lx9, lx10, lx14, lx15, lx16, lx18, lx20, lx24, lx25, lx27, lx32, lx36, lx40, lx41, lx42, lx43, lx45, lx48, lx52, lx54, lx56, lx57, lx58, lx60, lx61, lx62, lx63, lx64, lx66, lx69, lx73, lx80, lx81, lx84, lx85, lx87, lx94, lx96, lx97, lx120, lx128, lx135, lx160, lx162, lx163, lx165, lx200, lx232, lx242, lx243, lx255, lx256, lx320, lx325, lx400, lx405, lx464, lx512, lx600, lx640, lx752, lx900, lx940, lx1000, lx1024, lx1764, lx3360, lx3840, lx5000, lx6400, lx9050, lx9998, lx9999, lx10000, lx25600, lx76800, lx99999, si_ne, si_eq, sl_ne, sl_eq, xl_si, xi_sl, sA_ne, sA_eq, xl_sA, p0, nar4]
    refine ⟨fun z => ?_, fun z => ?_⟩
    · subst z
      have go : ∀ t, b = false → t < 25600 → mtC v M t := fun t hb ht hrt h4 hx => by
        obtain ⟨j, hj, ej⟩ := (hr t ht).mpr hrt
        exact hc hb j t (Nat.zero_le _) hj ht ej hrt h4 hx
      cases b
      · exact xB2 (c := 0) (by omega) ⟨v, no, F, M, false, _, _, hG, hS0, ⟨m1, m2, m3, m4⟩, fun _ t ht => go t rfl ht, rfl, rfl, rfl⟩
      · exact xB1 (b := 25600 - cb M 25600) (by rw [if_pos rfl]; omega) ⟨v, no, F, M, true, _, _, hG, hS0, ⟨m1, m2, m3, m4⟩, fun w => (by cases w), rfl, rfl, rfl⟩
    · obtain ⟨j, rfl⟩ : ∃ j, k = j + 1 := ⟨k - 1, by omega⟩
      obtain ⟨t, ht, et⟩ := ko.1 j (by omega)
      have hrt := (hr t ht).mp ⟨j, by omega, et⟩
      have epI : pI (j + 1) = nI j := if_neg (by omega)
      have epd : nI j + -1 = pI j := by
        unfold pI
        split
        · rename_i e; subst e; decide
        · exact n_pm1 (by omega)
      rw [epI, epd]
      simp (disch := omega) only [pk_mul, nI_add, nI_1, nI_leI, nI_ltI, nI_eq, n_in, n_cl, z_eq, z_lt, z_le, z_gt, z_ge, z_qe, o_eq, o_lt, o_le, o_gt, o_ge, vp0, vp1, cl0, cl1, n_sub, n_sub1, n_pm1, n_a0, n_0a, ofn, lN0, Nat.reduceLT, Nat.reduceLeDiff, Nat.reduceMul, Nat.reduceSub, Nat.reduceEqDiff, ne_eq, true_implies, false_implies, not_true_eq_false, not_false_eq_true, and_self, and_true, true_and, and_false, false_and, implies_true, if_true, if_false, i00, i10, i01, i11, ob_0, ob_1, tn_2, ln_2, ob_3, tn_4, ln_4, ob_5, tn_6, ln_6, tn_7, ln_7, ob_8, tn_9, ln_9, tn_10, ln_10, tn_11, ln_11, tn_12, ln_12, tn_13, ln_13, tn_14, ln_14, tn_15, ln_15, tn_16, ln_16, tn_17, ln_17, ob_18, tn_19, ln_19, tn_20, ln_20, tn_21, ln_21, tn_22, ln_22, tn_23, ln_23, tn_24, ln_24, tn_25, ln_25, tn_26, ln_26, tn_27, ln_27, ob_28, tn_29, ln_29, tn_30, ln_30, ob_31, tn_32, ln_32, tn_33, ln_33, ob_34, ob_35, tn_36, ln_36, tn_37, ln_37, tn_38, ln_38, ob_39, tn_40, ln_40, tn_41, ln_41, tn_42, ln_42, tn_43, ln_43, tn_44, ln_44, tn_45, ln_45, tn_46, ln_46, tn_47, ln_47, tn_48, ln_48, tn_49, ln_49, tn_50, ln_50, tn_51, ln_51, ob_52, tn_53, ln_53, tn_54, ln_54, tn_55, ln_55, tn_56, ln_56, ob_57, tn_58, ln_58, tn_59, ln_59, tn_60, ln_60, tn_61, ln_61, tn_62, ln_62, tn_63, ln_63, tn_64, ln_64, tn_65, ln_65, ob_66, tn_67, ln_67, tn_68, ln_68, tn_69, ln_69, tn_70, ln_70, tn_71, ln_71, tn_72, ln_72, tn_73, ln_73, ob_74, tn_75, ln_75, tn_76, ln_76, tn_77, ln_77, tn_78, ln_78, tn_79, ln_79, tn_80, ln_80, tn_81, ln_81, tn_82, ln_82, tn_83, ln_83, ob_84, tn_85, ln_85, tn_86, ln_86, tn_87, ln_87, tn_88, ln_88, tn_89, ln_89, tn_90, ln_90, tn_91, ln_91, tn_92, ln_92, tn_93, ln_93, ob_94, tn_95, ln_95, tn_96, ln_96, tn_97, ln_97, tn_98, ln_98, tn_99, ln_99, tn_100, ln_100, tn_101, ln_101, tn_102, ln_102, tn_103, ln_103, ob_104, tn_105, ln_105, tn_106, ln_106, tn_107, ln_107, tn_108, ln_108, tn_109, ln_109, tn_110, ln_110, tn_111, ln_111, tn_112, ln_112, tn_113, ln_113, ob_114, tn_115, ln_115, tn_116, ln_116, tn_117, ln_117, tn_118, ln_118, tn_119, ln_119, tn_120, ln_120, tn_121, ln_121, tn_122, ln_122, tn_123, ln_123, ob_124, tn_125, ln_125, tn_126, ln_126, tn_127, ln_127, tn_128, ln_128, tn_129, ln_129, tn_130, ln_130, tn_131, ln_131, tn_132, ln_132, tn_133, ln_133, ob_134, tn_135, ln_135, tn_136, ln_136, tn_137, ln_137, tn_138, ln_138, tn_139, ln_139, tn_140, ln_140, tn_141, ln_141, tn_142, ln_142, tn_143, ln_143, ob_144, tn_145, ln_145, tn_146, ln_146, tn_147, ln_147, tn_148, ln_148, tn_149, ln_149, tn_150, ln_150, tn_151, ln_151, tn_152, ln_152, tn_153, ln_153, ob_154, tn_155, ln_155, tn_156, ln_156, tn_157, ln_157, tn_158, ln_158, tn_159, ln_159, tn_160, ln_160, tn_161, ln_161, tn_162, ln_162, tn_163, ln_163, ob_164, tn_165, ln_165, tn_166, ln_166, ob_167, tn_168, ln_168, tn_169, ln_169, tn_170, ln_170, tn_171, ln_171, tn_172, ln_172, tn_173, ln_173, tn_174, ln_174, tn_175, ln_175, tn_176, ln_176, ob_177, tn_178, ln_178, tn_179, ln_179, ob_180, tn_181, ln_181, tn_182, ln_182, tn_183, ln_183, tn_184, ln_184, tn_185, ln_185, tn_186, ln_186, tn_187, ln_187, tn_188, ln_188, tn_189, ln_189, tn_190, ln_190, tn_191, ln_191, tn_192, ln_192, tn_193, ln_193, tn_194, ln_194, tn_195, ln_195, tn_196, ln_196, tn_197, ln_197, tn_198, ln_198, tn_199, ln_199, tn_200, ln_200, tn_201, ln_201, tn_202, ln_202, tn_203, ln_203, tn_204, ln_204, tn_205, ln_205, tn_206, ln_206, tn_207, ln_207, tn_208, ln_208, tn_209, ln_209, tn_210, ln_210, tn_211, ln_211, tn_212, ln_212, tn_213, ln_213, tn_214, ln_214, tn_215, ln_215, tn_216, ln_216, tn_217, ln_217, tn_218, ln_218, tn_219, ln_219, tn_220, ln_220, tn_221, ln_221, tn_222, ln_222, tn_223, ln_223, tn_224, ln_224, tn_225, ln_225, tn_226, ln_226, tn_227, ln_227, tn_228, ln_228, tn_229, ln_229, tn_230, ln_230, lx2, lx3, lx4, lx5, lx6, lx7, lx8, lx9, lx10, lx14, lx15, lx16, lx18, lx20, lx24, lx25, lx27, lx32, lx36, lx40, lx41, lx42, lx43, lx45, lx48, lx52, lx54, lx56, lx57, lx58, lx60, lx61, lx62, lx63, lx64, lx66, lx69, lx73, lx80, lx81, lx84, lx85, lx87, lx94, lx96, lx97, lx120, lx128, lx135, lx160, lx162, lx163, lx165, lx200, lx232, lx242, lx243, lx255, lx256, lx320, lx325, lx400, lx405, lx464, lx512, lx600, lx640, lx752, lx900, lx940, lx1000, lx1024, lx1764, lx3360, lx3840, lx5000, lx6400, lx9050, lx9998, lx9999, lx10000, lx25600, lx76800, lx99999, et, m2 t ht, bI_t, pk_div]
      have nxt : ∀ C, fr (fun c k => c = 180 ∧ k = 52) B C → (b = false → mtC v M t) → xB (lt256 A P) (25600 - cb M 25600 + (if b = true then 1 else 0), 1, j + 1) [some (.ref 180), some (.int (bI b)), some (.int (pI j)), some (.int (nI t))] [] C := fun C hC hmt => by
        have e202 : ∀ j, j < no → xi C 202 j = xi B 202 j := fun j _ => fr_i hC (by omega)
        refine xB3 (d := j) (by omega) ⟨v, no, F, M, b, j, _, ltG_fr hG (fr_mono hC (by omega)), ⟨by rw [fr_i hC (by omega)]; exact h47, h1, okA_congr ko e202, fun x hx => by rw [inA_congr e202]; exact hr x hx, fun x hx => ⟨by rw [fr_i hC (by omega)]; exact (hF x hx).1, (hF x hx).2⟩⟩, ⟨by rw [fr_i hC (by omega)]; exact m1, fun x hx => by rw [fr_i hC (by omega)]; exact m2 x hx, m3, m4⟩, by omega, fun hb i x hi1 hi2 hx ex => ?_, rfl, rfl, rfl⟩
        rw [e202 i hi2] at ex
        by_cases e : i = j
        · subst e
          rw [et] at ex
          have := (nI_eq (by omega) (by omega)).mp ex
          subst this
          exact hmt hb
        · exact hc hb i x (by omega) hi2 hx ex
      refine ⟨by omega, ht, fun w => nxt B fr_rf fun _ _ _ _ => (by cases e : M t; exact absurd e w; rfl), fun w => ⟨fun h4 => ?_, fun h4 => nxt B fr_rf fun _ _ h _ => absurd h4 (by omega)⟩⟩
      obtain ⟨d', hd'⟩ := hrt
      have pt := rc_pl hd'
      have p1 : t / 320 < (plL v).length := pt.2.1
      have p2 : t / 4 % 80 < (plL v).length := pt.2.2
      have f0 : fr (fun c k => c = 180 ∧ k = 52) B (xsi B 180 52 0) := fr_si fr_rf (by omega)
      refine ⟨rfl, v, Was v M (xsi B 180 52 0), _, fun _ _ => False, t, ⟨cm_as, hw, hwc, h80, ht, p1, p2, fun x g w => trivial, fun C hC => ?_⟩, ⟨plDU_fr hG.2.2.2.2.1 f0 (by omega), by rw [si_ne (by omega)]; exact m1, fr_rf, fun x hx => by rw [si_ne (by omega)]; exact m2 x hx, ?_⟩, rfl⟩
      · obtain ⟨c1, c2, c3, c4, c5⟩ := hC
        have fC : fr (fun c k => c = 180 ∧ k = 52) B C := fr_tr f0 c3
        simp (disch := omega) only [k_X12_laysTwins_0, k_X12_laysTwins_25, k_X12_laysTwins_100, k_X12_laysTwins_109, k_X12_laysTwins_161, k_X12_laysTwins_243, k_X12_laysTwins_256, k_X12_laysTwins_145, k_X12_laysTwins_229, k_X12_laysTwins_314, w_R, w_RI, x_aload, x_dup, x_iadd, x_icmp_ge, x_icmp_ne, x_if_eq, x_if_le, x_if_lt, x_if_ne, x_iinc, x_iload, x_irem, x_istore, x_isub, x_push, x_zret, y_bast, y_cv0, y_cv1, y_getF, y_getI, y_iald, y_iast, y_putI, y_putZ, xFT, xbool0, xbool1, Nat.reduceAdd, Nat.zero_add, xgl_0, xgl_s, xgl_n, xst_0, xst_1n, xst_1i, xst_1r, xst_1l, xst_s, set_0, set_s, true_and, and_true, xres, xcat_nil, xcat_i, xcat_r, xcat_l, Nat.add_zero, xble0, xble1, xble2, xble3, xble4, xble5, xble6, xble7, xble8, pk_mul, nI_add, nI_1, nI_leI, nI_ltI, nI_eq, n_in, n_cl, z_eq, z_lt, z_le, z_gt, z_ge, z_qe, o_eq, o_lt, o_le, o_gt, o_ge, vp0, vp1, cl0, cl1, n_sub, n_sub1, n_pm1, n_a0, n_0a, ofn, lN0, Nat.reduceLT, Nat.reduceLeDiff, Nat.reduceMul, Nat.reduceSub, Nat.reduceEqDiff, ne_eq, true_implies, false_implies, not_true_eq_false, not_false_eq_true, and_self, and_true, true_and, and_false, false_and, implies_true, if_true, if_false, i00, i10, i01, i11, ob_0, ob_1, tn_2, ln_2, ob_3, tn_4, ln_4, ob_5, tn_6, ln_6, tn_7, ln_7, ob_8, tn_9, ln_9, tn_10, ln_10, tn_11, ln_11, tn_12, ln_12, tn_13, ln_13, tn_14, ln_14, tn_15, ln_15, tn_16, ln_16, tn_17, ln_17, ob_18, tn_19, ln_19, tn_20, ln_20, tn_21, ln_21, tn_22, ln_22, tn_23, ln_23, tn_24, ln_24, tn_25, ln_25, tn_26, ln_26, tn_27, ln_27, ob_28, tn_29, ln_29, tn_30, ln_30, ob_31, tn_32, ln_32, tn_33, ln_33, ob_34, ob_35, tn_36, ln_36, tn_37, ln_37, tn_38, ln_38, ob_39, tn_40, ln_40, tn_41, ln_41, tn_42, ln_42, tn_43, ln_43, tn_44, ln_44, tn_45, ln_45, tn_46, ln_46, tn_47, ln_47, tn_48, ln_48, tn_49, ln_49, tn_50, ln_50, tn_51, ln_51, ob_52, tn_53, ln_53, tn_54, ln_54, tn_55, ln_55, tn_56, ln_56, ob_57, tn_58, ln_58, tn_59, ln_59, tn_60, ln_60, tn_61, ln_61, tn_62, ln_62, tn_63, ln_63, tn_64, ln_64, tn_65, ln_65, ob_66, tn_67, ln_67, tn_68, ln_68, tn_69, ln_69, tn_70, ln_70, tn_71, ln_71, tn_72, ln_72, tn_73, ln_73, ob_74, tn_75, ln_75, tn_76, ln_76, tn_77, ln_77, tn_78, ln_78, tn_79, ln_79, tn_80, ln_80, tn_81, ln_81, tn_82, ln_82, tn_83, ln_83, ob_84, tn_85, ln_85, tn_86, ln_86, tn_87, ln_87, tn_88, ln_88, tn_89, ln_89, tn_90, ln_90, tn_91, ln_91, tn_92, ln_92, tn_93, ln_93, ob_94, tn_95, ln_95, tn_96, ln_96, tn_97, ln_97, tn_98, ln_98, tn_99, ln_99, tn_100, ln_100, tn_101, ln_101, tn_102, ln_102, tn_103, ln_103, ob_104, tn_105, ln_105, tn_106, ln_106, tn_107, ln_107, tn_108, ln_108, tn_109, ln_109, tn_110, ln_110, tn_111, ln_111, tn_112, ln_112, tn_113, ln_113, ob_114, tn_115, ln_115, tn_116, ln_116, tn_117, ln_117, tn_118, ln_118, tn_119, ln_119, tn_120, ln_120, tn_121, ln_121, tn_122, ln_122, tn_123, ln_123, ob_124, tn_125, ln_125, tn_126, ln_126, tn_127, ln_127, tn_128, ln_128, tn_129, ln_129, tn_130, ln_130, tn_131, ln_131, tn_132, ln_132, tn_133, ln_133, ob_134, tn_135, ln_135, tn_136, ln_136, tn_137, ln_137, tn_138, ln_138, tn_139, ln_139, tn_140, ln_140, tn_141, ln_141, tn_142, ln_142, tn_143, ln_143, ob_144, tn_145, ln_145, tn_146, ln_146, tn_147, ln_147, tn_148, ln_148, tn_149, ln_149, tn_150, ln_150, tn_151, ln_151, tn_152, ln_152, tn_153, ln_153, ob_154, tn_155, ln_155, tn_156, ln_156, tn_157, ln_157, tn_158, ln_158, tn_159, ln_159, tn_160, ln_160, tn_161, ln_161, tn_162, ln_162, tn_163, ln_163, ob_164, tn_165, ln_165, tn_166, ln_166, ob_167, tn_168, ln_168, tn_169, ln_169, tn_170, ln_170, tn_171, ln_171, tn_172, ln_172, tn_173, ln_173, tn_174, ln_174, tn_175, ln_175, tn_176, ln_176, ob_177, tn_178, ln_178, tn_179, ln_179, ob_180, tn_181, ln_181, tn_182, ln_182, tn_183, ln_183, tn_184, ln_184, tn_185, ln_185, tn_186, ln_186, tn_187, ln_187, tn_188, ln_188, tn_189, ln_189, tn_190, ln_190, tn_191, ln_191, tn_192, ln_192, tn_193, ln_193, tn_194, ln_194, tn_195, ln_195, tn_196, ln_196, tn_197, ln_197, tn_198, ln_198, tn_199, ln_199, tn_200, ln_200, tn_201, ln_201, tn_202, ln_202, tn_203, ln_203, tn_204, ln_204, tn_205, ln_205, tn_206, ln_206, tn_207, ln_207, tn_208, ln_208, tn_209, ln_209, tn_210, ln_210, tn_211, ln_211, tn_212, ln_212, tn_213, ln_213, tn_214, ln_214, tn_215, ln_215, tn_216, ln_216, tn_217, ln_217, tn_218, ln_218, tn_219, ln_219, tn_220, ln_220, tn_221, ln_221, tn_222, ln_222, tn_223, ln_223, tn_224, ln_224, tn_225, ln_225, tn_226, ln_226, tn_227, ln_227, tn_228, ln_228, tn_229, ln_229, tn_230, ln_230, lx2, lx3, lx4, lx5, lx6, lx7, lx8, lx9, lx10, lx14, lx15, lx16, lx18, lx20, lx24, lx25, lx27, lx32, lx36, lx40, lx41, lx42, lx43, lx45, lx48, lx52, lx54, lx56, lx57, lx58, lx60, lx61, lx62, lx63, lx64, lx66, lx69, lx73, lx80, lx81, lx84, lx85, lx87, lx94, lx96, lx97, lx120, lx128, lx135, lx160, lx162, lx163, lx165, lx200, lx232, lx242, lx243, lx255, lx256, lx320, lx325, lx400, lx405, lx464, lx512, lx600, lx640, lx752, lx900, lx940, lx1000, lx1024, lx1764, lx3360, lx3840, lx5000, lx6400, lx9050, lx9998, lx9999, lx10000, lx25600, lx76800, lx99999, si_ne, si_eq, sl_ne, sl_eq, xl_si, xi_sl, sA_ne, sA_eq, xl_sA, c5, bI_t]
        refine ⟨fun z2 => ⟨ht, ?_⟩, fun z2 => nxt C fC fun _ _ _ ⟨t', g, q1, q2⟩ => ?_⟩
        · have hx : ∃ x g, (False ∨ eV v (nDe t) x g) ∧ x < 25600 ∧ M x = true := Classical.byContradiction fun w2 => z2 (bt_f w2)
          obtain ⟨x, g, q1, q2, q3⟩ := hx
          have q1 := q1.resolve_left id
          have fD : fr (fun c k => c = 205 ∨ (c = 180 ∧ k = 52)) B (xsi C 205 t 1) := fr_si (fr_mono fC (by omega)) (by omega)
          have e202 : ∀ j, j < no → xi (xsi C 205 t 1) 202 j = xi B 202 j := fun j _ => fr_i fD (by omega)
          have eM := cb_new (f := M) (g := fun x => M x || decide (x = t)) ht w fun x _ => rfl
          have cM2 := cb_le (fun x => M x || decide (x = t)) 25600
          have hst : xB (lt256 A P) (25600 - cb M 25600 + (if b = true then 1 else 0), 1, j + 1) [some (.ref 180), some (.int (bI true)), some (.int (pI j)), some (.int (nI t))] [] (xsi C 205 t 1) := by
            have hI : lt256 A P (25600 - cb (fun x => M x || decide (x = t)) 25600 + (if true = true then 1 else 0), 1, j) [some (.ref 180), some (.int (bI true)), some (.int (pI j)), some (.int (nI t))] [] (xsi C 205 t 1) := by
              refine ⟨v, no, F, fun x => M x || decide (x = t), true, j, _, ltG_fr hG (fr_mono fD (by omega)), ⟨by rw [fr_i fD (by omega)]; exact h47, h1, okA_congr ko e202, fun x hx => by rw [inA_congr e202]; exact hr x hx, fun x hx => ⟨by rw [fr_i fD (by omega)]; exact (hF x hx).1, (hF x hx).2⟩⟩, ⟨by rw [fr_i fD (by omega)]; exact m1, fun x hx => ?_, fun x hx w2 => ?_, fun w2 => by show (M 325 || _) = true; rw [m4 w2]; rfl⟩, by omega, fun w => (by cases w), rfl, rfl, rfl⟩
              · show _ = bI (M x || decide (x = t))
                by_cases e : x = t
                · subst e; rw [si_eq, decide_eq_true rfl, Bool.or_true]; rfl
                · rw [si_ne (by omega), decide_eq_false e, Bool.or_false, c4 x hx]
              · rw [Bool.or_eq_true, decide_eq_true_eq] at w2
                rcases w2 with w2 | rfl
                · exact m3 x hx w2
                · exact su_step hx ⟨d', hd'⟩ (by omega) q1 (m3 _ q2 q3)
            rw [if_pos rfl] at hI
            cases b
            · rw [if_neg (by decide)]
              rw [show 25600 - cb (fun x => M x || decide (x = t)) 25600 + 1 = 25600 - cb M 25600 + 0 by omega] at hI
              exact xB3 (Nat.lt_succ_self j) hI
            · rw [if_pos rfl]
              exact xB1 (by omega) hI
          exact hst
        · have ht' : t' < 25600 := by
            obtain ⟨n', hn', q3⟩ := eV_pl pt q1
            rw [hn']; exact nEn_lt (isN_pl h80 q3)
          have : bt (∃ t_1 g, (False ∨ eV v (nDe t) t_1 g) ∧ t_1 < 25600 ∧ M t_1 = true) = true := bt_t ⟨t', g, Or.inr q1, ht', q2⟩
          rw [z2] at this
          cases this
      · rw [si_eq, bt_f (fun ⟨_, _, w, _⟩ => w)]; rfl

