/-! ===== the class's back ===== -/
theorem d_X10_back_0 : decode cX10_back 0 = .ok (.iload_n 2, 1) := by decide +kernel
theorem d_X10_back_1 : decode cX10_back 1 = .ok (.iconst 5, 1) := by decide +kernel
theorem d_X10_back_2 : decode cX10_back 2 = .ok (.imul, 1) := by decide +kernel
theorem d_X10_back_3 : decode cX10_back 3 = .ok (.iconst 4, 1) := by decide +kernel
theorem d_X10_back_4 : decode cX10_back 4 = .ok (.iadd, 1) := by decide +kernel
theorem d_X10_back_5 : decode cX10_back 5 = .ok (.iconst 2, 1) := by decide +kernel
theorem d_X10_back_6 : decode cX10_back 6 = .ok (.imul, 1) := by decide +kernel
theorem d_X10_back_7 : decode cX10_back 7 = .ok (.istore 4, 2) := by decide +kernel
theorem d_X10_back_9 : decode cX10_back 9 = .ok (.iload_n 3, 1) := by decide +kernel
theorem d_X10_back_10 : decode cX10_back 10 = .ok (.iconst 5, 1) := by decide +kernel
theorem d_X10_back_11 : decode cX10_back 11 = .ok (.imul, 1) := by decide +kernel
theorem d_X10_back_12 : decode cX10_back 12 = .ok (.iconst 4, 1) := by decide +kernel
theorem d_X10_back_13 : decode cX10_back 13 = .ok (.iadd, 1) := by decide +kernel
theorem d_X10_back_14 : decode cX10_back 14 = .ok (.iconst 2, 1) := by decide +kernel
theorem d_X10_back_15 : decode cX10_back 15 = .ok (.imul, 1) := by decide +kernel
theorem d_X10_back_16 : decode cX10_back 16 = .ok (.istore 5, 2) := by decide +kernel
theorem d_X10_back_18 : decode cX10_back 18 = .ok (.iload_n 1, 1) := by decide +kernel
theorem d_X10_back_19 : decode cX10_back 19 = .ok (.iconst 3, 1) := by decide +kernel
theorem d_X10_back_20 : decode cX10_back 20 = .ok (.if_icmp .eq 79, 3) := by decide +kernel
theorem d_X10_back_23 : decode cX10_back 23 = .ok (.iload_n 3, 1) := by decide +kernel
theorem d_X10_back_24 : decode cX10_back 24 = .ok (.bipush 64, 2) := by decide +kernel
theorem d_X10_back_26 : decode cX10_back 26 = .ok (.if_icmp .ge 9, 3) := by decide +kernel
theorem d_X10_back_29 : decode cX10_back 29 = .ok (.lconst 1, 1) := by decide +kernel
theorem d_X10_back_30 : decode cX10_back 30 = .ok (.iload_n 3, 1) := by decide +kernel
theorem d_X10_back_31 : decode cX10_back 31 = .ok (.lshl, 1) := by decide +kernel
theorem d_X10_back_32 : decode cX10_back 32 = .ok (.goto 4, 3) := by decide +kernel
theorem d_X10_back_35 : decode cX10_back 35 = .ok (.lconst 0, 1) := by decide +kernel
theorem d_X10_back_36 : decode cX10_back 36 = .ok (.lstore 6, 2) := by decide +kernel
theorem d_X10_back_38 : decode cX10_back 38 = .ok (.iload_n 3, 1) := by decide +kernel
theorem d_X10_back_39 : decode cX10_back 39 = .ok (.bipush 64, 2) := by decide +kernel
theorem d_X10_back_41 : decode cX10_back 41 = .ok (.if_icmp .ge 7, 3) := by decide +kernel
theorem d_X10_back_44 : decode cX10_back 44 = .ok (.lconst 0, 1) := by decide +kernel
theorem d_X10_back_45 : decode cX10_back 45 = .ok (.goto 9, 3) := by decide +kernel
theorem d_X10_back_48 : decode cX10_back 48 = .ok (.lconst 1, 1) := by decide +kernel
theorem d_X10_back_49 : decode cX10_back 49 = .ok (.iload_n 3, 1) := by decide +kernel
theorem d_X10_back_50 : decode cX10_back 50 = .ok (.bipush 64, 2) := by decide +kernel
theorem d_X10_back_52 : decode cX10_back 52 = .ok (.isub, 1) := by decide +kernel
theorem d_X10_back_53 : decode cX10_back 53 = .ok (.lshl, 1) := by decide +kernel
theorem d_X10_back_54 : decode cX10_back 54 = .ok (.lstore 8, 2) := by decide +kernel
theorem d_X10_back_56 : decode cX10_back 56 = .ok (.aload_n 0, 1) := by decide +kernel
theorem d_X10_back_57 : decode cX10_back 57 = .ok (.iload_n 1, 1) := by decide +kernel
theorem d_X10_back_58 : decode cX10_back 58 = .ok (.aload_n 0, 1) := by decide +kernel
theorem d_X10_back_59 : decode cX10_back 59 = .ok (.getfield 25, 3) := by decide +kernel
theorem d_X10_back_62 : decode cX10_back 62 = .ok (.getfield 109, 3) := by decide +kernel
theorem d_X10_back_65 : decode cX10_back 65 = .ok (.iload 4, 2) := by decide +kernel
theorem d_X10_back_67 : decode cX10_back 67 = .ok (.laload, 1) := by decide +kernel
theorem d_X10_back_68 : decode cX10_back 68 = .ok (.iconst 0, 1) := by decide +kernel
theorem d_X10_back_69 : decode cX10_back 69 = .ok (.lload 6, 2) := by decide +kernel
theorem d_X10_back_71 : decode cX10_back 71 = .ok (.lload 8, 2) := by decide +kernel
theorem d_X10_back_73 : decode cX10_back 73 = .ok (.invokevirtual 112, 3) := by decide +kernel
theorem d_X10_back_76 : decode cX10_back 76 = .ok (.aload_n 0, 1) := by decide +kernel
theorem d_X10_back_77 : decode cX10_back 77 = .ok (.iload_n 1, 1) := by decide +kernel
theorem d_X10_back_78 : decode cX10_back 78 = .ok (.aload_n 0, 1) := by decide +kernel
theorem d_X10_back_79 : decode cX10_back 79 = .ok (.getfield 25, 3) := by decide +kernel
theorem d_X10_back_82 : decode cX10_back 82 = .ok (.getfield 109, 3) := by decide +kernel
theorem d_X10_back_85 : decode cX10_back 85 = .ok (.iload 4, 2) := by decide +kernel
theorem d_X10_back_87 : decode cX10_back 87 = .ok (.iconst 1, 1) := by decide +kernel
theorem d_X10_back_88 : decode cX10_back 88 = .ok (.iadd, 1) := by decide +kernel
theorem d_X10_back_89 : decode cX10_back 89 = .ok (.laload, 1) := by decide +kernel
theorem d_X10_back_90 : decode cX10_back 90 = .ok (.bipush 64, 2) := by decide +kernel
theorem d_X10_back_92 : decode cX10_back 92 = .ok (.lload 6, 2) := by decide +kernel
theorem d_X10_back_94 : decode cX10_back 94 = .ok (.lload 8, 2) := by decide +kernel
theorem d_X10_back_96 : decode cX10_back 96 = .ok (.invokevirtual 112, 3) := by decide +kernel
theorem d_X10_back_99 : decode cX10_back 99 = .ok (.iload_n 1, 1) := by decide +kernel
theorem d_X10_back_100 : decode cX10_back 100 = .ok (.iconst 2, 1) := by decide +kernel
theorem d_X10_back_101 : decode cX10_back 101 = .ok (.if_icmp .eq 35, 3) := by decide +kernel
theorem d_X10_back_104 : decode cX10_back 104 = .ok (.aload_n 0, 1) := by decide +kernel
theorem d_X10_back_105 : decode cX10_back 105 = .ok (.iload_n 1, 1) := by decide +kernel
theorem d_X10_back_106 : decode cX10_back 106 = .ok (.bipush 80, 2) := by decide +kernel
theorem d_X10_back_108 : decode cX10_back 108 = .ok (.imul, 1) := by decide +kernel
theorem d_X10_back_109 : decode cX10_back 109 = .ok (.iload_n 2, 1) := by decide +kernel
theorem d_X10_back_110 : decode cX10_back 110 = .ok (.iadd, 1) := by decide +kernel
theorem d_X10_back_111 : decode cX10_back 111 = .ok (.aload_n 0, 1) := by decide +kernel
theorem d_X10_back_112 : decode cX10_back 112 = .ok (.getfield 25, 3) := by decide +kernel
theorem d_X10_back_115 : decode cX10_back 115 = .ok (.getfield 109, 3) := by decide +kernel
theorem d_X10_back_118 : decode cX10_back 118 = .ok (.iload 5, 2) := by decide +kernel
theorem d_X10_back_120 : decode cX10_back 120 = .ok (.laload, 1) := by decide +kernel
theorem d_X10_back_121 : decode cX10_back 121 = .ok (.aload_n 0, 1) := by decide +kernel
theorem d_X10_back_122 : decode cX10_back 122 = .ok (.getfield 25, 3) := by decide +kernel
theorem d_X10_back_125 : decode cX10_back 125 = .ok (.getfield 109, 3) := by decide +kernel
theorem d_X10_back_128 : decode cX10_back 128 = .ok (.iload 5, 2) := by decide +kernel
theorem d_X10_back_130 : decode cX10_back 130 = .ok (.iconst 1, 1) := by decide +kernel
theorem d_X10_back_131 : decode cX10_back 131 = .ok (.iadd, 1) := by decide +kernel
theorem d_X10_back_132 : decode cX10_back 132 = .ok (.laload, 1) := by decide +kernel
theorem d_X10_back_133 : decode cX10_back 133 = .ok (.invokevirtual 115, 3) := by decide +kernel
theorem d_X10_back_136 : decode cX10_back 136 = .ok (.iconst 0, 1) := by decide +kernel
theorem d_X10_back_137 : decode cX10_back 137 = .ok (.istore 6, 2) := by decide +kernel
theorem d_X10_back_139 : decode cX10_back 139 = .ok (.iload 6, 2) := by decide +kernel
theorem d_X10_back_141 : decode cX10_back 141 = .ok (.iconst 4, 1) := by decide +kernel
theorem d_X10_back_142 : decode cX10_back 142 = .ok (.if_icmp .ge 134, 3) := by decide +kernel
theorem d_X10_back_145 : decode cX10_back 145 = .ok (.iload_n 1, 1) := by decide +kernel
theorem d_X10_back_146 : decode cX10_back 146 = .ok (.iconst 1, 1) := by decide +kernel
theorem d_X10_back_147 : decode cX10_back 147 = .ok (.if_icmp .ne 129, 3) := by decide +kernel
theorem d_X10_back_150 : decode cX10_back 150 = .ok (.aload_n 0, 1) := by decide +kernel
theorem d_X10_back_151 : decode cX10_back 151 = .ok (.getfield 25, 3) := by decide +kernel
theorem d_X10_back_154 : decode cX10_back 154 = .ok (.getfield 109, 3) := by decide +kernel
theorem d_X10_back_157 : decode cX10_back 157 = .ok (.iload_n 3, 1) := by decide +kernel
theorem d_X10_back_158 : decode cX10_back 158 = .ok (.iconst 5, 1) := by decide +kernel
theorem d_X10_back_159 : decode cX10_back 159 = .ok (.imul, 1) := by decide +kernel
theorem d_X10_back_160 : decode cX10_back 160 = .ok (.iload 6, 2) := by decide +kernel
theorem d_X10_back_162 : decode cX10_back 162 = .ok (.iadd, 1) := by decide +kernel
theorem d_X10_back_163 : decode cX10_back 163 = .ok (.iconst 2, 1) := by decide +kernel
theorem d_X10_back_164 : decode cX10_back 164 = .ok (.imul, 1) := by decide +kernel
theorem d_X10_back_165 : decode cX10_back 165 = .ok (.laload, 1) := by decide +kernel
theorem d_X10_back_166 : decode cX10_back 166 = .ok (.lstore 7, 2) := by decide +kernel
theorem d_X10_back_168 : decode cX10_back 168 = .ok (.aload_n 0, 1) := by decide +kernel
theorem d_X10_back_169 : decode cX10_back 169 = .ok (.getfield 25, 3) := by decide +kernel
theorem d_X10_back_172 : decode cX10_back 172 = .ok (.getfield 109, 3) := by decide +kernel
theorem d_X10_back_175 : decode cX10_back 175 = .ok (.iload_n 3, 1) := by decide +kernel
theorem d_X10_back_176 : decode cX10_back 176 = .ok (.iconst 5, 1) := by decide +kernel
theorem d_X10_back_177 : decode cX10_back 177 = .ok (.imul, 1) := by decide +kernel
theorem d_X10_back_178 : decode cX10_back 178 = .ok (.iload 6, 2) := by decide +kernel
theorem d_X10_back_180 : decode cX10_back 180 = .ok (.iadd, 1) := by decide +kernel
theorem d_X10_back_181 : decode cX10_back 181 = .ok (.iconst 2, 1) := by decide +kernel
theorem d_X10_back_182 : decode cX10_back 182 = .ok (.imul, 1) := by decide +kernel
theorem d_X10_back_183 : decode cX10_back 183 = .ok (.iconst 1, 1) := by decide +kernel
theorem d_X10_back_184 : decode cX10_back 184 = .ok (.iadd, 1) := by decide +kernel
theorem d_X10_back_185 : decode cX10_back 185 = .ok (.laload, 1) := by decide +kernel
theorem d_X10_back_186 : decode cX10_back 186 = .ok (.lstore 9, 2) := by decide +kernel
theorem d_X10_back_188 : decode cX10_back 188 = .ok (.iconst 1, 1) := by decide +kernel
theorem d_X10_back_189 : decode cX10_back 189 = .ok (.istore 11, 2) := by decide +kernel
theorem d_X10_back_191 : decode cX10_back 191 = .ok (.iload 11, 2) := by decide +kernel
theorem d_X10_back_193 : decode cX10_back 193 = .ok (.iconst 3, 1) := by decide +kernel
theorem d_X10_back_194 : decode cX10_back 194 = .ok (.if_icmp .gt 76, 3) := by decide +kernel
theorem d_X10_back_197 : decode cX10_back 197 = .ok (.lload 7, 2) := by decide +kernel
theorem d_X10_back_199 : decode cX10_back 199 = .ok (.lload 9, 2) := by decide +kernel
theorem d_X10_back_201 : decode cX10_back 201 = .ok (.lor, 1) := by decide +kernel
theorem d_X10_back_202 : decode cX10_back 202 = .ok (.lconst 0, 1) := by decide +kernel
theorem d_X10_back_203 : decode cX10_back 203 = .ok (.lcmp, 1) := by decide +kernel
theorem d_X10_back_204 : decode cX10_back 204 = .ok (.ifCond .eq 66, 3) := by decide +kernel
theorem d_X10_back_207 : decode cX10_back 207 = .ok (.aload_n 0, 1) := by decide +kernel
theorem d_X10_back_208 : decode cX10_back 208 = .ok (.iload 11, 2) := by decide +kernel
theorem d_X10_back_210 : decode cX10_back 210 = .ok (.aload_n 0, 1) := by decide +kernel
theorem d_X10_back_211 : decode cX10_back 211 = .ok (.getfield 25, 3) := by decide +kernel
theorem d_X10_back_214 : decode cX10_back 214 = .ok (.getfield 109, 3) := by decide +kernel
theorem d_X10_back_217 : decode cX10_back 217 = .ok (.iload_n 2, 1) := by decide +kernel
theorem d_X10_back_218 : decode cX10_back 218 = .ok (.iconst 5, 1) := by decide +kernel
theorem d_X10_back_219 : decode cX10_back 219 = .ok (.imul, 1) := by decide +kernel
theorem d_X10_back_220 : decode cX10_back 220 = .ok (.iload 6, 2) := by decide +kernel
theorem d_X10_back_222 : decode cX10_back 222 = .ok (.iadd, 1) := by decide +kernel
theorem d_X10_back_223 : decode cX10_back 223 = .ok (.iconst 2, 1) := by decide +kernel
theorem d_X10_back_224 : decode cX10_back 224 = .ok (.imul, 1) := by decide +kernel
theorem d_X10_back_225 : decode cX10_back 225 = .ok (.laload, 1) := by decide +kernel
theorem d_X10_back_226 : decode cX10_back 226 = .ok (.iconst 0, 1) := by decide +kernel
theorem d_X10_back_227 : decode cX10_back 227 = .ok (.lload 7, 2) := by decide +kernel
theorem d_X10_back_229 : decode cX10_back 229 = .ok (.lload 9, 2) := by decide +kernel
theorem d_X10_back_231 : decode cX10_back 231 = .ok (.invokevirtual 112, 3) := by decide +kernel
theorem d_X10_back_234 : decode cX10_back 234 = .ok (.aload_n 0, 1) := by decide +kernel
theorem d_X10_back_235 : decode cX10_back 235 = .ok (.iload 11, 2) := by decide +kernel
theorem d_X10_back_237 : decode cX10_back 237 = .ok (.aload_n 0, 1) := by decide +kernel
theorem d_X10_back_238 : decode cX10_back 238 = .ok (.getfield 25, 3) := by decide +kernel
theorem d_X10_back_241 : decode cX10_back 241 = .ok (.getfield 109, 3) := by decide +kernel
theorem d_X10_back_244 : decode cX10_back 244 = .ok (.iload_n 2, 1) := by decide +kernel
theorem d_X10_back_245 : decode cX10_back 245 = .ok (.iconst 5, 1) := by decide +kernel
theorem d_X10_back_246 : decode cX10_back 246 = .ok (.imul, 1) := by decide +kernel
theorem d_X10_back_247 : decode cX10_back 247 = .ok (.iload 6, 2) := by decide +kernel
theorem d_X10_back_249 : decode cX10_back 249 = .ok (.iadd, 1) := by decide +kernel
theorem d_X10_back_250 : decode cX10_back 250 = .ok (.iconst 2, 1) := by decide +kernel
theorem d_X10_back_251 : decode cX10_back 251 = .ok (.imul, 1) := by decide +kernel
theorem d_X10_back_252 : decode cX10_back 252 = .ok (.iconst 1, 1) := by decide +kernel
theorem d_X10_back_253 : decode cX10_back 253 = .ok (.iadd, 1) := by decide +kernel
theorem d_X10_back_254 : decode cX10_back 254 = .ok (.laload, 1) := by decide +kernel
theorem d_X10_back_255 : decode cX10_back 255 = .ok (.bipush 64, 2) := by decide +kernel
theorem d_X10_back_257 : decode cX10_back 257 = .ok (.lload 7, 2) := by decide +kernel
theorem d_X10_back_259 : decode cX10_back 259 = .ok (.lload 9, 2) := by decide +kernel
theorem d_X10_back_261 : decode cX10_back 261 = .ok (.invokevirtual 112, 3) := by decide +kernel
theorem d_X10_back_264 : decode cX10_back 264 = .ok (.iinc 11 1, 3) := by decide +kernel
theorem d_X10_back_267 : decode cX10_back 267 = .ok (.goto (-76), 3) := by decide +kernel
theorem d_X10_back_270 : decode cX10_back 270 = .ok (.iinc 6 1, 3) := by decide +kernel
theorem d_X10_back_273 : decode cX10_back 273 = .ok (.goto (-134), 3) := by decide +kernel
theorem d_X10_back_276 : decode cX10_back 276 = .ok (.return_, 1) := by decide +kernel
def k_X10_back_136 (P : xP) (C139 : xK) : xK := x_push (.int 0) (x_istore 6 (C139))
set_option maxRecDepth 20000 in
theorem t_X10_back_136 {p : Program} {l : Launch} {e : Env} {s : State} {m : MethodId} {args : Array Value} {below : List Frame} {meth : Method} {c : Code} {g : xG} (X : xX p s m args c meth cX10_back RX10 12 g) (hr : meth.sig.returnType = none) {P : xP} {C139 : xK} (h139 : xAt p l e { frames := 4, cells := 0, slots := 0, locals := 105 } s m args below meth c g 12 xFT xN 0 0 (MQ below (xQc g xFT xN P) args s 0 0 (xFr g)) C139 139) : xAt p l e { frames := 4, cells := 0, slots := 0, locals := 105 } s m args below meth c g 12 xFT xN 0 0 (MQ below (xQc g xFT xN P) args s 0 0 (xFr g)) (k_X10_back_136 P C139) 136 := by
  unfold k_X10_back_136
  refine r_iconst (pc := 136) X d_X10_back_136 (by decide +kernel) ?_
  refine r_istore (pc := 137) X d_X10_back_137 (by decide +kernel) ?_
  exact h139
def k_X10_back_99 (P : xP) (C139 : xK) : xK := x_iload 1 (x_push (.int 2) (x_icmp_eq ((k_X10_back_136 P C139)) (x_aload 0 (x_iload 1 (x_push (.int 80) (x_imul (x_iload 2 (x_iadd (x_aload 0 (y_getF 52 39 (y_getF 39 43 (x_iload 5 (y_lald 43 800 (x_aload 0 (y_getF 52 39 (y_getF 39 43 (x_iload 5 (x_push (.int 1) (x_iadd (y_lald 43 800 (y_cv3 52 (w_RIJJ f_X10_suspectRow) ((k_X10_back_136 P C139)))))))))))))))))))))))
set_option maxRecDepth 20000 in
theorem t_X10_back_99 {p : Program} {l : Launch} {e : Env} {s : State} {m : MethodId} {args : Array Value} {below : List Frame} {meth : Method} {c : Code} {g : xG} (X : xX p s m args c meth cX10_back RX10 12 g) (hr : meth.sig.returnType = none) {P : xP} {C139 : xK} (h139 : xAt p l e { frames := 4, cells := 0, slots := 0, locals := 105 } s m args below meth c g 12 xFT xN 0 0 (MQ below (xQc g xFT xN P) args s 0 0 (xFr g)) C139 139) : xAt p l e { frames := 4, cells := 0, slots := 0, locals := 105 } s m args below meth c g 12 xFT xN 0 0 (MQ below (xQc g xFT xN P) args s 0 0 (xFr g)) (k_X10_back_99 P C139) 99 := by
  unfold k_X10_back_99
  refine r_iload_n (pc := 99) X d_X10_back_99 fn1 ?_
  refine r_iconst (pc := 100) X d_X10_back_100 (by decide +kernel) ?_
  refine r_icmp_eq (pc := 101) (tgt := 136) X d_X10_back_101 (by decide +kernel) ?_ ?_
  · exact t_X10_back_136 X hr h139
  · refine r_aload_n (pc := 104) X d_X10_back_104 fn0 ?_
    refine r_iload_n (pc := 105) X d_X10_back_105 fn1 ?_
    refine r_bipush (pc := 106) X d_X10_back_106 (by decide +kernel) ?_
    refine r_imul (pc := 108) X d_X10_back_108 ?_
    refine r_iload_n (pc := 109) X d_X10_back_109 fn2 ?_
    refine r_iadd (pc := 110) X d_X10_back_110 ?_
    refine r_aload_n (pc := 111) X d_X10_back_111 fn0 ?_
    refine s_getF (pc := 112) (ci := 10) (k := 10) X xok10 (by decide +kernel) ob_52 trivial ly_52_10 (by decide +kernel) fl_RX10_25 d_X10_back_112 ?_
    refine s_getF (pc := 115) (ci := 7) (k := 6) X xok7 (by decide +kernel) ob_39 trivial ly_39_6 (by decide +kernel) fl_RX10_109 d_X10_back_115 ?_
    refine r_iload (pc := 118) X d_X10_back_118 ?_
    refine s_lald (pc := 120) X tn_43 ln_43 d_X10_back_120 ?_
    refine r_aload_n (pc := 121) X d_X10_back_121 fn0 ?_
    refine s_getF (pc := 122) (ci := 10) (k := 10) X xok10 (by decide +kernel) ob_52 trivial ly_52_10 (by decide +kernel) fl_RX10_25 d_X10_back_122 ?_
    refine s_getF (pc := 125) (ci := 7) (k := 6) X xok7 (by decide +kernel) ob_39 trivial ly_39_6 (by decide +kernel) fl_RX10_109 d_X10_back_125 ?_
    refine r_iload (pc := 128) X d_X10_back_128 ?_
    refine r_iconst (pc := 130) X d_X10_back_130 (by decide +kernel) ?_
    refine r_iadd (pc := 131) X d_X10_back_131 ?_
    refine s_lald (pc := 132) X tn_43 ln_43 d_X10_back_132 ?_
    refine s_cv3 (pc := 133) (ci := 10) X xok10 (by decide +kernel) ob_52 rfl (con_X10_suspectRow l) mf_X10_suspectRow ml_RX10_115 (by decide +kernel) (by decide +kernel) d_X10_back_133 ?_
    exact t_X10_back_136 X hr h139
def k_X10_back_54 (P : xP) (C139 : xK) : xK := x_lstore 8 (x_aload 0 (x_iload 1 (x_aload 0 (y_getF 52 39 (y_getF 39 43 (x_iload 4 (y_lald 43 800 (x_push (.int 0) (x_lload 6 (x_lload 8 (y_cv5 52 (w_RIJIJJ f_X10_suspectAll) (x_aload 0 (x_iload 1 (x_aload 0 (y_getF 52 39 (y_getF 39 43 (x_iload 4 (x_push (.int 1) (x_iadd (y_lald 43 800 (x_push (.int 64) (x_lload 6 (x_lload 8 (y_cv5 52 (w_RIJIJJ f_X10_suspectAll) ((k_X10_back_99 P C139))))))))))))))))))))))))))
set_option maxRecDepth 20000 in
theorem t_X10_back_54 {p : Program} {l : Launch} {e : Env} {s : State} {m : MethodId} {args : Array Value} {below : List Frame} {meth : Method} {c : Code} {g : xG} (X : xX p s m args c meth cX10_back RX10 12 g) (hr : meth.sig.returnType = none) {P : xP} {C139 : xK} (h139 : xAt p l e { frames := 4, cells := 0, slots := 0, locals := 105 } s m args below meth c g 12 xFT xN 0 0 (MQ below (xQc g xFT xN P) args s 0 0 (xFr g)) C139 139) : xAt p l e { frames := 4, cells := 0, slots := 0, locals := 105 } s m args below meth c g 12 xFT xN 0 0 (MQ below (xQc g xFT xN P) args s 0 0 (xFr g)) (k_X10_back_54 P C139) 54 := by
  unfold k_X10_back_54
  refine r_lstore (pc := 54) X d_X10_back_54 (by decide +kernel) ?_
  refine r_aload_n (pc := 56) X d_X10_back_56 fn0 ?_
  refine r_iload_n (pc := 57) X d_X10_back_57 fn1 ?_
  refine r_aload_n (pc := 58) X d_X10_back_58 fn0 ?_
  refine s_getF (pc := 59) (ci := 10) (k := 10) X xok10 (by decide +kernel) ob_52 trivial ly_52_10 (by decide +kernel) fl_RX10_25 d_X10_back_59 ?_
  refine s_getF (pc := 62) (ci := 7) (k := 6) X xok7 (by decide +kernel) ob_39 trivial ly_39_6 (by decide +kernel) fl_RX10_109 d_X10_back_62 ?_
  refine r_iload (pc := 65) X d_X10_back_65 ?_
  refine s_lald (pc := 67) X tn_43 ln_43 d_X10_back_67 ?_
  refine r_iconst (pc := 68) X d_X10_back_68 (by decide +kernel) ?_
  refine r_lload (pc := 69) X d_X10_back_69 ?_
  refine r_lload (pc := 71) X d_X10_back_71 ?_
  refine s_cv5 (pc := 73) (ci := 10) X xok10 (by decide +kernel) ob_52 rfl (con_X10_suspectAll l) mf_X10_suspectAll ml_RX10_112 (by decide +kernel) (by decide +kernel) d_X10_back_73 ?_
  refine r_aload_n (pc := 76) X d_X10_back_76 fn0 ?_
  refine r_iload_n (pc := 77) X d_X10_back_77 fn1 ?_
  refine r_aload_n (pc := 78) X d_X10_back_78 fn0 ?_
  refine s_getF (pc := 79) (ci := 10) (k := 10) X xok10 (by decide +kernel) ob_52 trivial ly_52_10 (by decide +kernel) fl_RX10_25 d_X10_back_79 ?_
  refine s_getF (pc := 82) (ci := 7) (k := 6) X xok7 (by decide +kernel) ob_39 trivial ly_39_6 (by decide +kernel) fl_RX10_109 d_X10_back_82 ?_
  refine r_iload (pc := 85) X d_X10_back_85 ?_
  refine r_iconst (pc := 87) X d_X10_back_87 (by decide +kernel) ?_
  refine r_iadd (pc := 88) X d_X10_back_88 ?_
  refine s_lald (pc := 89) X tn_43 ln_43 d_X10_back_89 ?_
  refine r_bipush (pc := 90) X d_X10_back_90 (by decide +kernel) ?_
  refine r_lload (pc := 92) X d_X10_back_92 ?_
  refine r_lload (pc := 94) X d_X10_back_94 ?_
  refine s_cv5 (pc := 96) (ci := 10) X xok10 (by decide +kernel) ob_52 rfl (con_X10_suspectAll l) mf_X10_suspectAll ml_RX10_112 (by decide +kernel) (by decide +kernel) d_X10_back_96 ?_
  exact t_X10_back_99 X hr h139
def k_X10_back_36 (P : xP) (C139 : xK) : xK := x_lstore 6 (x_iload 3 (x_push (.int 64) (x_icmp_ge (x_push (.long 1) (x_iload 3 (x_push (.int 64) (x_isub (x_lshl ((k_X10_back_54 P C139))))))) (x_push (.long 0) ((k_X10_back_54 P C139))))))
set_option maxRecDepth 20000 in
theorem t_X10_back_36 {p : Program} {l : Launch} {e : Env} {s : State} {m : MethodId} {args : Array Value} {below : List Frame} {meth : Method} {c : Code} {g : xG} (X : xX p s m args c meth cX10_back RX10 12 g) (hr : meth.sig.returnType = none) {P : xP} {C139 : xK} (h139 : xAt p l e { frames := 4, cells := 0, slots := 0, locals := 105 } s m args below meth c g 12 xFT xN 0 0 (MQ below (xQc g xFT xN P) args s 0 0 (xFr g)) C139 139) : xAt p l e { frames := 4, cells := 0, slots := 0, locals := 105 } s m args below meth c g 12 xFT xN 0 0 (MQ below (xQc g xFT xN P) args s 0 0 (xFr g)) (k_X10_back_36 P C139) 36 := by
  unfold k_X10_back_36
  refine r_lstore (pc := 36) X d_X10_back_36 (by decide +kernel) ?_
  refine r_iload_n (pc := 38) X d_X10_back_38 fn3 ?_
  refine r_bipush (pc := 39) X d_X10_back_39 (by decide +kernel) ?_
  refine r_icmp_ge (pc := 41) (tgt := 48) X d_X10_back_41 (by decide +kernel) ?_ ?_
  · refine r_lconst (pc := 48) X d_X10_back_48 (by decide +kernel) ?_
    refine r_iload_n (pc := 49) X d_X10_back_49 fn3 ?_
    refine r_bipush (pc := 50) X d_X10_back_50 (by decide +kernel) ?_
    refine r_isub (pc := 52) X d_X10_back_52 ?_
    refine r_lshl (pc := 53) X d_X10_back_53 ?_
    exact t_X10_back_54 X hr h139
  · refine r_lconst (pc := 44) X d_X10_back_44 (by decide +kernel) ?_
    refine r_goto (pc := 45) (tgt := 54) X d_X10_back_45 (by decide +kernel) ?_
    exact t_X10_back_54 X hr h139
def k_X10_back_0 (P : xP) (C139 : xK) : xK := x_iload 2 (x_push (.int 5) (x_imul (x_push (.int 4) (x_iadd (x_push (.int 2) (x_imul (x_istore 4 (x_iload 3 (x_push (.int 5) (x_imul (x_push (.int 4) (x_iadd (x_push (.int 2) (x_imul (x_istore 5 (x_iload 1 (x_push (.int 3) (x_icmp_eq ((k_X10_back_99 P C139)) (x_iload 3 (x_push (.int 64) (x_icmp_ge (x_push (.long 0) ((k_X10_back_36 P C139))) (x_push (.long 1) (x_iload 3 (x_lshl ((k_X10_back_36 P C139))))))))))))))))))))))))))
set_option maxRecDepth 20000 in
theorem t_X10_back_0 {p : Program} {l : Launch} {e : Env} {s : State} {m : MethodId} {args : Array Value} {below : List Frame} {meth : Method} {c : Code} {g : xG} (X : xX p s m args c meth cX10_back RX10 12 g) (hr : meth.sig.returnType = none) {P : xP} {C139 : xK} (h139 : xAt p l e { frames := 4, cells := 0, slots := 0, locals := 105 } s m args below meth c g 12 xFT xN 0 0 (MQ below (xQc g xFT xN P) args s 0 0 (xFr g)) C139 139) : xAt p l e { frames := 4, cells := 0, slots := 0, locals := 105 } s m args below meth c g 12 xFT xN 0 0 (MQ below (xQc g xFT xN P) args s 0 0 (xFr g)) (k_X10_back_0 P C139) 0 := by
  unfold k_X10_back_0
  refine r_iload_n (pc := 0) X d_X10_back_0 fn2 ?_
  refine r_iconst (pc := 1) X d_X10_back_1 (by decide +kernel) ?_
  refine r_imul (pc := 2) X d_X10_back_2 ?_
  refine r_iconst (pc := 3) X d_X10_back_3 (by decide +kernel) ?_
  refine r_iadd (pc := 4) X d_X10_back_4 ?_
  refine r_iconst (pc := 5) X d_X10_back_5 (by decide +kernel) ?_
  refine r_imul (pc := 6) X d_X10_back_6 ?_
  refine r_istore (pc := 7) X d_X10_back_7 (by decide +kernel) ?_
  refine r_iload_n (pc := 9) X d_X10_back_9 fn3 ?_
  refine r_iconst (pc := 10) X d_X10_back_10 (by decide +kernel) ?_
  refine r_imul (pc := 11) X d_X10_back_11 ?_
  refine r_iconst (pc := 12) X d_X10_back_12 (by decide +kernel) ?_
  refine r_iadd (pc := 13) X d_X10_back_13 ?_
  refine r_iconst (pc := 14) X d_X10_back_14 (by decide +kernel) ?_
  refine r_imul (pc := 15) X d_X10_back_15 ?_
  refine r_istore (pc := 16) X d_X10_back_16 (by decide +kernel) ?_
  refine r_iload_n (pc := 18) X d_X10_back_18 fn1 ?_
  refine r_iconst (pc := 19) X d_X10_back_19 (by decide +kernel) ?_
  refine r_icmp_eq (pc := 20) (tgt := 99) X d_X10_back_20 (by decide +kernel) ?_ ?_
  · exact t_X10_back_99 X hr h139
  · refine r_iload_n (pc := 23) X d_X10_back_23 fn3 ?_
    refine r_bipush (pc := 24) X d_X10_back_24 (by decide +kernel) ?_
    refine r_icmp_ge (pc := 26) (tgt := 35) X d_X10_back_26 (by decide +kernel) ?_ ?_
    · refine r_lconst (pc := 35) X d_X10_back_35 (by decide +kernel) ?_
      exact t_X10_back_36 X hr h139
    · refine r_lconst (pc := 29) X d_X10_back_29 (by decide +kernel) ?_
      refine r_iload_n (pc := 30) X d_X10_back_30 fn3 ?_
      refine r_lshl (pc := 31) X d_X10_back_31 ?_
      refine r_goto (pc := 32) (tgt := 36) X d_X10_back_32 (by decide +kernel) ?_
      exact t_X10_back_36 X hr h139
def k_X10_back_276 (P : xP) : xK := x_vret P
set_option maxRecDepth 20000 in
theorem t_X10_back_276 {p : Program} {l : Launch} {e : Env} {s : State} {m : MethodId} {args : Array Value} {below : List Frame} {meth : Method} {c : Code} {g : xG} (X : xX p s m args c meth cX10_back RX10 12 g) (hr : meth.sig.returnType = none) {P : xP} : xAt p l e { frames := 4, cells := 0, slots := 0, locals := 105 } s m args below meth c g 12 xFT xN 0 0 (MQ below (xQc g xFT xN P) args s 0 0 (xFr g)) (k_X10_back_276 P) 276 := by
  unfold k_X10_back_276
  exact r_vret (pc := 276) X hr d_X10_back_276
def k_X10_back_139 (P : xP) (C191 : xK) : xK := x_iload 6 (x_push (.int 4) (x_icmp_ge ((k_X10_back_276 P)) (x_iload 1 (x_push (.int 1) (x_icmp_ne ((k_X10_back_276 P)) (x_aload 0 (y_getF 52 39 (y_getF 39 43 (x_iload 3 (x_push (.int 5) (x_imul (x_iload 6 (x_iadd (x_push (.int 2) (x_imul (y_lald 43 800 (x_lstore 7 (x_aload 0 (y_getF 52 39 (y_getF 39 43 (x_iload 3 (x_push (.int 5) (x_imul (x_iload 6 (x_iadd (x_push (.int 2) (x_imul (x_push (.int 1) (x_iadd (y_lald 43 800 (x_lstore 9 (x_push (.int 1) (x_istore 11 (C191))))))))))))))))))))))))))))))))))
set_option maxRecDepth 20000 in
theorem t_X10_back_139 {p : Program} {l : Launch} {e : Env} {s : State} {m : MethodId} {args : Array Value} {below : List Frame} {meth : Method} {c : Code} {g : xG} (X : xX p s m args c meth cX10_back RX10 12 g) (hr : meth.sig.returnType = none) {P : xP} {C191 : xK} (h191 : xAt p l e { frames := 4, cells := 0, slots := 0, locals := 105 } s m args below meth c g 12 xFT xN 0 0 (MQ below (xQc g xFT xN P) args s 0 0 (xFr g)) C191 191) : xAt p l e { frames := 4, cells := 0, slots := 0, locals := 105 } s m args below meth c g 12 xFT xN 0 0 (MQ below (xQc g xFT xN P) args s 0 0 (xFr g)) (k_X10_back_139 P C191) 139 := by
  unfold k_X10_back_139
  refine r_iload (pc := 139) X d_X10_back_139 ?_
  refine r_iconst (pc := 141) X d_X10_back_141 (by decide +kernel) ?_
  refine r_icmp_ge (pc := 142) (tgt := 276) X d_X10_back_142 (by decide +kernel) ?_ ?_
  · exact t_X10_back_276 X hr
  · refine r_iload_n (pc := 145) X d_X10_back_145 fn1 ?_
    refine r_iconst (pc := 146) X d_X10_back_146 (by decide +kernel) ?_
    refine r_icmp_ne (pc := 147) (tgt := 276) X d_X10_back_147 (by decide +kernel) ?_ ?_
    · exact t_X10_back_276 X hr
    · refine r_aload_n (pc := 150) X d_X10_back_150 fn0 ?_
      refine s_getF (pc := 151) (ci := 10) (k := 10) X xok10 (by decide +kernel) ob_52 trivial ly_52_10 (by decide +kernel) fl_RX10_25 d_X10_back_151 ?_
      refine s_getF (pc := 154) (ci := 7) (k := 6) X xok7 (by decide +kernel) ob_39 trivial ly_39_6 (by decide +kernel) fl_RX10_109 d_X10_back_154 ?_
      refine r_iload_n (pc := 157) X d_X10_back_157 fn3 ?_
      refine r_iconst (pc := 158) X d_X10_back_158 (by decide +kernel) ?_
      refine r_imul (pc := 159) X d_X10_back_159 ?_
      refine r_iload (pc := 160) X d_X10_back_160 ?_
      refine r_iadd (pc := 162) X d_X10_back_162 ?_
      refine r_iconst (pc := 163) X d_X10_back_163 (by decide +kernel) ?_
      refine r_imul (pc := 164) X d_X10_back_164 ?_
      refine s_lald (pc := 165) X tn_43 ln_43 d_X10_back_165 ?_
      refine r_lstore (pc := 166) X d_X10_back_166 (by decide +kernel) ?_
      refine r_aload_n (pc := 168) X d_X10_back_168 fn0 ?_
      refine s_getF (pc := 169) (ci := 10) (k := 10) X xok10 (by decide +kernel) ob_52 trivial ly_52_10 (by decide +kernel) fl_RX10_25 d_X10_back_169 ?_
      refine s_getF (pc := 172) (ci := 7) (k := 6) X xok7 (by decide +kernel) ob_39 trivial ly_39_6 (by decide +kernel) fl_RX10_109 d_X10_back_172 ?_
      refine r_iload_n (pc := 175) X d_X10_back_175 fn3 ?_
      refine r_iconst (pc := 176) X d_X10_back_176 (by decide +kernel) ?_
      refine r_imul (pc := 177) X d_X10_back_177 ?_
      refine r_iload (pc := 178) X d_X10_back_178 ?_
      refine r_iadd (pc := 180) X d_X10_back_180 ?_
      refine r_iconst (pc := 181) X d_X10_back_181 (by decide +kernel) ?_
      refine r_imul (pc := 182) X d_X10_back_182 ?_
      refine r_iconst (pc := 183) X d_X10_back_183 (by decide +kernel) ?_
      refine r_iadd (pc := 184) X d_X10_back_184 ?_
      refine s_lald (pc := 185) X tn_43 ln_43 d_X10_back_185 ?_
      refine r_lstore (pc := 186) X d_X10_back_186 (by decide +kernel) ?_
      refine r_iconst (pc := 188) X d_X10_back_188 (by decide +kernel) ?_
      refine r_istore (pc := 189) X d_X10_back_189 (by decide +kernel) ?_
      exact h191
def k_X10_back_270 (P : xP) (C139 : xK) : xK := x_iinc 6 1 (C139)
set_option maxRecDepth 20000 in
theorem t_X10_back_270 {p : Program} {l : Launch} {e : Env} {s : State} {m : MethodId} {args : Array Value} {below : List Frame} {meth : Method} {c : Code} {g : xG} (X : xX p s m args c meth cX10_back RX10 12 g) (hr : meth.sig.returnType = none) {P : xP} {C139 : xK} (h139 : xAt p l e { frames := 4, cells := 0, slots := 0, locals := 105 } s m args below meth c g 12 xFT xN 0 0 (MQ below (xQc g xFT xN P) args s 0 0 (xFr g)) C139 139) : xAt p l e { frames := 4, cells := 0, slots := 0, locals := 105 } s m args below meth c g 12 xFT xN 0 0 (MQ below (xQc g xFT xN P) args s 0 0 (xFr g)) (k_X10_back_270 P C139) 270 := by
  unfold k_X10_back_270
  refine r_iinc (pc := 270) X d_X10_back_270 (by decide +kernel) (by decide +kernel) ?_
  refine r_goto (pc := 273) (tgt := 139) X d_X10_back_273 (by decide +kernel) ?_
  exact h139
def k_X10_back_191 (P : xP) (C139 : xK) (C191 : xK) : xK := x_iload 11 (x_push (.int 3) (x_icmp_gt ((k_X10_back_270 P C139)) (x_lload 7 (x_lload 9 (x_lor (x_push (.long 0) (x_lcmp (x_if_eq ((k_X10_back_270 P C139)) (x_aload 0 (x_iload 11 (x_aload 0 (y_getF 52 39 (y_getF 39 43 (x_iload 2 (x_push (.int 5) (x_imul (x_iload 6 (x_iadd (x_push (.int 2) (x_imul (y_lald 43 800 (x_push (.int 0) (x_lload 7 (x_lload 9 (y_cv5 52 (w_RIJIJJ f_X10_suspectAll) (x_aload 0 (x_iload 11 (x_aload 0 (y_getF 52 39 (y_getF 39 43 (x_iload 2 (x_push (.int 5) (x_imul (x_iload 6 (x_iadd (x_push (.int 2) (x_imul (x_push (.int 1) (x_iadd (y_lald 43 800 (x_push (.int 64) (x_lload 7 (x_lload 9 (y_cv5 52 (w_RIJIJJ f_X10_suspectAll) (x_iinc 11 1 (C191))))))))))))))))))))))))))))))))))))))))))))))
set_option maxRecDepth 20000 in
theorem t_X10_back_191 {p : Program} {l : Launch} {e : Env} {s : State} {m : MethodId} {args : Array Value} {below : List Frame} {meth : Method} {c : Code} {g : xG} (X : xX p s m args c meth cX10_back RX10 12 g) (hr : meth.sig.returnType = none) {P : xP} {C139 : xK} {C191 : xK} (h139 : xAt p l e { frames := 4, cells := 0, slots := 0, locals := 105 } s m args below meth c g 12 xFT xN 0 0 (MQ below (xQc g xFT xN P) args s 0 0 (xFr g)) C139 139) (h191 : xAt p l e { frames := 4, cells := 0, slots := 0, locals := 105 } s m args below meth c g 12 xFT xN 0 0 (MQ below (xQc g xFT xN P) args s 0 0 (xFr g)) C191 191) : xAt p l e { frames := 4, cells := 0, slots := 0, locals := 105 } s m args below meth c g 12 xFT xN 0 0 (MQ below (xQc g xFT xN P) args s 0 0 (xFr g)) (k_X10_back_191 P C139 C191) 191 := by
  unfold k_X10_back_191
  refine r_iload (pc := 191) X d_X10_back_191 ?_
  refine r_iconst (pc := 193) X d_X10_back_193 (by decide +kernel) ?_
  refine r_icmp_gt (pc := 194) (tgt := 270) X d_X10_back_194 (by decide +kernel) ?_ ?_
  · exact t_X10_back_270 X hr h139
  · refine r_lload (pc := 197) X d_X10_back_197 ?_
    refine r_lload (pc := 199) X d_X10_back_199 ?_
    refine r_lor (pc := 201) X d_X10_back_201 ?_
    refine r_lconst (pc := 202) X d_X10_back_202 (by decide +kernel) ?_
    refine r_lcmp (pc := 203) X d_X10_back_203 ?_
    refine r_if_eq (pc := 204) (tgt := 270) X d_X10_back_204 (by decide +kernel) ?_ ?_
    · exact t_X10_back_270 X hr h139
    · refine r_aload_n (pc := 207) X d_X10_back_207 fn0 ?_
      refine r_iload (pc := 208) X d_X10_back_208 ?_
      refine r_aload_n (pc := 210) X d_X10_back_210 fn0 ?_
      refine s_getF (pc := 211) (ci := 10) (k := 10) X xok10 (by decide +kernel) ob_52 trivial ly_52_10 (by decide +kernel) fl_RX10_25 d_X10_back_211 ?_
      refine s_getF (pc := 214) (ci := 7) (k := 6) X xok7 (by decide +kernel) ob_39 trivial ly_39_6 (by decide +kernel) fl_RX10_109 d_X10_back_214 ?_
      refine r_iload_n (pc := 217) X d_X10_back_217 fn2 ?_
      refine r_iconst (pc := 218) X d_X10_back_218 (by decide +kernel) ?_
      refine r_imul (pc := 219) X d_X10_back_219 ?_
      refine r_iload (pc := 220) X d_X10_back_220 ?_
      refine r_iadd (pc := 222) X d_X10_back_222 ?_
      refine r_iconst (pc := 223) X d_X10_back_223 (by decide +kernel) ?_
      refine r_imul (pc := 224) X d_X10_back_224 ?_
      refine s_lald (pc := 225) X tn_43 ln_43 d_X10_back_225 ?_
      refine r_iconst (pc := 226) X d_X10_back_226 (by decide +kernel) ?_
      refine r_lload (pc := 227) X d_X10_back_227 ?_
      refine r_lload (pc := 229) X d_X10_back_229 ?_
      refine s_cv5 (pc := 231) (ci := 10) X xok10 (by decide +kernel) ob_52 rfl (con_X10_suspectAll l) mf_X10_suspectAll ml_RX10_112 (by decide +kernel) (by decide +kernel) d_X10_back_231 ?_
      refine r_aload_n (pc := 234) X d_X10_back_234 fn0 ?_
      refine r_iload (pc := 235) X d_X10_back_235 ?_
      refine r_aload_n (pc := 237) X d_X10_back_237 fn0 ?_
      refine s_getF (pc := 238) (ci := 10) (k := 10) X xok10 (by decide +kernel) ob_52 trivial ly_52_10 (by decide +kernel) fl_RX10_25 d_X10_back_238 ?_
      refine s_getF (pc := 241) (ci := 7) (k := 6) X xok7 (by decide +kernel) ob_39 trivial ly_39_6 (by decide +kernel) fl_RX10_109 d_X10_back_241 ?_
      refine r_iload_n (pc := 244) X d_X10_back_244 fn2 ?_
      refine r_iconst (pc := 245) X d_X10_back_245 (by decide +kernel) ?_
      refine r_imul (pc := 246) X d_X10_back_246 ?_
      refine r_iload (pc := 247) X d_X10_back_247 ?_
      refine r_iadd (pc := 249) X d_X10_back_249 ?_
      refine r_iconst (pc := 250) X d_X10_back_250 (by decide +kernel) ?_
      refine r_imul (pc := 251) X d_X10_back_251 ?_
      refine r_iconst (pc := 252) X d_X10_back_252 (by decide +kernel) ?_
      refine r_iadd (pc := 253) X d_X10_back_253 ?_
      refine s_lald (pc := 254) X tn_43 ln_43 d_X10_back_254 ?_
      refine r_bipush (pc := 255) X d_X10_back_255 (by decide +kernel) ?_
      refine r_lload (pc := 257) X d_X10_back_257 ?_
      refine r_lload (pc := 259) X d_X10_back_259 ?_
      refine s_cv5 (pc := 261) (ci := 10) X xok10 (by decide +kernel) ob_52 rfl (con_X10_suspectAll l) mf_X10_suspectAll ml_RX10_112 (by decide +kernel) (by decide +kernel) d_X10_back_261 ?_
      refine r_iinc (pc := 264) X d_X10_back_264 (by decide +kernel) (by decide +kernel) ?_
      refine r_goto (pc := 267) (tgt := 191) X d_X10_back_267 (by decide +kernel) ?_
      exact h191
set_option maxRecDepth 20000 in
theorem m_X10_back {l : Launch} {f : Nat → Int32 → Int32 → Int32 → xH → xP → Prop}  {I139 : Nat → Int32 → Int32 → Int32 → xH → xP → xM → xK} {I191 : Nat → Int32 → Int32 → Int32 → xH → xP → xM → xK}
    (v0 : ∀ (a0 : Nat) (a1 : Int32) (a2 : Int32) (a3 : Int32) (A : xH) (P : xP), f a0 a1 a2 a3 A P → k_X10_back_0 P (xE (I139 a0 a1 a2 a3 A P)) [some (.ref a0), some (.int a1), some (.int a2), some (.int a3), none, none, none, none, none, none, none, none] [] A)
    (v139 : ∀ (a0 : Nat) (a1 : Int32) (a2 : Int32) (a3 : Int32) (A : xH) (P : xP), f a0 a1 a2 a3 A P → ∀ (μ : xM) (L : xL) (st : List Value) (B : xH), I139 a0 a1 a2 a3 A P μ L st B → k_X10_back_139 P (xB (I191 a0 a1 a2 a3 A P) μ) L st B)
    (v191 : ∀ (a0 : Nat) (a1 : Int32) (a2 : Int32) (a3 : Int32) (A : xH) (P : xP), f a0 a1 a2 a3 A P → ∀ (μ : xM) (L : xL) (st : List Value) (B : xH), I191 a0 a1 a2 a3 A P μ L st B → k_X10_back_191 P (xB (I139 a0 a1 a2 a3 A P) μ) (xB (I191 a0 a1 a2 a3 A P) μ) L st B) : xCon l yX10_back cX10_back 12 none 4 105 xN xN 0 xFT xFT (w_RIII f) := by
  refine xc_RIII (plainFor_of_name pn_RX10) (by decide +kernel) (fun p e s m args below meth c g a0 a1 a2 a3 A P h X hr _ => ?_)
  obtain ⟨h139, h191⟩ := x_loop2 (p := p) (l := l) (e := e) (R := { frames := 4, cells := 0, slots := 0, locals := 105 }) (s := s) (m := m) (args := args) (below := below) (meth := meth) (c := c) (g := g) (nL := 12) (F := xFT) (n := xN) (cells := 0) (slots := 0) (Q := MQ below (xQc g xFT xN P) args s 0 0 (xFr g)) (I1 := I139 a0 a1 a2 a3 A P) (I2 := I191 a0 a1 a2 a3 A P) (pc1 := 139) (pc2 := 191) (fun μ i139 i191 => xAt_mono (t_X10_back_139 (P := P) X hr i191) (v139 a0 a1 a2 a3 A P h μ)) (fun μ i139 i191 => xAt_mono (t_X10_back_191 (P := P) X hr i139 i191) (v191 a0 a1 a2 a3 A P h μ))
  exact ⟨_, v0 a0 a1 a2 a3 A P h, t_X10_back_0 X hr h139⟩
theorem hq_F {A : xH} {n p u x : Nat} {T : Nat → Nat → Nat → Prop} (h : isST A n T) (hp : p < n) (hu : u < 5) (hx : x < 128) : hq (xl A 43 ((p * 5 + u) * 2)) (xl A 43 ((p * 5 + u) * 2 + 1)) x = true ↔ ∃ s, s < 24 ∧ uS5 s = u ∧ T x s p := by
  have h1 := h.2 p u x hp hu hx
  unfold hq
  by_cases w : x < 64
  · rw [if_pos w]
    rw [Nat.div_eq_of_lt w, Nat.mod_eq_of_lt w, Nat.add_zero] at h1
    exact h1
  · rw [if_neg w]
    rw [show x / 64 = 1 by omega, show x % 64 = x - 64 by omega] at h1
    exact h1
theorem hq_F4 {A : xH} {n p x : Nat} {T : Nat → Nat → Nat → Prop} (h : isST A n T) (hp : p < n) (hx : x < 128) : hq (xl A 43 ((p * 5 + 4) * 2)) (xl A 43 ((p * 5 + 4) * 2 + 1)) x = true ↔ nsT T x p := by
  rw [hq_F h hp (by omega) hx]
  constructor
  · rintro ⟨s, a, b, c⟩
    refine ⟨s, ?_, a, c⟩
    unfold uS5 at b
    split at b <;> omega
  · rintro ⟨s, a, b, c⟩
    exact ⟨s, b, by unfold uS5; rw [if_neg (by omega)], c⟩
theorem hq_Fs {A : xH} {n p u x : Nat} {T : Nat → Nat → Nat → Prop} (h : isST A n T) (hp : p < n) (hu : u < 4) (hx : x < 128) : hq (xl A 43 ((p * 5 + u) * 2)) (xl A 43 ((p * 5 + u) * 2 + 1)) x = true ↔ T x u p := by
  rw [hq_F h hp (by omega) hx]
  constructor
  · rintro ⟨s, a, b, c⟩
    unfold uS5 at b
    split at b
    · subst b; exact c
    · omega
  · intro c
    exact ⟨u, by omega, by unfold uS5; rw [if_pos hu], c⟩
theorem pl_fr {v : xV} {A : xH} {p u j : Nat} (h : ctS v A) (hp : p < (plL v).length) (hu : u < 5) (hj : j < 64) (w : tl (xl A 43 ((p * 5 + u) * 2 + 1)) j = true) : 64 + j < 80 := by
  have h80 := h.2
  obtain ⟨s, -, -, q⟩ := (hq_F (x := 64 + j) (ct_T h).1 hp hu (by omega)).mp (by rw [hq_hi]; exact w)
  have := (stT_pl q).1
  omega
def bkL (v : xV) (s p r m : Nat) : Prop := s ≠ 3 ∧ m / 6400 = s ∧ nsT (stT v) (m / 80 % 80) p ∧ m % 80 = r ∧ rchC v m
def bkR (v : xV) (s p r m : Nat) : Prop := s ≠ 2 ∧ m / 6400 = s ∧ m / 80 % 80 = p ∧ nsT (stT v) (m % 80) r ∧ rchC v m
/-- by the signs below u, and by u from the stages below k -/
def bkS (v : xV) (s p r u k m : Nat) : Prop := s = 1 ∧ rchC v m ∧ ∃ w, w < 4 ∧ stT v (m / 80 % 80) w p ∧ stT v (m % 80) w r ∧ m / 6400 ≠ 0 ∧ (w < u ∨ (w = u ∧ m / 6400 < k))
def bkQ (v : xV) (s p r m : Nat) : Prop := rcN v (cDe m) ∧ m / 6400 ≠ 0 ∧ (e0T (stT v) (cDe m) (s, p, r) ∨ e1T (stT v) (cDe m) (s, p, r))
theorem bk_all {v : xV} {s p r m : Nat} (hs : s ≠ 0) : bkQ v s p r m ↔ ((bkL v s p r m ∨ bkR v s p r m) ∨ bkS v s p r 4 0 m) := by
  unfold bkQ bkL bkR bkS e0T e1T lfS rgS
  show (rchC v m ∧ m / 6400 ≠ 0 ∧ (((((m / 6400 = 0 ∧ m % 80 = 1 ∧ s = 1) ∨ (m / 6400 = 0 ∧ m % 80 ≠ 1 ∧ hsP (stT v) (m % 80) ∧ s = 2) ∨ (m / 6400 ≠ 0 ∧ m / 6400 ≠ 3 ∧ s = m / 6400)) ∧ nsT (stT v) (m / 80 % 80) p ∧ r = m % 80) ∨ (((m / 6400 = 0 ∧ m / 80 % 80 = 1 ∧ s = 1) ∨ (m / 6400 = 0 ∧ m / 80 % 80 ≠ 1 ∧ hsP (stT v) (m / 80 % 80) ∧ s = 3) ∨ (m / 6400 ≠ 0 ∧ m / 6400 ≠ 2 ∧ s = m / 6400)) ∧ p = m / 80 % 80 ∧ nsT (stT v) (m % 80) r) ∨ (m / 6400 = 0 ∧ _)) ∨ ((∃ w, w < 4 ∧ stT v (m / 80 % 80) w p ∧ stT v (m % 80) w r) ∧ s = if m / 6400 = 0 then 0 else 1))) ↔ _
  generalize m / 6400 = t
  constructor
  · rintro ⟨hr, h0, (⟨(⟨a, -⟩ | ⟨a, -⟩ | ⟨-, a, b⟩), c, d⟩ | ⟨(⟨a, -⟩ | ⟨a, -⟩ | ⟨-, a, b⟩), c, d⟩ | ⟨a, -⟩) | ⟨⟨w, a, b, c⟩, d⟩⟩
    · exact absurd a h0
    · exact absurd a h0
    · exact Or.inl (Or.inl ⟨by omega, b.symm, c, d.symm, hr⟩)
    · exact absurd a h0
    · exact absurd a h0
    · exact Or.inl (Or.inr ⟨by omega, b.symm, c.symm, d, hr⟩)
    · exact absurd a h0
    · rw [if_neg h0] at d
      exact Or.inr ⟨d, hr, w, a, b, c, h0, Or.inl a⟩
  · rintro ((⟨a, b, c, d, hr⟩ | ⟨a, b, c, d, hr⟩) | ⟨a, hr, w, b, c, d, h0, -⟩)
    · exact ⟨hr, by omega, Or.inl (Or.inl ⟨Or.inr (Or.inr ⟨by omega, by omega, b.symm⟩), c, d.symm⟩)⟩
    · exact ⟨hr, by omega, Or.inl (Or.inr (Or.inl ⟨Or.inr (Or.inr ⟨by omega, by omega, b.symm⟩), c.symm, d⟩))⟩
    · exact ⟨hr, h0, Or.inr ⟨⟨w, b, c, d⟩, by rw [if_neg h0]; exact a⟩⟩
def bkG (A B : xH) (P : xP) (v : xV) (R : Nat → Prop) (n n' s p r : Nat) : Prop := s < 4 ∧ s ≠ 0 ∧ p < (plL v).length ∧ r < (plL v).length ∧ ctS v B ∧ rcB v B ∧ srP A P R (bkQ v s p r) n ∧ fr (SEn 54) A B ∧ n ≤ n' ∧ ∀ k, k < n → xi B 56 k = xi A 56 k
def f_X10_back (q : Nat) (x y z : Int32) (A : xH) (P : xP) : Prop := q = 52 ∧ ∃ (v : xV) (R : Nat → Prop) (n s p r : Nat), x = nI s ∧ y = nI p ∧ z = nI r ∧ bkG A A P v R n n s p r ∧ csS 54 R n A
def bk139 (A : xH) (P : xP) : xM → xK := fun μ L st B => ∃ (v : xV) (R : Nat → Prop) (n n' s p r u : Nat) (i5 : Int32) (o4 o7 o8 o9 o10 o11 : Option Value), bkG A B P v R n n' s p r ∧ u ≤ 4 ∧ csS 54 (fun m => R m ∨ ((bkL v s p r m ∨ bkR v s p r m) ∨ bkS v s p r u 0 m)) n' B ∧ st = [] ∧ L = [some (.ref 52), some (.int (nI s)), some (.int (nI p)), some (.int (nI r)), o4, some (.int i5), some (.int (nI u)), o7, o8, o9, o10, o11] ∧ μ = (4 - u, 0, 0)
def bk191 (A : xH) (P : xP) : xM → xK := fun μ L st B => ∃ (v : xV) (R : Nat → Prop) (n n' s p r u k : Nat) (i5 : Int32) (o4 : Option Value), bkG A B P v R n n' s p r ∧ u < 4 ∧ s = 1 ∧ 1 ≤ k ∧ k ≤ 4 ∧ csS 54 (fun m => R m ∨ ((bkL v s p r m ∨ bkR v s p r m) ∨ bkS v s p r u k m)) n' B ∧ st = [] ∧ L = [some (.ref 52), some (.int (nI s)), some (.int (nI p)), some (.int (nI r)), o4, some (.int i5), some (.int (nI u)), some (.long (xl B 43 ((r * 5 + u) * 2))), none, some (.long (xl B 43 ((r * 5 + u) * 2 + 1))), none, some (.int (nI k))] ∧ μ = (4 - u - 1, 1, 4 - k)
theorem bkG_fr {A B C : xH} {P : xP} {v : xV} {R : Nat → Prop} {n n' n2 s p r : Nat} (h : bkG A B P v R n n' s p r) (hf : fr (SEn 54) B C) (hn : n' ≤ n2) (hp : ∀ k, k < n' → xi C 56 k = xi B 56 k) : bkG A C P v R n n2 s p r := by
  obtain ⟨h1, h2, h3, h4, h5, h6, h7, h8, h9, h10⟩ := h
  exact ⟨h1, h2, h3, h4, ctS_fr h5 hf (by unfold SEn; omega), rcB_fr h6 hf (by unfold SEn; omega), h7, fr_tr h8 hf, by omega, fun k hk => (hp k (by omega)).trans (h10 k hk)⟩
theorem bkS_0 {v : xV} {s p r u m : Nat} : bkS v s p r u 1 m ↔ bkS v s p r u 0 m := by
  unfold bkS
  constructor
  · rintro ⟨a, b, w, c, d, e, f, g⟩
    refine ⟨a, b, w, c, d, e, f, ?_⟩
    rcases g with g | ⟨g1, g2⟩
    · exact Or.inl g
    · omega
  · rintro ⟨a, b, w, c, d, e, f, g⟩
    exact ⟨a, b, w, c, d, e, f, by omega⟩
theorem bkS_4 {v : xV} {s p r u m : Nat} (hm : m < 25600) : bkS v s p r u 4 m ↔ bkS v s p r (u + 1) 0 m := by
  unfold bkS
  constructor
  · rintro ⟨a, b, w, c, d, e, f, g⟩
    exact ⟨a, b, w, c, d, e, f, by omega⟩
  · rintro ⟨a, b, w, c, d, e, f, g⟩
    exact ⟨a, b, w, c, d, e, f, by omega⟩
theorem bkS_s {v : xV} {s p r u k m : Nat} (hu : u < 4) (hk : k ≠ 0) (hs : s = 1) : bkS v s p r u (k + 1) m ↔ bkS v s p r u k m ∨ ((m / 6400 = k ∧ stT v (m / 80 % 80) u p ∧ stT v (m % 80) u r) ∧ rchC v m) := by
  unfold bkS
  constructor
  · rintro ⟨a, b, w, c, d, e, f, g⟩
    by_cases q : w = u ∧ m / 6400 = k
    · obtain ⟨q1, q2⟩ := q
      subst q1
      exact Or.inr ⟨⟨q2, d, e⟩, b⟩
    · exact Or.inl ⟨a, b, w, c, d, e, f, by omega⟩
  · rintro (⟨a, b, w, c, d, e, f, g⟩ | ⟨⟨a, b, c⟩, d⟩)
    · exact ⟨a, b, w, c, d, e, f, by omega⟩
    · exact ⟨hs, d, u, hu, b, c, by omega, by omega⟩
set_option maxRecDepth 20000 in
theorem con_X10_back (l : Launch) : xCon l yX10_back cX10_back 12 none 4 105 xN xN 0 xFT xFT (w_RIII f_X10_back) := by
  refine m_X10_back (I139 := fun q x y z A P => bk139 A P) (I191 := fun q x y z A P => bk191 A P) ?_ ?_ ?_
  · rintro q x y z A P ⟨rfl, v, R, n, s, p, r, rfl, rfl, rfl, hG, hS⟩
    have hG0 := hG
    obtain ⟨hs, h0, hp, hr, hC, hB, hP, -⟩ := hG
    have h80 := hC.2
    obtain ⟨hT, hGa⟩ := ct_T hC
    simp (disch := omega) only [k_X10_back_0, k_X10_back_139, k_X10_back_191, k_X10_back_36, k_X10_back_136, k_X10_back_270, k_X10_back_276, w_RIJIJJ, w_RIJJ, x_aload, x_iadd, x_icmp_eq, x_icmp_ge, x_icmp_gt, x_icmp_ne, x_if_eq, x_iinc, x_iload, x_imul, x_istore, x_isub, x_lcmp, x_lload, x_lor, x_lshl, x_lstore, x_push, x_vret, y_cv3, y_cv5, y_getF, y_lald, xFT, xbool0, xbool1, Nat.reduceAdd, Nat.zero_add, xgl_0, xgl_s, xgl_n, xst_0, xst_1n, xst_1i, xst_1r, xst_1l, xst_s, set_0, set_s, true_and, and_true, xres, xcat_nil, xcat_i, xcat_r, xcat_l, Nat.add_zero, xble0, xble1, xble2, xble3, xble4, xble5, xble6, xble7, xble8, pk_mul, nI_add, nI_1, nI_leI, nI_ltI, nI_eq, n_in, n_cl, z_eq, z_lt, z_le, z_gt, z_ge, z_qe, o_eq, o_lt, o_le, o_gt, o_ge, vp0, vp1, cl0, cl1, n_sub, n_sub1, n_pm1, n_a0, n_0a, ofn, lN0, Nat.reduceLT, Nat.reduceLeDiff, Nat.reduceMul, Nat.reduceSub, Nat.reduceEqDiff, ne_eq, true_implies, false_implies, not_true_eq_false, not_false_eq_true, and_self, and_true, true_and, and_false, false_and, implies_true, if_true, if_false, i00, i10, i01, i11, ob_0, ob_1, tn_2, ln_2, ob_3, tn_4, ln_4, ob_5, tn_6, ln_6, tn_7, ln_7, ob_8, tn_9, ln_9, tn_10, ln_10, tn_11, ln_11, tn_12, ln_12, tn_13, ln_13, tn_14, ln_14, tn_15, ln_15, tn_16, ln_16, tn_17, ln_17, ob_18, tn_19, ln_19, tn_20, ln_20, tn_21, ln_21, tn_22, ln_22, tn_23, ln_23, tn_24, ln_24, tn_25, ln_25, tn_26, ln_26, tn_27, ln_27, ob_28, tn_29, ln_29, tn_30, ln_30, ob_31, tn_32, ln_32, tn_33, ln_33, ob_34, ob_35, tn_36, ln_36, tn_37, ln_37, tn_38, ln_38, ob_39, tn_40, ln_40, tn_41, ln_41, tn_42, ln_42, tn_43, ln_43, tn_44, ln_44, tn_45, ln_45, tn_46, ln_46, tn_47, ln_47, tn_48, ln_48, tn_49, ln_49, tn_50, ln_50, tn_51, ln_51, ob_52, tn_53, ln_53, tn_54, ln_54, tn_55, ln_55, tn_56, ln_56, ob_57, tn_58, ln_58, tn_59, ln_59, tn_60, ln_60, tn_61, ln_61, tn_62, ln_62, tn_63, ln_63, tn_64, ln_64, tn_65, ln_65, ob_66, tn_67, ln_67, tn_68, ln_68, tn_69, ln_69, tn_70, ln_70, tn_71, ln_71, tn_72, ln_72, tn_73, ln_73, ob_74, tn_75, ln_75, tn_76, ln_76, tn_77, ln_77, tn_78, ln_78, tn_79, ln_79, tn_80, ln_80, tn_81, ln_81, tn_82, ln_82, tn_83, ln_83, ob_84, tn_85, ln_85, tn_86, ln_86, tn_87, ln_87, tn_88, ln_88, tn_89, ln_89, tn_90, ln_90, tn_91, ln_91, tn_92, ln_92, tn_93, ln_93, ob_94, tn_95, ln_95, tn_96, ln_96, tn_97, ln_97, tn_98, ln_98, tn_99, ln_99, tn_100, ln_100, tn_101, ln_101, tn_102, ln_102, tn_103, ln_103, ob_104, tn_105, ln_105, tn_106, ln_106, tn_107, ln_107, tn_108, ln_108, tn_109, ln_109, tn_110, ln_110, tn_111, ln_111, tn_112, ln_112, tn_113, ln_113, ob_114, tn_115, ln_115, tn_116, ln_116, tn_117, ln_117, tn_118, ln_118, tn_119, ln_119, tn_120, ln_120, tn_121, ln_121, tn_122, ln_122, tn_123, ln_123, ob_124, tn_125, ln_125, tn_126, ln_126, tn_127, ln_127, tn_128, ln_128, tn_129, ln_129, tn_130, ln_130, tn_131, ln_131, tn_132, ln_132, tn_133, ln_133, ob_134, tn_135, ln_135, tn_136, ln_136, tn_137, ln_137, tn_138, ln_138, tn_139, ln_139, tn_140, ln_140, tn_141, ln_141, tn_142, ln_142, tn_143, ln_143, ob_144, tn_145, ln_145, tn_146, ln_146, tn_147, ln_147, tn_148, ln_148, tn_149, ln_149, tn_150, ln_150, tn_151, ln_151, tn_152, ln_152, tn_153, ln_153, ob_154, tn_155, ln_155, tn_156, ln_156, tn_157, ln_157, tn_158, ln_158, tn_159, ln_159, tn_160, ln_160, tn_161, ln_161, tn_162, ln_162, tn_163, ln_163, ob_164, tn_165, ln_165, tn_166, ln_166, ob_167, tn_168, ln_168, tn_169, ln_169, tn_170, ln_170, tn_171, ln_171, tn_172, ln_172, tn_173, ln_173, tn_174, ln_174, tn_175, ln_175, tn_176, ln_176, ob_177, tn_178, ln_178, tn_179, ln_179, ob_180, tn_181, ln_181, tn_182, ln_182, tn_183, ln_183, tn_184, ln_184, tn_185, ln_185, tn_186, ln_186, tn_187, ln_187, tn_188, ln_188, tn_189, ln_189, tn_190, ln_190, tn_191, ln_191, tn_192, ln_192, tn_193, ln_193, tn_194, ln_194, tn_195, ln_195, tn_196, ln_196, tn_197, ln_197, tn_198, ln_198, tn_199, ln_199, tn_200, ln_200, tn_201, ln_201, tn_202, ln_202, tn_203, ln_203, tn_204, ln_204, tn_205, ln_205, tn_206, ln_206, tn_207, ln_207, tn_208, ln_208, tn_209, ln_209, tn_210, ln_210, tn_211, ln_211, tn_212, ln_212, tn_213, ln_213, tn_214, ln_214, tn_215, ln_215, tn_216, ln_216, tn_217, ln_217, tn_218, ln_218, tn_219, ln_219, tn_220, ln_220, tn_221, ln_221, tn_222, ln_222, tn_223, ln_223, tn_224, ln_224, tn_225, ln_225, tn_226, ln_226, tn_227, ln_227, tn_228, ln_228, tn_229, ln_229, tn_230, ln_230, lx2, lx3, lx4, lx5, lx6, lx7, lx8, lx9, lx10, lx14, lx15, lx16, lx18, lx20, lx24, lx25, lx27, lx32, lx36, lx40, lx41, lx42, lx43, lx45, lx48, lx52, lx54, lx56, lx57, lx58, lx60, lx61, lx62, lx63, lx64, lx66, lx69, lx73, lx80, lx81, lx84, lx85, lx87, lx94, lx96, lx97, lx120, lx128, lx135, lx160, lx162, lx163, lx165, lx200, lx232, lx242, lx243, lx255, lx256, lx320, lx325, lx400, lx405, lx464, lx512, lx600, lx640, lx752, lx900, lx940, lx1000, lx1024, lx1764, lx3360, lx3840, lx5000, lx6400, lx9050, lx9998, lx9999, lx10000, lx25600, lx76800, lx99999, si_ne, si_eq, sl_ne, sl_eq, xl_si, xi_sl, sA_ne, sA_eq, xl_sA]
    have f99 : ∀ C n' o4 o6 o7 o8 o9, bkG A C P v R n n' s p r → csS 54 (fun m => R m ∨ bkL v s p r m) n' C → k_X10_back_99 P (xE (bk139 A P)) [some (.ref 52), some (.int (nI s)), some (.int (nI p)), some (.int (nI r)), o4, some (.int (nI ((r * 5 + 4) * 2))), o6, o7, o8, o9, none, none] [] C := fun C n' o4 o6 o7 o8 o9 gC hSC => by
      have hC2 := gC.2.2.2.2.1
      obtain ⟨hT2, -⟩ := ct_T hC2
      have ix : ∀ u, xst [some (.ref 52), some (.int (nI s)), some (.int (nI p)), some (.int (nI r)), o4, some (.int (nI ((r * 5 + 4) * 2))), o6, o7, o8, o9, none, none] 6 (.int u) = [some (.ref 52), some (.int (nI s)), some (.int (nI p)), some (.int (nI r)), o4, some (.int (nI ((r * 5 + 4) * 2))), some (.int u), o7, o8, o9, none, none] := fun u => rfl
      have goo : ∀ D n2, bkG A D P v R n n2 s p r → csS 54 (fun m => R m ∨ (bkL v s p r m ∨ bkR v s p r m)) n2 D → xE (bk139 A P) [some (.ref 52), some (.int (nI s)), some (.int (nI p)), some (.int (nI r)), o4, some (.int (nI ((r * 5 + 4) * 2))), some (.int 0), o7, o8, o9, none, none] [] D := fun D n2 gD hD => by
        refine xE0 (4 - 0, 0, 0) ⟨v, R, n, n2, s, p, r, 0, _, _, _, _, _, _, _, gD, by omega, csS_congr hD fun m _ => ?_, rfl, rfl, rfl⟩
        refine or_congr Iff.rfl ⟨Or.inl, fun w => w.elim id ?_⟩
        rintro ⟨-, -, w, -, -, -, -, w2 | ⟨-, w2⟩⟩
        · exact absurd w2 (Nat.not_lt_zero _)
        · exact absurd w2 (Nat.not_lt_zero _)
      simp (disch := omega) only [k_X10_back_0, k_X10_back_139, k_X10_back_191, k_X10_back_36, k_X10_back_54, k_X10_back_99, k_X10_back_136, k_X10_back_270, k_X10_back_276, w_RIJIJJ, w_RIJJ, x_aload, x_iadd, x_icmp_eq, x_icmp_ge, x_icmp_gt, x_icmp_ne, x_if_eq, x_iinc, x_iload, x_imul, x_istore, x_isub, x_lcmp, x_lload, x_lor, x_lshl, x_lstore, x_push, x_vret, y_cv3, y_cv5, y_getF, y_lald, xFT, xbool0, xbool1, Nat.reduceAdd, Nat.zero_add, xgl_0, xgl_s, xgl_n, xst_0, xst_1n, xst_1i, xst_1r, xst_1l, xst_s, set_0, set_s, true_and, and_true, xres, xcat_nil, xcat_i, xcat_r, xcat_l, Nat.add_zero, xble0, xble1, xble2, xble3, xble4, xble5, xble6, xble7, xble8, pk_mul, nI_add, nI_1, nI_leI, nI_ltI, nI_eq, n_in, n_cl, z_eq, z_lt, z_le, z_gt, z_ge, z_qe, o_eq, o_lt, o_le, o_gt, o_ge, vp0, vp1, cl0, cl1, n_sub, n_sub1, n_pm1, n_a0, n_0a, ofn, lN0, Nat.reduceLT, Nat.reduceLeDiff, Nat.reduceMul, Nat.reduceSub, Nat.reduceEqDiff, ne_eq, true_implies, false_implies, not_true_eq_false, not_false_eq_true, and_self, and_true, true_and, and_false, false_and, implies_true, if_true, if_false, i00, i10, i01, i11, ob_0, ob_1, tn_2, ln_2, ob_3, tn_4, ln_4, ob_5, tn_6, ln_6, tn_7, ln_7, ob_8, tn_9, ln_9, tn_10, ln_10, tn_11, ln_11, tn_12, ln_12, tn_13, ln_13, tn_14, ln_14, tn_15, ln_15, tn_16, ln_16, tn_17, ln_17, ob_18, tn_19, ln_19, tn_20, ln_20, tn_21, ln_21, tn_22, ln_22, tn_23, ln_23, tn_24, ln_24, tn_25, ln_25, tn_26, ln_26, tn_27, ln_27, ob_28, tn_29, ln_29, tn_30, ln_30, ob_31, tn_32, ln_32, tn_33, ln_33, ob_34, ob_35, tn_36, ln_36, tn_37, ln_37, tn_38, ln_38, ob_39, tn_40, ln_40, tn_41, ln_41, tn_42, ln_42, tn_43, ln_43, tn_44, ln_44, tn_45, ln_45, tn_46, ln_46, tn_47, ln_47, tn_48, ln_48, tn_49, ln_49, tn_50, ln_50, tn_51, ln_51, ob_52, tn_53, ln_53, tn_54, ln_54, tn_55, ln_55, tn_56, ln_56, ob_57, tn_58, ln_58, tn_59, ln_59, tn_60, ln_60, tn_61, ln_61, tn_62, ln_62, tn_63, ln_63, tn_64, ln_64, tn_65, ln_65, ob_66, tn_67, ln_67, tn_68, ln_68, tn_69, ln_69, tn_70, ln_70, tn_71, ln_71, tn_72, ln_72, tn_73, ln_73, ob_74, tn_75, ln_75, tn_76, ln_76, tn_77, ln_77, tn_78, ln_78, tn_79, ln_79, tn_80, ln_80, tn_81, ln_81, tn_82, ln_82, tn_83, ln_83, ob_84, tn_85, ln_85, tn_86, ln_86, tn_87, ln_87, tn_88, ln_88, tn_89, ln_89, tn_90, ln_90, tn_91, ln_91, tn_92, ln_92, tn_93, ln_93, ob_94, tn_95, ln_95, tn_96, ln_96, tn_97, ln_97, tn_98, ln_98, tn_99, ln_99, tn_100, ln_100, tn_101, ln_101, tn_102, ln_102, tn_103, ln_103, ob_104, tn_105, ln_105, tn_106, ln_106, tn_107, ln_107, tn_108, ln_108, tn_109, ln_109, tn_110, ln_110, tn_111, ln_111, tn_112, ln_112, tn_113, ln_113, ob_114, tn_115, ln_115, tn_116, ln_116, tn_117, ln_117, tn_118, ln_118, tn_119, ln_119, tn_120, ln_120, tn_121, ln_121, tn_122, ln_122, tn_123, ln_123, ob_124, tn_125, ln_125, tn_126, ln_126, tn_127, ln_127, tn_128, ln_128, tn_129, ln_129, tn_130, ln_130, tn_131, ln_131, tn_132, ln_132, tn_133, ln_133, ob_134, tn_135, ln_135, tn_136, ln_136, tn_137, ln_137, tn_138, ln_138, tn_139, ln_139, tn_140, ln_140, tn_141, ln_141, tn_142, ln_142, tn_143, ln_143, ob_144, tn_145, ln_145, tn_146, ln_146, tn_147, ln_147, tn_148, ln_148, tn_149, ln_149, tn_150, ln_150, tn_151, ln_151, tn_152, ln_152, tn_153, ln_153, ob_154, tn_155, ln_155, tn_156, ln_156, tn_157, ln_157, tn_158, ln_158, tn_159, ln_159, tn_160, ln_160, tn_161, ln_161, tn_162, ln_162, tn_163, ln_163, ob_164, tn_165, ln_165, tn_166, ln_166, ob_167, tn_168, ln_168, tn_169, ln_169, tn_170, ln_170, tn_171, ln_171, tn_172, ln_172, tn_173, ln_173, tn_174, ln_174, tn_175, ln_175, tn_176, ln_176, ob_177, tn_178, ln_178, tn_179, ln_179, ob_180, tn_181, ln_181, tn_182, ln_182, tn_183, ln_183, tn_184, ln_184, tn_185, ln_185, tn_186, ln_186, tn_187, ln_187, tn_188, ln_188, tn_189, ln_189, tn_190, ln_190, tn_191, ln_191, tn_192, ln_192, tn_193, ln_193, tn_194, ln_194, tn_195, ln_195, tn_196, ln_196, tn_197, ln_197, tn_198, ln_198, tn_199, ln_199, tn_200, ln_200, tn_201, ln_201, tn_202, ln_202, tn_203, ln_203, tn_204, ln_204, tn_205, ln_205, tn_206, ln_206, tn_207, ln_207, tn_208, ln_208, tn_209, ln_209, tn_210, ln_210, tn_211, ln_211, tn_212, ln_212, tn_213, ln_213, tn_214, ln_214, tn_215, ln_215, tn_216, ln_216, tn_217, ln_217, tn_218, ln_218, tn_219, ln_219, tn_220, ln_220, tn_221, ln_221, tn_222, ln_222, tn_223, ln_223, tn_224, ln_224, tn_225, ln_225, tn_226, ln_226, tn_227, ln_227, tn_228, ln_228, tn_229, ln_229, tn_230, ln_230, lx2, lx3, lx4, lx5, lx6, lx7, lx8, lx9, lx10, lx14, lx15, lx16, lx18, lx20, lx24, lx25, lx27, lx32, lx36, lx40, lx41, lx42, lx43, lx45, lx48, lx52, lx54, lx56, lx57, lx58, lx60, lx61, lx62, lx63, lx64, lx66, lx69, lx73, lx80, lx81, lx84, lx85, lx87, lx94, lx96, lx97, lx120, lx128, lx135, lx160, lx162, lx163, lx165, lx200, lx232, lx242, lx243, lx255, lx256, lx320, lx325, lx400, lx405, lx464, lx512, lx600, lx640, lx752, lx900, lx940, lx1000, lx1024, lx1764, lx3360, lx3840, lx5000, lx6400, lx9050, lx9998, lx9999, lx10000, lx25600, lx76800, lx99999, si_ne, si_eq, sl_ne, sl_eq, xl_si, xi_sl, sA_ne, sA_eq, xl_sA, ix]
      refine ⟨fun s2 => goo C n' gC (csS_congr hSC fun m _ => or_congr Iff.rfl ⟨Or.inl, fun w => w.elim id fun w => absurd s2 w.1⟩), fun s2 => ⟨by omega, by omega, suspectRow_C (v := v) (by omega) hSC gC.2.2.2.2.2.1 fun D n2 hD h1 h2 h3 => ?_⟩⟩
      simp (disch := omega) only [k_X10_back_0, k_X10_back_139, k_X10_back_191, k_X10_back_36, k_X10_back_54, k_X10_back_99, k_X10_back_136, k_X10_back_270, k_X10_back_276, w_RIJIJJ, w_RIJJ, x_aload, x_iadd, x_icmp_eq, x_icmp_ge, x_icmp_gt, x_icmp_ne, x_if_eq, x_iinc, x_iload, x_imul, x_istore, x_isub, x_lcmp, x_lload, x_lor, x_lshl, x_lstore, x_push, x_vret, y_cv3, y_cv5, y_getF, y_lald, xFT, xbool0, xbool1, Nat.reduceAdd, Nat.zero_add, xgl_0, xgl_s, xgl_n, xst_0, xst_1n, xst_1i, xst_1r, xst_1l, xst_s, set_0, set_s, true_and, and_true, xres, xcat_nil, xcat_i, xcat_r, xcat_l, Nat.add_zero, xble0, xble1, xble2, xble3, xble4, xble5, xble6, xble7, xble8, pk_mul, nI_add, nI_1, nI_leI, nI_ltI, nI_eq, n_in, n_cl, z_eq, z_lt, z_le, z_gt, z_ge, z_qe, o_eq, o_lt, o_le, o_gt, o_ge, vp0, vp1, cl0, cl1, n_sub, n_sub1, n_pm1, n_a0, n_0a, ofn, lN0, Nat.reduceLT, Nat.reduceLeDiff, Nat.reduceMul, Nat.reduceSub, Nat.reduceEqDiff, ne_eq, true_implies, false_implies, not_true_eq_false, not_false_eq_true, and_self, and_true, true_and, and_false, false_and, implies_true, if_true, if_false, i00, i10, i01, i11, ob_0, ob_1, tn_2, ln_2, ob_3, tn_4, ln_4, ob_5, tn_6, ln_6, tn_7, ln_7, ob_8, tn_9, ln_9, tn_10, ln_10, tn_11, ln_11, tn_12, ln_12, tn_13, ln_13, tn_14, ln_14, tn_15, ln_15, tn_16, ln_16, tn_17, ln_17, ob_18, tn_19, ln_19, tn_20, ln_20, tn_21, ln_21, tn_22, ln_22, tn_23, ln_23, tn_24, ln_24, tn_25, ln_25, tn_26, ln_26, tn_27, ln_27, ob_28, tn_29, ln_29, tn_30, ln_30, ob_31, tn_32, ln_32, tn_33, ln_33, ob_34, ob_35, tn_36, ln_36, tn_37, ln_37, tn_38, ln_38, ob_39, tn_40, ln_40, tn_41, ln_41, tn_42, ln_42, tn_43, ln_43, tn_44, ln_44, tn_45, ln_45, tn_46, ln_46, tn_47, ln_47, tn_48, ln_48, tn_49, ln_49, tn_50, ln_50, tn_51, ln_51, ob_52, tn_53, ln_53, tn_54, ln_54, tn_55, ln_55, tn_56, ln_56, ob_57, tn_58, ln_58, tn_59, ln_59, tn_60, ln_60, tn_61, ln_61, tn_62, ln_62, tn_63, ln_63, tn_64, ln_64, tn_65, ln_65, ob_66, tn_67, ln_67, tn_68, ln_68, tn_69, ln_69, tn_70, ln_70, tn_71, ln_71, tn_72, ln_72, tn_73, ln_73, ob_74, tn_75, ln_75, tn_76, ln_76, tn_77, ln_77, tn_78, ln_78, tn_79, ln_79, tn_80, ln_80, tn_81, ln_81, tn_82, ln_82, tn_83, ln_83, ob_84, tn_85, ln_85, tn_86, ln_86, tn_87, ln_87, tn_88, ln_88, tn_89, ln_89, tn_90, ln_90, tn_91, ln_91, tn_92, ln_92, tn_93, ln_93, ob_94, tn_95, ln_95, tn_96, ln_96, tn_97, ln_97, tn_98, ln_98, tn_99, ln_99, tn_100, ln_100, tn_101, ln_101, tn_102, ln_102, tn_103, ln_103, ob_104, tn_105, ln_105, tn_106, ln_106, tn_107, ln_107, tn_108, ln_108, tn_109, ln_109, tn_110, ln_110, tn_111, ln_111, tn_112, ln_112, tn_113, ln_113, ob_114, tn_115, ln_115, tn_116, ln_116, tn_117, ln_117, tn_118, ln_118, tn_119, ln_119, tn_120, ln_120, tn_121, ln_121, tn_122, ln_122, tn_123, ln_123, ob_124, tn_125, ln_125, tn_126, ln_126, tn_127, ln_127, tn_128, ln_128, tn_129, ln_129, tn_130, ln_130, tn_131, ln_131, tn_132, ln_132, tn_133, ln_133, ob_134, tn_135, ln_135, tn_136, ln_136, tn_137, ln_137, tn_138, ln_138, tn_139, ln_139, tn_140, ln_140, tn_141, ln_141, tn_142, ln_142, tn_143, ln_143, ob_144, tn_145, ln_145, tn_146, ln_146, tn_147, ln_147, tn_148, ln_148, tn_149, ln_149, tn_150, ln_150, tn_151, ln_151, tn_152, ln_152, tn_153, ln_153, ob_154, tn_155, ln_155, tn_156, ln_156, tn_157, ln_157, tn_158, ln_158, tn_159, ln_159, tn_160, ln_160, tn_161, ln_161, tn_162, ln_162, tn_163, ln_163, ob_164, tn_165, ln_165, tn_166, ln_166, ob_167, tn_168, ln_168, tn_169, ln_169, tn_170, ln_170, tn_171, ln_171, tn_172, ln_172, tn_173, ln_173, tn_174, ln_174, tn_175, ln_175, tn_176, ln_176, ob_177, tn_178, ln_178, tn_179, ln_179, ob_180, tn_181, ln_181, tn_182, ln_182, tn_183, ln_183, tn_184, ln_184, tn_185, ln_185, tn_186, ln_186, tn_187, ln_187, tn_188, ln_188, tn_189, ln_189, tn_190, ln_190, tn_191, ln_191, tn_192, ln_192, tn_193, ln_193, tn_194, ln_194, tn_195, ln_195, tn_196, ln_196, tn_197, ln_197, tn_198, ln_198, tn_199, ln_199, tn_200, ln_200, tn_201, ln_201, tn_202, ln_202, tn_203, ln_203, tn_204, ln_204, tn_205, ln_205, tn_206, ln_206, tn_207, ln_207, tn_208, ln_208, tn_209, ln_209, tn_210, ln_210, tn_211, ln_211, tn_212, ln_212, tn_213, ln_213, tn_214, ln_214, tn_215, ln_215, tn_216, ln_216, tn_217, ln_217, tn_218, ln_218, tn_219, ln_219, tn_220, ln_220, tn_221, ln_221, tn_222, ln_222, tn_223, ln_223, tn_224, ln_224, tn_225, ln_225, tn_226, ln_226, tn_227, ln_227, tn_228, ln_228, tn_229, ln_229, tn_230, ln_230, lx2, lx3, lx4, lx5, lx6, lx7, lx8, lx9, lx10, lx14, lx15, lx16, lx18, lx20, lx24, lx25, lx27, lx32, lx36, lx40, lx41, lx42, lx43, lx45, lx48, lx52, lx54, lx56, lx57, lx58, lx60, lx61, lx62, lx63, lx64, lx66, lx69, lx73, lx80, lx81, lx84, lx85, lx87, lx94, lx96, lx97, lx120, lx128, lx135, lx160, lx162, lx163, lx165, lx200, lx232, lx242, lx243, lx255, lx256, lx320, lx325, lx400, lx405, lx464, lx512, lx600, lx640, lx752, lx900, lx940, lx1000, lx1024, lx1764, lx3360, lx3840, lx5000, lx6400, lx9050, lx9998, lx9999, lx10000, lx25600, lx76800, lx99999, si_ne, si_eq, sl_ne, sl_eq, xl_si, xi_sl, sA_ne, sA_eq, xl_sA, ix]
      refine goo D n2 (bkG_fr gC hD h1 h2) (csS_congr h3 fun m hm => ?_)
      have hm := Nat.mod_lt m (show 80 > 0 by omega)
      have e0 : m / 6400 = m / 80 / 80 := (Nat.div_div_eq_div_mul m 80 80).symm
      dsimp only
      rw [or_assoc, hq_F4 hT2 hr (show m % 80 < 128 by omega)]
      refine or_congr Iff.rfl (or_congr Iff.rfl ?_)
      unfold bkR
      constructor
      · rintro ⟨a, b, c⟩; exact ⟨s2, by omega, by omega, b, c⟩
      · rintro ⟨-, a, b, c, d⟩; exact ⟨by omega, c, d⟩
    have f54 : ∀ lo hi, (∀ x, x < 128 → (hq lo hi x = true ↔ x = r)) → s ≠ 3 → k_X10_back_54 P (xE (bk139 A P)) [some (.ref 52), some (.int (nI s)), some (.int (nI p)), some (.int (nI r)), some (.int (nI ((p * 5 + 4) * 2))), some (.int (nI ((r * 5 + 4) * 2))), some (.long lo), none, none, none, none, none] [.long hi] A := fun lo hi hx s3 => by
      simp (disch := omega) only [k_X10_back_0, k_X10_back_139, k_X10_back_191, k_X10_back_36, k_X10_back_54, k_X10_back_136, k_X10_back_270, k_X10_back_276, w_RIJIJJ, w_RIJJ, x_aload, x_iadd, x_icmp_eq, x_icmp_ge, x_icmp_gt, x_icmp_ne, x_if_eq, x_iinc, x_iload, x_imul, x_istore, x_isub, x_lcmp, x_lload, x_lor, x_lshl, x_lstore, x_push, x_vret, y_cv3, y_cv5, y_getF, y_lald, xFT, xbool0, xbool1, Nat.reduceAdd, Nat.zero_add, xgl_0, xgl_s, xgl_n, xst_0, xst_1n, xst_1i, xst_1r, xst_1l, xst_s, set_0, set_s, true_and, and_true, xres, xcat_nil, xcat_i, xcat_r, xcat_l, Nat.add_zero, xble0, xble1, xble2, xble3, xble4, xble5, xble6, xble7, xble8, pk_mul, nI_add, nI_1, nI_leI, nI_ltI, nI_eq, n_in, n_cl, z_eq, z_lt, z_le, z_gt, z_ge, z_qe, o_eq, o_lt, o_le, o_gt, o_ge, vp0, vp1, cl0, cl1, n_sub, n_sub1, n_pm1, n_a0, n_0a, ofn, lN0, Nat.reduceLT, Nat.reduceLeDiff, Nat.reduceMul, Nat.reduceSub, Nat.reduceEqDiff, ne_eq, true_implies, false_implies, not_true_eq_false, not_false_eq_true, and_self, and_true, true_and, and_false, false_and, implies_true, if_true, if_false, i00, i10, i01, i11, ob_0, ob_1, tn_2, ln_2, ob_3, tn_4, ln_4, ob_5, tn_6, ln_6, tn_7, ln_7, ob_8, tn_9, ln_9, tn_10, ln_10, tn_11, ln_11, tn_12, ln_12, tn_13, ln_13, tn_14, ln_14, tn_15, ln_15, tn_16, ln_16, tn_17, ln_17, ob_18, tn_19, ln_19, tn_20, ln_20, tn_21, ln_21, tn_22, ln_22, tn_23, ln_23, tn_24, ln_24, tn_25, ln_25, tn_26, ln_26, tn_27, ln_27, ob_28, tn_29, ln_29, tn_30, ln_30, ob_31, tn_32, ln_32, tn_33, ln_33, ob_34, ob_35, tn_36, ln_36, tn_37, ln_37, tn_38, ln_38, ob_39, tn_40, ln_40, tn_41, ln_41, tn_42, ln_42, tn_43, ln_43, tn_44, ln_44, tn_45, ln_45, tn_46, ln_46, tn_47, ln_47, tn_48, ln_48, tn_49, ln_49, tn_50, ln_50, tn_51, ln_51, ob_52, tn_53, ln_53, tn_54, ln_54, tn_55, ln_55, tn_56, ln_56, ob_57, tn_58, ln_58, tn_59, ln_59, tn_60, ln_60, tn_61, ln_61, tn_62, ln_62, tn_63, ln_63, tn_64, ln_64, tn_65, ln_65, ob_66, tn_67, ln_67, tn_68, ln_68, tn_69, ln_69, tn_70, ln_70, tn_71, ln_71, tn_72, ln_72, tn_73, ln_73, ob_74, tn_75, ln_75, tn_76, ln_76, tn_77, ln_77, tn_78, ln_78, tn_79, ln_79, tn_80, ln_80, tn_81, ln_81, tn_82, ln_82, tn_83, ln_83, ob_84, tn_85, ln_85, tn_86, ln_86, tn_87, ln_87, tn_88, ln_88, tn_89, ln_89, tn_90, ln_90, tn_91, ln_91, tn_92, ln_92, tn_93, ln_93, ob_94, tn_95, ln_95, tn_96, ln_96, tn_97, ln_97, tn_98, ln_98, tn_99, ln_99, tn_100, ln_100, tn_101, ln_101, tn_102, ln_102, tn_103, ln_103, ob_104, tn_105, ln_105, tn_106, ln_106, tn_107, ln_107, tn_108, ln_108, tn_109, ln_109, tn_110, ln_110, tn_111, ln_111, tn_112, ln_112, tn_113, ln_113, ob_114, tn_115, ln_115, tn_116, ln_116, tn_117, ln_117, tn_118, ln_118, tn_119, ln_119, tn_120, ln_120, tn_121, ln_121, tn_122, ln_122, tn_123, ln_123, ob_124, tn_125, ln_125, tn_126, ln_126, tn_127, ln_127, tn_128, ln_128, tn_129, ln_129, tn_130, ln_130, tn_131, ln_131, tn_132, ln_132, tn_133, ln_133, ob_134, tn_135, ln_135, tn_136, ln_136, tn_137, ln_137, tn_138, ln_138, tn_139, ln_139, tn_140, ln_140, tn_141, ln_141, tn_142, ln_142, tn_143, ln_143, ob_144, tn_145, ln_145, tn_146, ln_146, tn_147, ln_147, tn_148, ln_148, tn_149, ln_149, tn_150, ln_150, tn_151, ln_151, tn_152, ln_152, tn_153, ln_153, ob_154, tn_155, ln_155, tn_156, ln_156, tn_157, ln_157, tn_158, ln_158, tn_159, ln_159, tn_160, ln_160, tn_161, ln_161, tn_162, ln_162, tn_163, ln_163, ob_164, tn_165, ln_165, tn_166, ln_166, ob_167, tn_168, ln_168, tn_169, ln_169, tn_170, ln_170, tn_171, ln_171, tn_172, ln_172, tn_173, ln_173, tn_174, ln_174, tn_175, ln_175, tn_176, ln_176, ob_177, tn_178, ln_178, tn_179, ln_179, ob_180, tn_181, ln_181, tn_182, ln_182, tn_183, ln_183, tn_184, ln_184, tn_185, ln_185, tn_186, ln_186, tn_187, ln_187, tn_188, ln_188, tn_189, ln_189, tn_190, ln_190, tn_191, ln_191, tn_192, ln_192, tn_193, ln_193, tn_194, ln_194, tn_195, ln_195, tn_196, ln_196, tn_197, ln_197, tn_198, ln_198, tn_199, ln_199, tn_200, ln_200, tn_201, ln_201, tn_202, ln_202, tn_203, ln_203, tn_204, ln_204, tn_205, ln_205, tn_206, ln_206, tn_207, ln_207, tn_208, ln_208, tn_209, ln_209, tn_210, ln_210, tn_211, ln_211, tn_212, ln_212, tn_213, ln_213, tn_214, ln_214, tn_215, ln_215, tn_216, ln_216, tn_217, ln_217, tn_218, ln_218, tn_219, ln_219, tn_220, ln_220, tn_221, ln_221, tn_222, ln_222, tn_223, ln_223, tn_224, ln_224, tn_225, ln_225, tn_226, ln_226, tn_227, ln_227, tn_228, ln_228, tn_229, ln_229, tn_230, ln_230, lx2, lx3, lx4, lx5, lx6, lx7, lx8, lx9, lx10, lx14, lx15, lx16, lx18, lx20, lx24, lx25, lx27, lx32, lx36, lx40, lx41, lx42, lx43, lx45, lx48, lx52, lx54, lx56, lx57, lx58, lx60, lx61, lx62, lx63, lx64, lx66, lx69, lx73, lx80, lx81, lx84, lx85, lx87, lx94, lx96, lx97, lx120, lx128, lx135, lx160, lx162, lx163, lx165, lx200, lx232, lx242, lx243, lx255, lx256, lx320, lx325, lx400, lx405, lx464, lx512, lx600, lx640, lx752, lx900, lx940, lx1000, lx1024, lx1764, lx3360, lx3840, lx5000, lx6400, lx9050, lx9998, lx9999, lx10000, lx25600, lx76800, lx99999, si_ne, si_eq, sl_ne, sl_eq, xl_si, xi_sl, sA_ne, sA_eq, xl_sA]
      refine ⟨by omega, rfl, v, _, n, s, 0, rfl, hs, rfl, by omega, hS, hB, fun j hj _ => by omega, fun C n1 hC1 hn1 hp1 hS1 => ?_⟩
      simp (disch := omega) only [k_X10_back_0, k_X10_back_139, k_X10_back_191, k_X10_back_36, k_X10_back_54, k_X10_back_136, k_X10_back_270, k_X10_back_276, w_RIJIJJ, w_RIJJ, x_aload, x_iadd, x_icmp_eq, x_icmp_ge, x_icmp_gt, x_icmp_ne, x_if_eq, x_iinc, x_iload, x_imul, x_istore, x_isub, x_lcmp, x_lload, x_lor, x_lshl, x_lstore, x_push, x_vret, y_cv3, y_cv5, y_getF, y_lald, xFT, xbool0, xbool1, Nat.reduceAdd, Nat.zero_add, xgl_0, xgl_s, xgl_n, xst_0, xst_1n, xst_1i, xst_1r, xst_1l, xst_s, set_0, set_s, true_and, and_true, xres, xcat_nil, xcat_i, xcat_r, xcat_l, Nat.add_zero, xble0, xble1, xble2, xble3, xble4, xble5, xble6, xble7, xble8, pk_mul, nI_add, nI_1, nI_leI, nI_ltI, nI_eq, n_in, n_cl, z_eq, z_lt, z_le, z_gt, z_ge, z_qe, o_eq, o_lt, o_le, o_gt, o_ge, vp0, vp1, cl0, cl1, n_sub, n_sub1, n_pm1, n_a0, n_0a, ofn, lN0, Nat.reduceLT, Nat.reduceLeDiff, Nat.reduceMul, Nat.reduceSub, Nat.reduceEqDiff, ne_eq, true_implies, false_implies, not_true_eq_false, not_false_eq_true, and_self, and_true, true_and, and_false, false_and, implies_true, if_true, if_false, i00, i10, i01, i11, ob_0, ob_1, tn_2, ln_2, ob_3, tn_4, ln_4, ob_5, tn_6, ln_6, tn_7, ln_7, ob_8, tn_9, ln_9, tn_10, ln_10, tn_11, ln_11, tn_12, ln_12, tn_13, ln_13, tn_14, ln_14, tn_15, ln_15, tn_16, ln_16, tn_17, ln_17, ob_18, tn_19, ln_19, tn_20, ln_20, tn_21, ln_21, tn_22, ln_22, tn_23, ln_23, tn_24, ln_24, tn_25, ln_25, tn_26, ln_26, tn_27, ln_27, ob_28, tn_29, ln_29, tn_30, ln_30, ob_31, tn_32, ln_32, tn_33, ln_33, ob_34, ob_35, tn_36, ln_36, tn_37, ln_37, tn_38, ln_38, ob_39, tn_40, ln_40, tn_41, ln_41, tn_42, ln_42, tn_43, ln_43, tn_44, ln_44, tn_45, ln_45, tn_46, ln_46, tn_47, ln_47, tn_48, ln_48, tn_49, ln_49, tn_50, ln_50, tn_51, ln_51, ob_52, tn_53, ln_53, tn_54, ln_54, tn_55, ln_55, tn_56, ln_56, ob_57, tn_58, ln_58, tn_59, ln_59, tn_60, ln_60, tn_61, ln_61, tn_62, ln_62, tn_63, ln_63, tn_64, ln_64, tn_65, ln_65, ob_66, tn_67, ln_67, tn_68, ln_68, tn_69, ln_69, tn_70, ln_70, tn_71, ln_71, tn_72, ln_72, tn_73, ln_73, ob_74, tn_75, ln_75, tn_76, ln_76, tn_77, ln_77, tn_78, ln_78, tn_79, ln_79, tn_80, ln_80, tn_81, ln_81, tn_82, ln_82, tn_83, ln_83, ob_84, tn_85, ln_85, tn_86, ln_86, tn_87, ln_87, tn_88, ln_88, tn_89, ln_89, tn_90, ln_90, tn_91, ln_91, tn_92, ln_92, tn_93, ln_93, ob_94, tn_95, ln_95, tn_96, ln_96, tn_97, ln_97, tn_98, ln_98, tn_99, ln_99, tn_100, ln_100, tn_101, ln_101, tn_102, ln_102, tn_103, ln_103, ob_104, tn_105, ln_105, tn_106, ln_106, tn_107, ln_107, tn_108, ln_108, tn_109, ln_109, tn_110, ln_110, tn_111, ln_111, tn_112, ln_112, tn_113, ln_113, ob_114, tn_115, ln_115, tn_116, ln_116, tn_117, ln_117, tn_118, ln_118, tn_119, ln_119, tn_120, ln_120, tn_121, ln_121, tn_122, ln_122, tn_123, ln_123, ob_124, tn_125, ln_125, tn_126, ln_126, tn_127, ln_127, tn_128, ln_128, tn_129, ln_129, tn_130, ln_130, tn_131, ln_131, tn_132, ln_132, tn_133, ln_133, ob_134, tn_135, ln_135, tn_136, ln_136, tn_137, ln_137, tn_138, ln_138, tn_139, ln_139, tn_140, ln_140, tn_141, ln_141, tn_142, ln_142, tn_143, ln_143, ob_144, tn_145, ln_145, tn_146, ln_146, tn_147, ln_147, tn_148, ln_148, tn_149, ln_149, tn_150, ln_150, tn_151, ln_151, tn_152, ln_152, tn_153, ln_153, ob_154, tn_155, ln_155, tn_156, ln_156, tn_157, ln_157, tn_158, ln_158, tn_159, ln_159, tn_160, ln_160, tn_161, ln_161, tn_162, ln_162, tn_163, ln_163, ob_164, tn_165, ln_165, tn_166, ln_166, ob_167, tn_168, ln_168, tn_169, ln_169, tn_170, ln_170, tn_171, ln_171, tn_172, ln_172, tn_173, ln_173, tn_174, ln_174, tn_175, ln_175, tn_176, ln_176, ob_177, tn_178, ln_178, tn_179, ln_179, ob_180, tn_181, ln_181, tn_182, ln_182, tn_183, ln_183, tn_184, ln_184, tn_185, ln_185, tn_186, ln_186, tn_187, ln_187, tn_188, ln_188, tn_189, ln_189, tn_190, ln_190, tn_191, ln_191, tn_192, ln_192, tn_193, ln_193, tn_194, ln_194, tn_195, ln_195, tn_196, ln_196, tn_197, ln_197, tn_198, ln_198, tn_199, ln_199, tn_200, ln_200, tn_201, ln_201, tn_202, ln_202, tn_203, ln_203, tn_204, ln_204, tn_205, ln_205, tn_206, ln_206, tn_207, ln_207, tn_208, ln_208, tn_209, ln_209, tn_210, ln_210, tn_211, ln_211, tn_212, ln_212, tn_213, ln_213, tn_214, ln_214, tn_215, ln_215, tn_216, ln_216, tn_217, ln_217, tn_218, ln_218, tn_219, ln_219, tn_220, ln_220, tn_221, ln_221, tn_222, ln_222, tn_223, ln_223, tn_224, ln_224, tn_225, ln_225, tn_226, ln_226, tn_227, ln_227, tn_228, ln_228, tn_229, ln_229, tn_230, ln_230, lx2, lx3, lx4, lx5, lx6, lx7, lx8, lx9, lx10, lx14, lx15, lx16, lx18, lx20, lx24, lx25, lx27, lx32, lx36, lx40, lx41, lx42, lx43, lx45, lx48, lx52, lx54, lx56, lx57, lx58, lx60, lx61, lx62, lx63, lx64, lx66, lx69, lx73, lx80, lx81, lx84, lx85, lx87, lx94, lx96, lx97, lx120, lx128, lx135, lx160, lx162, lx163, lx165, lx200, lx232, lx242, lx243, lx255, lx256, lx320, lx325, lx400, lx405, lx464, lx512, lx600, lx640, lx752, lx900, lx940, lx1000, lx1024, lx1764, lx3360, lx3840, lx5000, lx6400, lx9050, lx9998, lx9999, lx10000, lx25600, lx76800, lx99999, si_ne, si_eq, sl_ne, sl_eq, xl_si, xi_sl, sA_ne, sA_eq, xl_sA]
      have e43 : ∀ k, xl C 43 k = xl A 43 k := fun k => fr_l hC1 (by unfold SEn; omega)
      rw [e43]
      have gC := bkG_fr hG0 hC1 hn1 hp1
      refine ⟨by omega, rfl, v, _, n1, s, 1, rfl, hs, rfl, by omega, hS1, gC.2.2.2.2.2.1, fun j hj w => by have := pl_fr hC hp (show 4 < 5 by omega) hj w; omega, fun D n2 hD hn2 hp2 hS2 => ?_⟩
      simp (disch := omega) only [k_X10_back_0, k_X10_back_139, k_X10_back_191, k_X10_back_36, k_X10_back_54, k_X10_back_136, k_X10_back_270, k_X10_back_276, w_RIJIJJ, w_RIJJ, x_aload, x_iadd, x_icmp_eq, x_icmp_ge, x_icmp_gt, x_icmp_ne, x_if_eq, x_iinc, x_iload, x_imul, x_istore, x_isub, x_lcmp, x_lload, x_lor, x_lshl, x_lstore, x_push, x_vret, y_cv3, y_cv5, y_getF, y_lald, xFT, xbool0, xbool1, Nat.reduceAdd, Nat.zero_add, xgl_0, xgl_s, xgl_n, xst_0, xst_1n, xst_1i, xst_1r, xst_1l, xst_s, set_0, set_s, true_and, and_true, xres, xcat_nil, xcat_i, xcat_r, xcat_l, Nat.add_zero, xble0, xble1, xble2, xble3, xble4, xble5, xble6, xble7, xble8, pk_mul, nI_add, nI_1, nI_leI, nI_ltI, nI_eq, n_in, n_cl, z_eq, z_lt, z_le, z_gt, z_ge, z_qe, o_eq, o_lt, o_le, o_gt, o_ge, vp0, vp1, cl0, cl1, n_sub, n_sub1, n_pm1, n_a0, n_0a, ofn, lN0, Nat.reduceLT, Nat.reduceLeDiff, Nat.reduceMul, Nat.reduceSub, Nat.reduceEqDiff, ne_eq, true_implies, false_implies, not_true_eq_false, not_false_eq_true, and_self, and_true, true_and, and_false, false_and, implies_true, if_true, if_false, i00, i10, i01, i11, ob_0, ob_1, tn_2, ln_2, ob_3, tn_4, ln_4, ob_5, tn_6, ln_6, tn_7, ln_7, ob_8, tn_9, ln_9, tn_10, ln_10, tn_11, ln_11, tn_12, ln_12, tn_13, ln_13, tn_14, ln_14, tn_15, ln_15, tn_16, ln_16, tn_17, ln_17, ob_18, tn_19, ln_19, tn_20, ln_20, tn_21, ln_21, tn_22, ln_22, tn_23, ln_23, tn_24, ln_24, tn_25, ln_25, tn_26, ln_26, tn_27, ln_27, ob_28, tn_29, ln_29, tn_30, ln_30, ob_31, tn_32, ln_32, tn_33, ln_33, ob_34, ob_35, tn_36, ln_36, tn_37, ln_37, tn_38, ln_38, ob_39, tn_40, ln_40, tn_41, ln_41, tn_42, ln_42, tn_43, ln_43, tn_44, ln_44, tn_45, ln_45, tn_46, ln_46, tn_47, ln_47, tn_48, ln_48, tn_49, ln_49, tn_50, ln_50, tn_51, ln_51, ob_52, tn_53, ln_53, tn_54, ln_54, tn_55, ln_55, tn_56, ln_56, ob_57, tn_58, ln_58, tn_59, ln_59, tn_60, ln_60, tn_61, ln_61, tn_62, ln_62, tn_63, ln_63, tn_64, ln_64, tn_65, ln_65, ob_66, tn_67, ln_67, tn_68, ln_68, tn_69, ln_69, tn_70, ln_70, tn_71, ln_71, tn_72, ln_72, tn_73, ln_73, ob_74, tn_75, ln_75, tn_76, ln_76, tn_77, ln_77, tn_78, ln_78, tn_79, ln_79, tn_80, ln_80, tn_81, ln_81, tn_82, ln_82, tn_83, ln_83, ob_84, tn_85, ln_85, tn_86, ln_86, tn_87, ln_87, tn_88, ln_88, tn_89, ln_89, tn_90, ln_90, tn_91, ln_91, tn_92, ln_92, tn_93, ln_93, ob_94, tn_95, ln_95, tn_96, ln_96, tn_97, ln_97, tn_98, ln_98, tn_99, ln_99, tn_100, ln_100, tn_101, ln_101, tn_102, ln_102, tn_103, ln_103, ob_104, tn_105, ln_105, tn_106, ln_106, tn_107, ln_107, tn_108, ln_108, tn_109, ln_109, tn_110, ln_110, tn_111, ln_111, tn_112, ln_112, tn_113, ln_113, ob_114, tn_115, ln_115, tn_116, ln_116, tn_117, ln_117, tn_118, ln_118, tn_119, ln_119, tn_120, ln_120, tn_121, ln_121, tn_122, ln_122, tn_123, ln_123, ob_124, tn_125, ln_125, tn_126, ln_126, tn_127, ln_127, tn_128, ln_128, tn_129, ln_129, tn_130, ln_130, tn_131, ln_131, tn_132, ln_132, tn_133, ln_133, ob_134, tn_135, ln_135, tn_136, ln_136, tn_137, ln_137, tn_138, ln_138, tn_139, ln_139, tn_140, ln_140, tn_141, ln_141, tn_142, ln_142, tn_143, ln_143, ob_144, tn_145, ln_145, tn_146, ln_146, tn_147, ln_147, tn_148, ln_148, tn_149, ln_149, tn_150, ln_150, tn_151, ln_151, tn_152, ln_152, tn_153, ln_153, ob_154, tn_155, ln_155, tn_156, ln_156, tn_157, ln_157, tn_158, ln_158, tn_159, ln_159, tn_160, ln_160, tn_161, ln_161, tn_162, ln_162, tn_163, ln_163, ob_164, tn_165, ln_165, tn_166, ln_166, ob_167, tn_168, ln_168, tn_169, ln_169, tn_170, ln_170, tn_171, ln_171, tn_172, ln_172, tn_173, ln_173, tn_174, ln_174, tn_175, ln_175, tn_176, ln_176, ob_177, tn_178, ln_178, tn_179, ln_179, ob_180, tn_181, ln_181, tn_182, ln_182, tn_183, ln_183, tn_184, ln_184, tn_185, ln_185, tn_186, ln_186, tn_187, ln_187, tn_188, ln_188, tn_189, ln_189, tn_190, ln_190, tn_191, ln_191, tn_192, ln_192, tn_193, ln_193, tn_194, ln_194, tn_195, ln_195, tn_196, ln_196, tn_197, ln_197, tn_198, ln_198, tn_199, ln_199, tn_200, ln_200, tn_201, ln_201, tn_202, ln_202, tn_203, ln_203, tn_204, ln_204, tn_205, ln_205, tn_206, ln_206, tn_207, ln_207, tn_208, ln_208, tn_209, ln_209, tn_210, ln_210, tn_211, ln_211, tn_212, ln_212, tn_213, ln_213, tn_214, ln_214, tn_215, ln_215, tn_216, ln_216, tn_217, ln_217, tn_218, ln_218, tn_219, ln_219, tn_220, ln_220, tn_221, ln_221, tn_222, ln_222, tn_223, ln_223, tn_224, ln_224, tn_225, ln_225, tn_226, ln_226, tn_227, ln_227, tn_228, ln_228, tn_229, ln_229, tn_230, ln_230, lx2, lx3, lx4, lx5, lx6, lx7, lx8, lx9, lx10, lx14, lx15, lx16, lx18, lx20, lx24, lx25, lx27, lx32, lx36, lx40, lx41, lx42, lx43, lx45, lx48, lx52, lx54, lx56, lx57, lx58, lx60, lx61, lx62, lx63, lx64, lx66, lx69, lx73, lx80, lx81, lx84, lx85, lx87, lx94, lx96, lx97, lx120, lx128, lx135, lx160, lx162, lx163, lx165, lx200, lx232, lx242, lx243, lx255, lx256, lx320, lx325, lx400, lx405, lx464, lx512, lx600, lx640, lx752, lx900, lx940, lx1000, lx1024, lx1764, lx3360, lx3840, lx5000, lx6400, lx9050, lx9998, lx9999, lx10000, lx25600, lx76800, lx99999, si_ne, si_eq, sl_ne, sl_eq, xl_si, xi_sl, sA_ne, sA_eq, xl_sA]
      refine f99 D n2 _ _ _ _ _ (bkG_fr gC hD hn2 hp2) (csS_congr hS2 fun m _ => ?_)
      have hm := Nat.mod_lt m (show 80 > 0 by omega)
      have hm2 := Nat.mod_lt (m / 80) (show 80 > 0 by omega)
      have k1 := vs_2 (s := s) (m := m) (x0 := xl A 43 ((p * 5 + 4) * 2)) (x1 := xl A 43 ((p * 5 + 4) * 2 + 1)) (lo := lo) (hi := hi)
      rw [hq_F4 hT hp (show m / 80 % 80 < 128 by omega), hx _ (by omega)] at k1
      dsimp only
      rw [or_assoc, ← or_and_right, k1]
      refine or_congr Iff.rfl ?_
      unfold bkL
      constructor
      · rintro ⟨⟨a, b, c⟩, d⟩; exact ⟨s3, a, b, c, d⟩
      · rintro ⟨-, a, b, c, d⟩; exact ⟨⟨a, b, c⟩, d⟩
    refine ⟨fun s3 => f99 A n _ _ _ _ _ hG0 (csS_congr hS fun m _ => ⟨Or.inl, fun w => w.elim id fun w => absurd s3 w.1⟩), fun s3 => ⟨fun q => ⟨fun _ => ?_, fun w => absurd q w⟩, fun q => ⟨fun w => absurd w q, fun _ => ?_⟩⟩⟩
    · rw [n_sub q]
      refine f54 (lN 0) _ (fun x hx => ?_) s3
      have := hq_1 (r := r) (x := x) (by omega) hx
      rw [if_neg (by omega), if_neg (by omega)] at this
      exact this
    · refine f54 _ (lN 0) (fun x hx => ?_) s3
      have := hq_1 (r := r) (x := x) (by omega) hx
      rw [if_pos (by omega), if_pos (by omega)] at this
      exact this
  · rintro q x y z A P - μ L st B ⟨v, R, n, n', s, p, r, u, i5, o4, o7, o8, o9, o10, o11, hG, hu, hS, rfl, rfl, rfl⟩
    have hG0 := hG
    obtain ⟨hs, h0, hp, hr, hC, hB, hP, hF, hn, hpre⟩ := hG
    have h80 := hC.2
    simp (disch := omega) only [k_X10_back_0, k_X10_back_139, k_X10_back_191, k_X10_back_36, k_X10_back_54, k_X10_back_99, k_X10_back_136, k_X10_back_270, k_X10_back_276, w_RIJIJJ, w_RIJJ, x_aload, x_iadd, x_icmp_eq, x_icmp_ge, x_icmp_gt, x_icmp_ne, x_if_eq, x_iinc, x_iload, x_imul, x_istore, x_isub, x_lcmp, x_lload, x_lor, x_lshl, x_lstore, x_push, x_vret, y_cv3, y_cv5, y_getF, y_lald, xFT, xbool0, xbool1, Nat.reduceAdd, Nat.zero_add, xgl_0, xgl_s, xgl_n, xst_0, xst_1n, xst_1i, xst_1r, xst_1l, xst_s, set_0, set_s, true_and, and_true, xres, xcat_nil, xcat_i, xcat_r, xcat_l, Nat.add_zero, xble0, xble1, xble2, xble3, xble4, xble5, xble6, xble7, xble8, pk_mul, nI_add, nI_1, nI_leI, nI_ltI, nI_eq, n_in, n_cl, z_eq, z_lt, z_le, z_gt, z_ge, z_qe, o_eq, o_lt, o_le, o_gt, o_ge, vp0, vp1, cl0, cl1, n_sub, n_sub1, n_pm1, n_a0, n_0a, ofn, lN0, Nat.reduceLT, Nat.reduceLeDiff, Nat.reduceMul, Nat.reduceSub, Nat.reduceEqDiff, ne_eq, true_implies, false_implies, not_true_eq_false, not_false_eq_true, and_self, and_true, true_and, and_false, false_and, implies_true, if_true, if_false, i00, i10, i01, i11, ob_0, ob_1, tn_2, ln_2, ob_3, tn_4, ln_4, ob_5, tn_6, ln_6, tn_7, ln_7, ob_8, tn_9, ln_9, tn_10, ln_10, tn_11, ln_11, tn_12, ln_12, tn_13, ln_13, tn_14, ln_14, tn_15, ln_15, tn_16, ln_16, tn_17, ln_17, ob_18, tn_19, ln_19, tn_20, ln_20, tn_21, ln_21, tn_22, ln_22, tn_23, ln_23, tn_24, ln_24, tn_25, ln_25, tn_26, ln_26, tn_27, ln_27, ob_28, tn_29, ln_29, tn_30, ln_30, ob_31, tn_32, ln_32, tn_33, ln_33, ob_34, ob_35, tn_36, ln_36, tn_37, ln_37, tn_38, ln_38, ob_39, tn_40, ln_40, tn_41, ln_41, tn_42, ln_42, tn_43, ln_43, tn_44, ln_44, tn_45, ln_45, tn_46, ln_46, tn_47, ln_47, tn_48, ln_48, tn_49, ln_49, tn_50, ln_50, tn_51, ln_51, ob_52, tn_53, ln_53, tn_54, ln_54, tn_55, ln_55, tn_56, ln_56, ob_57, tn_58, ln_58, tn_59, ln_59, tn_60, ln_60, tn_61, ln_61, tn_62, ln_62, tn_63, ln_63, tn_64, ln_64, tn_65, ln_65, ob_66, tn_67, ln_67, tn_68, ln_68, tn_69, ln_69, tn_70, ln_70, tn_71, ln_71, tn_72, ln_72, tn_73, ln_73, ob_74, tn_75, ln_75, tn_76, ln_76, tn_77, ln_77, tn_78, ln_78, tn_79, ln_79, tn_80, ln_80, tn_81, ln_81, tn_82, ln_82, tn_83, ln_83, ob_84, tn_85, ln_85, tn_86, ln_86, tn_87, ln_87, tn_88, ln_88, tn_89, ln_89, tn_90, ln_90, tn_91, ln_91, tn_92, ln_92, tn_93, ln_93, ob_94, tn_95, ln_95, tn_96, ln_96, tn_97, ln_97, tn_98, ln_98, tn_99, ln_99, tn_100, ln_100, tn_101, ln_101, tn_102, ln_102, tn_103, ln_103, ob_104, tn_105, ln_105, tn_106, ln_106, tn_107, ln_107, tn_108, ln_108, tn_109, ln_109, tn_110, ln_110, tn_111, ln_111, tn_112, ln_112, tn_113, ln_113, ob_114, tn_115, ln_115, tn_116, ln_116, tn_117, ln_117, tn_118, ln_118, tn_119, ln_119, tn_120, ln_120, tn_121, ln_121, tn_122, ln_122, tn_123, ln_123, ob_124, tn_125, ln_125, tn_126, ln_126, tn_127, ln_127, tn_128, ln_128, tn_129, ln_129, tn_130, ln_130, tn_131, ln_131, tn_132, ln_132, tn_133, ln_133, ob_134, tn_135, ln_135, tn_136, ln_136, tn_137, ln_137, tn_138, ln_138, tn_139, ln_139, tn_140, ln_140, tn_141, ln_141, tn_142, ln_142, tn_143, ln_143, ob_144, tn_145, ln_145, tn_146, ln_146, tn_147, ln_147, tn_148, ln_148, tn_149, ln_149, tn_150, ln_150, tn_151, ln_151, tn_152, ln_152, tn_153, ln_153, ob_154, tn_155, ln_155, tn_156, ln_156, tn_157, ln_157, tn_158, ln_158, tn_159, ln_159, tn_160, ln_160, tn_161, ln_161, tn_162, ln_162, tn_163, ln_163, ob_164, tn_165, ln_165, tn_166, ln_166, ob_167, tn_168, ln_168, tn_169, ln_169, tn_170, ln_170, tn_171, ln_171, tn_172, ln_172, tn_173, ln_173, tn_174, ln_174, tn_175, ln_175, tn_176, ln_176, ob_177, tn_178, ln_178, tn_179, ln_179, ob_180, tn_181, ln_181, tn_182, ln_182, tn_183, ln_183, tn_184, ln_184, tn_185, ln_185, tn_186, ln_186, tn_187, ln_187, tn_188, ln_188, tn_189, ln_189, tn_190, ln_190, tn_191, ln_191, tn_192, ln_192, tn_193, ln_193, tn_194, ln_194, tn_195, ln_195, tn_196, ln_196, tn_197, ln_197, tn_198, ln_198, tn_199, ln_199, tn_200, ln_200, tn_201, ln_201, tn_202, ln_202, tn_203, ln_203, tn_204, ln_204, tn_205, ln_205, tn_206, ln_206, tn_207, ln_207, tn_208, ln_208, tn_209, ln_209, tn_210, ln_210, tn_211, ln_211, tn_212, ln_212, tn_213, ln_213, tn_214, ln_214, tn_215, ln_215, tn_216, ln_216, tn_217, ln_217, tn_218, ln_218, tn_219, ln_219, tn_220, ln_220, tn_221, ln_221, tn_222, ln_222, tn_223, ln_223, tn_224, ln_224, tn_225, ln_225, tn_226, ln_226, tn_227, ln_227, tn_228, ln_228, tn_229, ln_229, tn_230, ln_230, lx2, lx3, lx4, lx5, lx6, lx7, lx8, lx9, lx10, lx14, lx15, lx16, lx18, lx20, lx24, lx25, lx27, lx32, lx36, lx40, lx41, lx42, lx43, lx45, lx48, lx52, lx54, lx56, lx57, lx58, lx60, lx61, lx62, lx63, lx64, lx66, lx69, lx73, lx80, lx81, lx84, lx85, lx87, lx94, lx96, lx97, lx120, lx128, lx135, lx160, lx162, lx163, lx165, lx200, lx232, lx242, lx243, lx255, lx256, lx320, lx325, lx400, lx405, lx464, lx512, lx600, lx640, lx752, lx900, lx940, lx1000, lx1024, lx1764, lx3360, lx3840, lx5000, lx6400, lx9050, lx9998, lx9999, lx10000, lx25600, lx76800, lx99999, si_ne, si_eq, sl_ne, sl_eq, xl_si, xi_sl, sA_ne, sA_eq, xl_sA]
    have out : (s = 1 → u = 4) → P none B := fun w => by
      refine hP B n' hF hn hpre (csS_congr hS fun m _ => or_congr Iff.rfl ?_)
      rw [bk_all h0]
      refine or_congr Iff.rfl ?_
      unfold bkS
      constructor
      · rintro ⟨a, b⟩
        rw [w a] at b
        exact ⟨a, b⟩
      · rintro ⟨a, b⟩
        rw [w a]
        exact ⟨a, b⟩
    refine ⟨fun z => out fun _ => by omega, fun z => ⟨fun w => out fun w2 => absurd w2 w, fun w => ⟨by omega, by omega, ?_⟩⟩⟩
    exact xB1 (b := 4 - u - 1) (by omega) ⟨v, R, n, n', s, p, r, u, 1, i5, o4, hG0, by omega, w, by omega, by omega, csS_congr hS fun m _ => by rw [bkS_0], rfl, rfl, rfl⟩
  · rintro q x y z A P - μ L st B ⟨v, R, n, n', s, p, r, u, k, i5, o4, hG, hu, hs1, hk, hk4, hS, rfl, rfl, rfl⟩
    have hG0 := hG
    obtain ⟨hs, h0, hp, hr, hC, hB, hP, hF, hn, hpre⟩ := hG
    have h80 := hC.2
    obtain ⟨hT, hGa⟩ := ct_T hC
    simp (disch := omega) only [k_X10_back_0, k_X10_back_139, k_X10_back_191, k_X10_back_36, k_X10_back_54, k_X10_back_99, k_X10_back_136, k_X10_back_270, k_X10_back_276, w_RIJIJJ, w_RIJJ, x_aload, x_iadd, x_icmp_eq, x_icmp_ge, x_icmp_gt, x_icmp_ne, x_if_eq, x_iinc, x_iload, x_imul, x_istore, x_isub, x_lcmp, x_lload, x_lor, x_lshl, x_lstore, x_push, x_vret, y_cv3, y_cv5, y_getF, y_lald, xFT, xbool0, xbool1, Nat.reduceAdd, Nat.zero_add, xgl_0, xgl_s, xgl_n, xst_0, xst_1n, xst_1i, xst_1r, xst_1l, xst_s, set_0, set_s, true_and, and_true, xres, xcat_nil, xcat_i, xcat_r, xcat_l, Nat.add_zero, xble0, xble1, xble2, xble3, xble4, xble5, xble6, xble7, xble8, pk_mul, nI_add, nI_1, nI_leI, nI_ltI, nI_eq, n_in, n_cl, z_eq, z_lt, z_le, z_gt, z_ge, z_qe, o_eq, o_lt, o_le, o_gt, o_ge, vp0, vp1, cl0, cl1, n_sub, n_sub1, n_pm1, n_a0, n_0a, ofn, lN0, Nat.reduceLT, Nat.reduceLeDiff, Nat.reduceMul, Nat.reduceSub, Nat.reduceEqDiff, ne_eq, true_implies, false_implies, not_true_eq_false, not_false_eq_true, and_self, and_true, true_and, and_false, false_and, implies_true, if_true, if_false, i00, i10, i01, i11, ob_0, ob_1, tn_2, ln_2, ob_3, tn_4, ln_4, ob_5, tn_6, ln_6, tn_7, ln_7, ob_8, tn_9, ln_9, tn_10, ln_10, tn_11, ln_11, tn_12, ln_12, tn_13, ln_13, tn_14, ln_14, tn_15, ln_15, tn_16, ln_16, tn_17, ln_17, ob_18, tn_19, ln_19, tn_20, ln_20, tn_21, ln_21, tn_22, ln_22, tn_23, ln_23, tn_24, ln_24, tn_25, ln_25, tn_26, ln_26, tn_27, ln_27, ob_28, tn_29, ln_29, tn_30, ln_30, ob_31, tn_32, ln_32, tn_33, ln_33, ob_34, ob_35, tn_36, ln_36, tn_37, ln_37, tn_38, ln_38, ob_39, tn_40, ln_40, tn_41, ln_41, tn_42, ln_42, tn_43, ln_43, tn_44, ln_44, tn_45, ln_45, tn_46, ln_46, tn_47, ln_47, tn_48, ln_48, tn_49, ln_49, tn_50, ln_50, tn_51, ln_51, ob_52, tn_53, ln_53, tn_54, ln_54, tn_55, ln_55, tn_56, ln_56, ob_57, tn_58, ln_58, tn_59, ln_59, tn_60, ln_60, tn_61, ln_61, tn_62, ln_62, tn_63, ln_63, tn_64, ln_64, tn_65, ln_65, ob_66, tn_67, ln_67, tn_68, ln_68, tn_69, ln_69, tn_70, ln_70, tn_71, ln_71, tn_72, ln_72, tn_73, ln_73, ob_74, tn_75, ln_75, tn_76, ln_76, tn_77, ln_77, tn_78, ln_78, tn_79, ln_79, tn_80, ln_80, tn_81, ln_81, tn_82, ln_82, tn_83, ln_83, ob_84, tn_85, ln_85, tn_86, ln_86, tn_87, ln_87, tn_88, ln_88, tn_89, ln_89, tn_90, ln_90, tn_91, ln_91, tn_92, ln_92, tn_93, ln_93, ob_94, tn_95, ln_95, tn_96, ln_96, tn_97, ln_97, tn_98, ln_98, tn_99, ln_99, tn_100, ln_100, tn_101, ln_101, tn_102, ln_102, tn_103, ln_103, ob_104, tn_105, ln_105, tn_106, ln_106, tn_107, ln_107, tn_108, ln_108, tn_109, ln_109, tn_110, ln_110, tn_111, ln_111, tn_112, ln_112, tn_113, ln_113, ob_114, tn_115, ln_115, tn_116, ln_116, tn_117, ln_117, tn_118, ln_118, tn_119, ln_119, tn_120, ln_120, tn_121, ln_121, tn_122, ln_122, tn_123, ln_123, ob_124, tn_125, ln_125, tn_126, ln_126, tn_127, ln_127, tn_128, ln_128, tn_129, ln_129, tn_130, ln_130, tn_131, ln_131, tn_132, ln_132, tn_133, ln_133, ob_134, tn_135, ln_135, tn_136, ln_136, tn_137, ln_137, tn_138, ln_138, tn_139, ln_139, tn_140, ln_140, tn_141, ln_141, tn_142, ln_142, tn_143, ln_143, ob_144, tn_145, ln_145, tn_146, ln_146, tn_147, ln_147, tn_148, ln_148, tn_149, ln_149, tn_150, ln_150, tn_151, ln_151, tn_152, ln_152, tn_153, ln_153, ob_154, tn_155, ln_155, tn_156, ln_156, tn_157, ln_157, tn_158, ln_158, tn_159, ln_159, tn_160, ln_160, tn_161, ln_161, tn_162, ln_162, tn_163, ln_163, ob_164, tn_165, ln_165, tn_166, ln_166, ob_167, tn_168, ln_168, tn_169, ln_169, tn_170, ln_170, tn_171, ln_171, tn_172, ln_172, tn_173, ln_173, tn_174, ln_174, tn_175, ln_175, tn_176, ln_176, ob_177, tn_178, ln_178, tn_179, ln_179, ob_180, tn_181, ln_181, tn_182, ln_182, tn_183, ln_183, tn_184, ln_184, tn_185, ln_185, tn_186, ln_186, tn_187, ln_187, tn_188, ln_188, tn_189, ln_189, tn_190, ln_190, tn_191, ln_191, tn_192, ln_192, tn_193, ln_193, tn_194, ln_194, tn_195, ln_195, tn_196, ln_196, tn_197, ln_197, tn_198, ln_198, tn_199, ln_199, tn_200, ln_200, tn_201, ln_201, tn_202, ln_202, tn_203, ln_203, tn_204, ln_204, tn_205, ln_205, tn_206, ln_206, tn_207, ln_207, tn_208, ln_208, tn_209, ln_209, tn_210, ln_210, tn_211, ln_211, tn_212, ln_212, tn_213, ln_213, tn_214, ln_214, tn_215, ln_215, tn_216, ln_216, tn_217, ln_217, tn_218, ln_218, tn_219, ln_219, tn_220, ln_220, tn_221, ln_221, tn_222, ln_222, tn_223, ln_223, tn_224, ln_224, tn_225, ln_225, tn_226, ln_226, tn_227, ln_227, tn_228, ln_228, tn_229, ln_229, tn_230, ln_230, lx2, lx3, lx4, lx5, lx6, lx7, lx8, lx9, lx10, lx14, lx15, lx16, lx18, lx20, lx24, lx25, lx27, lx32, lx36, lx40, lx41, lx42, lx43, lx45, lx48, lx52, lx54, lx56, lx57, lx58, lx60, lx61, lx62, lx63, lx64, lx66, lx69, lx73, lx80, lx81, lx84, lx85, lx87, lx94, lx96, lx97, lx120, lx128, lx135, lx160, lx162, lx163, lx165, lx200, lx232, lx242, lx243, lx255, lx256, lx320, lx325, lx400, lx405, lx464, lx512, lx600, lx640, lx752, lx900, lx940, lx1000, lx1024, lx1764, lx3360, lx3840, lx5000, lx6400, lx9050, lx9998, lx9999, lx10000, lx25600, lx76800, lx99999, si_ne, si_eq, sl_ne, sl_eq, xl_si, xi_sl, sA_ne, sA_eq, xl_sA, lcmp0]
    have out : csS 54 (fun m => R m ∨ ((bkL v s p r m ∨ bkR v s p r m) ∨ bkS v s p r (u + 1) 0 m)) n' B → xB (bk139 A P) (4 - u - 1, 1, 4 - k) [some (.ref 52), some (.int (nI s)), some (.int (nI p)), some (.int (nI r)), o4, some (.int i5), some (.int (nI (u + 1))), some (.long (xl B 43 ((r * 5 + u) * 2))), none, some (.long (xl B 43 ((r * 5 + u) * 2 + 1))), none, some (.int (nI k))] [] B := fun w =>
      xB2 (c := 0) (by omega) ⟨v, R, n, n', s, p, r, u + 1, i5, o4, _, _, _, _, _, hG0, by omega, w, rfl, rfl, by rw [Nat.sub_sub]⟩
    refine ⟨fun z => out ?_, fun z => ⟨fun w => out ?_, fun w => ⟨by omega, ?_⟩⟩⟩
    · have e4 : k = 4 := by omega
      subst e4
      exact csS_congr hS fun m hm => by rw [bkS_4 hm]
    · refine csS_congr hS fun m hm => or_congr Iff.rfl (or_congr Iff.rfl ?_)
      have w := or_nz.mp w
      have no : ¬ stT v (m % 80) u r := fun q => by
        have hm := Nat.mod_lt m (show 80 > 0 by omega)
        have := (hq_Fs hT hr hu (show m % 80 < 128 by omega)).mpr q
        unfold hq at this
        split at this
        · rw [(w _ (by omega)).1] at this; cases this
        · rw [(w _ (by omega)).2] at this; cases this
      unfold bkS
      constructor
      · rintro ⟨a, b, t, c, d, e, f, g⟩
        exact ⟨a, b, t, c, d, e, f, by omega⟩
      · rintro ⟨a, b, t, c, d, e, f, g⟩
        by_cases q : t = u
        · subst q; exact absurd e no
        · exact ⟨a, b, t, c, d, e, f, by omega⟩
    · refine ⟨rfl, v, _, n', k, 0, rfl, by omega, rfl, by omega, hS, hB, fun j hj _ => by omega, fun C n1 hC1 hn1 hp1 hS1 => ?_⟩
      simp (disch := omega) only [k_X10_back_0, k_X10_back_139, k_X10_back_191, k_X10_back_36, k_X10_back_54, k_X10_back_99, k_X10_back_136, k_X10_back_270, k_X10_back_276, w_RIJIJJ, w_RIJJ, x_aload, x_iadd, x_icmp_eq, x_icmp_ge, x_icmp_gt, x_icmp_ne, x_if_eq, x_iinc, x_iload, x_imul, x_istore, x_isub, x_lcmp, x_lload, x_lor, x_lshl, x_lstore, x_push, x_vret, y_cv3, y_cv5, y_getF, y_lald, xFT, xbool0, xbool1, Nat.reduceAdd, Nat.zero_add, xgl_0, xgl_s, xgl_n, xst_0, xst_1n, xst_1i, xst_1r, xst_1l, xst_s, set_0, set_s, true_and, and_true, xres, xcat_nil, xcat_i, xcat_r, xcat_l, Nat.add_zero, xble0, xble1, xble2, xble3, xble4, xble5, xble6, xble7, xble8, pk_mul, nI_add, nI_1, nI_leI, nI_ltI, nI_eq, n_in, n_cl, z_eq, z_lt, z_le, z_gt, z_ge, z_qe, o_eq, o_lt, o_le, o_gt, o_ge, vp0, vp1, cl0, cl1, n_sub, n_sub1, n_pm1, n_a0, n_0a, ofn, lN0, Nat.reduceLT, Nat.reduceLeDiff, Nat.reduceMul, Nat.reduceSub, Nat.reduceEqDiff, ne_eq, true_implies, false_implies, not_true_eq_false, not_false_eq_true, and_self, and_true, true_and, and_false, false_and, implies_true, if_true, if_false, i00, i10, i01, i11, ob_0, ob_1, tn_2, ln_2, ob_3, tn_4, ln_4, ob_5, tn_6, ln_6, tn_7, ln_7, ob_8, tn_9, ln_9, tn_10, ln_10, tn_11, ln_11, tn_12, ln_12, tn_13, ln_13, tn_14, ln_14, tn_15, ln_15, tn_16, ln_16, tn_17, ln_17, ob_18, tn_19, ln_19, tn_20, ln_20, tn_21, ln_21, tn_22, ln_22, tn_23, ln_23, tn_24, ln_24, tn_25, ln_25, tn_26, ln_26, tn_27, ln_27, ob_28, tn_29, ln_29, tn_30, ln_30, ob_31, tn_32, ln_32, tn_33, ln_33, ob_34, ob_35, tn_36, ln_36, tn_37, ln_37, tn_38, ln_38, ob_39, tn_40, ln_40, tn_41, ln_41, tn_42, ln_42, tn_43, ln_43, tn_44, ln_44, tn_45, ln_45, tn_46, ln_46, tn_47, ln_47, tn_48, ln_48, tn_49, ln_49, tn_50, ln_50, tn_51, ln_51, ob_52, tn_53, ln_53, tn_54, ln_54, tn_55, ln_55, tn_56, ln_56, ob_57, tn_58, ln_58, tn_59, ln_59, tn_60, ln_60, tn_61, ln_61, tn_62, ln_62, tn_63, ln_63, tn_64, ln_64, tn_65, ln_65, ob_66, tn_67, ln_67, tn_68, ln_68, tn_69, ln_69, tn_70, ln_70, tn_71, ln_71, tn_72, ln_72, tn_73, ln_73, ob_74, tn_75, ln_75, tn_76, ln_76, tn_77, ln_77, tn_78, ln_78, tn_79, ln_79, tn_80, ln_80, tn_81, ln_81, tn_82, ln_82, tn_83, ln_83, ob_84, tn_85, ln_85, tn_86, ln_86, tn_87, ln_87, tn_88, ln_88, tn_89, ln_89, tn_90, ln_90, tn_91, ln_91, tn_92, ln_92, tn_93, ln_93, ob_94, tn_95, ln_95, tn_96, ln_96, tn_97, ln_97, tn_98, ln_98, tn_99, ln_99, tn_100, ln_100, tn_101, ln_101, tn_102, ln_102, tn_103, ln_103, ob_104, tn_105, ln_105, tn_106, ln_106, tn_107, ln_107, tn_108, ln_108, tn_109, ln_109, tn_110, ln_110, tn_111, ln_111, tn_112, ln_112, tn_113, ln_113, ob_114, tn_115, ln_115, tn_116, ln_116, tn_117, ln_117, tn_118, ln_118, tn_119, ln_119, tn_120, ln_120, tn_121, ln_121, tn_122, ln_122, tn_123, ln_123, ob_124, tn_125, ln_125, tn_126, ln_126, tn_127, ln_127, tn_128, ln_128, tn_129, ln_129, tn_130, ln_130, tn_131, ln_131, tn_132, ln_132, tn_133, ln_133, ob_134, tn_135, ln_135, tn_136, ln_136, tn_137, ln_137, tn_138, ln_138, tn_139, ln_139, tn_140, ln_140, tn_141, ln_141, tn_142, ln_142, tn_143, ln_143, ob_144, tn_145, ln_145, tn_146, ln_146, tn_147, ln_147, tn_148, ln_148, tn_149, ln_149, tn_150, ln_150, tn_151, ln_151, tn_152, ln_152, tn_153, ln_153, ob_154, tn_155, ln_155, tn_156, ln_156, tn_157, ln_157, tn_158, ln_158, tn_159, ln_159, tn_160, ln_160, tn_161, ln_161, tn_162, ln_162, tn_163, ln_163, ob_164, tn_165, ln_165, tn_166, ln_166, ob_167, tn_168, ln_168, tn_169, ln_169, tn_170, ln_170, tn_171, ln_171, tn_172, ln_172, tn_173, ln_173, tn_174, ln_174, tn_175, ln_175, tn_176, ln_176, ob_177, tn_178, ln_178, tn_179, ln_179, ob_180, tn_181, ln_181, tn_182, ln_182, tn_183, ln_183, tn_184, ln_184, tn_185, ln_185, tn_186, ln_186, tn_187, ln_187, tn_188, ln_188, tn_189, ln_189, tn_190, ln_190, tn_191, ln_191, tn_192, ln_192, tn_193, ln_193, tn_194, ln_194, tn_195, ln_195, tn_196, ln_196, tn_197, ln_197, tn_198, ln_198, tn_199, ln_199, tn_200, ln_200, tn_201, ln_201, tn_202, ln_202, tn_203, ln_203, tn_204, ln_204, tn_205, ln_205, tn_206, ln_206, tn_207, ln_207, tn_208, ln_208, tn_209, ln_209, tn_210, ln_210, tn_211, ln_211, tn_212, ln_212, tn_213, ln_213, tn_214, ln_214, tn_215, ln_215, tn_216, ln_216, tn_217, ln_217, tn_218, ln_218, tn_219, ln_219, tn_220, ln_220, tn_221, ln_221, tn_222, ln_222, tn_223, ln_223, tn_224, ln_224, tn_225, ln_225, tn_226, ln_226, tn_227, ln_227, tn_228, ln_228, tn_229, ln_229, tn_230, ln_230, lx2, lx3, lx4, lx5, lx6, lx7, lx8, lx9, lx10, lx14, lx15, lx16, lx18, lx20, lx24, lx25, lx27, lx32, lx36, lx40, lx41, lx42, lx43, lx45, lx48, lx52, lx54, lx56, lx57, lx58, lx60, lx61, lx62, lx63, lx64, lx66, lx69, lx73, lx80, lx81, lx84, lx85, lx87, lx94, lx96, lx97, lx120, lx128, lx135, lx160, lx162, lx163, lx165, lx200, lx232, lx242, lx243, lx255, lx256, lx320, lx325, lx400, lx405, lx464, lx512, lx600, lx640, lx752, lx900, lx940, lx1000, lx1024, lx1764, lx3360, lx3840, lx5000, lx6400, lx9050, lx9998, lx9999, lx10000, lx25600, lx76800, lx99999, si_ne, si_eq, sl_ne, sl_eq, xl_si, xi_sl, sA_ne, sA_eq, xl_sA, lcmp0]
      have e43 : ∀ k, xl C 43 k = xl B 43 k := fun k => fr_l hC1 (by unfold SEn; omega)
      rw [e43]
      have gC := bkG_fr hG0 hC1 hn1 hp1
      refine ⟨by omega, rfl, v, _, n1, k, 1, rfl, by omega, rfl, by omega, hS1, gC.2.2.2.2.2.1, fun j hj w => by have := pl_fr hC hp (show u < 5 by omega) hj w; omega, fun D n2 hD hn2 hp2 hS2 => ?_⟩
      simp (disch := omega) only [k_X10_back_0, k_X10_back_139, k_X10_back_191, k_X10_back_36, k_X10_back_54, k_X10_back_99, k_X10_back_136, k_X10_back_270, k_X10_back_276, w_RIJIJJ, w_RIJJ, x_aload, x_iadd, x_icmp_eq, x_icmp_ge, x_icmp_gt, x_icmp_ne, x_if_eq, x_iinc, x_iload, x_imul, x_istore, x_isub, x_lcmp, x_lload, x_lor, x_lshl, x_lstore, x_push, x_vret, y_cv3, y_cv5, y_getF, y_lald, xFT, xbool0, xbool1, Nat.reduceAdd, Nat.zero_add, xgl_0, xgl_s, xgl_n, xst_0, xst_1n, xst_1i, xst_1r, xst_1l, xst_s, set_0, set_s, true_and, and_true, xres, xcat_nil, xcat_i, xcat_r, xcat_l, Nat.add_zero, xble0, xble1, xble2, xble3, xble4, xble5, xble6, xble7, xble8, pk_mul, nI_add, nI_1, nI_leI, nI_ltI, nI_eq, n_in, n_cl, z_eq, z_lt, z_le, z_gt, z_ge, z_qe, o_eq, o_lt, o_le, o_gt, o_ge, vp0, vp1, cl0, cl1, n_sub, n_sub1, n_pm1, n_a0, n_0a, ofn, lN0, Nat.reduceLT, Nat.reduceLeDiff, Nat.reduceMul, Nat.reduceSub, Nat.reduceEqDiff, ne_eq, true_implies, false_implies, not_true_eq_false, not_false_eq_true, and_self, and_true, true_and, and_false, false_and, implies_true, if_true, if_false, i00, i10, i01, i11, ob_0, ob_1, tn_2, ln_2, ob_3, tn_4, ln_4, ob_5, tn_6, ln_6, tn_7, ln_7, ob_8, tn_9, ln_9, tn_10, ln_10, tn_11, ln_11, tn_12, ln_12, tn_13, ln_13, tn_14, ln_14, tn_15, ln_15, tn_16, ln_16, tn_17, ln_17, ob_18, tn_19, ln_19, tn_20, ln_20, tn_21, ln_21, tn_22, ln_22, tn_23, ln_23, tn_24, ln_24, tn_25, ln_25, tn_26, ln_26, tn_27, ln_27, ob_28, tn_29, ln_29, tn_30, ln_30, ob_31, tn_32, ln_32, tn_33, ln_33, ob_34, ob_35, tn_36, ln_36, tn_37, ln_37, tn_38, ln_38, ob_39, tn_40, ln_40, tn_41, ln_41, tn_42, ln_42, tn_43, ln_43, tn_44, ln_44, tn_45, ln_45, tn_46, ln_46, tn_47, ln_47, tn_48, ln_48, tn_49, ln_49, tn_50, ln_50, tn_51, ln_51, ob_52, tn_53, ln_53, tn_54, ln_54, tn_55, ln_55, tn_56, ln_56, ob_57, tn_58, ln_58, tn_59, ln_59, tn_60, ln_60, tn_61, ln_61, tn_62, ln_62, tn_63, ln_63, tn_64, ln_64, tn_65, ln_65, ob_66, tn_67, ln_67, tn_68, ln_68, tn_69, ln_69, tn_70, ln_70, tn_71, ln_71, tn_72, ln_72, tn_73, ln_73, ob_74, tn_75, ln_75, tn_76, ln_76, tn_77, ln_77, tn_78, ln_78, tn_79, ln_79, tn_80, ln_80, tn_81, ln_81, tn_82, ln_82, tn_83, ln_83, ob_84, tn_85, ln_85, tn_86, ln_86, tn_87, ln_87, tn_88, ln_88, tn_89, ln_89, tn_90, ln_90, tn_91, ln_91, tn_92, ln_92, tn_93, ln_93, ob_94, tn_95, ln_95, tn_96, ln_96, tn_97, ln_97, tn_98, ln_98, tn_99, ln_99, tn_100, ln_100, tn_101, ln_101, tn_102, ln_102, tn_103, ln_103, ob_104, tn_105, ln_105, tn_106, ln_106, tn_107, ln_107, tn_108, ln_108, tn_109, ln_109, tn_110, ln_110, tn_111, ln_111, tn_112, ln_112, tn_113, ln_113, ob_114, tn_115, ln_115, tn_116, ln_116, tn_117, ln_117, tn_118, ln_118, tn_119, ln_119, tn_120, ln_120, tn_121, ln_121, tn_122, ln_122, tn_123, ln_123, ob_124, tn_125, ln_125, tn_126, ln_126, tn_127, ln_127, tn_128, ln_128, tn_129, ln_129, tn_130, ln_130, tn_131, ln_131, tn_132, ln_132, tn_133, ln_133, ob_134, tn_135, ln_135, tn_136, ln_136, tn_137, ln_137, tn_138, ln_138, tn_139, ln_139, tn_140, ln_140, tn_141, ln_141, tn_142, ln_142, tn_143, ln_143, ob_144, tn_145, ln_145, tn_146, ln_146, tn_147, ln_147, tn_148, ln_148, tn_149, ln_149, tn_150, ln_150, tn_151, ln_151, tn_152, ln_152, tn_153, ln_153, ob_154, tn_155, ln_155, tn_156, ln_156, tn_157, ln_157, tn_158, ln_158, tn_159, ln_159, tn_160, ln_160, tn_161, ln_161, tn_162, ln_162, tn_163, ln_163, ob_164, tn_165, ln_165, tn_166, ln_166, ob_167, tn_168, ln_168, tn_169, ln_169, tn_170, ln_170, tn_171, ln_171, tn_172, ln_172, tn_173, ln_173, tn_174, ln_174, tn_175, ln_175, tn_176, ln_176, ob_177, tn_178, ln_178, tn_179, ln_179, ob_180, tn_181, ln_181, tn_182, ln_182, tn_183, ln_183, tn_184, ln_184, tn_185, ln_185, tn_186, ln_186, tn_187, ln_187, tn_188, ln_188, tn_189, ln_189, tn_190, ln_190, tn_191, ln_191, tn_192, ln_192, tn_193, ln_193, tn_194, ln_194, tn_195, ln_195, tn_196, ln_196, tn_197, ln_197, tn_198, ln_198, tn_199, ln_199, tn_200, ln_200, tn_201, ln_201, tn_202, ln_202, tn_203, ln_203, tn_204, ln_204, tn_205, ln_205, tn_206, ln_206, tn_207, ln_207, tn_208, ln_208, tn_209, ln_209, tn_210, ln_210, tn_211, ln_211, tn_212, ln_212, tn_213, ln_213, tn_214, ln_214, tn_215, ln_215, tn_216, ln_216, tn_217, ln_217, tn_218, ln_218, tn_219, ln_219, tn_220, ln_220, tn_221, ln_221, tn_222, ln_222, tn_223, ln_223, tn_224, ln_224, tn_225, ln_225, tn_226, ln_226, tn_227, ln_227, tn_228, ln_228, tn_229, ln_229, tn_230, ln_230, lx2, lx3, lx4, lx5, lx6, lx7, lx8, lx9, lx10, lx14, lx15, lx16, lx18, lx20, lx24, lx25, lx27, lx32, lx36, lx40, lx41, lx42, lx43, lx45, lx48, lx52, lx54, lx56, lx57, lx58, lx60, lx61, lx62, lx63, lx64, lx66, lx69, lx73, lx80, lx81, lx84, lx85, lx87, lx94, lx96, lx97, lx120, lx128, lx135, lx160, lx162, lx163, lx165, lx200, lx232, lx242, lx243, lx255, lx256, lx320, lx325, lx400, lx405, lx464, lx512, lx600, lx640, lx752, lx900, lx940, lx1000, lx1024, lx1764, lx3360, lx3840, lx5000, lx6400, lx9050, lx9998, lx9999, lx10000, lx25600, lx76800, lx99999, si_ne, si_eq, sl_ne, sl_eq, xl_si, xi_sl, sA_ne, sA_eq, xl_sA, lcmp0]
      have e43 : ∀ k, xl B 43 k = xl D 43 k := fun k => (fr_l (fr_tr hC1 hD) (by unfold SEn; omega)).symm
      rw [e43, e43]
      refine xB3 (d := 4 - (k + 1)) (by omega) ⟨v, R, n, n2, s, p, r, u, k + 1, i5, o4, bkG_fr gC hD hn2 hp2, hu, hs1, by omega, by omega, csS_congr hS2 fun m _ => ?_, rfl, rfl, rfl⟩
      have hm := Nat.mod_lt m (show 80 > 0 by omega)
      have hm2 := Nat.mod_lt (m / 80) (show 80 > 0 by omega)
      have k1 := vs_2 (s := k) (m := m) (x0 := xl B 43 ((p * 5 + u) * 2)) (x1 := xl B 43 ((p * 5 + u) * 2 + 1)) (lo := xl B 43 ((r * 5 + u) * 2)) (hi := xl B 43 ((r * 5 + u) * 2 + 1))
      rw [hq_Fs hT hp hu (show m / 80 % 80 < 128 by omega), hq_Fs hT hr hu (show m % 80 < 128 by omega)] at k1
      dsimp only
      rw [bkS_s hu (by omega) hs1, or_assoc, ← or_and_right, k1, or_assoc, or_assoc, or_assoc]

