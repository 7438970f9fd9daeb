/-! ===== the reference's goesOn, walked ===== -/
theorem d_X12_goesOn_0 : decode cX12_goesOn 0 = .ok (.iload_n 1, 1) := by decide +kernel
theorem d_X12_goesOn_1 : decode cX12_goesOn 1 = .ok (.iconst 4, 1) := by decide +kernel
theorem d_X12_goesOn_2 : decode cX12_goesOn 2 = .ok (.irem, 1) := by decide +kernel
theorem d_X12_goesOn_3 : decode cX12_goesOn 3 = .ok (.istore_n 2, 1) := by decide +kernel
theorem d_X12_goesOn_4 : decode cX12_goesOn 4 = .ok (.iload_n 1, 1) := by decide +kernel
theorem d_X12_goesOn_5 : decode cX12_goesOn 5 = .ok (.sipush 320, 3) := by decide +kernel
theorem d_X12_goesOn_8 : decode cX12_goesOn 8 = .ok (.idiv, 1) := by decide +kernel
theorem d_X12_goesOn_9 : decode cX12_goesOn 9 = .ok (.istore_n 3, 1) := by decide +kernel
theorem d_X12_goesOn_10 : decode cX12_goesOn 10 = .ok (.iload_n 1, 1) := by decide +kernel
theorem d_X12_goesOn_11 : decode cX12_goesOn 11 = .ok (.iconst 4, 1) := by decide +kernel
theorem d_X12_goesOn_12 : decode cX12_goesOn 12 = .ok (.idiv, 1) := by decide +kernel
theorem d_X12_goesOn_13 : decode cX12_goesOn 13 = .ok (.bipush 80, 2) := by decide +kernel
theorem d_X12_goesOn_15 : decode cX12_goesOn 15 = .ok (.irem, 1) := by decide +kernel
theorem d_X12_goesOn_16 : decode cX12_goesOn 16 = .ok (.istore 4, 2) := by decide +kernel
theorem d_X12_goesOn_18 : decode cX12_goesOn 18 = .ok (.aload_n 0, 1) := by decide +kernel
theorem d_X12_goesOn_19 : decode cX12_goesOn 19 = .ok (.iload_n 3, 1) := by decide +kernel
theorem d_X12_goesOn_20 : decode cX12_goesOn 20 = .ok (.iload 4, 2) := by decide +kernel
theorem d_X12_goesOn_22 : decode cX12_goesOn 22 = .ok (.iload_n 2, 1) := by decide +kernel
theorem d_X12_goesOn_23 : decode cX12_goesOn 23 = .ok (.invokevirtual 453, 3) := by decide +kernel
theorem d_X12_goesOn_26 : decode cX12_goesOn 26 = .ok (.iload_n 2, 1) := by decide +kernel
theorem d_X12_goesOn_27 : decode cX12_goesOn 27 = .ok (.ifCond .le 16, 3) := by decide +kernel
theorem d_X12_goesOn_30 : decode cX12_goesOn 30 = .ok (.iload_n 2, 1) := by decide +kernel
theorem d_X12_goesOn_31 : decode cX12_goesOn 31 = .ok (.iconst 3, 1) := by decide +kernel
theorem d_X12_goesOn_32 : decode cX12_goesOn 32 = .ok (.if_icmp .ne 7, 3) := by decide +kernel
theorem d_X12_goesOn_35 : decode cX12_goesOn 35 = .ok (.iconst (-1), 1) := by decide +kernel
theorem d_X12_goesOn_36 : decode cX12_goesOn 36 = .ok (.goto 31, 3) := by decide +kernel
theorem d_X12_goesOn_39 : decode cX12_goesOn 39 = .ok (.iload_n 2, 1) := by decide +kernel
theorem d_X12_goesOn_40 : decode cX12_goesOn 40 = .ok (.goto 27, 3) := by decide +kernel
theorem d_X12_goesOn_43 : decode cX12_goesOn 43 = .ok (.iload 4, 2) := by decide +kernel
theorem d_X12_goesOn_45 : decode cX12_goesOn 45 = .ok (.iconst 1, 1) := by decide +kernel
theorem d_X12_goesOn_46 : decode cX12_goesOn 46 = .ok (.if_icmp .ne 7, 3) := by decide +kernel
theorem d_X12_goesOn_49 : decode cX12_goesOn 49 = .ok (.iconst 1, 1) := by decide +kernel
theorem d_X12_goesOn_50 : decode cX12_goesOn 50 = .ok (.goto 17, 3) := by decide +kernel
theorem d_X12_goesOn_53 : decode cX12_goesOn 53 = .ok (.aload_n 0, 1) := by decide +kernel
theorem d_X12_goesOn_54 : decode cX12_goesOn 54 = .ok (.iload 4, 2) := by decide +kernel
theorem d_X12_goesOn_56 : decode cX12_goesOn 56 = .ok (.invokevirtual 457, 3) := by decide +kernel
theorem d_X12_goesOn_59 : decode cX12_goesOn 59 = .ok (.ifCond .eq 7, 3) := by decide +kernel
theorem d_X12_goesOn_62 : decode cX12_goesOn 62 = .ok (.iconst 2, 1) := by decide +kernel
theorem d_X12_goesOn_63 : decode cX12_goesOn 63 = .ok (.goto 4, 3) := by decide +kernel
theorem d_X12_goesOn_66 : decode cX12_goesOn 66 = .ok (.iconst (-1), 1) := by decide +kernel
theorem d_X12_goesOn_67 : decode cX12_goesOn 67 = .ok (.istore 5, 2) := by decide +kernel
theorem d_X12_goesOn_69 : decode cX12_goesOn 69 = .ok (.iload_n 2, 1) := by decide +kernel
theorem d_X12_goesOn_70 : decode cX12_goesOn 70 = .ok (.ifCond .le 16, 3) := by decide +kernel
theorem d_X12_goesOn_73 : decode cX12_goesOn 73 = .ok (.iload_n 2, 1) := by decide +kernel
theorem d_X12_goesOn_74 : decode cX12_goesOn 74 = .ok (.iconst 2, 1) := by decide +kernel
theorem d_X12_goesOn_75 : decode cX12_goesOn 75 = .ok (.if_icmp .ne 7, 3) := by decide +kernel
theorem d_X12_goesOn_78 : decode cX12_goesOn 78 = .ok (.iconst (-1), 1) := by decide +kernel
theorem d_X12_goesOn_79 : decode cX12_goesOn 79 = .ok (.goto 29, 3) := by decide +kernel
theorem d_X12_goesOn_82 : decode cX12_goesOn 82 = .ok (.iload_n 2, 1) := by decide +kernel
theorem d_X12_goesOn_83 : decode cX12_goesOn 83 = .ok (.goto 25, 3) := by decide +kernel
theorem d_X12_goesOn_86 : decode cX12_goesOn 86 = .ok (.iload_n 3, 1) := by decide +kernel
theorem d_X12_goesOn_87 : decode cX12_goesOn 87 = .ok (.iconst 1, 1) := by decide +kernel
theorem d_X12_goesOn_88 : decode cX12_goesOn 88 = .ok (.if_icmp .ne 7, 3) := by decide +kernel
theorem d_X12_goesOn_91 : decode cX12_goesOn 91 = .ok (.iconst 1, 1) := by decide +kernel
theorem d_X12_goesOn_92 : decode cX12_goesOn 92 = .ok (.goto 16, 3) := by decide +kernel
theorem d_X12_goesOn_95 : decode cX12_goesOn 95 = .ok (.aload_n 0, 1) := by decide +kernel
theorem d_X12_goesOn_96 : decode cX12_goesOn 96 = .ok (.iload_n 3, 1) := by decide +kernel
theorem d_X12_goesOn_97 : decode cX12_goesOn 97 = .ok (.invokevirtual 457, 3) := by decide +kernel
theorem d_X12_goesOn_100 : decode cX12_goesOn 100 = .ok (.ifCond .eq 7, 3) := by decide +kernel
theorem d_X12_goesOn_103 : decode cX12_goesOn 103 = .ok (.iconst 3, 1) := by decide +kernel
theorem d_X12_goesOn_104 : decode cX12_goesOn 104 = .ok (.goto 4, 3) := by decide +kernel
theorem d_X12_goesOn_107 : decode cX12_goesOn 107 = .ok (.iconst (-1), 1) := by decide +kernel
theorem d_X12_goesOn_108 : decode cX12_goesOn 108 = .ok (.istore 6, 2) := by decide +kernel
theorem d_X12_goesOn_110 : decode cX12_goesOn 110 = .ok (.aload_n 0, 1) := by decide +kernel
theorem d_X12_goesOn_111 : decode cX12_goesOn 111 = .ok (.getfield 80, 3) := by decide +kernel
theorem d_X12_goesOn_114 : decode cX12_goesOn 114 = .ok (.iload_n 3, 1) := by decide +kernel
theorem d_X12_goesOn_115 : decode cX12_goesOn 115 = .ok (.iaload, 1) := by decide +kernel
theorem d_X12_goesOn_116 : decode cX12_goesOn 116 = .ok (.istore 7, 2) := by decide +kernel
theorem d_X12_goesOn_118 : decode cX12_goesOn 118 = .ok (.iload 7, 2) := by decide +kernel
theorem d_X12_goesOn_120 : decode cX12_goesOn 120 = .ok (.aload_n 0, 1) := by decide +kernel
theorem d_X12_goesOn_121 : decode cX12_goesOn 121 = .ok (.getfield 80, 3) := by decide +kernel
theorem d_X12_goesOn_124 : decode cX12_goesOn 124 = .ok (.iload_n 3, 1) := by decide +kernel
theorem d_X12_goesOn_125 : decode cX12_goesOn 125 = .ok (.iconst 1, 1) := by decide +kernel
theorem d_X12_goesOn_126 : decode cX12_goesOn 126 = .ok (.iadd, 1) := by decide +kernel
theorem d_X12_goesOn_127 : decode cX12_goesOn 127 = .ok (.iaload, 1) := by decide +kernel
theorem d_X12_goesOn_128 : decode cX12_goesOn 128 = .ok (.if_icmp .ge 49, 3) := by decide +kernel
theorem d_X12_goesOn_131 : decode cX12_goesOn 131 = .ok (.iload 5, 2) := by decide +kernel
theorem d_X12_goesOn_133 : decode cX12_goesOn 133 = .ok (.ifCond .le 44, 3) := by decide +kernel
theorem d_X12_goesOn_136 : decode cX12_goesOn 136 = .ok (.aload_n 0, 1) := by decide +kernel
theorem d_X12_goesOn_137 : decode cX12_goesOn 137 = .ok (.getfield 84, 3) := by decide +kernel
theorem d_X12_goesOn_140 : decode cX12_goesOn 140 = .ok (.iload 7, 2) := by decide +kernel
theorem d_X12_goesOn_142 : decode cX12_goesOn 142 = .ok (.iaload, 1) := by decide +kernel
theorem d_X12_goesOn_143 : decode cX12_goesOn 143 = .ok (.sipush 128, 3) := by decide +kernel
theorem d_X12_goesOn_146 : decode cX12_goesOn 146 = .ok (.idiv, 1) := by decide +kernel
theorem d_X12_goesOn_147 : decode cX12_goesOn 147 = .ok (.iconst 3, 1) := by decide +kernel
theorem d_X12_goesOn_148 : decode cX12_goesOn 148 = .ok (.if_icmp .le 23, 3) := by decide +kernel
theorem d_X12_goesOn_151 : decode cX12_goesOn 151 = .ok (.aload_n 0, 1) := by decide +kernel
theorem d_X12_goesOn_152 : decode cX12_goesOn 152 = .ok (.aload_n 0, 1) := by decide +kernel
theorem d_X12_goesOn_153 : decode cX12_goesOn 153 = .ok (.getfield 84, 3) := by decide +kernel
theorem d_X12_goesOn_156 : decode cX12_goesOn 156 = .ok (.iload 7, 2) := by decide +kernel
theorem d_X12_goesOn_158 : decode cX12_goesOn 158 = .ok (.iaload, 1) := by decide +kernel
theorem d_X12_goesOn_159 : decode cX12_goesOn 159 = .ok (.sipush 128, 3) := by decide +kernel
theorem d_X12_goesOn_162 : decode cX12_goesOn 162 = .ok (.irem, 1) := by decide +kernel
theorem d_X12_goesOn_163 : decode cX12_goesOn 163 = .ok (.iload 4, 2) := by decide +kernel
theorem d_X12_goesOn_165 : decode cX12_goesOn 165 = .ok (.iload 5, 2) := by decide +kernel
theorem d_X12_goesOn_167 : decode cX12_goesOn 167 = .ok (.iconst 0, 1) := by decide +kernel
theorem d_X12_goesOn_168 : decode cX12_goesOn 168 = .ok (.invokevirtual 449, 3) := by decide +kernel
theorem d_X12_goesOn_171 : decode cX12_goesOn 171 = .ok (.iinc 7 1, 3) := by decide +kernel
theorem d_X12_goesOn_174 : decode cX12_goesOn 174 = .ok (.goto (-56), 3) := by decide +kernel
theorem d_X12_goesOn_177 : decode cX12_goesOn 177 = .ok (.aload_n 0, 1) := by decide +kernel
theorem d_X12_goesOn_178 : decode cX12_goesOn 178 = .ok (.getfield 80, 3) := by decide +kernel
theorem d_X12_goesOn_181 : decode cX12_goesOn 181 = .ok (.iload 4, 2) := by decide +kernel
theorem d_X12_goesOn_183 : decode cX12_goesOn 183 = .ok (.iaload, 1) := by decide +kernel
theorem d_X12_goesOn_184 : decode cX12_goesOn 184 = .ok (.istore 7, 2) := by decide +kernel
theorem d_X12_goesOn_186 : decode cX12_goesOn 186 = .ok (.iload 7, 2) := by decide +kernel
theorem d_X12_goesOn_188 : decode cX12_goesOn 188 = .ok (.aload_n 0, 1) := by decide +kernel
theorem d_X12_goesOn_189 : decode cX12_goesOn 189 = .ok (.getfield 80, 3) := by decide +kernel
theorem d_X12_goesOn_192 : decode cX12_goesOn 192 = .ok (.iload 4, 2) := by decide +kernel
theorem d_X12_goesOn_194 : decode cX12_goesOn 194 = .ok (.iconst 1, 1) := by decide +kernel
theorem d_X12_goesOn_195 : decode cX12_goesOn 195 = .ok (.iadd, 1) := by decide +kernel
theorem d_X12_goesOn_196 : decode cX12_goesOn 196 = .ok (.iaload, 1) := by decide +kernel
theorem d_X12_goesOn_197 : decode cX12_goesOn 197 = .ok (.if_icmp .ge 48, 3) := by decide +kernel
theorem d_X12_goesOn_200 : decode cX12_goesOn 200 = .ok (.iload 6, 2) := by decide +kernel
theorem d_X12_goesOn_202 : decode cX12_goesOn 202 = .ok (.ifCond .le 43, 3) := by decide +kernel
theorem d_X12_goesOn_205 : decode cX12_goesOn 205 = .ok (.aload_n 0, 1) := by decide +kernel
theorem d_X12_goesOn_206 : decode cX12_goesOn 206 = .ok (.getfield 84, 3) := by decide +kernel
theorem d_X12_goesOn_209 : decode cX12_goesOn 209 = .ok (.iload 7, 2) := by decide +kernel
theorem d_X12_goesOn_211 : decode cX12_goesOn 211 = .ok (.iaload, 1) := by decide +kernel
theorem d_X12_goesOn_212 : decode cX12_goesOn 212 = .ok (.sipush 128, 3) := by decide +kernel
theorem d_X12_goesOn_215 : decode cX12_goesOn 215 = .ok (.idiv, 1) := by decide +kernel
theorem d_X12_goesOn_216 : decode cX12_goesOn 216 = .ok (.iconst 3, 1) := by decide +kernel
theorem d_X12_goesOn_217 : decode cX12_goesOn 217 = .ok (.if_icmp .le 22, 3) := by decide +kernel
theorem d_X12_goesOn_220 : decode cX12_goesOn 220 = .ok (.aload_n 0, 1) := by decide +kernel
theorem d_X12_goesOn_221 : decode cX12_goesOn 221 = .ok (.iload_n 3, 1) := by decide +kernel
theorem d_X12_goesOn_222 : decode cX12_goesOn 222 = .ok (.aload_n 0, 1) := by decide +kernel
theorem d_X12_goesOn_223 : decode cX12_goesOn 223 = .ok (.getfield 84, 3) := by decide +kernel
theorem d_X12_goesOn_226 : decode cX12_goesOn 226 = .ok (.iload 7, 2) := by decide +kernel
theorem d_X12_goesOn_228 : decode cX12_goesOn 228 = .ok (.iaload, 1) := by decide +kernel
theorem d_X12_goesOn_229 : decode cX12_goesOn 229 = .ok (.sipush 128, 3) := by decide +kernel
theorem d_X12_goesOn_232 : decode cX12_goesOn 232 = .ok (.irem, 1) := by decide +kernel
theorem d_X12_goesOn_233 : decode cX12_goesOn 233 = .ok (.iload 6, 2) := by decide +kernel
theorem d_X12_goesOn_235 : decode cX12_goesOn 235 = .ok (.iconst 0, 1) := by decide +kernel
theorem d_X12_goesOn_236 : decode cX12_goesOn 236 = .ok (.invokevirtual 449, 3) := by decide +kernel
theorem d_X12_goesOn_239 : decode cX12_goesOn 239 = .ok (.iinc 7 1, 3) := by decide +kernel
theorem d_X12_goesOn_242 : decode cX12_goesOn 242 = .ok (.goto (-56), 3) := by decide +kernel
theorem d_X12_goesOn_245 : decode cX12_goesOn 245 = .ok (.return_, 1) := by decide +kernel
def k_X12_goesOn_108 (P : xP) (C118 : xK) : xK := x_istore 6 (x_aload 0 (y_getF 180 198 (x_iload 3 (y_iald 198 81 (x_istore 7 (C118))))))
set_option maxRecDepth 20000 in
theorem t_X12_goesOn_108 {p : Program} {l : Launch} {e : Env} {s : State} {m : MethodId} {args : Array Value} {below : List Frame} {meth : Method} {c : Code} {g : xG} (X : xX p s m args c meth cX12_goesOn RX12 8 g) (hr : meth.sig.returnType = none) {P : xP} {C118 : xK} (h118 : xAt p l e { frames := 2, cells := 0, slots := 0, locals := 53 } s m args below meth c g 8 xFT xN 0 0 (MQ below (xQc g xFT xN P) args s 0 0 (xFr g)) C118 118) : xAt p l e { frames := 2, cells := 0, slots := 0, locals := 53 } s m args below meth c g 8 xFT xN 0 0 (MQ below (xQc g xFT xN P) args s 0 0 (xFr g)) (k_X12_goesOn_108 P C118) 108 := by
  unfold k_X12_goesOn_108
  refine r_istore (pc := 108) X d_X12_goesOn_108 (by decide +kernel) ?_
  refine r_aload_n (pc := 110) X d_X12_goesOn_110 fn0 ?_
  refine s_getF (pc := 111) (ci := 12) (k := 37) X xok12 (by decide +kernel) ob_180 trivial ly_180_37 (by decide +kernel) fl_RX12_80 d_X12_goesOn_111 ?_
  refine r_iload_n (pc := 114) X d_X12_goesOn_114 fn3 ?_
  refine s_iald (pc := 115) X tn_198 ln_198 d_X12_goesOn_115 ?_
  refine r_istore (pc := 116) X d_X12_goesOn_116 (by decide +kernel) ?_
  exact h118
def k_X12_goesOn_67 (P : xP) (C118 : xK) : xK := x_istore 5 (x_iload 2 (x_if_le (x_iload 3 (x_push (.int 1) (x_icmp_ne (x_aload 0 (x_iload 3 (y_cv1 180 (w_RI f_X12_hasSign) (x_if_eq (x_push (.int (-1)) ((k_X12_goesOn_108 P C118))) (x_push (.int 3) ((k_X12_goesOn_108 P C118))))))) (x_push (.int 1) ((k_X12_goesOn_108 P C118)))))) (x_iload 2 (x_push (.int 2) (x_icmp_ne (x_iload 2 ((k_X12_goesOn_108 P C118))) (x_push (.int (-1)) ((k_X12_goesOn_108 P C118))))))))
set_option maxRecDepth 20000 in
theorem t_X12_goesOn_67 {p : Program} {l : Launch} {e : Env} {s : State} {m : MethodId} {args : Array Value} {below : List Frame} {meth : Method} {c : Code} {g : xG} (X : xX p s m args c meth cX12_goesOn RX12 8 g) (hr : meth.sig.returnType = none) {P : xP} {C118 : xK} (h118 : xAt p l e { frames := 2, cells := 0, slots := 0, locals := 53 } s m args below meth c g 8 xFT xN 0 0 (MQ below (xQc g xFT xN P) args s 0 0 (xFr g)) C118 118) : xAt p l e { frames := 2, cells := 0, slots := 0, locals := 53 } s m args below meth c g 8 xFT xN 0 0 (MQ below (xQc g xFT xN P) args s 0 0 (xFr g)) (k_X12_goesOn_67 P C118) 67 := by
  unfold k_X12_goesOn_67
  refine r_istore (pc := 67) X d_X12_goesOn_67 (by decide +kernel) ?_
  refine r_iload_n (pc := 69) X d_X12_goesOn_69 fn2 ?_
  refine r_if_le (pc := 70) (tgt := 86) X d_X12_goesOn_70 (by decide +kernel) ?_ ?_
  · refine r_iload_n (pc := 86) X d_X12_goesOn_86 fn3 ?_
    refine r_iconst (pc := 87) X d_X12_goesOn_87 (by decide +kernel) ?_
    refine r_icmp_ne (pc := 88) (tgt := 95) X d_X12_goesOn_88 (by decide +kernel) ?_ ?_
    · refine r_aload_n (pc := 95) X d_X12_goesOn_95 fn0 ?_
      refine r_iload_n (pc := 96) X d_X12_goesOn_96 fn3 ?_
      refine s_cv1 (pc := 97) (ci := 12) X xok12 (by decide +kernel) ob_180 rfl (con_X12_hasSign l) mf_X12_hasSign ml_RX12_457 (by decide +kernel) (by decide +kernel) d_X12_goesOn_97 ?_
      refine r_if_eq (pc := 100) (tgt := 107) X d_X12_goesOn_100 (by decide +kernel) ?_ ?_
      · refine r_iconst (pc := 107) X d_X12_goesOn_107 (by decide +kernel) ?_
        exact t_X12_goesOn_108 X hr h118
      · refine r_iconst (pc := 103) X d_X12_goesOn_103 (by decide +kernel) ?_
        refine r_goto (pc := 104) (tgt := 108) X d_X12_goesOn_104 (by decide +kernel) ?_
        exact t_X12_goesOn_108 X hr h118
    · refine r_iconst (pc := 91) X d_X12_goesOn_91 (by decide +kernel) ?_
      refine r_goto (pc := 92) (tgt := 108) X d_X12_goesOn_92 (by decide +kernel) ?_
      exact t_X12_goesOn_108 X hr h118
  · refine r_iload_n (pc := 73) X d_X12_goesOn_73 fn2 ?_
    refine r_iconst (pc := 74) X d_X12_goesOn_74 (by decide +kernel) ?_
    refine r_icmp_ne (pc := 75) (tgt := 82) X d_X12_goesOn_75 (by decide +kernel) ?_ ?_
    · refine r_iload_n (pc := 82) X d_X12_goesOn_82 fn2 ?_
      refine r_goto (pc := 83) (tgt := 108) X d_X12_goesOn_83 (by decide +kernel) ?_
      exact t_X12_goesOn_108 X hr h118
    · refine r_iconst (pc := 78) X d_X12_goesOn_78 (by decide +kernel) ?_
      refine r_goto (pc := 79) (tgt := 108) X d_X12_goesOn_79 (by decide +kernel) ?_
      exact t_X12_goesOn_108 X hr h118
def k_X12_goesOn_0 (P : xP) (C118 : xK) : xK := x_iload 1 (x_push (.int 4) (x_irem (x_istore 2 (x_iload 1 (x_push (.int 320) (x_idiv (x_istore 3 (x_iload 1 (x_push (.int 4) (x_idiv (x_push (.int 80) (x_irem (x_istore 4 (x_aload 0 (x_iload 3 (x_iload 4 (x_iload 2 (y_cv3 180 (w_RIII f_X12_together) (x_iload 2 (x_if_le (x_iload 4 (x_push (.int 1) (x_icmp_ne (x_aload 0 (x_iload 4 (y_cv1 180 (w_RI f_X12_hasSign) (x_if_eq (x_push (.int (-1)) ((k_X12_goesOn_67 P C118))) (x_push (.int 2) ((k_X12_goesOn_67 P C118))))))) (x_push (.int 1) ((k_X12_goesOn_67 P C118)))))) (x_iload 2 (x_push (.int 3) (x_icmp_ne (x_iload 2 ((k_X12_goesOn_67 P C118))) (x_push (.int (-1)) ((k_X12_goesOn_67 P C118))))))))))))))))))))))))))
set_option maxRecDepth 20000 in
theorem t_X12_goesOn_0 {p : Program} {l : Launch} {e : Env} {s : State} {m : MethodId} {args : Array Value} {below : List Frame} {meth : Method} {c : Code} {g : xG} (X : xX p s m args c meth cX12_goesOn RX12 8 g) (hr : meth.sig.returnType = none) {P : xP} {C118 : xK} (h118 : xAt p l e { frames := 2, cells := 0, slots := 0, locals := 53 } s m args below meth c g 8 xFT xN 0 0 (MQ below (xQc g xFT xN P) args s 0 0 (xFr g)) C118 118) : xAt p l e { frames := 2, cells := 0, slots := 0, locals := 53 } s m args below meth c g 8 xFT xN 0 0 (MQ below (xQc g xFT xN P) args s 0 0 (xFr g)) (k_X12_goesOn_0 P C118) 0 := by
  unfold k_X12_goesOn_0
  refine r_iload_n (pc := 0) X d_X12_goesOn_0 fn1 ?_
  refine r_iconst (pc := 1) X d_X12_goesOn_1 (by decide +kernel) ?_
  refine r_irem (pc := 2) X d_X12_goesOn_2 ?_
  refine r_istore_n (pc := 3) X d_X12_goesOn_3 fn2 (by decide +kernel) ?_
  refine r_iload_n (pc := 4) X d_X12_goesOn_4 fn1 ?_
  refine r_sipush (pc := 5) X d_X12_goesOn_5 (by decide +kernel) ?_
  refine r_idiv (pc := 8) X d_X12_goesOn_8 ?_
  refine r_istore_n (pc := 9) X d_X12_goesOn_9 fn3 (by decide +kernel) ?_
  refine r_iload_n (pc := 10) X d_X12_goesOn_10 fn1 ?_
  refine r_iconst (pc := 11) X d_X12_goesOn_11 (by decide +kernel) ?_
  refine r_idiv (pc := 12) X d_X12_goesOn_12 ?_
  refine r_bipush (pc := 13) X d_X12_goesOn_13 (by decide +kernel) ?_
  refine r_irem (pc := 15) X d_X12_goesOn_15 ?_
  refine r_istore (pc := 16) X d_X12_goesOn_16 (by decide +kernel) ?_
  refine r_aload_n (pc := 18) X d_X12_goesOn_18 fn0 ?_
  refine r_iload_n (pc := 19) X d_X12_goesOn_19 fn3 ?_
  refine r_iload (pc := 20) X d_X12_goesOn_20 ?_
  refine r_iload_n (pc := 22) X d_X12_goesOn_22 fn2 ?_
  refine s_cv3 (pc := 23) (ci := 12) X xok12 (by decide +kernel) ob_180 rfl (con_X12_together l) mf_X12_together ml_RX12_453 (by decide +kernel) (by decide +kernel) d_X12_goesOn_23 ?_
  refine r_iload_n (pc := 26) X d_X12_goesOn_26 fn2 ?_
  refine r_if_le (pc := 27) (tgt := 43) X d_X12_goesOn_27 (by decide +kernel) ?_ ?_
  · refine r_iload (pc := 43) X d_X12_goesOn_43 ?_
    refine r_iconst (pc := 45) X d_X12_goesOn_45 (by decide +kernel) ?_
    refine r_icmp_ne (pc := 46) (tgt := 53) X d_X12_goesOn_46 (by decide +kernel) ?_ ?_
    · refine r_aload_n (pc := 53) X d_X12_goesOn_53 fn0 ?_
      refine r_iload (pc := 54) X d_X12_goesOn_54 ?_
      refine s_cv1 (pc := 56) (ci := 12) X xok12 (by decide +kernel) ob_180 rfl (con_X12_hasSign l) mf_X12_hasSign ml_RX12_457 (by decide +kernel) (by decide +kernel) d_X12_goesOn_56 ?_
      refine r_if_eq (pc := 59) (tgt := 66) X d_X12_goesOn_59 (by decide +kernel) ?_ ?_
      · refine r_iconst (pc := 66) X d_X12_goesOn_66 (by decide +kernel) ?_
        exact t_X12_goesOn_67 X hr h118
      · refine r_iconst (pc := 62) X d_X12_goesOn_62 (by decide +kernel) ?_
        refine r_goto (pc := 63) (tgt := 67) X d_X12_goesOn_63 (by decide +kernel) ?_
        exact t_X12_goesOn_67 X hr h118
    · refine r_iconst (pc := 49) X d_X12_goesOn_49 (by decide +kernel) ?_
      refine r_goto (pc := 50) (tgt := 67) X d_X12_goesOn_50 (by decide +kernel) ?_
      exact t_X12_goesOn_67 X hr h118
  · refine r_iload_n (pc := 30) X d_X12_goesOn_30 fn2 ?_
    refine r_iconst (pc := 31) X d_X12_goesOn_31 (by decide +kernel) ?_
    refine r_icmp_ne (pc := 32) (tgt := 39) X d_X12_goesOn_32 (by decide +kernel) ?_ ?_
    · refine r_iload_n (pc := 39) X d_X12_goesOn_39 fn2 ?_
      refine r_goto (pc := 40) (tgt := 67) X d_X12_goesOn_40 (by decide +kernel) ?_
      exact t_X12_goesOn_67 X hr h118
    · refine r_iconst (pc := 35) X d_X12_goesOn_35 (by decide +kernel) ?_
      refine r_goto (pc := 36) (tgt := 67) X d_X12_goesOn_36 (by decide +kernel) ?_
      exact t_X12_goesOn_67 X hr h118
def k_X12_goesOn_177 (P : xP) (C186 : xK) : xK := x_aload 0 (y_getF 180 198 (x_iload 4 (y_iald 198 81 (x_istore 7 (C186)))))
set_option maxRecDepth 20000 in
theorem t_X12_goesOn_177 {p : Program} {l : Launch} {e : Env} {s : State} {m : MethodId} {args : Array Value} {below : List Frame} {meth : Method} {c : Code} {g : xG} (X : xX p s m args c meth cX12_goesOn RX12 8 g) (hr : meth.sig.returnType = none) {P : xP} {C186 : xK} (h186 : xAt p l e { frames := 2, cells := 0, slots := 0, locals := 53 } s m args below meth c g 8 xFT xN 0 0 (MQ below (xQc g xFT xN P) args s 0 0 (xFr g)) C186 186) : xAt p l e { frames := 2, cells := 0, slots := 0, locals := 53 } s m args below meth c g 8 xFT xN 0 0 (MQ below (xQc g xFT xN P) args s 0 0 (xFr g)) (k_X12_goesOn_177 P C186) 177 := by
  unfold k_X12_goesOn_177
  refine r_aload_n (pc := 177) X d_X12_goesOn_177 fn0 ?_
  refine s_getF (pc := 178) (ci := 12) (k := 37) X xok12 (by decide +kernel) ob_180 trivial ly_180_37 (by decide +kernel) fl_RX12_80 d_X12_goesOn_178 ?_
  refine r_iload (pc := 181) X d_X12_goesOn_181 ?_
  refine s_iald (pc := 183) X tn_198 ln_198 d_X12_goesOn_183 ?_
  refine r_istore (pc := 184) X d_X12_goesOn_184 (by decide +kernel) ?_
  exact h186
def k_X12_goesOn_171 (P : xP) (C118 : xK) : xK := x_iinc 7 1 (C118)
set_option maxRecDepth 20000 in
theorem t_X12_goesOn_171 {p : Program} {l : Launch} {e : Env} {s : State} {m : MethodId} {args : Array Value} {below : List Frame} {meth : Method} {c : Code} {g : xG} (X : xX p s m args c meth cX12_goesOn RX12 8 g) (hr : meth.sig.returnType = none) {P : xP} {C118 : xK} (h118 : xAt p l e { frames := 2, cells := 0, slots := 0, locals := 53 } s m args below meth c g 8 xFT xN 0 0 (MQ below (xQc g xFT xN P) args s 0 0 (xFr g)) C118 118) : xAt p l e { frames := 2, cells := 0, slots := 0, locals := 53 } s m args below meth c g 8 xFT xN 0 0 (MQ below (xQc g xFT xN P) args s 0 0 (xFr g)) (k_X12_goesOn_171 P C118) 171 := by
  unfold k_X12_goesOn_171
  refine r_iinc (pc := 171) X d_X12_goesOn_171 (by decide +kernel) (by decide +kernel) ?_
  refine r_goto (pc := 174) (tgt := 118) X d_X12_goesOn_174 (by decide +kernel) ?_
  exact h118
def k_X12_goesOn_118 (P : xP) (C118 : xK) (C186 : xK) : xK := x_iload 7 (x_aload 0 (y_getF 180 198 (x_iload 3 (x_push (.int 1) (x_iadd (y_iald 198 81 (x_icmp_ge ((k_X12_goesOn_177 P C186)) (x_iload 5 (x_if_le ((k_X12_goesOn_177 P C186)) (x_aload 0 (y_getF 180 199 (x_iload 7 (y_iald 199 76800 (x_push (.int 128) (x_idiv (x_push (.int 3) (x_icmp_le ((k_X12_goesOn_171 P C118)) (x_aload 0 (x_aload 0 (y_getF 180 199 (x_iload 7 (y_iald 199 76800 (x_push (.int 128) (x_irem (x_iload 4 (x_iload 5 (x_push (.int 0) (y_cv4 180 (w_RIIII f_X12_comes) ((k_X12_goesOn_171 P C118))))))))))))))))))))))))))))))
set_option maxRecDepth 20000 in
theorem t_X12_goesOn_118 {p : Program} {l : Launch} {e : Env} {s : State} {m : MethodId} {args : Array Value} {below : List Frame} {meth : Method} {c : Code} {g : xG} (X : xX p s m args c meth cX12_goesOn RX12 8 g) (hr : meth.sig.returnType = none) {P : xP} {C118 : xK} {C186 : xK} (h118 : xAt p l e { frames := 2, cells := 0, slots := 0, locals := 53 } s m args below meth c g 8 xFT xN 0 0 (MQ below (xQc g xFT xN P) args s 0 0 (xFr g)) C118 118) (h186 : xAt p l e { frames := 2, cells := 0, slots := 0, locals := 53 } s m args below meth c g 8 xFT xN 0 0 (MQ below (xQc g xFT xN P) args s 0 0 (xFr g)) C186 186) : xAt p l e { frames := 2, cells := 0, slots := 0, locals := 53 } s m args below meth c g 8 xFT xN 0 0 (MQ below (xQc g xFT xN P) args s 0 0 (xFr g)) (k_X12_goesOn_118 P C118 C186) 118 := by
  unfold k_X12_goesOn_118
  refine r_iload (pc := 118) X d_X12_goesOn_118 ?_
  refine r_aload_n (pc := 120) X d_X12_goesOn_120 fn0 ?_
  refine s_getF (pc := 121) (ci := 12) (k := 37) X xok12 (by decide +kernel) ob_180 trivial ly_180_37 (by decide +kernel) fl_RX12_80 d_X12_goesOn_121 ?_
  refine r_iload_n (pc := 124) X d_X12_goesOn_124 fn3 ?_
  refine r_iconst (pc := 125) X d_X12_goesOn_125 (by decide +kernel) ?_
  refine r_iadd (pc := 126) X d_X12_goesOn_126 ?_
  refine s_iald (pc := 127) X tn_198 ln_198 d_X12_goesOn_127 ?_
  refine r_icmp_ge (pc := 128) (tgt := 177) X d_X12_goesOn_128 (by decide +kernel) ?_ ?_
  · exact t_X12_goesOn_177 X hr h186
  · refine r_iload (pc := 131) X d_X12_goesOn_131 ?_
    refine r_if_le (pc := 133) (tgt := 177) X d_X12_goesOn_133 (by decide +kernel) ?_ ?_
    · exact t_X12_goesOn_177 X hr h186
    · refine r_aload_n (pc := 136) X d_X12_goesOn_136 fn0 ?_
      refine s_getF (pc := 137) (ci := 12) (k := 38) X xok12 (by decide +kernel) ob_180 trivial ly_180_38 (by decide +kernel) fl_RX12_84 d_X12_goesOn_137 ?_
      refine r_iload (pc := 140) X d_X12_goesOn_140 ?_
      refine s_iald (pc := 142) X tn_199 ln_199 d_X12_goesOn_142 ?_
      refine r_sipush (pc := 143) X d_X12_goesOn_143 (by decide +kernel) ?_
      refine r_idiv (pc := 146) X d_X12_goesOn_146 ?_
      refine r_iconst (pc := 147) X d_X12_goesOn_147 (by decide +kernel) ?_
      refine r_icmp_le (pc := 148) (tgt := 171) X d_X12_goesOn_148 (by decide +kernel) ?_ ?_
      · exact t_X12_goesOn_171 X hr h118
      · refine r_aload_n (pc := 151) X d_X12_goesOn_151 fn0 ?_
        refine r_aload_n (pc := 152) X d_X12_goesOn_152 fn0 ?_
        refine s_getF (pc := 153) (ci := 12) (k := 38) X xok12 (by decide +kernel) ob_180 trivial ly_180_38 (by decide +kernel) fl_RX12_84 d_X12_goesOn_153 ?_
        refine r_iload (pc := 156) X d_X12_goesOn_156 ?_
        refine s_iald (pc := 158) X tn_199 ln_199 d_X12_goesOn_158 ?_
        refine r_sipush (pc := 159) X d_X12_goesOn_159 (by decide +kernel) ?_
        refine r_irem (pc := 162) X d_X12_goesOn_162 ?_
        refine r_iload (pc := 163) X d_X12_goesOn_163 ?_
        refine r_iload (pc := 165) X d_X12_goesOn_165 ?_
        refine r_iconst (pc := 167) X d_X12_goesOn_167 (by decide +kernel) ?_
        refine s_cv4 (pc := 168) (ci := 12) X xok12 (by decide +kernel) ob_180 rfl (con_X12_comes l) mf_X12_comes ml_RX12_449 (by decide +kernel) (by decide +kernel) d_X12_goesOn_168 ?_
        exact t_X12_goesOn_171 X hr h118
def k_X12_goesOn_245 (P : xP) : xK := x_vret P
set_option maxRecDepth 20000 in
theorem t_X12_goesOn_245 {p : Program} {l : Launch} {e : Env} {s : State} {m : MethodId} {args : Array Value} {below : List Frame} {meth : Method} {c : Code} {g : xG} (X : xX p s m args c meth cX12_goesOn RX12 8 g) (hr : meth.sig.returnType = none) {P : xP} : xAt p l e { frames := 2, cells := 0, slots := 0, locals := 53 } s m args below meth c g 8 xFT xN 0 0 (MQ below (xQc g xFT xN P) args s 0 0 (xFr g)) (k_X12_goesOn_245 P) 245 := by
  unfold k_X12_goesOn_245
  exact r_vret (pc := 245) X hr d_X12_goesOn_245
def k_X12_goesOn_239 (P : xP) (C186 : xK) : xK := x_iinc 7 1 (C186)
set_option maxRecDepth 20000 in
theorem t_X12_goesOn_239 {p : Program} {l : Launch} {e : Env} {s : State} {m : MethodId} {args : Array Value} {below : List Frame} {meth : Method} {c : Code} {g : xG} (X : xX p s m args c meth cX12_goesOn RX12 8 g) (hr : meth.sig.returnType = none) {P : xP} {C186 : xK} (h186 : xAt p l e { frames := 2, cells := 0, slots := 0, locals := 53 } s m args below meth c g 8 xFT xN 0 0 (MQ below (xQc g xFT xN P) args s 0 0 (xFr g)) C186 186) : xAt p l e { frames := 2, cells := 0, slots := 0, locals := 53 } s m args below meth c g 8 xFT xN 0 0 (MQ below (xQc g xFT xN P) args s 0 0 (xFr g)) (k_X12_goesOn_239 P C186) 239 := by
  unfold k_X12_goesOn_239
  refine r_iinc (pc := 239) X d_X12_goesOn_239 (by decide +kernel) (by decide +kernel) ?_
  refine r_goto (pc := 242) (tgt := 186) X d_X12_goesOn_242 (by decide +kernel) ?_
  exact h186
def k_X12_goesOn_186 (P : xP) (C186 : xK) : xK := x_iload 7 (x_aload 0 (y_getF 180 198 (x_iload 4 (x_push (.int 1) (x_iadd (y_iald 198 81 (x_icmp_ge ((k_X12_goesOn_245 P)) (x_iload 6 (x_if_le ((k_X12_goesOn_245 P)) (x_aload 0 (y_getF 180 199 (x_iload 7 (y_iald 199 76800 (x_push (.int 128) (x_idiv (x_push (.int 3) (x_icmp_le ((k_X12_goesOn_239 P C186)) (x_aload 0 (x_iload 3 (x_aload 0 (y_getF 180 199 (x_iload 7 (y_iald 199 76800 (x_push (.int 128) (x_irem (x_iload 6 (x_push (.int 0) (y_cv4 180 (w_RIIII f_X12_comes) ((k_X12_goesOn_239 P C186))))))))))))))))))))))))))))))
set_option maxRecDepth 20000 in
theorem t_X12_goesOn_186 {p : Program} {l : Launch} {e : Env} {s : State} {m : MethodId} {args : Array Value} {below : List Frame} {meth : Method} {c : Code} {g : xG} (X : xX p s m args c meth cX12_goesOn RX12 8 g) (hr : meth.sig.returnType = none) {P : xP} {C186 : xK} (h186 : xAt p l e { frames := 2, cells := 0, slots := 0, locals := 53 } s m args below meth c g 8 xFT xN 0 0 (MQ below (xQc g xFT xN P) args s 0 0 (xFr g)) C186 186) : xAt p l e { frames := 2, cells := 0, slots := 0, locals := 53 } s m args below meth c g 8 xFT xN 0 0 (MQ below (xQc g xFT xN P) args s 0 0 (xFr g)) (k_X12_goesOn_186 P C186) 186 := by
  unfold k_X12_goesOn_186
  refine r_iload (pc := 186) X d_X12_goesOn_186 ?_
  refine r_aload_n (pc := 188) X d_X12_goesOn_188 fn0 ?_
  refine s_getF (pc := 189) (ci := 12) (k := 37) X xok12 (by decide +kernel) ob_180 trivial ly_180_37 (by decide +kernel) fl_RX12_80 d_X12_goesOn_189 ?_
  refine r_iload (pc := 192) X d_X12_goesOn_192 ?_
  refine r_iconst (pc := 194) X d_X12_goesOn_194 (by decide +kernel) ?_
  refine r_iadd (pc := 195) X d_X12_goesOn_195 ?_
  refine s_iald (pc := 196) X tn_198 ln_198 d_X12_goesOn_196 ?_
  refine r_icmp_ge (pc := 197) (tgt := 245) X d_X12_goesOn_197 (by decide +kernel) ?_ ?_
  · exact t_X12_goesOn_245 X hr
  · refine r_iload (pc := 200) X d_X12_goesOn_200 ?_
    refine r_if_le (pc := 202) (tgt := 245) X d_X12_goesOn_202 (by decide +kernel) ?_ ?_
    · exact t_X12_goesOn_245 X hr
    · refine r_aload_n (pc := 205) X d_X12_goesOn_205 fn0 ?_
      refine s_getF (pc := 206) (ci := 12) (k := 38) X xok12 (by decide +kernel) ob_180 trivial ly_180_38 (by decide +kernel) fl_RX12_84 d_X12_goesOn_206 ?_
      refine r_iload (pc := 209) X d_X12_goesOn_209 ?_
      refine s_iald (pc := 211) X tn_199 ln_199 d_X12_goesOn_211 ?_
      refine r_sipush (pc := 212) X d_X12_goesOn_212 (by decide +kernel) ?_
      refine r_idiv (pc := 215) X d_X12_goesOn_215 ?_
      refine r_iconst (pc := 216) X d_X12_goesOn_216 (by decide +kernel) ?_
      refine r_icmp_le (pc := 217) (tgt := 239) X d_X12_goesOn_217 (by decide +kernel) ?_ ?_
      · exact t_X12_goesOn_239 X hr h186
      · refine r_aload_n (pc := 220) X d_X12_goesOn_220 fn0 ?_
        refine r_iload_n (pc := 221) X d_X12_goesOn_221 fn3 ?_
        refine r_aload_n (pc := 222) X d_X12_goesOn_222 fn0 ?_
        refine s_getF (pc := 223) (ci := 12) (k := 38) X xok12 (by decide +kernel) ob_180 trivial ly_180_38 (by decide +kernel) fl_RX12_84 d_X12_goesOn_223 ?_
        refine r_iload (pc := 226) X d_X12_goesOn_226 ?_
        refine s_iald (pc := 228) X tn_199 ln_199 d_X12_goesOn_228 ?_
        refine r_sipush (pc := 229) X d_X12_goesOn_229 (by decide +kernel) ?_
        refine r_irem (pc := 232) X d_X12_goesOn_232 ?_
        refine r_iload (pc := 233) X d_X12_goesOn_233 ?_
        refine r_iconst (pc := 235) X d_X12_goesOn_235 (by decide +kernel) ?_
        refine s_cv4 (pc := 236) (ci := 12) X xok12 (by decide +kernel) ob_180 rfl (con_X12_comes l) mf_X12_comes ml_RX12_449 (by decide +kernel) (by decide +kernel) d_X12_goesOn_236 ?_
        exact t_X12_goesOn_239 X hr h186
set_option maxRecDepth 20000 in
theorem m_X12_goesOn {l : Launch} {f : Nat → Int32 → xH → xP → Prop}  {I118 : Nat → Int32 → xH → xP → xM → xK} {I186 : Nat → Int32 → xH → xP → xM → xK}
    (v0 : ∀ (a0 : Nat) (a1 : Int32) (A : xH) (P : xP), f a0 a1 A P → k_X12_goesOn_0 P (xE (I118 a0 a1 A P)) [some (.ref a0), some (.int a1), none, none, none, none, none, none] [] A)
    (v118 : ∀ (a0 : Nat) (a1 : Int32) (A : xH) (P : xP), f a0 a1 A P → ∀ (μ : xM) (L : xL) (st : List Value) (B : xH), I118 a0 a1 A P μ L st B → k_X12_goesOn_118 P (xB (I118 a0 a1 A P) μ) (xE (I186 a0 a1 A P)) L st B)
    (v186 : ∀ (a0 : Nat) (a1 : Int32) (A : xH) (P : xP), f a0 a1 A P → ∀ (μ : xM) (L : xL) (st : List Value) (B : xH), I186 a0 a1 A P μ L st B → k_X12_goesOn_186 P (xB (I186 a0 a1 A P) μ) L st B) : xCon l yX12_goesOn cX12_goesOn 8 none 2 53 xN xN 0 xFT xFT (w_RI f) := by
  refine xc_RI (plainFor_of_name pn_RX12) (by decide +kernel) (fun p e s m args below meth c g a0 a1 A P h X hr _ => ?_)
  have h186 := x_loop1 (p := p) (l := l) (e := e) (R := { frames := 2, cells := 0, slots := 0, locals := 53 }) (s := s) (m := m) (args := args) (below := below) (meth := meth) (c := c) (g := g) (nL := 8) (F := xFT) (n := xN) (cells := 0) (slots := 0) (Q := MQ below (xQc g xFT xN P) args s 0 0 (xFr g)) (I := I186 a0 a1 A P) (pc1 := 186) (fun μ i186 => xAt_mono (t_X12_goesOn_186 (P := P) X hr i186) (v186 a0 a1 A P h μ))
  have h118 := x_loop1 (p := p) (l := l) (e := e) (R := { frames := 2, cells := 0, slots := 0, locals := 53 }) (s := s) (m := m) (args := args) (below := below) (meth := meth) (c := c) (g := g) (nL := 8) (F := xFT) (n := xN) (cells := 0) (slots := 0) (Q := MQ below (xQc g xFT xN P) args s 0 0 (xFr g)) (I := I118 a0 a1 A P) (pc1 := 118) (fun μ i118 => xAt_mono (t_X12_goesOn_118 (P := P) X hr i118 h186) (v118 a0 a1 A P h μ))
  exact ⟨_, v0 a0 a1 A P h, t_X12_goesOn_0 X hr h118⟩
def goG (A : xH) (P : xP) (v : xV) (W : (Nat → Bool → Prop) → xH → Prop) (al : Nat → Bool → Prop) (V : Nat → Bool → Prop) (t : Nat) : Prop := cmW v W al ∧ wfg v ∧ wfc v ∧ (plL v).length ≤ 80 ∧ t < 25600 ∧ t / 320 < (plL v).length ∧ t / 4 % 80 < (plL v).length ∧ (∀ x g, eV v (nDe t) x g → al x g) ∧ ∀ B, W (fun x g => V x g ∨ eV v (nDe t) x g) B → P none B
def f_X12_goesOn (q : Nat) (x : Int32) (A : xH) (P : xP) : Prop := q = 180 ∧ ∃ (v : xV) (W : (Nat → Bool → Prop) → xH → Prop) (al : Nat → Bool → Prop) (V : Nat → Bool → Prop) (t : Nat), goG A P v W al V t ∧ W V A ∧ x = nI t
def go118 (A : xH) (P : xP) : xM → xK := fun μ L st B => ∃ (v : xV) (W : (Nat → Bool → Prop) → xH → Prop) (al : Nat → Bool → Prop) (V : Nat → Bool → Prop) (t s a b m : Nat), goG A P v W al V t ∧ nDe t = (s, a, b) ∧ m ≤ tN (stT v) a ∧ W (fun x g => V x g ∨ (pvA v s a b x g ∨ lvM v (lfN v s b) a b m x g)) B ∧ st = [] ∧ L = [some (.ref 180), some (.int (nI t)), some (.int (nI s)), some (.int (nI a)), some (.int (nI b)), some (.int (lI (lfN v s b))), some (.int (lI (rgN v s a))), some (.int (nI (bsY v a + m)))] ∧ μ = (1000 - m, 0, 0)
def go186 (A : xH) (P : xP) : xM → xK := fun μ L st B => ∃ (v : xV) (W : (Nat → Bool → Prop) → xH → Prop) (al : Nat → Bool → Prop) (V : Nat → Bool → Prop) (t s a b m k : Nat), goG A P v W al V t ∧ nDe t = (s, a, b) ∧ (lfN v s b ≠ 0 → m = tN (stT v) a) ∧ k ≤ tN (stT v) b ∧ W (fun x g => V x g ∨ ((pvA v s a b x g ∨ lvM v (lfN v s b) a b m x g) ∨ rvM v (rgN v s a) a b k x g)) B ∧ st = [] ∧ L = [some (.ref 180), some (.int (nI t)), some (.int (nI s)), some (.int (nI a)), some (.int (nI b)), some (.int (lI (lfN v s b))), some (.int (lI (rgN v s a))), some (.int (nI (bsY v b + k)))] ∧ μ = (1000 - k, 0, 0)
theorem goG_s {A : xH} {P : xP} {v : xV} {W : (Nat → Bool → Prop) → xH → Prop} {al V : Nat → Bool → Prop} {t s a b : Nat} (h : goG A P v W al V t) (e : nDe t = (s, a, b)) : s < 4 ∧ a < (plL v).length ∧ b < (plL v).length ∧ t % 4 = s ∧ t / 320 = a ∧ t / 4 % 80 = b := by
  obtain ⟨-, -, -, -, h1, h2, h3, -, -⟩ := h
  unfold nDe at e
  simp only [Prod.mk.injEq] at e
  omega
set_option maxRecDepth 20000 in
theorem con_X12_goesOn (l : Launch) : xCon l yX12_goesOn cX12_goesOn 8 none 2 53 xN xN 0 xFT xFT (w_RI f_X12_goesOn) := by
  refine m_X12_goesOn (I118 := fun q x A P => go118 A P) (I186 := fun q x A P => go186 A P) ?_ ?_ ?_
  · rintro q x A P ⟨rfl, v, W, al, V, t, hG, hW, rfl⟩
    have hG0 := hG
    obtain ⟨cW, hw, hc, h80, ht, hp, hq, hal, hP⟩ := hG
    obtain ⟨s, a, b, hd⟩ : ∃ s a b, nDe t = (s, a, b) := ⟨_, _, _, rfl⟩
    obtain ⟨s4, a8, b8, e1, e2, e3⟩ := goG_s hG0 hd
    simp (disch := omega) only [k_X12_goesOn_0, k_X12_goesOn_118, k_X12_goesOn_186, k_X12_goesOn_108, k_X12_goesOn_171, k_X12_goesOn_177, k_X12_goesOn_239, k_X12_goesOn_245, w_RI, w_RIII, w_RIIII, x_aload, x_iadd, x_icmp_ge, x_icmp_le, x_icmp_ne, x_idiv, x_if_eq, x_if_le, x_iinc, x_iload, x_irem, x_istore, x_push, x_vret, y_cv1, y_cv3, y_cv4, y_getF, y_iald, xFT, xbool0, xbool1, Nat.reduceAdd, Nat.zero_add, xgl_0, xgl_s, xgl_n, xst_0, xst_1n, xst_1i, xst_1r, xst_1l, xst_s, set_0, set_s, true_and, and_true, xres, xcat_nil, xcat_i, xcat_r, xcat_l, Nat.add_zero, xble0, xble1, xble2, xble3, xble4, xble5, xble6, xble7, xble8, pk_mul, nI_add, nI_1, nI_leI, nI_ltI, nI_eq, n_in, n_cl, z_eq, z_lt, z_le, z_gt, z_ge, z_qe, o_eq, o_lt, o_le, o_gt, o_ge, vp0, vp1, cl0, cl1, n_sub, n_sub1, n_pm1, n_a0, n_0a, ofn, lN0, Nat.reduceLT, Nat.reduceLeDiff, Nat.reduceMul, Nat.reduceSub, Nat.reduceEqDiff, ne_eq, true_implies, false_implies, not_true_eq_false, not_false_eq_true, and_self, and_true, true_and, and_false, false_and, implies_true, if_true, if_false, i00, i10, i01, i11, ob_0, ob_1, tn_2, ln_2, ob_3, tn_4, ln_4, ob_5, tn_6, ln_6, tn_7, ln_7, ob_8, tn_9, ln_9, tn_10, ln_10, tn_11, ln_11, tn_12, ln_12, tn_13, ln_13, tn_14, ln_14, tn_15, ln_15, tn_16, ln_16, tn_17, ln_17, ob_18, tn_19, ln_19, tn_20, ln_20, tn_21, ln_21, tn_22, ln_22, tn_23, ln_23, tn_24, ln_24, tn_25, ln_25, tn_26, ln_26, tn_27, ln_27, ob_28, tn_29, ln_29, tn_30, ln_30, ob_31, tn_32, ln_32, tn_33, ln_33, ob_34, ob_35, tn_36, ln_36, tn_37, ln_37, tn_38, ln_38, ob_39, tn_40, ln_40, tn_41, ln_41, tn_42, ln_42, tn_43, ln_43, tn_44, ln_44, tn_45, ln_45, tn_46, ln_46, tn_47, ln_47, tn_48, ln_48, tn_49, ln_49, tn_50, ln_50, tn_51, ln_51, ob_52, tn_53, ln_53, tn_54, ln_54, tn_55, ln_55, tn_56, ln_56, ob_57, tn_58, ln_58, tn_59, ln_59, tn_60, ln_60, tn_61, ln_61, tn_62, ln_62, tn_63, ln_63, tn_64, ln_64, tn_65, ln_65, ob_66, tn_67, ln_67, tn_68, ln_68, tn_69, ln_69, tn_70, ln_70, tn_71, ln_71, tn_72, ln_72, tn_73, ln_73, ob_74, tn_75, ln_75, tn_76, ln_76, tn_77, ln_77, tn_78, ln_78, tn_79, ln_79, tn_80, ln_80, tn_81, ln_81, tn_82, ln_82, tn_83, ln_83, ob_84, tn_85, ln_85, tn_86, ln_86, tn_87, ln_87, tn_88, ln_88, tn_89, ln_89, tn_90, ln_90, tn_91, ln_91, tn_92, ln_92, tn_93, ln_93, ob_94, tn_95, ln_95, tn_96, ln_96, tn_97, ln_97, tn_98, ln_98, tn_99, ln_99, tn_100, ln_100, tn_101, ln_101, tn_102, ln_102, tn_103, ln_103, ob_104, tn_105, ln_105, tn_106, ln_106, tn_107, ln_107, tn_108, ln_108, tn_109, ln_109, tn_110, ln_110, tn_111, ln_111, tn_112, ln_112, tn_113, ln_113, ob_114, tn_115, ln_115, tn_116, ln_116, tn_117, ln_117, tn_118, ln_118, tn_119, ln_119, tn_120, ln_120, tn_121, ln_121, tn_122, ln_122, tn_123, ln_123, ob_124, tn_125, ln_125, tn_126, ln_126, tn_127, ln_127, tn_128, ln_128, tn_129, ln_129, tn_130, ln_130, tn_131, ln_131, tn_132, ln_132, tn_133, ln_133, ob_134, tn_135, ln_135, tn_136, ln_136, tn_137, ln_137, tn_138, ln_138, tn_139, ln_139, tn_140, ln_140, tn_141, ln_141, tn_142, ln_142, tn_143, ln_143, ob_144, tn_145, ln_145, tn_146, ln_146, tn_147, ln_147, tn_148, ln_148, tn_149, ln_149, tn_150, ln_150, tn_151, ln_151, tn_152, ln_152, tn_153, ln_153, ob_154, tn_155, ln_155, tn_156, ln_156, tn_157, ln_157, tn_158, ln_158, tn_159, ln_159, tn_160, ln_160, tn_161, ln_161, tn_162, ln_162, tn_163, ln_163, ob_164, tn_165, ln_165, tn_166, ln_166, ob_167, tn_168, ln_168, tn_169, ln_169, tn_170, ln_170, tn_171, ln_171, tn_172, ln_172, tn_173, ln_173, tn_174, ln_174, tn_175, ln_175, tn_176, ln_176, ob_177, tn_178, ln_178, tn_179, ln_179, ob_180, tn_181, ln_181, tn_182, ln_182, tn_183, ln_183, tn_184, ln_184, tn_185, ln_185, tn_186, ln_186, tn_187, ln_187, tn_188, ln_188, tn_189, ln_189, tn_190, ln_190, tn_191, ln_191, tn_192, ln_192, tn_193, ln_193, tn_194, ln_194, tn_195, ln_195, tn_196, ln_196, tn_197, ln_197, tn_198, ln_198, tn_199, ln_199, tn_200, ln_200, tn_201, ln_201, tn_202, ln_202, tn_203, ln_203, tn_204, ln_204, tn_205, ln_205, tn_206, ln_206, tn_207, ln_207, tn_208, ln_208, tn_209, ln_209, tn_210, ln_210, tn_211, ln_211, tn_212, ln_212, tn_213, ln_213, tn_214, ln_214, tn_215, ln_215, tn_216, ln_216, tn_217, ln_217, tn_218, ln_218, tn_219, ln_219, tn_220, ln_220, tn_221, ln_221, tn_222, ln_222, tn_223, ln_223, tn_224, ln_224, tn_225, ln_225, tn_226, ln_226, tn_227, ln_227, tn_228, ln_228, tn_229, ln_229, tn_230, ln_230, lx2, lx3, lx4, lx5, lx6, lx7, lx8, lx9, lx10, lx14, lx15, lx16, lx18, lx20, lx24, lx25, lx27, lx32, lx36, lx40, lx41, lx42, lx43, lx45, lx48, lx52, lx54, lx56, lx57, lx58, lx60, lx61, lx62, lx63, lx64, lx66, lx69, lx73, lx80, lx81, lx84, lx85, lx87, lx94, lx96, lx97, lx120, lx128, lx135, lx160, lx162, lx163, lx165, lx200, lx232, lx242, lx243, lx255, lx256, lx320, lx325, lx400, lx405, lx464, lx512, lx600, lx640, lx752, lx900, lx940, lx1000, lx1024, lx1764, lx3360, lx3840, lx5000, lx6400, lx9050, lx9998, lx9999, lx10000, lx25600, lx76800, lx99999, pk_div]
    simp only [show t - t / 4 * 4 = s by omega, show t / 4 - t / 4 / 80 * 80 = b by omega, e2]
    have hs2 := hd
    refine ⟨rfl, v, W, al, V, a, b, s, ⟨cW, hw, hc, h80, a8, b8, s4, fun x g w => hal x g ?_, fun C hC => ?_⟩, hW, rfl, rfl, rfl⟩
    · rw [hd, eV_all (m := tN (stT v) a) (k := tN (stT v) b) hw hc h80 (fun _ => rfl) fun _ => rfl]
      exact Or.inl (Or.inl w)
    · have dC := cW.1 _ _ hC
      obtain ⟨r1, r2, r3, r4, r5⟩ := pl_rd hw hc h80 dC a8
      have fin108 : k_X12_goesOn_108 P (xE (go118 A P)) [some (.ref 180), some (.int (nI t)), some (.int (nI s)), some (.int (nI a)), some (.int (nI b)), some (.int (lI (lfN v s b))), none, none] [.int (lI (rgN v s a))] C := by
        simp (disch := omega) only [k_X12_goesOn_0, k_X12_goesOn_118, k_X12_goesOn_186, k_X12_goesOn_67, k_X12_goesOn_108, k_X12_goesOn_171, k_X12_goesOn_177, k_X12_goesOn_239, k_X12_goesOn_245, f_X12_comes, f_X12_hasSign, f_X12_together, w_RI, w_RIII, w_RIIII, x_aload, x_iadd, x_icmp_ge, x_icmp_le, x_icmp_ne, x_idiv, x_if_eq, x_if_le, x_iinc, x_iload, x_irem, x_istore, x_push, x_vret, y_cv1, y_cv3, y_cv4, y_getF, y_iald, xFT, xbool0, xbool1, Nat.reduceAdd, Nat.zero_add, xgl_0, xgl_s, xgl_n, xst_0, xst_1n, xst_1i, xst_1r, xst_1l, xst_s, set_0, set_s, true_and, and_true, xres, xcat_nil, xcat_i, xcat_r, xcat_l, Nat.add_zero, xble0, xble1, xble2, xble3, xble4, xble5, xble6, xble7, xble8, pk_mul, nI_add, nI_1, nI_leI, nI_ltI, nI_eq, n_in, n_cl, z_eq, z_lt, z_le, z_gt, z_ge, z_qe, o_eq, o_lt, o_le, o_gt, o_ge, vp0, vp1, cl0, cl1, n_sub, n_sub1, n_pm1, n_a0, n_0a, ofn, lN0, Nat.reduceLT, Nat.reduceLeDiff, Nat.reduceMul, Nat.reduceSub, Nat.reduceEqDiff, ne_eq, true_implies, false_implies, not_true_eq_false, not_false_eq_true, and_self, and_true, true_and, and_false, false_and, implies_true, if_true, if_false, i00, i10, i01, i11, ob_0, ob_1, tn_2, ln_2, ob_3, tn_4, ln_4, ob_5, tn_6, ln_6, tn_7, ln_7, ob_8, tn_9, ln_9, tn_10, ln_10, tn_11, ln_11, tn_12, ln_12, tn_13, ln_13, tn_14, ln_14, tn_15, ln_15, tn_16, ln_16, tn_17, ln_17, ob_18, tn_19, ln_19, tn_20, ln_20, tn_21, ln_21, tn_22, ln_22, tn_23, ln_23, tn_24, ln_24, tn_25, ln_25, tn_26, ln_26, tn_27, ln_27, ob_28, tn_29, ln_29, tn_30, ln_30, ob_31, tn_32, ln_32, tn_33, ln_33, ob_34, ob_35, tn_36, ln_36, tn_37, ln_37, tn_38, ln_38, ob_39, tn_40, ln_40, tn_41, ln_41, tn_42, ln_42, tn_43, ln_43, tn_44, ln_44, tn_45, ln_45, tn_46, ln_46, tn_47, ln_47, tn_48, ln_48, tn_49, ln_49, tn_50, ln_50, tn_51, ln_51, ob_52, tn_53, ln_53, tn_54, ln_54, tn_55, ln_55, tn_56, ln_56, ob_57, tn_58, ln_58, tn_59, ln_59, tn_60, ln_60, tn_61, ln_61, tn_62, ln_62, tn_63, ln_63, tn_64, ln_64, tn_65, ln_65, ob_66, tn_67, ln_67, tn_68, ln_68, tn_69, ln_69, tn_70, ln_70, tn_71, ln_71, tn_72, ln_72, tn_73, ln_73, ob_74, tn_75, ln_75, tn_76, ln_76, tn_77, ln_77, tn_78, ln_78, tn_79, ln_79, tn_80, ln_80, tn_81, ln_81, tn_82, ln_82, tn_83, ln_83, ob_84, tn_85, ln_85, tn_86, ln_86, tn_87, ln_87, tn_88, ln_88, tn_89, ln_89, tn_90, ln_90, tn_91, ln_91, tn_92, ln_92, tn_93, ln_93, ob_94, tn_95, ln_95, tn_96, ln_96, tn_97, ln_97, tn_98, ln_98, tn_99, ln_99, tn_100, ln_100, tn_101, ln_101, tn_102, ln_102, tn_103, ln_103, ob_104, tn_105, ln_105, tn_106, ln_106, tn_107, ln_107, tn_108, ln_108, tn_109, ln_109, tn_110, ln_110, tn_111, ln_111, tn_112, ln_112, tn_113, ln_113, ob_114, tn_115, ln_115, tn_116, ln_116, tn_117, ln_117, tn_118, ln_118, tn_119, ln_119, tn_120, ln_120, tn_121, ln_121, tn_122, ln_122, tn_123, ln_123, ob_124, tn_125, ln_125, tn_126, ln_126, tn_127, ln_127, tn_128, ln_128, tn_129, ln_129, tn_130, ln_130, tn_131, ln_131, tn_132, ln_132, tn_133, ln_133, ob_134, tn_135, ln_135, tn_136, ln_136, tn_137, ln_137, tn_138, ln_138, tn_139, ln_139, tn_140, ln_140, tn_141, ln_141, tn_142, ln_142, tn_143, ln_143, ob_144, tn_145, ln_145, tn_146, ln_146, tn_147, ln_147, tn_148, ln_148, tn_149, ln_149, tn_150, ln_150, tn_151, ln_151, tn_152, ln_152, tn_153, ln_153, ob_154, tn_155, ln_155, tn_156, ln_156, tn_157, ln_157, tn_158, ln_158, tn_159, ln_159, tn_160, ln_160, tn_161, ln_161, tn_162, ln_162, tn_163, ln_163, ob_164, tn_165, ln_165, tn_166, ln_166, ob_167, tn_168, ln_168, tn_169, ln_169, tn_170, ln_170, tn_171, ln_171, tn_172, ln_172, tn_173, ln_173, tn_174, ln_174, tn_175, ln_175, tn_176, ln_176, ob_177, tn_178, ln_178, tn_179, ln_179, ob_180, tn_181, ln_181, tn_182, ln_182, tn_183, ln_183, tn_184, ln_184, tn_185, ln_185, tn_186, ln_186, tn_187, ln_187, tn_188, ln_188, tn_189, ln_189, tn_190, ln_190, tn_191, ln_191, tn_192, ln_192, tn_193, ln_193, tn_194, ln_194, tn_195, ln_195, tn_196, ln_196, tn_197, ln_197, tn_198, ln_198, tn_199, ln_199, tn_200, ln_200, tn_201, ln_201, tn_202, ln_202, tn_203, ln_203, tn_204, ln_204, tn_205, ln_205, tn_206, ln_206, tn_207, ln_207, tn_208, ln_208, tn_209, ln_209, tn_210, ln_210, tn_211, ln_211, tn_212, ln_212, tn_213, ln_213, tn_214, ln_214, tn_215, ln_215, tn_216, ln_216, tn_217, ln_217, tn_218, ln_218, tn_219, ln_219, tn_220, ln_220, tn_221, ln_221, tn_222, ln_222, tn_223, ln_223, tn_224, ln_224, tn_225, ln_225, tn_226, ln_226, tn_227, ln_227, tn_228, ln_228, tn_229, ln_229, tn_230, ln_230, lx2, lx3, lx4, lx5, lx6, lx7, lx8, lx9, lx10, lx14, lx15, lx16, lx18, lx20, lx24, lx25, lx27, lx32, lx36, lx40, lx41, lx42, lx43, lx45, lx48, lx52, lx54, lx56, lx57, lx58, lx60, lx61, lx62, lx63, lx64, lx66, lx69, lx73, lx80, lx81, lx84, lx85, lx87, lx94, lx96, lx97, lx120, lx128, lx135, lx160, lx162, lx163, lx165, lx200, lx232, lx242, lx243, lx255, lx256, lx320, lx325, lx400, lx405, lx464, lx512, lx600, lx640, lx752, lx900, lx940, lx1000, lx1024, lx1764, lx3360, lx3840, lx5000, lx6400, lx9050, lx9998, lx9999, lx10000, lx25600, lx76800, lx99999, r1]
        refine ⟨by omega, xE0 (1000 - 0, 0, 0) ⟨v, W, al, V, t, s, a, b, 0, hG0, hd, Nat.zero_le _, cW.2.1 _ _ _ hC fun x g => ?_, rfl, rfl, rfl⟩⟩
        constructor
        · rintro (w | w)
          · exact Or.inl w
          · exact Or.inr (Or.inl w)
        · rintro (w | w | ⟨-, -, y, -, -, -, w, -⟩)
          · exact Or.inl w
          · exact Or.inr w
          · exact absurd w (Nat.not_lt_zero _)
      have fin67 : k_X12_goesOn_67 P (xE (go118 A P)) [some (.ref 180), some (.int (nI t)), some (.int (nI s)), some (.int (nI a)), some (.int (nI b)), none, none, none] [.int (lI (lfN v s b))] C := by
        have ix : xst [some (.ref 180), some (.int (nI t)), some (.int (nI s)), some (.int (nI a)), some (.int (nI b)), none, none, none] 5 (.int (lI (lfN v s b))) = [some (.ref 180), some (.int (nI t)), some (.int (nI s)), some (.int (nI a)), some (.int (nI b)), some (.int (lI (lfN v s b))), none, none] := rfl
        have f108 : ∀ y, y = lI (rgN v s a) → k_X12_goesOn_108 P (xE (go118 A P)) [some (.ref 180), some (.int (nI t)), some (.int (nI s)), some (.int (nI a)), some (.int (nI b)), some (.int (lI (lfN v s b))), none, none] [.int y] C := fun y hy => by rw [hy]; exact fin108
        simp (disch := omega) only [k_X12_goesOn_0, k_X12_goesOn_118, k_X12_goesOn_186, k_X12_goesOn_67, k_X12_goesOn_171, k_X12_goesOn_177, k_X12_goesOn_239, k_X12_goesOn_245, w_RI, w_RIII, w_RIIII, x_aload, x_iadd, x_icmp_ge, x_icmp_le, x_icmp_ne, x_idiv, x_if_eq, x_if_le, x_iinc, x_iload, x_irem, x_istore, x_push, x_vret, y_cv1, y_cv3, y_cv4, y_getF, y_iald, xFT, xbool0, xbool1, Nat.reduceAdd, Nat.zero_add, xgl_0, xgl_s, xgl_n, xst_0, xst_1n, xst_1i, xst_1r, xst_1l, xst_s, set_0, set_s, true_and, and_true, xres, xcat_nil, xcat_i, xcat_r, xcat_l, Nat.add_zero, xble0, xble1, xble2, xble3, xble4, xble5, xble6, xble7, xble8, pk_mul, nI_add, nI_1, nI_leI, nI_ltI, nI_eq, n_in, n_cl, z_eq, z_lt, z_le, z_gt, z_ge, z_qe, o_eq, o_lt, o_le, o_gt, o_ge, vp0, vp1, cl0, cl1, n_sub, n_sub1, n_pm1, n_a0, n_0a, ofn, lN0, Nat.reduceLT, Nat.reduceLeDiff, Nat.reduceMul, Nat.reduceSub, Nat.reduceEqDiff, ne_eq, true_implies, false_implies, not_true_eq_false, not_false_eq_true, and_self, and_true, true_and, and_false, false_and, implies_true, if_true, if_false, i00, i10, i01, i11, ob_0, ob_1, tn_2, ln_2, ob_3, tn_4, ln_4, ob_5, tn_6, ln_6, tn_7, ln_7, ob_8, tn_9, ln_9, tn_10, ln_10, tn_11, ln_11, tn_12, ln_12, tn_13, ln_13, tn_14, ln_14, tn_15, ln_15, tn_16, ln_16, tn_17, ln_17, ob_18, tn_19, ln_19, tn_20, ln_20, tn_21, ln_21, tn_22, ln_22, tn_23, ln_23, tn_24, ln_24, tn_25, ln_25, tn_26, ln_26, tn_27, ln_27, ob_28, tn_29, ln_29, tn_30, ln_30, ob_31, tn_32, ln_32, tn_33, ln_33, ob_34, ob_35, tn_36, ln_36, tn_37, ln_37, tn_38, ln_38, ob_39, tn_40, ln_40, tn_41, ln_41, tn_42, ln_42, tn_43, ln_43, tn_44, ln_44, tn_45, ln_45, tn_46, ln_46, tn_47, ln_47, tn_48, ln_48, tn_49, ln_49, tn_50, ln_50, tn_51, ln_51, ob_52, tn_53, ln_53, tn_54, ln_54, tn_55, ln_55, tn_56, ln_56, ob_57, tn_58, ln_58, tn_59, ln_59, tn_60, ln_60, tn_61, ln_61, tn_62, ln_62, tn_63, ln_63, tn_64, ln_64, tn_65, ln_65, ob_66, tn_67, ln_67, tn_68, ln_68, tn_69, ln_69, tn_70, ln_70, tn_71, ln_71, tn_72, ln_72, tn_73, ln_73, ob_74, tn_75, ln_75, tn_76, ln_76, tn_77, ln_77, tn_78, ln_78, tn_79, ln_79, tn_80, ln_80, tn_81, ln_81, tn_82, ln_82, tn_83, ln_83, ob_84, tn_85, ln_85, tn_86, ln_86, tn_87, ln_87, tn_88, ln_88, tn_89, ln_89, tn_90, ln_90, tn_91, ln_91, tn_92, ln_92, tn_93, ln_93, ob_94, tn_95, ln_95, tn_96, ln_96, tn_97, ln_97, tn_98, ln_98, tn_99, ln_99, tn_100, ln_100, tn_101, ln_101, tn_102, ln_102, tn_103, ln_103, ob_104, tn_105, ln_105, tn_106, ln_106, tn_107, ln_107, tn_108, ln_108, tn_109, ln_109, tn_110, ln_110, tn_111, ln_111, tn_112, ln_112, tn_113, ln_113, ob_114, tn_115, ln_115, tn_116, ln_116, tn_117, ln_117, tn_118, ln_118, tn_119, ln_119, tn_120, ln_120, tn_121, ln_121, tn_122, ln_122, tn_123, ln_123, ob_124, tn_125, ln_125, tn_126, ln_126, tn_127, ln_127, tn_128, ln_128, tn_129, ln_129, tn_130, ln_130, tn_131, ln_131, tn_132, ln_132, tn_133, ln_133, ob_134, tn_135, ln_135, tn_136, ln_136, tn_137, ln_137, tn_138, ln_138, tn_139, ln_139, tn_140, ln_140, tn_141, ln_141, tn_142, ln_142, tn_143, ln_143, ob_144, tn_145, ln_145, tn_146, ln_146, tn_147, ln_147, tn_148, ln_148, tn_149, ln_149, tn_150, ln_150, tn_151, ln_151, tn_152, ln_152, tn_153, ln_153, ob_154, tn_155, ln_155, tn_156, ln_156, tn_157, ln_157, tn_158, ln_158, tn_159, ln_159, tn_160, ln_160, tn_161, ln_161, tn_162, ln_162, tn_163, ln_163, ob_164, tn_165, ln_165, tn_166, ln_166, ob_167, tn_168, ln_168, tn_169, ln_169, tn_170, ln_170, tn_171, ln_171, tn_172, ln_172, tn_173, ln_173, tn_174, ln_174, tn_175, ln_175, tn_176, ln_176, ob_177, tn_178, ln_178, tn_179, ln_179, ob_180, tn_181, ln_181, tn_182, ln_182, tn_183, ln_183, tn_184, ln_184, tn_185, ln_185, tn_186, ln_186, tn_187, ln_187, tn_188, ln_188, tn_189, ln_189, tn_190, ln_190, tn_191, ln_191, tn_192, ln_192, tn_193, ln_193, tn_194, ln_194, tn_195, ln_195, tn_196, ln_196, tn_197, ln_197, tn_198, ln_198, tn_199, ln_199, tn_200, ln_200, tn_201, ln_201, tn_202, ln_202, tn_203, ln_203, tn_204, ln_204, tn_205, ln_205, tn_206, ln_206, tn_207, ln_207, tn_208, ln_208, tn_209, ln_209, tn_210, ln_210, tn_211, ln_211, tn_212, ln_212, tn_213, ln_213, tn_214, ln_214, tn_215, ln_215, tn_216, ln_216, tn_217, ln_217, tn_218, ln_218, tn_219, ln_219, tn_220, ln_220, tn_221, ln_221, tn_222, ln_222, tn_223, ln_223, tn_224, ln_224, tn_225, ln_225, tn_226, ln_226, tn_227, ln_227, tn_228, ln_228, tn_229, ln_229, tn_230, ln_230, lx2, lx3, lx4, lx5, lx6, lx7, lx8, lx9, lx10, lx14, lx15, lx16, lx18, lx20, lx24, lx25, lx27, lx32, lx36, lx40, lx41, lx42, lx43, lx45, lx48, lx52, lx54, lx56, lx57, lx58, lx60, lx61, lx62, lx63, lx64, lx66, lx69, lx73, lx80, lx81, lx84, lx85, lx87, lx94, lx96, lx97, lx120, lx128, lx135, lx160, lx162, lx163, lx165, lx200, lx232, lx242, lx243, lx255, lx256, lx320, lx325, lx400, lx405, lx464, lx512, lx600, lx640, lx752, lx900, lx940, lx1000, lx1024, lx1764, lx3360, lx3840, lx5000, lx6400, lx9050, lx9998, lx9999, lx10000, lx25600, lx76800, lx99999, ix]
        refine ⟨fun s0 => ⟨fun a1 => hasSign_U hw hc h80 dC a8 ?_, fun a1 => f108 _ ?_⟩, fun s0 => ⟨fun s2 => f108 _ ?_, fun s2 => f108 _ ?_⟩⟩
        · simp (disch := omega) only [k_X12_goesOn_0, k_X12_goesOn_118, k_X12_goesOn_186, k_X12_goesOn_67, k_X12_goesOn_171, k_X12_goesOn_177, k_X12_goesOn_239, k_X12_goesOn_245, w_RI, w_RIII, w_RIIII, x_aload, x_iadd, x_icmp_ge, x_icmp_le, x_icmp_ne, x_idiv, x_if_eq, x_if_le, x_iinc, x_iload, x_irem, x_istore, x_push, x_vret, y_cv1, y_cv3, y_cv4, y_getF, y_iald, xFT, xbool0, xbool1, Nat.reduceAdd, Nat.zero_add, xgl_0, xgl_s, xgl_n, xst_0, xst_1n, xst_1i, xst_1r, xst_1l, xst_s, set_0, set_s, true_and, and_true, xres, xcat_nil, xcat_i, xcat_r, xcat_l, Nat.add_zero, xble0, xble1, xble2, xble3, xble4, xble5, xble6, xble7, xble8, pk_mul, nI_add, nI_1, nI_leI, nI_ltI, nI_eq, n_in, n_cl, z_eq, z_lt, z_le, z_gt, z_ge, z_qe, o_eq, o_lt, o_le, o_gt, o_ge, vp0, vp1, cl0, cl1, n_sub, n_sub1, n_pm1, n_a0, n_0a, ofn, lN0, Nat.reduceLT, Nat.reduceLeDiff, Nat.reduceMul, Nat.reduceSub, Nat.reduceEqDiff, ne_eq, true_implies, false_implies, not_true_eq_false, not_false_eq_true, and_self, and_true, true_and, and_false, false_and, implies_true, if_true, if_false, i00, i10, i01, i11, ob_0, ob_1, tn_2, ln_2, ob_3, tn_4, ln_4, ob_5, tn_6, ln_6, tn_7, ln_7, ob_8, tn_9, ln_9, tn_10, ln_10, tn_11, ln_11, tn_12, ln_12, tn_13, ln_13, tn_14, ln_14, tn_15, ln_15, tn_16, ln_16, tn_17, ln_17, ob_18, tn_19, ln_19, tn_20, ln_20, tn_21, ln_21, tn_22, ln_22, tn_23, ln_23, tn_24, ln_24, tn_25, ln_25, tn_26, ln_26, tn_27, ln_27, ob_28, tn_29, ln_29, tn_30, ln_30, ob_31, tn_32, ln_32, tn_33, ln_33, ob_34, ob_35, tn_36, ln_36, tn_37, ln_37, tn_38, ln_38, ob_39, tn_40, ln_40, tn_41, ln_41, tn_42, ln_42, tn_43, ln_43, tn_44, ln_44, tn_45, ln_45, tn_46, ln_46, tn_47, ln_47, tn_48, ln_48, tn_49, ln_49, tn_50, ln_50, tn_51, ln_51, ob_52, tn_53, ln_53, tn_54, ln_54, tn_55, ln_55, tn_56, ln_56, ob_57, tn_58, ln_58, tn_59, ln_59, tn_60, ln_60, tn_61, ln_61, tn_62, ln_62, tn_63, ln_63, tn_64, ln_64, tn_65, ln_65, ob_66, tn_67, ln_67, tn_68, ln_68, tn_69, ln_69, tn_70, ln_70, tn_71, ln_71, tn_72, ln_72, tn_73, ln_73, ob_74, tn_75, ln_75, tn_76, ln_76, tn_77, ln_77, tn_78, ln_78, tn_79, ln_79, tn_80, ln_80, tn_81, ln_81, tn_82, ln_82, tn_83, ln_83, ob_84, tn_85, ln_85, tn_86, ln_86, tn_87, ln_87, tn_88, ln_88, tn_89, ln_89, tn_90, ln_90, tn_91, ln_91, tn_92, ln_92, tn_93, ln_93, ob_94, tn_95, ln_95, tn_96, ln_96, tn_97, ln_97, tn_98, ln_98, tn_99, ln_99, tn_100, ln_100, tn_101, ln_101, tn_102, ln_102, tn_103, ln_103, ob_104, tn_105, ln_105, tn_106, ln_106, tn_107, ln_107, tn_108, ln_108, tn_109, ln_109, tn_110, ln_110, tn_111, ln_111, tn_112, ln_112, tn_113, ln_113, ob_114, tn_115, ln_115, tn_116, ln_116, tn_117, ln_117, tn_118, ln_118, tn_119, ln_119, tn_120, ln_120, tn_121, ln_121, tn_122, ln_122, tn_123, ln_123, ob_124, tn_125, ln_125, tn_126, ln_126, tn_127, ln_127, tn_128, ln_128, tn_129, ln_129, tn_130, ln_130, tn_131, ln_131, tn_132, ln_132, tn_133, ln_133, ob_134, tn_135, ln_135, tn_136, ln_136, tn_137, ln_137, tn_138, ln_138, tn_139, ln_139, tn_140, ln_140, tn_141, ln_141, tn_142, ln_142, tn_143, ln_143, ob_144, tn_145, ln_145, tn_146, ln_146, tn_147, ln_147, tn_148, ln_148, tn_149, ln_149, tn_150, ln_150, tn_151, ln_151, tn_152, ln_152, tn_153, ln_153, ob_154, tn_155, ln_155, tn_156, ln_156, tn_157, ln_157, tn_158, ln_158, tn_159, ln_159, tn_160, ln_160, tn_161, ln_161, tn_162, ln_162, tn_163, ln_163, ob_164, tn_165, ln_165, tn_166, ln_166, ob_167, tn_168, ln_168, tn_169, ln_169, tn_170, ln_170, tn_171, ln_171, tn_172, ln_172, tn_173, ln_173, tn_174, ln_174, tn_175, ln_175, tn_176, ln_176, ob_177, tn_178, ln_178, tn_179, ln_179, ob_180, tn_181, ln_181, tn_182, ln_182, tn_183, ln_183, tn_184, ln_184, tn_185, ln_185, tn_186, ln_186, tn_187, ln_187, tn_188, ln_188, tn_189, ln_189, tn_190, ln_190, tn_191, ln_191, tn_192, ln_192, tn_193, ln_193, tn_194, ln_194, tn_195, ln_195, tn_196, ln_196, tn_197, ln_197, tn_198, ln_198, tn_199, ln_199, tn_200, ln_200, tn_201, ln_201, tn_202, ln_202, tn_203, ln_203, tn_204, ln_204, tn_205, ln_205, tn_206, ln_206, tn_207, ln_207, tn_208, ln_208, tn_209, ln_209, tn_210, ln_210, tn_211, ln_211, tn_212, ln_212, tn_213, ln_213, tn_214, ln_214, tn_215, ln_215, tn_216, ln_216, tn_217, ln_217, tn_218, ln_218, tn_219, ln_219, tn_220, ln_220, tn_221, ln_221, tn_222, ln_222, tn_223, ln_223, tn_224, ln_224, tn_225, ln_225, tn_226, ln_226, tn_227, ln_227, tn_228, ln_228, tn_229, ln_229, tn_230, ln_230, lx2, lx3, lx4, lx5, lx6, lx7, lx8, lx9, lx10, lx14, lx15, lx16, lx18, lx20, lx24, lx25, lx27, lx32, lx36, lx40, lx41, lx42, lx43, lx45, lx48, lx52, lx54, lx56, lx57, lx58, lx60, lx61, lx62, lx63, lx64, lx66, lx69, lx73, lx80, lx81, lx84, lx85, lx87, lx94, lx96, lx97, lx120, lx128, lx135, lx160, lx162, lx163, lx165, lx200, lx232, lx242, lx243, lx255, lx256, lx320, lx325, lx400, lx405, lx464, lx512, lx600, lx640, lx752, lx900, lx940, lx1000, lx1024, lx1764, lx3360, lx3840, lx5000, lx6400, lx9050, lx9998, lx9999, lx10000, lx25600, lx76800, lx99999, bI_t]
          refine ⟨fun z => f108 _ ?_, fun z => f108 _ ?_⟩
          · unfold rgN; rw [if_pos s0, if_neg a1, z, if_neg (by decide)]; rfl
          · unfold rgN; rw [if_pos s0, if_neg a1, show bt (hsV v a) = true by cases w : bt (hsV v a); exact absurd w z; rfl, if_pos rfl]; rfl
        · unfold rgN; rw [if_pos s0, if_pos a1]; rfl
        · unfold rgN; rw [if_neg s0, if_neg s2]; exact (if_neg s0).symm
        · unfold rgN; rw [if_neg s0, if_pos s2]; rfl
      have f67 : ∀ y, y = lI (lfN v s b) → k_X12_goesOn_67 P (xE (go118 A P)) [some (.ref 180), some (.int (nI t)), some (.int (nI s)), some (.int (nI a)), some (.int (nI b)), none, none, none] [.int y] C := fun y hy => by rw [hy]; exact fin67
      refine ⟨fun s0 => ⟨fun a1 => ⟨rfl, hasSign_U hw hc h80 dC b8 ?_⟩, fun a1 => f67 _ ?_⟩, fun s0 => ⟨fun s2 => f67 _ ?_, fun s2 => f67 _ ?_⟩⟩
      · simp (disch := omega) only [k_X12_goesOn_0, k_X12_goesOn_118, k_X12_goesOn_186, k_X12_goesOn_108, k_X12_goesOn_171, k_X12_goesOn_177, k_X12_goesOn_239, k_X12_goesOn_245, w_RI, w_RIII, w_RIIII, x_aload, x_iadd, x_icmp_ge, x_icmp_le, x_icmp_ne, x_idiv, x_if_eq, x_if_le, x_iinc, x_iload, x_irem, x_istore, x_push, x_vret, y_cv1, y_cv3, y_cv4, y_getF, y_iald, xFT, xbool0, xbool1, Nat.reduceAdd, Nat.zero_add, xgl_0, xgl_s, xgl_n, xst_0, xst_1n, xst_1i, xst_1r, xst_1l, xst_s, set_0, set_s, true_and, and_true, xres, xcat_nil, xcat_i, xcat_r, xcat_l, Nat.add_zero, xble0, xble1, xble2, xble3, xble4, xble5, xble6, xble7, xble8, pk_mul, nI_add, nI_1, nI_leI, nI_ltI, nI_eq, n_in, n_cl, z_eq, z_lt, z_le, z_gt, z_ge, z_qe, o_eq, o_lt, o_le, o_gt, o_ge, vp0, vp1, cl0, cl1, n_sub, n_sub1, n_pm1, n_a0, n_0a, ofn, lN0, Nat.reduceLT, Nat.reduceLeDiff, Nat.reduceMul, Nat.reduceSub, Nat.reduceEqDiff, ne_eq, true_implies, false_implies, not_true_eq_false, not_false_eq_true, and_self, and_true, true_and, and_false, false_and, implies_true, if_true, if_false, i00, i10, i01, i11, ob_0, ob_1, tn_2, ln_2, ob_3, tn_4, ln_4, ob_5, tn_6, ln_6, tn_7, ln_7, ob_8, tn_9, ln_9, tn_10, ln_10, tn_11, ln_11, tn_12, ln_12, tn_13, ln_13, tn_14, ln_14, tn_15, ln_15, tn_16, ln_16, tn_17, ln_17, ob_18, tn_19, ln_19, tn_20, ln_20, tn_21, ln_21, tn_22, ln_22, tn_23, ln_23, tn_24, ln_24, tn_25, ln_25, tn_26, ln_26, tn_27, ln_27, ob_28, tn_29, ln_29, tn_30, ln_30, ob_31, tn_32, ln_32, tn_33, ln_33, ob_34, ob_35, tn_36, ln_36, tn_37, ln_37, tn_38, ln_38, ob_39, tn_40, ln_40, tn_41, ln_41, tn_42, ln_42, tn_43, ln_43, tn_44, ln_44, tn_45, ln_45, tn_46, ln_46, tn_47, ln_47, tn_48, ln_48, tn_49, ln_49, tn_50, ln_50, tn_51, ln_51, ob_52, tn_53, ln_53, tn_54, ln_54, tn_55, ln_55, tn_56, ln_56, ob_57, tn_58, ln_58, tn_59, ln_59, tn_60, ln_60, tn_61, ln_61, tn_62, ln_62, tn_63, ln_63, tn_64, ln_64, tn_65, ln_65, ob_66, tn_67, ln_67, tn_68, ln_68, tn_69, ln_69, tn_70, ln_70, tn_71, ln_71, tn_72, ln_72, tn_73, ln_73, ob_74, tn_75, ln_75, tn_76, ln_76, tn_77, ln_77, tn_78, ln_78, tn_79, ln_79, tn_80, ln_80, tn_81, ln_81, tn_82, ln_82, tn_83, ln_83, ob_84, tn_85, ln_85, tn_86, ln_86, tn_87, ln_87, tn_88, ln_88, tn_89, ln_89, tn_90, ln_90, tn_91, ln_91, tn_92, ln_92, tn_93, ln_93, ob_94, tn_95, ln_95, tn_96, ln_96, tn_97, ln_97, tn_98, ln_98, tn_99, ln_99, tn_100, ln_100, tn_101, ln_101, tn_102, ln_102, tn_103, ln_103, ob_104, tn_105, ln_105, tn_106, ln_106, tn_107, ln_107, tn_108, ln_108, tn_109, ln_109, tn_110, ln_110, tn_111, ln_111, tn_112, ln_112, tn_113, ln_113, ob_114, tn_115, ln_115, tn_116, ln_116, tn_117, ln_117, tn_118, ln_118, tn_119, ln_119, tn_120, ln_120, tn_121, ln_121, tn_122, ln_122, tn_123, ln_123, ob_124, tn_125, ln_125, tn_126, ln_126, tn_127, ln_127, tn_128, ln_128, tn_129, ln_129, tn_130, ln_130, tn_131, ln_131, tn_132, ln_132, tn_133, ln_133, ob_134, tn_135, ln_135, tn_136, ln_136, tn_137, ln_137, tn_138, ln_138, tn_139, ln_139, tn_140, ln_140, tn_141, ln_141, tn_142, ln_142, tn_143, ln_143, ob_144, tn_145, ln_145, tn_146, ln_146, tn_147, ln_147, tn_148, ln_148, tn_149, ln_149, tn_150, ln_150, tn_151, ln_151, tn_152, ln_152, tn_153, ln_153, ob_154, tn_155, ln_155, tn_156, ln_156, tn_157, ln_157, tn_158, ln_158, tn_159, ln_159, tn_160, ln_160, tn_161, ln_161, tn_162, ln_162, tn_163, ln_163, ob_164, tn_165, ln_165, tn_166, ln_166, ob_167, tn_168, ln_168, tn_169, ln_169, tn_170, ln_170, tn_171, ln_171, tn_172, ln_172, tn_173, ln_173, tn_174, ln_174, tn_175, ln_175, tn_176, ln_176, ob_177, tn_178, ln_178, tn_179, ln_179, ob_180, tn_181, ln_181, tn_182, ln_182, tn_183, ln_183, tn_184, ln_184, tn_185, ln_185, tn_186, ln_186, tn_187, ln_187, tn_188, ln_188, tn_189, ln_189, tn_190, ln_190, tn_191, ln_191, tn_192, ln_192, tn_193, ln_193, tn_194, ln_194, tn_195, ln_195, tn_196, ln_196, tn_197, ln_197, tn_198, ln_198, tn_199, ln_199, tn_200, ln_200, tn_201, ln_201, tn_202, ln_202, tn_203, ln_203, tn_204, ln_204, tn_205, ln_205, tn_206, ln_206, tn_207, ln_207, tn_208, ln_208, tn_209, ln_209, tn_210, ln_210, tn_211, ln_211, tn_212, ln_212, tn_213, ln_213, tn_214, ln_214, tn_215, ln_215, tn_216, ln_216, tn_217, ln_217, tn_218, ln_218, tn_219, ln_219, tn_220, ln_220, tn_221, ln_221, tn_222, ln_222, tn_223, ln_223, tn_224, ln_224, tn_225, ln_225, tn_226, ln_226, tn_227, ln_227, tn_228, ln_228, tn_229, ln_229, tn_230, ln_230, lx2, lx3, lx4, lx5, lx6, lx7, lx8, lx9, lx10, lx14, lx15, lx16, lx18, lx20, lx24, lx25, lx27, lx32, lx36, lx40, lx41, lx42, lx43, lx45, lx48, lx52, lx54, lx56, lx57, lx58, lx60, lx61, lx62, lx63, lx64, lx66, lx69, lx73, lx80, lx81, lx84, lx85, lx87, lx94, lx96, lx97, lx120, lx128, lx135, lx160, lx162, lx163, lx165, lx200, lx232, lx242, lx243, lx255, lx256, lx320, lx325, lx400, lx405, lx464, lx512, lx600, lx640, lx752, lx900, lx940, lx1000, lx1024, lx1764, lx3360, lx3840, lx5000, lx6400, lx9050, lx9998, lx9999, lx10000, lx25600, lx76800, lx99999, bI_t]
        refine ⟨fun z => f67 _ ?_, fun z => f67 _ ?_⟩
        · unfold lfN; rw [if_pos s0, if_neg a1, z, if_neg (by decide)]; rfl
        · unfold lfN; rw [if_pos s0, if_neg a1, show bt (hsV v b) = true by cases w : bt (hsV v b); exact absurd w z; rfl, if_pos rfl]; rfl
      · unfold lfN; rw [if_pos s0, if_pos a1]; rfl
      · unfold lfN; rw [if_neg s0, if_neg s2]; exact (if_neg s0).symm
      · unfold lfN; rw [if_neg s0, if_pos s2]; rfl
  · rintro q x A P - μ L st B ⟨v, W, al, V, t, s, a, b, m, hG, hd, hm, hW, rfl, rfl, rfl⟩
    have hG0 := hG
    obtain ⟨s4, a8, b8, e1, e2, e3⟩ := goG_s hG0 hd
    obtain ⟨cW, hw, hc, h80, ht, hp, hq, hal, hP⟩ := hG
    obtain ⟨r1, r2, r3, r4, r5⟩ := pl_rd hw hc h80 (cW.1 _ _ hW) a8
    obtain ⟨q1, q2, q3, q4, q5⟩ := pl_rd hw hc h80 (cW.1 _ _ hW) b8
    have l4 := lf_4 (v := v) (q := b) s4
    simp (disch := omega) only [k_X12_goesOn_0, k_X12_goesOn_118, k_X12_goesOn_186, k_X12_goesOn_67, k_X12_goesOn_108, k_X12_goesOn_171, k_X12_goesOn_177, k_X12_goesOn_239, k_X12_goesOn_245, w_RI, w_RIII, w_RIIII, x_aload, x_iadd, x_icmp_ge, x_icmp_le, x_icmp_ne, x_idiv, x_if_eq, x_if_le, x_iinc, x_iload, x_irem, x_istore, x_push, x_vret, y_cv1, y_cv3, y_cv4, y_getF, y_iald, xFT, xbool0, xbool1, Nat.reduceAdd, Nat.zero_add, xgl_0, xgl_s, xgl_n, xst_0, xst_1n, xst_1i, xst_1r, xst_1l, xst_s, set_0, set_s, true_and, and_true, xres, xcat_nil, xcat_i, xcat_r, xcat_l, Nat.add_zero, xble0, xble1, xble2, xble3, xble4, xble5, xble6, xble7, xble8, pk_mul, nI_add, nI_1, nI_leI, nI_ltI, nI_eq, n_in, n_cl, z_eq, z_lt, z_le, z_gt, z_ge, z_qe, o_eq, o_lt, o_le, o_gt, o_ge, vp0, vp1, cl0, cl1, n_sub, n_sub1, n_pm1, n_a0, n_0a, ofn, lN0, Nat.reduceLT, Nat.reduceLeDiff, Nat.reduceMul, Nat.reduceSub, Nat.reduceEqDiff, ne_eq, true_implies, false_implies, not_true_eq_false, not_false_eq_true, and_self, and_true, true_and, and_false, false_and, implies_true, if_true, if_false, i00, i10, i01, i11, ob_0, ob_1, tn_2, ln_2, ob_3, tn_4, ln_4, ob_5, tn_6, ln_6, tn_7, ln_7, ob_8, tn_9, ln_9, tn_10, ln_10, tn_11, ln_11, tn_12, ln_12, tn_13, ln_13, tn_14, ln_14, tn_15, ln_15, tn_16, ln_16, tn_17, ln_17, ob_18, tn_19, ln_19, tn_20, ln_20, tn_21, ln_21, tn_22, ln_22, tn_23, ln_23, tn_24, ln_24, tn_25, ln_25, tn_26, ln_26, tn_27, ln_27, ob_28, tn_29, ln_29, tn_30, ln_30, ob_31, tn_32, ln_32, tn_33, ln_33, ob_34, ob_35, tn_36, ln_36, tn_37, ln_37, tn_38, ln_38, ob_39, tn_40, ln_40, tn_41, ln_41, tn_42, ln_42, tn_43, ln_43, tn_44, ln_44, tn_45, ln_45, tn_46, ln_46, tn_47, ln_47, tn_48, ln_48, tn_49, ln_49, tn_50, ln_50, tn_51, ln_51, ob_52, tn_53, ln_53, tn_54, ln_54, tn_55, ln_55, tn_56, ln_56, ob_57, tn_58, ln_58, tn_59, ln_59, tn_60, ln_60, tn_61, ln_61, tn_62, ln_62, tn_63, ln_63, tn_64, ln_64, tn_65, ln_65, ob_66, tn_67, ln_67, tn_68, ln_68, tn_69, ln_69, tn_70, ln_70, tn_71, ln_71, tn_72, ln_72, tn_73, ln_73, ob_74, tn_75, ln_75, tn_76, ln_76, tn_77, ln_77, tn_78, ln_78, tn_79, ln_79, tn_80, ln_80, tn_81, ln_81, tn_82, ln_82, tn_83, ln_83, ob_84, tn_85, ln_85, tn_86, ln_86, tn_87, ln_87, tn_88, ln_88, tn_89, ln_89, tn_90, ln_90, tn_91, ln_91, tn_92, ln_92, tn_93, ln_93, ob_94, tn_95, ln_95, tn_96, ln_96, tn_97, ln_97, tn_98, ln_98, tn_99, ln_99, tn_100, ln_100, tn_101, ln_101, tn_102, ln_102, tn_103, ln_103, ob_104, tn_105, ln_105, tn_106, ln_106, tn_107, ln_107, tn_108, ln_108, tn_109, ln_109, tn_110, ln_110, tn_111, ln_111, tn_112, ln_112, tn_113, ln_113, ob_114, tn_115, ln_115, tn_116, ln_116, tn_117, ln_117, tn_118, ln_118, tn_119, ln_119, tn_120, ln_120, tn_121, ln_121, tn_122, ln_122, tn_123, ln_123, ob_124, tn_125, ln_125, tn_126, ln_126, tn_127, ln_127, tn_128, ln_128, tn_129, ln_129, tn_130, ln_130, tn_131, ln_131, tn_132, ln_132, tn_133, ln_133, ob_134, tn_135, ln_135, tn_136, ln_136, tn_137, ln_137, tn_138, ln_138, tn_139, ln_139, tn_140, ln_140, tn_141, ln_141, tn_142, ln_142, tn_143, ln_143, ob_144, tn_145, ln_145, tn_146, ln_146, tn_147, ln_147, tn_148, ln_148, tn_149, ln_149, tn_150, ln_150, tn_151, ln_151, tn_152, ln_152, tn_153, ln_153, ob_154, tn_155, ln_155, tn_156, ln_156, tn_157, ln_157, tn_158, ln_158, tn_159, ln_159, tn_160, ln_160, tn_161, ln_161, tn_162, ln_162, tn_163, ln_163, ob_164, tn_165, ln_165, tn_166, ln_166, ob_167, tn_168, ln_168, tn_169, ln_169, tn_170, ln_170, tn_171, ln_171, tn_172, ln_172, tn_173, ln_173, tn_174, ln_174, tn_175, ln_175, tn_176, ln_176, ob_177, tn_178, ln_178, tn_179, ln_179, ob_180, tn_181, ln_181, tn_182, ln_182, tn_183, ln_183, tn_184, ln_184, tn_185, ln_185, tn_186, ln_186, tn_187, ln_187, tn_188, ln_188, tn_189, ln_189, tn_190, ln_190, tn_191, ln_191, tn_192, ln_192, tn_193, ln_193, tn_194, ln_194, tn_195, ln_195, tn_196, ln_196, tn_197, ln_197, tn_198, ln_198, tn_199, ln_199, tn_200, ln_200, tn_201, ln_201, tn_202, ln_202, tn_203, ln_203, tn_204, ln_204, tn_205, ln_205, tn_206, ln_206, tn_207, ln_207, tn_208, ln_208, tn_209, ln_209, tn_210, ln_210, tn_211, ln_211, tn_212, ln_212, tn_213, ln_213, tn_214, ln_214, tn_215, ln_215, tn_216, ln_216, tn_217, ln_217, tn_218, ln_218, tn_219, ln_219, tn_220, ln_220, tn_221, ln_221, tn_222, ln_222, tn_223, ln_223, tn_224, ln_224, tn_225, ln_225, tn_226, ln_226, tn_227, ln_227, tn_228, ln_228, tn_229, ln_229, tn_230, ln_230, lx2, lx3, lx4, lx5, lx6, lx7, lx8, lx9, lx10, lx14, lx15, lx16, lx18, lx20, lx24, lx25, lx27, lx32, lx36, lx40, lx41, lx42, lx43, lx45, lx48, lx52, lx54, lx56, lx57, lx58, lx60, lx61, lx62, lx63, lx64, lx66, lx69, lx73, lx80, lx81, lx84, lx85, lx87, lx94, lx96, lx97, lx120, lx128, lx135, lx160, lx162, lx163, lx165, lx200, lx232, lx242, lx243, lx255, lx256, lx320, lx325, lx400, lx405, lx464, lx512, lx600, lx640, lx752, lx900, lx940, lx1000, lx1024, lx1764, lx3360, lx3840, lx5000, lx6400, lx9050, lx9998, lx9999, lx10000, lx25600, lx76800, lx99999, r2, q1, lI_le l4]
    have out : (lfN v s b ≠ 0 → m = tN (stT v) a) → xE (go186 A P) [some (.ref 180), some (.int (nI t)), some (.int (nI s)), some (.int (nI a)), some (.int (nI b)), some (.int (lI (lfN v s b))), some (.int (lI (rgN v s a))), some (.int (nI (bsY v b)))] [] B := fun hm2 => by
      refine xE0 (1000 - 0, 0, 0) ⟨v, W, al, V, t, s, a, b, m, 0, hG0, hd, hm2, Nat.zero_le _, cW.2.1 _ _ _ hW fun x g => ?_, rfl, rfl, rfl⟩
      constructor
      · rintro (w | w)
        · exact Or.inl w
        · exact Or.inr (Or.inl w)
      · rintro (w | w | ⟨-, -, y, -, -, -, w, -⟩)
        · exact Or.inl w
        · exact Or.inr w
        · exact absurd w (Nat.not_lt_zero _)
    refine ⟨by omega, fun z => ⟨by omega, out fun _ => by omega⟩, fun z => ⟨fun l0 => ⟨by omega, out fun w => absurd l0 w⟩, fun l0 => ?_⟩⟩
    obtain ⟨y, y1, y2, y3, y4⟩ := r5 m (by omega)
    have p1 := tY_pl y2
    simp (disch := omega) only [pk_mul, nI_add, nI_1, nI_leI, nI_ltI, nI_eq, n_in, n_cl, z_eq, z_lt, z_le, z_gt, z_ge, z_qe, o_eq, o_lt, o_le, o_gt, o_ge, vp0, vp1, cl0, cl1, n_sub, n_sub1, n_pm1, n_a0, n_0a, ofn, lN0, Nat.reduceLT, Nat.reduceLeDiff, Nat.reduceMul, Nat.reduceSub, Nat.reduceEqDiff, ne_eq, true_implies, false_implies, not_true_eq_false, not_false_eq_true, and_self, and_true, true_and, and_false, false_and, implies_true, if_true, if_false, i00, i10, i01, i11, ob_0, ob_1, tn_2, ln_2, ob_3, tn_4, ln_4, ob_5, tn_6, ln_6, tn_7, ln_7, ob_8, tn_9, ln_9, tn_10, ln_10, tn_11, ln_11, tn_12, ln_12, tn_13, ln_13, tn_14, ln_14, tn_15, ln_15, tn_16, ln_16, tn_17, ln_17, ob_18, tn_19, ln_19, tn_20, ln_20, tn_21, ln_21, tn_22, ln_22, tn_23, ln_23, tn_24, ln_24, tn_25, ln_25, tn_26, ln_26, tn_27, ln_27, ob_28, tn_29, ln_29, tn_30, ln_30, ob_31, tn_32, ln_32, tn_33, ln_33, ob_34, ob_35, tn_36, ln_36, tn_37, ln_37, tn_38, ln_38, ob_39, tn_40, ln_40, tn_41, ln_41, tn_42, ln_42, tn_43, ln_43, tn_44, ln_44, tn_45, ln_45, tn_46, ln_46, tn_47, ln_47, tn_48, ln_48, tn_49, ln_49, tn_50, ln_50, tn_51, ln_51, ob_52, tn_53, ln_53, tn_54, ln_54, tn_55, ln_55, tn_56, ln_56, ob_57, tn_58, ln_58, tn_59, ln_59, tn_60, ln_60, tn_61, ln_61, tn_62, ln_62, tn_63, ln_63, tn_64, ln_64, tn_65, ln_65, ob_66, tn_67, ln_67, tn_68, ln_68, tn_69, ln_69, tn_70, ln_70, tn_71, ln_71, tn_72, ln_72, tn_73, ln_73, ob_74, tn_75, ln_75, tn_76, ln_76, tn_77, ln_77, tn_78, ln_78, tn_79, ln_79, tn_80, ln_80, tn_81, ln_81, tn_82, ln_82, tn_83, ln_83, ob_84, tn_85, ln_85, tn_86, ln_86, tn_87, ln_87, tn_88, ln_88, tn_89, ln_89, tn_90, ln_90, tn_91, ln_91, tn_92, ln_92, tn_93, ln_93, ob_94, tn_95, ln_95, tn_96, ln_96, tn_97, ln_97, tn_98, ln_98, tn_99, ln_99, tn_100, ln_100, tn_101, ln_101, tn_102, ln_102, tn_103, ln_103, ob_104, tn_105, ln_105, tn_106, ln_106, tn_107, ln_107, tn_108, ln_108, tn_109, ln_109, tn_110, ln_110, tn_111, ln_111, tn_112, ln_112, tn_113, ln_113, ob_114, tn_115, ln_115, tn_116, ln_116, tn_117, ln_117, tn_118, ln_118, tn_119, ln_119, tn_120, ln_120, tn_121, ln_121, tn_122, ln_122, tn_123, ln_123, ob_124, tn_125, ln_125, tn_126, ln_126, tn_127, ln_127, tn_128, ln_128, tn_129, ln_129, tn_130, ln_130, tn_131, ln_131, tn_132, ln_132, tn_133, ln_133, ob_134, tn_135, ln_135, tn_136, ln_136, tn_137, ln_137, tn_138, ln_138, tn_139, ln_139, tn_140, ln_140, tn_141, ln_141, tn_142, ln_142, tn_143, ln_143, ob_144, tn_145, ln_145, tn_146, ln_146, tn_147, ln_147, tn_148, ln_148, tn_149, ln_149, tn_150, ln_150, tn_151, ln_151, tn_152, ln_152, tn_153, ln_153, ob_154, tn_155, ln_155, tn_156, ln_156, tn_157, ln_157, tn_158, ln_158, tn_159, ln_159, tn_160, ln_160, tn_161, ln_161, tn_162, ln_162, tn_163, ln_163, ob_164, tn_165, ln_165, tn_166, ln_166, ob_167, tn_168, ln_168, tn_169, ln_169, tn_170, ln_170, tn_171, ln_171, tn_172, ln_172, tn_173, ln_173, tn_174, ln_174, tn_175, ln_175, tn_176, ln_176, ob_177, tn_178, ln_178, tn_179, ln_179, ob_180, tn_181, ln_181, tn_182, ln_182, tn_183, ln_183, tn_184, ln_184, tn_185, ln_185, tn_186, ln_186, tn_187, ln_187, tn_188, ln_188, tn_189, ln_189, tn_190, ln_190, tn_191, ln_191, tn_192, ln_192, tn_193, ln_193, tn_194, ln_194, tn_195, ln_195, tn_196, ln_196, tn_197, ln_197, tn_198, ln_198, tn_199, ln_199, tn_200, ln_200, tn_201, ln_201, tn_202, ln_202, tn_203, ln_203, tn_204, ln_204, tn_205, ln_205, tn_206, ln_206, tn_207, ln_207, tn_208, ln_208, tn_209, ln_209, tn_210, ln_210, tn_211, ln_211, tn_212, ln_212, tn_213, ln_213, tn_214, ln_214, tn_215, ln_215, tn_216, ln_216, tn_217, ln_217, tn_218, ln_218, tn_219, ln_219, tn_220, ln_220, tn_221, ln_221, tn_222, ln_222, tn_223, ln_223, tn_224, ln_224, tn_225, ln_225, tn_226, ln_226, tn_227, ln_227, tn_228, ln_228, tn_229, ln_229, tn_230, ln_230, lx2, lx3, lx4, lx5, lx6, lx7, lx8, lx9, lx10, lx14, lx15, lx16, lx18, lx20, lx24, lx25, lx27, lx32, lx36, lx40, lx41, lx42, lx43, lx45, lx48, lx52, lx54, lx56, lx57, lx58, lx60, lx61, lx62, lx63, lx64, lx66, lx69, lx73, lx80, lx81, lx84, lx85, lx87, lx94, lx96, lx97, lx120, lx128, lx135, lx160, lx162, lx163, lx165, lx200, lx232, lx242, lx243, lx255, lx256, lx320, lx325, lx400, lx405, lx464, lx512, lx600, lx640, lx752, lx900, lx940, lx1000, lx1024, lx1764, lx3360, lx3840, lx5000, lx6400, lx9050, lx9998, lx9999, lx10000, lx25600, lx76800, lx99999, y4, pk_div]
    have nxt : ∀ C, W (fun x g => V x g ∨ (pvA v s a b x g ∨ lvM v (lfN v s b) a b (m + 1) x g)) C → xB (go118 A P) (1000 - m, 0, 0) [some (.ref 180), some (.int (nI t)), some (.int (nI s)), some (.int (nI a)), some (.int (nI b)), some (.int (lI (lfN v s b))), some (.int (lI (rgN v s a))), some (.int (nI (bsY v a + m + 1)))] [] C := fun C hC =>
      xB1 (b := 1000 - (m + 1)) (by omega) ⟨v, W, al, V, t, s, a, b, m + 1, hG0, hd, by omega, hC, rfl, rfl, rfl⟩
    have stp : ∀ x g, lvM v (lfN v s b) a b (m + 1) x g ↔ lvM v (lfN v s b) a b m x g ∨ (3 < y / 128 ∧ x = nEn (lfN v s b, y % 128, b) ∧ g = false) := fun x g => by
      unfold lvM
      constructor
      · rintro ⟨w1, w2, y', w3, w4, w5, w6, w7⟩
        by_cases e : cb (tY v a) y' = m
        · have := cb_uni w4 y2 (by omega)
          subst this
          exact Or.inr ⟨w5, w7, w1⟩
        · exact Or.inl ⟨w1, w2, y', w3, w4, w5, by omega, w7⟩
      · rintro (⟨w1, w2, y', w3, w4, w5, w6, w7⟩ | ⟨w1, w2, w3⟩)
        · exact ⟨w1, w2, y', w3, w4, w5, by omega, w7⟩
        · exact ⟨w3, l0, y, y1, y2, w1, by omega, w2⟩
    refine ⟨by omega, fun h3 => nxt B (cW.2.1 _ _ _ hW fun x g => ?_), fun h3 => ⟨by omega, ?_⟩⟩
    · rw [stp]
      constructor
      · rintro (w | w | w)
        · exact Or.inl w
        · exact Or.inr (Or.inl w)
        · exact Or.inr (Or.inr (Or.inl w))
      · rintro (w | w | w | ⟨w, -⟩)
        · exact Or.inl w
        · exact Or.inr (Or.inl w)
        · exact Or.inr (Or.inr w)
        · omega
    · rw [show y - y / 128 * 128 = y % 128 by omega, show lI (lfN v s b) = nI (lfN v s b) from if_neg l0]
      rw [show lI (lfN v s b) = nI (lfN v s b) from if_neg l0] at nxt
      refine cW.2.2 _ _ (nEn (lfN v s b, y % 128, b)) false _ _ _ _ hW ⟨l4, by show y % 128 < 80; omega, by show b < 80; omega⟩ rfl (hal _ _ ?_) fun C hC => nxt C (cW.2.1 _ _ _ hC fun x g => ?_)
      · rw [hd, eV_all (m := tN (stT v) a) (k := tN (stT v) b) hw hc h80 (fun _ => rfl) fun _ => rfl]
        exact Or.inl (Or.inr ⟨rfl, l0, y, y1, y2, by omega, cb_5376 hw hc y1 y2, rfl⟩)
      · rw [stp]
        constructor
        · rintro ((w | w | w) | ⟨w1, w2⟩)
          · exact Or.inl w
          · exact Or.inr (Or.inl w)
          · exact Or.inr (Or.inr (Or.inl w))
          · exact Or.inr (Or.inr (Or.inr ⟨by omega, w1, w2⟩))
        · rintro (w | w | w | ⟨-, w1, w2⟩)
          · exact Or.inl (Or.inl w)
          · exact Or.inl (Or.inr (Or.inl w))
          · exact Or.inl (Or.inr (Or.inr w))
          · exact Or.inr ⟨w1, w2⟩
  · rintro q x A P - μ L st B ⟨v, W, al, V, t, s, a, b, m, k, hG, hd, hm, hk, hW, rfl, rfl, rfl⟩
    have hG0 := hG
    obtain ⟨s4, a8, b8, e1, e2, e3⟩ := goG_s hG0 hd
    obtain ⟨cW, hw, hc, h80, ht, hp, hq, hal, hP⟩ := hG
    obtain ⟨q1, q2, q3, q4, q5⟩ := pl_rd hw hc h80 (cW.1 _ _ hW) b8
    have r4' := rg_4 (v := v) (q := a) s4
    simp (disch := omega) only [k_X12_goesOn_0, k_X12_goesOn_118, k_X12_goesOn_186, k_X12_goesOn_67, k_X12_goesOn_108, k_X12_goesOn_171, k_X12_goesOn_177, k_X12_goesOn_239, k_X12_goesOn_245, w_RI, w_RIII, w_RIIII, x_aload, x_iadd, x_icmp_ge, x_icmp_le, x_icmp_ne, x_idiv, x_if_eq, x_if_le, x_iinc, x_iload, x_irem, x_istore, x_push, x_vret, y_cv1, y_cv3, y_cv4, y_getF, y_iald, xFT, xbool0, xbool1, Nat.reduceAdd, Nat.zero_add, xgl_0, xgl_s, xgl_n, xst_0, xst_1n, xst_1i, xst_1r, xst_1l, xst_s, set_0, set_s, true_and, and_true, xres, xcat_nil, xcat_i, xcat_r, xcat_l, Nat.add_zero, xble0, xble1, xble2, xble3, xble4, xble5, xble6, xble7, xble8, pk_mul, nI_add, nI_1, nI_leI, nI_ltI, nI_eq, n_in, n_cl, z_eq, z_lt, z_le, z_gt, z_ge, z_qe, o_eq, o_lt, o_le, o_gt, o_ge, vp0, vp1, cl0, cl1, n_sub, n_sub1, n_pm1, n_a0, n_0a, ofn, lN0, Nat.reduceLT, Nat.reduceLeDiff, Nat.reduceMul, Nat.reduceSub, Nat.reduceEqDiff, ne_eq, true_implies, false_implies, not_true_eq_false, not_false_eq_true, and_self, and_true, true_and, and_false, false_and, implies_true, if_true, if_false, i00, i10, i01, i11, ob_0, ob_1, tn_2, ln_2, ob_3, tn_4, ln_4, ob_5, tn_6, ln_6, tn_7, ln_7, ob_8, tn_9, ln_9, tn_10, ln_10, tn_11, ln_11, tn_12, ln_12, tn_13, ln_13, tn_14, ln_14, tn_15, ln_15, tn_16, ln_16, tn_17, ln_17, ob_18, tn_19, ln_19, tn_20, ln_20, tn_21, ln_21, tn_22, ln_22, tn_23, ln_23, tn_24, ln_24, tn_25, ln_25, tn_26, ln_26, tn_27, ln_27, ob_28, tn_29, ln_29, tn_30, ln_30, ob_31, tn_32, ln_32, tn_33, ln_33, ob_34, ob_35, tn_36, ln_36, tn_37, ln_37, tn_38, ln_38, ob_39, tn_40, ln_40, tn_41, ln_41, tn_42, ln_42, tn_43, ln_43, tn_44, ln_44, tn_45, ln_45, tn_46, ln_46, tn_47, ln_47, tn_48, ln_48, tn_49, ln_49, tn_50, ln_50, tn_51, ln_51, ob_52, tn_53, ln_53, tn_54, ln_54, tn_55, ln_55, tn_56, ln_56, ob_57, tn_58, ln_58, tn_59, ln_59, tn_60, ln_60, tn_61, ln_61, tn_62, ln_62, tn_63, ln_63, tn_64, ln_64, tn_65, ln_65, ob_66, tn_67, ln_67, tn_68, ln_68, tn_69, ln_69, tn_70, ln_70, tn_71, ln_71, tn_72, ln_72, tn_73, ln_73, ob_74, tn_75, ln_75, tn_76, ln_76, tn_77, ln_77, tn_78, ln_78, tn_79, ln_79, tn_80, ln_80, tn_81, ln_81, tn_82, ln_82, tn_83, ln_83, ob_84, tn_85, ln_85, tn_86, ln_86, tn_87, ln_87, tn_88, ln_88, tn_89, ln_89, tn_90, ln_90, tn_91, ln_91, tn_92, ln_92, tn_93, ln_93, ob_94, tn_95, ln_95, tn_96, ln_96, tn_97, ln_97, tn_98, ln_98, tn_99, ln_99, tn_100, ln_100, tn_101, ln_101, tn_102, ln_102, tn_103, ln_103, ob_104, tn_105, ln_105, tn_106, ln_106, tn_107, ln_107, tn_108, ln_108, tn_109, ln_109, tn_110, ln_110, tn_111, ln_111, tn_112, ln_112, tn_113, ln_113, ob_114, tn_115, ln_115, tn_116, ln_116, tn_117, ln_117, tn_118, ln_118, tn_119, ln_119, tn_120, ln_120, tn_121, ln_121, tn_122, ln_122, tn_123, ln_123, ob_124, tn_125, ln_125, tn_126, ln_126, tn_127, ln_127, tn_128, ln_128, tn_129, ln_129, tn_130, ln_130, tn_131, ln_131, tn_132, ln_132, tn_133, ln_133, ob_134, tn_135, ln_135, tn_136, ln_136, tn_137, ln_137, tn_138, ln_138, tn_139, ln_139, tn_140, ln_140, tn_141, ln_141, tn_142, ln_142, tn_143, ln_143, ob_144, tn_145, ln_145, tn_146, ln_146, tn_147, ln_147, tn_148, ln_148, tn_149, ln_149, tn_150, ln_150, tn_151, ln_151, tn_152, ln_152, tn_153, ln_153, ob_154, tn_155, ln_155, tn_156, ln_156, tn_157, ln_157, tn_158, ln_158, tn_159, ln_159, tn_160, ln_160, tn_161, ln_161, tn_162, ln_162, tn_163, ln_163, ob_164, tn_165, ln_165, tn_166, ln_166, ob_167, tn_168, ln_168, tn_169, ln_169, tn_170, ln_170, tn_171, ln_171, tn_172, ln_172, tn_173, ln_173, tn_174, ln_174, tn_175, ln_175, tn_176, ln_176, ob_177, tn_178, ln_178, tn_179, ln_179, ob_180, tn_181, ln_181, tn_182, ln_182, tn_183, ln_183, tn_184, ln_184, tn_185, ln_185, tn_186, ln_186, tn_187, ln_187, tn_188, ln_188, tn_189, ln_189, tn_190, ln_190, tn_191, ln_191, tn_192, ln_192, tn_193, ln_193, tn_194, ln_194, tn_195, ln_195, tn_196, ln_196, tn_197, ln_197, tn_198, ln_198, tn_199, ln_199, tn_200, ln_200, tn_201, ln_201, tn_202, ln_202, tn_203, ln_203, tn_204, ln_204, tn_205, ln_205, tn_206, ln_206, tn_207, ln_207, tn_208, ln_208, tn_209, ln_209, tn_210, ln_210, tn_211, ln_211, tn_212, ln_212, tn_213, ln_213, tn_214, ln_214, tn_215, ln_215, tn_216, ln_216, tn_217, ln_217, tn_218, ln_218, tn_219, ln_219, tn_220, ln_220, tn_221, ln_221, tn_222, ln_222, tn_223, ln_223, tn_224, ln_224, tn_225, ln_225, tn_226, ln_226, tn_227, ln_227, tn_228, ln_228, tn_229, ln_229, tn_230, ln_230, lx2, lx3, lx4, lx5, lx6, lx7, lx8, lx9, lx10, lx14, lx15, lx16, lx18, lx20, lx24, lx25, lx27, lx32, lx36, lx40, lx41, lx42, lx43, lx45, lx48, lx52, lx54, lx56, lx57, lx58, lx60, lx61, lx62, lx63, lx64, lx66, lx69, lx73, lx80, lx81, lx84, lx85, lx87, lx94, lx96, lx97, lx120, lx128, lx135, lx160, lx162, lx163, lx165, lx200, lx232, lx242, lx243, lx255, lx256, lx320, lx325, lx400, lx405, lx464, lx512, lx600, lx640, lx752, lx900, lx940, lx1000, lx1024, lx1764, lx3360, lx3840, lx5000, lx6400, lx9050, lx9998, lx9999, lx10000, lx25600, lx76800, lx99999, q2, lI_le r4']
    have out : (rgN v s a ≠ 0 → k = tN (stT v) b) → P none B := fun hk2 => by
      refine hP B (cW.2.1 _ _ _ hW fun x g => ?_)
      rw [hd, eV_all (m := m) (k := k) hw hc h80 hm hk2]
    refine ⟨by omega, fun z => out fun _ => by omega, fun z => ⟨fun l0 => out fun w => absurd l0 w, fun l0 => ?_⟩⟩
    obtain ⟨y, y1, y2, y3, y4⟩ := q5 k (by omega)
    have p1 := tY_pl y2
    simp (disch := omega) only [pk_mul, nI_add, nI_1, nI_leI, nI_ltI, nI_eq, n_in, n_cl, z_eq, z_lt, z_le, z_gt, z_ge, z_qe, o_eq, o_lt, o_le, o_gt, o_ge, vp0, vp1, cl0, cl1, n_sub, n_sub1, n_pm1, n_a0, n_0a, ofn, lN0, Nat.reduceLT, Nat.reduceLeDiff, Nat.reduceMul, Nat.reduceSub, Nat.reduceEqDiff, ne_eq, true_implies, false_implies, not_true_eq_false, not_false_eq_true, and_self, and_true, true_and, and_false, false_and, implies_true, if_true, if_false, i00, i10, i01, i11, ob_0, ob_1, tn_2, ln_2, ob_3, tn_4, ln_4, ob_5, tn_6, ln_6, tn_7, ln_7, ob_8, tn_9, ln_9, tn_10, ln_10, tn_11, ln_11, tn_12, ln_12, tn_13, ln_13, tn_14, ln_14, tn_15, ln_15, tn_16, ln_16, tn_17, ln_17, ob_18, tn_19, ln_19, tn_20, ln_20, tn_21, ln_21, tn_22, ln_22, tn_23, ln_23, tn_24, ln_24, tn_25, ln_25, tn_26, ln_26, tn_27, ln_27, ob_28, tn_29, ln_29, tn_30, ln_30, ob_31, tn_32, ln_32, tn_33, ln_33, ob_34, ob_35, tn_36, ln_36, tn_37, ln_37, tn_38, ln_38, ob_39, tn_40, ln_40, tn_41, ln_41, tn_42, ln_42, tn_43, ln_43, tn_44, ln_44, tn_45, ln_45, tn_46, ln_46, tn_47, ln_47, tn_48, ln_48, tn_49, ln_49, tn_50, ln_50, tn_51, ln_51, ob_52, tn_53, ln_53, tn_54, ln_54, tn_55, ln_55, tn_56, ln_56, ob_57, tn_58, ln_58, tn_59, ln_59, tn_60, ln_60, tn_61, ln_61, tn_62, ln_62, tn_63, ln_63, tn_64, ln_64, tn_65, ln_65, ob_66, tn_67, ln_67, tn_68, ln_68, tn_69, ln_69, tn_70, ln_70, tn_71, ln_71, tn_72, ln_72, tn_73, ln_73, ob_74, tn_75, ln_75, tn_76, ln_76, tn_77, ln_77, tn_78, ln_78, tn_79, ln_79, tn_80, ln_80, tn_81, ln_81, tn_82, ln_82, tn_83, ln_83, ob_84, tn_85, ln_85, tn_86, ln_86, tn_87, ln_87, tn_88, ln_88, tn_89, ln_89, tn_90, ln_90, tn_91, ln_91, tn_92, ln_92, tn_93, ln_93, ob_94, tn_95, ln_95, tn_96, ln_96, tn_97, ln_97, tn_98, ln_98, tn_99, ln_99, tn_100, ln_100, tn_101, ln_101, tn_102, ln_102, tn_103, ln_103, ob_104, tn_105, ln_105, tn_106, ln_106, tn_107, ln_107, tn_108, ln_108, tn_109, ln_109, tn_110, ln_110, tn_111, ln_111, tn_112, ln_112, tn_113, ln_113, ob_114, tn_115, ln_115, tn_116, ln_116, tn_117, ln_117, tn_118, ln_118, tn_119, ln_119, tn_120, ln_120, tn_121, ln_121, tn_122, ln_122, tn_123, ln_123, ob_124, tn_125, ln_125, tn_126, ln_126, tn_127, ln_127, tn_128, ln_128, tn_129, ln_129, tn_130, ln_130, tn_131, ln_131, tn_132, ln_132, tn_133, ln_133, ob_134, tn_135, ln_135, tn_136, ln_136, tn_137, ln_137, tn_138, ln_138, tn_139, ln_139, tn_140, ln_140, tn_141, ln_141, tn_142, ln_142, tn_143, ln_143, ob_144, tn_145, ln_145, tn_146, ln_146, tn_147, ln_147, tn_148, ln_148, tn_149, ln_149, tn_150, ln_150, tn_151, ln_151, tn_152, ln_152, tn_153, ln_153, ob_154, tn_155, ln_155, tn_156, ln_156, tn_157, ln_157, tn_158, ln_158, tn_159, ln_159, tn_160, ln_160, tn_161, ln_161, tn_162, ln_162, tn_163, ln_163, ob_164, tn_165, ln_165, tn_166, ln_166, ob_167, tn_168, ln_168, tn_169, ln_169, tn_170, ln_170, tn_171, ln_171, tn_172, ln_172, tn_173, ln_173, tn_174, ln_174, tn_175, ln_175, tn_176, ln_176, ob_177, tn_178, ln_178, tn_179, ln_179, ob_180, tn_181, ln_181, tn_182, ln_182, tn_183, ln_183, tn_184, ln_184, tn_185, ln_185, tn_186, ln_186, tn_187, ln_187, tn_188, ln_188, tn_189, ln_189, tn_190, ln_190, tn_191, ln_191, tn_192, ln_192, tn_193, ln_193, tn_194, ln_194, tn_195, ln_195, tn_196, ln_196, tn_197, ln_197, tn_198, ln_198, tn_199, ln_199, tn_200, ln_200, tn_201, ln_201, tn_202, ln_202, tn_203, ln_203, tn_204, ln_204, tn_205, ln_205, tn_206, ln_206, tn_207, ln_207, tn_208, ln_208, tn_209, ln_209, tn_210, ln_210, tn_211, ln_211, tn_212, ln_212, tn_213, ln_213, tn_214, ln_214, tn_215, ln_215, tn_216, ln_216, tn_217, ln_217, tn_218, ln_218, tn_219, ln_219, tn_220, ln_220, tn_221, ln_221, tn_222, ln_222, tn_223, ln_223, tn_224, ln_224, tn_225, ln_225, tn_226, ln_226, tn_227, ln_227, tn_228, ln_228, tn_229, ln_229, tn_230, ln_230, lx2, lx3, lx4, lx5, lx6, lx7, lx8, lx9, lx10, lx14, lx15, lx16, lx18, lx20, lx24, lx25, lx27, lx32, lx36, lx40, lx41, lx42, lx43, lx45, lx48, lx52, lx54, lx56, lx57, lx58, lx60, lx61, lx62, lx63, lx64, lx66, lx69, lx73, lx80, lx81, lx84, lx85, lx87, lx94, lx96, lx97, lx120, lx128, lx135, lx160, lx162, lx163, lx165, lx200, lx232, lx242, lx243, lx255, lx256, lx320, lx325, lx400, lx405, lx464, lx512, lx600, lx640, lx752, lx900, lx940, lx1000, lx1024, lx1764, lx3360, lx3840, lx5000, lx6400, lx9050, lx9998, lx9999, lx10000, lx25600, lx76800, lx99999, y4, pk_div]
    have nxt : ∀ C, W (fun x g => V x g ∨ ((pvA v s a b x g ∨ lvM v (lfN v s b) a b m x g) ∨ rvM v (rgN v s a) a b (k + 1) x g)) C → xB (go186 A P) (1000 - k, 0, 0) [some (.ref 180), some (.int (nI t)), some (.int (nI s)), some (.int (nI a)), some (.int (nI b)), some (.int (lI (lfN v s b))), some (.int (lI (rgN v s a))), some (.int (nI (bsY v b + k + 1)))] [] C := fun C hC =>
      xB1 (b := 1000 - (k + 1)) (by omega) ⟨v, W, al, V, t, s, a, b, m, k + 1, hG0, hd, hm, by omega, hC, rfl, rfl, rfl⟩
    have stp : ∀ x g, rvM v (rgN v s a) a b (k + 1) x g ↔ rvM v (rgN v s a) a b k x g ∨ (3 < y / 128 ∧ x = nEn (rgN v s a, a, y % 128) ∧ g = false) := fun x g => by
      unfold rvM
      constructor
      · rintro ⟨w1, w2, y', w3, w4, w5, w6, w7⟩
        by_cases e : cb (tY v b) y' = k
        · have := cb_uni w4 y2 (by omega)
          subst this
          exact Or.inr ⟨w5, w7, w1⟩
        · exact Or.inl ⟨w1, w2, y', w3, w4, w5, by omega, w7⟩
      · rintro (⟨w1, w2, y', w3, w4, w5, w6, w7⟩ | ⟨w1, w2, w3⟩)
        · exact ⟨w1, w2, y', w3, w4, w5, by omega, w7⟩
        · exact ⟨w3, l0, y, y1, y2, w1, by omega, w2⟩
    refine ⟨by omega, fun h3 => nxt B (cW.2.1 _ _ _ hW fun x g => ?_), fun h3 => ⟨by omega, ?_⟩⟩
    · rw [stp]
      constructor
      · rintro (w | w | w)
        · exact Or.inl w
        · exact Or.inr (Or.inl w)
        · exact Or.inr (Or.inr (Or.inl w))
      · rintro (w | w | w | ⟨w, -⟩)
        · exact Or.inl w
        · exact Or.inr (Or.inl w)
        · exact Or.inr (Or.inr w)
        · omega
    · rw [show y - y / 128 * 128 = y % 128 by omega, show lI (rgN v s a) = nI (rgN v s a) from if_neg l0]
      rw [show lI (rgN v s a) = nI (rgN v s a) from if_neg l0] at nxt
      refine cW.2.2 _ _ (nEn (rgN v s a, a, y % 128)) false _ _ _ _ hW ⟨r4', by show a < 80; omega, by show y % 128 < 80; omega⟩ rfl (hal _ _ ?_) fun C hC => nxt C (cW.2.1 _ _ _ hC fun x g => ?_)
      · rw [hd, eV_all (m := tN (stT v) a) (k := tN (stT v) b) hw hc h80 (fun _ => rfl) fun _ => rfl]
        exact Or.inr ⟨rfl, l0, y, y1, y2, by omega, cb_5376 hw hc y1 y2, rfl⟩
      · rw [stp]
        constructor
        · rintro ((w | w | w) | ⟨w1, w2⟩)
          · exact Or.inl w
          · exact Or.inr (Or.inl w)
          · exact Or.inr (Or.inr (Or.inl w))
          · exact Or.inr (Or.inr (Or.inr ⟨by omega, w1, w2⟩))
        · rintro (w | w | w | ⟨-, w1, w2⟩)
          · exact Or.inl (Or.inl w)
          · exact Or.inl (Or.inr (Or.inl w))
          · exact Or.inl (Or.inr (Or.inr w))
          · exact Or.inr ⟨w1, w2⟩

