/-! ===== the reference's goesOn ===== -/
theorem d_X12_goesOn_0 : decode cX12_goesOn 0 = .ok (.iload_n 1, 1) := by decide +kernel
theorem d_X12_goesOn_1 : decode cX12_goesOn 1 = .ok (.iconst 4, 1) := by decide +kernel
theorem d_X12_goesOn_2 : decode cX12_goesOn 2 = .ok (.irem, 1) := by decide +kernel
theorem d_X12_goesOn_3 : decode cX12_goesOn 3 = .ok (.istore_n 2, 1) := by decide +kernel
theorem d_X12_goesOn_4 : decode cX12_goesOn 4 = .ok (.iload_n 1, 1) := by decide +kernel
theorem d_X12_goesOn_5 : decode cX12_goesOn 5 = .ok (.sipush 320, 3) := by decide +kernel
theorem d_X12_goesOn_8 : decode cX12_goesOn 8 = .ok (.idiv, 1) := by decide +kernel
theorem d_X12_goesOn_9 : decode cX12_goesOn 9 = .ok (.istore_n 3, 1) := by decide +kernel
theorem d_X12_goesOn_10 : decode cX12_goesOn 10 = .ok (.iload_n 1, 1) := by decide +kernel
theorem d_X12_goesOn_11 : decode cX12_goesOn 11 = .ok (.iconst 4, 1) := by decide +kernel
theorem d_X12_goesOn_12 : decode cX12_goesOn 12 = .ok (.idiv, 1) := by decide +kernel
theorem d_X12_goesOn_13 : decode cX12_goesOn 13 = .ok (.bipush 80, 2) := by decide +kernel
theorem d_X12_goesOn_15 : decode cX12_goesOn 15 = .ok (.irem, 1) := by decide +kernel
theorem d_X12_goesOn_16 : decode cX12_goesOn 16 = .ok (.istore 4, 2) := by decide +kernel
theorem d_X12_goesOn_18 : decode cX12_goesOn 18 = .ok (.aload_n 0, 1) := by decide +kernel
theorem d_X12_goesOn_19 : decode cX12_goesOn 19 = .ok (.iload_n 3, 1) := by decide +kernel
theorem d_X12_goesOn_20 : decode cX12_goesOn 20 = .ok (.iload 4, 2) := by decide +kernel
theorem d_X12_goesOn_22 : decode cX12_goesOn 22 = .ok (.iload_n 2, 1) := by decide +kernel
theorem d_X12_goesOn_23 : decode cX12_goesOn 23 = .ok (.invokevirtual 453, 3) := by decide +kernel
theorem d_X12_goesOn_26 : decode cX12_goesOn 26 = .ok (.iload_n 2, 1) := by decide +kernel
theorem d_X12_goesOn_27 : decode cX12_goesOn 27 = .ok (.ifCond .le 16, 3) := by decide +kernel
theorem d_X12_goesOn_30 : decode cX12_goesOn 30 = .ok (.iload_n 2, 1) := by decide +kernel
theorem d_X12_goesOn_31 : decode cX12_goesOn 31 = .ok (.iconst 3, 1) := by decide +kernel
theorem d_X12_goesOn_32 : decode cX12_goesOn 32 = .ok (.if_icmp .ne 7, 3) := by decide +kernel
theorem d_X12_goesOn_35 : decode cX12_goesOn 35 = .ok (.iconst (-1), 1) := by decide +kernel
theorem d_X12_goesOn_36 : decode cX12_goesOn 36 = .ok (.goto 31, 3) := by decide +kernel
theorem d_X12_goesOn_39 : decode cX12_goesOn 39 = .ok (.iload_n 2, 1) := by decide +kernel
theorem d_X12_goesOn_40 : decode cX12_goesOn 40 = .ok (.goto 27, 3) := by decide +kernel
theorem d_X12_goesOn_43 : decode cX12_goesOn 43 = .ok (.iload 4, 2) := by decide +kernel
theorem d_X12_goesOn_45 : decode cX12_goesOn 45 = .ok (.iconst 1, 1) := by decide +kernel
theorem d_X12_goesOn_46 : decode cX12_goesOn 46 = .ok (.if_icmp .ne 7, 3) := by decide +kernel
theorem d_X12_goesOn_49 : decode cX12_goesOn 49 = .ok (.iconst 1, 1) := by decide +kernel
theorem d_X12_goesOn_50 : decode cX12_goesOn 50 = .ok (.goto 17, 3) := by decide +kernel
theorem d_X12_goesOn_53 : decode cX12_goesOn 53 = .ok (.aload_n 0, 1) := by decide +kernel
theorem d_X12_goesOn_54 : decode cX12_goesOn 54 = .ok (.iload 4, 2) := by decide +kernel
theorem d_X12_goesOn_56 : decode cX12_goesOn 56 = .ok (.invokevirtual 457, 3) := by decide +kernel
theorem d_X12_goesOn_59 : decode cX12_goesOn 59 = .ok (.ifCond .eq 7, 3) := by decide +kernel
theorem d_X12_goesOn_62 : decode cX12_goesOn 62 = .ok (.iconst 2, 1) := by decide +kernel
theorem d_X12_goesOn_63 : decode cX12_goesOn 63 = .ok (.goto 4, 3) := by decide +kernel
theorem d_X12_goesOn_66 : decode cX12_goesOn 66 = .ok (.iconst (-1), 1) := by decide +kernel
theorem d_X12_goesOn_67 : decode cX12_goesOn 67 = .ok (.istore 5, 2) := by decide +kernel
theorem d_X12_goesOn_69 : decode cX12_goesOn 69 = .ok (.iload_n 2, 1) := by decide +kernel
theorem d_X12_goesOn_70 : decode cX12_goesOn 70 = .ok (.ifCond .le 16, 3) := by decide +kernel
theorem d_X12_goesOn_73 : decode cX12_goesOn 73 = .ok (.iload_n 2, 1) := by decide +kernel
theorem d_X12_goesOn_74 : decode cX12_goesOn 74 = .ok (.iconst 2, 1) := by decide +kernel
theorem d_X12_goesOn_75 : decode cX12_goesOn 75 = .ok (.if_icmp .ne 7, 3) := by decide +kernel
theorem d_X12_goesOn_78 : decode cX12_goesOn 78 = .ok (.iconst (-1), 1) := by decide +kernel
theorem d_X12_goesOn_79 : decode cX12_goesOn 79 = .ok (.goto 29, 3) := by decide +kernel
theorem d_X12_goesOn_82 : decode cX12_goesOn 82 = .ok (.iload_n 2, 1) := by decide +kernel
theorem d_X12_goesOn_83 : decode cX12_goesOn 83 = .ok (.goto 25, 3) := by decide +kernel
theorem d_X12_goesOn_86 : decode cX12_goesOn 86 = .ok (.iload_n 3, 1) := by decide +kernel
theorem d_X12_goesOn_87 : decode cX12_goesOn 87 = .ok (.iconst 1, 1) := by decide +kernel
theorem d_X12_goesOn_88 : decode cX12_goesOn 88 = .ok (.if_icmp .ne 7, 3) := by decide +kernel
theorem d_X12_goesOn_91 : decode cX12_goesOn 91 = .ok (.iconst 1, 1) := by decide +kernel
theorem d_X12_goesOn_92 : decode cX12_goesOn 92 = .ok (.goto 16, 3) := by decide +kernel
theorem d_X12_goesOn_95 : decode cX12_goesOn 95 = .ok (.aload_n 0, 1) := by decide +kernel
theorem d_X12_goesOn_96 : decode cX12_goesOn 96 = .ok (.iload_n 3, 1) := by decide +kernel
theorem d_X12_goesOn_97 : decode cX12_goesOn 97 = .ok (.invokevirtual 457, 3) := by decide +kernel
theorem d_X12_goesOn_100 : decode cX12_goesOn 100 = .ok (.ifCond .eq 7, 3) := by decide +kernel
theorem d_X12_goesOn_103 : decode cX12_goesOn 103 = .ok (.iconst 3, 1) := by decide +kernel
theorem d_X12_goesOn_104 : decode cX12_goesOn 104 = .ok (.goto 4, 3) := by decide +kernel
theorem d_X12_goesOn_107 : decode cX12_goesOn 107 = .ok (.iconst (-1), 1) := by decide +kernel
theorem d_X12_goesOn_108 : decode cX12_goesOn 108 = .ok (.istore 6, 2) := by decide +kernel
theorem d_X12_goesOn_110 : decode cX12_goesOn 110 = .ok (.aload_n 0, 1) := by decide +kernel
theorem d_X12_goesOn_111 : decode cX12_goesOn 111 = .ok (.getfield 80, 3) := by decide +kernel
theorem d_X12_goesOn_114 : decode cX12_goesOn 114 = .ok (.iload_n 3, 1) := by decide +kernel
theorem d_X12_goesOn_115 : decode cX12_goesOn 115 = .ok (.iaload, 1) := by decide +kernel
theorem d_X12_goesOn_116 : decode cX12_goesOn 116 = .ok (.istore 7, 2) := by decide +kernel
theorem d_X12_goesOn_118 : decode cX12_goesOn 118 = .ok (.iload 7, 2) := by decide +kernel
theorem d_X12_goesOn_120 : decode cX12_goesOn 120 = .ok (.aload_n 0, 1) := by decide +kernel
theorem d_X12_goesOn_121 : decode cX12_goesOn 121 = .ok (.getfield 80, 3) := by decide +kernel
theorem d_X12_goesOn_124 : decode cX12_goesOn 124 = .ok (.iload_n 3, 1) := by decide +kernel
theorem d_X12_goesOn_125 : decode cX12_goesOn 125 = .ok (.iconst 1, 1) := by decide +kernel
theorem d_X12_goesOn_126 : decode cX12_goesOn 126 = .ok (.iadd, 1) := by decide +kernel
theorem d_X12_goesOn_127 : decode cX12_goesOn 127 = .ok (.iaload, 1) := by decide +kernel
theorem d_X12_goesOn_128 : decode cX12_goesOn 128 = .ok (.if_icmp .ge 49, 3) := by decide +kernel
theorem d_X12_goesOn_131 : decode cX12_goesOn 131 = .ok (.iload 5, 2) := by decide +kernel
theorem d_X12_goesOn_133 : decode cX12_goesOn 133 = .ok (.ifCond .le 44, 3) := by decide +kernel
theorem d_X12_goesOn_136 : decode cX12_goesOn 136 = .ok (.aload_n 0, 1) := by decide +kernel
theorem d_X12_goesOn_137 : decode cX12_goesOn 137 = .ok (.getfield 84, 3) := by decide +kernel
theorem d_X12_goesOn_140 : decode cX12_goesOn 140 = .ok (.iload 7, 2) := by decide +kernel
theorem d_X12_goesOn_142 : decode cX12_goesOn 142 = .ok (.iaload, 1) := by decide +kernel
theorem d_X12_goesOn_143 : decode cX12_goesOn 143 = .ok (.sipush 128, 3) := by decide +kernel
theorem d_X12_goesOn_146 : decode cX12_goesOn 146 = .ok (.idiv, 1) := by decide +kernel
theorem d_X12_goesOn_147 : decode cX12_goesOn 147 = .ok (.iconst 3, 1) := by decide +kernel
theorem d_X12_goesOn_148 : decode cX12_goesOn 148 = .ok (.if_icmp .le 23, 3) := by decide +kernel
theorem d_X12_goesOn_151 : decode cX12_goesOn 151 = .ok (.aload_n 0, 1) := by decide +kernel
theorem d_X12_goesOn_152 : decode cX12_goesOn 152 = .ok (.aload_n 0, 1) := by decide +kernel
theorem d_X12_goesOn_153 : decode cX12_goesOn 153 = .ok (.getfield 84, 3) := by decide +kernel
theorem d_X12_goesOn_156 : decode cX12_goesOn 156 = .ok (.iload 7, 2) := by decide +kernel
theorem d_X12_goesOn_158 : decode cX12_goesOn 158 = .ok (.iaload, 1) := by decide +kernel
theorem d_X12_goesOn_159 : decode cX12_goesOn 159 = .ok (.sipush 128, 3) := by decide +kernel
theorem d_X12_goesOn_162 : decode cX12_goesOn 162 = .ok (.irem, 1) := by decide +kernel
theorem d_X12_goesOn_163 : decode cX12_goesOn 163 = .ok (.iload 4, 2) := by decide +kernel
theorem d_X12_goesOn_165 : decode cX12_goesOn 165 = .ok (.iload 5, 2) := by decide +kernel
theorem d_X12_goesOn_167 : decode cX12_goesOn 167 = .ok (.iconst 0, 1) := by decide +kernel
theorem d_X12_goesOn_168 : decode cX12_goesOn 168 = .ok (.invokevirtual 449, 3) := by decide +kernel
theorem d_X12_goesOn_171 : decode cX12_goesOn 171 = .ok (.iinc 7 1, 3) := by decide +kernel
theorem d_X12_goesOn_174 : decode cX12_goesOn 174 = .ok (.goto (-56), 3) := by decide +kernel
theorem d_X12_goesOn_177 : decode cX12_goesOn 177 = .ok (.aload_n 0, 1) := by decide +kernel
theorem d_X12_goesOn_178 : decode cX12_goesOn 178 = .ok (.getfield 80, 3) := by decide +kernel
theorem d_X12_goesOn_181 : decode cX12_goesOn 181 = .ok (.iload 4, 2) := by decide +kernel
theorem d_X12_goesOn_183 : decode cX12_goesOn 183 = .ok (.iaload, 1) := by decide +kernel
theorem d_X12_goesOn_184 : decode cX12_goesOn 184 = .ok (.istore 7, 2) := by decide +kernel
theorem d_X12_goesOn_186 : decode cX12_goesOn 186 = .ok (.iload 7, 2) := by decide +kernel
theorem d_X12_goesOn_188 : decode cX12_goesOn 188 = .ok (.aload_n 0, 1) := by decide +kernel
theorem d_X12_goesOn_189 : decode cX12_goesOn 189 = .ok (.getfield 80, 3) := by decide +kernel
theorem d_X12_goesOn_192 : decode cX12_goesOn 192 = .ok (.iload 4, 2) := by decide +kernel
theorem d_X12_goesOn_194 : decode cX12_goesOn 194 = .ok (.iconst 1, 1) := by decide +kernel
theorem d_X12_goesOn_195 : decode cX12_goesOn 195 = .ok (.iadd, 1) := by decide +kernel
theorem d_X12_goesOn_196 : decode cX12_goesOn 196 = .ok (.iaload, 1) := by decide +kernel
theorem d_X12_goesOn_197 : decode cX12_goesOn 197 = .ok (.if_icmp .ge 48, 3) := by decide +kernel
theorem d_X12_goesOn_200 : decode cX12_goesOn 200 = .ok (.iload 6, 2) := by decide +kernel
theorem d_X12_goesOn_202 : decode cX12_goesOn 202 = .ok (.ifCond .le 43, 3) := by decide +kernel
theorem d_X12_goesOn_205 : decode cX12_goesOn 205 = .ok (.aload_n 0, 1) := by decide +kernel
theorem d_X12_goesOn_206 : decode cX12_goesOn 206 = .ok (.getfield 84, 3) := by decide +kernel
theorem d_X12_goesOn_209 : decode cX12_goesOn 209 = .ok (.iload 7, 2) := by decide +kernel
theorem d_X12_goesOn_211 : decode cX12_goesOn 211 = .ok (.iaload, 1) := by decide +kernel
theorem d_X12_goesOn_212 : decode cX12_goesOn 212 = .ok (.sipush 128, 3) := by decide +kernel
theorem d_X12_goesOn_215 : decode cX12_goesOn 215 = .ok (.idiv, 1) := by decide +kernel
theorem d_X12_goesOn_216 : decode cX12_goesOn 216 = .ok (.iconst 3, 1) := by decide +kernel
theorem d_X12_goesOn_217 : decode cX12_goesOn 217 = .ok (.if_icmp .le 22, 3) := by decide +kernel
theorem d_X12_goesOn_220 : decode cX12_goesOn 220 = .ok (.aload_n 0, 1) := by decide +kernel
theorem d_X12_goesOn_221 : decode cX12_goesOn 221 = .ok (.iload_n 3, 1) := by decide +kernel
theorem d_X12_goesOn_222 : decode cX12_goesOn 222 = .ok (.aload_n 0, 1) := by decide +kernel
theorem d_X12_goesOn_223 : decode cX12_goesOn 223 = .ok (.getfield 84, 3) := by decide +kernel
theorem d_X12_goesOn_226 : decode cX12_goesOn 226 = .ok (.iload 7, 2) := by decide +kernel
theorem d_X12_goesOn_228 : decode cX12_goesOn 228 = .ok (.iaload, 1) := by decide +kernel
theorem d_X12_goesOn_229 : decode cX12_goesOn 229 = .ok (.sipush 128, 3) := by decide +kernel
theorem d_X12_goesOn_232 : decode cX12_goesOn 232 = .ok (.irem, 1) := by decide +kernel
theorem d_X12_goesOn_233 : decode cX12_goesOn 233 = .ok (.iload 6, 2) := by decide +kernel
theorem d_X12_goesOn_235 : decode cX12_goesOn 235 = .ok (.iconst 0, 1) := by decide +kernel
theorem d_X12_goesOn_236 : decode cX12_goesOn 236 = .ok (.invokevirtual 449, 3) := by decide +kernel
theorem d_X12_goesOn_239 : decode cX12_goesOn 239 = .ok (.iinc 7 1, 3) := by decide +kernel
theorem d_X12_goesOn_242 : decode cX12_goesOn 242 = .ok (.goto (-56), 3) := by decide +kernel
theorem d_X12_goesOn_245 : decode cX12_goesOn 245 = .ok (.return_, 1) := by decide +kernel
def k_X12_goesOn_108 (P : xP) (C118 : xK) : xK := x_istore 6 (x_aload 0 (y_getF 180 198 (x_iload 3 (y_iald 198 81 (x_istore 7 (C118))))))
set_option maxRecDepth 20000 in
theorem t_X12_goesOn_108 {p : Program} {l : Launch} {e : Env} {s : State} {m : MethodId} {args : Array Value} {below : List Frame} {meth : Method} {c : Code} {g : xG} (X : xX p s m args c meth cX12_goesOn RX12 8 g) (hr : meth.sig.returnType = none) {P : xP} {C118 : xK} (h118 : xAt p l e { frames := 2, cells := 0, slots := 0, locals := 53 } s m args below meth c g 8 xFT xN 0 0 (MQ below (xQc g xFT xN P) args s 0 0 (xFr g)) C118 118) : xAt p l e { frames := 2, cells := 0, slots := 0, locals := 53 } s m args below meth c g 8 xFT xN 0 0 (MQ below (xQc g xFT xN P) args s 0 0 (xFr g)) (k_X12_goesOn_108 P C118) 108 := by
  unfold k_X12_goesOn_108
  refine r_istore (pc := 108) X d_X12_goesOn_108 (by decide +kernel) ?_
  refine r_aload_n (pc := 110) X d_X12_goesOn_110 fn0 ?_
  refine s_getF (pc := 111) (ci := 12) (k := 37) X xok12 (by decide +kernel) ob_180 trivial ly_180_37 (by decide +kernel) fl_RX12_80 d_X12_goesOn_111 ?_
  refine r_iload_n (pc := 114) X d_X12_goesOn_114 fn3 ?_
  refine s_iald (pc := 115) X tn_198 ln_198 d_X12_goesOn_115 ?_
  refine r_istore (pc := 116) X d_X12_goesOn_116 (by decide +kernel) ?_
  exact h118
def k_X12_goesOn_67 (P : xP) (C118 : xK) : xK := x_istore 5 (x_iload 2 (x_if_le (x_iload 3 (x_push (.int 1) (x_icmp_ne (x_aload 0 (x_iload 3 (y_cv1 180 (w_RI f_X12_hasSign) (x_if_eq (x_push (.int (-1)) ((k_X12_goesOn_108 P C118))) (x_push (.int 3) ((k_X12_goesOn_108 P C118))))))) (x_push (.int 1) ((k_X12_goesOn_108 P C118)))))) (x_iload 2 (x_push (.int 2) (x_icmp_ne (x_iload 2 ((k_X12_goesOn_108 P C118))) (x_push (.int (-1)) ((k_X12_goesOn_108 P C118))))))))
set_option maxRecDepth 20000 in
theorem t_X12_goesOn_67 {p : Program} {l : Launch} {e : Env} {s : State} {m : MethodId} {args : Array Value} {below : List Frame} {meth : Method} {c : Code} {g : xG} (X : xX p s m args c meth cX12_goesOn RX12 8 g) (hr : meth.sig.returnType = none) {P : xP} {C118 : xK} (h118 : xAt p l e { frames := 2, cells := 0, slots := 0, locals := 53 } s m args below meth c g 8 xFT xN 0 0 (MQ below (xQc g xFT xN P) args s 0 0 (xFr g)) C118 118) : xAt p l e { frames := 2, cells := 0, slots := 0, locals := 53 } s m args below meth c g 8 xFT xN 0 0 (MQ below (xQc g xFT xN P) args s 0 0 (xFr g)) (k_X12_goesOn_67 P C118) 67 := by
  unfold k_X12_goesOn_67
  refine r_istore (pc := 67) X d_X12_goesOn_67 (by decide +kernel) ?_
  refine r_iload_n (pc := 69) X d_X12_goesOn_69 fn2 ?_
  refine r_if_le (pc := 70) (tgt := 86) X d_X12_goesOn_70 (by decide +kernel) ?_ ?_
  · refine r_iload_n (pc := 86) X d_X12_goesOn_86 fn3 ?_
    refine r_iconst (pc := 87) X d_X12_goesOn_87 (by decide +kernel) ?_
    refine r_icmp_ne (pc := 88) (tgt := 95) X d_X12_goesOn_88 (by decide +kernel) ?_ ?_
    · refine r_aload_n (pc := 95) X d_X12_goesOn_95 fn0 ?_
      refine r_iload_n (pc := 96) X d_X12_goesOn_96 fn3 ?_
      refine s_cv1 (pc := 97) (ci := 12) X xok12 (by decide +kernel) ob_180 rfl (con_X12_hasSign l) mf_X12_hasSign ml_RX12_457 (by decide +kernel) (by decide +kernel) d_X12_goesOn_97 ?_
      refine r_if_eq (pc := 100) (tgt := 107) X d_X12_goesOn_100 (by decide +kernel) ?_ ?_
      · refine r_iconst (pc := 107) X d_X12_goesOn_107 (by decide +kernel) ?_
        exact t_X12_goesOn_108 X hr h118
      · refine r_iconst (pc := 103) X d_X12_goesOn_103 (by decide +kernel) ?_
        refine r_goto (pc := 104) (tgt := 108) X d_X12_goesOn_104 (by decide +kernel) ?_
        exact t_X12_goesOn_108 X hr h118
    · refine r_iconst (pc := 91) X d_X12_goesOn_91 (by decide +kernel) ?_
      refine r_goto (pc := 92) (tgt := 108) X d_X12_goesOn_92 (by decide +kernel) ?_
      exact t_X12_goesOn_108 X hr h118
  · refine r_iload_n (pc := 73) X d_X12_goesOn_73 fn2 ?_
    refine r_iconst (pc := 74) X d_X12_goesOn_74 (by decide +kernel) ?_
    refine r_icmp_ne (pc := 75) (tgt := 82) X d_X12_goesOn_75 (by decide +kernel) ?_ ?_
    · refine r_iload_n (pc := 82) X d_X12_goesOn_82 fn2 ?_
      refine r_goto (pc := 83) (tgt := 108) X d_X12_goesOn_83 (by decide +kernel) ?_
      exact t_X12_goesOn_108 X hr h118
    · refine r_iconst (pc := 78) X d_X12_goesOn_78 (by decide +kernel) ?_
      refine r_goto (pc := 79) (tgt := 108) X d_X12_goesOn_79 (by decide +kernel) ?_
      exact t_X12_goesOn_108 X hr h118
def k_X12_goesOn_0 (P : xP) (C118 : xK) : xK := x_iload 1 (x_push (.int 4) (x_irem (x_istore 2 (x_iload 1 (x_push (.int 320) (x_idiv (x_istore 3 (x_iload 1 (x_push (.int 4) (x_idiv (x_push (.int 80) (x_irem (x_istore 4 (x_aload 0 (x_iload 3 (x_iload 4 (x_iload 2 (y_cv3 180 (w_RIII f_X12_together) (x_iload 2 (x_if_le (x_iload 4 (x_push (.int 1) (x_icmp_ne (x_aload 0 (x_iload 4 (y_cv1 180 (w_RI f_X12_hasSign) (x_if_eq (x_push (.int (-1)) ((k_X12_goesOn_67 P C118))) (x_push (.int 2) ((k_X12_goesOn_67 P C118))))))) (x_push (.int 1) ((k_X12_goesOn_67 P C118)))))) (x_iload 2 (x_push (.int 3) (x_icmp_ne (x_iload 2 ((k_X12_goesOn_67 P C118))) (x_push (.int (-1)) ((k_X12_goesOn_67 P C118))))))))))))))))))))))))))
set_option maxRecDepth 20000 in
theorem t_X12_goesOn_0 {p : Program} {l : Launch} {e : Env} {s : State} {m : MethodId} {args : Array Value} {below : List Frame} {meth : Method} {c : Code} {g : xG} (X : xX p s m args c meth cX12_goesOn RX12 8 g) (hr : meth.sig.returnType = none) {P : xP} {C118 : xK} (h118 : xAt p l e { frames := 2, cells := 0, slots := 0, locals := 53 } s m args below meth c g 8 xFT xN 0 0 (MQ below (xQc g xFT xN P) args s 0 0 (xFr g)) C118 118) : xAt p l e { frames := 2, cells := 0, slots := 0, locals := 53 } s m args below meth c g 8 xFT xN 0 0 (MQ below (xQc g xFT xN P) args s 0 0 (xFr g)) (k_X12_goesOn_0 P C118) 0 := by
  unfold k_X12_goesOn_0
  refine r_iload_n (pc := 0) X d_X12_goesOn_0 fn1 ?_
  refine r_iconst (pc := 1) X d_X12_goesOn_1 (by decide +kernel) ?_
  refine r_irem (pc := 2) X d_X12_goesOn_2 ?_
  refine r_istore_n (pc := 3) X d_X12_goesOn_3 fn2 (by decide +kernel) ?_
  refine r_iload_n (pc := 4) X d_X12_goesOn_4 fn1 ?_
  refine r_sipush (pc := 5) X d_X12_goesOn_5 (by decide +kernel) ?_
  refine r_idiv (pc := 8) X d_X12_goesOn_8 ?_
  refine r_istore_n (pc := 9) X d_X12_goesOn_9 fn3 (by decide +kernel) ?_
  refine r_iload_n (pc := 10) X d_X12_goesOn_10 fn1 ?_
  refine r_iconst (pc := 11) X d_X12_goesOn_11 (by decide +kernel) ?_
  refine r_idiv (pc := 12) X d_X12_goesOn_12 ?_
  refine r_bipush (pc := 13) X d_X12_goesOn_13 (by decide +kernel) ?_
  refine r_irem (pc := 15) X d_X12_goesOn_15 ?_
  refine r_istore (pc := 16) X d_X12_goesOn_16 (by decide +kernel) ?_
  refine r_aload_n (pc := 18) X d_X12_goesOn_18 fn0 ?_
  refine r_iload_n (pc := 19) X d_X12_goesOn_19 fn3 ?_
  refine r_iload (pc := 20) X d_X12_goesOn_20 ?_
  refine r_iload_n (pc := 22) X d_X12_goesOn_22 fn2 ?_
  refine s_cv3 (pc := 23) (ci := 12) X xok12 (by decide +kernel) ob_180 rfl (con_X12_together l) mf_X12_together ml_RX12_453 (by decide +kernel) (by decide +kernel) d_X12_goesOn_23 ?_
  refine r_iload_n (pc := 26) X d_X12_goesOn_26 fn2 ?_
  refine r_if_le (pc := 27) (tgt := 43) X d_X12_goesOn_27 (by decide +kernel) ?_ ?_
  · refine r_iload (pc := 43) X d_X12_goesOn_43 ?_
    refine r_iconst (pc := 45) X d_X12_goesOn_45 (by decide +kernel) ?_
    refine r_icmp_ne (pc := 46) (tgt := 53) X d_X12_goesOn_46 (by decide +kernel) ?_ ?_
    · refine r_aload_n (pc := 53) X d_X12_goesOn_53 fn0 ?_
      refine r_iload (pc := 54) X d_X12_goesOn_54 ?_
      refine s_cv1 (pc := 56) (ci := 12) X xok12 (by decide +kernel) ob_180 rfl (con_X12_hasSign l) mf_X12_hasSign ml_RX12_457 (by decide +kernel) (by decide +kernel) d_X12_goesOn_56 ?_
      refine r_if_eq (pc := 59) (tgt := 66) X d_X12_goesOn_59 (by decide +kernel) ?_ ?_
      · refine r_iconst (pc := 66) X d_X12_goesOn_66 (by decide +kernel) ?_
        exact t_X12_goesOn_67 X hr h118
      · refine r_iconst (pc := 62) X d_X12_goesOn_62 (by decide +kernel) ?_
        refine r_goto (pc := 63) (tgt := 67) X d_X12_goesOn_63 (by decide +kernel) ?_
        exact t_X12_goesOn_67 X hr h118
    · refine r_iconst (pc := 49) X d_X12_goesOn_49 (by decide +kernel) ?_
      refine r_goto (pc := 50) (tgt := 67) X d_X12_goesOn_50 (by decide +kernel) ?_
      exact t_X12_goesOn_67 X hr h118
  · refine r_iload_n (pc := 30) X d_X12_goesOn_30 fn2 ?_
    refine r_iconst (pc := 31) X d_X12_goesOn_31 (by decide +kernel) ?_
    refine r_icmp_ne (pc := 32) (tgt := 39) X d_X12_goesOn_32 (by decide +kernel) ?_ ?_
    · refine r_iload_n (pc := 39) X d_X12_goesOn_39 fn2 ?_
      refine r_goto (pc := 40) (tgt := 67) X d_X12_goesOn_40 (by decide +kernel) ?_
      exact t_X12_goesOn_67 X hr h118
    · refine r_iconst (pc := 35) X d_X12_goesOn_35 (by decide +kernel) ?_
      refine r_goto (pc := 36) (tgt := 67) X d_X12_goesOn_36 (by decide +kernel) ?_
      exact t_X12_goesOn_67 X hr h118
def k_X12_goesOn_177 (P : xP) (C186 : xK) : xK := x_aload 0 (y_getF 180 198 (x_iload 4 (y_iald 198 81 (x_istore 7 (C186)))))
set_option maxRecDepth 20000 in
theorem t_X12_goesOn_177 {p : Program} {l : Launch} {e : Env} {s : State} {m : MethodId} {args : Array Value} {below : List Frame} {meth : Method} {c : Code} {g : xG} (X : xX p s m args c meth cX12_goesOn RX12 8 g) (hr : meth.sig.returnType = none) {P : xP} {C186 : xK} (h186 : xAt p l e { frames := 2, cells := 0, slots := 0, locals := 53 } s m args below meth c g 8 xFT xN 0 0 (MQ below (xQc g xFT xN P) args s 0 0 (xFr g)) C186 186) : xAt p l e { frames := 2, cells := 0, slots := 0, locals := 53 } s m args below meth c g 8 xFT xN 0 0 (MQ below (xQc g xFT xN P) args s 0 0 (xFr g)) (k_X12_goesOn_177 P C186) 177 := by
  unfold k_X12_goesOn_177
  refine r_aload_n (pc := 177) X d_X12_goesOn_177 fn0 ?_
  refine s_getF (pc := 178) (ci := 12) (k := 37) X xok12 (by decide +kernel) ob_180 trivial ly_180_37 (by decide +kernel) fl_RX12_80 d_X12_goesOn_178 ?_
  refine r_iload (pc := 181) X d_X12_goesOn_181 ?_
  refine s_iald (pc := 183) X tn_198 ln_198 d_X12_goesOn_183 ?_
  refine r_istore (pc := 184) X d_X12_goesOn_184 (by decide +kernel) ?_
  exact h186
def k_X12_goesOn_171 (P : xP) (C118 : xK) : xK := x_iinc 7 1 (C118)
set_option maxRecDepth 20000 in
theorem t_X12_goesOn_171 {p : Program} {l : Launch} {e : Env} {s : State} {m : MethodId} {args : Array Value} {below : List Frame} {meth : Method} {c : Code} {g : xG} (X : xX p s m args c meth cX12_goesOn RX12 8 g) (hr : meth.sig.returnType = none) {P : xP} {C118 : xK} (h118 : xAt p l e { frames := 2, cells := 0, slots := 0, locals := 53 } s m args below meth c g 8 xFT xN 0 0 (MQ below (xQc g xFT xN P) args s 0 0 (xFr g)) C118 118) : xAt p l e { frames := 2, cells := 0, slots := 0, locals := 53 } s m args below meth c g 8 xFT xN 0 0 (MQ below (xQc g xFT xN P) args s 0 0 (xFr g)) (k_X12_goesOn_171 P C118) 171 := by
  unfold k_X12_goesOn_171
  refine r_iinc (pc := 171) X d_X12_goesOn_171 (by decide +kernel) (by decide +kernel) ?_
  refine r_goto (pc := 174) (tgt := 118) X d_X12_goesOn_174 (by decide +kernel) ?_
  exact h118
def k_X12_goesOn_118 (P : xP) (C118 : xK) (C186 : xK) : xK := x_iload 7 (x_aload 0 (y_getF 180 198 (x_iload 3 (x_push (.int 1) (x_iadd (y_iald 198 81 (x_icmp_ge ((k_X12_goesOn_177 P C186)) (x_iload 5 (x_if_le ((k_X12_goesOn_177 P C186)) (x_aload 0 (y_getF 180 199 (x_iload 7 (y_iald 199 76800 (x_push (.int 128) (x_idiv (x_push (.int 3) (x_icmp_le ((k_X12_goesOn_171 P C118)) (x_aload 0 (x_aload 0 (y_getF 180 199 (x_iload 7 (y_iald 199 76800 (x_push (.int 128) (x_irem (x_iload 4 (x_iload 5 (x_push (.int 0) (y_cv4 180 (w_RIIII f_X12_comes) ((k_X12_goesOn_171 P C118))))))))))))))))))))))))))))))
set_option maxRecDepth 20000 in
theorem t_X12_goesOn_118 {p : Program} {l : Launch} {e : Env} {s : State} {m : MethodId} {args : Array Value} {below : List Frame} {meth : Method} {c : Code} {g : xG} (X : xX p s m args c meth cX12_goesOn RX12 8 g) (hr : meth.sig.returnType = none) {P : xP} {C118 : xK} {C186 : xK} (h118 : xAt p l e { frames := 2, cells := 0, slots := 0, locals := 53 } s m args below meth c g 8 xFT xN 0 0 (MQ below (xQc g xFT xN P) args s 0 0 (xFr g)) C118 118) (h186 : xAt p l e { frames := 2, cells := 0, slots := 0, locals := 53 } s m args below meth c g 8 xFT xN 0 0 (MQ below (xQc g xFT xN P) args s 0 0 (xFr g)) C186 186) : xAt p l e { frames := 2, cells := 0, slots := 0, locals := 53 } s m args below meth c g 8 xFT xN 0 0 (MQ below (xQc g xFT xN P) args s 0 0 (xFr g)) (k_X12_goesOn_118 P C118 C186) 118 := by
  unfold k_X12_goesOn_118
  refine r_iload (pc := 118) X d_X12_goesOn_118 ?_
  refine r_aload_n (pc := 120) X d_X12_goesOn_120 fn0 ?_
  refine s_getF (pc := 121) (ci := 12) (k := 37) X xok12 (by decide +kernel) ob_180 trivial ly_180_37 (by decide +kernel) fl_RX12_80 d_X12_goesOn_121 ?_
  refine r_iload_n (pc := 124) X d_X12_goesOn_124 fn3 ?_
  refine r_iconst (pc := 125) X d_X12_goesOn_125 (by decide +kernel) ?_
  refine r_iadd (pc := 126) X d_X12_goesOn_126 ?_
  refine s_iald (pc := 127) X tn_198 ln_198 d_X12_goesOn_127 ?_
  refine r_icmp_ge (pc := 128) (tgt := 177) X d_X12_goesOn_128 (by decide +kernel) ?_ ?_
  · exact t_X12_goesOn_177 X hr h186
  · refine r_iload (pc := 131) X d_X12_goesOn_131 ?_
    refine r_if_le (pc := 133) (tgt := 177) X d_X12_goesOn_133 (by decide +kernel) ?_ ?_
    · exact t_X12_goesOn_177 X hr h186
    · refine r_aload_n (pc := 136) X d_X12_goesOn_136 fn0 ?_
      refine s_getF (pc := 137) (ci := 12) (k := 38) X xok12 (by decide +kernel) ob_180 trivial ly_180_38 (by decide +kernel) fl_RX12_84 d_X12_goesOn_137 ?_
      refine r_iload (pc := 140) X d_X12_goesOn_140 ?_
      refine s_iald (pc := 142) X tn_199 ln_199 d_X12_goesOn_142 ?_
      refine r_sipush (pc := 143) X d_X12_goesOn_143 (by decide +kernel) ?_
      refine r_idiv (pc := 146) X d_X12_goesOn_146 ?_
      refine r_iconst (pc := 147) X d_X12_goesOn_147 (by decide +kernel) ?_
      refine r_icmp_le (pc := 148) (tgt := 171) X d_X12_goesOn_148 (by decide +kernel) ?_ ?_
      · exact t_X12_goesOn_171 X hr h118
      · refine r_aload_n (pc := 151) X d_X12_goesOn_151 fn0 ?_
        refine r_aload_n (pc := 152) X d_X12_goesOn_152 fn0 ?_
        refine s_getF (pc := 153) (ci := 12) (k := 38) X xok12 (by decide +kernel) ob_180 trivial ly_180_38 (by decide +kernel) fl_RX12_84 d_X12_goesOn_153 ?_
        refine r_iload (pc := 156) X d_X12_goesOn_156 ?_
        refine s_iald (pc := 158) X tn_199 ln_199 d_X12_goesOn_158 ?_
        refine r_sipush (pc := 159) X d_X12_goesOn_159 (by decide +kernel) ?_
        refine r_irem (pc := 162) X d_X12_goesOn_162 ?_
        refine r_iload (pc := 163) X d_X12_goesOn_163 ?_
        refine r_iload (pc := 165) X d_X12_goesOn_165 ?_
        refine r_iconst (pc := 167) X d_X12_goesOn_167 (by decide +kernel) ?_
        refine s_cv4 (pc := 168) (ci := 12) X xok12 (by decide +kernel) ob_180 rfl (con_X12_comes l) mf_X12_comes ml_RX12_449 (by decide +kernel) (by decide +kernel) d_X12_goesOn_168 ?_
        exact t_X12_goesOn_171 X hr h118
def k_X12_goesOn_245 (P : xP) : xK := x_vret P
set_option maxRecDepth 20000 in
theorem t_X12_goesOn_245 {p : Program} {l : Launch} {e : Env} {s : State} {m : MethodId} {args : Array Value} {below : List Frame} {meth : Method} {c : Code} {g : xG} (X : xX p s m args c meth cX12_goesOn RX12 8 g) (hr : meth.sig.returnType = none) {P : xP} : xAt p l e { frames := 2, cells := 0, slots := 0, locals := 53 } s m args below meth c g 8 xFT xN 0 0 (MQ below (xQc g xFT xN P) args s 0 0 (xFr g)) (k_X12_goesOn_245 P) 245 := by
  unfold k_X12_goesOn_245
  exact r_vret (pc := 245) X hr d_X12_goesOn_245
def k_X12_goesOn_239 (P : xP) (C186 : xK) : xK := x_iinc 7 1 (C186)
set_option maxRecDepth 20000 in
theorem t_X12_goesOn_239 {p : Program} {l : Launch} {e : Env} {s : State} {m : MethodId} {args : Array Value} {below : List Frame} {meth : Method} {c : Code} {g : xG} (X : xX p s m args c meth cX12_goesOn RX12 8 g) (hr : meth.sig.returnType = none) {P : xP} {C186 : xK} (h186 : xAt p l e { frames := 2, cells := 0, slots := 0, locals := 53 } s m args below meth c g 8 xFT xN 0 0 (MQ below (xQc g xFT xN P) args s 0 0 (xFr g)) C186 186) : xAt p l e { frames := 2, cells := 0, slots := 0, locals := 53 } s m args below meth c g 8 xFT xN 0 0 (MQ below (xQc g xFT xN P) args s 0 0 (xFr g)) (k_X12_goesOn_239 P C186) 239 := by
  unfold k_X12_goesOn_239
  refine r_iinc (pc := 239) X d_X12_goesOn_239 (by decide +kernel) (by decide +kernel) ?_
  refine r_goto (pc := 242) (tgt := 186) X d_X12_goesOn_242 (by decide +kernel) ?_
  exact h186
def k_X12_goesOn_186 (P : xP) (C186 : xK) : xK := x_iload 7 (x_aload 0 (y_getF 180 198 (x_iload 4 (x_push (.int 1) (x_iadd (y_iald 198 81 (x_icmp_ge ((k_X12_goesOn_245 P)) (x_iload 6 (x_if_le ((k_X12_goesOn_245 P)) (x_aload 0 (y_getF 180 199 (x_iload 7 (y_iald 199 76800 (x_push (.int 128) (x_idiv (x_push (.int 3) (x_icmp_le ((k_X12_goesOn_239 P C186)) (x_aload 0 (x_iload 3 (x_aload 0 (y_getF 180 199 (x_iload 7 (y_iald 199 76800 (x_push (.int 128) (x_irem (x_iload 6 (x_push (.int 0) (y_cv4 180 (w_RIIII f_X12_comes) ((k_X12_goesOn_239 P C186))))))))))))))))))))))))))))))
set_option maxRecDepth 20000 in
theorem t_X12_goesOn_186 {p : Program} {l : Launch} {e : Env} {s : State} {m : MethodId} {args : Array Value} {below : List Frame} {meth : Method} {c : Code} {g : xG} (X : xX p s m args c meth cX12_goesOn RX12 8 g) (hr : meth.sig.returnType = none) {P : xP} {C186 : xK} (h186 : xAt p l e { frames := 2, cells := 0, slots := 0, locals := 53 } s m args below meth c g 8 xFT xN 0 0 (MQ below (xQc g xFT xN P) args s 0 0 (xFr g)) C186 186) : xAt p l e { frames := 2, cells := 0, slots := 0, locals := 53 } s m args below meth c g 8 xFT xN 0 0 (MQ below (xQc g xFT xN P) args s 0 0 (xFr g)) (k_X12_goesOn_186 P C186) 186 := by
  unfold k_X12_goesOn_186
  refine r_iload (pc := 186) X d_X12_goesOn_186 ?_
  refine r_aload_n (pc := 188) X d_X12_goesOn_188 fn0 ?_
  refine s_getF (pc := 189) (ci := 12) (k := 37) X xok12 (by decide +kernel) ob_180 trivial ly_180_37 (by decide +kernel) fl_RX12_80 d_X12_goesOn_189 ?_
  refine r_iload (pc := 192) X d_X12_goesOn_192 ?_
  refine r_iconst (pc := 194) X d_X12_goesOn_194 (by decide +kernel) ?_
  refine r_iadd (pc := 195) X d_X12_goesOn_195 ?_
  refine s_iald (pc := 196) X tn_198 ln_198 d_X12_goesOn_196 ?_
  refine r_icmp_ge (pc := 197) (tgt := 245) X d_X12_goesOn_197 (by decide +kernel) ?_ ?_
  · exact t_X12_goesOn_245 X hr
  · refine r_iload (pc := 200) X d_X12_goesOn_200 ?_
    refine r_if_le (pc := 202) (tgt := 245) X d_X12_goesOn_202 (by decide +kernel) ?_ ?_
    · exact t_X12_goesOn_245 X hr
    · refine r_aload_n (pc := 205) X d_X12_goesOn_205 fn0 ?_
      refine s_getF (pc := 206) (ci := 12) (k := 38) X xok12 (by decide +kernel) ob_180 trivial ly_180_38 (by decide +kernel) fl_RX12_84 d_X12_goesOn_206 ?_
      refine r_iload (pc := 209) X d_X12_goesOn_209 ?_
      refine s_iald (pc := 211) X tn_199 ln_199 d_X12_goesOn_211 ?_
      refine r_sipush (pc := 212) X d_X12_goesOn_212 (by decide +kernel) ?_
      refine r_idiv (pc := 215) X d_X12_goesOn_215 ?_
      refine r_iconst (pc := 216) X d_X12_goesOn_216 (by decide +kernel) ?_
      refine r_icmp_le (pc := 217) (tgt := 239) X d_X12_goesOn_217 (by decide +kernel) ?_ ?_
      · exact t_X12_goesOn_239 X hr h186
      · refine r_aload_n (pc := 220) X d_X12_goesOn_220 fn0 ?_
        refine r_iload_n (pc := 221) X d_X12_goesOn_221 fn3 ?_
        refine r_aload_n (pc := 222) X d_X12_goesOn_222 fn0 ?_
        refine s_getF (pc := 223) (ci := 12) (k := 38) X xok12 (by decide +kernel) ob_180 trivial ly_180_38 (by decide +kernel) fl_RX12_84 d_X12_goesOn_223 ?_
        refine r_iload (pc := 226) X d_X12_goesOn_226 ?_
        refine s_iald (pc := 228) X tn_199 ln_199 d_X12_goesOn_228 ?_
        refine r_sipush (pc := 229) X d_X12_goesOn_229 (by decide +kernel) ?_
        refine r_irem (pc := 232) X d_X12_goesOn_232 ?_
        refine r_iload (pc := 233) X d_X12_goesOn_233 ?_
        refine r_iconst (pc := 235) X d_X12_goesOn_235 (by decide +kernel) ?_
        refine s_cv4 (pc := 236) (ci := 12) X xok12 (by decide +kernel) ob_180 rfl (con_X12_comes l) mf_X12_comes ml_RX12_449 (by decide +kernel) (by decide +kernel) d_X12_goesOn_236 ?_
        exact t_X12_goesOn_239 X hr h186
set_option maxRecDepth 20000 in
theorem m_X12_goesOn {l : Launch} {f : Nat → Int32 → xH → xP → Prop}  {I118 : Nat → Int32 → xH → xP → xM → xK} {I186 : Nat → Int32 → xH → xP → xM → xK}
    (v0 : ∀ (a0 : Nat) (a1 : Int32) (A : xH) (P : xP), f a0 a1 A P → k_X12_goesOn_0 P (xE (I118 a0 a1 A P)) [some (.ref a0), some (.int a1), none, none, none, none, none, none] [] A)
    (v118 : ∀ (a0 : Nat) (a1 : Int32) (A : xH) (P : xP), f a0 a1 A P → ∀ (μ : xM) (L : xL) (st : List Value) (B : xH), I118 a0 a1 A P μ L st B → k_X12_goesOn_118 P (xB (I118 a0 a1 A P) μ) (xE (I186 a0 a1 A P)) L st B)
    (v186 : ∀ (a0 : Nat) (a1 : Int32) (A : xH) (P : xP), f a0 a1 A P → ∀ (μ : xM) (L : xL) (st : List Value) (B : xH), I186 a0 a1 A P μ L st B → k_X12_goesOn_186 P (xB (I186 a0 a1 A P) μ) L st B) : xCon l yX12_goesOn cX12_goesOn 8 none 2 53 xN xN 0 xFT xFT (w_RI f) := by
  refine xc_RI (plainFor_of_name pn_RX12) (by decide +kernel) (fun p e s m args below meth c g a0 a1 A P h X hr _ => ?_)
  have h186 := x_loop1 (p := p) (l := l) (e := e) (R := { frames := 2, cells := 0, slots := 0, locals := 53 }) (s := s) (m := m) (args := args) (below := below) (meth := meth) (c := c) (g := g) (nL := 8) (F := xFT) (n := xN) (cells := 0) (slots := 0) (Q := MQ below (xQc g xFT xN P) args s 0 0 (xFr g)) (I := I186 a0 a1 A P) (pc1 := 186) (fun μ i186 => xAt_mono (t_X12_goesOn_186 (P := P) X hr i186) (v186 a0 a1 A P h μ))
  have h118 := x_loop1 (p := p) (l := l) (e := e) (R := { frames := 2, cells := 0, slots := 0, locals := 53 }) (s := s) (m := m) (args := args) (below := below) (meth := meth) (c := c) (g := g) (nL := 8) (F := xFT) (n := xN) (cells := 0) (slots := 0) (Q := MQ below (xQc g xFT xN P) args s 0 0 (xFr g)) (I := I118 a0 a1 A P) (pc1 := 118) (fun μ i118 => xAt_mono (t_X12_goesOn_118 (P := P) X hr i118 h186) (v118 a0 a1 A P h μ))
  exact ⟨_, v0 a0 a1 A P h, t_X12_goesOn_0 X hr h118⟩
theorem sc_lt4 {s : Nat} (h : s < 24) : sc s < 4 ↔ s < 4 := by unfold sc; split <;> (try split) <;> omega
theorem sc_inj {s u : Nat} (h : s < 24) (h2 : u < 24) (e : sc s = sc u) : s = u := by
  unfold sc at e
  split at e <;> split at e <;> (try split at e) <;> (try split at e) <;> omega
theorem sc_42 {s : Nat} (h : s < 24) : sc s < 42 := by unfold sc; split <;> (try split) <;> omega
theorem tY_of {v : xV} {p s q : Nat} (hw : wfg v) (hc : wfc v) (hs : s < 24) (hq : q < 128) (h : stT v p s q) : tY v p (sc s * 128 + q) = true := by
  rw [tY_tX hw hc hs hq]
  unfold tX
  rw [bt_iff, show (s * 128 + q) / 128 = s by omega, show (s * 128 + q) % 128 = q by omega]
  exact h
theorem tY_to {v : xV} {p y : Nat} (hw : wfg v) (hc : wfc v) (h : tY v p y = true) : ∃ s, s < 24 ∧ y / 128 = sc s ∧ stT v p s (y % 128) := by
  have h1 : ∃ s, s < 24 ∧ y / 128 = sc s := Classical.byContradiction fun w => by
    rw [tY_out hw hc fun s hs e => w ⟨s, hs, e⟩] at h
    cases h
  obtain ⟨s, hs, e⟩ := h1
  have ey : y = sc s * 128 + y % 128 := by omega
  have hq : y % 128 < 128 := Nat.mod_lt _ (by omega)
  rw [ey, tY_tX hw hc hs hq] at h
  unfold tX at h
  rw [bt_iff, show (s * 128 + y % 128) / 128 = s by omega, show (s * 128 + y % 128) % 128 = y % 128 by omega] at h
  exact ⟨s, hs, e, h⟩
/-- where a node leads: by no sign, by one -/
def eV (v : xV) (n : Nat × Nat × Nat) (t : Nat) (g : Bool) : Prop := ∃ n', t = nEn n' ∧ ((g = false ∧ e0T (stT v) n n') ∨ (g = true ∧ e1T (stT v) n n'))
theorem pv_e {v : xV} {s a b t : Nat} {g : Bool} (hw : wfg v) (hc : wfc v) (h80 : (plL v).length ≤ 80) : pvA v s a b t g ↔ ∃ n', t = nEn n' ∧ ((g = false ∧ s = 0 ∧ ∃ u u', 4 ≤ u ∧ u < 24 ∧ 4 ≤ u' ∧ u' < 24 ∧ stT v a u n'.2.1 ∧ stT v b u' n'.2.2 ∧ n'.1 = if u = u' then 0 else 1) ∨ (g = true ∧ e1T (stT v) (s, a, b) n')) := by
  constructor
  · rintro ⟨y, y', y1, y2, y3, y4, h⟩
    obtain ⟨u, u1, u2, u3⟩ := tY_to hw hc y3
    obtain ⟨w, w1, w2, w3⟩ := tY_to hw hc y4
    have l1 := sc_lt4 u1
    have l2 := sc_lt4 w1
    rcases h with ⟨h1, h2, h3, h4⟩ | ⟨h1, h2, h3, h4, h5, h6⟩
    · have e := sc_inj u1 w1 (by omega)
      subst e
      refine ⟨_, h3, ?_⟩
      by_cases q : u < 4
      · exact Or.inr ⟨by rw [h4, decide_eq_true (by omega)], ⟨u, q, u3, w3⟩, rfl⟩
      · have s0 : s = 0 := by omega
        exact Or.inl ⟨by rw [h4, decide_eq_false (by omega)], s0, u, u, by omega, u1, by omega, u1, u3, w3, by rw [if_pos rfl]; exact if_pos s0⟩
    · refine ⟨_, h5, Or.inl ⟨h6, h2, u, w, by omega, u1, by omega, w1, u3, w3, ?_⟩⟩
      rw [if_neg (fun e => by subst e; omega)]
  · rintro ⟨⟨s', p', q'⟩, rfl, ⟨rfl, s0, u, u', h1, h2, h3, h4, h5, h6, h7⟩ | ⟨rfl, ⟨u, h1, h2, h3⟩, h4⟩⟩
    · have p1 := (stT_pl h5).2
      have p2 := (stT_pl h6).2
      have h7 : s' = if u = u' then 0 else 1 := h7
      have p1 : p' < (plL v).length := p1
      have p2 : q' < (plL v).length := p2
      have l1 := sc_lt4 h2
      have l2 := sc_lt4 h4
      have l3 := sc_42 h2
      have l4 := sc_42 h4
      refine ⟨sc u * 128 + p', sc u' * 128 + q', by omega, by omega, tY_of hw hc h2 (by omega) h5, tY_of hw hc h4 (by omega) h6, ?_⟩
      unfold pvY
      rw [show (sc u * 128 + p') / 128 = sc u by omega, show (sc u' * 128 + q') / 128 = sc u' by omega, show (sc u * 128 + p') % 128 = p' by omega, show (sc u' * 128 + q') % 128 = q' by omega, if_pos s0, decide_eq_false (show ¬ sc u < 4 by omega)]
      by_cases e : u = u'
      · subst e
        rw [if_pos rfl] at h7
        rw [h7]
        exact Or.inl ⟨rfl, Or.inl s0, rfl, rfl⟩
      · rw [if_neg e] at h7
        rw [h7]
        exact Or.inr ⟨fun w => e (sc_inj h2 h4 w), s0, by omega, by omega, rfl, rfl⟩
    · have p1 : p' < (plL v).length := (stT_pl h2).2
      have p2 : q' < (plL v).length := (stT_pl h3).2
      have h4 : s' = if s = 0 then 0 else 1 := h4
      have e := sc_s h1
      refine ⟨u * 128 + p', u * 128 + q', by omega, by omega, ?_, ?_, Or.inl ⟨by omega, Or.inr (by omega), ?_, ?_⟩⟩
      · have := tY_of hw hc (show u < 24 by omega) (show p' < 128 by omega) h2
        rw [e] at this; exact this
      · have := tY_of hw hc (show u < 24 by omega) (show q' < 128 by omega) h3
        rw [e] at this; exact this
      · rw [show (u * 128 + p') % 128 = p' by omega, show (u * 128 + q') % 128 = q' by omega, h4]
      · rw [decide_eq_true (by omega)]
noncomputable def lfN (v : xV) (s q : Nat) : Nat := if s = 0 then (if q = 1 then 1 else if bt (hsV v q) then 2 else 0) else if s = 3 then 0 else s
noncomputable def rgN (v : xV) (s p : Nat) : Nat := if s = 0 then (if p = 1 then 1 else if bt (hsV v p) then 3 else 0) else if s = 2 then 0 else s
theorem lf_iff {v : xV} {s q s' : Nat} : lfS (stT v) s q s' ↔ lfN v s q = s' ∧ lfN v s q ≠ 0 := by
  have hb : hsP (stT v) q ↔ bt (hsV v q) = true := bt_iff.symm
  unfold lfS lfN
  rw [hb]
  by_cases s0 : s = 0
  · rw [if_pos s0]
    by_cases q1 : q = 1
    · rw [if_pos q1]; omega
    · rw [if_neg q1]
      cases bt (hsV v q)
      · rw [if_neg (by decide)]
        constructor
        · rintro (w | ⟨-, -, w, -⟩ | w)
          · omega
          · cases w
          · omega
        · omega
      · rw [if_pos rfl]
        constructor
        · rintro (w | ⟨-, -, -, w⟩ | w) <;> omega
        · rintro ⟨w, -⟩; exact Or.inr (Or.inl ⟨s0, q1, rfl, w.symm⟩)
  · rw [if_neg s0]
    by_cases s3 : s = 3
    · rw [if_pos s3]; omega
    · rw [if_neg s3]; omega
theorem rg_iff {v : xV} {s q s' : Nat} : rgS (stT v) s q s' ↔ rgN v s q = s' ∧ rgN v s q ≠ 0 := by
  have hb : hsP (stT v) q ↔ bt (hsV v q) = true := bt_iff.symm
  unfold rgS rgN
  rw [hb]
  by_cases s0 : s = 0
  · rw [if_pos s0]
    by_cases q1 : q = 1
    · rw [if_pos q1]; omega
    · rw [if_neg q1]
      cases bt (hsV v q)
      · rw [if_neg (by decide)]
        constructor
        · rintro (w | ⟨-, -, w, -⟩ | w)
          · omega
          · cases w
          · omega
        · omega
      · rw [if_pos rfl]
        constructor
        · rintro (w | ⟨-, -, -, w⟩ | w) <;> omega
        · rintro ⟨w, -⟩; exact Or.inr (Or.inl ⟨s0, q1, rfl, w.symm⟩)
  · rw [if_neg s0]
    by_cases s3 : s = 2
    · rw [if_pos s3]; omega
    · rw [if_neg s3]; omega
theorem lf_4 {v : xV} {s q : Nat} (h : s < 4) : lfN v s q < 4 := by
  unfold lfN
  split
  · split
    · omega
    · split <;> omega
  · split <;> omega
theorem rg_4 {v : xV} {s q : Nat} (h : s < 4) : rgN v s q < 4 := by
  unfold rgN
  split
  · split
    · omega
    · split <;> omega
  · split <;> omega
def lI (l : Nat) : Int32 := if l = 0 then -1 else nI l
theorem lI_le {l : Nat} (h : l < 4) : lI l ≤ 0 ↔ l = 0 := by
  unfold lI
  split
  · rename_i e; exact ⟨fun _ => e, fun _ => by decide⟩
  · rw [z_le (by omega)]
def lvM (v : xV) (l a b m t : Nat) (g : Bool) : Prop := g = false ∧ l ≠ 0 ∧ ∃ y, y < 5376 ∧ tY v a y = true ∧ 3 < y / 128 ∧ cb (tY v a) y < m ∧ t = nEn (l, y % 128, b)
def rvM (v : xV) (r a b m t : Nat) (g : Bool) : Prop := g = false ∧ r ≠ 0 ∧ ∃ y, y < 5376 ∧ tY v b y = true ∧ 3 < y / 128 ∧ cb (tY v b) y < m ∧ t = nEn (r, a, y % 128)
theorem lv_e {v : xV} {l a b m t : Nat} {g : Bool} (hw : wfg v) (hc : wfc v) (h80 : (plL v).length ≤ 80) (hm : l ≠ 0 → m = tN (stT v) a) : lvM v l a b m t g ↔ g = false ∧ l ≠ 0 ∧ ∃ p', nsT (stT v) a p' ∧ t = nEn (l, p', b) := by
  constructor
  · rintro ⟨h1, h2, y, y1, y2, y3, y4, y5⟩
    obtain ⟨u, u1, u2, u3⟩ := tY_to hw hc y2
    have := sc_lt4 u1
    exact ⟨h1, h2, _, ⟨u, by omega, u1, u3⟩, y5⟩
  · rintro ⟨h1, h2, p', ⟨u, u1, u2, u3⟩, e⟩
    have p1 := (stT_pl u3).2
    have l1 := sc_lt4 u2
    have l3 := sc_42 u2
    have ht := tY_of hw hc u2 (show p' < 128 by omega) u3
    refine ⟨h1, h2, sc u * 128 + p', by omega, ht, by omega, ?_, by rw [show (sc u * 128 + p') % 128 = p' by omega]; exact e⟩
    rw [hm h2]
    exact cb_5376 hw hc (by omega) ht
theorem rv_e {v : xV} {r a b m t : Nat} {g : Bool} (hw : wfg v) (hc : wfc v) (h80 : (plL v).length ≤ 80) (hm : r ≠ 0 → m = tN (stT v) b) : rvM v r a b m t g ↔ g = false ∧ r ≠ 0 ∧ ∃ p', nsT (stT v) b p' ∧ t = nEn (r, a, p') := by
  constructor
  · rintro ⟨h1, h2, y, y1, y2, y3, y4, y5⟩
    obtain ⟨u, u1, u2, u3⟩ := tY_to hw hc y2
    have := sc_lt4 u1
    exact ⟨h1, h2, _, ⟨u, by omega, u1, u3⟩, y5⟩
  · rintro ⟨h1, h2, p', ⟨u, u1, u2, u3⟩, e⟩
    have p1 := (stT_pl u3).2
    have l1 := sc_lt4 u2
    have l3 := sc_42 u2
    have ht := tY_of hw hc u2 (show p' < 128 by omega) u3
    refine ⟨h1, h2, sc u * 128 + p', by omega, ht, by omega, ?_, by rw [show (sc u * 128 + p') % 128 = p' by omega]; exact e⟩
    rw [hm h2]
    exact cb_5376 hw hc (by omega) ht
/-- all where a node leads -/
theorem eV_all {v : xV} {s a b m k t : Nat} {g : Bool} (hw : wfg v) (hc : wfc v) (h80 : (plL v).length ≤ 80) (hm : lfN v s b ≠ 0 → m = tN (stT v) a) (hk : rgN v s a ≠ 0 → k = tN (stT v) b) : eV v (s, a, b) t g ↔ (pvA v s a b t g ∨ lvM v (lfN v s b) a b m t g) ∨ rvM v (rgN v s a) a b k t g := by
  rw [pv_e hw hc h80, lv_e hw hc h80 hm, rv_e hw hc h80 hk]
  constructor
  · rintro ⟨⟨s', p', q'⟩, e, ⟨rfl, ⟨w1, w2, w3⟩ | ⟨w1, w2, w3⟩ | ⟨w1, w2⟩⟩ | ⟨rfl, w⟩⟩
    · have w1 := lf_iff.mp w1
      have w3 : q' = b := w3
      refine Or.inl (Or.inr ⟨rfl, w1.2, p', w2, ?_⟩)
      have w11 : lfN v s b = s' := w1.1
      rw [e, w3, w11]
    · have w1 := rg_iff.mp w1
      have w2 : p' = a := w2
      refine Or.inr ⟨rfl, w1.2, q', w3, ?_⟩
      have w11 : rgN v s a = s' := w1.1
      rw [e, w2, w11]
    · exact Or.inl (Or.inl ⟨_, e, Or.inl ⟨rfl, w1, w2⟩⟩)
    · exact Or.inl (Or.inl ⟨_, e, Or.inr ⟨rfl, w⟩⟩)
  · rintro ((⟨n', e, ⟨rfl, w1, w2⟩ | ⟨rfl, w⟩⟩ | ⟨rfl, w1, p', w2, e⟩) | ⟨rfl, w1, p', w2, e⟩)
    · exact ⟨n', e, Or.inl ⟨rfl, Or.inr (Or.inr ⟨w1, w2⟩)⟩⟩
    · exact ⟨n', e, Or.inr ⟨rfl, w⟩⟩
    · exact ⟨_, e, Or.inl ⟨rfl, Or.inl ⟨lf_iff.mpr ⟨rfl, w1⟩, w2, rfl⟩⟩⟩
    · exact ⟨_, e, Or.inl ⟨rfl, Or.inr (Or.inl ⟨rg_iff.mpr ⟨rfl, w1⟩, rfl, w2⟩)⟩⟩

