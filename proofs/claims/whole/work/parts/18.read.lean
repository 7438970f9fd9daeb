theorem d_X9_readRun_0 : decode cX9_readRun 0 = .ok (.iconst 1, 1) := by decide +kernel
theorem d_X9_readRun_1 : decode cX9_readRun 1 = .ok (.istore_n 2, 1) := by decide +kernel
theorem d_X9_readRun_2 : decode cX9_readRun 2 = .ok (.iconst 1, 1) := by decide +kernel
theorem d_X9_readRun_3 : decode cX9_readRun 3 = .ok (.istore_n 3, 1) := by decide +kernel
theorem d_X9_readRun_4 : decode cX9_readRun 4 = .ok (.aload_n 0, 1) := by decide +kernel
theorem d_X9_readRun_5 : decode cX9_readRun 5 = .ok (.getfield 22, 3) := by decide +kernel
theorem d_X9_readRun_8 : decode cX9_readRun 8 = .ok (.istore 4, 2) := by decide +kernel
theorem d_X9_readRun_10 : decode cX9_readRun 10 = .ok (.aload_n 0, 1) := by decide +kernel
theorem d_X9_readRun_11 : decode cX9_readRun 11 = .ok (.getfield 22, 3) := by decide +kernel
theorem d_X9_readRun_14 : decode cX9_readRun 14 = .ok (.aload_n 0, 1) := by decide +kernel
theorem d_X9_readRun_15 : decode cX9_readRun 15 = .ok (.getfield 15, 3) := by decide +kernel
theorem d_X9_readRun_18 : decode cX9_readRun 18 = .ok (.if_icmp .ge 146, 3) := by decide +kernel
theorem d_X9_readRun_21 : decode cX9_readRun 21 = .ok (.iload_n 3, 1) := by decide +kernel
theorem d_X9_readRun_22 : decode cX9_readRun 22 = .ok (.ifCond .eq 142, 3) := by decide +kernel
theorem d_X9_readRun_25 : decode cX9_readRun 25 = .ok (.aload_n 0, 1) := by decide +kernel
theorem d_X9_readRun_26 : decode cX9_readRun 26 = .ok (.getfield 9, 3) := by decide +kernel
theorem d_X9_readRun_29 : decode cX9_readRun 29 = .ok (.aload_n 0, 1) := by decide +kernel
theorem d_X9_readRun_30 : decode cX9_readRun 30 = .ok (.getfield 22, 3) := by decide +kernel
theorem d_X9_readRun_33 : decode cX9_readRun 33 = .ok (.iaload, 1) := by decide +kernel
theorem d_X9_readRun_34 : decode cX9_readRun 34 = .ok (.istore 5, 2) := by decide +kernel
theorem d_X9_readRun_36 : decode cX9_readRun 36 = .ok (.iload 5, 2) := by decide +kernel
theorem d_X9_readRun_38 : decode cX9_readRun 38 = .ok (.bipush 97, 2) := by decide +kernel
theorem d_X9_readRun_40 : decode cX9_readRun 40 = .ok (.if_icmp .lt 14, 3) := by decide +kernel
theorem d_X9_readRun_43 : decode cX9_readRun 43 = .ok (.iload 5, 2) := by decide +kernel
theorem d_X9_readRun_45 : decode cX9_readRun 45 = .ok (.bipush 122, 2) := by decide +kernel
theorem d_X9_readRun_47 : decode cX9_readRun 47 = .ok (.if_icmp .gt 7, 3) := by decide +kernel
theorem d_X9_readRun_50 : decode cX9_readRun 50 = .ok (.iconst 1, 1) := by decide +kernel
theorem d_X9_readRun_51 : decode cX9_readRun 51 = .ok (.goto 4, 3) := by decide +kernel
theorem d_X9_readRun_54 : decode cX9_readRun 54 = .ok (.iconst 0, 1) := by decide +kernel
theorem d_X9_readRun_55 : decode cX9_readRun 55 = .ok (.istore 6, 2) := by decide +kernel
theorem d_X9_readRun_57 : decode cX9_readRun 57 = .ok (.iload 6, 2) := by decide +kernel
theorem d_X9_readRun_59 : decode cX9_readRun 59 = .ok (.ifCond .ne 17, 3) := by decide +kernel
theorem d_X9_readRun_62 : decode cX9_readRun 62 = .ok (.iload 5, 2) := by decide +kernel
theorem d_X9_readRun_64 : decode cX9_readRun 64 = .ok (.bipush 48, 2) := by decide +kernel
theorem d_X9_readRun_66 : decode cX9_readRun 66 = .ok (.if_icmp .lt 14, 3) := by decide +kernel
theorem d_X9_readRun_69 : decode cX9_readRun 69 = .ok (.iload 5, 2) := by decide +kernel
theorem d_X9_readRun_71 : decode cX9_readRun 71 = .ok (.bipush 57, 2) := by decide +kernel
theorem d_X9_readRun_73 : decode cX9_readRun 73 = .ok (.if_icmp .gt 7, 3) := by decide +kernel
theorem d_X9_readRun_76 : decode cX9_readRun 76 = .ok (.iconst 1, 1) := by decide +kernel
theorem d_X9_readRun_77 : decode cX9_readRun 77 = .ok (.goto 4, 3) := by decide +kernel
theorem d_X9_readRun_80 : decode cX9_readRun 80 = .ok (.iconst 0, 1) := by decide +kernel
theorem d_X9_readRun_81 : decode cX9_readRun 81 = .ok (.istore_n 3, 1) := by decide +kernel
theorem d_X9_readRun_82 : decode cX9_readRun 82 = .ok (.iload_n 3, 1) := by decide +kernel
theorem d_X9_readRun_83 : decode cX9_readRun 83 = .ok (.ifCond .eq 78, 3) := by decide +kernel
theorem d_X9_readRun_86 : decode cX9_readRun 86 = .ok (.iload_n 2, 1) := by decide +kernel
theorem d_X9_readRun_87 : decode cX9_readRun 87 = .ok (.ifCond .eq 13, 3) := by decide +kernel
theorem d_X9_readRun_90 : decode cX9_readRun 90 = .ok (.iload 6, 2) := by decide +kernel
theorem d_X9_readRun_92 : decode cX9_readRun 92 = .ok (.iload_n 1, 1) := by decide +kernel
theorem d_X9_readRun_93 : decode cX9_readRun 93 = .ok (.if_icmp .ne 7, 3) := by decide +kernel
theorem d_X9_readRun_96 : decode cX9_readRun 96 = .ok (.iconst 1, 1) := by decide +kernel
theorem d_X9_readRun_97 : decode cX9_readRun 97 = .ok (.goto 4, 3) := by decide +kernel
theorem d_X9_readRun_100 : decode cX9_readRun 100 = .ok (.iconst 0, 1) := by decide +kernel
theorem d_X9_readRun_101 : decode cX9_readRun 101 = .ok (.istore_n 2, 1) := by decide +kernel
theorem d_X9_readRun_102 : decode cX9_readRun 102 = .ok (.aload_n 0, 1) := by decide +kernel
theorem d_X9_readRun_103 : decode cX9_readRun 103 = .ok (.getfield 22, 3) := by decide +kernel
theorem d_X9_readRun_106 : decode cX9_readRun 106 = .ok (.iload 4, 2) := by decide +kernel
theorem d_X9_readRun_108 : decode cX9_readRun 108 = .ok (.isub, 1) := by decide +kernel
theorem d_X9_readRun_109 : decode cX9_readRun 109 = .ok (.bipush 7, 2) := by decide +kernel
theorem d_X9_readRun_111 : decode cX9_readRun 111 = .ok (.if_icmp .ge 40, 3) := by decide +kernel
theorem d_X9_readRun_114 : decode cX9_readRun 114 = .ok (.aload_n 0, 1) := by decide +kernel
theorem d_X9_readRun_115 : decode cX9_readRun 115 = .ok (.iload_n 1, 1) := by decide +kernel
theorem d_X9_readRun_116 : decode cX9_readRun 116 = .ok (.ifCond .eq 17, 3) := by decide +kernel
theorem d_X9_readRun_119 : decode cX9_readRun 119 = .ok (.aload_n 0, 1) := by decide +kernel
theorem d_X9_readRun_120 : decode cX9_readRun 120 = .ok (.getfield 34, 3) := by decide +kernel
theorem d_X9_readRun_123 : decode cX9_readRun 123 = .ok (.bipush 8, 2) := by decide +kernel
theorem d_X9_readRun_125 : decode cX9_readRun 125 = .ok (.lshl, 1) := by decide +kernel
theorem d_X9_readRun_126 : decode cX9_readRun 126 = .ok (.iload 5, 2) := by decide +kernel
theorem d_X9_readRun_128 : decode cX9_readRun 128 = .ok (.i2l, 1) := by decide +kernel
theorem d_X9_readRun_129 : decode cX9_readRun 129 = .ok (.lor, 1) := by decide +kernel
theorem d_X9_readRun_130 : decode cX9_readRun 130 = .ok (.goto 18, 3) := by decide +kernel
theorem d_X9_readRun_133 : decode cX9_readRun 133 = .ok (.aload_n 0, 1) := by decide +kernel
theorem d_X9_readRun_134 : decode cX9_readRun 134 = .ok (.getfield 34, 3) := by decide +kernel
theorem d_X9_readRun_137 : decode cX9_readRun 137 = .ok (.ldc2_w 52, 3) := by decide +kernel
theorem d_X9_readRun_140 : decode cX9_readRun 140 = .ok (.lmul, 1) := by decide +kernel
theorem d_X9_readRun_141 : decode cX9_readRun 141 = .ok (.iload 5, 2) := by decide +kernel
theorem d_X9_readRun_143 : decode cX9_readRun 143 = .ok (.bipush 48, 2) := by decide +kernel
theorem d_X9_readRun_145 : decode cX9_readRun 145 = .ok (.isub, 1) := by decide +kernel
theorem d_X9_readRun_146 : decode cX9_readRun 146 = .ok (.i2l, 1) := by decide +kernel
theorem d_X9_readRun_147 : decode cX9_readRun 147 = .ok (.ladd, 1) := by decide +kernel
theorem d_X9_readRun_148 : decode cX9_readRun 148 = .ok (.putfield 34, 3) := by decide +kernel
theorem d_X9_readRun_151 : decode cX9_readRun 151 = .ok (.aload_n 0, 1) := by decide +kernel
theorem d_X9_readRun_152 : decode cX9_readRun 152 = .ok (.dup, 1) := by decide +kernel
theorem d_X9_readRun_153 : decode cX9_readRun 153 = .ok (.getfield 22, 3) := by decide +kernel
theorem d_X9_readRun_156 : decode cX9_readRun 156 = .ok (.iconst 1, 1) := by decide +kernel
theorem d_X9_readRun_157 : decode cX9_readRun 157 = .ok (.iadd, 1) := by decide +kernel
theorem d_X9_readRun_158 : decode cX9_readRun 158 = .ok (.putfield 22, 3) := by decide +kernel
theorem d_X9_readRun_161 : decode cX9_readRun 161 = .ok (.goto (-151), 3) := by decide +kernel
theorem d_X9_readRun_164 : decode cX9_readRun 164 = .ok (.aload_n 0, 1) := by decide +kernel
theorem d_X9_readRun_165 : decode cX9_readRun 165 = .ok (.getfield 22, 3) := by decide +kernel
theorem d_X9_readRun_168 : decode cX9_readRun 168 = .ok (.iload 4, 2) := by decide +kernel
theorem d_X9_readRun_170 : decode cX9_readRun 170 = .ok (.isub, 1) := by decide +kernel
theorem d_X9_readRun_171 : decode cX9_readRun 171 = .ok (.istore 5, 2) := by decide +kernel
theorem d_X9_readRun_173 : decode cX9_readRun 173 = .ok (.iload_n 2, 1) := by decide +kernel
theorem d_X9_readRun_174 : decode cX9_readRun 174 = .ok (.ifCond .eq 18, 3) := by decide +kernel
theorem d_X9_readRun_177 : decode cX9_readRun 177 = .ok (.iload 5, 2) := by decide +kernel
theorem d_X9_readRun_179 : decode cX9_readRun 179 = .ok (.iload_n 1, 1) := by decide +kernel
theorem d_X9_readRun_180 : decode cX9_readRun 180 = .ok (.ifCond .eq 8, 3) := by decide +kernel
theorem d_X9_readRun_183 : decode cX9_readRun 183 = .ok (.bipush 7, 2) := by decide +kernel
theorem d_X9_readRun_185 : decode cX9_readRun 185 = .ok (.goto 4, 3) := by decide +kernel
theorem d_X9_readRun_188 : decode cX9_readRun 188 = .ok (.iconst 3, 1) := by decide +kernel
theorem d_X9_readRun_189 : decode cX9_readRun 189 = .ok (.if_icmp .le 11, 3) := by decide +kernel
theorem d_X9_readRun_192 : decode cX9_readRun 192 = .ok (.aload_n 0, 1) := by decide +kernel
theorem d_X9_readRun_193 : decode cX9_readRun 193 = .ok (.iconst 4, 1) := by decide +kernel
theorem d_X9_readRun_194 : decode cX9_readRun 194 = .ok (.putfield 41, 3) := by decide +kernel
theorem d_X9_readRun_197 : decode cX9_readRun 197 = .ok (.goto 16, 3) := by decide +kernel
theorem d_X9_readRun_200 : decode cX9_readRun 200 = .ok (.aload_n 0, 1) := by decide +kernel
theorem d_X9_readRun_201 : decode cX9_readRun 201 = .ok (.iload_n 1, 1) := by decide +kernel
theorem d_X9_readRun_202 : decode cX9_readRun 202 = .ok (.ifCond .eq 7, 3) := by decide +kernel
theorem d_X9_readRun_205 : decode cX9_readRun 205 = .ok (.iconst 1, 1) := by decide +kernel
theorem d_X9_readRun_206 : decode cX9_readRun 206 = .ok (.goto 4, 3) := by decide +kernel
theorem d_X9_readRun_209 : decode cX9_readRun 209 = .ok (.iconst 2, 1) := by decide +kernel
theorem d_X9_readRun_210 : decode cX9_readRun 210 = .ok (.putfield 41, 3) := by decide +kernel
theorem d_X9_readRun_213 : decode cX9_readRun 213 = .ok (.return_, 1) := by decide +kernel
def k_X9_readRun_0 (P : xP) (C10 : xK) : xK := x_push (.int 1) (x_istore 2 (x_push (.int 1) (x_istore 3 (x_aload 0 (y_getI 1 3 (x_istore 4 (C10)))))))
set_option maxRecDepth 20000 in
theorem t_X9_readRun_0 {p : Program} {l : Launch} {e : Env} {s : State} {m : MethodId} {args : Array Value} {below : List Frame} {meth : Method} {c : Code} {g : xG} (X : xX p s m args c meth cX9_readRun RX9 7 g) (hr : meth.sig.returnType = none) {P : xP} {C10 : xK} (h10 : xAt p l e { frames := 0, cells := 0, slots := 0, locals := 0 } s m args below meth c g 7 xFT xN 0 0 (MQ below (xQc g xFT xN P) args s 0 0 (xFr g)) C10 10) : xAt p l e { frames := 0, cells := 0, slots := 0, locals := 0 } s m args below meth c g 7 xFT xN 0 0 (MQ below (xQc g xFT xN P) args s 0 0 (xFr g)) (k_X9_readRun_0 P C10) 0 := by
  unfold k_X9_readRun_0
  refine r_iconst (pc := 0) X d_X9_readRun_0 (by decide +kernel) ?_
  refine r_istore_n (pc := 1) X d_X9_readRun_1 fn2 (by decide +kernel) ?_
  refine r_iconst (pc := 2) X d_X9_readRun_2 (by decide +kernel) ?_
  refine r_istore_n (pc := 3) X d_X9_readRun_3 fn3 (by decide +kernel) ?_
  refine r_aload_n (pc := 4) X d_X9_readRun_4 fn0 ?_
  refine s_getI (pc := 5) (ci := 9) X xok9 (by decide +kernel) ob_1 (by decide +kernel) fl_RX9_22 d_X9_readRun_5 ?_
  refine r_istore (pc := 8) X d_X9_readRun_8 (by decide +kernel) ?_
  exact h10
def k_X9_readRun_213 (P : xP) : xK := x_vret P
set_option maxRecDepth 20000 in
theorem t_X9_readRun_213 {p : Program} {l : Launch} {e : Env} {s : State} {m : MethodId} {args : Array Value} {below : List Frame} {meth : Method} {c : Code} {g : xG} (X : xX p s m args c meth cX9_readRun RX9 7 g) (hr : meth.sig.returnType = none) {P : xP} : xAt p l e { frames := 0, cells := 0, slots := 0, locals := 0 } s m args below meth c g 7 xFT xN 0 0 (MQ below (xQc g xFT xN P) args s 0 0 (xFr g)) (k_X9_readRun_213 P) 213 := by
  unfold k_X9_readRun_213
  exact r_vret (pc := 213) X hr d_X9_readRun_213
def k_X9_readRun_192 (P : xP) : xK := x_aload 0 (x_push (.int 4) (y_putI 1 4 ((k_X9_readRun_213 P))))
set_option maxRecDepth 20000 in
theorem t_X9_readRun_192 {p : Program} {l : Launch} {e : Env} {s : State} {m : MethodId} {args : Array Value} {below : List Frame} {meth : Method} {c : Code} {g : xG} (X : xX p s m args c meth cX9_readRun RX9 7 g) (hr : meth.sig.returnType = none) {P : xP} : xAt p l e { frames := 0, cells := 0, slots := 0, locals := 0 } s m args below meth c g 7 xFT xN 0 0 (MQ below (xQc g xFT xN P) args s 0 0 (xFr g)) (k_X9_readRun_192 P) 192 := by
  unfold k_X9_readRun_192
  refine r_aload_n (pc := 192) X d_X9_readRun_192 fn0 ?_
  refine r_iconst (pc := 193) X d_X9_readRun_193 (by decide +kernel) ?_
  refine s_putI (pc := 194) (ci := 9) X xok9 (by decide +kernel) ob_1 (by decide +kernel) (by decide +kernel) (by decide +kernel) fl_RX9_41 d_X9_readRun_194 ?_
  refine r_goto (pc := 197) (tgt := 213) X d_X9_readRun_197 (by decide +kernel) ?_
  exact t_X9_readRun_213 X hr
def k_X9_readRun_210 (P : xP) : xK := x_putI xN 9 4 ((k_X9_readRun_213 P))
set_option maxRecDepth 20000 in
theorem t_X9_readRun_210 {p : Program} {l : Launch} {e : Env} {s : State} {m : MethodId} {args : Array Value} {below : List Frame} {meth : Method} {c : Code} {g : xG} (X : xX p s m args c meth cX9_readRun RX9 7 g) (hr : meth.sig.returnType = none) {P : xP} : xAt p l e { frames := 0, cells := 0, slots := 0, locals := 0 } s m args below meth c g 7 xFT xN 0 0 (MQ below (xQc g xFT xN P) args s 0 0 (xFr g)) (k_X9_readRun_210 P) 210 := by
  unfold k_X9_readRun_210
  refine r_putI (pc := 210) X xok9 (by decide +kernel) (by decide +kernel) (by decide +kernel) (by decide +kernel) fl_RX9_41 d_X9_readRun_210 ?_
  exact t_X9_readRun_213 X hr
def k_X9_readRun_189 (P : xP) : xK := x_icmp_le (x_aload 0 (x_iload 1 (x_if_eq (x_push (.int 2) ((k_X9_readRun_210 P))) (x_push (.int 1) ((k_X9_readRun_210 P)))))) ((k_X9_readRun_192 P))
set_option maxRecDepth 20000 in
theorem t_X9_readRun_189 {p : Program} {l : Launch} {e : Env} {s : State} {m : MethodId} {args : Array Value} {below : List Frame} {meth : Method} {c : Code} {g : xG} (X : xX p s m args c meth cX9_readRun RX9 7 g) (hr : meth.sig.returnType = none) {P : xP} : xAt p l e { frames := 0, cells := 0, slots := 0, locals := 0 } s m args below meth c g 7 xFT xN 0 0 (MQ below (xQc g xFT xN P) args s 0 0 (xFr g)) (k_X9_readRun_189 P) 189 := by
  unfold k_X9_readRun_189
  refine r_icmp_le (pc := 189) (tgt := 200) X d_X9_readRun_189 (by decide +kernel) ?_ ?_
  · refine r_aload_n (pc := 200) X d_X9_readRun_200 fn0 ?_
    refine r_iload_n (pc := 201) X d_X9_readRun_201 fn1 ?_
    refine r_if_eq (pc := 202) (tgt := 209) X d_X9_readRun_202 (by decide +kernel) ?_ ?_
    · refine r_iconst (pc := 209) X d_X9_readRun_209 (by decide +kernel) ?_
      exact t_X9_readRun_210 X hr
    · refine r_iconst (pc := 205) X d_X9_readRun_205 (by decide +kernel) ?_
      refine r_goto (pc := 206) (tgt := 210) X d_X9_readRun_206 (by decide +kernel) ?_
      exact t_X9_readRun_210 X hr
  · exact t_X9_readRun_192 X hr
def k_X9_readRun_164 (P : xP) : xK := x_aload 0 (y_getI 1 3 (x_iload 4 (x_isub (x_istore 5 (x_iload 2 (x_if_eq ((k_X9_readRun_192 P)) (x_iload 5 (x_iload 1 (x_if_eq (x_push (.int 3) ((k_X9_readRun_189 P))) (x_push (.int 7) ((k_X9_readRun_189 P))))))))))))
set_option maxRecDepth 20000 in
theorem t_X9_readRun_164 {p : Program} {l : Launch} {e : Env} {s : State} {m : MethodId} {args : Array Value} {below : List Frame} {meth : Method} {c : Code} {g : xG} (X : xX p s m args c meth cX9_readRun RX9 7 g) (hr : meth.sig.returnType = none) {P : xP} : xAt p l e { frames := 0, cells := 0, slots := 0, locals := 0 } s m args below meth c g 7 xFT xN 0 0 (MQ below (xQc g xFT xN P) args s 0 0 (xFr g)) (k_X9_readRun_164 P) 164 := by
  unfold k_X9_readRun_164
  refine r_aload_n (pc := 164) X d_X9_readRun_164 fn0 ?_
  refine s_getI (pc := 165) (ci := 9) X xok9 (by decide +kernel) ob_1 (by decide +kernel) fl_RX9_22 d_X9_readRun_165 ?_
  refine r_iload (pc := 168) X d_X9_readRun_168 ?_
  refine r_isub (pc := 170) X d_X9_readRun_170 ?_
  refine r_istore (pc := 171) X d_X9_readRun_171 (by decide +kernel) ?_
  refine r_iload_n (pc := 173) X d_X9_readRun_173 fn2 ?_
  refine r_if_eq (pc := 174) (tgt := 192) X d_X9_readRun_174 (by decide +kernel) ?_ ?_
  · exact t_X9_readRun_192 X hr
  · refine r_iload (pc := 177) X d_X9_readRun_177 ?_
    refine r_iload_n (pc := 179) X d_X9_readRun_179 fn1 ?_
    refine r_if_eq (pc := 180) (tgt := 188) X d_X9_readRun_180 (by decide +kernel) ?_ ?_
    · refine r_iconst (pc := 188) X d_X9_readRun_188 (by decide +kernel) ?_
      exact t_X9_readRun_189 X hr
    · refine r_bipush (pc := 183) X d_X9_readRun_183 (by decide +kernel) ?_
      refine r_goto (pc := 185) (tgt := 189) X d_X9_readRun_185 (by decide +kernel) ?_
      exact t_X9_readRun_189 X hr
def k_X9_readRun_161 (P : xP) (C10 : xK) : xK := C10
set_option maxRecDepth 20000 in
theorem t_X9_readRun_161 {p : Program} {l : Launch} {e : Env} {s : State} {m : MethodId} {args : Array Value} {below : List Frame} {meth : Method} {c : Code} {g : xG} (X : xX p s m args c meth cX9_readRun RX9 7 g) (hr : meth.sig.returnType = none) {P : xP} {C10 : xK} (h10 : xAt p l e { frames := 0, cells := 0, slots := 0, locals := 0 } s m args below meth c g 7 xFT xN 0 0 (MQ below (xQc g xFT xN P) args s 0 0 (xFr g)) C10 10) : xAt p l e { frames := 0, cells := 0, slots := 0, locals := 0 } s m args below meth c g 7 xFT xN 0 0 (MQ below (xQc g xFT xN P) args s 0 0 (xFr g)) (k_X9_readRun_161 P C10) 161 := by
  unfold k_X9_readRun_161
  refine r_goto (pc := 161) (tgt := 10) X d_X9_readRun_161 (by decide +kernel) ?_
  exact h10
def k_X9_readRun_151 (P : xP) (C10 : xK) : xK := x_aload 0 (x_dup (y_getI 1 3 (x_push (.int 1) (x_iadd (y_putI 1 3 ((k_X9_readRun_161 P C10)))))))
set_option maxRecDepth 20000 in
theorem t_X9_readRun_151 {p : Program} {l : Launch} {e : Env} {s : State} {m : MethodId} {args : Array Value} {below : List Frame} {meth : Method} {c : Code} {g : xG} (X : xX p s m args c meth cX9_readRun RX9 7 g) (hr : meth.sig.returnType = none) {P : xP} {C10 : xK} (h10 : xAt p l e { frames := 0, cells := 0, slots := 0, locals := 0 } s m args below meth c g 7 xFT xN 0 0 (MQ below (xQc g xFT xN P) args s 0 0 (xFr g)) C10 10) : xAt p l e { frames := 0, cells := 0, slots := 0, locals := 0 } s m args below meth c g 7 xFT xN 0 0 (MQ below (xQc g xFT xN P) args s 0 0 (xFr g)) (k_X9_readRun_151 P C10) 151 := by
  unfold k_X9_readRun_151
  refine r_aload_n (pc := 151) X d_X9_readRun_151 fn0 ?_
  refine r_dup (pc := 152) X d_X9_readRun_152 ?_
  refine s_getI (pc := 153) (ci := 9) X xok9 (by decide +kernel) ob_1 (by decide +kernel) fl_RX9_22 d_X9_readRun_153 ?_
  refine r_iconst (pc := 156) X d_X9_readRun_156 (by decide +kernel) ?_
  refine r_iadd (pc := 157) X d_X9_readRun_157 ?_
  refine s_putI (pc := 158) (ci := 9) X xok9 (by decide +kernel) ob_1 (by decide +kernel) (by decide +kernel) (by decide +kernel) fl_RX9_22 d_X9_readRun_158 ?_
  exact t_X9_readRun_161 X hr h10
def k_X9_readRun_148 (P : xP) (C10 : xK) : xK := x_putJ xN 9 6 ((k_X9_readRun_151 P C10))
set_option maxRecDepth 20000 in
theorem t_X9_readRun_148 {p : Program} {l : Launch} {e : Env} {s : State} {m : MethodId} {args : Array Value} {below : List Frame} {meth : Method} {c : Code} {g : xG} (X : xX p s m args c meth cX9_readRun RX9 7 g) (hr : meth.sig.returnType = none) {P : xP} {C10 : xK} (h10 : xAt p l e { frames := 0, cells := 0, slots := 0, locals := 0 } s m args below meth c g 7 xFT xN 0 0 (MQ below (xQc g xFT xN P) args s 0 0 (xFr g)) C10 10) : xAt p l e { frames := 0, cells := 0, slots := 0, locals := 0 } s m args below meth c g 7 xFT xN 0 0 (MQ below (xQc g xFT xN P) args s 0 0 (xFr g)) (k_X9_readRun_148 P C10) 148 := by
  unfold k_X9_readRun_148
  refine r_putJ (pc := 148) X xok9 (by decide +kernel) (by decide +kernel) (by decide +kernel) (by decide +kernel) fl_RX9_34 d_X9_readRun_148 ?_
  exact t_X9_readRun_151 X hr h10
def k_X9_readRun_101 (P : xP) (C10 : xK) : xK := x_istore 2 (x_aload 0 (y_getI 1 3 (x_iload 4 (x_isub (x_push (.int 7) (x_icmp_ge ((k_X9_readRun_151 P C10)) (x_aload 0 (x_iload 1 (x_if_eq (x_aload 0 (y_getJ 1 6 (x_push (.long 10) (x_lmul (x_iload 5 (x_push (.int 48) (x_isub (x_i2l (x_ladd ((k_X9_readRun_148 P C10))))))))))) (x_aload 0 (y_getJ 1 6 (x_push (.int 8) (x_lshl (x_iload 5 (x_i2l (x_lor ((k_X9_readRun_148 P C10))))))))))))))))))
set_option maxRecDepth 20000 in
theorem t_X9_readRun_101 {p : Program} {l : Launch} {e : Env} {s : State} {m : MethodId} {args : Array Value} {below : List Frame} {meth : Method} {c : Code} {g : xG} (X : xX p s m args c meth cX9_readRun RX9 7 g) (hr : meth.sig.returnType = none) {P : xP} {C10 : xK} (h10 : xAt p l e { frames := 0, cells := 0, slots := 0, locals := 0 } s m args below meth c g 7 xFT xN 0 0 (MQ below (xQc g xFT xN P) args s 0 0 (xFr g)) C10 10) : xAt p l e { frames := 0, cells := 0, slots := 0, locals := 0 } s m args below meth c g 7 xFT xN 0 0 (MQ below (xQc g xFT xN P) args s 0 0 (xFr g)) (k_X9_readRun_101 P C10) 101 := by
  unfold k_X9_readRun_101
  refine r_istore_n (pc := 101) X d_X9_readRun_101 fn2 (by decide +kernel) ?_
  refine r_aload_n (pc := 102) X d_X9_readRun_102 fn0 ?_
  refine s_getI (pc := 103) (ci := 9) X xok9 (by decide +kernel) ob_1 (by decide +kernel) fl_RX9_22 d_X9_readRun_103 ?_
  refine r_iload (pc := 106) X d_X9_readRun_106 ?_
  refine r_isub (pc := 108) X d_X9_readRun_108 ?_
  refine r_bipush (pc := 109) X d_X9_readRun_109 (by decide +kernel) ?_
  refine r_icmp_ge (pc := 111) (tgt := 151) X d_X9_readRun_111 (by decide +kernel) ?_ ?_
  · exact t_X9_readRun_151 X hr h10
  · refine r_aload_n (pc := 114) X d_X9_readRun_114 fn0 ?_
    refine r_iload_n (pc := 115) X d_X9_readRun_115 fn1 ?_
    refine r_if_eq (pc := 116) (tgt := 133) X d_X9_readRun_116 (by decide +kernel) ?_ ?_
    · refine r_aload_n (pc := 133) X d_X9_readRun_133 fn0 ?_
      refine s_getJ (pc := 134) (ci := 9) X xok9 (by decide +kernel) ob_1 (by decide +kernel) fl_RX9_34 d_X9_readRun_134 ?_
      refine r_ldc2 (pc := 137) X cw_RX9_52 d_X9_readRun_137 ?_
      refine r_lmul (pc := 140) X d_X9_readRun_140 ?_
      refine r_iload (pc := 141) X d_X9_readRun_141 ?_
      refine r_bipush (pc := 143) X d_X9_readRun_143 (by decide +kernel) ?_
      refine r_isub (pc := 145) X d_X9_readRun_145 ?_
      refine r_i2l (pc := 146) X d_X9_readRun_146 ?_
      refine r_ladd (pc := 147) X d_X9_readRun_147 ?_
      exact t_X9_readRun_148 X hr h10
    · refine r_aload_n (pc := 119) X d_X9_readRun_119 fn0 ?_
      refine s_getJ (pc := 120) (ci := 9) X xok9 (by decide +kernel) ob_1 (by decide +kernel) fl_RX9_34 d_X9_readRun_120 ?_
      refine r_bipush (pc := 123) X d_X9_readRun_123 (by decide +kernel) ?_
      refine r_lshl (pc := 125) X d_X9_readRun_125 ?_
      refine r_iload (pc := 126) X d_X9_readRun_126 ?_
      refine r_i2l (pc := 128) X d_X9_readRun_128 ?_
      refine r_lor (pc := 129) X d_X9_readRun_129 ?_
      refine r_goto (pc := 130) (tgt := 148) X d_X9_readRun_130 (by decide +kernel) ?_
      exact t_X9_readRun_148 X hr h10
def k_X9_readRun_100 (P : xP) (C10 : xK) : xK := x_push (.int 0) ((k_X9_readRun_101 P C10))
set_option maxRecDepth 20000 in
theorem t_X9_readRun_100 {p : Program} {l : Launch} {e : Env} {s : State} {m : MethodId} {args : Array Value} {below : List Frame} {meth : Method} {c : Code} {g : xG} (X : xX p s m args c meth cX9_readRun RX9 7 g) (hr : meth.sig.returnType = none) {P : xP} {C10 : xK} (h10 : xAt p l e { frames := 0, cells := 0, slots := 0, locals := 0 } s m args below meth c g 7 xFT xN 0 0 (MQ below (xQc g xFT xN P) args s 0 0 (xFr g)) C10 10) : xAt p l e { frames := 0, cells := 0, slots := 0, locals := 0 } s m args below meth c g 7 xFT xN 0 0 (MQ below (xQc g xFT xN P) args s 0 0 (xFr g)) (k_X9_readRun_100 P C10) 100 := by
  unfold k_X9_readRun_100
  refine r_iconst (pc := 100) X d_X9_readRun_100 (by decide +kernel) ?_
  exact t_X9_readRun_101 X hr h10
def k_X9_readRun_81 (P : xP) (C10 : xK) : xK := x_istore 3 (x_iload 3 (x_if_eq ((k_X9_readRun_161 P C10)) (x_iload 2 (x_if_eq ((k_X9_readRun_100 P C10)) (x_iload 6 (x_iload 1 (x_icmp_ne ((k_X9_readRun_100 P C10)) (x_push (.int 1) ((k_X9_readRun_101 P C10))))))))))
set_option maxRecDepth 20000 in
theorem t_X9_readRun_81 {p : Program} {l : Launch} {e : Env} {s : State} {m : MethodId} {args : Array Value} {below : List Frame} {meth : Method} {c : Code} {g : xG} (X : xX p s m args c meth cX9_readRun RX9 7 g) (hr : meth.sig.returnType = none) {P : xP} {C10 : xK} (h10 : xAt p l e { frames := 0, cells := 0, slots := 0, locals := 0 } s m args below meth c g 7 xFT xN 0 0 (MQ below (xQc g xFT xN P) args s 0 0 (xFr g)) C10 10) : xAt p l e { frames := 0, cells := 0, slots := 0, locals := 0 } s m args below meth c g 7 xFT xN 0 0 (MQ below (xQc g xFT xN P) args s 0 0 (xFr g)) (k_X9_readRun_81 P C10) 81 := by
  unfold k_X9_readRun_81
  refine r_istore_n (pc := 81) X d_X9_readRun_81 fn3 (by decide +kernel) ?_
  refine r_iload_n (pc := 82) X d_X9_readRun_82 fn3 ?_
  refine r_if_eq (pc := 83) (tgt := 161) X d_X9_readRun_83 (by decide +kernel) ?_ ?_
  · exact t_X9_readRun_161 X hr h10
  · refine r_iload_n (pc := 86) X d_X9_readRun_86 fn2 ?_
    refine r_if_eq (pc := 87) (tgt := 100) X d_X9_readRun_87 (by decide +kernel) ?_ ?_
    · exact t_X9_readRun_100 X hr h10
    · refine r_iload (pc := 90) X d_X9_readRun_90 ?_
      refine r_iload_n (pc := 92) X d_X9_readRun_92 fn1 ?_
      refine r_icmp_ne (pc := 93) (tgt := 100) X d_X9_readRun_93 (by decide +kernel) ?_ ?_
      · exact t_X9_readRun_100 X hr h10
      · refine r_iconst (pc := 96) X d_X9_readRun_96 (by decide +kernel) ?_
        refine r_goto (pc := 97) (tgt := 101) X d_X9_readRun_97 (by decide +kernel) ?_
        exact t_X9_readRun_101 X hr h10
def k_X9_readRun_76 (P : xP) (C10 : xK) : xK := x_push (.int 1) ((k_X9_readRun_81 P C10))
set_option maxRecDepth 20000 in
theorem t_X9_readRun_76 {p : Program} {l : Launch} {e : Env} {s : State} {m : MethodId} {args : Array Value} {below : List Frame} {meth : Method} {c : Code} {g : xG} (X : xX p s m args c meth cX9_readRun RX9 7 g) (hr : meth.sig.returnType = none) {P : xP} {C10 : xK} (h10 : xAt p l e { frames := 0, cells := 0, slots := 0, locals := 0 } s m args below meth c g 7 xFT xN 0 0 (MQ below (xQc g xFT xN P) args s 0 0 (xFr g)) C10 10) : xAt p l e { frames := 0, cells := 0, slots := 0, locals := 0 } s m args below meth c g 7 xFT xN 0 0 (MQ below (xQc g xFT xN P) args s 0 0 (xFr g)) (k_X9_readRun_76 P C10) 76 := by
  unfold k_X9_readRun_76
  refine r_iconst (pc := 76) X d_X9_readRun_76 (by decide +kernel) ?_
  refine r_goto (pc := 77) (tgt := 81) X d_X9_readRun_77 (by decide +kernel) ?_
  exact t_X9_readRun_81 X hr h10
def k_X9_readRun_80 (P : xP) (C10 : xK) : xK := x_push (.int 0) ((k_X9_readRun_81 P C10))
set_option maxRecDepth 20000 in
theorem t_X9_readRun_80 {p : Program} {l : Launch} {e : Env} {s : State} {m : MethodId} {args : Array Value} {below : List Frame} {meth : Method} {c : Code} {g : xG} (X : xX p s m args c meth cX9_readRun RX9 7 g) (hr : meth.sig.returnType = none) {P : xP} {C10 : xK} (h10 : xAt p l e { frames := 0, cells := 0, slots := 0, locals := 0 } s m args below meth c g 7 xFT xN 0 0 (MQ below (xQc g xFT xN P) args s 0 0 (xFr g)) C10 10) : xAt p l e { frames := 0, cells := 0, slots := 0, locals := 0 } s m args below meth c g 7 xFT xN 0 0 (MQ below (xQc g xFT xN P) args s 0 0 (xFr g)) (k_X9_readRun_80 P C10) 80 := by
  unfold k_X9_readRun_80
  refine r_iconst (pc := 80) X d_X9_readRun_80 (by decide +kernel) ?_
  exact t_X9_readRun_81 X hr h10
def k_X9_readRun_55 (P : xP) (C10 : xK) : xK := x_istore 6 (x_iload 6 (x_if_ne ((k_X9_readRun_76 P C10)) (x_iload 5 (x_push (.int 48) (x_icmp_lt ((k_X9_readRun_80 P C10)) (x_iload 5 (x_push (.int 57) (x_icmp_gt ((k_X9_readRun_80 P C10)) ((k_X9_readRun_76 P C10))))))))))
set_option maxRecDepth 20000 in
theorem t_X9_readRun_55 {p : Program} {l : Launch} {e : Env} {s : State} {m : MethodId} {args : Array Value} {below : List Frame} {meth : Method} {c : Code} {g : xG} (X : xX p s m args c meth cX9_readRun RX9 7 g) (hr : meth.sig.returnType = none) {P : xP} {C10 : xK} (h10 : xAt p l e { frames := 0, cells := 0, slots := 0, locals := 0 } s m args below meth c g 7 xFT xN 0 0 (MQ below (xQc g xFT xN P) args s 0 0 (xFr g)) C10 10) : xAt p l e { frames := 0, cells := 0, slots := 0, locals := 0 } s m args below meth c g 7 xFT xN 0 0 (MQ below (xQc g xFT xN P) args s 0 0 (xFr g)) (k_X9_readRun_55 P C10) 55 := by
  unfold k_X9_readRun_55
  refine r_istore (pc := 55) X d_X9_readRun_55 (by decide +kernel) ?_
  refine r_iload (pc := 57) X d_X9_readRun_57 ?_
  refine r_if_ne (pc := 59) (tgt := 76) X d_X9_readRun_59 (by decide +kernel) ?_ ?_
  · exact t_X9_readRun_76 X hr h10
  · refine r_iload (pc := 62) X d_X9_readRun_62 ?_
    refine r_bipush (pc := 64) X d_X9_readRun_64 (by decide +kernel) ?_
    refine r_icmp_lt (pc := 66) (tgt := 80) X d_X9_readRun_66 (by decide +kernel) ?_ ?_
    · exact t_X9_readRun_80 X hr h10
    · refine r_iload (pc := 69) X d_X9_readRun_69 ?_
      refine r_bipush (pc := 71) X d_X9_readRun_71 (by decide +kernel) ?_
      refine r_icmp_gt (pc := 73) (tgt := 80) X d_X9_readRun_73 (by decide +kernel) ?_ ?_
      · exact t_X9_readRun_80 X hr h10
      · exact t_X9_readRun_76 X hr h10
def k_X9_readRun_54 (P : xP) (C10 : xK) : xK := x_push (.int 0) ((k_X9_readRun_55 P C10))
set_option maxRecDepth 20000 in
theorem t_X9_readRun_54 {p : Program} {l : Launch} {e : Env} {s : State} {m : MethodId} {args : Array Value} {below : List Frame} {meth : Method} {c : Code} {g : xG} (X : xX p s m args c meth cX9_readRun RX9 7 g) (hr : meth.sig.returnType = none) {P : xP} {C10 : xK} (h10 : xAt p l e { frames := 0, cells := 0, slots := 0, locals := 0 } s m args below meth c g 7 xFT xN 0 0 (MQ below (xQc g xFT xN P) args s 0 0 (xFr g)) C10 10) : xAt p l e { frames := 0, cells := 0, slots := 0, locals := 0 } s m args below meth c g 7 xFT xN 0 0 (MQ below (xQc g xFT xN P) args s 0 0 (xFr g)) (k_X9_readRun_54 P C10) 54 := by
  unfold k_X9_readRun_54
  refine r_iconst (pc := 54) X d_X9_readRun_54 (by decide +kernel) ?_
  exact t_X9_readRun_55 X hr h10
def k_X9_readRun_10 (P : xP) (C10 : xK) : xK := x_aload 0 (y_getI 1 3 (x_aload 0 (y_getI 1 1 (x_icmp_ge ((k_X9_readRun_164 P)) (x_iload 3 (x_if_eq ((k_X9_readRun_164 P)) (x_aload 0 (y_getF 1 2 (x_aload 0 (y_getI 1 3 (y_iald 2 940 (x_istore 5 (x_iload 5 (x_push (.int 97) (x_icmp_lt ((k_X9_readRun_54 P C10)) (x_iload 5 (x_push (.int 122) (x_icmp_gt ((k_X9_readRun_54 P C10)) (x_push (.int 1) ((k_X9_readRun_55 P C10)))))))))))))))))))))
set_option maxRecDepth 20000 in
theorem t_X9_readRun_10 {p : Program} {l : Launch} {e : Env} {s : State} {m : MethodId} {args : Array Value} {below : List Frame} {meth : Method} {c : Code} {g : xG} (X : xX p s m args c meth cX9_readRun RX9 7 g) (hr : meth.sig.returnType = none) {P : xP} {C10 : xK} (h10 : xAt p l e { frames := 0, cells := 0, slots := 0, locals := 0 } s m args below meth c g 7 xFT xN 0 0 (MQ below (xQc g xFT xN P) args s 0 0 (xFr g)) C10 10) : xAt p l e { frames := 0, cells := 0, slots := 0, locals := 0 } s m args below meth c g 7 xFT xN 0 0 (MQ below (xQc g xFT xN P) args s 0 0 (xFr g)) (k_X9_readRun_10 P C10) 10 := by
  unfold k_X9_readRun_10
  refine r_aload_n (pc := 10) X d_X9_readRun_10 fn0 ?_
  refine s_getI (pc := 11) (ci := 9) X xok9 (by decide +kernel) ob_1 (by decide +kernel) fl_RX9_22 d_X9_readRun_11 ?_
  refine r_aload_n (pc := 14) X d_X9_readRun_14 fn0 ?_
  refine s_getI (pc := 15) (ci := 9) X xok9 (by decide +kernel) ob_1 (by decide +kernel) fl_RX9_15 d_X9_readRun_15 ?_
  refine r_icmp_ge (pc := 18) (tgt := 164) X d_X9_readRun_18 (by decide +kernel) ?_ ?_
  · exact t_X9_readRun_164 X hr
  · refine r_iload_n (pc := 21) X d_X9_readRun_21 fn3 ?_
    refine r_if_eq (pc := 22) (tgt := 164) X d_X9_readRun_22 (by decide +kernel) ?_ ?_
    · exact t_X9_readRun_164 X hr
    · refine r_aload_n (pc := 25) X d_X9_readRun_25 fn0 ?_
      refine s_getF (pc := 26) (ci := 9) (k := 0) X xok9 (by decide +kernel) ob_1 trivial ly_1_0 (by decide +kernel) fl_RX9_9 d_X9_readRun_26 ?_
      refine r_aload_n (pc := 29) X d_X9_readRun_29 fn0 ?_
      refine s_getI (pc := 30) (ci := 9) X xok9 (by decide +kernel) ob_1 (by decide +kernel) fl_RX9_22 d_X9_readRun_30 ?_
      refine s_iald (pc := 33) X tn_2 ln_2 d_X9_readRun_33 ?_
      refine r_istore (pc := 34) X d_X9_readRun_34 (by decide +kernel) ?_
      refine r_iload (pc := 36) X d_X9_readRun_36 ?_
      refine r_bipush (pc := 38) X d_X9_readRun_38 (by decide +kernel) ?_
      refine r_icmp_lt (pc := 40) (tgt := 54) X d_X9_readRun_40 (by decide +kernel) ?_ ?_
      · exact t_X9_readRun_54 X hr h10
      · refine r_iload (pc := 43) X d_X9_readRun_43 ?_
        refine r_bipush (pc := 45) X d_X9_readRun_45 (by decide +kernel) ?_
        refine r_icmp_gt (pc := 47) (tgt := 54) X d_X9_readRun_47 (by decide +kernel) ?_ ?_
        · exact t_X9_readRun_54 X hr h10
        · refine r_iconst (pc := 50) X d_X9_readRun_50 (by decide +kernel) ?_
          refine r_goto (pc := 51) (tgt := 55) X d_X9_readRun_51 (by decide +kernel) ?_
          exact t_X9_readRun_55 X hr h10
set_option maxRecDepth 20000 in
theorem m_X9_readRun {l : Launch} {f : Nat → Int32 → xH → xP → Prop}  {I10 : Nat → Int32 → xH → xP → xM → xK}
    (v0 : ∀ (a0 : Nat) (a1 : Int32) (A : xH) (P : xP), f a0 a1 A P → k_X9_readRun_0 P (xE (I10 a0 a1 A P)) [some (.ref a0), some (.int a1), none, none, none, none, none] [] A)
    (v10 : ∀ (a0 : Nat) (a1 : Int32) (A : xH) (P : xP), f a0 a1 A P → ∀ (μ : xM) (L : xL) (st : List Value) (B : xH), I10 a0 a1 A P μ L st B → k_X9_readRun_10 P (xB (I10 a0 a1 A P) μ) L st B) : xCon l yX9_readRun cX9_readRun 7 none 0 0 xN xN 0 xFT xFT (w_RI f) := by
  refine xc_RI (plainFor_of_name pn_RX9) (by decide +kernel) (fun p e s m args below meth c g a0 a1 A P h X hr _ => ?_)
  have h10 := x_loop1 (p := p) (l := l) (e := e) (R := { frames := 0, cells := 0, slots := 0, locals := 0 }) (s := s) (m := m) (args := args) (below := below) (meth := meth) (c := c) (g := g) (nL := 7) (F := xFT) (n := xN) (cells := 0) (slots := 0) (Q := MQ below (xQc g xFT xN P) args s 0 0 (xFr g)) (I := I10 a0 a1 A P) (pc1 := 10) (fun μ i10 => xAt_mono (t_X9_readRun_10 (P := P) X hr i10) (v10 a0 a1 A P h μ))
  exact ⟨_, v0 a0 a1 A P h, t_X9_readRun_0 X hr h10⟩
def bI (b : Bool) : Int32 := if b then 1 else 0
theorem c_lt {c : Nat} (k : Nat) (h : c < 2 ^ 31) (hk : k < 2 ^ 31) : nI c < (OfNat.ofNat k : Int32) ↔ c < k := nI_ltI h hk
theorem c_le {c : Nat} (k : Nat) (h : c < 2 ^ 31) (hk : k < 2 ^ 31) : nI c ≤ (OfNat.ofNat k : Int32) ↔ c ≤ k := nI_leI h hk
theorem c_gt {c : Nat} (k : Nat) (h : c < 2 ^ 31) (hk : k < 2 ^ 31) : (OfNat.ofNat k : Int32) < nI c ↔ k < c := nI_ltI hk h
theorem c_ge {c : Nat} (k : Nat) (h : c < 2 ^ 31) (hk : k < 2 ^ 31) : (OfNat.ofNat k : Int32) ≤ nI c ↔ k ≤ c := nI_leI hk h
theorem c_eq {c : Nat} (k : Nat) (h : c < 2 ^ 31) (hk : k < 2 ^ 31) : nI c = (OfNat.ofNat k : Int32) ↔ c = k := nI_eq h hk
theorem i10 : ((1 : Int32) = 0) = False := by decide +kernel
theorem i00 : ((0 : Int32) = 0) = True := by decide +kernel
theorem i01 : ((0 : Int32) = 1) = False := by decide +kernel
theorem i11 : ((1 : Int32) = 1) = True := by decide +kernel
/-- the class's tape while a run is read: i bytes of it from p on -/
def rR (f : Nat → Nat) (n p i : Nat) (A : xH) : Prop := isT A f n ∧ p + i ≤ n ∧ xi A 1 3 = nI (p + i) ∧ xl A 1 6 = lN (if sm (f p) then wv f p (min i 7) else dv f p (min i 7))
/-- token and value alone are otherwise -/
def tS (A B : xH) : Prop := xoff A B 1 1 ∧ ∀ k, k ≠ 3 → k ≠ 4 → xi B 1 k = xi A 1 k
theorem tS_rf {A : xH} : tS A A := ⟨xoff_rf, fun _ _ _ => rfl⟩
theorem tS_si {A B : xH} {k : Nat} {x : Int32} (h : tS A B) (hk : k = 3 ∨ k = 4) : tS A (xsi B 1 k x) :=
  ⟨xoff_si h.1 (by omega) (by omega), fun j h3 h4 => by rw [si_ne (by omega)]; exact h.2 j h3 h4⟩
theorem tS_sl {A B : xH} {k : Nat} {x : Int64} (h : tS A B) : tS A (xsl B 1 k x) :=
  ⟨xoff_sl h.1 (by omega) (by omega), h.2⟩
theorem isT_si {A : xH} {f : Nat → Nat} {n k : Nat} {x : Int32} (h : isT A f n) (hk : k ≠ 1) : isT (xsi A 1 k x) f n := by
  obtain ⟨h1, h2, h3⟩ := h
  refine ⟨by rw [si_ne (by omega)]; exact h1, h2, fun j hj => ?_⟩
  rw [si_ne (by omega)]
  exact h3 j hj
theorem isT_sl {A : xH} {f : Nat → Nat} {n q k : Nat} {x : Int64} (h : isT A f n) : isT (xsl A q k x) f n := h
theorem rr_101 {f : Nat → Nat} {n p i : Nat} {A : xH} {P : xP} {C : xK} {x0 x3 : Int32} {l : Int32} {o : Int32} (h : rR f n p i A) (hi : p + i < n) (hr : (sm (f (p + i)) || dg (f (p + i))) = true)
    (hC : ∀ B, rR f n p (i + 1) B → tS A B → C [some (.ref 1), some (.int (bI (sm (f p)))), some (.int x0), some (.int x3), some (.int (nI p)), some (.int (nI (f (p + i)))), some (.int l)] [] B) :
    k_X9_readRun_101 P C [some (.ref 1), some (.int (bI (sm (f p)))), some (.int o), some (.int x3), some (.int (nI p)), some (.int (nI (f (p + i)))), some (.int l)] [.int x0] A := by
  obtain ⟨hT, h1, h2, h3⟩ := h
  have h9 := hT.2.1
  have hb := (hT.2.2 (p + i) hi).2
  simp only [k_X9_readRun_101, k_X9_readRun_148, k_X9_readRun_151, k_X9_readRun_161, x_aload, x_dup, x_i2l, x_iadd, x_icmp_ge, x_icmp_gt, x_icmp_le, x_icmp_lt, x_icmp_ne, x_if_eq, x_if_ne, x_iload, x_istore, x_isub, x_ladd, x_lmul, x_lor, x_lshl, x_push, x_putI, x_putJ, x_vret, y_getF, y_getI, y_getJ, y_iald, y_putI, xFT, xbool0, xbool1, Nat.reduceAdd, Nat.zero_add, xgl_0, xgl_s, xgl_n, xst_0, xst_1n, xst_1i, xst_1r, xst_1l, xst_s, set_0, set_s, true_and, and_true, xres, xcat_nil, xcat_i, xcat_r, xcat_l, Nat.add_zero, xble0, xble1, xble2, xble3, xble4, xble5, xble6, xble7, xble8, h2, h3, xi_sl, n_sub (Nat.le_add_right p i), Nat.add_sub_cancel_left, c_ge 7 (c := i) (by omega) (by decide), nI_l (n := f (p + i)) (by omega), nI_1, Nat.add_assoc]
  refine ⟨fun q => hC _ ⟨isT_si hT (by omega), by omega, si_eq, ?_⟩ (tS_si tS_rf (by omega)), fun q => ?_⟩
  · rw [xl_si, h3, Nat.min_eq_right (by omega), Nat.min_eq_right (by omega)]
  · cases hs : sm (f p) <;> rw [hs] at hC
    · rw [if_neg Bool.false_ne_true, Nat.min_eq_left (by omega)]
      refine ⟨fun _ => ⟨ob_1, ?_⟩, fun h => absurd rfl h⟩
      have hd : 48 ≤ f (p + i) := by
        simp only [sm, dg, Bool.or_eq_true, Bool.and_eq_true, decide_eq_true_eq] at hr
        omega
      rw [show nI (f (p + i)) - 48 = nI (f (p + i) - 48) from n_sub hd, nI_l (by omega), show (10 : Int64) = lN 10 from rfl, lN_mul, lN_add]
      refine hC _ ⟨isT_si (isT_sl hT) (by omega), by omega, si_eq, ?_⟩ (tS_si (tS_sl tS_rf) (by omega))
      rw [xl_si, xl_sl, if_pos ⟨rfl, rfl⟩, hs, if_neg Bool.false_ne_true, Nat.min_eq_left (by omega)]
      rfl
    · rw [if_pos rfl, Nat.min_eq_left (by omega)]
      refine ⟨fun h => absurd h (by decide), fun _ => ⟨ob_1, ?_⟩⟩
      rw [lN_shl8, lN_or8 hb]
      refine hC _ ⟨isT_si (isT_sl hT) (by omega), by omega, si_eq, ?_⟩ (tS_si (tS_sl tS_rf) (by omega))
      rw [xl_si, xl_sl, if_pos ⟨rfl, rfl⟩, hs, if_pos rfl, Nat.min_eq_left (by omega)]
      rfl
theorem bI_t {b : Bool} : (bI b = 0) = (b = false) := by cases b <;> decide +kernel
theorem bI_e {a b : Bool} : (bI a = bI b) = (a = b) := by cases a <;> cases b <;> decide +kernel
theorem bI_1 : bI true = 1 := rfl
theorem bI_0 : bI false = 0 := rfl
def rsort (f : Nat → Nat) (p i : Nat) : Nat := if pu f p i && decide (i ≤ if sm (f p) then 7 else 3) then (if sm (f p) then 1 else 2) else 4
def rval (f : Nat → Nat) (p i : Nat) : Nat := if sm (f p) then wv f p i else dv f p i
theorem rsort_le {f : Nat → Nat} {p i : Nat} (h : rsort f p i ≠ 4) : i ≤ 7 := by
  unfold rsort at h
  by_cases q : i ≤ 7
  · exact q
  · refine absurd ?_ h
    rw [if_neg]
    cases sm (f p) <;> simp <;> omega
theorem rr_164 {f : Nat → Nat} {n p i : Nat} {A : xH} {P : xP} {x3 : Int32} {o5 o6 : Option Value} (h : rR f n p i A)
    (hP : ∀ B, tS A B → xi B 1 3 = nI (p + i) → xi B 1 4 = nI (rsort f p i) → (rsort f p i ≠ 4 → xl B 1 6 = lN (rval f p i)) → P none B) :
    k_X9_readRun_164 P [some (.ref 1), some (.int (bI (sm (f p)))), some (.int (bI (pu f p i))), some (.int x3), some (.int (nI p)), o5, o6] [] A := by
  obtain ⟨hT, h1, h2, h3⟩ := h
  have h9 := hT.2.1
  have hQ : ∀ x : Nat, x = rsort f p i → P none (xsi A 1 4 (nI x)) := fun x hx => by
    refine hP _ (tS_si tS_rf (by omega)) ?_ (by rw [si_eq, hx]) fun h4 => ?_
    · rw [si_ne (by omega)]; exact h2
    · rw [xl_si, h3]
      rw [Nat.min_eq_left (rsort_le h4)]
      rfl
  simp only [k_X9_readRun_148, k_X9_readRun_151, k_X9_readRun_161, k_X9_readRun_164, k_X9_readRun_189, k_X9_readRun_192, k_X9_readRun_210, k_X9_readRun_213, x_aload, x_dup, x_i2l, x_iadd, x_icmp_ge, x_icmp_gt, x_icmp_le, x_icmp_lt, x_icmp_ne, x_if_eq, x_if_ne, x_iload, x_istore, x_isub, x_ladd, x_lmul, x_lor, x_lshl, x_push, x_putI, x_putJ, x_vret, y_getF, y_getI, y_getJ, y_iald, y_putI, xFT, xbool0, xbool1, Nat.reduceAdd, Nat.zero_add, xgl_0, xgl_s, xgl_n, xst_0, xst_1n, xst_1i, xst_1r, xst_1l, xst_s, set_0, set_s, true_and, and_true, xres, xcat_nil, xcat_i, xcat_r, xcat_l, Nat.add_zero, xble0, xble1, xble2, xble3, xble4, xble5, xble6, xble7, xble8, h2, n_sub (Nat.le_add_right p i), Nat.add_sub_cancel_left, c_le 3 (c := i) (by omega) (by decide), c_le 7 (c := i) (by omega) (by decide), bI_t, show (1 : Int32) = nI 1 from rfl, show (2 : Int32) = nI 2 from rfl, show (4 : Int32) = nI 4 from rfl, ob_1]
  unfold rsort at hQ
  cases hp : pu f p i <;> cases hs : sm (f p) <;> simp only [hp, hs, Bool.false_and, Bool.true_and, Bool.false_eq_true, if_false, if_true, decide_eq_true_eq, true_implies, not_true_eq_false, not_false_eq_true, false_implies, true_and, and_true, Bool.true_eq_false] at hQ ⊢ <;> first
    | exact hQ 4 rfl
    | refine ⟨fun q => hQ _ (by simp [q]), fun q => hQ _ (by simp [q])⟩
def f_X9_readRun (q : Nat) (z : Int32) (A : xH) (P : xP) : Prop := q = 1 ∧ ∃ f n p, isT A f n ∧ p < n ∧ z = bI (sm (f p)) ∧ xi A 1 3 = nI p ∧ xl A 1 6 = 0 ∧
  ∀ B i, tS A B → p + i ≤ n → (∀ j, j < i → (sm (f (p + j)) || dg (f (p + j))) = true) → ¬ (p + i < n ∧ (sm (f (p + i)) || dg (f (p + i))) = true) →
    xi B 1 3 = nI (p + i) → xi B 1 4 = nI (rsort f p i) → (rsort f p i ≠ 4 → xl B 1 6 = lN (rval f p i)) → P none B
def rI (A : xH) (P : xP) : xM → xK := fun μ L st B => ∃ f n p i g o5 o6, (∀ B i, tS A B → p + i ≤ n → (∀ j, j < i → (sm (f (p + j)) || dg (f (p + j))) = true) → ¬ (p + i < n ∧ (sm (f (p + i)) || dg (f (p + i))) = true) →
    xi B 1 3 = nI (p + i) → xi B 1 4 = nI (rsort f p i) → (rsort f p i ≠ 4 → xl B 1 6 = lN (rval f p i)) → P none B) ∧ rR f n p i B ∧ tS A B ∧ (∀ j, j < i → (sm (f (p + j)) || dg (f (p + j))) = true) ∧ (g = false → p + i < n ∧ (sm (f (p + i)) || dg (f (p + i))) = false) ∧ st = [] ∧ L = [some (.ref 1), some (.int (bI (sm (f p)))), some (.int (bI (pu f p i))), some (.int (bI g)), some (.int (nI p)), o5, o6] ∧ μ = (n - (p + i) + g.toNat, 0, 0)
theorem con_X9_readRun (l : Launch) : xCon l yX9_readRun cX9_readRun 7 none 0 0 xN xN 0 xFT xFT (w_RI f_X9_readRun) := by
  refine m_X9_readRun (I10 := fun q z A P => rI A P) ?_ ?_
  · rintro q z A P ⟨rfl, f, n, p, hT, hp, rfl, h3, h6, hP⟩
    simp only [k_X9_readRun_0, k_X9_readRun_10, k_X9_readRun_54, k_X9_readRun_55, k_X9_readRun_76, k_X9_readRun_80, k_X9_readRun_81, k_X9_readRun_100, k_X9_readRun_101, k_X9_readRun_148, k_X9_readRun_151, k_X9_readRun_161, k_X9_readRun_164, k_X9_readRun_189, k_X9_readRun_192, k_X9_readRun_210, k_X9_readRun_213, x_aload, x_dup, x_i2l, x_iadd, x_icmp_ge, x_icmp_gt, x_icmp_le, x_icmp_lt, x_icmp_ne, x_if_eq, x_if_ne, x_iload, x_istore, x_isub, x_ladd, x_lmul, x_lor, x_lshl, x_push, x_putI, x_putJ, x_vret, y_getF, y_getI, y_getJ, y_iald, y_putI, xFT, xbool0, xbool1, Nat.reduceAdd, Nat.zero_add, xgl_0, xgl_s, xgl_n, xst_0, xst_1n, xst_1i, xst_1r, xst_1l, xst_s, set_0, set_s, true_and, and_true, xres, xcat_nil, xcat_i, xcat_r, xcat_l, Nat.add_zero, xble0, xble1, xble2, xble3, xble4, xble5, xble6, xble7, xble8, h3]
    refine xE0 (n - p + 1, 0, 0) ⟨f, n, p, 0, true, none, none, hP, ⟨hT, by omega, h3, ?_⟩, tS_rf, fun j hj => absurd hj (by omega), fun h => absurd h (by decide), rfl, rfl, rfl⟩
    rw [h6]
    cases sm (f p) <;> rfl
  · rintro q z A P - μ L st B ⟨f, n, p, i, g, o5, o6, hP, hR, hS, hj, hg, rfl, rfl, rfl⟩
    have hR0 := hR
    obtain ⟨hT, h1, h2, h3⟩ := hR
    have h9 := hT.2.1
    have hb := hT.2.2 (p + i)
    have hend : ¬ (p + i < n ∧ (sm (f (p + i)) || dg (f (p + i))) = true) → k_X9_readRun_164 P [some (.ref 1), some (.int (bI (sm (f p)))), some (.int (bI (pu f p i))), some (.int (bI g)), some (.int (nI p)), o5, o6] [] B := fun q =>
      rr_164 hR0 fun D hD a b c => hP D i ⟨xoff_tr hS.1 hD.1, fun k k3 k4 => (hD.2 k k3 k4).trans (hS.2 k k3 k4)⟩ h1 hj q a b c
    have hstep : p + i < n → (sm (f (p + i)) || dg (f (p + i))) = true → ∀ x l o, x = bI (pu f p (i + 1)) → g = true → k_X9_readRun_101 P (xB (rI A P) (n - (p + i) + g.toNat, 0, 0)) [some (.ref 1), some (.int (bI (sm (f p)))), some (.int o), some (.int 1), some (.int (nI p)), some (.int (nI (f (p + i)))), some (.int l)] [.int x] B := fun q r x l o hx hgt => by
      refine rr_101 hR0 q r fun D hD hS2 => ?_
      subst hgt
      refine xB1 (b := n - (p + (i + 1)) + 1) (by simp only [Bool.toNat_true]; omega) ⟨f, n, p, i + 1, true, some (.int (nI (f (p + i)))), some (.int l), hP, hD, ⟨xoff_tr hS.1 hS2.1, fun k k3 k4 => (hS2.2 k k3 k4).trans (hS.2 k k3 k4)⟩, fun j hj2 => ?_, fun h => absurd h (by decide), rfl, ?_, rfl⟩
      · by_cases e : j < i
        · exact hj j e
        · rw [show j = i by omega]; exact r
      · rw [hx]; rfl
    by_cases hlt : p + i < n
    · obtain ⟨hb1, hb2⟩ := hb hlt
      cases g
      · have := hg rfl
        simp only [k_X9_readRun_0, k_X9_readRun_10, k_X9_readRun_54, k_X9_readRun_55, k_X9_readRun_76, k_X9_readRun_80, k_X9_readRun_81, k_X9_readRun_100, k_X9_readRun_148, k_X9_readRun_151, k_X9_readRun_161, k_X9_readRun_189, k_X9_readRun_192, k_X9_readRun_210, k_X9_readRun_213, x_aload, x_dup, x_i2l, x_iadd, x_icmp_ge, x_icmp_gt, x_icmp_le, x_icmp_lt, x_icmp_ne, x_if_eq, x_if_ne, x_iload, x_istore, x_isub, x_ladd, x_lmul, x_lor, x_lshl, x_push, x_putI, x_putJ, x_vret, y_getF, y_getI, y_getJ, y_iald, y_putI, xFT, xbool0, xbool1, Nat.reduceAdd, Nat.zero_add, xgl_0, xgl_s, xgl_n, xst_0, xst_1n, xst_1i, xst_1r, xst_1l, xst_s, set_0, set_s, true_and, and_true, xres, xcat_nil, xcat_i, xcat_r, xcat_l, Nat.add_zero, xble0, xble1, xble2, xble3, xble4, xble5, xble6, xble7, xble8, hT.1, h2, n_cl (n := p + i) (by omega), hb1, c_lt 97 (c := f (p + i)) (by omega) (by decide), c_lt 48 (c := f (p + i)) (by omega) (by decide), c_gt 122 (c := f (p + i)) (by omega) (by decide), c_gt 57 (c := f (p + i)) (by omega) (by decide), nI_leI (a := n) (b := p + i) (by omega) (by omega), bI_t, (n_in (j := p + i) (n := 940) (by omega) (by omega)).mpr (by omega), Nat.not_le.mpr hlt, i00, i10, true_implies, not_true_eq_false, not_false_eq_true, false_implies]
        exact hend fun h => by rw [this.2] at h; exact absurd h.2 (by decide)
      · cases hs : sm (f (p + i))
        · have hs2 := hs
          simp only [sm, Bool.and_eq_false_iff, decide_eq_false_iff_not] at hs2
          cases hd : dg (f (p + i))
          · have hd2 := hd
            simp only [dg, Bool.and_eq_false_iff, decide_eq_false_iff_not] at hd2
            have hfin : ∀ x, xB (rI A P) (n - (p + i) + true.toNat, 0, 0) [some (.ref 1), some (.int (bI (sm (f p)))), some (.int (bI (pu f p i))), some (.int (bI false)), some (.int (nI p)), some (.int (nI (f (p + i)))), some (.int x)] [] B := fun x =>
              xB1 (b := n - (p + i)) (by simp only [Bool.toNat_true]; omega) ⟨f, n, p, i, false, some (.int (nI (f (p + i)))), some (.int x), hP, hR0, hS, hj, fun _ => ⟨hlt, by rw [hs, hd]; rfl⟩, rfl, rfl, rfl⟩
            simp only [k_X9_readRun_0, k_X9_readRun_10, k_X9_readRun_54, k_X9_readRun_55, k_X9_readRun_76, k_X9_readRun_80, k_X9_readRun_81, k_X9_readRun_100, k_X9_readRun_148, k_X9_readRun_151, k_X9_readRun_161, k_X9_readRun_189, k_X9_readRun_192, k_X9_readRun_210, k_X9_readRun_213, x_aload, x_dup, x_i2l, x_iadd, x_icmp_ge, x_icmp_gt, x_icmp_le, x_icmp_lt, x_icmp_ne, x_if_eq, x_if_ne, x_iload, x_istore, x_isub, x_ladd, x_lmul, x_lor, x_lshl, x_push, x_putI, x_putJ, x_vret, y_getF, y_getI, y_getJ, y_iald, y_putI, xFT, xbool0, xbool1, Nat.reduceAdd, Nat.zero_add, xgl_0, xgl_s, xgl_n, xst_0, xst_1n, xst_1i, xst_1r, xst_1l, xst_s, set_0, set_s, true_and, and_true, xres, xcat_nil, xcat_i, xcat_r, xcat_l, Nat.add_zero, xble0, xble1, xble2, xble3, xble4, xble5, xble6, xble7, xble8, hT.1, h2, n_cl (n := p + i) (by omega), hb1, c_lt 97 (c := f (p + i)) (by omega) (by decide), c_lt 48 (c := f (p + i)) (by omega) (by decide), c_gt 122 (c := f (p + i)) (by omega) (by decide), c_gt 57 (c := f (p + i)) (by omega) (by decide), nI_leI (a := n) (b := p + i) (by omega) (by omega), bI_t, (n_in (j := p + i) (n := 940) (by omega) (by omega)).mpr (by omega), Nat.not_le.mpr hlt,  i00, i10, true_implies, not_true_eq_false, not_false_eq_true, false_implies, Bool.true_eq_false, i11, ne_eq, ← bI_1, ← bI_0, bI_e]
            refine ⟨fun _ => ⟨fun _ => hfin _, fun _ => ⟨fun _ => hfin _, fun _ => by omega⟩⟩, fun _ => ⟨fun _ => ⟨fun _ => hfin _, fun _ => ⟨fun _ => hfin _, fun _ => by omega⟩⟩, fun _ => by omega⟩⟩
          · have hd2 := hd
            simp only [dg, Bool.and_eq_true, decide_eq_true_eq] at hd2
            have hr : (sm (f (p + i)) || dg (f (p + i))) = true := by rw [hd, Bool.or_true]
            simp only [k_X9_readRun_0, k_X9_readRun_10, k_X9_readRun_54, k_X9_readRun_55, k_X9_readRun_76, k_X9_readRun_80, k_X9_readRun_81, k_X9_readRun_100, k_X9_readRun_148, k_X9_readRun_151, k_X9_readRun_161, k_X9_readRun_189, k_X9_readRun_192, k_X9_readRun_210, k_X9_readRun_213, x_aload, x_dup, x_i2l, x_iadd, x_icmp_ge, x_icmp_gt, x_icmp_le, x_icmp_lt, x_icmp_ne, x_if_eq, x_if_ne, x_iload, x_istore, x_isub, x_ladd, x_lmul, x_lor, x_lshl, x_push, x_putI, x_putJ, x_vret, y_getF, y_getI, y_getJ, y_iald, y_putI, xFT, xbool0, xbool1, Nat.reduceAdd, Nat.zero_add, xgl_0, xgl_s, xgl_n, xst_0, xst_1n, xst_1i, xst_1r, xst_1l, xst_s, set_0, set_s, true_and, and_true, xres, xcat_nil, xcat_i, xcat_r, xcat_l, Nat.add_zero, xble0, xble1, xble2, xble3, xble4, xble5, xble6, xble7, xble8, hT.1, h2, n_cl (n := p + i) (by omega), hb1, c_lt 97 (c := f (p + i)) (by omega) (by decide), c_lt 48 (c := f (p + i)) (by omega) (by decide), c_gt 122 (c := f (p + i)) (by omega) (by decide), c_gt 57 (c := f (p + i)) (by omega) (by decide), nI_leI (a := n) (b := p + i) (by omega) (by omega), bI_t, (n_in (j := p + i) (n := 940) (by omega) (by omega)).mpr (by omega), Nat.not_le.mpr hlt, show f (p + i) < 97 by omega, show ¬ f (p + i) < 48 by omega, show ¬ 57 < f (p + i) by omega, i00, i10, true_implies, not_true_eq_false, not_false_eq_true, false_implies, Bool.true_eq_false, i11, ne_eq, ← bI_1, ← bI_0, bI_e]
            refine ⟨fun q => hstep hlt hr _ _ _ (by simp [pu, q, bI]) rfl, fun q => ⟨fun q2 => hstep hlt hr _ _ _ (by rw [pu, hs, show (false == sm (f p)) = false by cases h : sm (f p) <;> simp_all]; simp [bI]) rfl, fun q2 => hstep hlt hr _ _ _ (by simp [pu, q, hs, ← q2, bI]) rfl⟩⟩
        · have hs2 := hs
          simp only [sm, Bool.and_eq_true, decide_eq_true_eq] at hs2
          have hr : (sm (f (p + i)) || dg (f (p + i))) = true := by rw [hs]; rfl
          simp only [k_X9_readRun_0, k_X9_readRun_10, k_X9_readRun_54, k_X9_readRun_55, k_X9_readRun_76, k_X9_readRun_80, k_X9_readRun_81, k_X9_readRun_100, k_X9_readRun_148, k_X9_readRun_151, k_X9_readRun_161, k_X9_readRun_189, k_X9_readRun_192, k_X9_readRun_210, k_X9_readRun_213, x_aload, x_dup, x_i2l, x_iadd, x_icmp_ge, x_icmp_gt, x_icmp_le, x_icmp_lt, x_icmp_ne, x_if_eq, x_if_ne, x_iload, x_istore, x_isub, x_ladd, x_lmul, x_lor, x_lshl, x_push, x_putI, x_putJ, x_vret, y_getF, y_getI, y_getJ, y_iald, y_putI, xFT, xbool0, xbool1, Nat.reduceAdd, Nat.zero_add, xgl_0, xgl_s, xgl_n, xst_0, xst_1n, xst_1i, xst_1r, xst_1l, xst_s, set_0, set_s, true_and, and_true, xres, xcat_nil, xcat_i, xcat_r, xcat_l, Nat.add_zero, xble0, xble1, xble2, xble3, xble4, xble5, xble6, xble7, xble8, hT.1, h2, n_cl (n := p + i) (by omega), hb1, c_lt 97 (c := f (p + i)) (by omega) (by decide), c_lt 48 (c := f (p + i)) (by omega) (by decide), c_gt 122 (c := f (p + i)) (by omega) (by decide), c_gt 57 (c := f (p + i)) (by omega) (by decide), nI_leI (a := n) (b := p + i) (by omega) (by omega), bI_t, (n_in (j := p + i) (n := 940) (by omega) (by omega)).mpr (by omega), Nat.not_le.mpr hlt, show ¬ f (p + i) < 97 by omega, show ¬ 122 < f (p + i) by omega, i00, i10, true_implies, not_true_eq_false, not_false_eq_true, false_implies, Bool.true_eq_false, i11, ne_eq, ← bI_1, ← bI_0, bI_e]
          refine ⟨fun q => hstep hlt hr _ _ _ (by simp [pu, q, bI]) rfl, fun q => ⟨fun q2 => hstep hlt hr _ _ _ (by rw [pu, hs, show (true == sm (f p)) = false by cases h : sm (f p) <;> simp_all]; simp [bI]) rfl, fun q2 => hstep hlt hr _ _ _ (by simp [pu, q, hs, ← q2, bI]) rfl⟩⟩
    · simp only [k_X9_readRun_0, k_X9_readRun_10, k_X9_readRun_54, k_X9_readRun_55, k_X9_readRun_76, k_X9_readRun_80, k_X9_readRun_81, k_X9_readRun_100, k_X9_readRun_148, k_X9_readRun_151, k_X9_readRun_161, k_X9_readRun_189, k_X9_readRun_192, k_X9_readRun_210, k_X9_readRun_213, x_aload, x_dup, x_i2l, x_iadd, x_icmp_ge, x_icmp_gt, x_icmp_le, x_icmp_lt, x_icmp_ne, x_if_eq, x_if_ne, x_iload, x_istore, x_isub, x_ladd, x_lmul, x_lor, x_lshl, x_push, x_putI, x_putJ, x_vret, y_getF, y_getI, y_getJ, y_iald, y_putI, xFT, xbool0, xbool1, Nat.reduceAdd, Nat.zero_add, xgl_0, xgl_s, xgl_n, xst_0, xst_1n, xst_1i, xst_1r, xst_1l, xst_s, set_0, set_s, true_and, and_true, xres, xcat_nil, xcat_i, xcat_r, xcat_l, Nat.add_zero, xble0, xble1, xble2, xble3, xble4, xble5, xble6, xble7, xble8, hT.1, h2, nI_leI (a := n) (b := p + i) (by omega) (by omega), Nat.not_lt.mp hlt, true_implies, not_true_eq_false, not_false_eq_true, false_implies]
      exact hend fun h => hlt h.1

