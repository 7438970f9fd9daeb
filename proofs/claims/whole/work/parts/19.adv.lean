theorem d_X9_advance_0 : decode cX9_advance 0 = .ok (.aload_n 0, 1) := by decide +kernel
theorem d_X9_advance_1 : decode cX9_advance 1 = .ok (.getfield 15, 3) := by decide +kernel
theorem d_X9_advance_4 : decode cX9_advance 4 = .ok (.aload_n 0, 1) := by decide +kernel
theorem d_X9_advance_5 : decode cX9_advance 5 = .ok (.getfield 19, 3) := by decide +kernel
theorem d_X9_advance_8 : decode cX9_advance 8 = .ok (.invokestatic 28, 3) := by decide +kernel
theorem d_X9_advance_11 : decode cX9_advance 11 = .ok (.istore_n 1, 1) := by decide +kernel
theorem d_X9_advance_12 : decode cX9_advance 12 = .ok (.aload_n 0, 1) := by decide +kernel
theorem d_X9_advance_13 : decode cX9_advance 13 = .ok (.getfield 22, 3) := by decide +kernel
theorem d_X9_advance_16 : decode cX9_advance 16 = .ok (.iload_n 1, 1) := by decide +kernel
theorem d_X9_advance_17 : decode cX9_advance 17 = .ok (.if_icmp .ge 44, 3) := by decide +kernel
theorem d_X9_advance_20 : decode cX9_advance 20 = .ok (.aload_n 0, 1) := by decide +kernel
theorem d_X9_advance_21 : decode cX9_advance 21 = .ok (.getfield 9, 3) := by decide +kernel
theorem d_X9_advance_24 : decode cX9_advance 24 = .ok (.aload_n 0, 1) := by decide +kernel
theorem d_X9_advance_25 : decode cX9_advance 25 = .ok (.getfield 22, 3) := by decide +kernel
theorem d_X9_advance_28 : decode cX9_advance 28 = .ok (.iaload, 1) := by decide +kernel
theorem d_X9_advance_29 : decode cX9_advance 29 = .ok (.bipush 32, 2) := by decide +kernel
theorem d_X9_advance_31 : decode cX9_advance 31 = .ok (.if_icmp .eq 17, 3) := by decide +kernel
theorem d_X9_advance_34 : decode cX9_advance 34 = .ok (.aload_n 0, 1) := by decide +kernel
theorem d_X9_advance_35 : decode cX9_advance 35 = .ok (.getfield 9, 3) := by decide +kernel
theorem d_X9_advance_38 : decode cX9_advance 38 = .ok (.aload_n 0, 1) := by decide +kernel
theorem d_X9_advance_39 : decode cX9_advance 39 = .ok (.getfield 22, 3) := by decide +kernel
theorem d_X9_advance_42 : decode cX9_advance 42 = .ok (.iaload, 1) := by decide +kernel
theorem d_X9_advance_43 : decode cX9_advance 43 = .ok (.bipush 10, 2) := by decide +kernel
theorem d_X9_advance_45 : decode cX9_advance 45 = .ok (.if_icmp .ne 16, 3) := by decide +kernel
theorem d_X9_advance_48 : decode cX9_advance 48 = .ok (.aload_n 0, 1) := by decide +kernel
theorem d_X9_advance_49 : decode cX9_advance 49 = .ok (.dup, 1) := by decide +kernel
theorem d_X9_advance_50 : decode cX9_advance 50 = .ok (.getfield 22, 3) := by decide +kernel
theorem d_X9_advance_53 : decode cX9_advance 53 = .ok (.iconst 1, 1) := by decide +kernel
theorem d_X9_advance_54 : decode cX9_advance 54 = .ok (.iadd, 1) := by decide +kernel
theorem d_X9_advance_55 : decode cX9_advance 55 = .ok (.putfield 22, 3) := by decide +kernel
theorem d_X9_advance_58 : decode cX9_advance 58 = .ok (.goto (-46), 3) := by decide +kernel
theorem d_X9_advance_61 : decode cX9_advance 61 = .ok (.aload_n 0, 1) := by decide +kernel
theorem d_X9_advance_62 : decode cX9_advance 62 = .ok (.lconst 0, 1) := by decide +kernel
theorem d_X9_advance_63 : decode cX9_advance 63 = .ok (.putfield 34, 3) := by decide +kernel
theorem d_X9_advance_66 : decode cX9_advance 66 = .ok (.aload_n 0, 1) := by decide +kernel
theorem d_X9_advance_67 : decode cX9_advance 67 = .ok (.getfield 22, 3) := by decide +kernel
theorem d_X9_advance_70 : decode cX9_advance 70 = .ok (.iload_n 1, 1) := by decide +kernel
theorem d_X9_advance_71 : decode cX9_advance 71 = .ok (.if_icmp .lt 29, 3) := by decide +kernel
theorem d_X9_advance_74 : decode cX9_advance 74 = .ok (.aload_n 0, 1) := by decide +kernel
theorem d_X9_advance_75 : decode cX9_advance 75 = .ok (.iload_n 1, 1) := by decide +kernel
theorem d_X9_advance_76 : decode cX9_advance 76 = .ok (.putfield 38, 3) := by decide +kernel
theorem d_X9_advance_79 : decode cX9_advance 79 = .ok (.aload_n 0, 1) := by decide +kernel
theorem d_X9_advance_80 : decode cX9_advance 80 = .ok (.aload_n 0, 1) := by decide +kernel
theorem d_X9_advance_81 : decode cX9_advance 81 = .ok (.getfield 15, 3) := by decide +kernel
theorem d_X9_advance_84 : decode cX9_advance 84 = .ok (.aload_n 0, 1) := by decide +kernel
theorem d_X9_advance_85 : decode cX9_advance 85 = .ok (.getfield 19, 3) := by decide +kernel
theorem d_X9_advance_88 : decode cX9_advance 88 = .ok (.if_icmp .le 7, 3) := by decide +kernel
theorem d_X9_advance_91 : decode cX9_advance 91 = .ok (.iconst 4, 1) := by decide +kernel
theorem d_X9_advance_92 : decode cX9_advance 92 = .ok (.goto 4, 3) := by decide +kernel
theorem d_X9_advance_95 : decode cX9_advance 95 = .ok (.iconst 0, 1) := by decide +kernel
theorem d_X9_advance_96 : decode cX9_advance 96 = .ok (.putfield 41, 3) := by decide +kernel
theorem d_X9_advance_99 : decode cX9_advance 99 = .ok (.return_, 1) := by decide +kernel
theorem d_X9_advance_100 : decode cX9_advance 100 = .ok (.aload_n 0, 1) := by decide +kernel
theorem d_X9_advance_101 : decode cX9_advance 101 = .ok (.aload_n 0, 1) := by decide +kernel
theorem d_X9_advance_102 : decode cX9_advance 102 = .ok (.getfield 22, 3) := by decide +kernel
theorem d_X9_advance_105 : decode cX9_advance 105 = .ok (.putfield 38, 3) := by decide +kernel
theorem d_X9_advance_108 : decode cX9_advance 108 = .ok (.aload_n 0, 1) := by decide +kernel
theorem d_X9_advance_109 : decode cX9_advance 109 = .ok (.getfield 9, 3) := by decide +kernel
theorem d_X9_advance_112 : decode cX9_advance 112 = .ok (.aload_n 0, 1) := by decide +kernel
theorem d_X9_advance_113 : decode cX9_advance 113 = .ok (.getfield 22, 3) := by decide +kernel
theorem d_X9_advance_116 : decode cX9_advance 116 = .ok (.iaload, 1) := by decide +kernel
theorem d_X9_advance_117 : decode cX9_advance 117 = .ok (.istore_n 2, 1) := by decide +kernel
theorem d_X9_advance_118 : decode cX9_advance 118 = .ok (.iload_n 2, 1) := by decide +kernel
theorem d_X9_advance_119 : decode cX9_advance 119 = .ok (.bipush 97, 2) := by decide +kernel
theorem d_X9_advance_121 : decode cX9_advance 121 = .ok (.if_icmp .lt 9, 3) := by decide +kernel
theorem d_X9_advance_124 : decode cX9_advance 124 = .ok (.iload_n 2, 1) := by decide +kernel
theorem d_X9_advance_125 : decode cX9_advance 125 = .ok (.bipush 122, 2) := by decide +kernel
theorem d_X9_advance_127 : decode cX9_advance 127 = .ok (.if_icmp .le 15, 3) := by decide +kernel
theorem d_X9_advance_130 : decode cX9_advance 130 = .ok (.iload_n 2, 1) := by decide +kernel
theorem d_X9_advance_131 : decode cX9_advance 131 = .ok (.bipush 48, 2) := by decide +kernel
theorem d_X9_advance_133 : decode cX9_advance 133 = .ok (.if_icmp .lt 25, 3) := by decide +kernel
theorem d_X9_advance_136 : decode cX9_advance 136 = .ok (.iload_n 2, 1) := by decide +kernel
theorem d_X9_advance_137 : decode cX9_advance 137 = .ok (.bipush 57, 2) := by decide +kernel
theorem d_X9_advance_139 : decode cX9_advance 139 = .ok (.if_icmp .gt 19, 3) := by decide +kernel
theorem d_X9_advance_142 : decode cX9_advance 142 = .ok (.aload_n 0, 1) := by decide +kernel
theorem d_X9_advance_143 : decode cX9_advance 143 = .ok (.iload_n 2, 1) := by decide +kernel
theorem d_X9_advance_144 : decode cX9_advance 144 = .ok (.bipush 97, 2) := by decide +kernel
theorem d_X9_advance_146 : decode cX9_advance 146 = .ok (.if_icmp .lt 7, 3) := by decide +kernel
theorem d_X9_advance_149 : decode cX9_advance 149 = .ok (.iconst 1, 1) := by decide +kernel
theorem d_X9_advance_150 : decode cX9_advance 150 = .ok (.goto 4, 3) := by decide +kernel
theorem d_X9_advance_153 : decode cX9_advance 153 = .ok (.iconst 0, 1) := by decide +kernel
theorem d_X9_advance_154 : decode cX9_advance 154 = .ok (.invokevirtual 44, 3) := by decide +kernel
theorem d_X9_advance_157 : decode cX9_advance 157 = .ok (.return_, 1) := by decide +kernel
theorem d_X9_advance_158 : decode cX9_advance 158 = .ok (.iload_n 2, 1) := by decide +kernel
theorem d_X9_advance_159 : decode cX9_advance 159 = .ok (.bipush 59, 2) := by decide +kernel
theorem d_X9_advance_161 : decode cX9_advance 161 = .ok (.if_icmp .lt 9, 3) := by decide +kernel
theorem d_X9_advance_164 : decode cX9_advance 164 = .ok (.iload_n 2, 1) := by decide +kernel
theorem d_X9_advance_165 : decode cX9_advance 165 = .ok (.bipush 62, 2) := by decide +kernel
theorem d_X9_advance_167 : decode cX9_advance 167 = .ok (.if_icmp .le 15, 3) := by decide +kernel
theorem d_X9_advance_170 : decode cX9_advance 170 = .ok (.iload_n 2, 1) := by decide +kernel
theorem d_X9_advance_171 : decode cX9_advance 171 = .ok (.bipush 40, 2) := by decide +kernel
theorem d_X9_advance_173 : decode cX9_advance 173 = .ok (.if_icmp .eq 9, 3) := by decide +kernel
theorem d_X9_advance_176 : decode cX9_advance 176 = .ok (.iload_n 2, 1) := by decide +kernel
theorem d_X9_advance_177 : decode cX9_advance 177 = .ok (.bipush 41, 2) := by decide +kernel
theorem d_X9_advance_179 : decode cX9_advance 179 = .ok (.if_icmp .ne 7, 3) := by decide +kernel
theorem d_X9_advance_182 : decode cX9_advance 182 = .ok (.iconst 1, 1) := by decide +kernel
theorem d_X9_advance_183 : decode cX9_advance 183 = .ok (.goto 4, 3) := by decide +kernel
theorem d_X9_advance_186 : decode cX9_advance 186 = .ok (.iconst 0, 1) := by decide +kernel
theorem d_X9_advance_187 : decode cX9_advance 187 = .ok (.istore_n 3, 1) := by decide +kernel
theorem d_X9_advance_188 : decode cX9_advance 188 = .ok (.aload_n 0, 1) := by decide +kernel
theorem d_X9_advance_189 : decode cX9_advance 189 = .ok (.iload_n 3, 1) := by decide +kernel
theorem d_X9_advance_190 : decode cX9_advance 190 = .ok (.ifCond .eq 7, 3) := by decide +kernel
theorem d_X9_advance_193 : decode cX9_advance 193 = .ok (.iconst 3, 1) := by decide +kernel
theorem d_X9_advance_194 : decode cX9_advance 194 = .ok (.goto 4, 3) := by decide +kernel
theorem d_X9_advance_197 : decode cX9_advance 197 = .ok (.iconst 4, 1) := by decide +kernel
theorem d_X9_advance_198 : decode cX9_advance 198 = .ok (.putfield 41, 3) := by decide +kernel
theorem d_X9_advance_201 : decode cX9_advance 201 = .ok (.aload_n 0, 1) := by decide +kernel
theorem d_X9_advance_202 : decode cX9_advance 202 = .ok (.iload_n 2, 1) := by decide +kernel
theorem d_X9_advance_203 : decode cX9_advance 203 = .ok (.i2l, 1) := by decide +kernel
theorem d_X9_advance_204 : decode cX9_advance 204 = .ok (.putfield 34, 3) := by decide +kernel
theorem d_X9_advance_207 : decode cX9_advance 207 = .ok (.aload_n 0, 1) := by decide +kernel
theorem d_X9_advance_208 : decode cX9_advance 208 = .ok (.dup, 1) := by decide +kernel
theorem d_X9_advance_209 : decode cX9_advance 209 = .ok (.getfield 22, 3) := by decide +kernel
theorem d_X9_advance_212 : decode cX9_advance 212 = .ok (.iconst 1, 1) := by decide +kernel
theorem d_X9_advance_213 : decode cX9_advance 213 = .ok (.iadd, 1) := by decide +kernel
theorem d_X9_advance_214 : decode cX9_advance 214 = .ok (.putfield 22, 3) := by decide +kernel
theorem d_X9_advance_217 : decode cX9_advance 217 = .ok (.return_, 1) := by decide +kernel
def k_X9_advance_0 (P : xP) (C12 : xK) : xK := x_aload 0 (y_getI 1 1 (x_aload 0 (y_getI 1 2 (x_cs2 (w_II f_J9_min_7cf53) (x_istore 1 (C12))))))
set_option maxRecDepth 20000 in
theorem t_X9_advance_0 {p : Program} {l : Launch} {e : Env} {s : State} {m : MethodId} {args : Array Value} {below : List Frame} {meth : Method} {c : Code} {g : xG} (X : xX p s m args c meth cX9_advance RX9 4 g) (hr : meth.sig.returnType = none) {P : xP} {C12 : xK} (h12 : xAt p l e { frames := 1, cells := 0, slots := 0, locals := 26 } s m args below meth c g 4 xFT xN 0 0 (MQ below (xQc g xFT xN P) args s 0 0 (xFr g)) C12 12) : xAt p l e { frames := 1, cells := 0, slots := 0, locals := 26 } s m args below meth c g 4 xFT xN 0 0 (MQ below (xQc g xFT xN P) args s 0 0 (xFr g)) (k_X9_advance_0 P C12) 0 := by
  unfold k_X9_advance_0
  refine r_aload_n (pc := 0) X d_X9_advance_0 fn0 ?_
  refine s_getI (pc := 1) (ci := 9) X xok9 (by decide +kernel) ob_1 (by decide +kernel) fl_RX9_15 d_X9_advance_1 ?_
  refine r_aload_n (pc := 4) X d_X9_advance_4 fn0 ?_
  refine s_getI (pc := 5) (ci := 9) X xok9 (by decide +kernel) ob_1 (by decide +kernel) fl_RX9_19 d_X9_advance_5 ?_
  refine r_cs2 (pc := 8) X (con_J9_min_7cf53 l) sf_J9_min_7cf53 ml_RX9_28 (by decide +kernel) (by decide +kernel) d_X9_advance_8 ?_
  refine r_istore_n (pc := 11) X d_X9_advance_11 fn1 (by decide +kernel) ?_
  exact h12
def k_X9_advance_198 (P : xP) : xK := x_putI xN 9 4 (x_aload 0 (x_iload 2 (x_i2l (y_putJ 1 6 (x_aload 0 (x_dup (y_getI 1 3 (x_push (.int 1) (x_iadd (y_putI 1 3 (x_vret P)))))))))))
set_option maxRecDepth 20000 in
theorem t_X9_advance_198 {p : Program} {l : Launch} {e : Env} {s : State} {m : MethodId} {args : Array Value} {below : List Frame} {meth : Method} {c : Code} {g : xG} (X : xX p s m args c meth cX9_advance RX9 4 g) (hr : meth.sig.returnType = none) {P : xP} : xAt p l e { frames := 1, cells := 0, slots := 0, locals := 26 } s m args below meth c g 4 xFT xN 0 0 (MQ below (xQc g xFT xN P) args s 0 0 (xFr g)) (k_X9_advance_198 P) 198 := by
  unfold k_X9_advance_198
  refine r_putI (pc := 198) X xok9 (by decide +kernel) (by decide +kernel) (by decide +kernel) (by decide +kernel) fl_RX9_41 d_X9_advance_198 ?_
  refine r_aload_n (pc := 201) X d_X9_advance_201 fn0 ?_
  refine r_iload_n (pc := 202) X d_X9_advance_202 fn2 ?_
  refine r_i2l (pc := 203) X d_X9_advance_203 ?_
  refine s_putJ (pc := 204) (ci := 9) X xok9 (by decide +kernel) ob_1 (by decide +kernel) (by decide +kernel) (by decide +kernel) fl_RX9_34 d_X9_advance_204 ?_
  refine r_aload_n (pc := 207) X d_X9_advance_207 fn0 ?_
  refine r_dup (pc := 208) X d_X9_advance_208 ?_
  refine s_getI (pc := 209) (ci := 9) X xok9 (by decide +kernel) ob_1 (by decide +kernel) fl_RX9_22 d_X9_advance_209 ?_
  refine r_iconst (pc := 212) X d_X9_advance_212 (by decide +kernel) ?_
  refine r_iadd (pc := 213) X d_X9_advance_213 ?_
  refine s_putI (pc := 214) (ci := 9) X xok9 (by decide +kernel) ob_1 (by decide +kernel) (by decide +kernel) (by decide +kernel) fl_RX9_22 d_X9_advance_214 ?_
  exact r_vret (pc := 217) X hr d_X9_advance_217
def k_X9_advance_187 (P : xP) : xK := x_istore 3 (x_aload 0 (x_iload 3 (x_if_eq (x_push (.int 4) ((k_X9_advance_198 P))) (x_push (.int 3) ((k_X9_advance_198 P))))))
set_option maxRecDepth 20000 in
theorem t_X9_advance_187 {p : Program} {l : Launch} {e : Env} {s : State} {m : MethodId} {args : Array Value} {below : List Frame} {meth : Method} {c : Code} {g : xG} (X : xX p s m args c meth cX9_advance RX9 4 g) (hr : meth.sig.returnType = none) {P : xP} : xAt p l e { frames := 1, cells := 0, slots := 0, locals := 26 } s m args below meth c g 4 xFT xN 0 0 (MQ below (xQc g xFT xN P) args s 0 0 (xFr g)) (k_X9_advance_187 P) 187 := by
  unfold k_X9_advance_187
  refine r_istore_n (pc := 187) X d_X9_advance_187 fn3 (by decide +kernel) ?_
  refine r_aload_n (pc := 188) X d_X9_advance_188 fn0 ?_
  refine r_iload_n (pc := 189) X d_X9_advance_189 fn3 ?_
  refine r_if_eq (pc := 190) (tgt := 197) X d_X9_advance_190 (by decide +kernel) ?_ ?_
  · refine r_iconst (pc := 197) X d_X9_advance_197 (by decide +kernel) ?_
    exact t_X9_advance_198 X hr
  · refine r_iconst (pc := 193) X d_X9_advance_193 (by decide +kernel) ?_
    refine r_goto (pc := 194) (tgt := 198) X d_X9_advance_194 (by decide +kernel) ?_
    exact t_X9_advance_198 X hr
def k_X9_advance_182 (P : xP) : xK := x_push (.int 1) ((k_X9_advance_187 P))
set_option maxRecDepth 20000 in
theorem t_X9_advance_182 {p : Program} {l : Launch} {e : Env} {s : State} {m : MethodId} {args : Array Value} {below : List Frame} {meth : Method} {c : Code} {g : xG} (X : xX p s m args c meth cX9_advance RX9 4 g) (hr : meth.sig.returnType = none) {P : xP} : xAt p l e { frames := 1, cells := 0, slots := 0, locals := 26 } s m args below meth c g 4 xFT xN 0 0 (MQ below (xQc g xFT xN P) args s 0 0 (xFr g)) (k_X9_advance_182 P) 182 := by
  unfold k_X9_advance_182
  refine r_iconst (pc := 182) X d_X9_advance_182 (by decide +kernel) ?_
  refine r_goto (pc := 183) (tgt := 187) X d_X9_advance_183 (by decide +kernel) ?_
  exact t_X9_advance_187 X hr
def k_X9_advance_170 (P : xP) : xK := x_iload 2 (x_push (.int 40) (x_icmp_eq ((k_X9_advance_182 P)) (x_iload 2 (x_push (.int 41) (x_icmp_ne (x_push (.int 0) ((k_X9_advance_187 P))) ((k_X9_advance_182 P)))))))
set_option maxRecDepth 20000 in
theorem t_X9_advance_170 {p : Program} {l : Launch} {e : Env} {s : State} {m : MethodId} {args : Array Value} {below : List Frame} {meth : Method} {c : Code} {g : xG} (X : xX p s m args c meth cX9_advance RX9 4 g) (hr : meth.sig.returnType = none) {P : xP} : xAt p l e { frames := 1, cells := 0, slots := 0, locals := 26 } s m args below meth c g 4 xFT xN 0 0 (MQ below (xQc g xFT xN P) args s 0 0 (xFr g)) (k_X9_advance_170 P) 170 := by
  unfold k_X9_advance_170
  refine r_iload_n (pc := 170) X d_X9_advance_170 fn2 ?_
  refine r_bipush (pc := 171) X d_X9_advance_171 (by decide +kernel) ?_
  refine r_icmp_eq (pc := 173) (tgt := 182) X d_X9_advance_173 (by decide +kernel) ?_ ?_
  · exact t_X9_advance_182 X hr
  · refine r_iload_n (pc := 176) X d_X9_advance_176 fn2 ?_
    refine r_bipush (pc := 177) X d_X9_advance_177 (by decide +kernel) ?_
    refine r_icmp_ne (pc := 179) (tgt := 186) X d_X9_advance_179 (by decide +kernel) ?_ ?_
    · refine r_iconst (pc := 186) X d_X9_advance_186 (by decide +kernel) ?_
      exact t_X9_advance_187 X hr
    · exact t_X9_advance_182 X hr
def k_X9_advance_158 (P : xP) : xK := x_iload 2 (x_push (.int 59) (x_icmp_lt ((k_X9_advance_170 P)) (x_iload 2 (x_push (.int 62) (x_icmp_le ((k_X9_advance_182 P)) ((k_X9_advance_170 P)))))))
set_option maxRecDepth 20000 in
theorem t_X9_advance_158 {p : Program} {l : Launch} {e : Env} {s : State} {m : MethodId} {args : Array Value} {below : List Frame} {meth : Method} {c : Code} {g : xG} (X : xX p s m args c meth cX9_advance RX9 4 g) (hr : meth.sig.returnType = none) {P : xP} : xAt p l e { frames := 1, cells := 0, slots := 0, locals := 26 } s m args below meth c g 4 xFT xN 0 0 (MQ below (xQc g xFT xN P) args s 0 0 (xFr g)) (k_X9_advance_158 P) 158 := by
  unfold k_X9_advance_158
  refine r_iload_n (pc := 158) X d_X9_advance_158 fn2 ?_
  refine r_bipush (pc := 159) X d_X9_advance_159 (by decide +kernel) ?_
  refine r_icmp_lt (pc := 161) (tgt := 170) X d_X9_advance_161 (by decide +kernel) ?_ ?_
  · exact t_X9_advance_170 X hr
  · refine r_iload_n (pc := 164) X d_X9_advance_164 fn2 ?_
    refine r_bipush (pc := 165) X d_X9_advance_165 (by decide +kernel) ?_
    refine r_icmp_le (pc := 167) (tgt := 182) X d_X9_advance_167 (by decide +kernel) ?_ ?_
    · exact t_X9_advance_182 X hr
    · exact t_X9_advance_170 X hr
def k_X9_advance_154 (P : xP) : xK := x_cv1 xN 9 (w_RI f_X9_readRun) (x_vret P)
set_option maxRecDepth 20000 in
theorem t_X9_advance_154 {p : Program} {l : Launch} {e : Env} {s : State} {m : MethodId} {args : Array Value} {below : List Frame} {meth : Method} {c : Code} {g : xG} (X : xX p s m args c meth cX9_advance RX9 4 g) (hr : meth.sig.returnType = none) {P : xP} : xAt p l e { frames := 1, cells := 0, slots := 0, locals := 26 } s m args below meth c g 4 xFT xN 0 0 (MQ below (xQc g xFT xN P) args s 0 0 (xFr g)) (k_X9_advance_154 P) 154 := by
  unfold k_X9_advance_154
  refine r_cv1 (pc := 154) X xok9 (by decide +kernel) rfl (con_X9_readRun l) mf_X9_readRun ml_RX9_44 (by decide +kernel) (by decide +kernel) d_X9_advance_154 ?_
  exact r_vret (pc := 157) X hr d_X9_advance_157
def k_X9_advance_142 (P : xP) : xK := x_aload 0 (x_iload 2 (x_push (.int 97) (x_icmp_lt (x_push (.int 0) ((k_X9_advance_154 P))) (x_push (.int 1) ((k_X9_advance_154 P))))))
set_option maxRecDepth 20000 in
theorem t_X9_advance_142 {p : Program} {l : Launch} {e : Env} {s : State} {m : MethodId} {args : Array Value} {below : List Frame} {meth : Method} {c : Code} {g : xG} (X : xX p s m args c meth cX9_advance RX9 4 g) (hr : meth.sig.returnType = none) {P : xP} : xAt p l e { frames := 1, cells := 0, slots := 0, locals := 26 } s m args below meth c g 4 xFT xN 0 0 (MQ below (xQc g xFT xN P) args s 0 0 (xFr g)) (k_X9_advance_142 P) 142 := by
  unfold k_X9_advance_142
  refine r_aload_n (pc := 142) X d_X9_advance_142 fn0 ?_
  refine r_iload_n (pc := 143) X d_X9_advance_143 fn2 ?_
  refine r_bipush (pc := 144) X d_X9_advance_144 (by decide +kernel) ?_
  refine r_icmp_lt (pc := 146) (tgt := 153) X d_X9_advance_146 (by decide +kernel) ?_ ?_
  · refine r_iconst (pc := 153) X d_X9_advance_153 (by decide +kernel) ?_
    exact t_X9_advance_154 X hr
  · refine r_iconst (pc := 149) X d_X9_advance_149 (by decide +kernel) ?_
    refine r_goto (pc := 150) (tgt := 154) X d_X9_advance_150 (by decide +kernel) ?_
    exact t_X9_advance_154 X hr
def k_X9_advance_130 (P : xP) : xK := x_iload 2 (x_push (.int 48) (x_icmp_lt ((k_X9_advance_158 P)) (x_iload 2 (x_push (.int 57) (x_icmp_gt ((k_X9_advance_158 P)) ((k_X9_advance_142 P)))))))
set_option maxRecDepth 20000 in
theorem t_X9_advance_130 {p : Program} {l : Launch} {e : Env} {s : State} {m : MethodId} {args : Array Value} {below : List Frame} {meth : Method} {c : Code} {g : xG} (X : xX p s m args c meth cX9_advance RX9 4 g) (hr : meth.sig.returnType = none) {P : xP} : xAt p l e { frames := 1, cells := 0, slots := 0, locals := 26 } s m args below meth c g 4 xFT xN 0 0 (MQ below (xQc g xFT xN P) args s 0 0 (xFr g)) (k_X9_advance_130 P) 130 := by
  unfold k_X9_advance_130
  refine r_iload_n (pc := 130) X d_X9_advance_130 fn2 ?_
  refine r_bipush (pc := 131) X d_X9_advance_131 (by decide +kernel) ?_
  refine r_icmp_lt (pc := 133) (tgt := 158) X d_X9_advance_133 (by decide +kernel) ?_ ?_
  · exact t_X9_advance_158 X hr
  · refine r_iload_n (pc := 136) X d_X9_advance_136 fn2 ?_
    refine r_bipush (pc := 137) X d_X9_advance_137 (by decide +kernel) ?_
    refine r_icmp_gt (pc := 139) (tgt := 158) X d_X9_advance_139 (by decide +kernel) ?_ ?_
    · exact t_X9_advance_158 X hr
    · exact t_X9_advance_142 X hr
def k_X9_advance_96 (P : xP) : xK := x_putI xN 9 4 (x_vret P)
set_option maxRecDepth 20000 in
theorem t_X9_advance_96 {p : Program} {l : Launch} {e : Env} {s : State} {m : MethodId} {args : Array Value} {below : List Frame} {meth : Method} {c : Code} {g : xG} (X : xX p s m args c meth cX9_advance RX9 4 g) (hr : meth.sig.returnType = none) {P : xP} : xAt p l e { frames := 1, cells := 0, slots := 0, locals := 26 } s m args below meth c g 4 xFT xN 0 0 (MQ below (xQc g xFT xN P) args s 0 0 (xFr g)) (k_X9_advance_96 P) 96 := by
  unfold k_X9_advance_96
  refine r_putI (pc := 96) X xok9 (by decide +kernel) (by decide +kernel) (by decide +kernel) (by decide +kernel) fl_RX9_41 d_X9_advance_96 ?_
  exact r_vret (pc := 99) X hr d_X9_advance_99
def k_X9_advance_61 (P : xP) : xK := x_aload 0 (x_push (.long 0) (y_putJ 1 6 (x_aload 0 (y_getI 1 3 (x_iload 1 (x_icmp_lt (x_aload 0 (x_aload 0 (y_getI 1 3 (y_putI 1 5 (x_aload 0 (y_getF 1 2 (x_aload 0 (y_getI 1 3 (y_iald 2 940 (x_istore 2 (x_iload 2 (x_push (.int 97) (x_icmp_lt ((k_X9_advance_130 P)) (x_iload 2 (x_push (.int 122) (x_icmp_le ((k_X9_advance_142 P)) ((k_X9_advance_130 P)))))))))))))))))) (x_aload 0 (x_iload 1 (y_putI 1 5 (x_aload 0 (x_aload 0 (y_getI 1 1 (x_aload 0 (y_getI 1 2 (x_icmp_le (x_push (.int 0) ((k_X9_advance_96 P))) (x_push (.int 4) ((k_X9_advance_96 P))))))))))))))))))
set_option maxRecDepth 20000 in
theorem t_X9_advance_61 {p : Program} {l : Launch} {e : Env} {s : State} {m : MethodId} {args : Array Value} {below : List Frame} {meth : Method} {c : Code} {g : xG} (X : xX p s m args c meth cX9_advance RX9 4 g) (hr : meth.sig.returnType = none) {P : xP} : xAt p l e { frames := 1, cells := 0, slots := 0, locals := 26 } s m args below meth c g 4 xFT xN 0 0 (MQ below (xQc g xFT xN P) args s 0 0 (xFr g)) (k_X9_advance_61 P) 61 := by
  unfold k_X9_advance_61
  refine r_aload_n (pc := 61) X d_X9_advance_61 fn0 ?_
  refine r_lconst (pc := 62) X d_X9_advance_62 (by decide +kernel) ?_
  refine s_putJ (pc := 63) (ci := 9) X xok9 (by decide +kernel) ob_1 (by decide +kernel) (by decide +kernel) (by decide +kernel) fl_RX9_34 d_X9_advance_63 ?_
  refine r_aload_n (pc := 66) X d_X9_advance_66 fn0 ?_
  refine s_getI (pc := 67) (ci := 9) X xok9 (by decide +kernel) ob_1 (by decide +kernel) fl_RX9_22 d_X9_advance_67 ?_
  refine r_iload_n (pc := 70) X d_X9_advance_70 fn1 ?_
  refine r_icmp_lt (pc := 71) (tgt := 100) X d_X9_advance_71 (by decide +kernel) ?_ ?_
  · refine r_aload_n (pc := 100) X d_X9_advance_100 fn0 ?_
    refine r_aload_n (pc := 101) X d_X9_advance_101 fn0 ?_
    refine s_getI (pc := 102) (ci := 9) X xok9 (by decide +kernel) ob_1 (by decide +kernel) fl_RX9_22 d_X9_advance_102 ?_
    refine s_putI (pc := 105) (ci := 9) X xok9 (by decide +kernel) ob_1 (by decide +kernel) (by decide +kernel) (by decide +kernel) fl_RX9_38 d_X9_advance_105 ?_
    refine r_aload_n (pc := 108) X d_X9_advance_108 fn0 ?_
    refine s_getF (pc := 109) (ci := 9) (k := 0) X xok9 (by decide +kernel) ob_1 trivial ly_1_0 (by decide +kernel) fl_RX9_9 d_X9_advance_109 ?_
    refine r_aload_n (pc := 112) X d_X9_advance_112 fn0 ?_
    refine s_getI (pc := 113) (ci := 9) X xok9 (by decide +kernel) ob_1 (by decide +kernel) fl_RX9_22 d_X9_advance_113 ?_
    refine s_iald (pc := 116) X tn_2 ln_2 d_X9_advance_116 ?_
    refine r_istore_n (pc := 117) X d_X9_advance_117 fn2 (by decide +kernel) ?_
    refine r_iload_n (pc := 118) X d_X9_advance_118 fn2 ?_
    refine r_bipush (pc := 119) X d_X9_advance_119 (by decide +kernel) ?_
    refine r_icmp_lt (pc := 121) (tgt := 130) X d_X9_advance_121 (by decide +kernel) ?_ ?_
    · exact t_X9_advance_130 X hr
    · refine r_iload_n (pc := 124) X d_X9_advance_124 fn2 ?_
      refine r_bipush (pc := 125) X d_X9_advance_125 (by decide +kernel) ?_
      refine r_icmp_le (pc := 127) (tgt := 142) X d_X9_advance_127 (by decide +kernel) ?_ ?_
      · exact t_X9_advance_142 X hr
      · exact t_X9_advance_130 X hr
  · refine r_aload_n (pc := 74) X d_X9_advance_74 fn0 ?_
    refine r_iload_n (pc := 75) X d_X9_advance_75 fn1 ?_
    refine s_putI (pc := 76) (ci := 9) X xok9 (by decide +kernel) ob_1 (by decide +kernel) (by decide +kernel) (by decide +kernel) fl_RX9_38 d_X9_advance_76 ?_
    refine r_aload_n (pc := 79) X d_X9_advance_79 fn0 ?_
    refine r_aload_n (pc := 80) X d_X9_advance_80 fn0 ?_
    refine s_getI (pc := 81) (ci := 9) X xok9 (by decide +kernel) ob_1 (by decide +kernel) fl_RX9_15 d_X9_advance_81 ?_
    refine r_aload_n (pc := 84) X d_X9_advance_84 fn0 ?_
    refine s_getI (pc := 85) (ci := 9) X xok9 (by decide +kernel) ob_1 (by decide +kernel) fl_RX9_19 d_X9_advance_85 ?_
    refine r_icmp_le (pc := 88) (tgt := 95) X d_X9_advance_88 (by decide +kernel) ?_ ?_
    · refine r_iconst (pc := 95) X d_X9_advance_95 (by decide +kernel) ?_
      exact t_X9_advance_96 X hr
    · refine r_iconst (pc := 91) X d_X9_advance_91 (by decide +kernel) ?_
      refine r_goto (pc := 92) (tgt := 96) X d_X9_advance_92 (by decide +kernel) ?_
      exact t_X9_advance_96 X hr
def k_X9_advance_48 (P : xP) (C12 : xK) : xK := x_aload 0 (x_dup (y_getI 1 3 (x_push (.int 1) (x_iadd (y_putI 1 3 (C12))))))
set_option maxRecDepth 20000 in
theorem t_X9_advance_48 {p : Program} {l : Launch} {e : Env} {s : State} {m : MethodId} {args : Array Value} {below : List Frame} {meth : Method} {c : Code} {g : xG} (X : xX p s m args c meth cX9_advance RX9 4 g) (hr : meth.sig.returnType = none) {P : xP} {C12 : xK} (h12 : xAt p l e { frames := 1, cells := 0, slots := 0, locals := 26 } s m args below meth c g 4 xFT xN 0 0 (MQ below (xQc g xFT xN P) args s 0 0 (xFr g)) C12 12) : xAt p l e { frames := 1, cells := 0, slots := 0, locals := 26 } s m args below meth c g 4 xFT xN 0 0 (MQ below (xQc g xFT xN P) args s 0 0 (xFr g)) (k_X9_advance_48 P C12) 48 := by
  unfold k_X9_advance_48
  refine r_aload_n (pc := 48) X d_X9_advance_48 fn0 ?_
  refine r_dup (pc := 49) X d_X9_advance_49 ?_
  refine s_getI (pc := 50) (ci := 9) X xok9 (by decide +kernel) ob_1 (by decide +kernel) fl_RX9_22 d_X9_advance_50 ?_
  refine r_iconst (pc := 53) X d_X9_advance_53 (by decide +kernel) ?_
  refine r_iadd (pc := 54) X d_X9_advance_54 ?_
  refine s_putI (pc := 55) (ci := 9) X xok9 (by decide +kernel) ob_1 (by decide +kernel) (by decide +kernel) (by decide +kernel) fl_RX9_22 d_X9_advance_55 ?_
  refine r_goto (pc := 58) (tgt := 12) X d_X9_advance_58 (by decide +kernel) ?_
  exact h12
def k_X9_advance_12 (P : xP) (C12 : xK) : xK := x_aload 0 (y_getI 1 3 (x_iload 1 (x_icmp_ge ((k_X9_advance_61 P)) (x_aload 0 (y_getF 1 2 (x_aload 0 (y_getI 1 3 (y_iald 2 940 (x_push (.int 32) (x_icmp_eq ((k_X9_advance_48 P C12)) (x_aload 0 (y_getF 1 2 (x_aload 0 (y_getI 1 3 (y_iald 2 940 (x_push (.int 10) (x_icmp_ne ((k_X9_advance_61 P)) ((k_X9_advance_48 P C12)))))))))))))))))))
set_option maxRecDepth 20000 in
theorem t_X9_advance_12 {p : Program} {l : Launch} {e : Env} {s : State} {m : MethodId} {args : Array Value} {below : List Frame} {meth : Method} {c : Code} {g : xG} (X : xX p s m args c meth cX9_advance RX9 4 g) (hr : meth.sig.returnType = none) {P : xP} {C12 : xK} (h12 : xAt p l e { frames := 1, cells := 0, slots := 0, locals := 26 } s m args below meth c g 4 xFT xN 0 0 (MQ below (xQc g xFT xN P) args s 0 0 (xFr g)) C12 12) : xAt p l e { frames := 1, cells := 0, slots := 0, locals := 26 } s m args below meth c g 4 xFT xN 0 0 (MQ below (xQc g xFT xN P) args s 0 0 (xFr g)) (k_X9_advance_12 P C12) 12 := by
  unfold k_X9_advance_12
  refine r_aload_n (pc := 12) X d_X9_advance_12 fn0 ?_
  refine s_getI (pc := 13) (ci := 9) X xok9 (by decide +kernel) ob_1 (by decide +kernel) fl_RX9_22 d_X9_advance_13 ?_
  refine r_iload_n (pc := 16) X d_X9_advance_16 fn1 ?_
  refine r_icmp_ge (pc := 17) (tgt := 61) X d_X9_advance_17 (by decide +kernel) ?_ ?_
  · exact t_X9_advance_61 X hr
  · refine r_aload_n (pc := 20) X d_X9_advance_20 fn0 ?_
    refine s_getF (pc := 21) (ci := 9) (k := 0) X xok9 (by decide +kernel) ob_1 trivial ly_1_0 (by decide +kernel) fl_RX9_9 d_X9_advance_21 ?_
    refine r_aload_n (pc := 24) X d_X9_advance_24 fn0 ?_
    refine s_getI (pc := 25) (ci := 9) X xok9 (by decide +kernel) ob_1 (by decide +kernel) fl_RX9_22 d_X9_advance_25 ?_
    refine s_iald (pc := 28) X tn_2 ln_2 d_X9_advance_28 ?_
    refine r_bipush (pc := 29) X d_X9_advance_29 (by decide +kernel) ?_
    refine r_icmp_eq (pc := 31) (tgt := 48) X d_X9_advance_31 (by decide +kernel) ?_ ?_
    · exact t_X9_advance_48 X hr h12
    · refine r_aload_n (pc := 34) X d_X9_advance_34 fn0 ?_
      refine s_getF (pc := 35) (ci := 9) (k := 0) X xok9 (by decide +kernel) ob_1 trivial ly_1_0 (by decide +kernel) fl_RX9_9 d_X9_advance_35 ?_
      refine r_aload_n (pc := 38) X d_X9_advance_38 fn0 ?_
      refine s_getI (pc := 39) (ci := 9) X xok9 (by decide +kernel) ob_1 (by decide +kernel) fl_RX9_22 d_X9_advance_39 ?_
      refine s_iald (pc := 42) X tn_2 ln_2 d_X9_advance_42 ?_
      refine r_bipush (pc := 43) X d_X9_advance_43 (by decide +kernel) ?_
      refine r_icmp_ne (pc := 45) (tgt := 61) X d_X9_advance_45 (by decide +kernel) ?_ ?_
      · exact t_X9_advance_61 X hr
      · exact t_X9_advance_48 X hr h12
set_option maxRecDepth 20000 in
theorem m_X9_advance {l : Launch} {f : Nat → xH → xP → Prop}  {I12 : Nat → xH → xP → xM → xK}
    (v0 : ∀ (a0 : Nat) (A : xH) (P : xP), f a0 A P → k_X9_advance_0 P (xE (I12 a0 A P)) [some (.ref a0), none, none, none] [] A)
    (v12 : ∀ (a0 : Nat) (A : xH) (P : xP), f a0 A P → ∀ (μ : xM) (L : xL) (st : List Value) (B : xH), I12 a0 A P μ L st B → k_X9_advance_12 P (xB (I12 a0 A P) μ) L st B) : xCon l yX9_advance cX9_advance 4 none 1 26 xN xN 0 xFT xFT (w_R f) := by
  refine xc_R (plainFor_of_name pn_RX9) (by decide +kernel) (fun p e s m args below meth c g a0 A P h X hr _ => ?_)
  have h12 := x_loop1 (p := p) (l := l) (e := e) (R := { frames := 1, cells := 0, slots := 0, locals := 26 }) (s := s) (m := m) (args := args) (below := below) (meth := meth) (c := c) (g := g) (nL := 4) (F := xFT) (n := xN) (cells := 0) (slots := 0) (Q := MQ below (xQc g xFT xN P) args s 0 0 (xFr g)) (I := I12 a0 A P) (pc1 := 12) (fun μ i12 => xAt_mono (t_X9_advance_12 (P := P) X hr i12) (v12 a0 A P h μ))
  exact ⟨_, v0 a0 A P h, t_X9_advance_0 X hr h12⟩
theorem d_X9_isMark_0 : decode cX9_isMark 0 = .ok (.aload_n 0, 1) := by decide +kernel
theorem d_X9_isMark_1 : decode cX9_isMark 1 = .ok (.getfield 41, 3) := by decide +kernel
theorem d_X9_isMark_4 : decode cX9_isMark 4 = .ok (.iconst 3, 1) := by decide +kernel
theorem d_X9_isMark_5 : decode cX9_isMark 5 = .ok (.if_icmp .ne 17, 3) := by decide +kernel
theorem d_X9_isMark_8 : decode cX9_isMark 8 = .ok (.aload_n 0, 1) := by decide +kernel
theorem d_X9_isMark_9 : decode cX9_isMark 9 = .ok (.getfield 34, 3) := by decide +kernel
theorem d_X9_isMark_12 : decode cX9_isMark 12 = .ok (.iload_n 1, 1) := by decide +kernel
theorem d_X9_isMark_13 : decode cX9_isMark 13 = .ok (.i2l, 1) := by decide +kernel
theorem d_X9_isMark_14 : decode cX9_isMark 14 = .ok (.lcmp, 1) := by decide +kernel
theorem d_X9_isMark_15 : decode cX9_isMark 15 = .ok (.ifCond .ne 7, 3) := by decide +kernel
theorem d_X9_isMark_18 : decode cX9_isMark 18 = .ok (.iconst 1, 1) := by decide +kernel
theorem d_X9_isMark_19 : decode cX9_isMark 19 = .ok (.goto 4, 3) := by decide +kernel
theorem d_X9_isMark_22 : decode cX9_isMark 22 = .ok (.iconst 0, 1) := by decide +kernel
theorem d_X9_isMark_23 : decode cX9_isMark 23 = .ok (.ireturn, 1) := by decide +kernel
def k_X9_isMark_23 (P : xP) : xK := x_zret P
set_option maxRecDepth 20000 in
theorem t_X9_isMark_23 {p : Program} {l : Launch} {e : Env} {s : State} {m : MethodId} {args : Array Value} {below : List Frame} {meth : Method} {c : Code} {g : xG} (X : xX p s m args c meth cX9_isMark RX9 2 g) (hr : meth.sig.returnType = (some .boolean)) {P : xP} : xAt p l e { frames := 0, cells := 0, slots := 0, locals := 0 } s m args below meth c g 2 xFT xN 0 0 (MQ below (xQc g xFT xN P) args s 0 0 (xFr g)) (k_X9_isMark_23 P) 23 := by
  unfold k_X9_isMark_23
  exact r_zret (pc := 23) X hr d_X9_isMark_23
def k_X9_isMark_22 (P : xP) : xK := x_push (.int 0) ((k_X9_isMark_23 P))
set_option maxRecDepth 20000 in
theorem t_X9_isMark_22 {p : Program} {l : Launch} {e : Env} {s : State} {m : MethodId} {args : Array Value} {below : List Frame} {meth : Method} {c : Code} {g : xG} (X : xX p s m args c meth cX9_isMark RX9 2 g) (hr : meth.sig.returnType = (some .boolean)) {P : xP} : xAt p l e { frames := 0, cells := 0, slots := 0, locals := 0 } s m args below meth c g 2 xFT xN 0 0 (MQ below (xQc g xFT xN P) args s 0 0 (xFr g)) (k_X9_isMark_22 P) 22 := by
  unfold k_X9_isMark_22
  refine r_iconst (pc := 22) X d_X9_isMark_22 (by decide +kernel) ?_
  exact t_X9_isMark_23 X hr
def k_X9_isMark_0 (P : xP) : xK := x_aload 0 (y_getI 1 4 (x_push (.int 3) (x_icmp_ne ((k_X9_isMark_22 P)) (x_aload 0 (y_getJ 1 6 (x_iload 1 (x_i2l (x_lcmp (x_if_ne ((k_X9_isMark_22 P)) (x_push (.int 1) ((k_X9_isMark_23 P))))))))))))
set_option maxRecDepth 20000 in
theorem t_X9_isMark_0 {p : Program} {l : Launch} {e : Env} {s : State} {m : MethodId} {args : Array Value} {below : List Frame} {meth : Method} {c : Code} {g : xG} (X : xX p s m args c meth cX9_isMark RX9 2 g) (hr : meth.sig.returnType = (some .boolean)) {P : xP} : xAt p l e { frames := 0, cells := 0, slots := 0, locals := 0 } s m args below meth c g 2 xFT xN 0 0 (MQ below (xQc g xFT xN P) args s 0 0 (xFr g)) (k_X9_isMark_0 P) 0 := by
  unfold k_X9_isMark_0
  refine r_aload_n (pc := 0) X d_X9_isMark_0 fn0 ?_
  refine s_getI (pc := 1) (ci := 9) X xok9 (by decide +kernel) ob_1 (by decide +kernel) fl_RX9_41 d_X9_isMark_1 ?_
  refine r_iconst (pc := 4) X d_X9_isMark_4 (by decide +kernel) ?_
  refine r_icmp_ne (pc := 5) (tgt := 22) X d_X9_isMark_5 (by decide +kernel) ?_ ?_
  · exact t_X9_isMark_22 X hr
  · refine r_aload_n (pc := 8) X d_X9_isMark_8 fn0 ?_
    refine s_getJ (pc := 9) (ci := 9) X xok9 (by decide +kernel) ob_1 (by decide +kernel) fl_RX9_34 d_X9_isMark_9 ?_
    refine r_iload_n (pc := 12) X d_X9_isMark_12 fn1 ?_
    refine r_i2l (pc := 13) X d_X9_isMark_13 ?_
    refine r_lcmp (pc := 14) X d_X9_isMark_14 ?_
    refine r_if_ne (pc := 15) (tgt := 22) X d_X9_isMark_15 (by decide +kernel) ?_ ?_
    · exact t_X9_isMark_22 X hr
    · refine r_iconst (pc := 18) X d_X9_isMark_18 (by decide +kernel) ?_
      refine r_goto (pc := 19) (tgt := 23) X d_X9_isMark_19 (by decide +kernel) ?_
      exact t_X9_isMark_23 X hr
def f_X9_isMark (a0 : Nat) (a1 : Int32) (A : xH) (P : xP) : Prop := k_X9_isMark_0 P [some (.ref a0), some (.int a1)] [] A
set_option maxRecDepth 20000 in
theorem con_X9_isMark (l : Launch) : xCon l yX9_isMark cX9_isMark 2 (some .boolean) 0 0 xN xN 0 xFT xFT (w_RI f_X9_isMark) :=
  xc_RI (plainFor_of_name pn_RX9) (by decide +kernel) (fun p e s m args below meth c g a0 a1 A P h X hr _ => ⟨_, h, t_X9_isMark_0 X hr⟩)
theorem d_X9_isWord_0 : decode cX9_isWord 0 = .ok (.aload_n 0, 1) := by decide +kernel
theorem d_X9_isWord_1 : decode cX9_isWord 1 = .ok (.getfield 41, 3) := by decide +kernel
theorem d_X9_isWord_4 : decode cX9_isWord 4 = .ok (.iconst 1, 1) := by decide +kernel
theorem d_X9_isWord_5 : decode cX9_isWord 5 = .ok (.if_icmp .ne 16, 3) := by decide +kernel
theorem d_X9_isWord_8 : decode cX9_isWord 8 = .ok (.aload_n 0, 1) := by decide +kernel
theorem d_X9_isWord_9 : decode cX9_isWord 9 = .ok (.getfield 34, 3) := by decide +kernel
theorem d_X9_isWord_12 : decode cX9_isWord 12 = .ok (.lload_n 1, 1) := by decide +kernel
theorem d_X9_isWord_13 : decode cX9_isWord 13 = .ok (.lcmp, 1) := by decide +kernel
theorem d_X9_isWord_14 : decode cX9_isWord 14 = .ok (.ifCond .ne 7, 3) := by decide +kernel
theorem d_X9_isWord_17 : decode cX9_isWord 17 = .ok (.iconst 1, 1) := by decide +kernel
theorem d_X9_isWord_18 : decode cX9_isWord 18 = .ok (.goto 4, 3) := by decide +kernel
theorem d_X9_isWord_21 : decode cX9_isWord 21 = .ok (.iconst 0, 1) := by decide +kernel
theorem d_X9_isWord_22 : decode cX9_isWord 22 = .ok (.ireturn, 1) := by decide +kernel
def k_X9_isWord_22 (P : xP) : xK := x_zret P
set_option maxRecDepth 20000 in
theorem t_X9_isWord_22 {p : Program} {l : Launch} {e : Env} {s : State} {m : MethodId} {args : Array Value} {below : List Frame} {meth : Method} {c : Code} {g : xG} (X : xX p s m args c meth cX9_isWord RX9 3 g) (hr : meth.sig.returnType = (some .boolean)) {P : xP} : xAt p l e { frames := 0, cells := 0, slots := 0, locals := 0 } s m args below meth c g 3 xFT xN 0 0 (MQ below (xQc g xFT xN P) args s 0 0 (xFr g)) (k_X9_isWord_22 P) 22 := by
  unfold k_X9_isWord_22
  exact r_zret (pc := 22) X hr d_X9_isWord_22
def k_X9_isWord_21 (P : xP) : xK := x_push (.int 0) ((k_X9_isWord_22 P))
set_option maxRecDepth 20000 in
theorem t_X9_isWord_21 {p : Program} {l : Launch} {e : Env} {s : State} {m : MethodId} {args : Array Value} {below : List Frame} {meth : Method} {c : Code} {g : xG} (X : xX p s m args c meth cX9_isWord RX9 3 g) (hr : meth.sig.returnType = (some .boolean)) {P : xP} : xAt p l e { frames := 0, cells := 0, slots := 0, locals := 0 } s m args below meth c g 3 xFT xN 0 0 (MQ below (xQc g xFT xN P) args s 0 0 (xFr g)) (k_X9_isWord_21 P) 21 := by
  unfold k_X9_isWord_21
  refine r_iconst (pc := 21) X d_X9_isWord_21 (by decide +kernel) ?_
  exact t_X9_isWord_22 X hr
def k_X9_isWord_0 (P : xP) : xK := x_aload 0 (y_getI 1 4 (x_push (.int 1) (x_icmp_ne ((k_X9_isWord_21 P)) (x_aload 0 (y_getJ 1 6 (x_lload 1 (x_lcmp (x_if_ne ((k_X9_isWord_21 P)) (x_push (.int 1) ((k_X9_isWord_22 P)))))))))))
set_option maxRecDepth 20000 in
theorem t_X9_isWord_0 {p : Program} {l : Launch} {e : Env} {s : State} {m : MethodId} {args : Array Value} {below : List Frame} {meth : Method} {c : Code} {g : xG} (X : xX p s m args c meth cX9_isWord RX9 3 g) (hr : meth.sig.returnType = (some .boolean)) {P : xP} : xAt p l e { frames := 0, cells := 0, slots := 0, locals := 0 } s m args below meth c g 3 xFT xN 0 0 (MQ below (xQc g xFT xN P) args s 0 0 (xFr g)) (k_X9_isWord_0 P) 0 := by
  unfold k_X9_isWord_0
  refine r_aload_n (pc := 0) X d_X9_isWord_0 fn0 ?_
  refine s_getI (pc := 1) (ci := 9) X xok9 (by decide +kernel) ob_1 (by decide +kernel) fl_RX9_41 d_X9_isWord_1 ?_
  refine r_iconst (pc := 4) X d_X9_isWord_4 (by decide +kernel) ?_
  refine r_icmp_ne (pc := 5) (tgt := 21) X d_X9_isWord_5 (by decide +kernel) ?_ ?_
  · exact t_X9_isWord_21 X hr
  · refine r_aload_n (pc := 8) X d_X9_isWord_8 fn0 ?_
    refine s_getJ (pc := 9) (ci := 9) X xok9 (by decide +kernel) ob_1 (by decide +kernel) fl_RX9_34 d_X9_isWord_9 ?_
    refine r_lload_n (pc := 12) X d_X9_isWord_12 fn1 ?_
    refine r_lcmp (pc := 13) X d_X9_isWord_13 ?_
    refine r_if_ne (pc := 14) (tgt := 21) X d_X9_isWord_14 (by decide +kernel) ?_ ?_
    · exact t_X9_isWord_21 X hr
    · refine r_iconst (pc := 17) X d_X9_isWord_17 (by decide +kernel) ?_
      refine r_goto (pc := 18) (tgt := 22) X d_X9_isWord_18 (by decide +kernel) ?_
      exact t_X9_isWord_22 X hr
def f_X9_isWord (a0 : Nat) (a1 : Int64) (A : xH) (P : xP) : Prop := k_X9_isWord_0 P [some (.ref a0), some (.long a1), none] [] A
set_option maxRecDepth 20000 in
theorem con_X9_isWord (l : Launch) : xCon l yX9_isWord cX9_isWord 3 (some .boolean) 0 0 xN xN 0 xFT xFT (w_RJ f_X9_isWord) :=
  xc_RJ (plainFor_of_name pn_RX9) (by decide +kernel) (fun p e s m args below meth c g a0 a1 A P h X hr _ => ⟨_, h, t_X9_isWord_0 X hr⟩)
def aS (A B : xH) : Prop := xoff A B 1 1 ∧ ∀ k, k ≠ 3 → k ≠ 4 → k ≠ 5 → xi B 1 k = xi A 1 k
theorem aS_rf {A : xH} : aS A A := ⟨xoff_rf, fun _ _ _ _ => rfl⟩
theorem aS_tr {A B C : xH} (h : aS A B) (h2 : aS B C) : aS A C := ⟨xoff_tr h.1 h2.1, fun k a b c => (h2.2 k a b c).trans (h.2 k a b c)⟩
theorem aS_tS {A B : xH} (h : tS A B) : aS A B := ⟨h.1, fun k a b _ => h.2 k a b⟩
theorem aS_si {A B : xH} {k : Nat} {x : Int32} (h : aS A B) (hk : k = 3 ∨ k = 4 ∨ k = 5) : aS A (xsi B 1 k x) :=
  ⟨xoff_si h.1 (by omega) (by omega), fun j h3 h4 h5 => by rw [si_ne (by omega)]; exact h.2 j h3 h4 h5⟩
theorem aS_sl {A B : xH} {k : Nat} {x : Int64} (h : aS A B) : aS A (xsl B 1 k x) := ⟨xoff_sl h.1 (by omega) (by omega), h.2⟩
theorem isT_aS {A B : xH} {f : Nat → Nat} {n : Nat} (h : isT A f n) (h2 : aS A B) : isT B f n := by
  refine ⟨(h2.2 1 (by omega) (by omega) (by omega)).trans h.1, h.2.1, fun j hj => ?_⟩
  rw [xoff_i h2.1 (by omega)]
  exact h.2.2 j hj
/-- the class's token -/
def tkT (B : xH) (t : Nat × Nat × Nat × Nat) : Prop := xi B 1 4 = nI t.1 ∧ xi B 1 5 = nI t.2.1 ∧ xi B 1 3 = nI t.2.2.1 ∧ (t.1 ≠ 4 → xl B 1 6 = lN t.2.2.2)
def f_X9_advance (q : Nat) (A : xH) (P : xP) : Prop := q = 1 ∧ ∃ f n lim p, isT A f n ∧ xi A 1 2 = nI lim ∧ lim < 2 ^ 31 ∧ p ≤ n ∧ xi A 1 3 = nI p ∧ ∀ B, aS A B → tkT B (tk f n lim p) → P none B
theorem adv_187 {A : xH} {P : xP} {c k : Nat} {m : Bool} {o1 o3 : Option Value} (hc : c < 256) (h3 : xi A 1 3 = nI k)
    (hP : ∀ B, aS A B → xi B 1 4 = nI (if m then 3 else 4) → xi B 1 5 = xi A 1 5 → xi B 1 3 = nI (k + 1) → xl B 1 6 = lN c → P none B) :
    k_X9_advance_187 P [some (.ref 1), o1, some (.int (nI c)), o3] [.int (bI m)] A := by
  have hQ : P none (xsi (xsl (xsi A 1 4 (nI (if m then 3 else 4))) 1 6 (lN c)) 1 3 (nI (k + 1))) := by
    refine hP _ (aS_si (aS_sl (aS_si aS_rf (by omega))) (by omega)) ?_ ?_ ?_ ?_
    · rw [si_ne (by omega), xi_sl, si_eq]
    · rw [si_ne (by omega), xi_sl, si_ne (by omega)]
    · rw [si_eq]
    · rw [xl_si, xl_sl, if_pos ⟨rfl, rfl⟩]
  simp only [k_X9_advance_187, k_X9_advance_198, f_X9_readRun, w_II, w_RI, x_aload, x_cs2, x_cv1, x_dup, x_i2l, x_iadd, x_icmp_eq, x_icmp_ge, x_icmp_gt, x_icmp_le, x_icmp_lt, x_icmp_ne, x_if_eq, x_iload, x_istore, x_push, x_putI, x_vret, y_getF, y_getI, y_iald, y_putI, y_putJ, xFT, xbool0, xbool1, Nat.reduceAdd, Nat.zero_add, xgl_0, xgl_s, xgl_n, xst_0, xst_1n, xst_1i, xst_1r, xst_1l, xst_s, set_0, set_s, true_and, and_true, xres, xcat_nil, xcat_i, xcat_r, xcat_l, Nat.add_zero, xble0, xble1, xble2, xble3, xble4, xble5, xble6, xble7, xble8, h3, ob_1, xi_sl, xi_si, show ¬ (3 : Nat) = 4 by omega, and_false, if_false, nI_l (n := c) (by omega), nI_1, bI_t]
  cases m
  · exact ⟨fun _ => hQ, fun q => absurd rfl q⟩
  · exact ⟨fun q => absurd q (by decide), fun _ => hQ⟩
theorem adv_158 {A : xH} {P : xP} {c k : Nat} {o1 o3 : Option Value} (hc : c < 256) (h3 : xi A 1 3 = nI k)
    (hP : ∀ B, aS A B → xi B 1 4 = nI (if mk c then 3 else 4) → xi B 1 5 = xi A 1 5 → xi B 1 3 = nI (k + 1) → xl B 1 6 = lN c → P none B) :
    k_X9_advance_158 P [some (.ref 1), o1, some (.int (nI c)), o3] [] A := by
  have h : ∀ m, m = mk c → k_X9_advance_187 P [some (.ref 1), o1, some (.int (nI c)), o3] [.int (bI m)] A := fun m hm => adv_187 hc h3 (hm ▸ hP)
  simp only [k_X9_advance_158, k_X9_advance_170, k_X9_advance_182, f_X9_readRun, w_II, w_RI, x_aload, x_cs2, x_cv1, x_dup, x_i2l, x_iadd, x_icmp_eq, x_icmp_ge, x_icmp_gt, x_icmp_le, x_icmp_lt, x_icmp_ne, x_if_eq, x_iload, x_istore, x_push, x_putI, x_vret, y_getF, y_getI, y_iald, y_putI, y_putJ, xFT, xbool0, xbool1, Nat.reduceAdd, Nat.zero_add, xgl_0, xgl_s, xgl_n, xst_0, xst_1n, xst_1i, xst_1r, xst_1l, xst_s, set_0, set_s, true_and, and_true, xres, xcat_nil, xcat_i, xcat_r, xcat_l, Nat.add_zero, xble0, xble1, xble2, xble3, xble4, xble5, xble6, xble7, xble8, c_lt 59 (c := c) (by omega) (by decide), c_le 62 (c := c) (by omega) (by decide), c_eq 40 (c := c) (by omega) (by decide), c_eq 41 (c := c) (by omega) (by decide), ← bI_1, ← bI_0, ne_eq]
  unfold mk at h
  have ht := h true
  have hf := h false
  simp only [Bool.true_eq, Bool.false_eq, Bool.or_eq_true, Bool.and_eq_true, Bool.or_eq_false_iff, Bool.and_eq_false_iff, decide_eq_true_eq, decide_eq_false_iff_not] at ht hf
  refine ⟨fun a => ⟨fun b => ht (by omega), fun b => ⟨fun d => hf (by omega), fun d => ht (by omega)⟩⟩, fun a => ⟨fun b => ht (by omega), fun b => ⟨fun d => ht (by omega), fun d => ⟨fun e => hf (by omega), fun e => ht (by omega)⟩⟩⟩⟩
theorem min_idem {a b : Nat} : min (min a b) b = min a b := by omega
theorem adv_61 {A B : xH} {P : xP} {f : Nat → Nat} {n lim p k : Nat} {o2 o3 : Option Value} (hP : ∀ B, aS A B → tkT B (tk f n lim p) → P none B) (hT : isT B f n) (h2 : xi B 1 2 = nI lim) (hl : lim < 2 ^ 31) (hpk : p ≤ k) (hkn : k ≤ n) (h3 : xi B 1 3 = nI k) (hS : aS A B) (hk : skp (fun i => bl (f i)) (min n lim) p = k) :
    k_X9_advance_61 P [some (.ref 1), some (.int (nI (min n lim))), o2, o3] [] B := by
  have h9 := hT.2.1
  have hmn : min n lim ≤ n := Nat.min_le_left _ _
  unfold tk at hP
  simp only [hk] at hP
  by_cases hb : min n lim ≤ k
  · rw [if_pos hb] at hP
    have hQ : ∀ x : Nat, x = (if lim < n then 4 else 0) → P none (xsi (xsi (xsl B 1 6 0) 1 5 (nI (min n lim))) 1 4 (nI x)) := fun x hx => by
      refine hP _ (aS_tr hS (aS_si (aS_si (aS_sl aS_rf) (by omega)) (by omega))) ⟨?_, ?_, ?_, fun _ => ?_⟩
      · rw [si_eq, hx]
      · rw [si_ne (by omega), si_eq]
      · rw [si_ne (by omega), si_ne (by omega)]; exact h3
      · rw [xl_si, xl_si, xl_sl, if_pos ⟨rfl, rfl⟩]; rfl
    simp only [k_X9_advance_61, k_X9_advance_96, f_X9_readRun, w_II, w_RI, x_aload, x_cs2, x_cv1, x_dup, x_i2l, x_iadd, x_icmp_eq, x_icmp_ge, x_icmp_gt, x_icmp_le, x_icmp_lt, x_icmp_ne, x_if_eq, x_iload, x_istore, x_push, x_putI, x_vret, y_getF, y_getI, y_iald, y_putI, y_putJ, xFT, xbool0, xbool1, Nat.reduceAdd, Nat.zero_add, xgl_0, xgl_s, xgl_n, xst_0, xst_1n, xst_1i, xst_1r, xst_1l, xst_s, set_0, set_s, true_and, and_true, xres, xcat_nil, xcat_i, xcat_r, xcat_l, Nat.add_zero, xble0, xble1, xble2, xble3, xble4, xble5, xble6, xble7, xble8, xi_sl, h3, hT.1, h2, nI_ltI (a := k) (b := min n lim) (by omega) (by omega), Nat.not_lt.mpr hb, not_false_eq_true, true_implies, false_implies, xi_si, show ¬ (1 : Nat) = 5 by omega, show ¬ (2 : Nat) = 5 by omega, and_false, if_false, nI_leI (a := n) (b := lim) (by omega) hl, ob_1]
    exact ⟨fun q => hQ 0 (by rw [if_neg (by omega)]), fun q => hQ 4 (by rw [if_pos (by omega)])⟩
  · rw [if_neg hb] at hP
    have hkn : k < n := by omega
    obtain ⟨e1, e2⟩ := hT.2.2 k hkn
    have hD : aS B (xsi (xsl B 1 6 0) 1 5 (nI k)) := aS_si (aS_sl aS_rf) (by omega)
    have hTD := isT_aS hT hD
    have hrun : (sm (f k) || dg (f k)) = true → ∀ o4, k_X9_advance_154 P [some (.ref 1), some (.int (nI (min n lim))), some (.int (nI (f k))), o4] [.int (bI (sm (f k))), .ref 1] (xsi (xsl B 1 6 0) 1 5 (nI k)) := fun hr o4 => by
      rw [if_pos hr] at hP
      simp only [k_X9_advance_154, f_X9_readRun, w_II, w_RI, x_aload, x_cs2, x_cv1, x_dup, x_i2l, x_iadd, x_icmp_eq, x_icmp_ge, x_icmp_gt, x_icmp_le, x_icmp_lt, x_icmp_ne, x_if_eq, x_iload, x_istore, x_push, x_putI, x_vret, y_getF, y_getI, y_iald, y_putI, y_putJ, xFT, xbool0, xbool1, Nat.reduceAdd, Nat.zero_add, xgl_0, xgl_s, xgl_n, xst_0, xst_1n, xst_1i, xst_1r, xst_1l, xst_s, set_0, set_s, true_and, and_true, xres, xcat_nil, xcat_i, xcat_r, xcat_l, Nat.add_zero, xble0, xble1, xble2, xble3, xble4, xble5, xble6, xble7, xble8, f_X9_readRun, ob_1]
      refine ⟨f, n, k, hTD, hkn, rfl, ?_, ?_, fun E i hE hi hj hn ha hb2 hc => ?_⟩
      · rw [si_ne (by omega), xi_sl]; exact h3
      · rw [xl_si, xl_sl, if_pos ⟨rfl, rfl⟩]
      · have he : skp (fun i => sm (f i) || dg (f i)) n k = k + i := skp_eq (Nat.le_add_right _ _) (fun j a b => ⟨by omega, by have := hj (j - k) (by omega); rwa [show k + (j - k) = j by omega] at this⟩) hn
        simp only [he, Nat.add_sub_cancel_left] at hP
        refine hP E (aS_tr hS (aS_tr hD (aS_tS hE))) ⟨hb2, ?_, ha, hc⟩
        rw [hE.2 5 (by omega) (by omega), si_eq]
    have hmark : ¬ (sm (f k) || dg (f k)) = true → ∀ o4, k_X9_advance_158 P [some (.ref 1), some (.int (nI (min n lim))), some (.int (nI (f k))), o4] [] (xsi (xsl B 1 6 0) 1 5 (nI k)) := fun hr o4 => by
      rw [if_neg hr] at hP
      refine adv_158 e2 (k := k) (by rw [si_ne (by omega), xi_sl]; exact h3) fun E hE a b c d => hP E (aS_tr hS (aS_tr hD hE)) ⟨a, ?_, c, fun _ => d⟩
      rw [b, si_eq]
    simp only [k_X9_advance_61, k_X9_advance_130, k_X9_advance_142, f_X9_readRun, w_II, w_RI, x_aload, x_cs2, x_cv1, x_dup, x_i2l, x_iadd, x_icmp_eq, x_icmp_ge, x_icmp_gt, x_icmp_le, x_icmp_lt, x_icmp_ne, x_if_eq, x_iload, x_istore, x_push, x_putI, x_vret, y_getF, y_getI, y_iald, y_putI, y_putJ, xFT, xbool0, xbool1, Nat.reduceAdd, Nat.zero_add, xgl_0, xgl_s, xgl_n, xst_0, xst_1n, xst_1i, xst_1r, xst_1l, xst_s, set_0, set_s, true_and, and_true, xres, xcat_nil, xcat_i, xcat_r, xcat_l, Nat.add_zero, xble0, xble1, xble2, xble3, xble4, xble5, xble6, xble7, xble8, xi_sl, h3, nI_ltI (a := k) (b := min n lim) (by omega) (by omega), Nat.not_le.mp hb, not_true_eq_false, true_implies, false_implies, xi_si, show ¬ (3 : Nat) = 5 by omega, show ¬ (2 : Nat) = 1 by omega, false_and, and_false, if_false, n_cl (n := k) (by omega), e1, (n_in (j := k) (n := 940) (by omega) (by omega)).mpr (by omega), c_lt 97 (c := f k) (by omega) (by decide), c_lt 48 (c := f k) (by omega) (by decide), c_le 122 (c := f k) (by omega) (by decide), c_gt 57 (c := f k) (by omega) (by decide), ← bI_1, ← bI_0]
    have hsm : sm (f k) = true ↔ 97 ≤ f k ∧ f k ≤ 122 := by simp [sm]
    have hdg : dg (f k) = true ↔ 48 ≤ f k ∧ f k ≤ 57 := by simp [dg]
    rw [Bool.or_eq_true, hsm, hdg] at hrun hmark
    cases hs : sm (f k)
    · have := Bool.eq_false_iff.mp hs
      rw [ne_eq, hsm] at this
      rw [hs] at hrun
      refine ⟨fun a => ⟨fun b => hmark (by omega) _, fun b => ⟨fun c => hmark (by omega) _, fun c => ⟨fun d => hrun (by omega) _, fun d => by omega⟩⟩⟩, fun a => ⟨fun b => by omega, fun b => ⟨fun c => by omega, fun c => ⟨fun d => hmark (by omega) _, fun d => by omega⟩⟩⟩⟩
    · have := hsm.mp hs
      rw [hs] at hrun
      refine ⟨fun a => by omega, fun a => ⟨fun b => ⟨fun c => by omega, fun c => hrun (by omega) _⟩, fun b => by omega⟩⟩
def aI (A : xH) (P : xP) : xM → xK := fun μ L st B => ∃ f n lim p k o2 o3, (∀ B, aS A B → tkT B (tk f n lim p) → P none B) ∧ isT B f n ∧ xi B 1 2 = nI lim ∧ lim < 2 ^ 31 ∧ p ≤ k ∧ k ≤ n ∧ xi B 1 3 = nI k ∧ aS A B ∧ (∀ j, p ≤ j → j < k → j < min n lim ∧ bl (f j) = true) ∧ st = [] ∧ L = [some (.ref 1), some (.int (nI (min n lim))), o2, o3] ∧ μ = (n - k, 0, 0)
theorem con_X9_advance (l : Launch) : xCon l yX9_advance cX9_advance 4 none 1 26 xN xN 0 xFT xFT (w_R f_X9_advance) := by
  refine m_X9_advance (I12 := fun q A P => aI A P) ?_ ?_
  · rintro q A P ⟨rfl, f, n, lim, p, hT, h2, hl, hp, h3, hP⟩
    have h9 := hT.2.1
    have hm : (if nI n ≤ nI lim then nI n else nI lim) = nI (min n lim) := by
      rcases Nat.le_total n lim with q | q
      · rw [if_pos (nI_le q hl), Nat.min_eq_left q]
      · rw [Nat.min_eq_right q]
        by_cases e : n = lim
        · subst e; exact if_pos (nI_le q hl)
        · rw [if_neg (nI_ge (by omega) (by omega))]
    simp only [k_X9_advance_0, k_X9_advance_12, k_X9_advance_48, k_X9_advance_61, k_X9_advance_96, k_X9_advance_130, k_X9_advance_142, k_X9_advance_154, k_X9_advance_158, k_X9_advance_170, k_X9_advance_182, k_X9_advance_187, k_X9_advance_198, f_X9_readRun, w_II, w_RI, x_aload, x_cs2, x_cv1, x_dup, x_i2l, x_iadd, x_icmp_eq, x_icmp_ge, x_icmp_gt, x_icmp_le, x_icmp_lt, x_icmp_ne, x_if_eq, x_iload, x_istore, x_push, x_putI, x_vret, y_getF, y_getI, y_iald, y_putI, y_putJ, xFT, xbool0, xbool1, Nat.reduceAdd, Nat.zero_add, xgl_0, xgl_s, xgl_n, xst_0, xst_1n, xst_1i, xst_1r, xst_1l, xst_s, set_0, set_s, true_and, and_true, xres, xcat_nil, xcat_i, xcat_r, xcat_l, Nat.add_zero, xble0, xble1, xble2, xble3, xble4, xble5, xble6, xble7, xble8, f_min, hT.1, h2, hm]
    exact xE0 (n - p, 0, 0) ⟨f, n, lim, p, p, none, none, hP, hT, h2, hl, Nat.le_refl _, hp, h3, aS_rf, fun j a b => absurd b (by omega), rfl, rfl, rfl⟩
  · rintro q A P - μ L st B ⟨f, n, lim, p, k, o2, o3, hP, hT, h2, hl, hpk, hkn, h3, hS, hj, rfl, rfl, rfl⟩
    have h9 := hT.2.1
    have hmn : min n lim ≤ n := Nat.min_le_left _ _
    have hend : ¬ (k < min n lim ∧ bl (f k) = true) → ∀ o2 o3, k_X9_advance_61 P [some (.ref 1), some (.int (nI (min n lim))), o2, o3] [] B := fun q o2 o3 =>
      adv_61 hP hT h2 hl hpk hkn h3 hS (skp_eq hpk hj q)
    have hbt : bl (f k) = true ↔ f k = 32 ∨ f k = 10 := by simp [bl]
    by_cases hb : k < min n lim
    · obtain ⟨e1, e2⟩ := hT.2.2 k (by omega)
      have hst : f k = 32 ∨ f k = 10 → ∀ o2 o3, xB (aI A P) (n - k, 0, 0) [some (.ref 1), some (.int (nI (min n lim))), o2, o3] [] (xsi B 1 3 (nI (k + 1))) := fun q o2 o3 => by
        refine xB1 (b := n - (k + 1)) (by omega) ⟨f, n, lim, p, k + 1, o2, o3, hP, isT_si hT (by omega), ?_, hl, by omega, by omega, si_eq, aS_tr hS (aS_si aS_rf (by omega)), fun j a b => ?_, rfl, rfl, rfl⟩
        · rw [si_ne (by omega)]; exact h2
        · by_cases e : j < k
          · exact hj j a e
          · rw [show j = k by omega]; exact ⟨hb, hbt.mpr q⟩
      simp only [k_X9_advance_12, k_X9_advance_48, f_X9_readRun, w_II, w_RI, x_aload, x_cs2, x_cv1, x_dup, x_i2l, x_iadd, x_icmp_eq, x_icmp_ge, x_icmp_gt, x_icmp_le, x_icmp_lt, x_icmp_ne, x_if_eq, x_iload, x_istore, x_push, x_putI, x_vret, y_getF, y_getI, y_iald, y_putI, y_putJ, xFT, xbool0, xbool1, Nat.reduceAdd, Nat.zero_add, xgl_0, xgl_s, xgl_n, xst_0, xst_1n, xst_1i, xst_1r, xst_1l, xst_s, set_0, set_s, true_and, and_true, xres, xcat_nil, xcat_i, xcat_r, xcat_l, Nat.add_zero, xble0, xble1, xble2, xble3, xble4, xble5, xble6, xble7, xble8, h3, nI_leI (a := min n lim) (b := k) (by omega) (by omega), Nat.not_le.mpr hb, n_cl (n := k) (by omega), e1, c_eq 32 (c := f k) (by omega) (by decide), c_eq 10 (c := f k) (by omega) (by decide), nI_1, (n_in (j := k) (n := 940) (by omega) (by omega)).mpr (by omega), true_implies, not_true_eq_false, not_false_eq_true, false_implies, ne_eq]
      refine ⟨fun q => hst (Or.inl q) _ _, fun q => ⟨fun q2 => hend (by rw [hbt]; omega) _ _, fun q2 => hst (Or.inr (by omega)) _ _⟩⟩
    · simp only [k_X9_advance_12, k_X9_advance_48, f_X9_readRun, w_II, w_RI, x_aload, x_cs2, x_cv1, x_dup, x_i2l, x_iadd, x_icmp_eq, x_icmp_ge, x_icmp_gt, x_icmp_le, x_icmp_lt, x_icmp_ne, x_if_eq, x_iload, x_istore, x_push, x_putI, x_vret, y_getF, y_getI, y_iald, y_putI, y_putJ, xFT, xbool0, xbool1, Nat.reduceAdd, Nat.zero_add, xgl_0, xgl_s, xgl_n, xst_0, xst_1n, xst_1i, xst_1r, xst_1l, xst_s, set_0, set_s, true_and, and_true, xres, xcat_nil, xcat_i, xcat_r, xcat_l, Nat.add_zero, xble0, xble1, xble2, xble3, xble4, xble5, xble6, xble7, xble8, h3, nI_leI (a := min n lim) (b := k) (by omega) (by omega), Nat.not_lt.mp hb, true_implies, not_true_eq_false, not_false_eq_true, false_implies]
      exact hend (fun h => hb h.1) _ _

