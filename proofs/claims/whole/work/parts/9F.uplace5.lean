/-! ===== the reference's steps of a place ===== -/
theorem d_X12_laysSteps_0 : decode cX12_laysSteps 0 = .ok (.aload_n 0, 1) := by decide +kernel
theorem d_X12_laysSteps_1 : decode cX12_laysSteps 1 = .ok (.getfield 80, 3) := by decide +kernel
theorem d_X12_laysSteps_4 : decode cX12_laysSteps 4 = .ok (.iload_n 1, 1) := by decide +kernel
theorem d_X12_laysSteps_5 : decode cX12_laysSteps 5 = .ok (.aload_n 0, 1) := by decide +kernel
theorem d_X12_laysSteps_6 : decode cX12_laysSteps 6 = .ok (.getfield 402, 3) := by decide +kernel
theorem d_X12_laysSteps_9 : decode cX12_laysSteps 9 = .ok (.iastore, 1) := by decide +kernel
theorem d_X12_laysSteps_10 : decode cX12_laysSteps 10 = .ok (.iconst 0, 1) := by decide +kernel
theorem d_X12_laysSteps_11 : decode cX12_laysSteps 11 = .ok (.istore_n 2, 1) := by decide +kernel
theorem d_X12_laysSteps_12 : decode cX12_laysSteps 12 = .ok (.iload_n 2, 1) := by decide +kernel
theorem d_X12_laysSteps_13 : decode cX12_laysSteps 13 = .ok (.sipush 3360, 3) := by decide +kernel
theorem d_X12_laysSteps_16 : decode cX12_laysSteps 16 = .ok (.if_icmp .ge 16, 3) := by decide +kernel
theorem d_X12_laysSteps_19 : decode cX12_laysSteps 19 = .ok (.aload_n 0, 1) := by decide +kernel
theorem d_X12_laysSteps_20 : decode cX12_laysSteps 20 = .ok (.getfield 87, 3) := by decide +kernel
theorem d_X12_laysSteps_23 : decode cX12_laysSteps 23 = .ok (.iload_n 2, 1) := by decide +kernel
theorem d_X12_laysSteps_24 : decode cX12_laysSteps 24 = .ok (.iconst 0, 1) := by decide +kernel
theorem d_X12_laysSteps_25 : decode cX12_laysSteps 25 = .ok (.bastore, 1) := by decide +kernel
theorem d_X12_laysSteps_26 : decode cX12_laysSteps 26 = .ok (.iinc 2 1, 3) := by decide +kernel
theorem d_X12_laysSteps_29 : decode cX12_laysSteps 29 = .ok (.goto (-17), 3) := by decide +kernel
theorem d_X12_laysSteps_32 : decode cX12_laysSteps 32 = .ok (.iconst 0, 1) := by decide +kernel
theorem d_X12_laysSteps_33 : decode cX12_laysSteps 33 = .ok (.istore_n 2, 1) := by decide +kernel
theorem d_X12_laysSteps_34 : decode cX12_laysSteps 34 = .ok (.iload_n 2, 1) := by decide +kernel
theorem d_X12_laysSteps_35 : decode cX12_laysSteps 35 = .ok (.aload_n 0, 1) := by decide +kernel
theorem d_X12_laysSteps_36 : decode cX12_laysSteps 36 = .ok (.getfield 328, 3) := by decide +kernel
theorem d_X12_laysSteps_39 : decode cX12_laysSteps 39 = .ok (.if_icmp .ge 106, 3) := by decide +kernel
theorem d_X12_laysSteps_42 : decode cX12_laysSteps 42 = .ok (.aload_n 0, 1) := by decide +kernel
theorem d_X12_laysSteps_43 : decode cX12_laysSteps 43 = .ok (.getfield 30, 3) := by decide +kernel
theorem d_X12_laysSteps_46 : decode cX12_laysSteps 46 = .ok (.bipush 54, 2) := by decide +kernel
theorem d_X12_laysSteps_48 : decode cX12_laysSteps 48 = .ok (.iload_n 2, 1) := by decide +kernel
theorem d_X12_laysSteps_49 : decode cX12_laysSteps 49 = .ok (.iadd, 1) := by decide +kernel
theorem d_X12_laysSteps_50 : decode cX12_laysSteps 50 = .ok (.iaload, 1) := by decide +kernel
theorem d_X12_laysSteps_51 : decode cX12_laysSteps 51 = .ok (.aload_n 0, 1) := by decide +kernel
theorem d_X12_laysSteps_52 : decode cX12_laysSteps 52 = .ok (.getfield 71, 3) := by decide +kernel
theorem d_X12_laysSteps_55 : decode cX12_laysSteps 55 = .ok (.iload_n 1, 1) := by decide +kernel
theorem d_X12_laysSteps_56 : decode cX12_laysSteps 56 = .ok (.iaload, 1) := by decide +kernel
theorem d_X12_laysSteps_57 : decode cX12_laysSteps 57 = .ok (.if_icmp .ne 82, 3) := by decide +kernel
theorem d_X12_laysSteps_60 : decode cX12_laysSteps 60 = .ok (.iload_n 2, 1) := by decide +kernel
theorem d_X12_laysSteps_61 : decode cX12_laysSteps 61 = .ok (.iconst 1, 1) := by decide +kernel
theorem d_X12_laysSteps_62 : decode cX12_laysSteps 62 = .ok (.if_icmp .ne 6, 3) := by decide +kernel
theorem d_X12_laysSteps_65 : decode cX12_laysSteps 65 = .ok (.goto 74, 3) := by decide +kernel
theorem d_X12_laysSteps_68 : decode cX12_laysSteps 68 = .ok (.iload_n 2, 1) := by decide +kernel
theorem d_X12_laysSteps_69 : decode cX12_laysSteps 69 = .ok (.ifCond .eq 12, 3) := by decide +kernel
theorem d_X12_laysSteps_72 : decode cX12_laysSteps 72 = .ok (.aload_n 0, 1) := by decide +kernel
theorem d_X12_laysSteps_73 : decode cX12_laysSteps 73 = .ok (.getfield 30, 3) := by decide +kernel
theorem d_X12_laysSteps_76 : decode cX12_laysSteps 76 = .ok (.iconst 3, 1) := by decide +kernel
theorem d_X12_laysSteps_77 : decode cX12_laysSteps 77 = .ok (.iaload, 1) := by decide +kernel
theorem d_X12_laysSteps_78 : decode cX12_laysSteps 78 = .ok (.ifCond .ne 12, 3) := by decide +kernel
theorem d_X12_laysSteps_81 : decode cX12_laysSteps 81 = .ok (.aload_n 0, 1) := by decide +kernel
theorem d_X12_laysSteps_82 : decode cX12_laysSteps 82 = .ok (.iload_n 2, 1) := by decide +kernel
theorem d_X12_laysSteps_83 : decode cX12_laysSteps 83 = .ok (.iconst (-1), 1) := by decide +kernel
theorem d_X12_laysSteps_84 : decode cX12_laysSteps 84 = .ok (.invokevirtual 408, 3) := by decide +kernel
theorem d_X12_laysSteps_87 : decode cX12_laysSteps 87 = .ok (.goto 52, 3) := by decide +kernel
theorem d_X12_laysSteps_90 : decode cX12_laysSteps 90 = .ok (.iconst 0, 1) := by decide +kernel
theorem d_X12_laysSteps_91 : decode cX12_laysSteps 91 = .ok (.istore_n 3, 1) := by decide +kernel
theorem d_X12_laysSteps_92 : decode cX12_laysSteps 92 = .ok (.iload_n 3, 1) := by decide +kernel
theorem d_X12_laysSteps_93 : decode cX12_laysSteps 93 = .ok (.aload_n 0, 1) := by decide +kernel
theorem d_X12_laysSteps_94 : decode cX12_laysSteps 94 = .ok (.getfield 328, 3) := by decide +kernel
theorem d_X12_laysSteps_97 : decode cX12_laysSteps 97 = .ok (.if_icmp .ge 42, 3) := by decide +kernel
theorem d_X12_laysSteps_100 : decode cX12_laysSteps 100 = .ok (.aload_n 0, 1) := by decide +kernel
theorem d_X12_laysSteps_101 : decode cX12_laysSteps 101 = .ok (.getfield 30, 3) := by decide +kernel
theorem d_X12_laysSteps_104 : decode cX12_laysSteps 104 = .ok (.bipush 54, 2) := by decide +kernel
theorem d_X12_laysSteps_106 : decode cX12_laysSteps 106 = .ok (.iload_n 3, 1) := by decide +kernel
theorem d_X12_laysSteps_107 : decode cX12_laysSteps 107 = .ok (.iadd, 1) := by decide +kernel
theorem d_X12_laysSteps_108 : decode cX12_laysSteps 108 = .ok (.iaload, 1) := by decide +kernel
theorem d_X12_laysSteps_109 : decode cX12_laysSteps 109 = .ok (.aload_n 0, 1) := by decide +kernel
theorem d_X12_laysSteps_110 : decode cX12_laysSteps 110 = .ok (.getfield 74, 3) := by decide +kernel
theorem d_X12_laysSteps_113 : decode cX12_laysSteps 113 = .ok (.iload_n 1, 1) := by decide +kernel
theorem d_X12_laysSteps_114 : decode cX12_laysSteps 114 = .ok (.iaload, 1) := by decide +kernel
theorem d_X12_laysSteps_115 : decode cX12_laysSteps 115 = .ok (.if_icmp .ne 18, 3) := by decide +kernel
theorem d_X12_laysSteps_118 : decode cX12_laysSteps 118 = .ok (.aload_n 0, 1) := by decide +kernel
theorem d_X12_laysSteps_119 : decode cX12_laysSteps 119 = .ok (.iload_n 2, 1) := by decide +kernel
theorem d_X12_laysSteps_120 : decode cX12_laysSteps 120 = .ok (.iload_n 3, 1) := by decide +kernel
theorem d_X12_laysSteps_121 : decode cX12_laysSteps 121 = .ok (.invokevirtual 390, 3) := by decide +kernel
theorem d_X12_laysSteps_124 : decode cX12_laysSteps 124 = .ok (.ifCond .eq 9, 3) := by decide +kernel
theorem d_X12_laysSteps_127 : decode cX12_laysSteps 127 = .ok (.aload_n 0, 1) := by decide +kernel
theorem d_X12_laysSteps_128 : decode cX12_laysSteps 128 = .ok (.iload_n 2, 1) := by decide +kernel
theorem d_X12_laysSteps_129 : decode cX12_laysSteps 129 = .ok (.iload_n 3, 1) := by decide +kernel
theorem d_X12_laysSteps_130 : decode cX12_laysSteps 130 = .ok (.invokevirtual 408, 3) := by decide +kernel
theorem d_X12_laysSteps_133 : decode cX12_laysSteps 133 = .ok (.iinc 3 1, 3) := by decide +kernel
theorem d_X12_laysSteps_136 : decode cX12_laysSteps 136 = .ok (.goto (-44), 3) := by decide +kernel
theorem d_X12_laysSteps_139 : decode cX12_laysSteps 139 = .ok (.iinc 2 1, 3) := by decide +kernel
theorem d_X12_laysSteps_142 : decode cX12_laysSteps 142 = .ok (.goto (-108), 3) := by decide +kernel
theorem d_X12_laysSteps_145 : decode cX12_laysSteps 145 = .ok (.iconst 0, 1) := by decide +kernel
theorem d_X12_laysSteps_146 : decode cX12_laysSteps 146 = .ok (.istore_n 2, 1) := by decide +kernel
theorem d_X12_laysSteps_147 : decode cX12_laysSteps 147 = .ok (.iload_n 2, 1) := by decide +kernel
theorem d_X12_laysSteps_148 : decode cX12_laysSteps 148 = .ok (.bipush 42, 2) := by decide +kernel
theorem d_X12_laysSteps_150 : decode cX12_laysSteps 150 = .ok (.if_icmp .ge 68, 3) := by decide +kernel
theorem d_X12_laysSteps_153 : decode cX12_laysSteps 153 = .ok (.iconst 0, 1) := by decide +kernel
theorem d_X12_laysSteps_154 : decode cX12_laysSteps 154 = .ok (.istore_n 3, 1) := by decide +kernel
theorem d_X12_laysSteps_155 : decode cX12_laysSteps 155 = .ok (.iload_n 3, 1) := by decide +kernel
theorem d_X12_laysSteps_156 : decode cX12_laysSteps 156 = .ok (.aload_n 0, 1) := by decide +kernel
theorem d_X12_laysSteps_157 : decode cX12_laysSteps 157 = .ok (.getfield 393, 3) := by decide +kernel
theorem d_X12_laysSteps_160 : decode cX12_laysSteps 160 = .ok (.if_icmp .ge 52, 3) := by decide +kernel
theorem d_X12_laysSteps_163 : decode cX12_laysSteps 163 = .ok (.aload_n 0, 1) := by decide +kernel
theorem d_X12_laysSteps_164 : decode cX12_laysSteps 164 = .ok (.getfield 87, 3) := by decide +kernel
theorem d_X12_laysSteps_167 : decode cX12_laysSteps 167 = .ok (.bipush 80, 2) := by decide +kernel
theorem d_X12_laysSteps_169 : decode cX12_laysSteps 169 = .ok (.iload_n 2, 1) := by decide +kernel
theorem d_X12_laysSteps_170 : decode cX12_laysSteps 170 = .ok (.imul, 1) := by decide +kernel
theorem d_X12_laysSteps_171 : decode cX12_laysSteps 171 = .ok (.iload_n 3, 1) := by decide +kernel
theorem d_X12_laysSteps_172 : decode cX12_laysSteps 172 = .ok (.iadd, 1) := by decide +kernel
theorem d_X12_laysSteps_173 : decode cX12_laysSteps 173 = .ok (.baload, 1) := by decide +kernel
theorem d_X12_laysSteps_174 : decode cX12_laysSteps 174 = .ok (.ifCond .ne 6, 3) := by decide +kernel
theorem d_X12_laysSteps_177 : decode cX12_laysSteps 177 = .ok (.goto 29, 3) := by decide +kernel
theorem d_X12_laysSteps_180 : decode cX12_laysSteps 180 = .ok (.aload_n 0, 1) := by decide +kernel
theorem d_X12_laysSteps_181 : decode cX12_laysSteps 181 = .ok (.getfield 84, 3) := by decide +kernel
theorem d_X12_laysSteps_184 : decode cX12_laysSteps 184 = .ok (.aload_n 0, 1) := by decide +kernel
theorem d_X12_laysSteps_185 : decode cX12_laysSteps 185 = .ok (.getfield 402, 3) := by decide +kernel
theorem d_X12_laysSteps_188 : decode cX12_laysSteps 188 = .ok (.sipush 128, 3) := by decide +kernel
theorem d_X12_laysSteps_191 : decode cX12_laysSteps 191 = .ok (.iload_n 2, 1) := by decide +kernel
theorem d_X12_laysSteps_192 : decode cX12_laysSteps 192 = .ok (.imul, 1) := by decide +kernel
theorem d_X12_laysSteps_193 : decode cX12_laysSteps 193 = .ok (.iload_n 3, 1) := by decide +kernel
theorem d_X12_laysSteps_194 : decode cX12_laysSteps 194 = .ok (.iadd, 1) := by decide +kernel
theorem d_X12_laysSteps_195 : decode cX12_laysSteps 195 = .ok (.iastore, 1) := by decide +kernel
theorem d_X12_laysSteps_196 : decode cX12_laysSteps 196 = .ok (.aload_n 0, 1) := by decide +kernel
theorem d_X12_laysSteps_197 : decode cX12_laysSteps 197 = .ok (.dup, 1) := by decide +kernel
theorem d_X12_laysSteps_198 : decode cX12_laysSteps 198 = .ok (.getfield 402, 3) := by decide +kernel
theorem d_X12_laysSteps_201 : decode cX12_laysSteps 201 = .ok (.iconst 1, 1) := by decide +kernel
theorem d_X12_laysSteps_202 : decode cX12_laysSteps 202 = .ok (.iadd, 1) := by decide +kernel
theorem d_X12_laysSteps_203 : decode cX12_laysSteps 203 = .ok (.putfield 402, 3) := by decide +kernel
theorem d_X12_laysSteps_206 : decode cX12_laysSteps 206 = .ok (.iinc 3 1, 3) := by decide +kernel
theorem d_X12_laysSteps_209 : decode cX12_laysSteps 209 = .ok (.goto (-54), 3) := by decide +kernel
theorem d_X12_laysSteps_212 : decode cX12_laysSteps 212 = .ok (.iinc 2 1, 3) := by decide +kernel
theorem d_X12_laysSteps_215 : decode cX12_laysSteps 215 = .ok (.goto (-68), 3) := by decide +kernel
theorem d_X12_laysSteps_218 : decode cX12_laysSteps 218 = .ok (.return_, 1) := by decide +kernel
def k_X12_laysSteps_0 (P : xP) (C12 : xK) : xK := x_aload 0 (y_getF 180 198 (x_iload 1 (x_aload 0 (y_getI 180 41 (y_iast 198 81 (x_push (.int 0) (x_istore 2 (C12))))))))
set_option maxRecDepth 20000 in
theorem t_X12_laysSteps_0 {p : Program} {l : Launch} {e : Env} {s : State} {m : MethodId} {args : Array Value} {below : List Frame} {meth : Method} {c : Code} {g : xG} (X : xX p s m args c meth cX12_laysSteps RX12 4 g) (hr : meth.sig.returnType = none) {P : xP} {C12 : xK} (h12 : xAt p l e { frames := 4, cells := 0, slots := 0, locals := 92 } s m args below meth c g 4 xFT xN 0 0 (MQ below (xQc g xFT xN P) args s 0 0 (xFr g)) C12 12) : xAt p l e { frames := 4, cells := 0, slots := 0, locals := 92 } s m args below meth c g 4 xFT xN 0 0 (MQ below (xQc g xFT xN P) args s 0 0 (xFr g)) (k_X12_laysSteps_0 P C12) 0 := by
  unfold k_X12_laysSteps_0
  refine r_aload_n (pc := 0) X d_X12_laysSteps_0 fn0 ?_
  refine s_getF (pc := 1) (ci := 12) (k := 37) X xok12 (by decide +kernel) ob_180 trivial ly_180_37 (by decide +kernel) fl_RX12_80 d_X12_laysSteps_1 ?_
  refine r_iload_n (pc := 4) X d_X12_laysSteps_4 fn1 ?_
  refine r_aload_n (pc := 5) X d_X12_laysSteps_5 fn0 ?_
  refine s_getI (pc := 6) (ci := 12) X xok12 (by decide +kernel) ob_180 (by decide +kernel) fl_RX12_402 d_X12_laysSteps_6 ?_
  refine s_iast (pc := 9) X tn_198 ln_198 d_X12_laysSteps_9 ?_
  refine r_iconst (pc := 10) X d_X12_laysSteps_10 (by decide +kernel) ?_
  refine r_istore_n (pc := 11) X d_X12_laysSteps_11 fn2 (by decide +kernel) ?_
  exact h12
def k_X12_laysSteps_12 (P : xP) (C12 : xK) (C34 : xK) : xK := x_iload 2 (x_push (.int 3360) (x_icmp_ge (x_push (.int 0) (x_istore 2 (C34))) (x_aload 0 (y_getF 180 200 (x_iload 2 (x_push (.int 0) (y_bast 200 4 3360 (x_iinc 2 1 (C12)))))))))
set_option maxRecDepth 20000 in
theorem t_X12_laysSteps_12 {p : Program} {l : Launch} {e : Env} {s : State} {m : MethodId} {args : Array Value} {below : List Frame} {meth : Method} {c : Code} {g : xG} (X : xX p s m args c meth cX12_laysSteps RX12 4 g) (hr : meth.sig.returnType = none) {P : xP} {C12 : xK} {C34 : xK} (h12 : xAt p l e { frames := 4, cells := 0, slots := 0, locals := 92 } s m args below meth c g 4 xFT xN 0 0 (MQ below (xQc g xFT xN P) args s 0 0 (xFr g)) C12 12) (h34 : xAt p l e { frames := 4, cells := 0, slots := 0, locals := 92 } s m args below meth c g 4 xFT xN 0 0 (MQ below (xQc g xFT xN P) args s 0 0 (xFr g)) C34 34) : xAt p l e { frames := 4, cells := 0, slots := 0, locals := 92 } s m args below meth c g 4 xFT xN 0 0 (MQ below (xQc g xFT xN P) args s 0 0 (xFr g)) (k_X12_laysSteps_12 P C12 C34) 12 := by
  unfold k_X12_laysSteps_12
  refine r_iload_n (pc := 12) X d_X12_laysSteps_12 fn2 ?_
  refine r_sipush (pc := 13) X d_X12_laysSteps_13 (by decide +kernel) ?_
  refine r_icmp_ge (pc := 16) (tgt := 32) X d_X12_laysSteps_16 (by decide +kernel) ?_ ?_
  · refine r_iconst (pc := 32) X d_X12_laysSteps_32 (by decide +kernel) ?_
    refine r_istore_n (pc := 33) X d_X12_laysSteps_33 fn2 (by decide +kernel) ?_
    exact h34
  · refine r_aload_n (pc := 19) X d_X12_laysSteps_19 fn0 ?_
    refine s_getF (pc := 20) (ci := 12) (k := 39) X xok12 (by decide +kernel) ob_180 trivial ly_180_39 (by decide +kernel) fl_RX12_87 d_X12_laysSteps_20 ?_
    refine r_iload_n (pc := 23) X d_X12_laysSteps_23 fn2 ?_
    refine r_iconst (pc := 24) X d_X12_laysSteps_24 (by decide +kernel) ?_
    refine s_zast (pc := 25) X tn_200 ln_200 d_X12_laysSteps_25 ?_
    refine r_iinc (pc := 26) X d_X12_laysSteps_26 (by decide +kernel) (by decide +kernel) ?_
    refine r_goto (pc := 29) (tgt := 12) X d_X12_laysSteps_29 (by decide +kernel) ?_
    exact h12
def k_X12_laysSteps_139 (P : xP) (C34 : xK) : xK := x_iinc 2 1 (C34)
set_option maxRecDepth 20000 in
theorem t_X12_laysSteps_139 {p : Program} {l : Launch} {e : Env} {s : State} {m : MethodId} {args : Array Value} {below : List Frame} {meth : Method} {c : Code} {g : xG} (X : xX p s m args c meth cX12_laysSteps RX12 4 g) (hr : meth.sig.returnType = none) {P : xP} {C34 : xK} (h34 : xAt p l e { frames := 4, cells := 0, slots := 0, locals := 92 } s m args below meth c g 4 xFT xN 0 0 (MQ below (xQc g xFT xN P) args s 0 0 (xFr g)) C34 34) : xAt p l e { frames := 4, cells := 0, slots := 0, locals := 92 } s m args below meth c g 4 xFT xN 0 0 (MQ below (xQc g xFT xN P) args s 0 0 (xFr g)) (k_X12_laysSteps_139 P C34) 139 := by
  unfold k_X12_laysSteps_139
  refine r_iinc (pc := 139) X d_X12_laysSteps_139 (by decide +kernel) (by decide +kernel) ?_
  refine r_goto (pc := 142) (tgt := 34) X d_X12_laysSteps_142 (by decide +kernel) ?_
  exact h34
def k_X12_laysSteps_81 (P : xP) (C34 : xK) : xK := x_aload 0 (x_iload 2 (x_push (.int (-1)) (y_cv2 180 (w_RII f_X12_stepsOf) ((k_X12_laysSteps_139 P C34)))))
set_option maxRecDepth 20000 in
theorem t_X12_laysSteps_81 {p : Program} {l : Launch} {e : Env} {s : State} {m : MethodId} {args : Array Value} {below : List Frame} {meth : Method} {c : Code} {g : xG} (X : xX p s m args c meth cX12_laysSteps RX12 4 g) (hr : meth.sig.returnType = none) {P : xP} {C34 : xK} (h34 : xAt p l e { frames := 4, cells := 0, slots := 0, locals := 92 } s m args below meth c g 4 xFT xN 0 0 (MQ below (xQc g xFT xN P) args s 0 0 (xFr g)) C34 34) : xAt p l e { frames := 4, cells := 0, slots := 0, locals := 92 } s m args below meth c g 4 xFT xN 0 0 (MQ below (xQc g xFT xN P) args s 0 0 (xFr g)) (k_X12_laysSteps_81 P C34) 81 := by
  unfold k_X12_laysSteps_81
  refine r_aload_n (pc := 81) X d_X12_laysSteps_81 fn0 ?_
  refine r_iload_n (pc := 82) X d_X12_laysSteps_82 fn2 ?_
  refine r_iconst (pc := 83) X d_X12_laysSteps_83 (by decide +kernel) ?_
  refine s_cv2 (pc := 84) (ci := 12) X xok12 (by decide +kernel) ob_180 rfl (con_X12_stepsOf l) mf_X12_stepsOf ml_RX12_408 (by decide +kernel) (by decide +kernel) d_X12_laysSteps_84 ?_
  refine r_goto (pc := 87) (tgt := 139) X d_X12_laysSteps_87 (by decide +kernel) ?_
  exact t_X12_laysSteps_139 X hr h34
def k_X12_laysSteps_34 (P : xP) (C34 : xK) (C92 : xK) (C147 : xK) : xK := x_iload 2 (x_aload 0 (y_getI 180 24 (x_icmp_ge (x_push (.int 0) (x_istore 2 (C147))) (x_aload 0 (y_getF 180 182 (x_push (.int 54) (x_iload 2 (x_iadd (y_iald 182 232 (x_aload 0 (y_getF 180 195 (x_iload 1 (y_iald 195 80 (x_icmp_ne ((k_X12_laysSteps_139 P C34)) (x_iload 2 (x_push (.int 1) (x_icmp_ne (x_iload 2 (x_if_eq ((k_X12_laysSteps_81 P C34)) (x_aload 0 (y_getF 180 182 (x_push (.int 3) (y_iald 182 232 (x_if_ne (x_push (.int 0) (x_istore 3 (C92))) ((k_X12_laysSteps_81 P C34))))))))) ((k_X12_laysSteps_139 P C34)))))))))))))))))))
set_option maxRecDepth 20000 in
theorem t_X12_laysSteps_34 {p : Program} {l : Launch} {e : Env} {s : State} {m : MethodId} {args : Array Value} {below : List Frame} {meth : Method} {c : Code} {g : xG} (X : xX p s m args c meth cX12_laysSteps RX12 4 g) (hr : meth.sig.returnType = none) {P : xP} {C34 : xK} {C92 : xK} {C147 : xK} (h34 : xAt p l e { frames := 4, cells := 0, slots := 0, locals := 92 } s m args below meth c g 4 xFT xN 0 0 (MQ below (xQc g xFT xN P) args s 0 0 (xFr g)) C34 34) (h92 : xAt p l e { frames := 4, cells := 0, slots := 0, locals := 92 } s m args below meth c g 4 xFT xN 0 0 (MQ below (xQc g xFT xN P) args s 0 0 (xFr g)) C92 92) (h147 : xAt p l e { frames := 4, cells := 0, slots := 0, locals := 92 } s m args below meth c g 4 xFT xN 0 0 (MQ below (xQc g xFT xN P) args s 0 0 (xFr g)) C147 147) : xAt p l e { frames := 4, cells := 0, slots := 0, locals := 92 } s m args below meth c g 4 xFT xN 0 0 (MQ below (xQc g xFT xN P) args s 0 0 (xFr g)) (k_X12_laysSteps_34 P C34 C92 C147) 34 := by
  unfold k_X12_laysSteps_34
  refine r_iload_n (pc := 34) X d_X12_laysSteps_34 fn2 ?_
  refine r_aload_n (pc := 35) X d_X12_laysSteps_35 fn0 ?_
  refine s_getI (pc := 36) (ci := 12) X xok12 (by decide +kernel) ob_180 (by decide +kernel) fl_RX12_328 d_X12_laysSteps_36 ?_
  refine r_icmp_ge (pc := 39) (tgt := 145) X d_X12_laysSteps_39 (by decide +kernel) ?_ ?_
  · refine r_iconst (pc := 145) X d_X12_laysSteps_145 (by decide +kernel) ?_
    refine r_istore_n (pc := 146) X d_X12_laysSteps_146 fn2 (by decide +kernel) ?_
    exact h147
  · refine r_aload_n (pc := 42) X d_X12_laysSteps_42 fn0 ?_
    refine s_getF (pc := 43) (ci := 12) (k := 5) X xok12 (by decide +kernel) ob_180 trivial ly_180_5 (by decide +kernel) fl_RX12_30 d_X12_laysSteps_43 ?_
    refine r_bipush (pc := 46) X d_X12_laysSteps_46 (by decide +kernel) ?_
    refine r_iload_n (pc := 48) X d_X12_laysSteps_48 fn2 ?_
    refine r_iadd (pc := 49) X d_X12_laysSteps_49 ?_
    refine s_iald (pc := 50) X tn_182 ln_182 d_X12_laysSteps_50 ?_
    refine r_aload_n (pc := 51) X d_X12_laysSteps_51 fn0 ?_
    refine s_getF (pc := 52) (ci := 12) (k := 34) X xok12 (by decide +kernel) ob_180 trivial ly_180_34 (by decide +kernel) fl_RX12_71 d_X12_laysSteps_52 ?_
    refine r_iload_n (pc := 55) X d_X12_laysSteps_55 fn1 ?_
    refine s_iald (pc := 56) X tn_195 ln_195 d_X12_laysSteps_56 ?_
    refine r_icmp_ne (pc := 57) (tgt := 139) X d_X12_laysSteps_57 (by decide +kernel) ?_ ?_
    · exact t_X12_laysSteps_139 X hr h34
    · refine r_iload_n (pc := 60) X d_X12_laysSteps_60 fn2 ?_
      refine r_iconst (pc := 61) X d_X12_laysSteps_61 (by decide +kernel) ?_
      refine r_icmp_ne (pc := 62) (tgt := 68) X d_X12_laysSteps_62 (by decide +kernel) ?_ ?_
      · refine r_iload_n (pc := 68) X d_X12_laysSteps_68 fn2 ?_
        refine r_if_eq (pc := 69) (tgt := 81) X d_X12_laysSteps_69 (by decide +kernel) ?_ ?_
        · exact t_X12_laysSteps_81 X hr h34
        · refine r_aload_n (pc := 72) X d_X12_laysSteps_72 fn0 ?_
          refine s_getF (pc := 73) (ci := 12) (k := 5) X xok12 (by decide +kernel) ob_180 trivial ly_180_5 (by decide +kernel) fl_RX12_30 d_X12_laysSteps_73 ?_
          refine r_iconst (pc := 76) X d_X12_laysSteps_76 (by decide +kernel) ?_
          refine s_iald (pc := 77) X tn_182 ln_182 d_X12_laysSteps_77 ?_
          refine r_if_ne (pc := 78) (tgt := 90) X d_X12_laysSteps_78 (by decide +kernel) ?_ ?_
          · refine r_iconst (pc := 90) X d_X12_laysSteps_90 (by decide +kernel) ?_
            refine r_istore_n (pc := 91) X d_X12_laysSteps_91 fn3 (by decide +kernel) ?_
            exact h92
          · exact t_X12_laysSteps_81 X hr h34
      · refine r_goto (pc := 65) (tgt := 139) X d_X12_laysSteps_65 (by decide +kernel) ?_
        exact t_X12_laysSteps_139 X hr h34
def k_X12_laysSteps_133 (P : xP) (C92 : xK) : xK := x_iinc 3 1 (C92)
set_option maxRecDepth 20000 in
theorem t_X12_laysSteps_133 {p : Program} {l : Launch} {e : Env} {s : State} {m : MethodId} {args : Array Value} {below : List Frame} {meth : Method} {c : Code} {g : xG} (X : xX p s m args c meth cX12_laysSteps RX12 4 g) (hr : meth.sig.returnType = none) {P : xP} {C92 : xK} (h92 : xAt p l e { frames := 4, cells := 0, slots := 0, locals := 92 } s m args below meth c g 4 xFT xN 0 0 (MQ below (xQc g xFT xN P) args s 0 0 (xFr g)) C92 92) : xAt p l e { frames := 4, cells := 0, slots := 0, locals := 92 } s m args below meth c g 4 xFT xN 0 0 (MQ below (xQc g xFT xN P) args s 0 0 (xFr g)) (k_X12_laysSteps_133 P C92) 133 := by
  unfold k_X12_laysSteps_133
  refine r_iinc (pc := 133) X d_X12_laysSteps_133 (by decide +kernel) (by decide +kernel) ?_
  refine r_goto (pc := 136) (tgt := 92) X d_X12_laysSteps_136 (by decide +kernel) ?_
  exact h92
def k_X12_laysSteps_92 (P : xP) (C34 : xK) (C92 : xK) : xK := x_iload 3 (x_aload 0 (y_getI 180 24 (x_icmp_ge ((k_X12_laysSteps_139 P C34)) (x_aload 0 (y_getF 180 182 (x_push (.int 54) (x_iload 3 (x_iadd (y_iald 182 232 (x_aload 0 (y_getF 180 196 (x_iload 1 (y_iald 196 80 (x_icmp_ne ((k_X12_laysSteps_133 P C92)) (x_aload 0 (x_iload 2 (x_iload 3 (y_cv2 180 (w_RII f_X12_isFrom) (x_if_eq ((k_X12_laysSteps_133 P C92)) (x_aload 0 (x_iload 2 (x_iload 3 (y_cv2 180 (w_RII f_X12_stepsOf) ((k_X12_laysSteps_133 P C92)))))))))))))))))))))))))
set_option maxRecDepth 20000 in
theorem t_X12_laysSteps_92 {p : Program} {l : Launch} {e : Env} {s : State} {m : MethodId} {args : Array Value} {below : List Frame} {meth : Method} {c : Code} {g : xG} (X : xX p s m args c meth cX12_laysSteps RX12 4 g) (hr : meth.sig.returnType = none) {P : xP} {C34 : xK} {C92 : xK} (h34 : xAt p l e { frames := 4, cells := 0, slots := 0, locals := 92 } s m args below meth c g 4 xFT xN 0 0 (MQ below (xQc g xFT xN P) args s 0 0 (xFr g)) C34 34) (h92 : xAt p l e { frames := 4, cells := 0, slots := 0, locals := 92 } s m args below meth c g 4 xFT xN 0 0 (MQ below (xQc g xFT xN P) args s 0 0 (xFr g)) C92 92) : xAt p l e { frames := 4, cells := 0, slots := 0, locals := 92 } s m args below meth c g 4 xFT xN 0 0 (MQ below (xQc g xFT xN P) args s 0 0 (xFr g)) (k_X12_laysSteps_92 P C34 C92) 92 := by
  unfold k_X12_laysSteps_92
  refine r_iload_n (pc := 92) X d_X12_laysSteps_92 fn3 ?_
  refine r_aload_n (pc := 93) X d_X12_laysSteps_93 fn0 ?_
  refine s_getI (pc := 94) (ci := 12) X xok12 (by decide +kernel) ob_180 (by decide +kernel) fl_RX12_328 d_X12_laysSteps_94 ?_
  refine r_icmp_ge (pc := 97) (tgt := 139) X d_X12_laysSteps_97 (by decide +kernel) ?_ ?_
  · exact t_X12_laysSteps_139 X hr h34
  · refine r_aload_n (pc := 100) X d_X12_laysSteps_100 fn0 ?_
    refine s_getF (pc := 101) (ci := 12) (k := 5) X xok12 (by decide +kernel) ob_180 trivial ly_180_5 (by decide +kernel) fl_RX12_30 d_X12_laysSteps_101 ?_
    refine r_bipush (pc := 104) X d_X12_laysSteps_104 (by decide +kernel) ?_
    refine r_iload_n (pc := 106) X d_X12_laysSteps_106 fn3 ?_
    refine r_iadd (pc := 107) X d_X12_laysSteps_107 ?_
    refine s_iald (pc := 108) X tn_182 ln_182 d_X12_laysSteps_108 ?_
    refine r_aload_n (pc := 109) X d_X12_laysSteps_109 fn0 ?_
    refine s_getF (pc := 110) (ci := 12) (k := 35) X xok12 (by decide +kernel) ob_180 trivial ly_180_35 (by decide +kernel) fl_RX12_74 d_X12_laysSteps_110 ?_
    refine r_iload_n (pc := 113) X d_X12_laysSteps_113 fn1 ?_
    refine s_iald (pc := 114) X tn_196 ln_196 d_X12_laysSteps_114 ?_
    refine r_icmp_ne (pc := 115) (tgt := 133) X d_X12_laysSteps_115 (by decide +kernel) ?_ ?_
    · exact t_X12_laysSteps_133 X hr h92
    · refine r_aload_n (pc := 118) X d_X12_laysSteps_118 fn0 ?_
      refine r_iload_n (pc := 119) X d_X12_laysSteps_119 fn2 ?_
      refine r_iload_n (pc := 120) X d_X12_laysSteps_120 fn3 ?_
      refine s_cv2 (pc := 121) (ci := 12) X xok12 (by decide +kernel) ob_180 rfl (con_X12_isFrom l) mf_X12_isFrom ml_RX12_390 (by decide +kernel) (by decide +kernel) d_X12_laysSteps_121 ?_
      refine r_if_eq (pc := 124) (tgt := 133) X d_X12_laysSteps_124 (by decide +kernel) ?_ ?_
      · exact t_X12_laysSteps_133 X hr h92
      · refine r_aload_n (pc := 127) X d_X12_laysSteps_127 fn0 ?_
        refine r_iload_n (pc := 128) X d_X12_laysSteps_128 fn2 ?_
        refine r_iload_n (pc := 129) X d_X12_laysSteps_129 fn3 ?_
        refine s_cv2 (pc := 130) (ci := 12) X xok12 (by decide +kernel) ob_180 rfl (con_X12_stepsOf l) mf_X12_stepsOf ml_RX12_408 (by decide +kernel) (by decide +kernel) d_X12_laysSteps_130 ?_
        exact t_X12_laysSteps_133 X hr h92
def k_X12_laysSteps_147 (P : xP) (C155 : xK) : xK := x_iload 2 (x_push (.int 42) (x_icmp_ge (x_vret P) (x_push (.int 0) (x_istore 3 (C155)))))
set_option maxRecDepth 20000 in
theorem t_X12_laysSteps_147 {p : Program} {l : Launch} {e : Env} {s : State} {m : MethodId} {args : Array Value} {below : List Frame} {meth : Method} {c : Code} {g : xG} (X : xX p s m args c meth cX12_laysSteps RX12 4 g) (hr : meth.sig.returnType = none) {P : xP} {C155 : xK} (h155 : xAt p l e { frames := 4, cells := 0, slots := 0, locals := 92 } s m args below meth c g 4 xFT xN 0 0 (MQ below (xQc g xFT xN P) args s 0 0 (xFr g)) C155 155) : xAt p l e { frames := 4, cells := 0, slots := 0, locals := 92 } s m args below meth c g 4 xFT xN 0 0 (MQ below (xQc g xFT xN P) args s 0 0 (xFr g)) (k_X12_laysSteps_147 P C155) 147 := by
  unfold k_X12_laysSteps_147
  refine r_iload_n (pc := 147) X d_X12_laysSteps_147 fn2 ?_
  refine r_bipush (pc := 148) X d_X12_laysSteps_148 (by decide +kernel) ?_
  refine r_icmp_ge (pc := 150) (tgt := 218) X d_X12_laysSteps_150 (by decide +kernel) ?_ ?_
  · exact r_vret (pc := 218) X hr d_X12_laysSteps_218
  · refine r_iconst (pc := 153) X d_X12_laysSteps_153 (by decide +kernel) ?_
    refine r_istore_n (pc := 154) X d_X12_laysSteps_154 fn3 (by decide +kernel) ?_
    exact h155
def k_X12_laysSteps_206 (P : xP) (C155 : xK) : xK := x_iinc 3 1 (C155)
set_option maxRecDepth 20000 in
theorem t_X12_laysSteps_206 {p : Program} {l : Launch} {e : Env} {s : State} {m : MethodId} {args : Array Value} {below : List Frame} {meth : Method} {c : Code} {g : xG} (X : xX p s m args c meth cX12_laysSteps RX12 4 g) (hr : meth.sig.returnType = none) {P : xP} {C155 : xK} (h155 : xAt p l e { frames := 4, cells := 0, slots := 0, locals := 92 } s m args below meth c g 4 xFT xN 0 0 (MQ below (xQc g xFT xN P) args s 0 0 (xFr g)) C155 155) : xAt p l e { frames := 4, cells := 0, slots := 0, locals := 92 } s m args below meth c g 4 xFT xN 0 0 (MQ below (xQc g xFT xN P) args s 0 0 (xFr g)) (k_X12_laysSteps_206 P C155) 206 := by
  unfold k_X12_laysSteps_206
  refine r_iinc (pc := 206) X d_X12_laysSteps_206 (by decide +kernel) (by decide +kernel) ?_
  refine r_goto (pc := 209) (tgt := 155) X d_X12_laysSteps_209 (by decide +kernel) ?_
  exact h155
def k_X12_laysSteps_155 (P : xP) (C147 : xK) (C155 : xK) : xK := x_iload 3 (x_aload 0 (y_getI 180 40 (x_icmp_ge (x_iinc 2 1 (C147)) (x_aload 0 (y_getF 180 200 (x_push (.int 80) (x_iload 2 (x_imul (x_iload 3 (x_iadd (y_iald 200 3360 (x_if_ne (x_aload 0 (y_getF 180 199 (x_aload 0 (y_getI 180 41 (x_push (.int 128) (x_iload 2 (x_imul (x_iload 3 (x_iadd (y_iast 199 76800 (x_aload 0 (x_dup (y_getI 180 41 (x_push (.int 1) (x_iadd (y_putI 180 41 ((k_X12_laysSteps_206 P C155)))))))))))))))))) ((k_X12_laysSteps_206 P C155))))))))))))))
set_option maxRecDepth 20000 in
theorem t_X12_laysSteps_155 {p : Program} {l : Launch} {e : Env} {s : State} {m : MethodId} {args : Array Value} {below : List Frame} {meth : Method} {c : Code} {g : xG} (X : xX p s m args c meth cX12_laysSteps RX12 4 g) (hr : meth.sig.returnType = none) {P : xP} {C147 : xK} {C155 : xK} (h147 : xAt p l e { frames := 4, cells := 0, slots := 0, locals := 92 } s m args below meth c g 4 xFT xN 0 0 (MQ below (xQc g xFT xN P) args s 0 0 (xFr g)) C147 147) (h155 : xAt p l e { frames := 4, cells := 0, slots := 0, locals := 92 } s m args below meth c g 4 xFT xN 0 0 (MQ below (xQc g xFT xN P) args s 0 0 (xFr g)) C155 155) : xAt p l e { frames := 4, cells := 0, slots := 0, locals := 92 } s m args below meth c g 4 xFT xN 0 0 (MQ below (xQc g xFT xN P) args s 0 0 (xFr g)) (k_X12_laysSteps_155 P C147 C155) 155 := by
  unfold k_X12_laysSteps_155
  refine r_iload_n (pc := 155) X d_X12_laysSteps_155 fn3 ?_
  refine r_aload_n (pc := 156) X d_X12_laysSteps_156 fn0 ?_
  refine s_getI (pc := 157) (ci := 12) X xok12 (by decide +kernel) ob_180 (by decide +kernel) fl_RX12_393 d_X12_laysSteps_157 ?_
  refine r_icmp_ge (pc := 160) (tgt := 212) X d_X12_laysSteps_160 (by decide +kernel) ?_ ?_
  · refine r_iinc (pc := 212) X d_X12_laysSteps_212 (by decide +kernel) (by decide +kernel) ?_
    refine r_goto (pc := 215) (tgt := 147) X d_X12_laysSteps_215 (by decide +kernel) ?_
    exact h147
  · refine r_aload_n (pc := 163) X d_X12_laysSteps_163 fn0 ?_
    refine s_getF (pc := 164) (ci := 12) (k := 39) X xok12 (by decide +kernel) ob_180 trivial ly_180_39 (by decide +kernel) fl_RX12_87 d_X12_laysSteps_164 ?_
    refine r_bipush (pc := 167) X d_X12_laysSteps_167 (by decide +kernel) ?_
    refine r_iload_n (pc := 169) X d_X12_laysSteps_169 fn2 ?_
    refine r_imul (pc := 170) X d_X12_laysSteps_170 ?_
    refine r_iload_n (pc := 171) X d_X12_laysSteps_171 fn3 ?_
    refine r_iadd (pc := 172) X d_X12_laysSteps_172 ?_
    refine s_zald (pc := 173) X tn_200 ln_200 d_X12_laysSteps_173 ?_
    refine r_if_ne (pc := 174) (tgt := 180) X d_X12_laysSteps_174 (by decide +kernel) ?_ ?_
    · refine r_aload_n (pc := 180) X d_X12_laysSteps_180 fn0 ?_
      refine s_getF (pc := 181) (ci := 12) (k := 38) X xok12 (by decide +kernel) ob_180 trivial ly_180_38 (by decide +kernel) fl_RX12_84 d_X12_laysSteps_181 ?_
      refine r_aload_n (pc := 184) X d_X12_laysSteps_184 fn0 ?_
      refine s_getI (pc := 185) (ci := 12) X xok12 (by decide +kernel) ob_180 (by decide +kernel) fl_RX12_402 d_X12_laysSteps_185 ?_
      refine r_sipush (pc := 188) X d_X12_laysSteps_188 (by decide +kernel) ?_
      refine r_iload_n (pc := 191) X d_X12_laysSteps_191 fn2 ?_
      refine r_imul (pc := 192) X d_X12_laysSteps_192 ?_
      refine r_iload_n (pc := 193) X d_X12_laysSteps_193 fn3 ?_
      refine r_iadd (pc := 194) X d_X12_laysSteps_194 ?_
      refine s_iast (pc := 195) X tn_199 ln_199 d_X12_laysSteps_195 ?_
      refine r_aload_n (pc := 196) X d_X12_laysSteps_196 fn0 ?_
      refine r_dup (pc := 197) X d_X12_laysSteps_197 ?_
      refine s_getI (pc := 198) (ci := 12) X xok12 (by decide +kernel) ob_180 (by decide +kernel) fl_RX12_402 d_X12_laysSteps_198 ?_
      refine r_iconst (pc := 201) X d_X12_laysSteps_201 (by decide +kernel) ?_
      refine r_iadd (pc := 202) X d_X12_laysSteps_202 ?_
      refine s_putI (pc := 203) (ci := 12) X xok12 (by decide +kernel) ob_180 (by decide +kernel) (by decide +kernel) (by decide +kernel) fl_RX12_402 d_X12_laysSteps_203 ?_
      exact t_X12_laysSteps_206 X hr h155
    · refine r_goto (pc := 177) (tgt := 206) X d_X12_laysSteps_177 (by decide +kernel) ?_
      exact t_X12_laysSteps_206 X hr h155
set_option maxRecDepth 20000 in
theorem m_X12_laysSteps {l : Launch} {f : Nat → Int32 → xH → xP → Prop}  {I12 : Nat → Int32 → xH → xP → xM → xK} {I34 : Nat → Int32 → xH → xP → xM → xK} {I92 : Nat → Int32 → xH → xP → xM → xK} {I147 : Nat → Int32 → xH → xP → xM → xK} {I155 : Nat → Int32 → xH → xP → xM → xK}
    (v0 : ∀ (a0 : Nat) (a1 : Int32) (A : xH) (P : xP), f a0 a1 A P → k_X12_laysSteps_0 P (xE (I12 a0 a1 A P)) [some (.ref a0), some (.int a1), none, none] [] A)
    (v12 : ∀ (a0 : Nat) (a1 : Int32) (A : xH) (P : xP), f a0 a1 A P → ∀ (μ : xM) (L : xL) (st : List Value) (B : xH), I12 a0 a1 A P μ L st B → k_X12_laysSteps_12 P (xB (I12 a0 a1 A P) μ) (xE (I34 a0 a1 A P)) L st B)
    (v34 : ∀ (a0 : Nat) (a1 : Int32) (A : xH) (P : xP), f a0 a1 A P → ∀ (μ : xM) (L : xL) (st : List Value) (B : xH), I34 a0 a1 A P μ L st B → k_X12_laysSteps_34 P (xB (I34 a0 a1 A P) μ) (xB (I92 a0 a1 A P) μ) (xE (I147 a0 a1 A P)) L st B)
    (v92 : ∀ (a0 : Nat) (a1 : Int32) (A : xH) (P : xP), f a0 a1 A P → ∀ (μ : xM) (L : xL) (st : List Value) (B : xH), I92 a0 a1 A P μ L st B → k_X12_laysSteps_92 P (xB (I34 a0 a1 A P) μ) (xB (I92 a0 a1 A P) μ) L st B)
    (v147 : ∀ (a0 : Nat) (a1 : Int32) (A : xH) (P : xP), f a0 a1 A P → ∀ (μ : xM) (L : xL) (st : List Value) (B : xH), I147 a0 a1 A P μ L st B → k_X12_laysSteps_147 P (xB (I155 a0 a1 A P) μ) L st B)
    (v155 : ∀ (a0 : Nat) (a1 : Int32) (A : xH) (P : xP), f a0 a1 A P → ∀ (μ : xM) (L : xL) (st : List Value) (B : xH), I155 a0 a1 A P μ L st B → k_X12_laysSteps_155 P (xB (I147 a0 a1 A P) μ) (xB (I155 a0 a1 A P) μ) L st B) : xCon l yX12_laysSteps cX12_laysSteps 4 none 4 92 xN xN 0 xFT xFT (w_RI f) := by
  refine xc_RI (plainFor_of_name pn_RX12) (by decide +kernel) (fun p e s m args below meth c g a0 a1 A P h X hr _ => ?_)
  obtain ⟨h147, h155⟩ := x_loop2 (p := p) (l := l) (e := e) (R := { frames := 4, cells := 0, slots := 0, locals := 92 }) (s := s) (m := m) (args := args) (below := below) (meth := meth) (c := c) (g := g) (nL := 4) (F := xFT) (n := xN) (cells := 0) (slots := 0) (Q := MQ below (xQc g xFT xN P) args s 0 0 (xFr g)) (I1 := I147 a0 a1 A P) (I2 := I155 a0 a1 A P) (pc1 := 147) (pc2 := 155) (fun μ i147 i155 => xAt_mono (t_X12_laysSteps_147 (P := P) X hr i155) (v147 a0 a1 A P h μ)) (fun μ i147 i155 => xAt_mono (t_X12_laysSteps_155 (P := P) X hr i147 i155) (v155 a0 a1 A P h μ))
  obtain ⟨h34, h92⟩ := x_loop2 (p := p) (l := l) (e := e) (R := { frames := 4, cells := 0, slots := 0, locals := 92 }) (s := s) (m := m) (args := args) (below := below) (meth := meth) (c := c) (g := g) (nL := 4) (F := xFT) (n := xN) (cells := 0) (slots := 0) (Q := MQ below (xQc g xFT xN P) args s 0 0 (xFr g)) (I1 := I34 a0 a1 A P) (I2 := I92 a0 a1 A P) (pc1 := 34) (pc2 := 92) (fun μ i34 i92 => xAt_mono (t_X12_laysSteps_34 (P := P) X hr i34 i92 h147) (v34 a0 a1 A P h μ)) (fun μ i34 i92 => xAt_mono (t_X12_laysSteps_92 (P := P) X hr i34 i92) (v92 a0 a1 A P h μ))
  have h12 := x_loop1 (p := p) (l := l) (e := e) (R := { frames := 4, cells := 0, slots := 0, locals := 92 }) (s := s) (m := m) (args := args) (below := below) (meth := meth) (c := c) (g := g) (nL := 4) (F := xFT) (n := xN) (cells := 0) (slots := 0) (Q := MQ below (xQc g xFT xN P) args s 0 0 (xFr g)) (I := I12 a0 a1 A P) (pc1 := 12) (fun μ i12 => xAt_mono (t_X12_laysSteps_12 (P := P) X hr i12 h34) (v12 a0 a1 A P h μ))
  exact ⟨_, v0 a0 a1 A P h, t_X12_laysSteps_0 X hr h12⟩
def SLs (c k : Nat) : Prop := (198 ≤ c ∧ c ≤ 200) ∨ (c = 180 ∧ k = 41)
def soX (v : xV) (X : Nat × Nat) (i n l : Nat) (Q : Nat × Nat) : Prop := ((i = 0 ∨ vD v = 0) ∧ soR v i 42 l Q) ∨ (i ≠ 0 ∧ vD v ≠ 0 ∧ ∃ j, j < n ∧ vcl v j = X.2 ∧ frT v i j ∧ soR v i j l Q)
def rpN (v : xV) (X : Nat × Nat) (n l : Nat) (Q : Nat × Nat) : Prop := ∃ i, i < n ∧ vcl v i = X.1 ∧ i ≠ 1 ∧ soX v X i (vN v) l Q
noncomputable def tY (v : xV) (p y : Nat) : Bool := bt (∃ X Q, plA v p X ∧ plA v (y % 128) Q ∧ rpN v X (vN v) (y / 128) Q)
def sU (A : xH) (v : xV) (p b n : Nat) : Prop := ∀ y, y < n → tY v p y = true → xi A 199 (b + cb (tY v p) y) = nI y
def lsF (A B : xH) (p b : Nat) : Prop := (∀ k, k ≠ p → xi B 198 k = xi A 198 k) ∧ ∀ k, k < b → xi B 199 k = xi A 199 k
def lsP (A : xH) (P : xP) (v : xV) (p b : Nat) : Prop := ∀ B, fr SLs A B → lsF A B p b → xi B 198 p = nI b → xi B 180 41 = nI (b + cb (tY v p) 5376) → sU B v p b 5376 → P none B
def f_X12_laysSteps (q : Nat) (x : Int32) (A : xH) (P : xP) : Prop := q = 180 ∧ ∃ (v : xV) (p b : Nat) (X : Nat × Nat), uI A v ∧ lsU A (plL v) ∧ x = nI p ∧ plA v p X ∧ xi A 180 41 = nI b ∧ b + 960 ≤ 76800 ∧ cb (tY v p) 5376 ≤ 960 ∧ lsP A P v p b
def lsG (A B : xH) (P : xP) (v : xV) (p b : Nat) (X : Nat × Nat) : Prop := plA v p X ∧ b + 960 ≤ 76800 ∧ cb (tY v p) 5376 ≤ 960 ∧ lsP A P v p b ∧ fr SLs A B ∧ lsF A B p b ∧ xi B 198 p = nI b ∧ uI B v ∧ lsU B (plL v)
def ls12 (A : xH) (P : xP) : xM → xK := fun μ L st B => ∃ (v : xV) (p b : Nat) (X : Nat × Nat) (k : Nat), lsG A B P v p b X ∧ xi B 180 41 = nI b ∧ k ≤ 3360 ∧ (∀ k', k' < k → xi B 200 k' = 0) ∧ st = [] ∧ L = [some (.ref 180), some (.int (nI p)), some (.int (nI k)), none] ∧ μ = (9, 3360 - k, 0)
def ls34 (A : xH) (P : xP) : xM → xK := fun μ L st B => ∃ (v : xV) (p b : Nat) (X : Nat × Nat) (i : Nat) (o : Option Value), lsG A B P v p b X ∧ xi B 180 41 = nI b ∧ i ≤ vN v ∧ gQ B v (rpN v X i) ∧ st = [] ∧ L = [some (.ref 180), some (.int (nI p)), some (.int (nI i)), o] ∧ μ = (8, vN v - i, 100)
def ls92 (A : xH) (P : xP) : xM → xK := fun μ L st B => ∃ (v : xV) (p b : Nat) (X : Nat × Nat) (i j : Nat), lsG A B P v p b X ∧ xi B 180 41 = nI b ∧ i < vN v ∧ i ≠ 0 ∧ i ≠ 1 ∧ vcl v i = X.1 ∧ vD v ≠ 0 ∧ j ≤ vN v ∧ gQ B v (fun l Q => rpN v X i l Q ∨ soX v X i j l Q) ∧ st = [] ∧ L = [some (.ref 180), some (.int (nI p)), some (.int (nI i)), some (.int (nI j))] ∧ μ = (8, vN v - i, vN v - j)
def ls147 (A : xH) (P : xP) : xM → xK := fun μ L st B => ∃ (v : xV) (p b : Nat) (X : Nat × Nat) (l : Nat) (o : Option Value), lsG A B P v p b X ∧ l ≤ 42 ∧ xi B 180 41 = nI (b + cb (tY v p) (128 * l)) ∧ gQ B v (rpN v X (vN v)) ∧ sU B v p b (128 * l) ∧ st = [] ∧ L = [some (.ref 180), some (.int (nI p)), some (.int (nI l)), o] ∧ μ = (7, 42 - l, 100)
def ls155 (A : xH) (P : xP) : xM → xK := fun μ L st B => ∃ (v : xV) (p b : Nat) (X : Nat × Nat) (l q : Nat), lsG A B P v p b X ∧ l < 42 ∧ q ≤ (plL v).length ∧ xi B 180 41 = nI (b + cb (tY v p) (128 * l + q)) ∧ gQ B v (rpN v X (vN v)) ∧ sU B v p b (128 * l + q) ∧ st = [] ∧ L = [some (.ref 180), some (.int (nI p)), some (.int (nI l)), some (.int (nI q))] ∧ μ = (7, 42 - l, 80 - q)
theorem lsF_tr {A B C : xH} {p b : Nat} (h : lsF A B p b) (hf : fr SGo B C) : lsF A C p b := by
  refine ⟨fun k hk => ?_, fun k hk => ?_⟩
  · rw [fr_i hf (by unfold SGo; omega)]; exact h.1 k hk
  · rw [fr_i hf (by unfold SGo; omega)]; exact h.2 k hk
theorem lsG_go {A B C : xH} {P : xP} {v : xV} {p b : Nat} {X : Nat × Nat} (h : lsG A B P v p b X) (hf : fr SGo B C) : lsG A C P v p b X := by
  obtain ⟨h1, h2, h3, h4, h5, h6, h7, h8, h9⟩ := h
  refine ⟨h1, h2, h3, h4, fr_tr h5 (fr_mono hf (by unfold SGo SLs; omega)), lsF_tr h6 hf, ?_, uI_fr h8 hf (by unfold SGo; omega), lsU_fr h9 hf (by unfold SGo SPu; omega)⟩
  rw [fr_i hf (by unfold SGo; omega)]; exact h7
theorem lsG_w {A B C : xH} {P : xP} {v : xV} {p b : Nat} {X : Nat × Nat} (h : lsG A B P v p b X) (hf : fr SLs B C) (e1 : ∀ k, xi C 198 k = xi B 198 k) (e2 : ∀ k, k < b → xi C 199 k = xi B 199 k) : lsG A C P v p b X := by
  obtain ⟨h1, h2, h3, h4, h5, h6, h7, h8, h9⟩ := h
  exact ⟨h1, h2, h3, h4, fr_tr h5 hf, ⟨fun k hk => (e1 k).trans (h6.1 k hk), fun k hk => (e2 k hk).trans (h6.2 k hk)⟩, (e1 p).trans h7, uI_fr h8 hf (by unfold SLs; omega), lsU_fr h9 hf (by unfold SLs SPu; omega)⟩
theorem rp_s {v : xV} {X : Nat × Nat} {i l : Nat} {Q : Nat × Nat} : rpN v X (i + 1) l Q ↔ rpN v X i l Q ∨ (vcl v i = X.1 ∧ i ≠ 1 ∧ soX v X i (vN v) l Q) := by
  unfold rpN
  constructor
  · rintro ⟨i', a, b⟩
    by_cases e : i' = i
    · subst e; exact Or.inr b
    · exact Or.inl ⟨i', by omega, b⟩
  · rintro (⟨i', a, b⟩ | b)
    · exact ⟨i', by omega, b⟩
    · exact ⟨i, by omega, b⟩
theorem cb_flat {f : Nat → Bool} {a b : Nat} (h : a ≤ b) (hz : ∀ y, a ≤ y → y < b → f y = false) : cb f b = cb f a := by
  obtain ⟨d, rfl⟩ : ∃ d, b = a + d := ⟨b - a, by omega⟩
  clear h
  induction d with
  | zero => rfl
  | succ d ih =>
    rw [← Nat.add_assoc, cb_s, hz _ (by omega) (by omega), ih (fun y h1 h2 => hz y h1 (by omega))]
    rfl
theorem tY_at {v : xV} {p q l : Nat} {X Q : Nat × Nat} (hX : plA v p X) (hQ : plA v q Q) (hq : q < 128) : tY v p (128 * l + q) = true ↔ rpN v X (vN v) l Q := by
  unfold tY
  rw [bt_iff, show (128 * l + q) % 128 = q by omega, show (128 * l + q) / 128 = l by omega]
  constructor
  · rintro ⟨X', Q', a, b, c⟩
    rw [plA_fun hX a, plA_fun hQ b]; exact c
  · exact fun w => ⟨X, Q, hX, hQ, w⟩
theorem tY_no {v : xV} {p y : Nat} (h : (plL v).length ≤ y % 128) : tY v p y = false := by
  refine bt_f ?_
  rintro ⟨X, Q, -, b, -⟩
  have := (List.getElem?_eq_some_iff.mp b).1
  omega
set_option maxRecDepth 20000 in
theorem con_X12_laysSteps (l : Launch) : xCon l yX12_laysSteps cX12_laysSteps 4 none 4 92 xN xN 0 xFT xFT (w_RI f_X12_laysSteps) := by
  refine m_X12_laysSteps (I12 := fun q x A P => ls12 A P) (I34 := fun q x A P => ls34 A P) (I92 := fun q x A P => ls92 A P) (I147 := fun q x A P => ls147 A P) (I155 := fun q x A P => ls155 A P) ?_ ?_ ?_ ?_ ?_ ?_
  · rintro q x A P ⟨rfl, v, p, b, X, hU, hl, rfl, hX, hb, hb2, hc, hP⟩
    have hp80 := plA_80 hl hX
    simp (disch := omega) only [k_X12_laysSteps_0, k_X12_laysSteps_12, k_X12_laysSteps_34, k_X12_laysSteps_92, k_X12_laysSteps_147, k_X12_laysSteps_155, k_X12_laysSteps_81, k_X12_laysSteps_133, k_X12_laysSteps_139, k_X12_laysSteps_206, w_RII, x_aload, x_dup, x_iadd, x_icmp_ge, x_icmp_ne, x_if_eq, x_if_ne, x_iinc, x_iload, x_imul, x_istore, x_push, x_vret, y_bast, y_cv2, y_getF, y_getI, y_iald, y_iast, y_putI, xFT, xbool0, xbool1, Nat.reduceAdd, Nat.zero_add, xgl_0, xgl_s, xgl_n, xst_0, xst_1n, xst_1i, xst_1r, xst_1l, xst_s, set_0, set_s, true_and, and_true, xres, xcat_nil, xcat_i, xcat_r, xcat_l, Nat.add_zero, xble0, xble1, xble2, xble3, xble4, xble5, xble6, xble7, xble8, pk_mul, nI_add, nI_1, nI_leI, nI_ltI, nI_eq, n_in, n_cl, z_eq, z_lt, z_le, z_gt, z_ge, z_qe, o_eq, o_lt, o_le, o_gt, o_ge, vp0, vp1, cl0, cl1, n_sub, n_sub1, n_pm1, n_a0, n_0a, ofn, lN0, Nat.reduceLT, Nat.reduceLeDiff, Nat.reduceMul, Nat.reduceSub, Nat.reduceEqDiff, ne_eq, true_implies, false_implies, not_true_eq_false, not_false_eq_true, and_self, and_true, true_and, and_false, false_and, implies_true, if_true, if_false, i00, i10, i01, i11, ob_0, ob_1, tn_2, ln_2, ob_3, tn_4, ln_4, ob_5, tn_6, ln_6, tn_7, ln_7, ob_8, tn_9, ln_9, tn_10, ln_10, tn_11, ln_11, tn_12, ln_12, tn_13, ln_13, tn_14, ln_14, tn_15, ln_15, tn_16, ln_16, tn_17, ln_17, ob_18, tn_19, ln_19, tn_20, ln_20, tn_21, ln_21, tn_22, ln_22, tn_23, ln_23, tn_24, ln_24, tn_25, ln_25, tn_26, ln_26, tn_27, ln_27, ob_28, tn_29, ln_29, tn_30, ln_30, ob_31, tn_32, ln_32, tn_33, ln_33, ob_34, ob_35, tn_36, ln_36, tn_37, ln_37, tn_38, ln_38, ob_39, tn_40, ln_40, tn_41, ln_41, tn_42, ln_42, tn_43, ln_43, tn_44, ln_44, tn_45, ln_45, tn_46, ln_46, tn_47, ln_47, tn_48, ln_48, tn_49, ln_49, tn_50, ln_50, tn_51, ln_51, ob_52, tn_53, ln_53, tn_54, ln_54, tn_55, ln_55, tn_56, ln_56, ob_57, tn_58, ln_58, tn_59, ln_59, tn_60, ln_60, tn_61, ln_61, tn_62, ln_62, tn_63, ln_63, tn_64, ln_64, tn_65, ln_65, ob_66, tn_67, ln_67, tn_68, ln_68, tn_69, ln_69, tn_70, ln_70, tn_71, ln_71, tn_72, ln_72, tn_73, ln_73, ob_74, tn_75, ln_75, tn_76, ln_76, tn_77, ln_77, tn_78, ln_78, tn_79, ln_79, tn_80, ln_80, tn_81, ln_81, tn_82, ln_82, tn_83, ln_83, ob_84, tn_85, ln_85, tn_86, ln_86, tn_87, ln_87, tn_88, ln_88, tn_89, ln_89, tn_90, ln_90, tn_91, ln_91, tn_92, ln_92, tn_93, ln_93, ob_94, tn_95, ln_95, tn_96, ln_96, tn_97, ln_97, tn_98, ln_98, tn_99, ln_99, tn_100, ln_100, tn_101, ln_101, tn_102, ln_102, tn_103, ln_103, ob_104, tn_105, ln_105, tn_106, ln_106, tn_107, ln_107, tn_108, ln_108, tn_109, ln_109, tn_110, ln_110, tn_111, ln_111, tn_112, ln_112, tn_113, ln_113, ob_114, tn_115, ln_115, tn_116, ln_116, tn_117, ln_117, tn_118, ln_118, tn_119, ln_119, tn_120, ln_120, tn_121, ln_121, tn_122, ln_122, tn_123, ln_123, ob_124, tn_125, ln_125, tn_126, ln_126, tn_127, ln_127, tn_128, ln_128, tn_129, ln_129, tn_130, ln_130, tn_131, ln_131, tn_132, ln_132, tn_133, ln_133, ob_134, tn_135, ln_135, tn_136, ln_136, tn_137, ln_137, tn_138, ln_138, tn_139, ln_139, tn_140, ln_140, tn_141, ln_141, tn_142, ln_142, tn_143, ln_143, ob_144, tn_145, ln_145, tn_146, ln_146, tn_147, ln_147, tn_148, ln_148, tn_149, ln_149, tn_150, ln_150, tn_151, ln_151, tn_152, ln_152, tn_153, ln_153, ob_154, tn_155, ln_155, tn_156, ln_156, tn_157, ln_157, tn_158, ln_158, tn_159, ln_159, tn_160, ln_160, tn_161, ln_161, tn_162, ln_162, tn_163, ln_163, ob_164, tn_165, ln_165, tn_166, ln_166, ob_167, tn_168, ln_168, tn_169, ln_169, tn_170, ln_170, tn_171, ln_171, tn_172, ln_172, tn_173, ln_173, tn_174, ln_174, tn_175, ln_175, tn_176, ln_176, ob_177, tn_178, ln_178, tn_179, ln_179, ob_180, tn_181, ln_181, tn_182, ln_182, tn_183, ln_183, tn_184, ln_184, tn_185, ln_185, tn_186, ln_186, tn_187, ln_187, tn_188, ln_188, tn_189, ln_189, tn_190, ln_190, tn_191, ln_191, tn_192, ln_192, tn_193, ln_193, tn_194, ln_194, tn_195, ln_195, tn_196, ln_196, tn_197, ln_197, tn_198, ln_198, tn_199, ln_199, tn_200, ln_200, tn_201, ln_201, tn_202, ln_202, tn_203, ln_203, tn_204, ln_204, tn_205, ln_205, tn_206, ln_206, tn_207, ln_207, tn_208, ln_208, tn_209, ln_209, tn_210, ln_210, tn_211, ln_211, tn_212, ln_212, tn_213, ln_213, tn_214, ln_214, tn_215, ln_215, tn_216, ln_216, tn_217, ln_217, tn_218, ln_218, tn_219, ln_219, tn_220, ln_220, tn_221, ln_221, tn_222, ln_222, tn_223, ln_223, tn_224, ln_224, tn_225, ln_225, tn_226, ln_226, tn_227, ln_227, tn_228, ln_228, tn_229, ln_229, tn_230, ln_230, lx2, lx3, lx4, lx5, lx6, lx7, lx8, lx9, lx10, lx14, lx15, lx16, lx18, lx20, lx24, lx25, lx27, lx32, lx36, lx40, lx41, lx42, lx43, lx45, lx48, lx52, lx54, lx56, lx57, lx58, lx60, lx61, lx62, lx63, lx64, lx66, lx69, lx73, lx80, lx81, lx84, lx85, lx87, lx94, lx96, lx97, lx120, lx128, lx135, lx160, lx162, lx163, lx165, lx200, lx232, lx242, lx243, lx255, lx256, lx320, lx325, lx400, lx405, lx464, lx512, lx600, lx640, lx752, lx900, lx940, lx1000, lx1024, lx1764, lx3360, lx3840, lx5000, lx6400, lx9050, lx9998, lx9999, lx10000, lx25600, lx76800, lx99999, hb]
    refine ⟨by omega, xE0 (9, 3360 - 0, 0) ⟨v, p, b, X, 0, ⟨hX, hb2, hc, hP, fr_si fr_rf (by unfold SLs; omega), ⟨fun k hk => si_ne (by omega), fun k hk => si_ne (by omega)⟩, si_eq, uI_fr hU (fr_si (S := SLs) fr_rf (by unfold SLs; omega)) (by unfold SLs; omega), lsU_fr hl (fr_si (S := SLs) fr_rf (by unfold SLs; omega)) (by unfold SLs SPu; omega)⟩, ?_, Nat.zero_le _, fun k hk => absurd hk (Nat.not_lt_zero k), rfl, rfl, rfl⟩⟩
    rw [si_ne (by omega)]; exact hb
  · rintro q x A P - μ L st B ⟨v, p, b, X, k, hG, hb, hk, hz, rfl, rfl, rfl⟩
    have hp80 := plA_80 hG.2.2.2.2.2.2.2.2 hG.1
    simp (disch := omega) only [k_X12_laysSteps_0, k_X12_laysSteps_12, k_X12_laysSteps_34, k_X12_laysSteps_92, k_X12_laysSteps_147, k_X12_laysSteps_155, k_X12_laysSteps_81, k_X12_laysSteps_133, k_X12_laysSteps_139, k_X12_laysSteps_206, w_RII, x_aload, x_dup, x_iadd, x_icmp_ge, x_icmp_ne, x_if_eq, x_if_ne, x_iinc, x_iload, x_imul, x_istore, x_push, x_vret, y_bast, y_cv2, y_getF, y_getI, y_iald, y_iast, y_putI, xFT, xbool0, xbool1, Nat.reduceAdd, Nat.zero_add, xgl_0, xgl_s, xgl_n, xst_0, xst_1n, xst_1i, xst_1r, xst_1l, xst_s, set_0, set_s, true_and, and_true, xres, xcat_nil, xcat_i, xcat_r, xcat_l, Nat.add_zero, xble0, xble1, xble2, xble3, xble4, xble5, xble6, xble7, xble8, pk_mul, nI_add, nI_1, nI_leI, nI_ltI, nI_eq, n_in, n_cl, z_eq, z_lt, z_le, z_gt, z_ge, z_qe, o_eq, o_lt, o_le, o_gt, o_ge, vp0, vp1, cl0, cl1, n_sub, n_sub1, n_pm1, n_a0, n_0a, ofn, lN0, Nat.reduceLT, Nat.reduceLeDiff, Nat.reduceMul, Nat.reduceSub, Nat.reduceEqDiff, ne_eq, true_implies, false_implies, not_true_eq_false, not_false_eq_true, and_self, and_true, true_and, and_false, false_and, implies_true, if_true, if_false, i00, i10, i01, i11, ob_0, ob_1, tn_2, ln_2, ob_3, tn_4, ln_4, ob_5, tn_6, ln_6, tn_7, ln_7, ob_8, tn_9, ln_9, tn_10, ln_10, tn_11, ln_11, tn_12, ln_12, tn_13, ln_13, tn_14, ln_14, tn_15, ln_15, tn_16, ln_16, tn_17, ln_17, ob_18, tn_19, ln_19, tn_20, ln_20, tn_21, ln_21, tn_22, ln_22, tn_23, ln_23, tn_24, ln_24, tn_25, ln_25, tn_26, ln_26, tn_27, ln_27, ob_28, tn_29, ln_29, tn_30, ln_30, ob_31, tn_32, ln_32, tn_33, ln_33, ob_34, ob_35, tn_36, ln_36, tn_37, ln_37, tn_38, ln_38, ob_39, tn_40, ln_40, tn_41, ln_41, tn_42, ln_42, tn_43, ln_43, tn_44, ln_44, tn_45, ln_45, tn_46, ln_46, tn_47, ln_47, tn_48, ln_48, tn_49, ln_49, tn_50, ln_50, tn_51, ln_51, ob_52, tn_53, ln_53, tn_54, ln_54, tn_55, ln_55, tn_56, ln_56, ob_57, tn_58, ln_58, tn_59, ln_59, tn_60, ln_60, tn_61, ln_61, tn_62, ln_62, tn_63, ln_63, tn_64, ln_64, tn_65, ln_65, ob_66, tn_67, ln_67, tn_68, ln_68, tn_69, ln_69, tn_70, ln_70, tn_71, ln_71, tn_72, ln_72, tn_73, ln_73, ob_74, tn_75, ln_75, tn_76, ln_76, tn_77, ln_77, tn_78, ln_78, tn_79, ln_79, tn_80, ln_80, tn_81, ln_81, tn_82, ln_82, tn_83, ln_83, ob_84, tn_85, ln_85, tn_86, ln_86, tn_87, ln_87, tn_88, ln_88, tn_89, ln_89, tn_90, ln_90, tn_91, ln_91, tn_92, ln_92, tn_93, ln_93, ob_94, tn_95, ln_95, tn_96, ln_96, tn_97, ln_97, tn_98, ln_98, tn_99, ln_99, tn_100, ln_100, tn_101, ln_101, tn_102, ln_102, tn_103, ln_103, ob_104, tn_105, ln_105, tn_106, ln_106, tn_107, ln_107, tn_108, ln_108, tn_109, ln_109, tn_110, ln_110, tn_111, ln_111, tn_112, ln_112, tn_113, ln_113, ob_114, tn_115, ln_115, tn_116, ln_116, tn_117, ln_117, tn_118, ln_118, tn_119, ln_119, tn_120, ln_120, tn_121, ln_121, tn_122, ln_122, tn_123, ln_123, ob_124, tn_125, ln_125, tn_126, ln_126, tn_127, ln_127, tn_128, ln_128, tn_129, ln_129, tn_130, ln_130, tn_131, ln_131, tn_132, ln_132, tn_133, ln_133, ob_134, tn_135, ln_135, tn_136, ln_136, tn_137, ln_137, tn_138, ln_138, tn_139, ln_139, tn_140, ln_140, tn_141, ln_141, tn_142, ln_142, tn_143, ln_143, ob_144, tn_145, ln_145, tn_146, ln_146, tn_147, ln_147, tn_148, ln_148, tn_149, ln_149, tn_150, ln_150, tn_151, ln_151, tn_152, ln_152, tn_153, ln_153, ob_154, tn_155, ln_155, tn_156, ln_156, tn_157, ln_157, tn_158, ln_158, tn_159, ln_159, tn_160, ln_160, tn_161, ln_161, tn_162, ln_162, tn_163, ln_163, ob_164, tn_165, ln_165, tn_166, ln_166, ob_167, tn_168, ln_168, tn_169, ln_169, tn_170, ln_170, tn_171, ln_171, tn_172, ln_172, tn_173, ln_173, tn_174, ln_174, tn_175, ln_175, tn_176, ln_176, ob_177, tn_178, ln_178, tn_179, ln_179, ob_180, tn_181, ln_181, tn_182, ln_182, tn_183, ln_183, tn_184, ln_184, tn_185, ln_185, tn_186, ln_186, tn_187, ln_187, tn_188, ln_188, tn_189, ln_189, tn_190, ln_190, tn_191, ln_191, tn_192, ln_192, tn_193, ln_193, tn_194, ln_194, tn_195, ln_195, tn_196, ln_196, tn_197, ln_197, tn_198, ln_198, tn_199, ln_199, tn_200, ln_200, tn_201, ln_201, tn_202, ln_202, tn_203, ln_203, tn_204, ln_204, tn_205, ln_205, tn_206, ln_206, tn_207, ln_207, tn_208, ln_208, tn_209, ln_209, tn_210, ln_210, tn_211, ln_211, tn_212, ln_212, tn_213, ln_213, tn_214, ln_214, tn_215, ln_215, tn_216, ln_216, tn_217, ln_217, tn_218, ln_218, tn_219, ln_219, tn_220, ln_220, tn_221, ln_221, tn_222, ln_222, tn_223, ln_223, tn_224, ln_224, tn_225, ln_225, tn_226, ln_226, tn_227, ln_227, tn_228, ln_228, tn_229, ln_229, tn_230, ln_230, lx2, lx3, lx4, lx5, lx6, lx7, lx8, lx9, lx10, lx14, lx15, lx16, lx18, lx20, lx24, lx25, lx27, lx32, lx36, lx40, lx41, lx42, lx43, lx45, lx48, lx52, lx54, lx56, lx57, lx58, lx60, lx61, lx62, lx63, lx64, lx66, lx69, lx73, lx80, lx81, lx84, lx85, lx87, lx94, lx96, lx97, lx120, lx128, lx135, lx160, lx162, lx163, lx165, lx200, lx232, lx242, lx243, lx255, lx256, lx320, lx325, lx400, lx405, lx464, lx512, lx600, lx640, lx752, lx900, lx940, lx1000, lx1024, lx1764, lx3360, lx3840, lx5000, lx6400, lx9050, lx9998, lx9999, lx10000, lx25600, lx76800, lx99999]
    refine ⟨fun a => ?_, fun a => ⟨by omega, ?_⟩⟩
    · refine xE0 (8, vN v - 0, 100) ⟨v, p, b, X, 0, none, hG, hb, Nat.zero_le _, fun l q Q hl hq => ?_, rfl, rfl, rfl⟩
      have hq80 := plA_80 hG.2.2.2.2.2.2.2.2 hq
      rw [hz (l * 80 + q) (by omega)]
      refine ⟨Or.inl rfl, fun z => absurd z (by decide), ?_⟩
      rintro ⟨i, w, -⟩
      exact absurd w (Nat.not_lt_zero i)
    · have f : fr SGo B (xsi B 200 k (vp_nar (xaty 4) 0)) := fr_si fr_rf (by unfold SGo; omega)
      refine xB2 (c := 3360 - (k + 1)) (by omega) ⟨v, p, b, X, k + 1, lsG_go hG f, ?_, by omega, fun k' hk' => ?_, rfl, rfl, rfl⟩
      · rw [si_ne (by omega)]; exact hb
      · by_cases e : k' = k
        · subst e; rw [si_eq]; rfl
        · rw [si_ne (by omega)]; exact hz k' (by omega)
  · rintro q x A P - μ L st B ⟨v, p, b, X, i, o, hG, hb, hi, hg, rfl, rfl, rfl⟩
    have hG0 := hG
    obtain ⟨hX, hb2, hc, hP, hF, hL, h198, hU, hl⟩ := hG
    have hp80 := plA_80 hl hX
    have h24 := hU.2.2.2.1
    have hN := vN_le hU.2.1
    simp (disch := omega) only [k_X12_laysSteps_0, k_X12_laysSteps_12, k_X12_laysSteps_34, k_X12_laysSteps_92, k_X12_laysSteps_147, k_X12_laysSteps_155, k_X12_laysSteps_81, k_X12_laysSteps_133, k_X12_laysSteps_139, k_X12_laysSteps_206, w_RII, x_aload, x_dup, x_iadd, x_icmp_ge, x_icmp_ne, x_if_eq, x_if_ne, x_iinc, x_iload, x_imul, x_istore, x_push, x_vret, y_bast, y_cv2, y_getF, y_getI, y_iald, y_iast, y_putI, xFT, xbool0, xbool1, Nat.reduceAdd, Nat.zero_add, xgl_0, xgl_s, xgl_n, xst_0, xst_1n, xst_1i, xst_1r, xst_1l, xst_s, set_0, set_s, true_and, and_true, xres, xcat_nil, xcat_i, xcat_r, xcat_l, Nat.add_zero, xble0, xble1, xble2, xble3, xble4, xble5, xble6, xble7, xble8, pk_mul, nI_add, nI_1, nI_leI, nI_ltI, nI_eq, n_in, n_cl, z_eq, z_lt, z_le, z_gt, z_ge, z_qe, o_eq, o_lt, o_le, o_gt, o_ge, vp0, vp1, cl0, cl1, n_sub, n_sub1, n_pm1, n_a0, n_0a, ofn, lN0, Nat.reduceLT, Nat.reduceLeDiff, Nat.reduceMul, Nat.reduceSub, Nat.reduceEqDiff, ne_eq, true_implies, false_implies, not_true_eq_false, not_false_eq_true, and_self, and_true, true_and, and_false, false_and, implies_true, if_true, if_false, i00, i10, i01, i11, ob_0, ob_1, tn_2, ln_2, ob_3, tn_4, ln_4, ob_5, tn_6, ln_6, tn_7, ln_7, ob_8, tn_9, ln_9, tn_10, ln_10, tn_11, ln_11, tn_12, ln_12, tn_13, ln_13, tn_14, ln_14, tn_15, ln_15, tn_16, ln_16, tn_17, ln_17, ob_18, tn_19, ln_19, tn_20, ln_20, tn_21, ln_21, tn_22, ln_22, tn_23, ln_23, tn_24, ln_24, tn_25, ln_25, tn_26, ln_26, tn_27, ln_27, ob_28, tn_29, ln_29, tn_30, ln_30, ob_31, tn_32, ln_32, tn_33, ln_33, ob_34, ob_35, tn_36, ln_36, tn_37, ln_37, tn_38, ln_38, ob_39, tn_40, ln_40, tn_41, ln_41, tn_42, ln_42, tn_43, ln_43, tn_44, ln_44, tn_45, ln_45, tn_46, ln_46, tn_47, ln_47, tn_48, ln_48, tn_49, ln_49, tn_50, ln_50, tn_51, ln_51, ob_52, tn_53, ln_53, tn_54, ln_54, tn_55, ln_55, tn_56, ln_56, ob_57, tn_58, ln_58, tn_59, ln_59, tn_60, ln_60, tn_61, ln_61, tn_62, ln_62, tn_63, ln_63, tn_64, ln_64, tn_65, ln_65, ob_66, tn_67, ln_67, tn_68, ln_68, tn_69, ln_69, tn_70, ln_70, tn_71, ln_71, tn_72, ln_72, tn_73, ln_73, ob_74, tn_75, ln_75, tn_76, ln_76, tn_77, ln_77, tn_78, ln_78, tn_79, ln_79, tn_80, ln_80, tn_81, ln_81, tn_82, ln_82, tn_83, ln_83, ob_84, tn_85, ln_85, tn_86, ln_86, tn_87, ln_87, tn_88, ln_88, tn_89, ln_89, tn_90, ln_90, tn_91, ln_91, tn_92, ln_92, tn_93, ln_93, ob_94, tn_95, ln_95, tn_96, ln_96, tn_97, ln_97, tn_98, ln_98, tn_99, ln_99, tn_100, ln_100, tn_101, ln_101, tn_102, ln_102, tn_103, ln_103, ob_104, tn_105, ln_105, tn_106, ln_106, tn_107, ln_107, tn_108, ln_108, tn_109, ln_109, tn_110, ln_110, tn_111, ln_111, tn_112, ln_112, tn_113, ln_113, ob_114, tn_115, ln_115, tn_116, ln_116, tn_117, ln_117, tn_118, ln_118, tn_119, ln_119, tn_120, ln_120, tn_121, ln_121, tn_122, ln_122, tn_123, ln_123, ob_124, tn_125, ln_125, tn_126, ln_126, tn_127, ln_127, tn_128, ln_128, tn_129, ln_129, tn_130, ln_130, tn_131, ln_131, tn_132, ln_132, tn_133, ln_133, ob_134, tn_135, ln_135, tn_136, ln_136, tn_137, ln_137, tn_138, ln_138, tn_139, ln_139, tn_140, ln_140, tn_141, ln_141, tn_142, ln_142, tn_143, ln_143, ob_144, tn_145, ln_145, tn_146, ln_146, tn_147, ln_147, tn_148, ln_148, tn_149, ln_149, tn_150, ln_150, tn_151, ln_151, tn_152, ln_152, tn_153, ln_153, ob_154, tn_155, ln_155, tn_156, ln_156, tn_157, ln_157, tn_158, ln_158, tn_159, ln_159, tn_160, ln_160, tn_161, ln_161, tn_162, ln_162, tn_163, ln_163, ob_164, tn_165, ln_165, tn_166, ln_166, ob_167, tn_168, ln_168, tn_169, ln_169, tn_170, ln_170, tn_171, ln_171, tn_172, ln_172, tn_173, ln_173, tn_174, ln_174, tn_175, ln_175, tn_176, ln_176, ob_177, tn_178, ln_178, tn_179, ln_179, ob_180, tn_181, ln_181, tn_182, ln_182, tn_183, ln_183, tn_184, ln_184, tn_185, ln_185, tn_186, ln_186, tn_187, ln_187, tn_188, ln_188, tn_189, ln_189, tn_190, ln_190, tn_191, ln_191, tn_192, ln_192, tn_193, ln_193, tn_194, ln_194, tn_195, ln_195, tn_196, ln_196, tn_197, ln_197, tn_198, ln_198, tn_199, ln_199, tn_200, ln_200, tn_201, ln_201, tn_202, ln_202, tn_203, ln_203, tn_204, ln_204, tn_205, ln_205, tn_206, ln_206, tn_207, ln_207, tn_208, ln_208, tn_209, ln_209, tn_210, ln_210, tn_211, ln_211, tn_212, ln_212, tn_213, ln_213, tn_214, ln_214, tn_215, ln_215, tn_216, ln_216, tn_217, ln_217, tn_218, ln_218, tn_219, ln_219, tn_220, ln_220, tn_221, ln_221, tn_222, ln_222, tn_223, ln_223, tn_224, ln_224, tn_225, ln_225, tn_226, ln_226, tn_227, ln_227, tn_228, ln_228, tn_229, ln_229, tn_230, ln_230, lx2, lx3, lx4, lx5, lx6, lx7, lx8, lx9, lx10, lx14, lx15, lx16, lx18, lx20, lx24, lx25, lx27, lx32, lx36, lx40, lx41, lx42, lx43, lx45, lx48, lx52, lx54, lx56, lx57, lx58, lx60, lx61, lx62, lx63, lx64, lx66, lx69, lx73, lx80, lx81, lx84, lx85, lx87, lx94, lx96, lx97, lx120, lx128, lx135, lx160, lx162, lx163, lx165, lx200, lx232, lx242, lx243, lx255, lx256, lx320, lx325, lx400, lx405, lx464, lx512, lx600, lx640, lx752, lx900, lx940, lx1000, lx1024, lx1764, lx3360, lx3840, lx5000, lx6400, lx9050, lx9998, lx9999, lx10000, lx25600, lx76800, lx99999, h24]
    have hw := hU.2.1
    have hwc := hU.2.2.1
    have hD := hw.2.2.2.1
    have hXl := pl_le hw (plA_mem hX)
    have c195 := (hl.2.2 p X hX).1
    refine ⟨fun a => ?_, fun a => ⟨by omega, by omega, ?_⟩⟩
    · have e : i = vN v := by omega
      subst e
      exact xE0 (7, 42 - 0, 100) ⟨v, p, b, X, 0, o, hG0, by omega, hb, hg, fun y hy => absurd hy (Nat.not_lt_zero y), rfl, rfl, rfl⟩
    · have hv := (hwc i (by omega)).1
      rw [isR_cl hU.1 (by omega), c195, nI_eq (by omega) (by omega)]
      have nxt : ∀ C, fr SGo B C → gQ C v (rpN v X (i + 1)) → xB (ls34 A P) (8, vN v - i, 100) [some (.ref 180), some (.int (nI p)), some (.int (nI (i + 1))), o] [] C := fun C hC gC =>
        xB2 (c := vN v - (i + 1)) (by omega) ⟨v, p, b, X, i + 1, o, lsG_go hG0 hC, by rw [fr_i hC (by unfold SGo; omega)]; exact hb, by omega, gC, rfl, rfl, rfl⟩
      have stp : ∀ P' : xP, vcl v i = X.1 → i ≠ 1 → (i = 0 ∨ vD v = 0) → (∀ C, xB (ls34 A P) (8, vN v - i, 100) [some (.ref 180), some (.int (nI p)), some (.int (nI (i + 1))), o] [] C → P' none C) → f_X12_stepsOf 180 (nI i) (-1) B P' := fun P' h1 h2 h3 hP' =>
        ⟨rfl, v, rpN v X i, i, 42, ⟨hU, hl, hg⟩, rfl, rfl, by omega, h2, Or.inl ⟨rfl, h3.symm⟩, fun C hC bC => hP' C (nxt C hC (gQ_congr bC.2.2 fun l Q => by
          rw [rp_s]
          constructor
          · rintro (w | w)
            · exact Or.inl w
            · exact Or.inr ⟨h1, h2, Or.inl ⟨h3, w⟩⟩
          · rintro (w | ⟨-, -, ⟨-, w⟩ | ⟨w1, w2, -⟩⟩)
            · exact Or.inl w
            · exact Or.inr w
            · exact absurd h3 (fun z => z.elim w1 w2)))⟩
      refine ⟨fun d => nxt B fr_rf (gQ_congr hg fun l Q => ?_), fun d => ⟨fun e1 => ⟨fun e0 => stp _ d e1 (Or.inl e0) fun C h => h, fun e0 => ⟨fun eD => ?_, fun eD => stp _ d e1 (Or.inr ?_) fun C h => h⟩⟩, fun e1 => nxt B fr_rf (gQ_congr hg fun l Q => ?_)⟩⟩
      · rw [rp_s]
        exact ⟨Or.inl, fun w => w.elim id fun z => absurd z.1 d⟩
      · rw [hU.1.1.2.2.2] at eD
        have hD0 : vD v ≠ 0 := fun z => eD (by rw [z]; rfl)
        refine xB3 (d := vN v - 0) (by omega) ⟨v, p, b, X, i, 0, hG0, hb, by omega, e0, e1, d, hD0, Nat.zero_le _, gQ_congr hg fun l Q => ?_, rfl, rfl, rfl⟩
        constructor
        · exact Or.inl
        · rintro (w | ⟨w | w, -⟩ | ⟨-, -, j, w, -⟩)
          · exact w
          · exact absurd w e0
          · exact absurd w hD0
          · exact absurd w (Nat.not_lt_zero j)
      · rw [hU.1.1.2.2.2] at eD
        have eD1 : nI (vD v) = nI 0 := eD
        exact (nI_eq (by omega) (by omega)).mp eD1
      · rw [rp_s]
        exact ⟨Or.inl, fun w => w.elim id fun z => absurd e1 z.2.1⟩
  · rintro q x A P - μ L st B ⟨v, p, b, X, i, j, hG, hb, hi, hi0, hi1, hcl, hD, hj, hg, rfl, rfl, rfl⟩
    have hG0 := hG
    obtain ⟨hX, hb2, hc, hP, hF, hL, h198, hU, hl⟩ := hG
    have hp80 := plA_80 hl hX
    have h24 := hU.2.2.2.1
    have hN := vN_le hU.2.1
    simp (disch := omega) only [k_X12_laysSteps_0, k_X12_laysSteps_12, k_X12_laysSteps_34, k_X12_laysSteps_92, k_X12_laysSteps_147, k_X12_laysSteps_155, k_X12_laysSteps_81, k_X12_laysSteps_133, k_X12_laysSteps_139, k_X12_laysSteps_206, w_RII, x_aload, x_dup, x_iadd, x_icmp_ge, x_icmp_ne, x_if_eq, x_if_ne, x_iinc, x_iload, x_imul, x_istore, x_push, x_vret, y_bast, y_cv2, y_getF, y_getI, y_iald, y_iast, y_putI, xFT, xbool0, xbool1, Nat.reduceAdd, Nat.zero_add, xgl_0, xgl_s, xgl_n, xst_0, xst_1n, xst_1i, xst_1r, xst_1l, xst_s, set_0, set_s, true_and, and_true, xres, xcat_nil, xcat_i, xcat_r, xcat_l, Nat.add_zero, xble0, xble1, xble2, xble3, xble4, xble5, xble6, xble7, xble8, pk_mul, nI_add, nI_1, nI_leI, nI_ltI, nI_eq, n_in, n_cl, z_eq, z_lt, z_le, z_gt, z_ge, z_qe, o_eq, o_lt, o_le, o_gt, o_ge, vp0, vp1, cl0, cl1, n_sub, n_sub1, n_pm1, n_a0, n_0a, ofn, lN0, Nat.reduceLT, Nat.reduceLeDiff, Nat.reduceMul, Nat.reduceSub, Nat.reduceEqDiff, ne_eq, true_implies, false_implies, not_true_eq_false, not_false_eq_true, and_self, and_true, true_and, and_false, false_and, implies_true, if_true, if_false, i00, i10, i01, i11, ob_0, ob_1, tn_2, ln_2, ob_3, tn_4, ln_4, ob_5, tn_6, ln_6, tn_7, ln_7, ob_8, tn_9, ln_9, tn_10, ln_10, tn_11, ln_11, tn_12, ln_12, tn_13, ln_13, tn_14, ln_14, tn_15, ln_15, tn_16, ln_16, tn_17, ln_17, ob_18, tn_19, ln_19, tn_20, ln_20, tn_21, ln_21, tn_22, ln_22, tn_23, ln_23, tn_24, ln_24, tn_25, ln_25, tn_26, ln_26, tn_27, ln_27, ob_28, tn_29, ln_29, tn_30, ln_30, ob_31, tn_32, ln_32, tn_33, ln_33, ob_34, ob_35, tn_36, ln_36, tn_37, ln_37, tn_38, ln_38, ob_39, tn_40, ln_40, tn_41, ln_41, tn_42, ln_42, tn_43, ln_43, tn_44, ln_44, tn_45, ln_45, tn_46, ln_46, tn_47, ln_47, tn_48, ln_48, tn_49, ln_49, tn_50, ln_50, tn_51, ln_51, ob_52, tn_53, ln_53, tn_54, ln_54, tn_55, ln_55, tn_56, ln_56, ob_57, tn_58, ln_58, tn_59, ln_59, tn_60, ln_60, tn_61, ln_61, tn_62, ln_62, tn_63, ln_63, tn_64, ln_64, tn_65, ln_65, ob_66, tn_67, ln_67, tn_68, ln_68, tn_69, ln_69, tn_70, ln_70, tn_71, ln_71, tn_72, ln_72, tn_73, ln_73, ob_74, tn_75, ln_75, tn_76, ln_76, tn_77, ln_77, tn_78, ln_78, tn_79, ln_79, tn_80, ln_80, tn_81, ln_81, tn_82, ln_82, tn_83, ln_83, ob_84, tn_85, ln_85, tn_86, ln_86, tn_87, ln_87, tn_88, ln_88, tn_89, ln_89, tn_90, ln_90, tn_91, ln_91, tn_92, ln_92, tn_93, ln_93, ob_94, tn_95, ln_95, tn_96, ln_96, tn_97, ln_97, tn_98, ln_98, tn_99, ln_99, tn_100, ln_100, tn_101, ln_101, tn_102, ln_102, tn_103, ln_103, ob_104, tn_105, ln_105, tn_106, ln_106, tn_107, ln_107, tn_108, ln_108, tn_109, ln_109, tn_110, ln_110, tn_111, ln_111, tn_112, ln_112, tn_113, ln_113, ob_114, tn_115, ln_115, tn_116, ln_116, tn_117, ln_117, tn_118, ln_118, tn_119, ln_119, tn_120, ln_120, tn_121, ln_121, tn_122, ln_122, tn_123, ln_123, ob_124, tn_125, ln_125, tn_126, ln_126, tn_127, ln_127, tn_128, ln_128, tn_129, ln_129, tn_130, ln_130, tn_131, ln_131, tn_132, ln_132, tn_133, ln_133, ob_134, tn_135, ln_135, tn_136, ln_136, tn_137, ln_137, tn_138, ln_138, tn_139, ln_139, tn_140, ln_140, tn_141, ln_141, tn_142, ln_142, tn_143, ln_143, ob_144, tn_145, ln_145, tn_146, ln_146, tn_147, ln_147, tn_148, ln_148, tn_149, ln_149, tn_150, ln_150, tn_151, ln_151, tn_152, ln_152, tn_153, ln_153, ob_154, tn_155, ln_155, tn_156, ln_156, tn_157, ln_157, tn_158, ln_158, tn_159, ln_159, tn_160, ln_160, tn_161, ln_161, tn_162, ln_162, tn_163, ln_163, ob_164, tn_165, ln_165, tn_166, ln_166, ob_167, tn_168, ln_168, tn_169, ln_169, tn_170, ln_170, tn_171, ln_171, tn_172, ln_172, tn_173, ln_173, tn_174, ln_174, tn_175, ln_175, tn_176, ln_176, ob_177, tn_178, ln_178, tn_179, ln_179, ob_180, tn_181, ln_181, tn_182, ln_182, tn_183, ln_183, tn_184, ln_184, tn_185, ln_185, tn_186, ln_186, tn_187, ln_187, tn_188, ln_188, tn_189, ln_189, tn_190, ln_190, tn_191, ln_191, tn_192, ln_192, tn_193, ln_193, tn_194, ln_194, tn_195, ln_195, tn_196, ln_196, tn_197, ln_197, tn_198, ln_198, tn_199, ln_199, tn_200, ln_200, tn_201, ln_201, tn_202, ln_202, tn_203, ln_203, tn_204, ln_204, tn_205, ln_205, tn_206, ln_206, tn_207, ln_207, tn_208, ln_208, tn_209, ln_209, tn_210, ln_210, tn_211, ln_211, tn_212, ln_212, tn_213, ln_213, tn_214, ln_214, tn_215, ln_215, tn_216, ln_216, tn_217, ln_217, tn_218, ln_218, tn_219, ln_219, tn_220, ln_220, tn_221, ln_221, tn_222, ln_222, tn_223, ln_223, tn_224, ln_224, tn_225, ln_225, tn_226, ln_226, tn_227, ln_227, tn_228, ln_228, tn_229, ln_229, tn_230, ln_230, lx2, lx3, lx4, lx5, lx6, lx7, lx8, lx9, lx10, lx14, lx15, lx16, lx18, lx20, lx24, lx25, lx27, lx32, lx36, lx40, lx41, lx42, lx43, lx45, lx48, lx52, lx54, lx56, lx57, lx58, lx60, lx61, lx62, lx63, lx64, lx66, lx69, lx73, lx80, lx81, lx84, lx85, lx87, lx94, lx96, lx97, lx120, lx128, lx135, lx160, lx162, lx163, lx165, lx200, lx232, lx242, lx243, lx255, lx256, lx320, lx325, lx400, lx405, lx464, lx512, lx600, lx640, lx752, lx900, lx940, lx1000, lx1024, lx1764, lx3360, lx3840, lx5000, lx6400, lx9050, lx9998, lx9999, lx10000, lx25600, lx76800, lx99999, h24]
    have hw := hU.2.1
    have hwc := hU.2.2.1
    have hXl := pl_le hw (plA_mem hX)
    have c196 := (hl.2.2 p X hX).2.1
    have sx : ∀ n l Q, soX v X i n l Q ↔ ∃ j, j < n ∧ vcl v j = X.2 ∧ frT v i j ∧ soR v i j l Q := fun n l Q => by
      constructor
      · rintro (⟨w | w, -⟩ | ⟨-, -, w⟩)
        · exact absurd w hi0
        · exact absurd w hD
        · exact w
      · exact fun w => Or.inr ⟨hi0, hD, w⟩
    refine ⟨fun a => ?_, fun a => ⟨by omega, by omega, ?_⟩⟩
    · have e : j = vN v := by omega
      subst e
      refine xB2 (c := vN v - (i + 1)) (by omega) ⟨v, p, b, X, i + 1, _, hG0, hb, by omega, gQ_congr hg fun l Q => ?_, rfl, rfl, rfl⟩
      rw [rp_s]
      exact ⟨fun w => w.elim Or.inl fun z => Or.inr ⟨hcl, hi1, z⟩, fun w => w.elim Or.inl fun z => Or.inr z.2.2⟩
    · have hv := (hwc j (by omega)).1
      have ejc : nI (vcl v j) = cI X.2 ↔ vcl v j = X.2 := by
        have e1 : cI (vcl v j) = nI (vcl v j) := if_neg (by omega)
        rw [← e1, cI_eq (by omega) hXl.2]
      rw [isR_cl hU.1 (by omega), c196, ejc]
      have nxt : ∀ C, fr SGo B C → gQ C v (fun l Q => rpN v X i l Q ∨ soX v X i (j + 1) l Q) → xB (ls92 A P) (8, vN v - i, vN v - j) [some (.ref 180), some (.int (nI p)), some (.int (nI i)), some (.int (nI (j + 1)))] [] C := fun C hC gC =>
        xB3 (d := vN v - (j + 1)) (by omega) ⟨v, p, b, X, i, j + 1, lsG_go hG0 hC, by rw [fr_i hC (by unfold SGo; omega)]; exact hb, hi, hi0, hi1, hcl, hD, by omega, gC, rfl, rfl, rfl⟩
      have no : ¬ (vcl v j = X.2 ∧ frT v i j) → xB (ls92 A P) (8, vN v - i, vN v - j) [some (.ref 180), some (.int (nI p)), some (.int (nI i)), some (.int (nI (j + 1)))] [] B := fun z => nxt B fr_rf (gQ_congr hg fun l Q => by
        rw [sx, sx]
        constructor
        · rintro (w | ⟨j', w1, w2⟩)
          · exact Or.inl w
          · exact Or.inr ⟨j', by omega, w2⟩
        · rintro (w | ⟨j', w1, w2, w3, w4⟩)
          · exact Or.inl w
          · by_cases e : j' = j
            · subst e; exact absurd ⟨w2, w3⟩ z
            · exact Or.inr ⟨j', by omega, w2, w3, w4⟩)
      refine ⟨fun d => no fun z => d z.1, fun d => isFrom_U hU hi (by omega) ?_⟩
      simp (disch := omega) only [k_X12_laysSteps_0, k_X12_laysSteps_12, k_X12_laysSteps_34, k_X12_laysSteps_92, k_X12_laysSteps_147, k_X12_laysSteps_155, k_X12_laysSteps_81, k_X12_laysSteps_133, k_X12_laysSteps_139, k_X12_laysSteps_206, w_RII, x_aload, x_dup, x_iadd, x_icmp_ge, x_icmp_ne, x_if_eq, x_if_ne, x_iinc, x_iload, x_imul, x_istore, x_push, x_vret, y_bast, y_cv2, y_getF, y_getI, y_iald, y_iast, y_putI, xFT, xbool0, xbool1, Nat.reduceAdd, Nat.zero_add, xgl_0, xgl_s, xgl_n, xst_0, xst_1n, xst_1i, xst_1r, xst_1l, xst_s, set_0, set_s, true_and, and_true, xres, xcat_nil, xcat_i, xcat_r, xcat_l, Nat.add_zero, xble0, xble1, xble2, xble3, xble4, xble5, xble6, xble7, xble8, pk_mul, nI_add, nI_1, nI_leI, nI_ltI, nI_eq, n_in, n_cl, z_eq, z_lt, z_le, z_gt, z_ge, z_qe, o_eq, o_lt, o_le, o_gt, o_ge, vp0, vp1, cl0, cl1, n_sub, n_sub1, n_pm1, n_a0, n_0a, ofn, lN0, Nat.reduceLT, Nat.reduceLeDiff, Nat.reduceMul, Nat.reduceSub, Nat.reduceEqDiff, ne_eq, true_implies, false_implies, not_true_eq_false, not_false_eq_true, and_self, and_true, true_and, and_false, false_and, implies_true, if_true, if_false, i00, i10, i01, i11, ob_0, ob_1, tn_2, ln_2, ob_3, tn_4, ln_4, ob_5, tn_6, ln_6, tn_7, ln_7, ob_8, tn_9, ln_9, tn_10, ln_10, tn_11, ln_11, tn_12, ln_12, tn_13, ln_13, tn_14, ln_14, tn_15, ln_15, tn_16, ln_16, tn_17, ln_17, ob_18, tn_19, ln_19, tn_20, ln_20, tn_21, ln_21, tn_22, ln_22, tn_23, ln_23, tn_24, ln_24, tn_25, ln_25, tn_26, ln_26, tn_27, ln_27, ob_28, tn_29, ln_29, tn_30, ln_30, ob_31, tn_32, ln_32, tn_33, ln_33, ob_34, ob_35, tn_36, ln_36, tn_37, ln_37, tn_38, ln_38, ob_39, tn_40, ln_40, tn_41, ln_41, tn_42, ln_42, tn_43, ln_43, tn_44, ln_44, tn_45, ln_45, tn_46, ln_46, tn_47, ln_47, tn_48, ln_48, tn_49, ln_49, tn_50, ln_50, tn_51, ln_51, ob_52, tn_53, ln_53, tn_54, ln_54, tn_55, ln_55, tn_56, ln_56, ob_57, tn_58, ln_58, tn_59, ln_59, tn_60, ln_60, tn_61, ln_61, tn_62, ln_62, tn_63, ln_63, tn_64, ln_64, tn_65, ln_65, ob_66, tn_67, ln_67, tn_68, ln_68, tn_69, ln_69, tn_70, ln_70, tn_71, ln_71, tn_72, ln_72, tn_73, ln_73, ob_74, tn_75, ln_75, tn_76, ln_76, tn_77, ln_77, tn_78, ln_78, tn_79, ln_79, tn_80, ln_80, tn_81, ln_81, tn_82, ln_82, tn_83, ln_83, ob_84, tn_85, ln_85, tn_86, ln_86, tn_87, ln_87, tn_88, ln_88, tn_89, ln_89, tn_90, ln_90, tn_91, ln_91, tn_92, ln_92, tn_93, ln_93, ob_94, tn_95, ln_95, tn_96, ln_96, tn_97, ln_97, tn_98, ln_98, tn_99, ln_99, tn_100, ln_100, tn_101, ln_101, tn_102, ln_102, tn_103, ln_103, ob_104, tn_105, ln_105, tn_106, ln_106, tn_107, ln_107, tn_108, ln_108, tn_109, ln_109, tn_110, ln_110, tn_111, ln_111, tn_112, ln_112, tn_113, ln_113, ob_114, tn_115, ln_115, tn_116, ln_116, tn_117, ln_117, tn_118, ln_118, tn_119, ln_119, tn_120, ln_120, tn_121, ln_121, tn_122, ln_122, tn_123, ln_123, ob_124, tn_125, ln_125, tn_126, ln_126, tn_127, ln_127, tn_128, ln_128, tn_129, ln_129, tn_130, ln_130, tn_131, ln_131, tn_132, ln_132, tn_133, ln_133, ob_134, tn_135, ln_135, tn_136, ln_136, tn_137, ln_137, tn_138, ln_138, tn_139, ln_139, tn_140, ln_140, tn_141, ln_141, tn_142, ln_142, tn_143, ln_143, ob_144, tn_145, ln_145, tn_146, ln_146, tn_147, ln_147, tn_148, ln_148, tn_149, ln_149, tn_150, ln_150, tn_151, ln_151, tn_152, ln_152, tn_153, ln_153, ob_154, tn_155, ln_155, tn_156, ln_156, tn_157, ln_157, tn_158, ln_158, tn_159, ln_159, tn_160, ln_160, tn_161, ln_161, tn_162, ln_162, tn_163, ln_163, ob_164, tn_165, ln_165, tn_166, ln_166, ob_167, tn_168, ln_168, tn_169, ln_169, tn_170, ln_170, tn_171, ln_171, tn_172, ln_172, tn_173, ln_173, tn_174, ln_174, tn_175, ln_175, tn_176, ln_176, ob_177, tn_178, ln_178, tn_179, ln_179, ob_180, tn_181, ln_181, tn_182, ln_182, tn_183, ln_183, tn_184, ln_184, tn_185, ln_185, tn_186, ln_186, tn_187, ln_187, tn_188, ln_188, tn_189, ln_189, tn_190, ln_190, tn_191, ln_191, tn_192, ln_192, tn_193, ln_193, tn_194, ln_194, tn_195, ln_195, tn_196, ln_196, tn_197, ln_197, tn_198, ln_198, tn_199, ln_199, tn_200, ln_200, tn_201, ln_201, tn_202, ln_202, tn_203, ln_203, tn_204, ln_204, tn_205, ln_205, tn_206, ln_206, tn_207, ln_207, tn_208, ln_208, tn_209, ln_209, tn_210, ln_210, tn_211, ln_211, tn_212, ln_212, tn_213, ln_213, tn_214, ln_214, tn_215, ln_215, tn_216, ln_216, tn_217, ln_217, tn_218, ln_218, tn_219, ln_219, tn_220, ln_220, tn_221, ln_221, tn_222, ln_222, tn_223, ln_223, tn_224, ln_224, tn_225, ln_225, tn_226, ln_226, tn_227, ln_227, tn_228, ln_228, tn_229, ln_229, tn_230, ln_230, lx2, lx3, lx4, lx5, lx6, lx7, lx8, lx9, lx10, lx14, lx15, lx16, lx18, lx20, lx24, lx25, lx27, lx32, lx36, lx40, lx41, lx42, lx43, lx45, lx48, lx52, lx54, lx56, lx57, lx58, lx60, lx61, lx62, lx63, lx64, lx66, lx69, lx73, lx80, lx81, lx84, lx85, lx87, lx94, lx96, lx97, lx120, lx128, lx135, lx160, lx162, lx163, lx165, lx200, lx232, lx242, lx243, lx255, lx256, lx320, lx325, lx400, lx405, lx464, lx512, lx600, lx640, lx752, lx900, lx940, lx1000, lx1024, lx1764, lx3360, lx3840, lx5000, lx6400, lx9050, lx9998, lx9999, lx10000, lx25600, lx76800, lx99999, bI_t]
      refine ⟨fun e => no (fun z => (by rw [bt_t z.2] at e; cases e)), fun e => ?_⟩
      have b2 : frT v i j := Classical.byContradiction fun w => e (bt_f w)
      have ej : nI j = cI j := (if_neg (by omega)).symm
      refine ⟨rfl, v, _, i, j, ⟨hU, hl, hg⟩, rfl, ej, hi, hi1, Or.inr ⟨by omega, hD, b2⟩, fun C hC bC => nxt C hC (gQ_congr bC.2.2 fun l Q => ?_)⟩
      rw [sx, sx]
      constructor
      · rintro ((w | ⟨j', w1, w2⟩) | w)
        · exact Or.inl w
        · exact Or.inr ⟨j', by omega, w2⟩
        · exact Or.inr ⟨j, by omega, d, b2, w⟩
      · rintro (w | ⟨j', w1, w2, w3, w4⟩)
        · exact Or.inl (Or.inl w)
        · by_cases e2 : j' = j
          · subst e2; exact Or.inr w4
          · exact Or.inl (Or.inr ⟨j', by omega, w2, w3, w4⟩)
  · rintro q x A P - μ L st B ⟨v, p, b, X, l, o, hG, hl42, h41, hg, hs, rfl, rfl, rfl⟩
    simp (disch := omega) only [k_X12_laysSteps_0, k_X12_laysSteps_12, k_X12_laysSteps_34, k_X12_laysSteps_92, k_X12_laysSteps_147, k_X12_laysSteps_155, k_X12_laysSteps_81, k_X12_laysSteps_133, k_X12_laysSteps_139, k_X12_laysSteps_206, w_RII, x_aload, x_dup, x_iadd, x_icmp_ge, x_icmp_ne, x_if_eq, x_if_ne, x_iinc, x_iload, x_imul, x_istore, x_push, x_vret, y_bast, y_cv2, y_getF, y_getI, y_iald, y_iast, y_putI, xFT, xbool0, xbool1, Nat.reduceAdd, Nat.zero_add, xgl_0, xgl_s, xgl_n, xst_0, xst_1n, xst_1i, xst_1r, xst_1l, xst_s, set_0, set_s, true_and, and_true, xres, xcat_nil, xcat_i, xcat_r, xcat_l, Nat.add_zero, xble0, xble1, xble2, xble3, xble4, xble5, xble6, xble7, xble8, pk_mul, nI_add, nI_1, nI_leI, nI_ltI, nI_eq, n_in, n_cl, z_eq, z_lt, z_le, z_gt, z_ge, z_qe, o_eq, o_lt, o_le, o_gt, o_ge, vp0, vp1, cl0, cl1, n_sub, n_sub1, n_pm1, n_a0, n_0a, ofn, lN0, Nat.reduceLT, Nat.reduceLeDiff, Nat.reduceMul, Nat.reduceSub, Nat.reduceEqDiff, ne_eq, true_implies, false_implies, not_true_eq_false, not_false_eq_true, and_self, and_true, true_and, and_false, false_and, implies_true, if_true, if_false, i00, i10, i01, i11, ob_0, ob_1, tn_2, ln_2, ob_3, tn_4, ln_4, ob_5, tn_6, ln_6, tn_7, ln_7, ob_8, tn_9, ln_9, tn_10, ln_10, tn_11, ln_11, tn_12, ln_12, tn_13, ln_13, tn_14, ln_14, tn_15, ln_15, tn_16, ln_16, tn_17, ln_17, ob_18, tn_19, ln_19, tn_20, ln_20, tn_21, ln_21, tn_22, ln_22, tn_23, ln_23, tn_24, ln_24, tn_25, ln_25, tn_26, ln_26, tn_27, ln_27, ob_28, tn_29, ln_29, tn_30, ln_30, ob_31, tn_32, ln_32, tn_33, ln_33, ob_34, ob_35, tn_36, ln_36, tn_37, ln_37, tn_38, ln_38, ob_39, tn_40, ln_40, tn_41, ln_41, tn_42, ln_42, tn_43, ln_43, tn_44, ln_44, tn_45, ln_45, tn_46, ln_46, tn_47, ln_47, tn_48, ln_48, tn_49, ln_49, tn_50, ln_50, tn_51, ln_51, ob_52, tn_53, ln_53, tn_54, ln_54, tn_55, ln_55, tn_56, ln_56, ob_57, tn_58, ln_58, tn_59, ln_59, tn_60, ln_60, tn_61, ln_61, tn_62, ln_62, tn_63, ln_63, tn_64, ln_64, tn_65, ln_65, ob_66, tn_67, ln_67, tn_68, ln_68, tn_69, ln_69, tn_70, ln_70, tn_71, ln_71, tn_72, ln_72, tn_73, ln_73, ob_74, tn_75, ln_75, tn_76, ln_76, tn_77, ln_77, tn_78, ln_78, tn_79, ln_79, tn_80, ln_80, tn_81, ln_81, tn_82, ln_82, tn_83, ln_83, ob_84, tn_85, ln_85, tn_86, ln_86, tn_87, ln_87, tn_88, ln_88, tn_89, ln_89, tn_90, ln_90, tn_91, ln_91, tn_92, ln_92, tn_93, ln_93, ob_94, tn_95, ln_95, tn_96, ln_96, tn_97, ln_97, tn_98, ln_98, tn_99, ln_99, tn_100, ln_100, tn_101, ln_101, tn_102, ln_102, tn_103, ln_103, ob_104, tn_105, ln_105, tn_106, ln_106, tn_107, ln_107, tn_108, ln_108, tn_109, ln_109, tn_110, ln_110, tn_111, ln_111, tn_112, ln_112, tn_113, ln_113, ob_114, tn_115, ln_115, tn_116, ln_116, tn_117, ln_117, tn_118, ln_118, tn_119, ln_119, tn_120, ln_120, tn_121, ln_121, tn_122, ln_122, tn_123, ln_123, ob_124, tn_125, ln_125, tn_126, ln_126, tn_127, ln_127, tn_128, ln_128, tn_129, ln_129, tn_130, ln_130, tn_131, ln_131, tn_132, ln_132, tn_133, ln_133, ob_134, tn_135, ln_135, tn_136, ln_136, tn_137, ln_137, tn_138, ln_138, tn_139, ln_139, tn_140, ln_140, tn_141, ln_141, tn_142, ln_142, tn_143, ln_143, ob_144, tn_145, ln_145, tn_146, ln_146, tn_147, ln_147, tn_148, ln_148, tn_149, ln_149, tn_150, ln_150, tn_151, ln_151, tn_152, ln_152, tn_153, ln_153, ob_154, tn_155, ln_155, tn_156, ln_156, tn_157, ln_157, tn_158, ln_158, tn_159, ln_159, tn_160, ln_160, tn_161, ln_161, tn_162, ln_162, tn_163, ln_163, ob_164, tn_165, ln_165, tn_166, ln_166, ob_167, tn_168, ln_168, tn_169, ln_169, tn_170, ln_170, tn_171, ln_171, tn_172, ln_172, tn_173, ln_173, tn_174, ln_174, tn_175, ln_175, tn_176, ln_176, ob_177, tn_178, ln_178, tn_179, ln_179, ob_180, tn_181, ln_181, tn_182, ln_182, tn_183, ln_183, tn_184, ln_184, tn_185, ln_185, tn_186, ln_186, tn_187, ln_187, tn_188, ln_188, tn_189, ln_189, tn_190, ln_190, tn_191, ln_191, tn_192, ln_192, tn_193, ln_193, tn_194, ln_194, tn_195, ln_195, tn_196, ln_196, tn_197, ln_197, tn_198, ln_198, tn_199, ln_199, tn_200, ln_200, tn_201, ln_201, tn_202, ln_202, tn_203, ln_203, tn_204, ln_204, tn_205, ln_205, tn_206, ln_206, tn_207, ln_207, tn_208, ln_208, tn_209, ln_209, tn_210, ln_210, tn_211, ln_211, tn_212, ln_212, tn_213, ln_213, tn_214, ln_214, tn_215, ln_215, tn_216, ln_216, tn_217, ln_217, tn_218, ln_218, tn_219, ln_219, tn_220, ln_220, tn_221, ln_221, tn_222, ln_222, tn_223, ln_223, tn_224, ln_224, tn_225, ln_225, tn_226, ln_226, tn_227, ln_227, tn_228, ln_228, tn_229, ln_229, tn_230, ln_230, lx2, lx3, lx4, lx5, lx6, lx7, lx8, lx9, lx10, lx14, lx15, lx16, lx18, lx20, lx24, lx25, lx27, lx32, lx36, lx40, lx41, lx42, lx43, lx45, lx48, lx52, lx54, lx56, lx57, lx58, lx60, lx61, lx62, lx63, lx64, lx66, lx69, lx73, lx80, lx81, lx84, lx85, lx87, lx94, lx96, lx97, lx120, lx128, lx135, lx160, lx162, lx163, lx165, lx200, lx232, lx242, lx243, lx255, lx256, lx320, lx325, lx400, lx405, lx464, lx512, lx600, lx640, lx752, lx900, lx940, lx1000, lx1024, lx1764, lx3360, lx3840, lx5000, lx6400, lx9050, lx9998, lx9999, lx10000, lx25600, lx76800, lx99999]
    refine ⟨fun a => ?_, fun a => ?_⟩
    · have e : l = 42 := by omega
      subst e
      exact hG.2.2.2.1 B hG.2.2.2.2.1 hG.2.2.2.2.2.1 hG.2.2.2.2.2.2.1 h41 hs
    · exact xB3 (d := 80 - 0) (by omega) ⟨v, p, b, X, l, 0, hG, by omega, Nat.zero_le _, h41, hg, hs, rfl, rfl, rfl⟩
  · rintro q x A P - μ L st B ⟨v, p, b, X, l, q', hG, hl42, hq, h41, hg, hs, rfl, rfl, rfl⟩
    have hG0 := hG
    obtain ⟨hX, hb2, hc, hP, hF, hL, h198, hU, hl⟩ := hG
    have hp80 := plA_80 hl hX
    have h80 := hl.2.1
    have c1 : cb (tY v p) (128 * l + q') ≤ 960 := Nat.le_trans (cb_mono _ (by omega)) hc
    simp (disch := omega) only [k_X12_laysSteps_0, k_X12_laysSteps_12, k_X12_laysSteps_34, k_X12_laysSteps_92, k_X12_laysSteps_147, k_X12_laysSteps_155, k_X12_laysSteps_81, k_X12_laysSteps_133, k_X12_laysSteps_139, k_X12_laysSteps_206, w_RII, x_aload, x_dup, x_iadd, x_icmp_ge, x_icmp_ne, x_if_eq, x_if_ne, x_iinc, x_iload, x_imul, x_istore, x_push, x_vret, y_bast, y_cv2, y_getF, y_getI, y_iald, y_iast, y_putI, xFT, xbool0, xbool1, Nat.reduceAdd, Nat.zero_add, xgl_0, xgl_s, xgl_n, xst_0, xst_1n, xst_1i, xst_1r, xst_1l, xst_s, set_0, set_s, true_and, and_true, xres, xcat_nil, xcat_i, xcat_r, xcat_l, Nat.add_zero, xble0, xble1, xble2, xble3, xble4, xble5, xble6, xble7, xble8, pk_mul, nI_add, nI_1, nI_leI, nI_ltI, nI_eq, n_in, n_cl, z_eq, z_lt, z_le, z_gt, z_ge, z_qe, o_eq, o_lt, o_le, o_gt, o_ge, vp0, vp1, cl0, cl1, n_sub, n_sub1, n_pm1, n_a0, n_0a, ofn, lN0, Nat.reduceLT, Nat.reduceLeDiff, Nat.reduceMul, Nat.reduceSub, Nat.reduceEqDiff, ne_eq, true_implies, false_implies, not_true_eq_false, not_false_eq_true, and_self, and_true, true_and, and_false, false_and, implies_true, if_true, if_false, i00, i10, i01, i11, ob_0, ob_1, tn_2, ln_2, ob_3, tn_4, ln_4, ob_5, tn_6, ln_6, tn_7, ln_7, ob_8, tn_9, ln_9, tn_10, ln_10, tn_11, ln_11, tn_12, ln_12, tn_13, ln_13, tn_14, ln_14, tn_15, ln_15, tn_16, ln_16, tn_17, ln_17, ob_18, tn_19, ln_19, tn_20, ln_20, tn_21, ln_21, tn_22, ln_22, tn_23, ln_23, tn_24, ln_24, tn_25, ln_25, tn_26, ln_26, tn_27, ln_27, ob_28, tn_29, ln_29, tn_30, ln_30, ob_31, tn_32, ln_32, tn_33, ln_33, ob_34, ob_35, tn_36, ln_36, tn_37, ln_37, tn_38, ln_38, ob_39, tn_40, ln_40, tn_41, ln_41, tn_42, ln_42, tn_43, ln_43, tn_44, ln_44, tn_45, ln_45, tn_46, ln_46, tn_47, ln_47, tn_48, ln_48, tn_49, ln_49, tn_50, ln_50, tn_51, ln_51, ob_52, tn_53, ln_53, tn_54, ln_54, tn_55, ln_55, tn_56, ln_56, ob_57, tn_58, ln_58, tn_59, ln_59, tn_60, ln_60, tn_61, ln_61, tn_62, ln_62, tn_63, ln_63, tn_64, ln_64, tn_65, ln_65, ob_66, tn_67, ln_67, tn_68, ln_68, tn_69, ln_69, tn_70, ln_70, tn_71, ln_71, tn_72, ln_72, tn_73, ln_73, ob_74, tn_75, ln_75, tn_76, ln_76, tn_77, ln_77, tn_78, ln_78, tn_79, ln_79, tn_80, ln_80, tn_81, ln_81, tn_82, ln_82, tn_83, ln_83, ob_84, tn_85, ln_85, tn_86, ln_86, tn_87, ln_87, tn_88, ln_88, tn_89, ln_89, tn_90, ln_90, tn_91, ln_91, tn_92, ln_92, tn_93, ln_93, ob_94, tn_95, ln_95, tn_96, ln_96, tn_97, ln_97, tn_98, ln_98, tn_99, ln_99, tn_100, ln_100, tn_101, ln_101, tn_102, ln_102, tn_103, ln_103, ob_104, tn_105, ln_105, tn_106, ln_106, tn_107, ln_107, tn_108, ln_108, tn_109, ln_109, tn_110, ln_110, tn_111, ln_111, tn_112, ln_112, tn_113, ln_113, ob_114, tn_115, ln_115, tn_116, ln_116, tn_117, ln_117, tn_118, ln_118, tn_119, ln_119, tn_120, ln_120, tn_121, ln_121, tn_122, ln_122, tn_123, ln_123, ob_124, tn_125, ln_125, tn_126, ln_126, tn_127, ln_127, tn_128, ln_128, tn_129, ln_129, tn_130, ln_130, tn_131, ln_131, tn_132, ln_132, tn_133, ln_133, ob_134, tn_135, ln_135, tn_136, ln_136, tn_137, ln_137, tn_138, ln_138, tn_139, ln_139, tn_140, ln_140, tn_141, ln_141, tn_142, ln_142, tn_143, ln_143, ob_144, tn_145, ln_145, tn_146, ln_146, tn_147, ln_147, tn_148, ln_148, tn_149, ln_149, tn_150, ln_150, tn_151, ln_151, tn_152, ln_152, tn_153, ln_153, ob_154, tn_155, ln_155, tn_156, ln_156, tn_157, ln_157, tn_158, ln_158, tn_159, ln_159, tn_160, ln_160, tn_161, ln_161, tn_162, ln_162, tn_163, ln_163, ob_164, tn_165, ln_165, tn_166, ln_166, ob_167, tn_168, ln_168, tn_169, ln_169, tn_170, ln_170, tn_171, ln_171, tn_172, ln_172, tn_173, ln_173, tn_174, ln_174, tn_175, ln_175, tn_176, ln_176, ob_177, tn_178, ln_178, tn_179, ln_179, ob_180, tn_181, ln_181, tn_182, ln_182, tn_183, ln_183, tn_184, ln_184, tn_185, ln_185, tn_186, ln_186, tn_187, ln_187, tn_188, ln_188, tn_189, ln_189, tn_190, ln_190, tn_191, ln_191, tn_192, ln_192, tn_193, ln_193, tn_194, ln_194, tn_195, ln_195, tn_196, ln_196, tn_197, ln_197, tn_198, ln_198, tn_199, ln_199, tn_200, ln_200, tn_201, ln_201, tn_202, ln_202, tn_203, ln_203, tn_204, ln_204, tn_205, ln_205, tn_206, ln_206, tn_207, ln_207, tn_208, ln_208, tn_209, ln_209, tn_210, ln_210, tn_211, ln_211, tn_212, ln_212, tn_213, ln_213, tn_214, ln_214, tn_215, ln_215, tn_216, ln_216, tn_217, ln_217, tn_218, ln_218, tn_219, ln_219, tn_220, ln_220, tn_221, ln_221, tn_222, ln_222, tn_223, ln_223, tn_224, ln_224, tn_225, ln_225, tn_226, ln_226, tn_227, ln_227, tn_228, ln_228, tn_229, ln_229, tn_230, ln_230, lx2, lx3, lx4, lx5, lx6, lx7, lx8, lx9, lx10, lx14, lx15, lx16, lx18, lx20, lx24, lx25, lx27, lx32, lx36, lx40, lx41, lx42, lx43, lx45, lx48, lx52, lx54, lx56, lx57, lx58, lx60, lx61, lx62, lx63, lx64, lx66, lx69, lx73, lx80, lx81, lx84, lx85, lx87, lx94, lx96, lx97, lx120, lx128, lx135, lx160, lx162, lx163, lx165, lx200, lx232, lx242, lx243, lx255, lx256, lx320, lx325, lx400, lx405, lx464, lx512, lx600, lx640, lx752, lx900, lx940, lx1000, lx1024, lx1764, lx3360, lx3840, lx5000, lx6400, lx9050, lx9998, lx9999, lx10000, lx25600, lx76800, lx99999, hl.1, h41]
    have eqq : 80 * l + q' = l * 80 + q' := by rw [Nat.mul_comm]
    rw [eqq]
    refine ⟨fun a => ?_, fun a => ⟨by omega, fun d => ?_, fun d => ?_⟩⟩
    · have e : q' = (plL v).length := by omega
      have fl : ∀ y, 128 * l + q' ≤ y → y < 128 * (l + 1) → tY v p y = false := fun y h1 h2 => tY_no (by omega)
      refine xB2 (c := 42 - (l + 1)) (by omega) ⟨v, p, b, X, l + 1, _, hG0, by omega, ?_, hg, fun y hy ht => ?_, rfl, rfl, rfl⟩
      · rw [cb_flat (a := 128 * l + q') (b := 128 * (l + 1)) (by omega) fl]; exact h41
      · refine hs y ?_ ht
        apply Classical.byContradiction
        intro w
        rw [fl y (by omega) hy] at ht
        cases ht
    · have hQ := plg_at (v := v) (p := q') (by omega)
      have g1 := hg l q' _ hl42 hQ
      have t1 : tY v p (128 * l + q') = true := (tY_at hX hQ (by omega)).mpr (g1.2.mp (g1.1.resolve_left d))
      have e1 : cb (tY v p) (128 * l + q' + 1) = cb (tY v p) (128 * l + q') + 1 := by rw [cb_s, t1]; rfl
      have c2 : cb (tY v p) (128 * l + q' + 1) ≤ 960 := Nat.le_trans (cb_mono _ (by omega)) hc
      refine ⟨by omega, ?_⟩
      refine xB3 (d := 80 - (q' + 1)) (by omega) ⟨v, p, b, X, l, q' + 1, lsG_w hG0 (fr_si (fr_si fr_rf (by unfold SLs; omega)) (by unfold SLs; omega)) (fun k => ?_) (fun k hk => ?_), hl42, by omega, ?_, fun l' q2 Q hl' hq2 => ?_, fun y hy ht => ?_, rfl, rfl, rfl⟩
      · rw [si_ne (by omega), si_ne (by omega)]
      · rw [si_ne (by omega), si_ne (by omega)]
      · rw [si_eq, si_ne (by omega), h41, nI_1, ← Nat.add_assoc (128 * l), e1]; rfl
      · rw [si_ne (by omega), si_ne (by omega)]; exact hg l' q2 Q hl' hq2
      · by_cases e : y = 128 * l + q'
        · subst e
          rw [si_ne (by omega), si_eq]
        · have hlt : y < 128 * l + q' := by omega
          have := cb_mono (tY v p) (show y + 1 ≤ 128 * l + q' by omega)
          rw [cb_s, ht] at this
          simp only [Bool.toNat_true] at this
          rw [si_ne (by omega), si_ne (by omega)]
          exact hs y hlt ht
    · have hQ := plg_at (v := v) (p := q') (by omega)
      have g1 := hg l q' _ hl42 hQ
      have t1 : tY v p (128 * l + q') = false := by
        cases w : tY v p (128 * l + q')
        · rfl
        · have := g1.2.mpr ((tY_at hX hQ (by omega)).mp w)
          rw [this] at d
          exact absurd d (by decide)
      have e1 : cb (tY v p) (128 * l + q' + 1) = cb (tY v p) (128 * l + q') := by rw [cb_s, t1]; rfl
      refine xB3 (d := 80 - (q' + 1)) (by omega) ⟨v, p, b, X, l, q' + 1, hG0, hl42, by omega, ?_, hg, fun y hy ht => ?_, rfl, rfl, rfl⟩
      · rw [← Nat.add_assoc (128 * l), e1]; exact h41
      · by_cases e : y = 128 * l + q'
        · subst e; rw [t1] at ht; cases ht
        · exact hs y (by omega) ht

