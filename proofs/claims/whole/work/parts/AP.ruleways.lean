/-! ===== the class's ruleWays, kindWays ===== -/
theorem d_X1_ruleWays_0 : decode cX1_ruleWays 0 = .ok (.aload_n 0, 1) := by decide +kernel
theorem d_X1_ruleWays_1 : decode cX1_ruleWays 1 = .ok (.getfield 81, 3) := by decide +kernel
theorem d_X1_ruleWays_4 : decode cX1_ruleWays 4 = .ok (.iload_n 1, 1) := by decide +kernel
theorem d_X1_ruleWays_5 : decode cX1_ruleWays 5 = .ok (.iconst 0, 1) := by decide +kernel
theorem d_X1_ruleWays_6 : decode cX1_ruleWays 6 = .ok (.invokevirtual 108, 3) := by decide +kernel
theorem d_X1_ruleWays_9 : decode cX1_ruleWays 9 = .ok (.istore 5, 2) := by decide +kernel
theorem d_X1_ruleWays_11 : decode cX1_ruleWays 11 = .ok (.aload_n 0, 1) := by decide +kernel
theorem d_X1_ruleWays_12 : decode cX1_ruleWays 12 = .ok (.getfield 81, 3) := by decide +kernel
theorem d_X1_ruleWays_15 : decode cX1_ruleWays 15 = .ok (.iload_n 1, 1) := by decide +kernel
theorem d_X1_ruleWays_16 : decode cX1_ruleWays 16 = .ok (.iconst 1, 1) := by decide +kernel
theorem d_X1_ruleWays_17 : decode cX1_ruleWays 17 = .ok (.invokevirtual 108, 3) := by decide +kernel
theorem d_X1_ruleWays_20 : decode cX1_ruleWays 20 = .ok (.istore 6, 2) := by decide +kernel
theorem d_X1_ruleWays_22 : decode cX1_ruleWays 22 = .ok (.aload_n 0, 1) := by decide +kernel
theorem d_X1_ruleWays_23 : decode cX1_ruleWays 23 = .ok (.getfield 81, 3) := by decide +kernel
theorem d_X1_ruleWays_26 : decode cX1_ruleWays 26 = .ok (.iload_n 1, 1) := by decide +kernel
theorem d_X1_ruleWays_27 : decode cX1_ruleWays 27 = .ok (.iconst 2, 1) := by decide +kernel
theorem d_X1_ruleWays_28 : decode cX1_ruleWays 28 = .ok (.invokevirtual 108, 3) := by decide +kernel
theorem d_X1_ruleWays_31 : decode cX1_ruleWays 31 = .ok (.istore 7, 2) := by decide +kernel
theorem d_X1_ruleWays_33 : decode cX1_ruleWays 33 = .ok (.iconst 0, 1) := by decide +kernel
theorem d_X1_ruleWays_34 : decode cX1_ruleWays 34 = .ok (.istore 8, 2) := by decide +kernel
theorem d_X1_ruleWays_36 : decode cX1_ruleWays 36 = .ok (.iload 6, 2) := by decide +kernel
theorem d_X1_ruleWays_38 : decode cX1_ruleWays 38 = .ok (.iconst (-1), 1) := by decide +kernel
theorem d_X1_ruleWays_39 : decode cX1_ruleWays 39 = .ok (.if_icmp .ne 7, 3) := by decide +kernel
theorem d_X1_ruleWays_42 : decode cX1_ruleWays 42 = .ok (.iload_n 3, 1) := by decide +kernel
theorem d_X1_ruleWays_43 : decode cX1_ruleWays 43 = .ok (.goto 4, 3) := by decide +kernel
theorem d_X1_ruleWays_46 : decode cX1_ruleWays 46 = .ok (.iload_n 2, 1) := by decide +kernel
theorem d_X1_ruleWays_47 : decode cX1_ruleWays 47 = .ok (.istore 9, 2) := by decide +kernel
theorem d_X1_ruleWays_49 : decode cX1_ruleWays 49 = .ok (.iload 9, 2) := by decide +kernel
theorem d_X1_ruleWays_51 : decode cX1_ruleWays 51 = .ok (.iload_n 3, 1) := by decide +kernel
theorem d_X1_ruleWays_52 : decode cX1_ruleWays 52 = .ok (.if_icmp .gt 139, 3) := by decide +kernel
theorem d_X1_ruleWays_55 : decode cX1_ruleWays 55 = .ok (.aload_n 0, 1) := by decide +kernel
theorem d_X1_ruleWays_56 : decode cX1_ruleWays 56 = .ok (.iload 5, 2) := by decide +kernel
theorem d_X1_ruleWays_58 : decode cX1_ruleWays 58 = .ok (.iload_n 2, 1) := by decide +kernel
theorem d_X1_ruleWays_59 : decode cX1_ruleWays 59 = .ok (.iload 9, 2) := by decide +kernel
theorem d_X1_ruleWays_61 : decode cX1_ruleWays 61 = .ok (.iload 9, 2) := by decide +kernel
theorem d_X1_ruleWays_63 : decode cX1_ruleWays 63 = .ok (.iload_n 3, 1) := by decide +kernel
theorem d_X1_ruleWays_64 : decode cX1_ruleWays 64 = .ok (.if_icmp .ne 7, 3) := by decide +kernel
theorem d_X1_ruleWays_67 : decode cX1_ruleWays 67 = .ok (.iconst 1, 1) := by decide +kernel
theorem d_X1_ruleWays_68 : decode cX1_ruleWays 68 = .ok (.goto 4, 3) := by decide +kernel
theorem d_X1_ruleWays_71 : decode cX1_ruleWays 71 = .ok (.iconst 0, 1) := by decide +kernel
theorem d_X1_ruleWays_72 : decode cX1_ruleWays 72 = .ok (.iload 4, 2) := by decide +kernel
theorem d_X1_ruleWays_74 : decode cX1_ruleWays 74 = .ok (.invokevirtual 128, 3) := by decide +kernel
theorem d_X1_ruleWays_77 : decode cX1_ruleWays 77 = .ok (.istore 10, 2) := by decide +kernel
theorem d_X1_ruleWays_79 : decode cX1_ruleWays 79 = .ok (.iload 7, 2) := by decide +kernel
theorem d_X1_ruleWays_81 : decode cX1_ruleWays 81 = .ok (.iconst (-1), 1) := by decide +kernel
theorem d_X1_ruleWays_82 : decode cX1_ruleWays 82 = .ok (.if_icmp .ne 7, 3) := by decide +kernel
theorem d_X1_ruleWays_85 : decode cX1_ruleWays 85 = .ok (.iload_n 3, 1) := by decide +kernel
theorem d_X1_ruleWays_86 : decode cX1_ruleWays 86 = .ok (.goto 5, 3) := by decide +kernel
theorem d_X1_ruleWays_89 : decode cX1_ruleWays 89 = .ok (.iload 9, 2) := by decide +kernel
theorem d_X1_ruleWays_91 : decode cX1_ruleWays 91 = .ok (.istore 11, 2) := by decide +kernel
theorem d_X1_ruleWays_93 : decode cX1_ruleWays 93 = .ok (.iload 11, 2) := by decide +kernel
theorem d_X1_ruleWays_95 : decode cX1_ruleWays 95 = .ok (.iload_n 3, 1) := by decide +kernel
theorem d_X1_ruleWays_96 : decode cX1_ruleWays 96 = .ok (.if_icmp .gt 89, 3) := by decide +kernel
theorem d_X1_ruleWays_99 : decode cX1_ruleWays 99 = .ok (.iload 10, 2) := by decide +kernel
theorem d_X1_ruleWays_101 : decode cX1_ruleWays 101 = .ok (.ifCond .eq 84, 3) := by decide +kernel
theorem d_X1_ruleWays_104 : decode cX1_ruleWays 104 = .ok (.aload_n 0, 1) := by decide +kernel
theorem d_X1_ruleWays_105 : decode cX1_ruleWays 105 = .ok (.iload 6, 2) := by decide +kernel
theorem d_X1_ruleWays_107 : decode cX1_ruleWays 107 = .ok (.iload 9, 2) := by decide +kernel
theorem d_X1_ruleWays_109 : decode cX1_ruleWays 109 = .ok (.iload 11, 2) := by decide +kernel
theorem d_X1_ruleWays_111 : decode cX1_ruleWays 111 = .ok (.iload 9, 2) := by decide +kernel
theorem d_X1_ruleWays_113 : decode cX1_ruleWays 113 = .ok (.iload_n 2, 1) := by decide +kernel
theorem d_X1_ruleWays_114 : decode cX1_ruleWays 114 = .ok (.if_icmp .ne 13, 3) := by decide +kernel
theorem d_X1_ruleWays_117 : decode cX1_ruleWays 117 = .ok (.iload 11, 2) := by decide +kernel
theorem d_X1_ruleWays_119 : decode cX1_ruleWays 119 = .ok (.iload_n 3, 1) := by decide +kernel
theorem d_X1_ruleWays_120 : decode cX1_ruleWays 120 = .ok (.if_icmp .ne 7, 3) := by decide +kernel
theorem d_X1_ruleWays_123 : decode cX1_ruleWays 123 = .ok (.iconst 1, 1) := by decide +kernel
theorem d_X1_ruleWays_124 : decode cX1_ruleWays 124 = .ok (.goto 4, 3) := by decide +kernel
theorem d_X1_ruleWays_127 : decode cX1_ruleWays 127 = .ok (.iconst 0, 1) := by decide +kernel
theorem d_X1_ruleWays_128 : decode cX1_ruleWays 128 = .ok (.iload 4, 2) := by decide +kernel
theorem d_X1_ruleWays_130 : decode cX1_ruleWays 130 = .ok (.invokevirtual 128, 3) := by decide +kernel
theorem d_X1_ruleWays_133 : decode cX1_ruleWays 133 = .ok (.istore 12, 2) := by decide +kernel
theorem d_X1_ruleWays_135 : decode cX1_ruleWays 135 = .ok (.iload 12, 2) := by decide +kernel
theorem d_X1_ruleWays_137 : decode cX1_ruleWays 137 = .ok (.ifCond .eq 42, 3) := by decide +kernel
theorem d_X1_ruleWays_140 : decode cX1_ruleWays 140 = .ok (.iload 8, 2) := by decide +kernel
theorem d_X1_ruleWays_142 : decode cX1_ruleWays 142 = .ok (.iload 10, 2) := by decide +kernel
theorem d_X1_ruleWays_144 : decode cX1_ruleWays 144 = .ok (.iload 12, 2) := by decide +kernel
theorem d_X1_ruleWays_146 : decode cX1_ruleWays 146 = .ok (.imul, 1) := by decide +kernel
theorem d_X1_ruleWays_147 : decode cX1_ruleWays 147 = .ok (.invokestatic 118, 3) := by decide +kernel
theorem d_X1_ruleWays_150 : decode cX1_ruleWays 150 = .ok (.aload_n 0, 1) := by decide +kernel
theorem d_X1_ruleWays_151 : decode cX1_ruleWays 151 = .ok (.iload 7, 2) := by decide +kernel
theorem d_X1_ruleWays_153 : decode cX1_ruleWays 153 = .ok (.iload 11, 2) := by decide +kernel
theorem d_X1_ruleWays_155 : decode cX1_ruleWays 155 = .ok (.iload_n 3, 1) := by decide +kernel
theorem d_X1_ruleWays_156 : decode cX1_ruleWays 156 = .ok (.iload 11, 2) := by decide +kernel
theorem d_X1_ruleWays_158 : decode cX1_ruleWays 158 = .ok (.iload_n 2, 1) := by decide +kernel
theorem d_X1_ruleWays_159 : decode cX1_ruleWays 159 = .ok (.if_icmp .ne 7, 3) := by decide +kernel
theorem d_X1_ruleWays_162 : decode cX1_ruleWays 162 = .ok (.iconst 1, 1) := by decide +kernel
theorem d_X1_ruleWays_163 : decode cX1_ruleWays 163 = .ok (.goto 4, 3) := by decide +kernel
theorem d_X1_ruleWays_166 : decode cX1_ruleWays 166 = .ok (.iconst 0, 1) := by decide +kernel
theorem d_X1_ruleWays_167 : decode cX1_ruleWays 167 = .ok (.iload 4, 2) := by decide +kernel
theorem d_X1_ruleWays_169 : decode cX1_ruleWays 169 = .ok (.invokevirtual 128, 3) := by decide +kernel
theorem d_X1_ruleWays_172 : decode cX1_ruleWays 172 = .ok (.imul, 1) := by decide +kernel
theorem d_X1_ruleWays_173 : decode cX1_ruleWays 173 = .ok (.iadd, 1) := by decide +kernel
theorem d_X1_ruleWays_174 : decode cX1_ruleWays 174 = .ok (.invokestatic 118, 3) := by decide +kernel
theorem d_X1_ruleWays_177 : decode cX1_ruleWays 177 = .ok (.istore 8, 2) := by decide +kernel
theorem d_X1_ruleWays_179 : decode cX1_ruleWays 179 = .ok (.iinc 11 1, 3) := by decide +kernel
theorem d_X1_ruleWays_182 : decode cX1_ruleWays 182 = .ok (.goto (-89), 3) := by decide +kernel
theorem d_X1_ruleWays_185 : decode cX1_ruleWays 185 = .ok (.iinc 9 1, 3) := by decide +kernel
theorem d_X1_ruleWays_188 : decode cX1_ruleWays 188 = .ok (.goto (-139), 3) := by decide +kernel
theorem d_X1_ruleWays_191 : decode cX1_ruleWays 191 = .ok (.iload 8, 2) := by decide +kernel
theorem d_X1_ruleWays_193 : decode cX1_ruleWays 193 = .ok (.ireturn, 1) := by decide +kernel
def k_X1_ruleWays_47 (P : xP) (C49 : xK) : xK := x_istore 9 (C49)
set_option maxRecDepth 20000 in
theorem t_X1_ruleWays_47 {p : Program} {l : Launch} {e : Env} {s : State} {m : MethodId} {args : Array Value} {below : List Frame} {meth : Method} {c : Code} {g : xG} (X : xX p s m args c meth cX1_ruleWays RX1 13 g) (hr : meth.sig.returnType = (some .int)) {P : xP} {C49 : xK} (h49 : xAt p l e { frames := 3, cells := 0, slots := 0, locals := 75 } s m args below meth c g 13 xFT xN 0 0 (MQ below (xQc g xFT xN P) args s 0 0 (xFr g)) C49 49) : xAt p l e { frames := 3, cells := 0, slots := 0, locals := 75 } s m args below meth c g 13 xFT xN 0 0 (MQ below (xQc g xFT xN P) args s 0 0 (xFr g)) (k_X1_ruleWays_47 P C49) 47 := by
  unfold k_X1_ruleWays_47
  refine r_istore (pc := 47) X d_X1_ruleWays_47 (by decide +kernel) ?_
  exact h49
def k_X1_ruleWays_0 (P : xP) (C49 : xK) : xK := x_aload 0 (x_getR xN 1 7 (x_iload 1 (x_push (.int 0) (x_cv2 xN 4 (w_RII f_X4_symbolAt) (x_istore 5 (x_aload 0 (x_getR xN 1 7 (x_iload 1 (x_push (.int 1) (x_cv2 xN 4 (w_RII f_X4_symbolAt) (x_istore 6 (x_aload 0 (x_getR xN 1 7 (x_iload 1 (x_push (.int 2) (x_cv2 xN 4 (w_RII f_X4_symbolAt) (x_istore 7 (x_push (.int 0) (x_istore 8 (x_iload 6 (x_push (.int (-1)) (x_icmp_ne (x_iload 2 ((k_X1_ruleWays_47 P C49))) (x_iload 3 ((k_X1_ruleWays_47 P C49)))))))))))))))))))))))))
set_option maxRecDepth 20000 in
theorem t_X1_ruleWays_0 {p : Program} {l : Launch} {e : Env} {s : State} {m : MethodId} {args : Array Value} {below : List Frame} {meth : Method} {c : Code} {g : xG} (X : xX p s m args c meth cX1_ruleWays RX1 13 g) (hr : meth.sig.returnType = (some .int)) {P : xP} {C49 : xK} (h49 : xAt p l e { frames := 3, cells := 0, slots := 0, locals := 75 } s m args below meth c g 13 xFT xN 0 0 (MQ below (xQc g xFT xN P) args s 0 0 (xFr g)) C49 49) : xAt p l e { frames := 3, cells := 0, slots := 0, locals := 75 } s m args below meth c g 13 xFT xN 0 0 (MQ below (xQc g xFT xN P) args s 0 0 (xFr g)) (k_X1_ruleWays_0 P C49) 0 := by
  unfold k_X1_ruleWays_0
  refine r_aload_n (pc := 0) X d_X1_ruleWays_0 fn0 ?_
  refine r_getR (pc := 1) X xok1 (by decide +kernel) (by decide +kernel) fl_RX1_81 d_X1_ruleWays_1 ?_
  refine r_iload_n (pc := 4) X d_X1_ruleWays_4 fn1 ?_
  refine r_iconst (pc := 5) X d_X1_ruleWays_5 (by decide +kernel) ?_
  refine r_cv2 (pc := 6) X xok4 (by decide +kernel) rfl (con_X4_symbolAt l) mf_X4_symbolAt ml_RX1_108 (by decide +kernel) (by decide +kernel) d_X1_ruleWays_6 ?_
  refine r_istore (pc := 9) X d_X1_ruleWays_9 (by decide +kernel) ?_
  refine r_aload_n (pc := 11) X d_X1_ruleWays_11 fn0 ?_
  refine r_getR (pc := 12) X xok1 (by decide +kernel) (by decide +kernel) fl_RX1_81 d_X1_ruleWays_12 ?_
  refine r_iload_n (pc := 15) X d_X1_ruleWays_15 fn1 ?_
  refine r_iconst (pc := 16) X d_X1_ruleWays_16 (by decide +kernel) ?_
  refine r_cv2 (pc := 17) X xok4 (by decide +kernel) rfl (con_X4_symbolAt l) mf_X4_symbolAt ml_RX1_108 (by decide +kernel) (by decide +kernel) d_X1_ruleWays_17 ?_
  refine r_istore (pc := 20) X d_X1_ruleWays_20 (by decide +kernel) ?_
  refine r_aload_n (pc := 22) X d_X1_ruleWays_22 fn0 ?_
  refine r_getR (pc := 23) X xok1 (by decide +kernel) (by decide +kernel) fl_RX1_81 d_X1_ruleWays_23 ?_
  refine r_iload_n (pc := 26) X d_X1_ruleWays_26 fn1 ?_
  refine r_iconst (pc := 27) X d_X1_ruleWays_27 (by decide +kernel) ?_
  refine r_cv2 (pc := 28) X xok4 (by decide +kernel) rfl (con_X4_symbolAt l) mf_X4_symbolAt ml_RX1_108 (by decide +kernel) (by decide +kernel) d_X1_ruleWays_28 ?_
  refine r_istore (pc := 31) X d_X1_ruleWays_31 (by decide +kernel) ?_
  refine r_iconst (pc := 33) X d_X1_ruleWays_33 (by decide +kernel) ?_
  refine r_istore (pc := 34) X d_X1_ruleWays_34 (by decide +kernel) ?_
  refine r_iload (pc := 36) X d_X1_ruleWays_36 ?_
  refine r_iconst (pc := 38) X d_X1_ruleWays_38 (by decide +kernel) ?_
  refine r_icmp_ne (pc := 39) (tgt := 46) X d_X1_ruleWays_39 (by decide +kernel) ?_ ?_
  · refine r_iload_n (pc := 46) X d_X1_ruleWays_46 fn2 ?_
    exact t_X1_ruleWays_47 X hr h49
  · refine r_iload_n (pc := 42) X d_X1_ruleWays_42 fn3 ?_
    refine r_goto (pc := 43) (tgt := 47) X d_X1_ruleWays_43 (by decide +kernel) ?_
    exact t_X1_ruleWays_47 X hr h49
def k_X1_ruleWays_91 (P : xP) (C93 : xK) : xK := x_istore 11 (C93)
set_option maxRecDepth 20000 in
theorem t_X1_ruleWays_91 {p : Program} {l : Launch} {e : Env} {s : State} {m : MethodId} {args : Array Value} {below : List Frame} {meth : Method} {c : Code} {g : xG} (X : xX p s m args c meth cX1_ruleWays RX1 13 g) (hr : meth.sig.returnType = (some .int)) {P : xP} {C93 : xK} (h93 : xAt p l e { frames := 3, cells := 0, slots := 0, locals := 75 } s m args below meth c g 13 xFT xN 0 0 (MQ below (xQc g xFT xN P) args s 0 0 (xFr g)) C93 93) : xAt p l e { frames := 3, cells := 0, slots := 0, locals := 75 } s m args below meth c g 13 xFT xN 0 0 (MQ below (xQc g xFT xN P) args s 0 0 (xFr g)) (k_X1_ruleWays_91 P C93) 91 := by
  unfold k_X1_ruleWays_91
  refine r_istore (pc := 91) X d_X1_ruleWays_91 (by decide +kernel) ?_
  exact h93
def k_X1_ruleWays_72 (P : xP) (C93 : xK) : xK := x_iload 4 (x_cv5 xN 1 (w_RIIIII f_X1_part) (x_istore 10 (x_iload 7 (x_push (.int (-1)) (x_icmp_ne (x_iload 9 ((k_X1_ruleWays_91 P C93))) (x_iload 3 ((k_X1_ruleWays_91 P C93))))))))
set_option maxRecDepth 20000 in
theorem t_X1_ruleWays_72 {p : Program} {l : Launch} {e : Env} {s : State} {m : MethodId} {args : Array Value} {below : List Frame} {meth : Method} {c : Code} {g : xG} (X : xX p s m args c meth cX1_ruleWays RX1 13 g) (hr : meth.sig.returnType = (some .int)) {P : xP} {C93 : xK} (h93 : xAt p l e { frames := 3, cells := 0, slots := 0, locals := 75 } s m args below meth c g 13 xFT xN 0 0 (MQ below (xQc g xFT xN P) args s 0 0 (xFr g)) C93 93) : xAt p l e { frames := 3, cells := 0, slots := 0, locals := 75 } s m args below meth c g 13 xFT xN 0 0 (MQ below (xQc g xFT xN P) args s 0 0 (xFr g)) (k_X1_ruleWays_72 P C93) 72 := by
  unfold k_X1_ruleWays_72
  refine r_iload (pc := 72) X d_X1_ruleWays_72 ?_
  refine r_cv5 (pc := 74) X xok1 (by decide +kernel) rfl (con_X1_part l) mf_X1_part ml_RX1_128 (by decide +kernel) (by decide +kernel) d_X1_ruleWays_74 ?_
  refine r_istore (pc := 77) X d_X1_ruleWays_77 (by decide +kernel) ?_
  refine r_iload (pc := 79) X d_X1_ruleWays_79 ?_
  refine r_iconst (pc := 81) X d_X1_ruleWays_81 (by decide +kernel) ?_
  refine r_icmp_ne (pc := 82) (tgt := 89) X d_X1_ruleWays_82 (by decide +kernel) ?_ ?_
  · refine r_iload (pc := 89) X d_X1_ruleWays_89 ?_
    exact t_X1_ruleWays_91 X hr h93
  · refine r_iload_n (pc := 85) X d_X1_ruleWays_85 fn3 ?_
    refine r_goto (pc := 86) (tgt := 91) X d_X1_ruleWays_86 (by decide +kernel) ?_
    exact t_X1_ruleWays_91 X hr h93
def k_X1_ruleWays_49 (P : xP) (C93 : xK) : xK := x_iload 9 (x_iload 3 (x_icmp_gt (x_iload 8 (x_iret P)) (x_aload 0 (x_iload 5 (x_iload 2 (x_iload 9 (x_iload 9 (x_iload 3 (x_icmp_ne (x_push (.int 0) ((k_X1_ruleWays_72 P C93))) (x_push (.int 1) ((k_X1_ruleWays_72 P C93))))))))))))
set_option maxRecDepth 20000 in
theorem t_X1_ruleWays_49 {p : Program} {l : Launch} {e : Env} {s : State} {m : MethodId} {args : Array Value} {below : List Frame} {meth : Method} {c : Code} {g : xG} (X : xX p s m args c meth cX1_ruleWays RX1 13 g) (hr : meth.sig.returnType = (some .int)) {P : xP} {C93 : xK} (h93 : xAt p l e { frames := 3, cells := 0, slots := 0, locals := 75 } s m args below meth c g 13 xFT xN 0 0 (MQ below (xQc g xFT xN P) args s 0 0 (xFr g)) C93 93) : xAt p l e { frames := 3, cells := 0, slots := 0, locals := 75 } s m args below meth c g 13 xFT xN 0 0 (MQ below (xQc g xFT xN P) args s 0 0 (xFr g)) (k_X1_ruleWays_49 P C93) 49 := by
  unfold k_X1_ruleWays_49
  refine r_iload (pc := 49) X d_X1_ruleWays_49 ?_
  refine r_iload_n (pc := 51) X d_X1_ruleWays_51 fn3 ?_
  refine r_icmp_gt (pc := 52) (tgt := 191) X d_X1_ruleWays_52 (by decide +kernel) ?_ ?_
  · refine r_iload (pc := 191) X d_X1_ruleWays_191 ?_
    exact r_iret (pc := 193) X hr d_X1_ruleWays_193
  · refine r_aload_n (pc := 55) X d_X1_ruleWays_55 fn0 ?_
    refine r_iload (pc := 56) X d_X1_ruleWays_56 ?_
    refine r_iload_n (pc := 58) X d_X1_ruleWays_58 fn2 ?_
    refine r_iload (pc := 59) X d_X1_ruleWays_59 ?_
    refine r_iload (pc := 61) X d_X1_ruleWays_61 ?_
    refine r_iload_n (pc := 63) X d_X1_ruleWays_63 fn3 ?_
    refine r_icmp_ne (pc := 64) (tgt := 71) X d_X1_ruleWays_64 (by decide +kernel) ?_ ?_
    · refine r_iconst (pc := 71) X d_X1_ruleWays_71 (by decide +kernel) ?_
      exact t_X1_ruleWays_72 X hr h93
    · refine r_iconst (pc := 67) X d_X1_ruleWays_67 (by decide +kernel) ?_
      refine r_goto (pc := 68) (tgt := 72) X d_X1_ruleWays_68 (by decide +kernel) ?_
      exact t_X1_ruleWays_72 X hr h93
def k_X1_ruleWays_185 (P : xP) (C49 : xK) : xK := x_iinc 9 1 (C49)
set_option maxRecDepth 20000 in
theorem t_X1_ruleWays_185 {p : Program} {l : Launch} {e : Env} {s : State} {m : MethodId} {args : Array Value} {below : List Frame} {meth : Method} {c : Code} {g : xG} (X : xX p s m args c meth cX1_ruleWays RX1 13 g) (hr : meth.sig.returnType = (some .int)) {P : xP} {C49 : xK} (h49 : xAt p l e { frames := 3, cells := 0, slots := 0, locals := 75 } s m args below meth c g 13 xFT xN 0 0 (MQ below (xQc g xFT xN P) args s 0 0 (xFr g)) C49 49) : xAt p l e { frames := 3, cells := 0, slots := 0, locals := 75 } s m args below meth c g 13 xFT xN 0 0 (MQ below (xQc g xFT xN P) args s 0 0 (xFr g)) (k_X1_ruleWays_185 P C49) 185 := by
  unfold k_X1_ruleWays_185
  refine r_iinc (pc := 185) X d_X1_ruleWays_185 (by decide +kernel) (by decide +kernel) ?_
  refine r_goto (pc := 188) (tgt := 49) X d_X1_ruleWays_188 (by decide +kernel) ?_
  exact h49
def k_X1_ruleWays_179 (P : xP) (C93 : xK) : xK := x_iinc 11 1 (C93)
set_option maxRecDepth 20000 in
theorem t_X1_ruleWays_179 {p : Program} {l : Launch} {e : Env} {s : State} {m : MethodId} {args : Array Value} {below : List Frame} {meth : Method} {c : Code} {g : xG} (X : xX p s m args c meth cX1_ruleWays RX1 13 g) (hr : meth.sig.returnType = (some .int)) {P : xP} {C93 : xK} (h93 : xAt p l e { frames := 3, cells := 0, slots := 0, locals := 75 } s m args below meth c g 13 xFT xN 0 0 (MQ below (xQc g xFT xN P) args s 0 0 (xFr g)) C93 93) : xAt p l e { frames := 3, cells := 0, slots := 0, locals := 75 } s m args below meth c g 13 xFT xN 0 0 (MQ below (xQc g xFT xN P) args s 0 0 (xFr g)) (k_X1_ruleWays_179 P C93) 179 := by
  unfold k_X1_ruleWays_179
  refine r_iinc (pc := 179) X d_X1_ruleWays_179 (by decide +kernel) (by decide +kernel) ?_
  refine r_goto (pc := 182) (tgt := 93) X d_X1_ruleWays_182 (by decide +kernel) ?_
  exact h93
def k_X1_ruleWays_167 (P : xP) (C93 : xK) : xK := x_iload 4 (x_cv5 xN 1 (w_RIIIII f_X1_part) (x_imul (x_iadd (x_cs1 (w_I f_X1_capped) (x_istore 8 ((k_X1_ruleWays_179 P C93)))))))
set_option maxRecDepth 20000 in
theorem t_X1_ruleWays_167 {p : Program} {l : Launch} {e : Env} {s : State} {m : MethodId} {args : Array Value} {below : List Frame} {meth : Method} {c : Code} {g : xG} (X : xX p s m args c meth cX1_ruleWays RX1 13 g) (hr : meth.sig.returnType = (some .int)) {P : xP} {C93 : xK} (h93 : xAt p l e { frames := 3, cells := 0, slots := 0, locals := 75 } s m args below meth c g 13 xFT xN 0 0 (MQ below (xQc g xFT xN P) args s 0 0 (xFr g)) C93 93) : xAt p l e { frames := 3, cells := 0, slots := 0, locals := 75 } s m args below meth c g 13 xFT xN 0 0 (MQ below (xQc g xFT xN P) args s 0 0 (xFr g)) (k_X1_ruleWays_167 P C93) 167 := by
  unfold k_X1_ruleWays_167
  refine r_iload (pc := 167) X d_X1_ruleWays_167 ?_
  refine r_cv5 (pc := 169) X xok1 (by decide +kernel) rfl (con_X1_part l) mf_X1_part ml_RX1_128 (by decide +kernel) (by decide +kernel) d_X1_ruleWays_169 ?_
  refine r_imul (pc := 172) X d_X1_ruleWays_172 ?_
  refine r_iadd (pc := 173) X d_X1_ruleWays_173 ?_
  refine r_cs1 (pc := 174) X (con_X1_capped l) sf_X1_capped ml_RX1_118 (by decide +kernel) (by decide +kernel) d_X1_ruleWays_174 ?_
  refine r_istore (pc := 177) X d_X1_ruleWays_177 (by decide +kernel) ?_
  exact t_X1_ruleWays_179 X hr h93
def k_X1_ruleWays_128 (P : xP) (C93 : xK) : xK := x_iload 4 (x_cv5 xN 1 (w_RIIIII f_X1_part) (x_istore 12 (x_iload 12 (x_if_eq ((k_X1_ruleWays_179 P C93)) (x_iload 8 (x_iload 10 (x_iload 12 (x_imul (x_cs1 (w_I f_X1_capped) (x_aload 0 (x_iload 7 (x_iload 11 (x_iload 3 (x_iload 11 (x_iload 2 (x_icmp_ne (x_push (.int 0) ((k_X1_ruleWays_167 P C93))) (x_push (.int 1) ((k_X1_ruleWays_167 P C93)))))))))))))))))))
set_option maxRecDepth 20000 in
theorem t_X1_ruleWays_128 {p : Program} {l : Launch} {e : Env} {s : State} {m : MethodId} {args : Array Value} {below : List Frame} {meth : Method} {c : Code} {g : xG} (X : xX p s m args c meth cX1_ruleWays RX1 13 g) (hr : meth.sig.returnType = (some .int)) {P : xP} {C93 : xK} (h93 : xAt p l e { frames := 3, cells := 0, slots := 0, locals := 75 } s m args below meth c g 13 xFT xN 0 0 (MQ below (xQc g xFT xN P) args s 0 0 (xFr g)) C93 93) : xAt p l e { frames := 3, cells := 0, slots := 0, locals := 75 } s m args below meth c g 13 xFT xN 0 0 (MQ below (xQc g xFT xN P) args s 0 0 (xFr g)) (k_X1_ruleWays_128 P C93) 128 := by
  unfold k_X1_ruleWays_128
  refine r_iload (pc := 128) X d_X1_ruleWays_128 ?_
  refine r_cv5 (pc := 130) X xok1 (by decide +kernel) rfl (con_X1_part l) mf_X1_part ml_RX1_128 (by decide +kernel) (by decide +kernel) d_X1_ruleWays_130 ?_
  refine r_istore (pc := 133) X d_X1_ruleWays_133 (by decide +kernel) ?_
  refine r_iload (pc := 135) X d_X1_ruleWays_135 ?_
  refine r_if_eq (pc := 137) (tgt := 179) X d_X1_ruleWays_137 (by decide +kernel) ?_ ?_
  · exact t_X1_ruleWays_179 X hr h93
  · refine r_iload (pc := 140) X d_X1_ruleWays_140 ?_
    refine r_iload (pc := 142) X d_X1_ruleWays_142 ?_
    refine r_iload (pc := 144) X d_X1_ruleWays_144 ?_
    refine r_imul (pc := 146) X d_X1_ruleWays_146 ?_
    refine r_cs1 (pc := 147) X (con_X1_capped l) sf_X1_capped ml_RX1_118 (by decide +kernel) (by decide +kernel) d_X1_ruleWays_147 ?_
    refine r_aload_n (pc := 150) X d_X1_ruleWays_150 fn0 ?_
    refine r_iload (pc := 151) X d_X1_ruleWays_151 ?_
    refine r_iload (pc := 153) X d_X1_ruleWays_153 ?_
    refine r_iload_n (pc := 155) X d_X1_ruleWays_155 fn3 ?_
    refine r_iload (pc := 156) X d_X1_ruleWays_156 ?_
    refine r_iload_n (pc := 158) X d_X1_ruleWays_158 fn2 ?_
    refine r_icmp_ne (pc := 159) (tgt := 166) X d_X1_ruleWays_159 (by decide +kernel) ?_ ?_
    · refine r_iconst (pc := 166) X d_X1_ruleWays_166 (by decide +kernel) ?_
      exact t_X1_ruleWays_167 X hr h93
    · refine r_iconst (pc := 162) X d_X1_ruleWays_162 (by decide +kernel) ?_
      refine r_goto (pc := 163) (tgt := 167) X d_X1_ruleWays_163 (by decide +kernel) ?_
      exact t_X1_ruleWays_167 X hr h93
def k_X1_ruleWays_127 (P : xP) (C93 : xK) : xK := x_push (.int 0) ((k_X1_ruleWays_128 P C93))
set_option maxRecDepth 20000 in
theorem t_X1_ruleWays_127 {p : Program} {l : Launch} {e : Env} {s : State} {m : MethodId} {args : Array Value} {below : List Frame} {meth : Method} {c : Code} {g : xG} (X : xX p s m args c meth cX1_ruleWays RX1 13 g) (hr : meth.sig.returnType = (some .int)) {P : xP} {C93 : xK} (h93 : xAt p l e { frames := 3, cells := 0, slots := 0, locals := 75 } s m args below meth c g 13 xFT xN 0 0 (MQ below (xQc g xFT xN P) args s 0 0 (xFr g)) C93 93) : xAt p l e { frames := 3, cells := 0, slots := 0, locals := 75 } s m args below meth c g 13 xFT xN 0 0 (MQ below (xQc g xFT xN P) args s 0 0 (xFr g)) (k_X1_ruleWays_127 P C93) 127 := by
  unfold k_X1_ruleWays_127
  refine r_iconst (pc := 127) X d_X1_ruleWays_127 (by decide +kernel) ?_
  exact t_X1_ruleWays_128 X hr h93
def k_X1_ruleWays_93 (P : xP) (C49 : xK) (C93 : xK) : xK := x_iload 11 (x_iload 3 (x_icmp_gt ((k_X1_ruleWays_185 P C49)) (x_iload 10 (x_if_eq ((k_X1_ruleWays_185 P C49)) (x_aload 0 (x_iload 6 (x_iload 9 (x_iload 11 (x_iload 9 (x_iload 2 (x_icmp_ne ((k_X1_ruleWays_127 P C93)) (x_iload 11 (x_iload 3 (x_icmp_ne ((k_X1_ruleWays_127 P C93)) (x_push (.int 1) ((k_X1_ruleWays_128 P C93)))))))))))))))))
set_option maxRecDepth 20000 in
theorem t_X1_ruleWays_93 {p : Program} {l : Launch} {e : Env} {s : State} {m : MethodId} {args : Array Value} {below : List Frame} {meth : Method} {c : Code} {g : xG} (X : xX p s m args c meth cX1_ruleWays RX1 13 g) (hr : meth.sig.returnType = (some .int)) {P : xP} {C49 : xK} {C93 : xK} (h49 : xAt p l e { frames := 3, cells := 0, slots := 0, locals := 75 } s m args below meth c g 13 xFT xN 0 0 (MQ below (xQc g xFT xN P) args s 0 0 (xFr g)) C49 49) (h93 : xAt p l e { frames := 3, cells := 0, slots := 0, locals := 75 } s m args below meth c g 13 xFT xN 0 0 (MQ below (xQc g xFT xN P) args s 0 0 (xFr g)) C93 93) : xAt p l e { frames := 3, cells := 0, slots := 0, locals := 75 } s m args below meth c g 13 xFT xN 0 0 (MQ below (xQc g xFT xN P) args s 0 0 (xFr g)) (k_X1_ruleWays_93 P C49 C93) 93 := by
  unfold k_X1_ruleWays_93
  refine r_iload (pc := 93) X d_X1_ruleWays_93 ?_
  refine r_iload_n (pc := 95) X d_X1_ruleWays_95 fn3 ?_
  refine r_icmp_gt (pc := 96) (tgt := 185) X d_X1_ruleWays_96 (by decide +kernel) ?_ ?_
  · exact t_X1_ruleWays_185 X hr h49
  · refine r_iload (pc := 99) X d_X1_ruleWays_99 ?_
    refine r_if_eq (pc := 101) (tgt := 185) X d_X1_ruleWays_101 (by decide +kernel) ?_ ?_
    · exact t_X1_ruleWays_185 X hr h49
    · refine r_aload_n (pc := 104) X d_X1_ruleWays_104 fn0 ?_
      refine r_iload (pc := 105) X d_X1_ruleWays_105 ?_
      refine r_iload (pc := 107) X d_X1_ruleWays_107 ?_
      refine r_iload (pc := 109) X d_X1_ruleWays_109 ?_
      refine r_iload (pc := 111) X d_X1_ruleWays_111 ?_
      refine r_iload_n (pc := 113) X d_X1_ruleWays_113 fn2 ?_
      refine r_icmp_ne (pc := 114) (tgt := 127) X d_X1_ruleWays_114 (by decide +kernel) ?_ ?_
      · exact t_X1_ruleWays_127 X hr h93
      · refine r_iload (pc := 117) X d_X1_ruleWays_117 ?_
        refine r_iload_n (pc := 119) X d_X1_ruleWays_119 fn3 ?_
        refine r_icmp_ne (pc := 120) (tgt := 127) X d_X1_ruleWays_120 (by decide +kernel) ?_ ?_
        · exact t_X1_ruleWays_127 X hr h93
        · refine r_iconst (pc := 123) X d_X1_ruleWays_123 (by decide +kernel) ?_
          refine r_goto (pc := 124) (tgt := 128) X d_X1_ruleWays_124 (by decide +kernel) ?_
          exact t_X1_ruleWays_128 X hr h93
set_option maxRecDepth 20000 in
theorem m_X1_ruleWays {l : Launch} {f : Nat → Int32 → Int32 → Int32 → Int32 → xH → xP → Prop}  {I49 : Nat → Int32 → Int32 → Int32 → Int32 → xH → xP → xM → xK} {I93 : Nat → Int32 → Int32 → Int32 → Int32 → xH → xP → xM → xK}
    (v0 : ∀ (a0 : Nat) (a1 : Int32) (a2 : Int32) (a3 : Int32) (a4 : Int32) (A : xH) (P : xP), f a0 a1 a2 a3 a4 A P → k_X1_ruleWays_0 P (xE (I49 a0 a1 a2 a3 a4 A P)) [some (.ref a0), some (.int a1), some (.int a2), some (.int a3), some (.int a4), none, none, none, none, none, none, none, none] [] A)
    (v49 : ∀ (a0 : Nat) (a1 : Int32) (a2 : Int32) (a3 : Int32) (a4 : Int32) (A : xH) (P : xP), f a0 a1 a2 a3 a4 A P → ∀ (μ : xM) (L : xL) (st : List Value) (B : xH), I49 a0 a1 a2 a3 a4 A P μ L st B → k_X1_ruleWays_49 P (xB (I93 a0 a1 a2 a3 a4 A P) μ) L st B)
    (v93 : ∀ (a0 : Nat) (a1 : Int32) (a2 : Int32) (a3 : Int32) (a4 : Int32) (A : xH) (P : xP), f a0 a1 a2 a3 a4 A P → ∀ (μ : xM) (L : xL) (st : List Value) (B : xH), I93 a0 a1 a2 a3 a4 A P μ L st B → k_X1_ruleWays_93 P (xB (I49 a0 a1 a2 a3 a4 A P) μ) (xB (I93 a0 a1 a2 a3 a4 A P) μ) L st B) : xCon l yX1_ruleWays cX1_ruleWays 13 (some .int) 3 75 xN xN 0 xFT xFT (w_RIIII f) := by
  refine xc_RIIII (plainFor_of_name pn_RX1) (by decide +kernel) (fun p e s m args below meth c g a0 a1 a2 a3 a4 A P h X hr _ => ?_)
  obtain ⟨h49, h93⟩ := x_loop2 (p := p) (l := l) (e := e) (R := { frames := 3, cells := 0, slots := 0, locals := 75 }) (s := s) (m := m) (args := args) (below := below) (meth := meth) (c := c) (g := g) (nL := 13) (F := xFT) (n := xN) (cells := 0) (slots := 0) (Q := MQ below (xQc g xFT xN P) args s 0 0 (xFr g)) (I1 := I49 a0 a1 a2 a3 a4 A P) (I2 := I93 a0 a1 a2 a3 a4 A P) (pc1 := 49) (pc2 := 93) (fun μ i49 i93 => xAt_mono (t_X1_ruleWays_49 (P := P) X hr i93) (v49 a0 a1 a2 a3 a4 A P h μ)) (fun μ i49 i93 => xAt_mono (t_X1_ruleWays_93 (P := P) X hr i49 i93) (v93 a0 a1 a2 a3 a4 A P h μ))
  exact ⟨_, v0 a0 a1 a2 a3 a4 A P h, t_X1_ruleWays_0 X hr h49⟩
def f_X1_ruleWays (q : Nat) (x y z w : Int32) (A : xH) (P : xP) : Prop := q = 57 ∧ ∃ (g : xV) (ρ : Nat → Nat) (r i j v : Nat), x = nI r ∧ r < vR g ∧ y = nI i ∧ z = nI j ∧ w = nI v ∧ pcS A g ρ i j v ∧ P (some (.int (nI (min (wW (fun t => pvS g ρ i j v (vsy g r t)) (vrs g r) i j) 9999)))) A
def rwP (A : xH) (P : xP) (g : xV) (ρ : Nat → Nat) (r i j v : Nat) : Prop := r < vR g ∧ pcS A g ρ i j v ∧ P (some (.int (nI (min (wW (fun t => pvS g ρ i j v (vsy g r t)) (vrs g r) i j) 9999)))) A
def rw49 (A : xH) (P : xP) : xM → xK := fun μ L st B => ∃ (g : xV) (ρ : Nat → Nat) (r i j v a : Nat) (o10 o11 o12 : Option Value), rwP A P g ρ r i j v ∧ loA (vrs g r) i j + a ≤ j + 1 ∧ B = A ∧ st = [] ∧ L = [some (.ref 57), some (.int (nI r)), some (.int (nI i)), some (.int (nI j)), some (.int (nI v)), some (.int (rsA g r 0)), some (.int (rsA g r 1)), some (.int (rsA g r 2)), some (.int (nI (min (dbD (pxS g ρ i j v r) (vrs g r) i j a) 9999))), some (.int (nI (loA (vrs g r) i j + a))), o10, o11, o12] ∧ μ = (20 - (loA (vrs g r) i j + a), 0, 0)
def rw93 (A : xH) (P : xP) : xM → xK := fun μ L st B => ∃ (g : xV) (ρ : Nat → Nat) (r i j v a b : Nat) (o12 : Option Value), rwP A P g ρ r i j v ∧ loA (vrs g r) i j + a ≤ j ∧ loB (vrs g r) (loA (vrs g r) i j + a) j + b ≤ j + 1 ∧ B = A ∧ st = [] ∧ L = [some (.ref 57), some (.int (nI r)), some (.int (nI i)), some (.int (nI j)), some (.int (nI v)), some (.int (rsA g r 0)), some (.int (rsA g r 1)), some (.int (rsA g r 2)), some (.int (nI (min (dbD (pxS g ρ i j v r) (vrs g r) i j a + pxS g ρ i j v r 0 i (loA (vrs g r) i j + a) * inD (pxS g ρ i j v r) j (loB (vrs g r) (loA (vrs g r) i j + a) j) (loA (vrs g r) i j + a) b) 9999))), some (.int (nI (loA (vrs g r) i j + a))), some (.int (nI (min (pxS g ρ i j v r 0 i (loA (vrs g r) i j + a)) 9999))), some (.int (nI (loB (vrs g r) (loA (vrs g r) i j + a) j + b))), o12] ∧ μ = (20 - (loA (vrs g r) i j + a) - 1, 1, 20 - (loB (vrs g r) (loA (vrs g r) i j + a) j + b))
set_option maxRecDepth 20000 in
theorem con_X1_ruleWays (l : Launch) : xCon l yX1_ruleWays cX1_ruleWays 13 (some .int) 3 75 xN xN 0 xFT xFT (w_RIIII f_X1_ruleWays) := by
  refine m_X1_ruleWays (I49 := fun q x y z w A P => rw49 A P) (I93 := fun q x y z w A P => rw93 A P) ?_ ?_ ?_
  · rintro q x y z w A P ⟨rfl, g, ρ, r, i, j, v, rfl, hr, rfl, rfl, rfl, hS, hP⟩
    have hM := hS.1
    have hw := hM.1.1.2.1
    have h10 := hw.2.2.1
    have ob : xob xN 8 = 4 := ob_8
    simp (disch := omega) only [k_X1_ruleWays_0, k_X1_ruleWays_49, k_X1_ruleWays_93, k_X1_ruleWays_47, k_X1_ruleWays_72, k_X1_ruleWays_91, k_X1_ruleWays_127, k_X1_ruleWays_128, k_X1_ruleWays_167, k_X1_ruleWays_179, k_X1_ruleWays_185, w_I, w_RII, w_RIIIII, x_aload, x_cs1, x_cv2, x_cv5, x_getR, x_iadd, x_icmp_gt, x_icmp_ne, x_if_eq, x_iinc, x_iload, x_imul, x_iret, x_istore, x_push, xFT, xbool0, xbool1, Nat.reduceAdd, Nat.zero_add, xgl_0, xgl_s, xgl_n, xst_0, xst_1n, xst_1i, xst_1r, xst_1l, xst_s, set_0, set_s, true_and, and_true, xres, xcat_nil, xcat_i, xcat_r, xcat_l, Nat.add_zero, xble0, xble1, xble2, xble3, xble4, xble5, xble6, xble7, xble8, pk_mul, nI_add, nI_1, nI_leI, nI_ltI, nI_eq, n_in, n_cl, z_eq, z_lt, z_le, z_gt, z_ge, z_qe, o_eq, o_lt, o_le, o_gt, o_ge, vp0, vp1, cl0, cl1, n_sub, n_sub1, n_pm1, n_a0, n_0a, ofn, lN0, Nat.reduceLT, Nat.reduceLeDiff, Nat.reduceMul, Nat.reduceSub, Nat.reduceEqDiff, ne_eq, true_implies, false_implies, not_true_eq_false, not_false_eq_true, and_self, and_true, true_and, and_false, false_and, implies_true, if_true, if_false, i00, i10, i01, i11, ob_0, ob_1, tn_2, ln_2, ob_3, tn_4, ln_4, ob_5, tn_6, ln_6, tn_7, ln_7, ob_8, tn_9, ln_9, tn_10, ln_10, tn_11, ln_11, tn_12, ln_12, tn_13, ln_13, tn_14, ln_14, tn_15, ln_15, tn_16, ln_16, tn_17, ln_17, ob_18, tn_19, ln_19, tn_20, ln_20, tn_21, ln_21, tn_22, ln_22, tn_23, ln_23, tn_24, ln_24, tn_25, ln_25, tn_26, ln_26, tn_27, ln_27, ob_28, tn_29, ln_29, tn_30, ln_30, ob_31, tn_32, ln_32, tn_33, ln_33, ob_34, ob_35, tn_36, ln_36, tn_37, ln_37, tn_38, ln_38, ob_39, tn_40, ln_40, tn_41, ln_41, tn_42, ln_42, tn_43, ln_43, tn_44, ln_44, tn_45, ln_45, tn_46, ln_46, tn_47, ln_47, tn_48, ln_48, tn_49, ln_49, tn_50, ln_50, tn_51, ln_51, ob_52, tn_53, ln_53, tn_54, ln_54, tn_55, ln_55, tn_56, ln_56, ob_57, tn_58, ln_58, tn_59, ln_59, tn_60, ln_60, tn_61, ln_61, tn_62, ln_62, tn_63, ln_63, tn_64, ln_64, tn_65, ln_65, ob_66, tn_67, ln_67, tn_68, ln_68, tn_69, ln_69, tn_70, ln_70, tn_71, ln_71, tn_72, ln_72, tn_73, ln_73, ob_74, tn_75, ln_75, tn_76, ln_76, tn_77, ln_77, tn_78, ln_78, tn_79, ln_79, tn_80, ln_80, tn_81, ln_81, tn_82, ln_82, tn_83, ln_83, ob_84, tn_85, ln_85, tn_86, ln_86, tn_87, ln_87, tn_88, ln_88, tn_89, ln_89, tn_90, ln_90, tn_91, ln_91, tn_92, ln_92, tn_93, ln_93, ob_94, tn_95, ln_95, tn_96, ln_96, tn_97, ln_97, tn_98, ln_98, tn_99, ln_99, tn_100, ln_100, tn_101, ln_101, tn_102, ln_102, tn_103, ln_103, ob_104, tn_105, ln_105, tn_106, ln_106, tn_107, ln_107, tn_108, ln_108, tn_109, ln_109, tn_110, ln_110, tn_111, ln_111, tn_112, ln_112, tn_113, ln_113, ob_114, tn_115, ln_115, tn_116, ln_116, tn_117, ln_117, tn_118, ln_118, tn_119, ln_119, tn_120, ln_120, tn_121, ln_121, tn_122, ln_122, tn_123, ln_123, ob_124, tn_125, ln_125, tn_126, ln_126, tn_127, ln_127, tn_128, ln_128, tn_129, ln_129, tn_130, ln_130, tn_131, ln_131, tn_132, ln_132, tn_133, ln_133, ob_134, tn_135, ln_135, tn_136, ln_136, tn_137, ln_137, tn_138, ln_138, tn_139, ln_139, tn_140, ln_140, tn_141, ln_141, tn_142, ln_142, tn_143, ln_143, ob_144, tn_145, ln_145, tn_146, ln_146, tn_147, ln_147, tn_148, ln_148, tn_149, ln_149, tn_150, ln_150, tn_151, ln_151, tn_152, ln_152, tn_153, ln_153, ob_154, tn_155, ln_155, tn_156, ln_156, tn_157, ln_157, tn_158, ln_158, tn_159, ln_159, tn_160, ln_160, tn_161, ln_161, tn_162, ln_162, tn_163, ln_163, ob_164, tn_165, ln_165, tn_166, ln_166, ob_167, tn_168, ln_168, tn_169, ln_169, tn_170, ln_170, tn_171, ln_171, tn_172, ln_172, tn_173, ln_173, tn_174, ln_174, tn_175, ln_175, tn_176, ln_176, ob_177, tn_178, ln_178, tn_179, ln_179, ob_180, tn_181, ln_181, tn_182, ln_182, tn_183, ln_183, tn_184, ln_184, tn_185, ln_185, tn_186, ln_186, tn_187, ln_187, tn_188, ln_188, tn_189, ln_189, tn_190, ln_190, tn_191, ln_191, tn_192, ln_192, tn_193, ln_193, tn_194, ln_194, tn_195, ln_195, tn_196, ln_196, tn_197, ln_197, tn_198, ln_198, tn_199, ln_199, tn_200, ln_200, tn_201, ln_201, tn_202, ln_202, tn_203, ln_203, tn_204, ln_204, tn_205, ln_205, tn_206, ln_206, tn_207, ln_207, tn_208, ln_208, tn_209, ln_209, tn_210, ln_210, tn_211, ln_211, tn_212, ln_212, tn_213, ln_213, tn_214, ln_214, tn_215, ln_215, tn_216, ln_216, tn_217, ln_217, tn_218, ln_218, tn_219, ln_219, tn_220, ln_220, tn_221, ln_221, tn_222, ln_222, tn_223, ln_223, tn_224, ln_224, tn_225, ln_225, tn_226, ln_226, tn_227, ln_227, tn_228, ln_228, tn_229, ln_229, tn_230, ln_230, lx2, lx3, lx4, lx5, lx6, lx7, lx8, lx9, lx10, lx14, lx15, lx16, lx18, lx20, lx24, lx25, lx27, lx32, lx36, lx40, lx41, lx42, lx43, lx45, lx48, lx52, lx54, lx56, lx57, lx58, lx60, lx61, lx62, lx63, lx64, lx66, lx69, lx73, lx80, lx81, lx84, lx85, lx87, lx94, lx96, lx97, lx120, lx128, lx135, lx160, lx162, lx163, lx165, lx200, lx232, lx242, lx243, lx255, lx256, lx320, lx325, lx400, lx405, lx464, lx512, lx600, lx640, lx752, lx900, lx940, lx1000, lx1024, lx1764, lx3360, lx3840, lx5000, lx6400, lx9050, lx9998, lx9999, lx10000, lx25600, lx76800, lx99999, hM.2.1]
    simp (disch := omega) only [k_X1_ruleWays_0, k_X1_ruleWays_49, k_X1_ruleWays_93, k_X1_ruleWays_47, k_X1_ruleWays_72, k_X1_ruleWays_91, k_X1_ruleWays_127, k_X1_ruleWays_128, k_X1_ruleWays_167, k_X1_ruleWays_179, k_X1_ruleWays_185, w_I, w_RII, w_RIIIII, x_aload, x_cs1, x_cv2, x_cv5, x_getR, x_iadd, x_icmp_gt, x_icmp_ne, x_if_eq, x_iinc, x_iload, x_imul, x_iret, x_istore, x_push, xFT, xbool0, xbool1, Nat.reduceAdd, Nat.zero_add, xgl_0, xgl_s, xgl_n, xst_0, xst_1n, xst_1i, xst_1r, xst_1l, xst_s, set_0, set_s, true_and, and_true, xres, xcat_nil, xcat_i, xcat_r, xcat_l, Nat.add_zero, xble0, xble1, xble2, xble3, xble4, xble5, xble6, xble7, xble8, pk_mul, nI_add, nI_1, nI_leI, nI_ltI, nI_eq, n_in, n_cl, z_eq, z_lt, z_le, z_gt, z_ge, z_qe, o_eq, o_lt, o_le, o_gt, o_ge, vp0, vp1, cl0, cl1, n_sub, n_sub1, n_pm1, n_a0, n_0a, ofn, lN0, Nat.reduceLT, Nat.reduceLeDiff, Nat.reduceMul, Nat.reduceSub, Nat.reduceEqDiff, ne_eq, true_implies, false_implies, not_true_eq_false, not_false_eq_true, and_self, and_true, true_and, and_false, false_and, implies_true, if_true, if_false, i00, i10, i01, i11, ob_0, ob_1, tn_2, ln_2, ob_3, tn_4, ln_4, ob_5, tn_6, ln_6, tn_7, ln_7, ob_8, tn_9, ln_9, tn_10, ln_10, tn_11, ln_11, tn_12, ln_12, tn_13, ln_13, tn_14, ln_14, tn_15, ln_15, tn_16, ln_16, tn_17, ln_17, ob_18, tn_19, ln_19, tn_20, ln_20, tn_21, ln_21, tn_22, ln_22, tn_23, ln_23, tn_24, ln_24, tn_25, ln_25, tn_26, ln_26, tn_27, ln_27, ob_28, tn_29, ln_29, tn_30, ln_30, ob_31, tn_32, ln_32, tn_33, ln_33, ob_34, ob_35, tn_36, ln_36, tn_37, ln_37, tn_38, ln_38, ob_39, tn_40, ln_40, tn_41, ln_41, tn_42, ln_42, tn_43, ln_43, tn_44, ln_44, tn_45, ln_45, tn_46, ln_46, tn_47, ln_47, tn_48, ln_48, tn_49, ln_49, tn_50, ln_50, tn_51, ln_51, ob_52, tn_53, ln_53, tn_54, ln_54, tn_55, ln_55, tn_56, ln_56, ob_57, tn_58, ln_58, tn_59, ln_59, tn_60, ln_60, tn_61, ln_61, tn_62, ln_62, tn_63, ln_63, tn_64, ln_64, tn_65, ln_65, ob_66, tn_67, ln_67, tn_68, ln_68, tn_69, ln_69, tn_70, ln_70, tn_71, ln_71, tn_72, ln_72, tn_73, ln_73, ob_74, tn_75, ln_75, tn_76, ln_76, tn_77, ln_77, tn_78, ln_78, tn_79, ln_79, tn_80, ln_80, tn_81, ln_81, tn_82, ln_82, tn_83, ln_83, ob_84, tn_85, ln_85, tn_86, ln_86, tn_87, ln_87, tn_88, ln_88, tn_89, ln_89, tn_90, ln_90, tn_91, ln_91, tn_92, ln_92, tn_93, ln_93, ob_94, tn_95, ln_95, tn_96, ln_96, tn_97, ln_97, tn_98, ln_98, tn_99, ln_99, tn_100, ln_100, tn_101, ln_101, tn_102, ln_102, tn_103, ln_103, ob_104, tn_105, ln_105, tn_106, ln_106, tn_107, ln_107, tn_108, ln_108, tn_109, ln_109, tn_110, ln_110, tn_111, ln_111, tn_112, ln_112, tn_113, ln_113, ob_114, tn_115, ln_115, tn_116, ln_116, tn_117, ln_117, tn_118, ln_118, tn_119, ln_119, tn_120, ln_120, tn_121, ln_121, tn_122, ln_122, tn_123, ln_123, ob_124, tn_125, ln_125, tn_126, ln_126, tn_127, ln_127, tn_128, ln_128, tn_129, ln_129, tn_130, ln_130, tn_131, ln_131, tn_132, ln_132, tn_133, ln_133, ob_134, tn_135, ln_135, tn_136, ln_136, tn_137, ln_137, tn_138, ln_138, tn_139, ln_139, tn_140, ln_140, tn_141, ln_141, tn_142, ln_142, tn_143, ln_143, ob_144, tn_145, ln_145, tn_146, ln_146, tn_147, ln_147, tn_148, ln_148, tn_149, ln_149, tn_150, ln_150, tn_151, ln_151, tn_152, ln_152, tn_153, ln_153, ob_154, tn_155, ln_155, tn_156, ln_156, tn_157, ln_157, tn_158, ln_158, tn_159, ln_159, tn_160, ln_160, tn_161, ln_161, tn_162, ln_162, tn_163, ln_163, ob_164, tn_165, ln_165, tn_166, ln_166, ob_167, tn_168, ln_168, tn_169, ln_169, tn_170, ln_170, tn_171, ln_171, tn_172, ln_172, tn_173, ln_173, tn_174, ln_174, tn_175, ln_175, tn_176, ln_176, ob_177, tn_178, ln_178, tn_179, ln_179, ob_180, tn_181, ln_181, tn_182, ln_182, tn_183, ln_183, tn_184, ln_184, tn_185, ln_185, tn_186, ln_186, tn_187, ln_187, tn_188, ln_188, tn_189, ln_189, tn_190, ln_190, tn_191, ln_191, tn_192, ln_192, tn_193, ln_193, tn_194, ln_194, tn_195, ln_195, tn_196, ln_196, tn_197, ln_197, tn_198, ln_198, tn_199, ln_199, tn_200, ln_200, tn_201, ln_201, tn_202, ln_202, tn_203, ln_203, tn_204, ln_204, tn_205, ln_205, tn_206, ln_206, tn_207, ln_207, tn_208, ln_208, tn_209, ln_209, tn_210, ln_210, tn_211, ln_211, tn_212, ln_212, tn_213, ln_213, tn_214, ln_214, tn_215, ln_215, tn_216, ln_216, tn_217, ln_217, tn_218, ln_218, tn_219, ln_219, tn_220, ln_220, tn_221, ln_221, tn_222, ln_222, tn_223, ln_223, tn_224, ln_224, tn_225, ln_225, tn_226, ln_226, tn_227, ln_227, tn_228, ln_228, tn_229, ln_229, tn_230, ln_230, lx2, lx3, lx4, lx5, lx6, lx7, lx8, lx9, lx10, lx14, lx15, lx16, lx18, lx20, lx24, lx25, lx27, lx32, lx36, lx40, lx41, lx42, lx43, lx45, lx48, lx52, lx54, lx56, lx57, lx58, lx60, lx61, lx62, lx63, lx64, lx66, lx69, lx73, lx80, lx81, lx84, lx85, lx87, lx94, lx96, lx97, lx120, lx128, lx135, lx160, lx162, lx163, lx165, lx200, lx232, lx242, lx243, lx255, lx256, lx320, lx325, lx400, lx405, lx464, lx512, lx600, lx640, lx752, lx900, lx940, lx1000, lx1024, lx1764, lx3360, lx3840, lx5000, lx6400, lx9050, lx9998, lx9999, lx10000, lx25600, lx76800, lx99999, rf_8, ob]
    skip
  · rintro q x y z w A P - μ L st B ⟨g, ρ, r, i, j, v, a, o10, o11, o12, hG, ha, rfl, rfl, rfl, rfl⟩
    simp (disch := omega) only [k_X1_ruleWays_0, k_X1_ruleWays_49, k_X1_ruleWays_93, k_X1_ruleWays_47, k_X1_ruleWays_91, k_X1_ruleWays_127, k_X1_ruleWays_128, k_X1_ruleWays_167, k_X1_ruleWays_179, k_X1_ruleWays_185, w_I, w_RII, w_RIIIII, x_aload, x_cs1, x_cv2, x_cv5, x_getR, x_iadd, x_icmp_gt, x_icmp_ne, x_if_eq, x_iinc, x_iload, x_imul, x_iret, x_istore, x_push, xFT, xbool0, xbool1, Nat.reduceAdd, Nat.zero_add, xgl_0, xgl_s, xgl_n, xst_0, xst_1n, xst_1i, xst_1r, xst_1l, xst_s, set_0, set_s, true_and, and_true, xres, xcat_nil, xcat_i, xcat_r, xcat_l, Nat.add_zero, xble0, xble1, xble2, xble3, xble4, xble5, xble6, xble7, xble8, pk_mul, nI_add, nI_1, nI_leI, nI_ltI, nI_eq, n_in, n_cl, z_eq, z_lt, z_le, z_gt, z_ge, z_qe, o_eq, o_lt, o_le, o_gt, o_ge, vp0, vp1, cl0, cl1, n_sub, n_sub1, n_pm1, n_a0, n_0a, ofn, lN0, Nat.reduceLT, Nat.reduceLeDiff, Nat.reduceMul, Nat.reduceSub, Nat.reduceEqDiff, ne_eq, true_implies, false_implies, not_true_eq_false, not_false_eq_true, and_self, and_true, true_and, and_false, false_and, implies_true, if_true, if_false, i00, i10, i01, i11, ob_0, ob_1, tn_2, ln_2, ob_3, tn_4, ln_4, ob_5, tn_6, ln_6, tn_7, ln_7, ob_8, tn_9, ln_9, tn_10, ln_10, tn_11, ln_11, tn_12, ln_12, tn_13, ln_13, tn_14, ln_14, tn_15, ln_15, tn_16, ln_16, tn_17, ln_17, ob_18, tn_19, ln_19, tn_20, ln_20, tn_21, ln_21, tn_22, ln_22, tn_23, ln_23, tn_24, ln_24, tn_25, ln_25, tn_26, ln_26, tn_27, ln_27, ob_28, tn_29, ln_29, tn_30, ln_30, ob_31, tn_32, ln_32, tn_33, ln_33, ob_34, ob_35, tn_36, ln_36, tn_37, ln_37, tn_38, ln_38, ob_39, tn_40, ln_40, tn_41, ln_41, tn_42, ln_42, tn_43, ln_43, tn_44, ln_44, tn_45, ln_45, tn_46, ln_46, tn_47, ln_47, tn_48, ln_48, tn_49, ln_49, tn_50, ln_50, tn_51, ln_51, ob_52, tn_53, ln_53, tn_54, ln_54, tn_55, ln_55, tn_56, ln_56, ob_57, tn_58, ln_58, tn_59, ln_59, tn_60, ln_60, tn_61, ln_61, tn_62, ln_62, tn_63, ln_63, tn_64, ln_64, tn_65, ln_65, ob_66, tn_67, ln_67, tn_68, ln_68, tn_69, ln_69, tn_70, ln_70, tn_71, ln_71, tn_72, ln_72, tn_73, ln_73, ob_74, tn_75, ln_75, tn_76, ln_76, tn_77, ln_77, tn_78, ln_78, tn_79, ln_79, tn_80, ln_80, tn_81, ln_81, tn_82, ln_82, tn_83, ln_83, ob_84, tn_85, ln_85, tn_86, ln_86, tn_87, ln_87, tn_88, ln_88, tn_89, ln_89, tn_90, ln_90, tn_91, ln_91, tn_92, ln_92, tn_93, ln_93, ob_94, tn_95, ln_95, tn_96, ln_96, tn_97, ln_97, tn_98, ln_98, tn_99, ln_99, tn_100, ln_100, tn_101, ln_101, tn_102, ln_102, tn_103, ln_103, ob_104, tn_105, ln_105, tn_106, ln_106, tn_107, ln_107, tn_108, ln_108, tn_109, ln_109, tn_110, ln_110, tn_111, ln_111, tn_112, ln_112, tn_113, ln_113, ob_114, tn_115, ln_115, tn_116, ln_116, tn_117, ln_117, tn_118, ln_118, tn_119, ln_119, tn_120, ln_120, tn_121, ln_121, tn_122, ln_122, tn_123, ln_123, ob_124, tn_125, ln_125, tn_126, ln_126, tn_127, ln_127, tn_128, ln_128, tn_129, ln_129, tn_130, ln_130, tn_131, ln_131, tn_132, ln_132, tn_133, ln_133, ob_134, tn_135, ln_135, tn_136, ln_136, tn_137, ln_137, tn_138, ln_138, tn_139, ln_139, tn_140, ln_140, tn_141, ln_141, tn_142, ln_142, tn_143, ln_143, ob_144, tn_145, ln_145, tn_146, ln_146, tn_147, ln_147, tn_148, ln_148, tn_149, ln_149, tn_150, ln_150, tn_151, ln_151, tn_152, ln_152, tn_153, ln_153, ob_154, tn_155, ln_155, tn_156, ln_156, tn_157, ln_157, tn_158, ln_158, tn_159, ln_159, tn_160, ln_160, tn_161, ln_161, tn_162, ln_162, tn_163, ln_163, ob_164, tn_165, ln_165, tn_166, ln_166, ob_167, tn_168, ln_168, tn_169, ln_169, tn_170, ln_170, tn_171, ln_171, tn_172, ln_172, tn_173, ln_173, tn_174, ln_174, tn_175, ln_175, tn_176, ln_176, ob_177, tn_178, ln_178, tn_179, ln_179, ob_180, tn_181, ln_181, tn_182, ln_182, tn_183, ln_183, tn_184, ln_184, tn_185, ln_185, tn_186, ln_186, tn_187, ln_187, tn_188, ln_188, tn_189, ln_189, tn_190, ln_190, tn_191, ln_191, tn_192, ln_192, tn_193, ln_193, tn_194, ln_194, tn_195, ln_195, tn_196, ln_196, tn_197, ln_197, tn_198, ln_198, tn_199, ln_199, tn_200, ln_200, tn_201, ln_201, tn_202, ln_202, tn_203, ln_203, tn_204, ln_204, tn_205, ln_205, tn_206, ln_206, tn_207, ln_207, tn_208, ln_208, tn_209, ln_209, tn_210, ln_210, tn_211, ln_211, tn_212, ln_212, tn_213, ln_213, tn_214, ln_214, tn_215, ln_215, tn_216, ln_216, tn_217, ln_217, tn_218, ln_218, tn_219, ln_219, tn_220, ln_220, tn_221, ln_221, tn_222, ln_222, tn_223, ln_223, tn_224, ln_224, tn_225, ln_225, tn_226, ln_226, tn_227, ln_227, tn_228, ln_228, tn_229, ln_229, tn_230, ln_230, lx2, lx3, lx4, lx5, lx6, lx7, lx8, lx9, lx10, lx14, lx15, lx16, lx18, lx20, lx24, lx25, lx27, lx32, lx36, lx40, lx41, lx42, lx43, lx45, lx48, lx52, lx54, lx56, lx57, lx58, lx60, lx61, lx62, lx63, lx64, lx66, lx69, lx73, lx80, lx81, lx84, lx85, lx87, lx94, lx96, lx97, lx120, lx128, lx135, lx160, lx162, lx163, lx165, lx200, lx232, lx242, lx243, lx255, lx256, lx320, lx325, lx400, lx405, lx464, lx512, lx600, lx640, lx752, lx900, lx940, lx1000, lx1024, lx1764, lx3360, lx3840, lx5000, lx6400, lx9050, lx9998, lx9999, lx10000, lx25600, lx76800, lx99999]
    skip
  · rintro q x y z w A P - μ L st B ⟨g, ρ, r, i, j, v, a, b, o12, hG, ha, hb, rfl, rfl, rfl, rfl⟩
    simp (disch := omega) only [k_X1_ruleWays_0, k_X1_ruleWays_49, k_X1_ruleWays_93, k_X1_ruleWays_47, k_X1_ruleWays_72, k_X1_ruleWays_91, k_X1_ruleWays_167, k_X1_ruleWays_179, k_X1_ruleWays_185, w_I, w_RII, w_RIIIII, x_aload, x_cs1, x_cv2, x_cv5, x_getR, x_iadd, x_icmp_gt, x_icmp_ne, x_if_eq, x_iinc, x_iload, x_imul, x_iret, x_istore, x_push, xFT, xbool0, xbool1, Nat.reduceAdd, Nat.zero_add, xgl_0, xgl_s, xgl_n, xst_0, xst_1n, xst_1i, xst_1r, xst_1l, xst_s, set_0, set_s, true_and, and_true, xres, xcat_nil, xcat_i, xcat_r, xcat_l, Nat.add_zero, xble0, xble1, xble2, xble3, xble4, xble5, xble6, xble7, xble8, pk_mul, nI_add, nI_1, nI_leI, nI_ltI, nI_eq, n_in, n_cl, z_eq, z_lt, z_le, z_gt, z_ge, z_qe, o_eq, o_lt, o_le, o_gt, o_ge, vp0, vp1, cl0, cl1, n_sub, n_sub1, n_pm1, n_a0, n_0a, ofn, lN0, Nat.reduceLT, Nat.reduceLeDiff, Nat.reduceMul, Nat.reduceSub, Nat.reduceEqDiff, ne_eq, true_implies, false_implies, not_true_eq_false, not_false_eq_true, and_self, and_true, true_and, and_false, false_and, implies_true, if_true, if_false, i00, i10, i01, i11, ob_0, ob_1, tn_2, ln_2, ob_3, tn_4, ln_4, ob_5, tn_6, ln_6, tn_7, ln_7, ob_8, tn_9, ln_9, tn_10, ln_10, tn_11, ln_11, tn_12, ln_12, tn_13, ln_13, tn_14, ln_14, tn_15, ln_15, tn_16, ln_16, tn_17, ln_17, ob_18, tn_19, ln_19, tn_20, ln_20, tn_21, ln_21, tn_22, ln_22, tn_23, ln_23, tn_24, ln_24, tn_25, ln_25, tn_26, ln_26, tn_27, ln_27, ob_28, tn_29, ln_29, tn_30, ln_30, ob_31, tn_32, ln_32, tn_33, ln_33, ob_34, ob_35, tn_36, ln_36, tn_37, ln_37, tn_38, ln_38, ob_39, tn_40, ln_40, tn_41, ln_41, tn_42, ln_42, tn_43, ln_43, tn_44, ln_44, tn_45, ln_45, tn_46, ln_46, tn_47, ln_47, tn_48, ln_48, tn_49, ln_49, tn_50, ln_50, tn_51, ln_51, ob_52, tn_53, ln_53, tn_54, ln_54, tn_55, ln_55, tn_56, ln_56, ob_57, tn_58, ln_58, tn_59, ln_59, tn_60, ln_60, tn_61, ln_61, tn_62, ln_62, tn_63, ln_63, tn_64, ln_64, tn_65, ln_65, ob_66, tn_67, ln_67, tn_68, ln_68, tn_69, ln_69, tn_70, ln_70, tn_71, ln_71, tn_72, ln_72, tn_73, ln_73, ob_74, tn_75, ln_75, tn_76, ln_76, tn_77, ln_77, tn_78, ln_78, tn_79, ln_79, tn_80, ln_80, tn_81, ln_81, tn_82, ln_82, tn_83, ln_83, ob_84, tn_85, ln_85, tn_86, ln_86, tn_87, ln_87, tn_88, ln_88, tn_89, ln_89, tn_90, ln_90, tn_91, ln_91, tn_92, ln_92, tn_93, ln_93, ob_94, tn_95, ln_95, tn_96, ln_96, tn_97, ln_97, tn_98, ln_98, tn_99, ln_99, tn_100, ln_100, tn_101, ln_101, tn_102, ln_102, tn_103, ln_103, ob_104, tn_105, ln_105, tn_106, ln_106, tn_107, ln_107, tn_108, ln_108, tn_109, ln_109, tn_110, ln_110, tn_111, ln_111, tn_112, ln_112, tn_113, ln_113, ob_114, tn_115, ln_115, tn_116, ln_116, tn_117, ln_117, tn_118, ln_118, tn_119, ln_119, tn_120, ln_120, tn_121, ln_121, tn_122, ln_122, tn_123, ln_123, ob_124, tn_125, ln_125, tn_126, ln_126, tn_127, ln_127, tn_128, ln_128, tn_129, ln_129, tn_130, ln_130, tn_131, ln_131, tn_132, ln_132, tn_133, ln_133, ob_134, tn_135, ln_135, tn_136, ln_136, tn_137, ln_137, tn_138, ln_138, tn_139, ln_139, tn_140, ln_140, tn_141, ln_141, tn_142, ln_142, tn_143, ln_143, ob_144, tn_145, ln_145, tn_146, ln_146, tn_147, ln_147, tn_148, ln_148, tn_149, ln_149, tn_150, ln_150, tn_151, ln_151, tn_152, ln_152, tn_153, ln_153, ob_154, tn_155, ln_155, tn_156, ln_156, tn_157, ln_157, tn_158, ln_158, tn_159, ln_159, tn_160, ln_160, tn_161, ln_161, tn_162, ln_162, tn_163, ln_163, ob_164, tn_165, ln_165, tn_166, ln_166, ob_167, tn_168, ln_168, tn_169, ln_169, tn_170, ln_170, tn_171, ln_171, tn_172, ln_172, tn_173, ln_173, tn_174, ln_174, tn_175, ln_175, tn_176, ln_176, ob_177, tn_178, ln_178, tn_179, ln_179, ob_180, tn_181, ln_181, tn_182, ln_182, tn_183, ln_183, tn_184, ln_184, tn_185, ln_185, tn_186, ln_186, tn_187, ln_187, tn_188, ln_188, tn_189, ln_189, tn_190, ln_190, tn_191, ln_191, tn_192, ln_192, tn_193, ln_193, tn_194, ln_194, tn_195, ln_195, tn_196, ln_196, tn_197, ln_197, tn_198, ln_198, tn_199, ln_199, tn_200, ln_200, tn_201, ln_201, tn_202, ln_202, tn_203, ln_203, tn_204, ln_204, tn_205, ln_205, tn_206, ln_206, tn_207, ln_207, tn_208, ln_208, tn_209, ln_209, tn_210, ln_210, tn_211, ln_211, tn_212, ln_212, tn_213, ln_213, tn_214, ln_214, tn_215, ln_215, tn_216, ln_216, tn_217, ln_217, tn_218, ln_218, tn_219, ln_219, tn_220, ln_220, tn_221, ln_221, tn_222, ln_222, tn_223, ln_223, tn_224, ln_224, tn_225, ln_225, tn_226, ln_226, tn_227, ln_227, tn_228, ln_228, tn_229, ln_229, tn_230, ln_230, lx2, lx3, lx4, lx5, lx6, lx7, lx8, lx9, lx10, lx14, lx15, lx16, lx18, lx20, lx24, lx25, lx27, lx32, lx36, lx40, lx41, lx42, lx43, lx45, lx48, lx52, lx54, lx56, lx57, lx58, lx60, lx61, lx62, lx63, lx64, lx66, lx69, lx73, lx80, lx81, lx84, lx85, lx87, lx94, lx96, lx97, lx120, lx128, lx135, lx160, lx162, lx163, lx165, lx200, lx232, lx242, lx243, lx255, lx256, lx320, lx325, lx400, lx405, lx464, lx512, lx600, lx640, lx752, lx900, lx940, lx1000, lx1024, lx1764, lx3360, lx3840, lx5000, lx6400, lx9050, lx9998, lx9999, lx10000, lx25600, lx76800, lx99999]
    skip

