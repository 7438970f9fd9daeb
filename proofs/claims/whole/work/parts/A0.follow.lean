/-! ===== the class's follow ===== -/
theorem d_X10_follow_0 : decode cX10_follow 0 = .ok (.aload_n 0, 1) := by decide +kernel
theorem d_X10_follow_1 : decode cX10_follow 1 = .ok (.iconst 1, 1) := by decide +kernel
theorem d_X10_follow_2 : decode cX10_follow 2 = .ok (.putfield 29, 3) := by decide +kernel
theorem d_X10_follow_5 : decode cX10_follow 5 = .ok (.aload_n 0, 1) := by decide +kernel
theorem d_X10_follow_6 : decode cX10_follow 6 = .ok (.iconst 0, 1) := by decide +kernel
theorem d_X10_follow_7 : decode cX10_follow 7 = .ok (.putfield 33, 3) := by decide +kernel
theorem d_X10_follow_10 : decode cX10_follow 10 = .ok (.aload_n 0, 1) := by decide +kernel
theorem d_X10_follow_11 : decode cX10_follow 11 = .ok (.iconst 0, 1) := by decide +kernel
theorem d_X10_follow_12 : decode cX10_follow 12 = .ok (.putfield 36, 3) := by decide +kernel
theorem d_X10_follow_15 : decode cX10_follow 15 = .ok (.aload_n 0, 1) := by decide +kernel
theorem d_X10_follow_16 : decode cX10_follow 16 = .ok (.iconst (-1), 1) := by decide +kernel
theorem d_X10_follow_17 : decode cX10_follow 17 = .ok (.putfield 39, 3) := by decide +kernel
theorem d_X10_follow_20 : decode cX10_follow 20 = .ok (.aload_n 0, 1) := by decide +kernel
theorem d_X10_follow_21 : decode cX10_follow 21 = .ok (.iconst 0, 1) := by decide +kernel
theorem d_X10_follow_22 : decode cX10_follow 22 = .ok (.putfield 43, 3) := by decide +kernel
theorem d_X10_follow_25 : decode cX10_follow 25 = .ok (.aload_n 0, 1) := by decide +kernel
theorem d_X10_follow_26 : decode cX10_follow 26 = .ok (.iconst 0, 1) := by decide +kernel
theorem d_X10_follow_27 : decode cX10_follow 27 = .ok (.putfield 46, 3) := by decide +kernel
theorem d_X10_follow_30 : decode cX10_follow 30 = .ok (.iconst 0, 1) := by decide +kernel
theorem d_X10_follow_31 : decode cX10_follow 31 = .ok (.istore_n 1, 1) := by decide +kernel
theorem d_X10_follow_32 : decode cX10_follow 32 = .ok (.iload_n 1, 1) := by decide +kernel
theorem d_X10_follow_33 : decode cX10_follow 33 = .ok (.sipush 640, 3) := by decide +kernel
theorem d_X10_follow_36 : decode cX10_follow 36 = .ok (.if_icmp .ge 23, 3) := by decide +kernel
theorem d_X10_follow_39 : decode cX10_follow 39 = .ok (.aload_n 0, 1) := by decide +kernel
theorem d_X10_follow_40 : decode cX10_follow 40 = .ok (.getfield 11, 3) := by decide +kernel
theorem d_X10_follow_43 : decode cX10_follow 43 = .ok (.iload_n 1, 1) := by decide +kernel
theorem d_X10_follow_44 : decode cX10_follow 44 = .ok (.lconst 0, 1) := by decide +kernel
theorem d_X10_follow_45 : decode cX10_follow 45 = .ok (.lastore, 1) := by decide +kernel
theorem d_X10_follow_46 : decode cX10_follow 46 = .ok (.aload_n 0, 1) := by decide +kernel
theorem d_X10_follow_47 : decode cX10_follow 47 = .ok (.getfield 18, 3) := by decide +kernel
theorem d_X10_follow_50 : decode cX10_follow 50 = .ok (.iload_n 1, 1) := by decide +kernel
theorem d_X10_follow_51 : decode cX10_follow 51 = .ok (.lconst 0, 1) := by decide +kernel
theorem d_X10_follow_52 : decode cX10_follow 52 = .ok (.lastore, 1) := by decide +kernel
theorem d_X10_follow_53 : decode cX10_follow 53 = .ok (.iinc 1 1, 3) := by decide +kernel
theorem d_X10_follow_56 : decode cX10_follow 56 = .ok (.goto (-24), 3) := by decide +kernel
theorem d_X10_follow_59 : decode cX10_follow 59 = .ok (.aload_n 0, 1) := by decide +kernel
theorem d_X10_follow_60 : decode cX10_follow 60 = .ok (.getfield 18, 3) := by decide +kernel
theorem d_X10_follow_63 : decode cX10_follow 63 = .ok (.iconst 0, 1) := by decide +kernel
theorem d_X10_follow_64 : decode cX10_follow 64 = .ok (.lconst 1, 1) := by decide +kernel
theorem d_X10_follow_65 : decode cX10_follow 65 = .ok (.lastore, 1) := by decide +kernel
theorem d_X10_follow_66 : decode cX10_follow 66 = .ok (.iconst 0, 1) := by decide +kernel
theorem d_X10_follow_67 : decode cX10_follow 67 = .ok (.istore_n 1, 1) := by decide +kernel
theorem d_X10_follow_68 : decode cX10_follow 68 = .ok (.iload_n 1, 1) := by decide +kernel
theorem d_X10_follow_69 : decode cX10_follow 69 = .ok (.sipush 25600, 3) := by decide +kernel
theorem d_X10_follow_72 : decode cX10_follow 72 = .ok (.if_icmp .gt 99, 3) := by decide +kernel
theorem d_X10_follow_75 : decode cX10_follow 75 = .ok (.aload_n 0, 1) := by decide +kernel
theorem d_X10_follow_76 : decode cX10_follow 76 = .ok (.invokevirtual 49, 3) := by decide +kernel
theorem d_X10_follow_79 : decode cX10_follow 79 = .ok (.ifCond .eq 92, 3) := by decide +kernel
theorem d_X10_follow_82 : decode cX10_follow 82 = .ok (.aload_n 0, 1) := by decide +kernel
theorem d_X10_follow_83 : decode cX10_follow 83 = .ok (.getfield 43, 3) := by decide +kernel
theorem d_X10_follow_86 : decode cX10_follow 86 = .ok (.aload_n 0, 1) := by decide +kernel
theorem d_X10_follow_87 : decode cX10_follow 87 = .ok (.getfield 46, 3) := by decide +kernel
theorem d_X10_follow_90 : decode cX10_follow 90 = .ok (.if_icmp .ge 75, 3) := by decide +kernel
theorem d_X10_follow_93 : decode cX10_follow 93 = .ok (.aload_n 0, 1) := by decide +kernel
theorem d_X10_follow_94 : decode cX10_follow 94 = .ok (.getfield 43, 3) := by decide +kernel
theorem d_X10_follow_97 : decode cX10_follow 97 = .ok (.aload_n 0, 1) := by decide +kernel
theorem d_X10_follow_98 : decode cX10_follow 98 = .ok (.getfield 21, 3) := by decide +kernel
theorem d_X10_follow_101 : decode cX10_follow 101 = .ok (.arraylength, 1) := by decide +kernel
theorem d_X10_follow_102 : decode cX10_follow 102 = .ok (.if_icmp .ge 63, 3) := by decide +kernel
theorem d_X10_follow_105 : decode cX10_follow 105 = .ok (.aload_n 0, 1) := by decide +kernel
theorem d_X10_follow_106 : decode cX10_follow 106 = .ok (.getfield 21, 3) := by decide +kernel
theorem d_X10_follow_109 : decode cX10_follow 109 = .ok (.aload_n 0, 1) := by decide +kernel
theorem d_X10_follow_110 : decode cX10_follow 110 = .ok (.getfield 43, 3) := by decide +kernel
theorem d_X10_follow_113 : decode cX10_follow 113 = .ok (.iaload, 1) := by decide +kernel
theorem d_X10_follow_114 : decode cX10_follow 114 = .ok (.istore_n 2, 1) := by decide +kernel
theorem d_X10_follow_115 : decode cX10_follow 115 = .ok (.aload_n 0, 1) := by decide +kernel
theorem d_X10_follow_116 : decode cX10_follow 116 = .ok (.dup, 1) := by decide +kernel
theorem d_X10_follow_117 : decode cX10_follow 117 = .ok (.getfield 43, 3) := by decide +kernel
theorem d_X10_follow_120 : decode cX10_follow 120 = .ok (.iconst 1, 1) := by decide +kernel
theorem d_X10_follow_121 : decode cX10_follow 121 = .ok (.iadd, 1) := by decide +kernel
theorem d_X10_follow_122 : decode cX10_follow 122 = .ok (.putfield 43, 3) := by decide +kernel
theorem d_X10_follow_125 : decode cX10_follow 125 = .ok (.iload_n 2, 1) := by decide +kernel
theorem d_X10_follow_126 : decode cX10_follow 126 = .ok (.sipush 6481, 3) := by decide +kernel
theorem d_X10_follow_129 : decode cX10_follow 129 = .ok (.if_icmp .ne 13, 3) := by decide +kernel
theorem d_X10_follow_132 : decode cX10_follow 132 = .ok (.aload_n 0, 1) := by decide +kernel
theorem d_X10_follow_133 : decode cX10_follow 133 = .ok (.iconst 1, 1) := by decide +kernel
theorem d_X10_follow_134 : decode cX10_follow 134 = .ok (.putfield 36, 3) := by decide +kernel
theorem d_X10_follow_137 : decode cX10_follow 137 = .ok (.aload_n 0, 1) := by decide +kernel
theorem d_X10_follow_138 : decode cX10_follow 138 = .ok (.iload_n 1, 1) := by decide +kernel
theorem d_X10_follow_139 : decode cX10_follow 139 = .ok (.putfield 39, 3) := by decide +kernel
theorem d_X10_follow_142 : decode cX10_follow 142 = .ok (.aload_n 0, 1) := by decide +kernel
theorem d_X10_follow_143 : decode cX10_follow 143 = .ok (.iload_n 2, 1) := by decide +kernel
theorem d_X10_follow_144 : decode cX10_follow 144 = .ok (.sipush 6400, 3) := by decide +kernel
theorem d_X10_follow_147 : decode cX10_follow 147 = .ok (.idiv, 1) := by decide +kernel
theorem d_X10_follow_148 : decode cX10_follow 148 = .ok (.iload_n 2, 1) := by decide +kernel
theorem d_X10_follow_149 : decode cX10_follow 149 = .ok (.bipush 80, 2) := by decide +kernel
theorem d_X10_follow_151 : decode cX10_follow 151 = .ok (.idiv, 1) := by decide +kernel
theorem d_X10_follow_152 : decode cX10_follow 152 = .ok (.bipush 80, 2) := by decide +kernel
theorem d_X10_follow_154 : decode cX10_follow 154 = .ok (.irem, 1) := by decide +kernel
theorem d_X10_follow_155 : decode cX10_follow 155 = .ok (.iload_n 2, 1) := by decide +kernel
theorem d_X10_follow_156 : decode cX10_follow 156 = .ok (.bipush 80, 2) := by decide +kernel
theorem d_X10_follow_158 : decode cX10_follow 158 = .ok (.irem, 1) := by decide +kernel
theorem d_X10_follow_159 : decode cX10_follow 159 = .ok (.invokevirtual 53, 3) := by decide +kernel
theorem d_X10_follow_162 : decode cX10_follow 162 = .ok (.goto (-80), 3) := by decide +kernel
theorem d_X10_follow_165 : decode cX10_follow 165 = .ok (.iinc 1 1, 3) := by decide +kernel
theorem d_X10_follow_168 : decode cX10_follow 168 = .ok (.goto (-100), 3) := by decide +kernel
theorem d_X10_follow_171 : decode cX10_follow 171 = .ok (.return_, 1) := by decide +kernel
def k_X10_follow_0 (P : xP) (C32 : xK) : xK := x_aload 0 (x_push (.int 1) (y_putZ 52 0 (x_aload 0 (x_push (.int 0) (y_putZ 52 1 (x_aload 0 (x_push (.int 0) (y_putZ 52 2 (x_aload 0 (x_push (.int (-1)) (y_putI 52 3 (x_aload 0 (x_push (.int 0) (y_putI 52 8 (x_aload 0 (x_push (.int 0) (y_putI 52 9 (x_push (.int 0) (x_istore 1 (C32))))))))))))))))))))
set_option maxRecDepth 20000 in
theorem t_X10_follow_0 {p : Program} {l : Launch} {e : Env} {s : State} {m : MethodId} {args : Array Value} {below : List Frame} {meth : Method} {c : Code} {g : xG} (X : xX p s m args c meth cX10_follow RX10 3 g) (hr : meth.sig.returnType = none) {P : xP} {C32 : xK} (h32 : xAt p l e { frames := 5, cells := 0, slots := 0, locals := 141 } s m args below meth c g 3 xFT xN 0 0 (MQ below (xQc g xFT xN P) args s 0 0 (xFr g)) C32 32) : xAt p l e { frames := 5, cells := 0, slots := 0, locals := 141 } s m args below meth c g 3 xFT xN 0 0 (MQ below (xQc g xFT xN P) args s 0 0 (xFr g)) (k_X10_follow_0 P C32) 0 := by
  unfold k_X10_follow_0
  refine r_aload_n (pc := 0) X d_X10_follow_0 fn0 ?_
  refine r_iconst (pc := 1) X d_X10_follow_1 (by decide +kernel) ?_
  refine s_putZ (pc := 2) (ci := 10) X xok10 (by decide +kernel) ob_52 (by decide +kernel) (by decide +kernel) (by decide +kernel) fl_RX10_29 d_X10_follow_2 ?_
  refine r_aload_n (pc := 5) X d_X10_follow_5 fn0 ?_
  refine r_iconst (pc := 6) X d_X10_follow_6 (by decide +kernel) ?_
  refine s_putZ (pc := 7) (ci := 10) X xok10 (by decide +kernel) ob_52 (by decide +kernel) (by decide +kernel) (by decide +kernel) fl_RX10_33 d_X10_follow_7 ?_
  refine r_aload_n (pc := 10) X d_X10_follow_10 fn0 ?_
  refine r_iconst (pc := 11) X d_X10_follow_11 (by decide +kernel) ?_
  refine s_putZ (pc := 12) (ci := 10) X xok10 (by decide +kernel) ob_52 (by decide +kernel) (by decide +kernel) (by decide +kernel) fl_RX10_36 d_X10_follow_12 ?_
  refine r_aload_n (pc := 15) X d_X10_follow_15 fn0 ?_
  refine r_iconst (pc := 16) X d_X10_follow_16 (by decide +kernel) ?_
  refine s_putI (pc := 17) (ci := 10) X xok10 (by decide +kernel) ob_52 (by decide +kernel) (by decide +kernel) (by decide +kernel) fl_RX10_39 d_X10_follow_17 ?_
  refine r_aload_n (pc := 20) X d_X10_follow_20 fn0 ?_
  refine r_iconst (pc := 21) X d_X10_follow_21 (by decide +kernel) ?_
  refine s_putI (pc := 22) (ci := 10) X xok10 (by decide +kernel) ob_52 (by decide +kernel) (by decide +kernel) (by decide +kernel) fl_RX10_43 d_X10_follow_22 ?_
  refine r_aload_n (pc := 25) X d_X10_follow_25 fn0 ?_
  refine r_iconst (pc := 26) X d_X10_follow_26 (by decide +kernel) ?_
  refine s_putI (pc := 27) (ci := 10) X xok10 (by decide +kernel) ob_52 (by decide +kernel) (by decide +kernel) (by decide +kernel) fl_RX10_46 d_X10_follow_27 ?_
  refine r_iconst (pc := 30) X d_X10_follow_30 (by decide +kernel) ?_
  refine r_istore_n (pc := 31) X d_X10_follow_31 fn1 (by decide +kernel) ?_
  exact h32
def k_X10_follow_32 (P : xP) (C32 : xK) (C68 : xK) : xK := x_iload 1 (x_push (.int 640) (x_icmp_ge (x_aload 0 (y_getF 52 55 (x_push (.int 0) (x_push (.long 1) (y_last 55 640 (x_push (.int 0) (x_istore 1 (C68)))))))) (x_aload 0 (y_getF 52 53 (x_iload 1 (x_push (.long 0) (y_last 53 640 (x_aload 0 (y_getF 52 55 (x_iload 1 (x_push (.long 0) (y_last 55 640 (x_iinc 1 1 (C32))))))))))))))
set_option maxRecDepth 20000 in
theorem t_X10_follow_32 {p : Program} {l : Launch} {e : Env} {s : State} {m : MethodId} {args : Array Value} {below : List Frame} {meth : Method} {c : Code} {g : xG} (X : xX p s m args c meth cX10_follow RX10 3 g) (hr : meth.sig.returnType = none) {P : xP} {C32 : xK} {C68 : xK} (h32 : xAt p l e { frames := 5, cells := 0, slots := 0, locals := 141 } s m args below meth c g 3 xFT xN 0 0 (MQ below (xQc g xFT xN P) args s 0 0 (xFr g)) C32 32) (h68 : xAt p l e { frames := 5, cells := 0, slots := 0, locals := 141 } s m args below meth c g 3 xFT xN 0 0 (MQ below (xQc g xFT xN P) args s 0 0 (xFr g)) C68 68) : xAt p l e { frames := 5, cells := 0, slots := 0, locals := 141 } s m args below meth c g 3 xFT xN 0 0 (MQ below (xQc g xFT xN P) args s 0 0 (xFr g)) (k_X10_follow_32 P C32 C68) 32 := by
  unfold k_X10_follow_32
  refine r_iload_n (pc := 32) X d_X10_follow_32 fn1 ?_
  refine r_sipush (pc := 33) X d_X10_follow_33 (by decide +kernel) ?_
  refine r_icmp_ge (pc := 36) (tgt := 59) X d_X10_follow_36 (by decide +kernel) ?_ ?_
  · refine r_aload_n (pc := 59) X d_X10_follow_59 fn0 ?_
    refine s_getF (pc := 60) (ci := 10) (k := 6) X xok10 (by decide +kernel) ob_52 trivial ly_52_6 (by decide +kernel) fl_RX10_18 d_X10_follow_60 ?_
    refine r_iconst (pc := 63) X d_X10_follow_63 (by decide +kernel) ?_
    refine r_lconst (pc := 64) X d_X10_follow_64 (by decide +kernel) ?_
    refine s_last (pc := 65) X tn_55 ln_55 d_X10_follow_65 ?_
    refine r_iconst (pc := 66) X d_X10_follow_66 (by decide +kernel) ?_
    refine r_istore_n (pc := 67) X d_X10_follow_67 fn1 (by decide +kernel) ?_
    exact h68
  · refine r_aload_n (pc := 39) X d_X10_follow_39 fn0 ?_
    refine s_getF (pc := 40) (ci := 10) (k := 4) X xok10 (by decide +kernel) ob_52 trivial ly_52_4 (by decide +kernel) fl_RX10_11 d_X10_follow_40 ?_
    refine r_iload_n (pc := 43) X d_X10_follow_43 fn1 ?_
    refine r_lconst (pc := 44) X d_X10_follow_44 (by decide +kernel) ?_
    refine s_last (pc := 45) X tn_53 ln_53 d_X10_follow_45 ?_
    refine r_aload_n (pc := 46) X d_X10_follow_46 fn0 ?_
    refine s_getF (pc := 47) (ci := 10) (k := 6) X xok10 (by decide +kernel) ob_52 trivial ly_52_6 (by decide +kernel) fl_RX10_18 d_X10_follow_47 ?_
    refine r_iload_n (pc := 50) X d_X10_follow_50 fn1 ?_
    refine r_lconst (pc := 51) X d_X10_follow_51 (by decide +kernel) ?_
    refine s_last (pc := 52) X tn_55 ln_55 d_X10_follow_52 ?_
    refine r_iinc (pc := 53) X d_X10_follow_53 (by decide +kernel) (by decide +kernel) ?_
    refine r_goto (pc := 56) (tgt := 32) X d_X10_follow_56 (by decide +kernel) ?_
    exact h32
def k_X10_follow_171 (P : xP) : xK := x_vret P
set_option maxRecDepth 20000 in
theorem t_X10_follow_171 {p : Program} {l : Launch} {e : Env} {s : State} {m : MethodId} {args : Array Value} {below : List Frame} {meth : Method} {c : Code} {g : xG} (X : xX p s m args c meth cX10_follow RX10 3 g) (hr : meth.sig.returnType = none) {P : xP} : xAt p l e { frames := 5, cells := 0, slots := 0, locals := 141 } s m args below meth c g 3 xFT xN 0 0 (MQ below (xQc g xFT xN P) args s 0 0 (xFr g)) (k_X10_follow_171 P) 171 := by
  unfold k_X10_follow_171
  exact r_vret (pc := 171) X hr d_X10_follow_171
def k_X10_follow_68 (P : xP) (C82 : xK) : xK := x_iload 1 (x_push (.int 25600) (x_icmp_gt ((k_X10_follow_171 P)) (x_aload 0 (y_cv0 52 (w_R f_X10_raise) (x_if_eq ((k_X10_follow_171 P)) (C82))))))
set_option maxRecDepth 20000 in
theorem t_X10_follow_68 {p : Program} {l : Launch} {e : Env} {s : State} {m : MethodId} {args : Array Value} {below : List Frame} {meth : Method} {c : Code} {g : xG} (X : xX p s m args c meth cX10_follow RX10 3 g) (hr : meth.sig.returnType = none) {P : xP} {C82 : xK} (h82 : xAt p l e { frames := 5, cells := 0, slots := 0, locals := 141 } s m args below meth c g 3 xFT xN 0 0 (MQ below (xQc g xFT xN P) args s 0 0 (xFr g)) C82 82) : xAt p l e { frames := 5, cells := 0, slots := 0, locals := 141 } s m args below meth c g 3 xFT xN 0 0 (MQ below (xQc g xFT xN P) args s 0 0 (xFr g)) (k_X10_follow_68 P C82) 68 := by
  unfold k_X10_follow_68
  refine r_iload_n (pc := 68) X d_X10_follow_68 fn1 ?_
  refine r_sipush (pc := 69) X d_X10_follow_69 (by decide +kernel) ?_
  refine r_icmp_gt (pc := 72) (tgt := 171) X d_X10_follow_72 (by decide +kernel) ?_ ?_
  · exact t_X10_follow_171 X hr
  · refine r_aload_n (pc := 75) X d_X10_follow_75 fn0 ?_
    refine s_cv0 (pc := 76) (ci := 10) X xok10 (by decide +kernel) ob_52 rfl (con_X10_raise l) mf_X10_raise ml_RX10_49 (by decide +kernel) (by decide +kernel) d_X10_follow_76 ?_
    refine r_if_eq (pc := 79) (tgt := 171) X d_X10_follow_79 (by decide +kernel) ?_ ?_
    · exact t_X10_follow_171 X hr
    · exact h82
def k_X10_follow_165 (P : xP) (C68 : xK) : xK := x_iinc 1 1 (C68)
set_option maxRecDepth 20000 in
theorem t_X10_follow_165 {p : Program} {l : Launch} {e : Env} {s : State} {m : MethodId} {args : Array Value} {below : List Frame} {meth : Method} {c : Code} {g : xG} (X : xX p s m args c meth cX10_follow RX10 3 g) (hr : meth.sig.returnType = none) {P : xP} {C68 : xK} (h68 : xAt p l e { frames := 5, cells := 0, slots := 0, locals := 141 } s m args below meth c g 3 xFT xN 0 0 (MQ below (xQc g xFT xN P) args s 0 0 (xFr g)) C68 68) : xAt p l e { frames := 5, cells := 0, slots := 0, locals := 141 } s m args below meth c g 3 xFT xN 0 0 (MQ below (xQc g xFT xN P) args s 0 0 (xFr g)) (k_X10_follow_165 P C68) 165 := by
  unfold k_X10_follow_165
  refine r_iinc (pc := 165) X d_X10_follow_165 (by decide +kernel) (by decide +kernel) ?_
  refine r_goto (pc := 168) (tgt := 68) X d_X10_follow_168 (by decide +kernel) ?_
  exact h68
def k_X10_follow_142 (P : xP) (C82 : xK) : xK := x_aload 0 (x_iload 2 (x_push (.int 6400) (x_idiv (x_iload 2 (x_push (.int 80) (x_idiv (x_push (.int 80) (x_irem (x_iload 2 (x_push (.int 80) (x_irem (y_cv3 52 (w_RIII f_X10_go) (C82)))))))))))))
set_option maxRecDepth 20000 in
theorem t_X10_follow_142 {p : Program} {l : Launch} {e : Env} {s : State} {m : MethodId} {args : Array Value} {below : List Frame} {meth : Method} {c : Code} {g : xG} (X : xX p s m args c meth cX10_follow RX10 3 g) (hr : meth.sig.returnType = none) {P : xP} {C82 : xK} (h82 : xAt p l e { frames := 5, cells := 0, slots := 0, locals := 141 } s m args below meth c g 3 xFT xN 0 0 (MQ below (xQc g xFT xN P) args s 0 0 (xFr g)) C82 82) : xAt p l e { frames := 5, cells := 0, slots := 0, locals := 141 } s m args below meth c g 3 xFT xN 0 0 (MQ below (xQc g xFT xN P) args s 0 0 (xFr g)) (k_X10_follow_142 P C82) 142 := by
  unfold k_X10_follow_142
  refine r_aload_n (pc := 142) X d_X10_follow_142 fn0 ?_
  refine r_iload_n (pc := 143) X d_X10_follow_143 fn2 ?_
  refine r_sipush (pc := 144) X d_X10_follow_144 (by decide +kernel) ?_
  refine r_idiv (pc := 147) X d_X10_follow_147 ?_
  refine r_iload_n (pc := 148) X d_X10_follow_148 fn2 ?_
  refine r_bipush (pc := 149) X d_X10_follow_149 (by decide +kernel) ?_
  refine r_idiv (pc := 151) X d_X10_follow_151 ?_
  refine r_bipush (pc := 152) X d_X10_follow_152 (by decide +kernel) ?_
  refine r_irem (pc := 154) X d_X10_follow_154 ?_
  refine r_iload_n (pc := 155) X d_X10_follow_155 fn2 ?_
  refine r_bipush (pc := 156) X d_X10_follow_156 (by decide +kernel) ?_
  refine r_irem (pc := 158) X d_X10_follow_158 ?_
  refine s_cv3 (pc := 159) (ci := 10) X xok10 (by decide +kernel) ob_52 rfl (con_X10_go l) mf_X10_go ml_RX10_53 (by decide +kernel) (by decide +kernel) d_X10_follow_159 ?_
  refine r_goto (pc := 162) (tgt := 82) X d_X10_follow_162 (by decide +kernel) ?_
  exact h82
def k_X10_follow_82 (P : xP) (C68 : xK) (C82 : xK) : xK := x_aload 0 (y_getI 52 8 (x_aload 0 (y_getI 52 9 (x_icmp_ge ((k_X10_follow_165 P C68)) (x_aload 0 (y_getI 52 8 (x_aload 0 (y_getF 52 56 (y_alen 56 25600 (x_icmp_ge ((k_X10_follow_165 P C68)) (x_aload 0 (y_getF 52 56 (x_aload 0 (y_getI 52 8 (y_iald 56 25600 (x_istore 2 (x_aload 0 (x_dup (y_getI 52 8 (x_push (.int 1) (x_iadd (y_putI 52 8 (x_iload 2 (x_push (.int 6481) (x_icmp_ne ((k_X10_follow_142 P C82)) (x_aload 0 (x_push (.int 1) (y_putZ 52 2 (x_aload 0 (x_iload 1 (y_putI 52 3 ((k_X10_follow_142 P C82)))))))))))))))))))))))))))))))))
set_option maxRecDepth 20000 in
theorem t_X10_follow_82 {p : Program} {l : Launch} {e : Env} {s : State} {m : MethodId} {args : Array Value} {below : List Frame} {meth : Method} {c : Code} {g : xG} (X : xX p s m args c meth cX10_follow RX10 3 g) (hr : meth.sig.returnType = none) {P : xP} {C68 : xK} {C82 : xK} (h68 : xAt p l e { frames := 5, cells := 0, slots := 0, locals := 141 } s m args below meth c g 3 xFT xN 0 0 (MQ below (xQc g xFT xN P) args s 0 0 (xFr g)) C68 68) (h82 : xAt p l e { frames := 5, cells := 0, slots := 0, locals := 141 } s m args below meth c g 3 xFT xN 0 0 (MQ below (xQc g xFT xN P) args s 0 0 (xFr g)) C82 82) : xAt p l e { frames := 5, cells := 0, slots := 0, locals := 141 } s m args below meth c g 3 xFT xN 0 0 (MQ below (xQc g xFT xN P) args s 0 0 (xFr g)) (k_X10_follow_82 P C68 C82) 82 := by
  unfold k_X10_follow_82
  refine r_aload_n (pc := 82) X d_X10_follow_82 fn0 ?_
  refine s_getI (pc := 83) (ci := 10) X xok10 (by decide +kernel) ob_52 (by decide +kernel) fl_RX10_43 d_X10_follow_83 ?_
  refine r_aload_n (pc := 86) X d_X10_follow_86 fn0 ?_
  refine s_getI (pc := 87) (ci := 10) X xok10 (by decide +kernel) ob_52 (by decide +kernel) fl_RX10_46 d_X10_follow_87 ?_
  refine r_icmp_ge (pc := 90) (tgt := 165) X d_X10_follow_90 (by decide +kernel) ?_ ?_
  · exact t_X10_follow_165 X hr h68
  · refine r_aload_n (pc := 93) X d_X10_follow_93 fn0 ?_
    refine s_getI (pc := 94) (ci := 10) X xok10 (by decide +kernel) ob_52 (by decide +kernel) fl_RX10_43 d_X10_follow_94 ?_
    refine r_aload_n (pc := 97) X d_X10_follow_97 fn0 ?_
    refine s_getF (pc := 98) (ci := 10) (k := 7) X xok10 (by decide +kernel) ob_52 trivial ly_52_7 (by decide +kernel) fl_RX10_21 d_X10_follow_98 ?_
    refine s_alen (pc := 101) (q := 56) X (by rw [tn_56]; decide +kernel) ln_56 d_X10_follow_101 ?_
    refine r_icmp_ge (pc := 102) (tgt := 165) X d_X10_follow_102 (by decide +kernel) ?_ ?_
    · exact t_X10_follow_165 X hr h68
    · refine r_aload_n (pc := 105) X d_X10_follow_105 fn0 ?_
      refine s_getF (pc := 106) (ci := 10) (k := 7) X xok10 (by decide +kernel) ob_52 trivial ly_52_7 (by decide +kernel) fl_RX10_21 d_X10_follow_106 ?_
      refine r_aload_n (pc := 109) X d_X10_follow_109 fn0 ?_
      refine s_getI (pc := 110) (ci := 10) X xok10 (by decide +kernel) ob_52 (by decide +kernel) fl_RX10_43 d_X10_follow_110 ?_
      refine s_iald (pc := 113) X tn_56 ln_56 d_X10_follow_113 ?_
      refine r_istore_n (pc := 114) X d_X10_follow_114 fn2 (by decide +kernel) ?_
      refine r_aload_n (pc := 115) X d_X10_follow_115 fn0 ?_
      refine r_dup (pc := 116) X d_X10_follow_116 ?_
      refine s_getI (pc := 117) (ci := 10) X xok10 (by decide +kernel) ob_52 (by decide +kernel) fl_RX10_43 d_X10_follow_117 ?_
      refine r_iconst (pc := 120) X d_X10_follow_120 (by decide +kernel) ?_
      refine r_iadd (pc := 121) X d_X10_follow_121 ?_
      refine s_putI (pc := 122) (ci := 10) X xok10 (by decide +kernel) ob_52 (by decide +kernel) (by decide +kernel) (by decide +kernel) fl_RX10_43 d_X10_follow_122 ?_
      refine r_iload_n (pc := 125) X d_X10_follow_125 fn2 ?_
      refine r_sipush (pc := 126) X d_X10_follow_126 (by decide +kernel) ?_
      refine r_icmp_ne (pc := 129) (tgt := 142) X d_X10_follow_129 (by decide +kernel) ?_ ?_
      · exact t_X10_follow_142 X hr h82
      · refine r_aload_n (pc := 132) X d_X10_follow_132 fn0 ?_
        refine r_iconst (pc := 133) X d_X10_follow_133 (by decide +kernel) ?_
        refine s_putZ (pc := 134) (ci := 10) X xok10 (by decide +kernel) ob_52 (by decide +kernel) (by decide +kernel) (by decide +kernel) fl_RX10_36 d_X10_follow_134 ?_
        refine r_aload_n (pc := 137) X d_X10_follow_137 fn0 ?_
        refine r_iload_n (pc := 138) X d_X10_follow_138 fn1 ?_
        refine s_putI (pc := 139) (ci := 10) X xok10 (by decide +kernel) ob_52 (by decide +kernel) (by decide +kernel) (by decide +kernel) fl_RX10_39 d_X10_follow_139 ?_
        exact t_X10_follow_142 X hr h82
set_option maxRecDepth 20000 in
theorem m_X10_follow {l : Launch} {f : Nat → xH → xP → Prop}  {I32 : Nat → xH → xP → xM → xK} {I68 : Nat → xH → xP → xM → xK} {I82 : Nat → xH → xP → xM → xK}
    (v0 : ∀ (a0 : Nat) (A : xH) (P : xP), f a0 A P → k_X10_follow_0 P (xE (I32 a0 A P)) [some (.ref a0), none, none] [] A)
    (v32 : ∀ (a0 : Nat) (A : xH) (P : xP), f a0 A P → ∀ (μ : xM) (L : xL) (st : List Value) (B : xH), I32 a0 A P μ L st B → k_X10_follow_32 P (xB (I32 a0 A P) μ) (xE (I68 a0 A P)) L st B)
    (v68 : ∀ (a0 : Nat) (A : xH) (P : xP), f a0 A P → ∀ (μ : xM) (L : xL) (st : List Value) (B : xH), I68 a0 A P μ L st B → k_X10_follow_68 P (xB (I82 a0 A P) μ) L st B)
    (v82 : ∀ (a0 : Nat) (A : xH) (P : xP), f a0 A P → ∀ (μ : xM) (L : xL) (st : List Value) (B : xH), I82 a0 A P μ L st B → k_X10_follow_82 P (xB (I68 a0 A P) μ) (xB (I82 a0 A P) μ) L st B) : xCon l yX10_follow cX10_follow 3 none 5 141 xN xN 0 xFT xFT (w_R f) := by
  refine xc_R (plainFor_of_name pn_RX10) (by decide +kernel) (fun p e s m args below meth c g a0 A P h X hr _ => ?_)
  obtain ⟨h68, h82⟩ := x_loop2 (p := p) (l := l) (e := e) (R := { frames := 5, cells := 0, slots := 0, locals := 141 }) (s := s) (m := m) (args := args) (below := below) (meth := meth) (c := c) (g := g) (nL := 3) (F := xFT) (n := xN) (cells := 0) (slots := 0) (Q := MQ below (xQc g xFT xN P) args s 0 0 (xFr g)) (I1 := I68 a0 A P) (I2 := I82 a0 A P) (pc1 := 68) (pc2 := 82) (fun μ i68 i82 => xAt_mono (t_X10_follow_68 (P := P) X hr i82) (v68 a0 A P h μ)) (fun μ i68 i82 => xAt_mono (t_X10_follow_82 (P := P) X hr i68 i82) (v82 a0 A P h μ))
  have h32 := x_loop1 (p := p) (l := l) (e := e) (R := { frames := 5, cells := 0, slots := 0, locals := 141 }) (s := s) (m := m) (args := args) (below := below) (meth := meth) (c := c) (g := g) (nL := 3) (F := xFT) (n := xN) (cells := 0) (slots := 0) (Q := MQ below (xQc g xFT xN P) args s 0 0 (xFr g)) (I := I32 a0 A P) (pc1 := 32) (fun μ i32 => xAt_mono (t_X10_follow_32 (P := P) X hr i32 h68) (v32 a0 A P h μ))
  exact ⟨_, v0 a0 A P h, t_X10_follow_0 X hr h32⟩
def cEn (n : Nat × Nat × Nat) : Nat := 6400 * n.1 + 80 * n.2.1 + n.2.2
theorem cDe_En {n : Nat × Nat × Nat} (h : isN n) : cDe (cEn n) = n := by
  obtain ⟨s, p, q⟩ := n
  obtain ⟨h1, h2, h3⟩ := h
  have h1 : s < 4 := h1
  have h2 : p < 80 := h2
  have h3 : q < 80 := h3
  unfold cDe cEn
  show ((6400 * s + 80 * p + q) / 6400, (6400 * s + 80 * p + q) / 80 % 80, (6400 * s + 80 * p + q) % 80) = (s, p, q)
  have e0 : (6400 * s + 80 * p + q) / 80 = 80 * s + p := by omega
  rw [show (6400 * s + 80 * p + q) / 6400 = s by omega, e0, show (80 * s + p) % 80 = p by omega, show (6400 * s + 80 * p + q) % 80 = q by omega]
theorem cEn_lt {n : Nat × Nat × Nat} (h : isN n) : cEn n < 25600 := by
  obtain ⟨h1, h2, h3⟩ := h
  unfold cEn
  omega
theorem cEn_De (m : Nat) : cEn (cDe m) = m := by
  unfold cEn cDe
  show 6400 * (m / 6400) + 80 * (m / 80 % 80) + m % 80 = m
  have e0 : m / 6400 = m / 80 / 80 := (Nat.div_div_eq_div_mul m 80 80).symm
  omega
def rchC (v : xV) (m : Nat) : Prop := ∃ d, rcT (stT v) d (cDe m)
/-- what the class found -/
def twDC (A : xH) (v : xV) : Prop := (∀ t j, t < 640 → j < 64 → (tl (xl A 53 t) j = true ↔ t % 2 * 64 + j < 80 ∧ rchC v (t / 2 * 80 + t % 2 * 64 + j))) ∧ xi A 52 2 = bI (bt (rchC v 6481)) ∧ (¬ rchC v 6481 → xi A 52 3 = -1) ∧ (rchC v 6481 → ∃ d, xi A 52 3 = nI d ∧ rcT (stT v) d (cDe 6481) ∧ ∀ d', d' < d → ¬ rcT (stT v) d' (cDe 6481))
def SFo (c k : Nat) : Prop := c = 53 ∨ c = 55 ∨ c = 56 ∨ (c = 52 ∧ k ≤ 9)
def foP (A : xH) (P : xP) (v : xV) : Prop := ∀ B, fr SFo A B → xi B 52 0 = 1 → xi B 52 1 = 0 → twDC B v → P none B
def f_X10_follow (q : Nat) (A : xH) (P : xP) : Prop := q = 52 ∧ ∃ v, ctS v A ∧ foP A P v
def foG (A B : xH) (P : xP) (v : xV) : Prop := foP A P v ∧ fr SFo A B ∧ ctS v B ∧ xi B 52 0 = 1 ∧ xi B 52 1 = 0
/-- the meeting, so far -/
def meS (v : xV) (M : Prop) (d : Nat) (B : xH) : Prop := xi B 52 2 = bI (bt M) ∧ (¬ M → xi B 52 3 = -1) ∧ (M → ∃ d', d' < d ∧ xi B 52 3 = nI d' ∧ rcT (stT v) d' (cDe 6481) ∧ ∀ d'', d'' < d' → ¬ rcT (stT v) d'' (cDe 6481))
def fo32 (A : xH) (P : xP) : xM → xK := fun μ L st B => ∃ (v : xV) (i : Nat) (o : Option Value), foG A B P v ∧ xi B 52 2 = 0 ∧ xi B 52 3 = -1 ∧ xi B 52 8 = 0 ∧ xi B 52 9 = 0 ∧ i ≤ 640 ∧ (∀ j, j < i → xl B 53 j = 0 ∧ xl B 55 j = 0) ∧ st = [] ∧ L = [some (.ref 52), some (.int (nI i)), o] ∧ μ = (640 - i, 0, 0)
def fs0 (v : xV) (R D : Nat → Prop) (n d : Nat) (B : xH) : Prop := csS 53 R n B ∧ byS D B ∧ xi B 52 8 = nI n ∧ d ≤ n ∧ (∀ x, x < 25600 → R x → (∀ b, e0T (stT v) (cDe x) b → R (cEn b)) ∧ ∀ b, e1T (stT v) (cDe x) b → R (cEn b) ∨ D (cEn b)) ∧ (∀ x, x < 25600 → R x → 0 < d ∧ rcT (stT v) (d - 1) (cDe x)) ∧ (∀ x, x < 25600 → D x → rcT (stT v) d (cDe x)) ∧ (R 0 ∨ D 0) ∧ (∀ d' b, d' < d → rcT (stT v) d' b → R (cEn b)) ∧ meS v (R 6481) d B
def fo68 (A : xH) (P : xP) : xM → xK := fun μ L st B => ∃ (v : xV) (R D : Nat → Prop) (n d : Nat) (o : Option Value), foG A B P v ∧ fs0 v R D n d B ∧ st = [] ∧ L = [some (.ref 52), some (.int (nI d)), o] ∧ μ = (30000 - d, 0, 0)
def fs1 (v : xV) (R0 R D : Nat → Prop) (n h d : Nat) (B : xH) : Prop := csS 53 R n B ∧ byS D B ∧ xi B 52 8 = nI h ∧ h ≤ n ∧ d < n ∧ (∀ d' b, d' < d → rcT (stT v) d' b → R0 (cEn b)) ∧ (∀ x, x < 25600 → R0 x → inA B 56 h x ∧ ∀ b, e1T (stT v) (cDe x) b → R (cEn b)) ∧ (∀ x, x < 25600 → inA B 56 h x → (∀ b, e0T (stT v) (cDe x) b → R (cEn b)) ∧ ∀ b, e1T (stT v) (cDe x) b → R (cEn b) ∨ D (cEn b)) ∧ (∀ x, x < 25600 → R x → rcT (stT v) d (cDe x)) ∧ (∀ x, x < 25600 → D x → rcT (stT v) (d + 1) (cDe x)) ∧ R 0 ∧ meS v (inA B 56 h 6481) (d + 1) B
def fo82 (A : xH) (P : xP) : xM → xK := fun μ L st B => ∃ (v : xV) (R0 R D : Nat → Prop) (n h d : Nat) (o : Option Value), foG A B P v ∧ fs1 v R0 R D n h d B ∧ st = [] ∧ L = [some (.ref 52), some (.int (nI d)), o] ∧ μ = (30000 - d - 1, 1, 30000 - h)
theorem foG_fr {A B C : xH} {P : xP} {v : xV} (h : foG A B P v) (hf : fr (fun c k => c = 53 ∨ c = 55 ∨ c = 56 ∨ (c = 52 ∧ 2 ≤ k ∧ k ≤ 9)) B C) : foG A C P v := by
  obtain ⟨h1, h2, h3, h4, h5⟩ := h
  exact ⟨h1, fr_tr h2 (fr_mono hf (by unfold SFo; omega)), ctS_fr h3 hf (by omega), (fr_i hf (by omega)).trans h4, (fr_i hf (by omega)).trans h5⟩
theorem cDe_0 : cDe 0 = (0, 0, 0) := rfl
theorem rc_cEn {v : xV} {d : Nat} {b : Nat × Nat × Nat} (h80 : (plL v).length ≤ 80) (h : rcT (stT v) d b) : isN b ∧ cEn b < 25600 ∧ cDe (cEn b) = b := by
  have i := isN_pl h80 (rc_pl h)
  exact ⟨i, cEn_lt i, cDe_En i⟩
set_option maxRecDepth 20000 in
theorem con_X10_follow (l : Launch) : xCon l yX10_follow cX10_follow 3 none 5 141 xN xN 0 xFT xFT (w_R f_X10_follow) := by
  refine m_X10_follow (I32 := fun q A P => fo32 A P) (I68 := fun q A P => fo68 A P) (I82 := fun q A P => fo82 A P) ?_ ?_ ?_ ?_
  · rintro q A P ⟨rfl, v, hC, hP⟩
    simp (disch := omega) only [k_X10_follow_0, k_X10_follow_32, k_X10_follow_68, k_X10_follow_82, k_X10_follow_142, k_X10_follow_165, k_X10_follow_171, w_R, w_RIII, x_aload, x_dup, x_iadd, x_icmp_ge, x_icmp_gt, x_icmp_ne, x_idiv, x_if_eq, x_iinc, x_iload, x_irem, x_istore, x_push, x_vret, y_alen, y_cv0, y_cv3, y_getF, y_getI, y_iald, y_last, y_putI, y_putZ, xFT, xbool0, xbool1, Nat.reduceAdd, Nat.zero_add, xgl_0, xgl_s, xgl_n, xst_0, xst_1n, xst_1i, xst_1r, xst_1l, xst_s, set_0, set_s, true_and, and_true, xres, xcat_nil, xcat_i, xcat_r, xcat_l, Nat.add_zero, xble0, xble1, xble2, xble3, xble4, xble5, xble6, xble7, xble8, pk_mul, nI_add, nI_1, nI_leI, nI_ltI, nI_eq, n_in, n_cl, z_eq, z_lt, z_le, z_gt, z_ge, z_qe, o_eq, o_lt, o_le, o_gt, o_ge, vp0, vp1, cl0, cl1, n_sub, n_sub1, n_pm1, n_a0, n_0a, ofn, lN0, Nat.reduceLT, Nat.reduceLeDiff, Nat.reduceMul, Nat.reduceSub, Nat.reduceEqDiff, ne_eq, true_implies, false_implies, not_true_eq_false, not_false_eq_true, and_self, and_true, true_and, and_false, false_and, implies_true, if_true, if_false, i00, i10, i01, i11, ob_0, ob_1, tn_2, ln_2, ob_3, tn_4, ln_4, ob_5, tn_6, ln_6, tn_7, ln_7, ob_8, tn_9, ln_9, tn_10, ln_10, tn_11, ln_11, tn_12, ln_12, tn_13, ln_13, tn_14, ln_14, tn_15, ln_15, tn_16, ln_16, tn_17, ln_17, ob_18, tn_19, ln_19, tn_20, ln_20, tn_21, ln_21, tn_22, ln_22, tn_23, ln_23, tn_24, ln_24, tn_25, ln_25, tn_26, ln_26, tn_27, ln_27, ob_28, tn_29, ln_29, tn_30, ln_30, ob_31, tn_32, ln_32, tn_33, ln_33, ob_34, ob_35, tn_36, ln_36, tn_37, ln_37, tn_38, ln_38, ob_39, tn_40, ln_40, tn_41, ln_41, tn_42, ln_42, tn_43, ln_43, tn_44, ln_44, tn_45, ln_45, tn_46, ln_46, tn_47, ln_47, tn_48, ln_48, tn_49, ln_49, tn_50, ln_50, tn_51, ln_51, ob_52, tn_53, ln_53, tn_54, ln_54, tn_55, ln_55, tn_56, ln_56, ob_57, tn_58, ln_58, tn_59, ln_59, tn_60, ln_60, tn_61, ln_61, tn_62, ln_62, tn_63, ln_63, tn_64, ln_64, tn_65, ln_65, ob_66, tn_67, ln_67, tn_68, ln_68, tn_69, ln_69, tn_70, ln_70, tn_71, ln_71, tn_72, ln_72, tn_73, ln_73, ob_74, tn_75, ln_75, tn_76, ln_76, tn_77, ln_77, tn_78, ln_78, tn_79, ln_79, tn_80, ln_80, tn_81, ln_81, tn_82, ln_82, tn_83, ln_83, ob_84, tn_85, ln_85, tn_86, ln_86, tn_87, ln_87, tn_88, ln_88, tn_89, ln_89, tn_90, ln_90, tn_91, ln_91, tn_92, ln_92, tn_93, ln_93, ob_94, tn_95, ln_95, tn_96, ln_96, tn_97, ln_97, tn_98, ln_98, tn_99, ln_99, tn_100, ln_100, tn_101, ln_101, tn_102, ln_102, tn_103, ln_103, ob_104, tn_105, ln_105, tn_106, ln_106, tn_107, ln_107, tn_108, ln_108, tn_109, ln_109, tn_110, ln_110, tn_111, ln_111, tn_112, ln_112, tn_113, ln_113, ob_114, tn_115, ln_115, tn_116, ln_116, tn_117, ln_117, tn_118, ln_118, tn_119, ln_119, tn_120, ln_120, tn_121, ln_121, tn_122, ln_122, tn_123, ln_123, ob_124, tn_125, ln_125, tn_126, ln_126, tn_127, ln_127, tn_128, ln_128, tn_129, ln_129, tn_130, ln_130, tn_131, ln_131, tn_132, ln_132, tn_133, ln_133, ob_134, tn_135, ln_135, tn_136, ln_136, tn_137, ln_137, tn_138, ln_138, tn_139, ln_139, tn_140, ln_140, tn_141, ln_141, tn_142, ln_142, tn_143, ln_143, ob_144, tn_145, ln_145, tn_146, ln_146, tn_147, ln_147, tn_148, ln_148, tn_149, ln_149, tn_150, ln_150, tn_151, ln_151, tn_152, ln_152, tn_153, ln_153, ob_154, tn_155, ln_155, tn_156, ln_156, tn_157, ln_157, tn_158, ln_158, tn_159, ln_159, tn_160, ln_160, tn_161, ln_161, tn_162, ln_162, tn_163, ln_163, ob_164, tn_165, ln_165, tn_166, ln_166, ob_167, tn_168, ln_168, tn_169, ln_169, tn_170, ln_170, tn_171, ln_171, tn_172, ln_172, tn_173, ln_173, tn_174, ln_174, tn_175, ln_175, tn_176, ln_176, ob_177, tn_178, ln_178, tn_179, ln_179, ob_180, tn_181, ln_181, tn_182, ln_182, tn_183, ln_183, tn_184, ln_184, tn_185, ln_185, tn_186, ln_186, tn_187, ln_187, tn_188, ln_188, tn_189, ln_189, tn_190, ln_190, tn_191, ln_191, tn_192, ln_192, tn_193, ln_193, tn_194, ln_194, tn_195, ln_195, tn_196, ln_196, tn_197, ln_197, tn_198, ln_198, tn_199, ln_199, tn_200, ln_200, tn_201, ln_201, tn_202, ln_202, tn_203, ln_203, tn_204, ln_204, tn_205, ln_205, tn_206, ln_206, tn_207, ln_207, tn_208, ln_208, tn_209, ln_209, tn_210, ln_210, tn_211, ln_211, tn_212, ln_212, tn_213, ln_213, tn_214, ln_214, tn_215, ln_215, tn_216, ln_216, tn_217, ln_217, tn_218, ln_218, tn_219, ln_219, tn_220, ln_220, tn_221, ln_221, tn_222, ln_222, tn_223, ln_223, tn_224, ln_224, tn_225, ln_225, tn_226, ln_226, tn_227, ln_227, tn_228, ln_228, tn_229, ln_229, tn_230, ln_230, lx2, lx3, lx4, lx5, lx6, lx7, lx8, lx9, lx10, lx14, lx15, lx16, lx18, lx20, lx24, lx25, lx27, lx32, lx36, lx40, lx41, lx42, lx43, lx45, lx48, lx52, lx54, lx56, lx57, lx58, lx60, lx61, lx62, lx63, lx64, lx66, lx69, lx73, lx80, lx81, lx84, lx85, lx87, lx94, lx96, lx97, lx120, lx128, lx135, lx160, lx162, lx163, lx165, lx200, lx232, lx242, lx243, lx255, lx256, lx320, lx325, lx400, lx405, lx464, lx512, lx600, lx640, lx752, lx900, lx940, lx1000, lx1024, lx1764, lx3360, lx3840, lx5000, lx6400, lx9050, lx9998, lx9999, lx10000, lx25600, lx76800, lx99999, si_ne, si_eq, sl_ne, sl_eq, xl_si, xi_sl, sA_ne, sA_eq, xl_sA]
    have hf : fr (fun c k => c = 52 ∧ k ≤ 9) A (xsi (xsi (xsi (xsi (xsi (xsi A 52 0 1) 52 1 0) 52 2 0) 52 3 (-1)) 52 8 0) 52 9 0) := by
      refine fr_si (fr_si (fr_si (fr_si (fr_si (fr_si fr_rf ?_) ?_) ?_) ?_) ?_) ?_ <;> omega
    exact xE0 (640 - 0, 0, 0) ⟨v, 0, none, ⟨hP, fr_mono hf (by unfold SFo; omega), ctS_fr hC hf (by omega), by simp (disch := omega) only [si_ne, si_eq, sl_ne, sl_eq, xl_si, xi_sl, sA_ne, sA_eq, xl_sA], by simp (disch := omega) only [si_ne, si_eq, sl_ne, sl_eq, xl_si, xi_sl, sA_ne, sA_eq, xl_sA]⟩, by simp (disch := omega) only [si_ne, si_eq, sl_ne, sl_eq, xl_si, xi_sl, sA_ne, sA_eq, xl_sA], by simp (disch := omega) only [si_ne, si_eq, sl_ne, sl_eq, xl_si, xi_sl, sA_ne, sA_eq, xl_sA], by simp (disch := omega) only [si_ne, si_eq, sl_ne, sl_eq, xl_si, xi_sl, sA_ne, sA_eq, xl_sA], by simp (disch := omega) only [si_ne, si_eq, sl_ne, sl_eq, xl_si, xi_sl, sA_ne, sA_eq, xl_sA], Nat.zero_le _, fun j hj => absurd hj (Nat.not_lt_zero j), rfl, rfl, rfl⟩
  · rintro q A P - μ L st B ⟨v, i, o, hG, h2, h3, h8, h9, hi, hz, rfl, rfl, rfl⟩
    simp (disch := omega) only [k_X10_follow_0, k_X10_follow_32, k_X10_follow_68, k_X10_follow_82, k_X10_follow_142, k_X10_follow_165, k_X10_follow_171, w_R, w_RIII, x_aload, x_dup, x_iadd, x_icmp_ge, x_icmp_gt, x_icmp_ne, x_idiv, x_if_eq, x_iinc, x_iload, x_irem, x_istore, x_push, x_vret, y_alen, y_cv0, y_cv3, y_getF, y_getI, y_iald, y_last, y_putI, y_putZ, xFT, xbool0, xbool1, Nat.reduceAdd, Nat.zero_add, xgl_0, xgl_s, xgl_n, xst_0, xst_1n, xst_1i, xst_1r, xst_1l, xst_s, set_0, set_s, true_and, and_true, xres, xcat_nil, xcat_i, xcat_r, xcat_l, Nat.add_zero, xble0, xble1, xble2, xble3, xble4, xble5, xble6, xble7, xble8, pk_mul, nI_add, nI_1, nI_leI, nI_ltI, nI_eq, n_in, n_cl, z_eq, z_lt, z_le, z_gt, z_ge, z_qe, o_eq, o_lt, o_le, o_gt, o_ge, vp0, vp1, cl0, cl1, n_sub, n_sub1, n_pm1, n_a0, n_0a, ofn, lN0, Nat.reduceLT, Nat.reduceLeDiff, Nat.reduceMul, Nat.reduceSub, Nat.reduceEqDiff, ne_eq, true_implies, false_implies, not_true_eq_false, not_false_eq_true, and_self, and_true, true_and, and_false, false_and, implies_true, if_true, if_false, i00, i10, i01, i11, ob_0, ob_1, tn_2, ln_2, ob_3, tn_4, ln_4, ob_5, tn_6, ln_6, tn_7, ln_7, ob_8, tn_9, ln_9, tn_10, ln_10, tn_11, ln_11, tn_12, ln_12, tn_13, ln_13, tn_14, ln_14, tn_15, ln_15, tn_16, ln_16, tn_17, ln_17, ob_18, tn_19, ln_19, tn_20, ln_20, tn_21, ln_21, tn_22, ln_22, tn_23, ln_23, tn_24, ln_24, tn_25, ln_25, tn_26, ln_26, tn_27, ln_27, ob_28, tn_29, ln_29, tn_30, ln_30, ob_31, tn_32, ln_32, tn_33, ln_33, ob_34, ob_35, tn_36, ln_36, tn_37, ln_37, tn_38, ln_38, ob_39, tn_40, ln_40, tn_41, ln_41, tn_42, ln_42, tn_43, ln_43, tn_44, ln_44, tn_45, ln_45, tn_46, ln_46, tn_47, ln_47, tn_48, ln_48, tn_49, ln_49, tn_50, ln_50, tn_51, ln_51, ob_52, tn_53, ln_53, tn_54, ln_54, tn_55, ln_55, tn_56, ln_56, ob_57, tn_58, ln_58, tn_59, ln_59, tn_60, ln_60, tn_61, ln_61, tn_62, ln_62, tn_63, ln_63, tn_64, ln_64, tn_65, ln_65, ob_66, tn_67, ln_67, tn_68, ln_68, tn_69, ln_69, tn_70, ln_70, tn_71, ln_71, tn_72, ln_72, tn_73, ln_73, ob_74, tn_75, ln_75, tn_76, ln_76, tn_77, ln_77, tn_78, ln_78, tn_79, ln_79, tn_80, ln_80, tn_81, ln_81, tn_82, ln_82, tn_83, ln_83, ob_84, tn_85, ln_85, tn_86, ln_86, tn_87, ln_87, tn_88, ln_88, tn_89, ln_89, tn_90, ln_90, tn_91, ln_91, tn_92, ln_92, tn_93, ln_93, ob_94, tn_95, ln_95, tn_96, ln_96, tn_97, ln_97, tn_98, ln_98, tn_99, ln_99, tn_100, ln_100, tn_101, ln_101, tn_102, ln_102, tn_103, ln_103, ob_104, tn_105, ln_105, tn_106, ln_106, tn_107, ln_107, tn_108, ln_108, tn_109, ln_109, tn_110, ln_110, tn_111, ln_111, tn_112, ln_112, tn_113, ln_113, ob_114, tn_115, ln_115, tn_116, ln_116, tn_117, ln_117, tn_118, ln_118, tn_119, ln_119, tn_120, ln_120, tn_121, ln_121, tn_122, ln_122, tn_123, ln_123, ob_124, tn_125, ln_125, tn_126, ln_126, tn_127, ln_127, tn_128, ln_128, tn_129, ln_129, tn_130, ln_130, tn_131, ln_131, tn_132, ln_132, tn_133, ln_133, ob_134, tn_135, ln_135, tn_136, ln_136, tn_137, ln_137, tn_138, ln_138, tn_139, ln_139, tn_140, ln_140, tn_141, ln_141, tn_142, ln_142, tn_143, ln_143, ob_144, tn_145, ln_145, tn_146, ln_146, tn_147, ln_147, tn_148, ln_148, tn_149, ln_149, tn_150, ln_150, tn_151, ln_151, tn_152, ln_152, tn_153, ln_153, ob_154, tn_155, ln_155, tn_156, ln_156, tn_157, ln_157, tn_158, ln_158, tn_159, ln_159, tn_160, ln_160, tn_161, ln_161, tn_162, ln_162, tn_163, ln_163, ob_164, tn_165, ln_165, tn_166, ln_166, ob_167, tn_168, ln_168, tn_169, ln_169, tn_170, ln_170, tn_171, ln_171, tn_172, ln_172, tn_173, ln_173, tn_174, ln_174, tn_175, ln_175, tn_176, ln_176, ob_177, tn_178, ln_178, tn_179, ln_179, ob_180, tn_181, ln_181, tn_182, ln_182, tn_183, ln_183, tn_184, ln_184, tn_185, ln_185, tn_186, ln_186, tn_187, ln_187, tn_188, ln_188, tn_189, ln_189, tn_190, ln_190, tn_191, ln_191, tn_192, ln_192, tn_193, ln_193, tn_194, ln_194, tn_195, ln_195, tn_196, ln_196, tn_197, ln_197, tn_198, ln_198, tn_199, ln_199, tn_200, ln_200, tn_201, ln_201, tn_202, ln_202, tn_203, ln_203, tn_204, ln_204, tn_205, ln_205, tn_206, ln_206, tn_207, ln_207, tn_208, ln_208, tn_209, ln_209, tn_210, ln_210, tn_211, ln_211, tn_212, ln_212, tn_213, ln_213, tn_214, ln_214, tn_215, ln_215, tn_216, ln_216, tn_217, ln_217, tn_218, ln_218, tn_219, ln_219, tn_220, ln_220, tn_221, ln_221, tn_222, ln_222, tn_223, ln_223, tn_224, ln_224, tn_225, ln_225, tn_226, ln_226, tn_227, ln_227, tn_228, ln_228, tn_229, ln_229, tn_230, ln_230, lx2, lx3, lx4, lx5, lx6, lx7, lx8, lx9, lx10, lx14, lx15, lx16, lx18, lx20, lx24, lx25, lx27, lx32, lx36, lx40, lx41, lx42, lx43, lx45, lx48, lx52, lx54, lx56, lx57, lx58, lx60, lx61, lx62, lx63, lx64, lx66, lx69, lx73, lx80, lx81, lx84, lx85, lx87, lx94, lx96, lx97, lx120, lx128, lx135, lx160, lx162, lx163, lx165, lx200, lx232, lx242, lx243, lx255, lx256, lx320, lx325, lx400, lx405, lx464, lx512, lx600, lx640, lx752, lx900, lx940, lx1000, lx1024, lx1764, lx3360, lx3840, lx5000, lx6400, lx9050, lx9998, lx9999, lx10000, lx25600, lx76800, lx99999, si_ne, si_eq, sl_ne, sl_eq, xl_si, xi_sl, sA_ne, sA_eq, xl_sA]
    refine ⟨fun z => ?_, fun z => ⟨by omega, by omega, ?_⟩⟩
    · have e640 : i = 640 := by omega
      subst e640
      have m0 : ∀ c x, ¬ inA (xsl B 55 0 1) c 0 x := fun c x ⟨k, hk, _⟩ => Nat.not_lt_zero k hk
      refine xE0 (30000 - 0, 0, 0) ⟨v, fun _ => False, fun m => m = 0, 0, 0, o, foG_fr hG (fr_sl fr_rf (by omega)), ⟨⟨okA_0 _ _, h9, fun x _ => ⟨fun w => m0 _ _ w, False.elim⟩, fun t j ht hj => ?_⟩, fun t j ht hj => ?_, h8, Nat.le_refl _, fun x _ w => w.elim, fun x _ w => w.elim, fun x _ w => ?_, Or.inr rfl, fun d' b w => absurd w (Nat.not_lt_zero _), ⟨by rw [bt_f id]; exact h2, fun _ => h3, False.elim⟩⟩, rfl, rfl, rfl⟩
      · rw [sl_ne (by omega), (hz t ht).1, tl_0]
        exact ⟨fun w => (by cases w), fun w => w.2.elim⟩
      · by_cases e : t = 0
        · subst e
          rw [sl_eq, tl_1, decide_eq_true_eq]
          omega
        · rw [sl_ne (by omega), (hz t ht).2, tl_0]
          exact ⟨fun w => (by cases w), fun w => by omega⟩
      · subst w; exact rc_start _
    · refine xB1 (b := 640 - (i + 1)) (by omega) ⟨v, i + 1, o, foG_fr hG (fr_sl (fr_sl fr_rf (by omega)) (by omega)), h2, h3, h8, h9, by omega, fun j hj => ?_, rfl, rfl, rfl⟩
      by_cases e : j = i
      · subst e; simp (disch := omega) only [si_ne, si_eq, sl_ne, sl_eq, xl_si, xi_sl, sA_ne, sA_eq, xl_sA]; exact ⟨rfl, rfl⟩
      · simp (disch := omega) only [si_ne, si_eq, sl_ne, sl_eq, xl_si, xi_sl, sA_ne, sA_eq, xl_sA]; exact hz j (by omega)
  · rintro q A P - μ L st B ⟨v, R, D, n, d, o, hG, hS, rfl, rfl, rfl⟩
    have hS0 := hS
    have h80 := hG.2.2.1.2
    obtain ⟨hR, hD, h8, hd, hcl, hso, hsD, hst, hco, hme⟩ := hS
    have hn := okA_le hR.1
    simp (disch := omega) only [k_X10_follow_0, k_X10_follow_32, k_X10_follow_68, k_X10_follow_82, k_X10_follow_142, k_X10_follow_165, k_X10_follow_171, w_R, w_RIII, x_aload, x_dup, x_iadd, x_icmp_ge, x_icmp_gt, x_icmp_ne, x_idiv, x_if_eq, x_iinc, x_iload, x_irem, x_istore, x_push, x_vret, y_alen, y_cv0, y_cv3, y_getF, y_getI, y_iald, y_last, y_putI, y_putZ, xFT, xbool0, xbool1, Nat.reduceAdd, Nat.zero_add, xgl_0, xgl_s, xgl_n, xst_0, xst_1n, xst_1i, xst_1r, xst_1l, xst_s, set_0, set_s, true_and, and_true, xres, xcat_nil, xcat_i, xcat_r, xcat_l, Nat.add_zero, xble0, xble1, xble2, xble3, xble4, xble5, xble6, xble7, xble8, pk_mul, nI_add, nI_1, nI_leI, nI_ltI, nI_eq, n_in, n_cl, z_eq, z_lt, z_le, z_gt, z_ge, z_qe, o_eq, o_lt, o_le, o_gt, o_ge, vp0, vp1, cl0, cl1, n_sub, n_sub1, n_pm1, n_a0, n_0a, ofn, lN0, Nat.reduceLT, Nat.reduceLeDiff, Nat.reduceMul, Nat.reduceSub, Nat.reduceEqDiff, ne_eq, true_implies, false_implies, not_true_eq_false, not_false_eq_true, and_self, and_true, true_and, and_false, false_and, implies_true, if_true, if_false, i00, i10, i01, i11, ob_0, ob_1, tn_2, ln_2, ob_3, tn_4, ln_4, ob_5, tn_6, ln_6, tn_7, ln_7, ob_8, tn_9, ln_9, tn_10, ln_10, tn_11, ln_11, tn_12, ln_12, tn_13, ln_13, tn_14, ln_14, tn_15, ln_15, tn_16, ln_16, tn_17, ln_17, ob_18, tn_19, ln_19, tn_20, ln_20, tn_21, ln_21, tn_22, ln_22, tn_23, ln_23, tn_24, ln_24, tn_25, ln_25, tn_26, ln_26, tn_27, ln_27, ob_28, tn_29, ln_29, tn_30, ln_30, ob_31, tn_32, ln_32, tn_33, ln_33, ob_34, ob_35, tn_36, ln_36, tn_37, ln_37, tn_38, ln_38, ob_39, tn_40, ln_40, tn_41, ln_41, tn_42, ln_42, tn_43, ln_43, tn_44, ln_44, tn_45, ln_45, tn_46, ln_46, tn_47, ln_47, tn_48, ln_48, tn_49, ln_49, tn_50, ln_50, tn_51, ln_51, ob_52, tn_53, ln_53, tn_54, ln_54, tn_55, ln_55, tn_56, ln_56, ob_57, tn_58, ln_58, tn_59, ln_59, tn_60, ln_60, tn_61, ln_61, tn_62, ln_62, tn_63, ln_63, tn_64, ln_64, tn_65, ln_65, ob_66, tn_67, ln_67, tn_68, ln_68, tn_69, ln_69, tn_70, ln_70, tn_71, ln_71, tn_72, ln_72, tn_73, ln_73, ob_74, tn_75, ln_75, tn_76, ln_76, tn_77, ln_77, tn_78, ln_78, tn_79, ln_79, tn_80, ln_80, tn_81, ln_81, tn_82, ln_82, tn_83, ln_83, ob_84, tn_85, ln_85, tn_86, ln_86, tn_87, ln_87, tn_88, ln_88, tn_89, ln_89, tn_90, ln_90, tn_91, ln_91, tn_92, ln_92, tn_93, ln_93, ob_94, tn_95, ln_95, tn_96, ln_96, tn_97, ln_97, tn_98, ln_98, tn_99, ln_99, tn_100, ln_100, tn_101, ln_101, tn_102, ln_102, tn_103, ln_103, ob_104, tn_105, ln_105, tn_106, ln_106, tn_107, ln_107, tn_108, ln_108, tn_109, ln_109, tn_110, ln_110, tn_111, ln_111, tn_112, ln_112, tn_113, ln_113, ob_114, tn_115, ln_115, tn_116, ln_116, tn_117, ln_117, tn_118, ln_118, tn_119, ln_119, tn_120, ln_120, tn_121, ln_121, tn_122, ln_122, tn_123, ln_123, ob_124, tn_125, ln_125, tn_126, ln_126, tn_127, ln_127, tn_128, ln_128, tn_129, ln_129, tn_130, ln_130, tn_131, ln_131, tn_132, ln_132, tn_133, ln_133, ob_134, tn_135, ln_135, tn_136, ln_136, tn_137, ln_137, tn_138, ln_138, tn_139, ln_139, tn_140, ln_140, tn_141, ln_141, tn_142, ln_142, tn_143, ln_143, ob_144, tn_145, ln_145, tn_146, ln_146, tn_147, ln_147, tn_148, ln_148, tn_149, ln_149, tn_150, ln_150, tn_151, ln_151, tn_152, ln_152, tn_153, ln_153, ob_154, tn_155, ln_155, tn_156, ln_156, tn_157, ln_157, tn_158, ln_158, tn_159, ln_159, tn_160, ln_160, tn_161, ln_161, tn_162, ln_162, tn_163, ln_163, ob_164, tn_165, ln_165, tn_166, ln_166, ob_167, tn_168, ln_168, tn_169, ln_169, tn_170, ln_170, tn_171, ln_171, tn_172, ln_172, tn_173, ln_173, tn_174, ln_174, tn_175, ln_175, tn_176, ln_176, ob_177, tn_178, ln_178, tn_179, ln_179, ob_180, tn_181, ln_181, tn_182, ln_182, tn_183, ln_183, tn_184, ln_184, tn_185, ln_185, tn_186, ln_186, tn_187, ln_187, tn_188, ln_188, tn_189, ln_189, tn_190, ln_190, tn_191, ln_191, tn_192, ln_192, tn_193, ln_193, tn_194, ln_194, tn_195, ln_195, tn_196, ln_196, tn_197, ln_197, tn_198, ln_198, tn_199, ln_199, tn_200, ln_200, tn_201, ln_201, tn_202, ln_202, tn_203, ln_203, tn_204, ln_204, tn_205, ln_205, tn_206, ln_206, tn_207, ln_207, tn_208, ln_208, tn_209, ln_209, tn_210, ln_210, tn_211, ln_211, tn_212, ln_212, tn_213, ln_213, tn_214, ln_214, tn_215, ln_215, tn_216, ln_216, tn_217, ln_217, tn_218, ln_218, tn_219, ln_219, tn_220, ln_220, tn_221, ln_221, tn_222, ln_222, tn_223, ln_223, tn_224, ln_224, tn_225, ln_225, tn_226, ln_226, tn_227, ln_227, tn_228, ln_228, tn_229, ln_229, tn_230, ln_230, lx2, lx3, lx4, lx5, lx6, lx7, lx8, lx9, lx10, lx14, lx15, lx16, lx18, lx20, lx24, lx25, lx27, lx32, lx36, lx40, lx41, lx42, lx43, lx45, lx48, lx52, lx54, lx56, lx57, lx58, lx60, lx61, lx62, lx63, lx64, lx66, lx69, lx73, lx80, lx81, lx84, lx85, lx87, lx94, lx96, lx97, lx120, lx128, lx135, lx160, lx162, lx163, lx165, lx200, lx232, lx242, lx243, lx255, lx256, lx320, lx325, lx400, lx405, lx464, lx512, lx600, lx640, lx752, lx900, lx940, lx1000, lx1024, lx1764, lx3360, lx3840, lx5000, lx6400, lx9050, lx9998, lx9999, lx10000, lx25600, lx76800, lx99999, si_ne, si_eq, sl_ne, sl_eq, xl_si, xi_sl, sA_ne, sA_eq, xl_sA]
    refine ⟨fun z => absurd z (by omega), fun _ => ⟨rfl, R, D, n, hR, hD, fun C n' hC h1 h2 h3 h4 => ?_⟩⟩
    have gC := foG_fr hG (fr_mono hC (by unfold SGo2; omega))
    have fC : ∀ k, k ≠ 9 → xi C 52 k = xi B 52 k := fun k hk => fr_i hC (by unfold SGo2; omega)
    have inC : ∀ x, x < 25600 → (inA C 56 n x ↔ R x) := fun x hx => by rw [inA_congr h2]; exact hR.2.2.1 x hx
    simp (disch := omega) only [k_X10_follow_0, k_X10_follow_32, k_X10_follow_68, k_X10_follow_82, k_X10_follow_142, k_X10_follow_165, k_X10_follow_171, w_R, w_RIII, x_aload, x_dup, x_iadd, x_icmp_ge, x_icmp_gt, x_icmp_ne, x_idiv, x_if_eq, x_iinc, x_iload, x_irem, x_istore, x_push, x_vret, y_alen, y_cv0, y_cv3, y_getF, y_getI, y_iald, y_last, y_putI, y_putZ, xFT, xbool0, xbool1, Nat.reduceAdd, Nat.zero_add, xgl_0, xgl_s, xgl_n, xst_0, xst_1n, xst_1i, xst_1r, xst_1l, xst_s, set_0, set_s, true_and, and_true, xres, xcat_nil, xcat_i, xcat_r, xcat_l, Nat.add_zero, xble0, xble1, xble2, xble3, xble4, xble5, xble6, xble7, xble8, pk_mul, nI_add, nI_1, nI_leI, nI_ltI, nI_eq, n_in, n_cl, z_eq, z_lt, z_le, z_gt, z_ge, z_qe, o_eq, o_lt, o_le, o_gt, o_ge, vp0, vp1, cl0, cl1, n_sub, n_sub1, n_pm1, n_a0, n_0a, ofn, lN0, Nat.reduceLT, Nat.reduceLeDiff, Nat.reduceMul, Nat.reduceSub, Nat.reduceEqDiff, ne_eq, true_implies, false_implies, not_true_eq_false, not_false_eq_true, and_self, and_true, true_and, and_false, false_and, implies_true, if_true, if_false, i00, i10, i01, i11, ob_0, ob_1, tn_2, ln_2, ob_3, tn_4, ln_4, ob_5, tn_6, ln_6, tn_7, ln_7, ob_8, tn_9, ln_9, tn_10, ln_10, tn_11, ln_11, tn_12, ln_12, tn_13, ln_13, tn_14, ln_14, tn_15, ln_15, tn_16, ln_16, tn_17, ln_17, ob_18, tn_19, ln_19, tn_20, ln_20, tn_21, ln_21, tn_22, ln_22, tn_23, ln_23, tn_24, ln_24, tn_25, ln_25, tn_26, ln_26, tn_27, ln_27, ob_28, tn_29, ln_29, tn_30, ln_30, ob_31, tn_32, ln_32, tn_33, ln_33, ob_34, ob_35, tn_36, ln_36, tn_37, ln_37, tn_38, ln_38, ob_39, tn_40, ln_40, tn_41, ln_41, tn_42, ln_42, tn_43, ln_43, tn_44, ln_44, tn_45, ln_45, tn_46, ln_46, tn_47, ln_47, tn_48, ln_48, tn_49, ln_49, tn_50, ln_50, tn_51, ln_51, ob_52, tn_53, ln_53, tn_54, ln_54, tn_55, ln_55, tn_56, ln_56, ob_57, tn_58, ln_58, tn_59, ln_59, tn_60, ln_60, tn_61, ln_61, tn_62, ln_62, tn_63, ln_63, tn_64, ln_64, tn_65, ln_65, ob_66, tn_67, ln_67, tn_68, ln_68, tn_69, ln_69, tn_70, ln_70, tn_71, ln_71, tn_72, ln_72, tn_73, ln_73, ob_74, tn_75, ln_75, tn_76, ln_76, tn_77, ln_77, tn_78, ln_78, tn_79, ln_79, tn_80, ln_80, tn_81, ln_81, tn_82, ln_82, tn_83, ln_83, ob_84, tn_85, ln_85, tn_86, ln_86, tn_87, ln_87, tn_88, ln_88, tn_89, ln_89, tn_90, ln_90, tn_91, ln_91, tn_92, ln_92, tn_93, ln_93, ob_94, tn_95, ln_95, tn_96, ln_96, tn_97, ln_97, tn_98, ln_98, tn_99, ln_99, tn_100, ln_100, tn_101, ln_101, tn_102, ln_102, tn_103, ln_103, ob_104, tn_105, ln_105, tn_106, ln_106, tn_107, ln_107, tn_108, ln_108, tn_109, ln_109, tn_110, ln_110, tn_111, ln_111, tn_112, ln_112, tn_113, ln_113, ob_114, tn_115, ln_115, tn_116, ln_116, tn_117, ln_117, tn_118, ln_118, tn_119, ln_119, tn_120, ln_120, tn_121, ln_121, tn_122, ln_122, tn_123, ln_123, ob_124, tn_125, ln_125, tn_126, ln_126, tn_127, ln_127, tn_128, ln_128, tn_129, ln_129, tn_130, ln_130, tn_131, ln_131, tn_132, ln_132, tn_133, ln_133, ob_134, tn_135, ln_135, tn_136, ln_136, tn_137, ln_137, tn_138, ln_138, tn_139, ln_139, tn_140, ln_140, tn_141, ln_141, tn_142, ln_142, tn_143, ln_143, ob_144, tn_145, ln_145, tn_146, ln_146, tn_147, ln_147, tn_148, ln_148, tn_149, ln_149, tn_150, ln_150, tn_151, ln_151, tn_152, ln_152, tn_153, ln_153, ob_154, tn_155, ln_155, tn_156, ln_156, tn_157, ln_157, tn_158, ln_158, tn_159, ln_159, tn_160, ln_160, tn_161, ln_161, tn_162, ln_162, tn_163, ln_163, ob_164, tn_165, ln_165, tn_166, ln_166, ob_167, tn_168, ln_168, tn_169, ln_169, tn_170, ln_170, tn_171, ln_171, tn_172, ln_172, tn_173, ln_173, tn_174, ln_174, tn_175, ln_175, tn_176, ln_176, ob_177, tn_178, ln_178, tn_179, ln_179, ob_180, tn_181, ln_181, tn_182, ln_182, tn_183, ln_183, tn_184, ln_184, tn_185, ln_185, tn_186, ln_186, tn_187, ln_187, tn_188, ln_188, tn_189, ln_189, tn_190, ln_190, tn_191, ln_191, tn_192, ln_192, tn_193, ln_193, tn_194, ln_194, tn_195, ln_195, tn_196, ln_196, tn_197, ln_197, tn_198, ln_198, tn_199, ln_199, tn_200, ln_200, tn_201, ln_201, tn_202, ln_202, tn_203, ln_203, tn_204, ln_204, tn_205, ln_205, tn_206, ln_206, tn_207, ln_207, tn_208, ln_208, tn_209, ln_209, tn_210, ln_210, tn_211, ln_211, tn_212, ln_212, tn_213, ln_213, tn_214, ln_214, tn_215, ln_215, tn_216, ln_216, tn_217, ln_217, tn_218, ln_218, tn_219, ln_219, tn_220, ln_220, tn_221, ln_221, tn_222, ln_222, tn_223, ln_223, tn_224, ln_224, tn_225, ln_225, tn_226, ln_226, tn_227, ln_227, tn_228, ln_228, tn_229, ln_229, tn_230, ln_230, lx2, lx3, lx4, lx5, lx6, lx7, lx8, lx9, lx10, lx14, lx15, lx16, lx18, lx20, lx24, lx25, lx27, lx32, lx36, lx40, lx41, lx42, lx43, lx45, lx48, lx52, lx54, lx56, lx57, lx58, lx60, lx61, lx62, lx63, lx64, lx66, lx69, lx73, lx80, lx81, lx84, lx85, lx87, lx94, lx96, lx97, lx120, lx128, lx135, lx160, lx162, lx163, lx165, lx200, lx232, lx242, lx243, lx255, lx256, lx320, lx325, lx400, lx405, lx464, lx512, lx600, lx640, lx752, lx900, lx940, lx1000, lx1024, lx1764, lx3360, lx3840, lx5000, lx6400, lx9050, lx9998, lx9999, lx10000, lx25600, lx76800, lx99999, si_ne, si_eq, sl_ne, sl_eq, xl_si, xi_sl, sA_ne, sA_eq, xl_sA, bI_t]
    refine ⟨fun w => ?_, fun w => ?_⟩
    · have e : n' = n := by
        simp only [decide_eq_false_iff_not] at w
        omega
      subst e
      have sub : ∀ x, x < 25600 → D x → R x := fun x hx w2 => (inC x hx).mp ((h3.2.2.1 x hx).mpr (Or.inr w2))
      have all : ∀ d b, rcT (stT v) d b → R (cEn b) := fun d' b hb => by
        refine (hb (fun d b => rcT (stT v) d b ∧ R (cEn b)) ⟨rc_start _, hst.elim id (sub 0 (by omega))⟩ ?_ ?_ ?_).2
        · rintro d a b ⟨x1, x2⟩ e
          obtain ⟨i1, i2, i3⟩ := rc_cEn h80 x1
          exact ⟨rc_same x1 e, (hcl _ i2 x2).1 b (by rw [i3]; exact e)⟩
        · rintro d a b ⟨x1, x2⟩ e
          obtain ⟨i1, i2, i3⟩ := rc_cEn h80 x1
          have x3 := rc_more x1 e
          exact ⟨x3, ((hcl _ i2 x2).2 b (by rw [i3]; exact e)).elim id (sub _ (rc_cEn h80 x3).2.1)⟩
        · rintro d a ⟨x1, x2⟩; exact ⟨rc_also x1, x2⟩
      have rR : ∀ x, x < 25600 → (R x ↔ rchC v x) := fun x hx => by
        constructor
        · intro w2; exact ⟨_, (hso x hx w2).2⟩
        · rintro ⟨d', w2⟩
          have := all _ _ w2
          rw [cEn_De] at this; exact this
      have r1 := rR 6481 (by omega)
      refine gC.1 C gC.2.1 gC.2.2.2.1 gC.2.2.2.2 ⟨fun t j ht hj => ?_, ?_, ?_, ?_⟩
      · rw [h3.2.2.2 t j ht hj]
        constructor
        · rintro ⟨a, w⟩
          exact ⟨a, (rR _ (by omega)).mp (w.elim id (sub _ (by omega)))⟩
        · rintro ⟨a, w⟩
          exact ⟨a, Or.inl ((rR _ (by omega)).mpr w)⟩
      · rw [fC 2 (by omega), hme.1, bt_congr r1]
      · intro w2; rw [fC 3 (by omega)]; exact hme.2.1 fun w3 => w2 (r1.mp w3)
      · intro w2
        obtain ⟨d', -, x1, x2, x3⟩ := hme.2.2 (r1.mpr w2)
        exact ⟨d', by rw [fC 3 (by omega)]; exact x1, x2, x3⟩
    · have hlt : n < n' := by simpa using w
      have eM := inC 6481 (by omega)
      refine xB1 (b := 30000 - d - 1) (by omega) ⟨v, R, fun m => R m ∨ D m, fun _ => False, n', n, d, o, gC, ⟨h3, h4, by rw [fC 8 (by omega)]; exact h8, h1, by omega, hco, fun x hx w2 => ⟨(inC x hx).mpr w2, fun b hb => (hcl x hx w2).2 b hb⟩, fun x hx w2 => ?_, fun x hx w2 => ?_, fun x hx w2 => w2.elim, hst, ⟨?_, ?_, ?_⟩⟩, rfl, rfl, rfl⟩
      · have w3 := (inC x hx).mp w2
        exact ⟨fun b hb => Or.inl ((hcl x hx w3).1 b hb), fun b hb => Or.inl ((hcl x hx w3).2 b hb)⟩
      · rcases w2 with w2 | w2
        · have := hso x hx w2
          exact rc_le this.2 (by omega)
        · exact hsD x hx w2
      · rw [fC 2 (by omega), hme.1, bt_congr eM]
      · intro w2; rw [fC 3 (by omega)]; exact hme.2.1 fun w3 => w2 (eM.mpr w3)
      · intro w2
        obtain ⟨d', x0, x1, x2, x3⟩ := hme.2.2 (eM.mp w2)
        exact ⟨d', by omega, by rw [fC 3 (by omega)]; exact x1, x2, x3⟩
  · rintro q A P - μ L st B ⟨v, R0, R, D, n, h, d, o, hG, hS, rfl, rfl, rfl⟩
    have hS0 := hS
    have h80 := hG.2.2.1.2
    obtain ⟨hR, hD, h8, hhn, hd, hco, hR0, hcl, hso, hsD, hst, hme⟩ := hS
    have hn := okA_le hR.1
    simp (disch := omega) only [k_X10_follow_0, k_X10_follow_32, k_X10_follow_68, k_X10_follow_82, k_X10_follow_165, k_X10_follow_171, w_R, w_RIII, x_aload, x_dup, x_iadd, x_icmp_ge, x_icmp_gt, x_icmp_ne, x_idiv, x_if_eq, x_iinc, x_iload, x_irem, x_istore, x_push, x_vret, y_alen, y_cv0, y_cv3, y_getF, y_getI, y_iald, y_last, y_putI, y_putZ, xFT, xbool0, xbool1, Nat.reduceAdd, Nat.zero_add, xgl_0, xgl_s, xgl_n, xst_0, xst_1n, xst_1i, xst_1r, xst_1l, xst_s, set_0, set_s, true_and, and_true, xres, xcat_nil, xcat_i, xcat_r, xcat_l, Nat.add_zero, xble0, xble1, xble2, xble3, xble4, xble5, xble6, xble7, xble8, pk_mul, nI_add, nI_1, nI_leI, nI_ltI, nI_eq, n_in, n_cl, z_eq, z_lt, z_le, z_gt, z_ge, z_qe, o_eq, o_lt, o_le, o_gt, o_ge, vp0, vp1, cl0, cl1, n_sub, n_sub1, n_pm1, n_a0, n_0a, ofn, lN0, Nat.reduceLT, Nat.reduceLeDiff, Nat.reduceMul, Nat.reduceSub, Nat.reduceEqDiff, ne_eq, true_implies, false_implies, not_true_eq_false, not_false_eq_true, and_self, and_true, true_and, and_false, false_and, implies_true, if_true, if_false, i00, i10, i01, i11, ob_0, ob_1, tn_2, ln_2, ob_3, tn_4, ln_4, ob_5, tn_6, ln_6, tn_7, ln_7, ob_8, tn_9, ln_9, tn_10, ln_10, tn_11, ln_11, tn_12, ln_12, tn_13, ln_13, tn_14, ln_14, tn_15, ln_15, tn_16, ln_16, tn_17, ln_17, ob_18, tn_19, ln_19, tn_20, ln_20, tn_21, ln_21, tn_22, ln_22, tn_23, ln_23, tn_24, ln_24, tn_25, ln_25, tn_26, ln_26, tn_27, ln_27, ob_28, tn_29, ln_29, tn_30, ln_30, ob_31, tn_32, ln_32, tn_33, ln_33, ob_34, ob_35, tn_36, ln_36, tn_37, ln_37, tn_38, ln_38, ob_39, tn_40, ln_40, tn_41, ln_41, tn_42, ln_42, tn_43, ln_43, tn_44, ln_44, tn_45, ln_45, tn_46, ln_46, tn_47, ln_47, tn_48, ln_48, tn_49, ln_49, tn_50, ln_50, tn_51, ln_51, ob_52, tn_53, ln_53, tn_54, ln_54, tn_55, ln_55, tn_56, ln_56, ob_57, tn_58, ln_58, tn_59, ln_59, tn_60, ln_60, tn_61, ln_61, tn_62, ln_62, tn_63, ln_63, tn_64, ln_64, tn_65, ln_65, ob_66, tn_67, ln_67, tn_68, ln_68, tn_69, ln_69, tn_70, ln_70, tn_71, ln_71, tn_72, ln_72, tn_73, ln_73, ob_74, tn_75, ln_75, tn_76, ln_76, tn_77, ln_77, tn_78, ln_78, tn_79, ln_79, tn_80, ln_80, tn_81, ln_81, tn_82, ln_82, tn_83, ln_83, ob_84, tn_85, ln_85, tn_86, ln_86, tn_87, ln_87, tn_88, ln_88, tn_89, ln_89, tn_90, ln_90, tn_91, ln_91, tn_92, ln_92, tn_93, ln_93, ob_94, tn_95, ln_95, tn_96, ln_96, tn_97, ln_97, tn_98, ln_98, tn_99, ln_99, tn_100, ln_100, tn_101, ln_101, tn_102, ln_102, tn_103, ln_103, ob_104, tn_105, ln_105, tn_106, ln_106, tn_107, ln_107, tn_108, ln_108, tn_109, ln_109, tn_110, ln_110, tn_111, ln_111, tn_112, ln_112, tn_113, ln_113, ob_114, tn_115, ln_115, tn_116, ln_116, tn_117, ln_117, tn_118, ln_118, tn_119, ln_119, tn_120, ln_120, tn_121, ln_121, tn_122, ln_122, tn_123, ln_123, ob_124, tn_125, ln_125, tn_126, ln_126, tn_127, ln_127, tn_128, ln_128, tn_129, ln_129, tn_130, ln_130, tn_131, ln_131, tn_132, ln_132, tn_133, ln_133, ob_134, tn_135, ln_135, tn_136, ln_136, tn_137, ln_137, tn_138, ln_138, tn_139, ln_139, tn_140, ln_140, tn_141, ln_141, tn_142, ln_142, tn_143, ln_143, ob_144, tn_145, ln_145, tn_146, ln_146, tn_147, ln_147, tn_148, ln_148, tn_149, ln_149, tn_150, ln_150, tn_151, ln_151, tn_152, ln_152, tn_153, ln_153, ob_154, tn_155, ln_155, tn_156, ln_156, tn_157, ln_157, tn_158, ln_158, tn_159, ln_159, tn_160, ln_160, tn_161, ln_161, tn_162, ln_162, tn_163, ln_163, ob_164, tn_165, ln_165, tn_166, ln_166, ob_167, tn_168, ln_168, tn_169, ln_169, tn_170, ln_170, tn_171, ln_171, tn_172, ln_172, tn_173, ln_173, tn_174, ln_174, tn_175, ln_175, tn_176, ln_176, ob_177, tn_178, ln_178, tn_179, ln_179, ob_180, tn_181, ln_181, tn_182, ln_182, tn_183, ln_183, tn_184, ln_184, tn_185, ln_185, tn_186, ln_186, tn_187, ln_187, tn_188, ln_188, tn_189, ln_189, tn_190, ln_190, tn_191, ln_191, tn_192, ln_192, tn_193, ln_193, tn_194, ln_194, tn_195, ln_195, tn_196, ln_196, tn_197, ln_197, tn_198, ln_198, tn_199, ln_199, tn_200, ln_200, tn_201, ln_201, tn_202, ln_202, tn_203, ln_203, tn_204, ln_204, tn_205, ln_205, tn_206, ln_206, tn_207, ln_207, tn_208, ln_208, tn_209, ln_209, tn_210, ln_210, tn_211, ln_211, tn_212, ln_212, tn_213, ln_213, tn_214, ln_214, tn_215, ln_215, tn_216, ln_216, tn_217, ln_217, tn_218, ln_218, tn_219, ln_219, tn_220, ln_220, tn_221, ln_221, tn_222, ln_222, tn_223, ln_223, tn_224, ln_224, tn_225, ln_225, tn_226, ln_226, tn_227, ln_227, tn_228, ln_228, tn_229, ln_229, tn_230, ln_230, lx2, lx3, lx4, lx5, lx6, lx7, lx8, lx9, lx10, lx14, lx15, lx16, lx18, lx20, lx24, lx25, lx27, lx32, lx36, lx40, lx41, lx42, lx43, lx45, lx48, lx52, lx54, lx56, lx57, lx58, lx60, lx61, lx62, lx63, lx64, lx66, lx69, lx73, lx80, lx81, lx84, lx85, lx87, lx94, lx96, lx97, lx120, lx128, lx135, lx160, lx162, lx163, lx165, lx200, lx232, lx242, lx243, lx255, lx256, lx320, lx325, lx400, lx405, lx464, lx512, lx600, lx640, lx752, lx900, lx940, lx1000, lx1024, lx1764, lx3360, lx3840, lx5000, lx6400, lx9050, lx9998, lx9999, lx10000, lx25600, lx76800, lx99999, si_ne, si_eq, sl_ne, sl_eq, xl_si, xi_sl, sA_ne, sA_eq, xl_sA, h8, hR.2.1]
    refine ⟨fun z => ?_, fun z => ⟨fun z2 => absurd z2 (by omega), fun _ => ?_⟩⟩
    · have e : h = n := by omega
      subst e
      have inR := hR.2.2.1
      have eM := inR 6481 (by omega)
      refine xB2 (c := 0) (by omega) ⟨v, R, D, h, d + 1, o, hG, ⟨hR, hD, h8, by omega, fun x hx w => hcl x hx ((inR x hx).mpr w), fun x hx w => ⟨by omega, hso x hx w⟩, hsD, Or.inl hst, fun d' b hd' hb => ?_, ⟨?_, ?_, ?_⟩⟩, rfl, rfl, by rw [Nat.sub_sub]⟩
      · refine (hb (fun d' b => rcT (stT v) d' b ∧ (d' ≤ d → R (cEn b))) ⟨rc_start _, fun _ => hst⟩ ?_ ?_ ?_).2 (by omega)
        · rintro d' a b ⟨x1, x2⟩ e
          obtain ⟨i1, i2, i3⟩ := rc_cEn h80 x1
          exact ⟨rc_same x1 e, fun q => (hcl _ i2 ((inR _ i2).mpr (x2 q))).1 b (by rw [i3]; exact e)⟩
        · rintro d' a b ⟨x1, x2⟩ e
          obtain ⟨i1, i2, i3⟩ := rc_cEn h80 x1
          exact ⟨rc_more x1 e, fun q => (hR0 _ i2 (hco d' a (by omega) x1)).2 b (by rw [i3]; exact e)⟩
        · rintro d' a ⟨x1, x2⟩; exact ⟨rc_also x1, fun q => x2 (by omega)⟩
      · rw [hme.1, bt_congr eM]
      · intro w2; exact hme.2.1 fun w3 => w2 (eM.mp w3)
      · intro w2; exact hme.2.2 (eM.mpr w2)
    · obtain ⟨t, ht, et⟩ := hR.1.1 h (by omega)
      have hin : inA B 56 n t := ⟨h, by omega, et⟩
      have rt := (hR.2.2.1 t ht).mp hin
      have rct := hso t ht rt
      have pt := rc_pl rct
      have p1 : t / 6400 < 4 := pt.1
      have p2 : t / 80 % 80 < (plL v).length := pt.2.1
      have p3 : t % 80 < (plL v).length := pt.2.2
      have key : ∀ C, fr (fun c k => c = 52 ∧ (k = 2 ∨ k = 3 ∨ k = 8)) B C → xi C 52 8 = nI (h + 1) → meS v (inA B 56 (h + 1) 6481) (d + 1) C → k_X10_follow_142 P (xB (fo82 A P) (30000 - d - 1, 1, 30000 - h)) [some (.ref 52), some (.int (nI d)), some (.int (nI t))] [] C := fun C hC c8 hm => by
        simp (disch := omega) only [k_X10_follow_0, k_X10_follow_32, k_X10_follow_68, k_X10_follow_82, k_X10_follow_142, k_X10_follow_165, k_X10_follow_171, w_R, w_RIII, x_aload, x_dup, x_iadd, x_icmp_ge, x_icmp_gt, x_icmp_ne, x_idiv, x_if_eq, x_iinc, x_iload, x_irem, x_istore, x_push, x_vret, y_alen, y_cv0, y_cv3, y_getF, y_getI, y_iald, y_last, y_putI, y_putZ, xFT, xbool0, xbool1, Nat.reduceAdd, Nat.zero_add, xgl_0, xgl_s, xgl_n, xst_0, xst_1n, xst_1i, xst_1r, xst_1l, xst_s, set_0, set_s, true_and, and_true, xres, xcat_nil, xcat_i, xcat_r, xcat_l, Nat.add_zero, xble0, xble1, xble2, xble3, xble4, xble5, xble6, xble7, xble8, pk_mul, nI_add, nI_1, nI_leI, nI_ltI, nI_eq, n_in, n_cl, z_eq, z_lt, z_le, z_gt, z_ge, z_qe, o_eq, o_lt, o_le, o_gt, o_ge, vp0, vp1, cl0, cl1, n_sub, n_sub1, n_pm1, n_a0, n_0a, ofn, lN0, Nat.reduceLT, Nat.reduceLeDiff, Nat.reduceMul, Nat.reduceSub, Nat.reduceEqDiff, ne_eq, true_implies, false_implies, not_true_eq_false, not_false_eq_true, and_self, and_true, true_and, and_false, false_and, implies_true, if_true, if_false, i00, i10, i01, i11, ob_0, ob_1, tn_2, ln_2, ob_3, tn_4, ln_4, ob_5, tn_6, ln_6, tn_7, ln_7, ob_8, tn_9, ln_9, tn_10, ln_10, tn_11, ln_11, tn_12, ln_12, tn_13, ln_13, tn_14, ln_14, tn_15, ln_15, tn_16, ln_16, tn_17, ln_17, ob_18, tn_19, ln_19, tn_20, ln_20, tn_21, ln_21, tn_22, ln_22, tn_23, ln_23, tn_24, ln_24, tn_25, ln_25, tn_26, ln_26, tn_27, ln_27, ob_28, tn_29, ln_29, tn_30, ln_30, ob_31, tn_32, ln_32, tn_33, ln_33, ob_34, ob_35, tn_36, ln_36, tn_37, ln_37, tn_38, ln_38, ob_39, tn_40, ln_40, tn_41, ln_41, tn_42, ln_42, tn_43, ln_43, tn_44, ln_44, tn_45, ln_45, tn_46, ln_46, tn_47, ln_47, tn_48, ln_48, tn_49, ln_49, tn_50, ln_50, tn_51, ln_51, ob_52, tn_53, ln_53, tn_54, ln_54, tn_55, ln_55, tn_56, ln_56, ob_57, tn_58, ln_58, tn_59, ln_59, tn_60, ln_60, tn_61, ln_61, tn_62, ln_62, tn_63, ln_63, tn_64, ln_64, tn_65, ln_65, ob_66, tn_67, ln_67, tn_68, ln_68, tn_69, ln_69, tn_70, ln_70, tn_71, ln_71, tn_72, ln_72, tn_73, ln_73, ob_74, tn_75, ln_75, tn_76, ln_76, tn_77, ln_77, tn_78, ln_78, tn_79, ln_79, tn_80, ln_80, tn_81, ln_81, tn_82, ln_82, tn_83, ln_83, ob_84, tn_85, ln_85, tn_86, ln_86, tn_87, ln_87, tn_88, ln_88, tn_89, ln_89, tn_90, ln_90, tn_91, ln_91, tn_92, ln_92, tn_93, ln_93, ob_94, tn_95, ln_95, tn_96, ln_96, tn_97, ln_97, tn_98, ln_98, tn_99, ln_99, tn_100, ln_100, tn_101, ln_101, tn_102, ln_102, tn_103, ln_103, ob_104, tn_105, ln_105, tn_106, ln_106, tn_107, ln_107, tn_108, ln_108, tn_109, ln_109, tn_110, ln_110, tn_111, ln_111, tn_112, ln_112, tn_113, ln_113, ob_114, tn_115, ln_115, tn_116, ln_116, tn_117, ln_117, tn_118, ln_118, tn_119, ln_119, tn_120, ln_120, tn_121, ln_121, tn_122, ln_122, tn_123, ln_123, ob_124, tn_125, ln_125, tn_126, ln_126, tn_127, ln_127, tn_128, ln_128, tn_129, ln_129, tn_130, ln_130, tn_131, ln_131, tn_132, ln_132, tn_133, ln_133, ob_134, tn_135, ln_135, tn_136, ln_136, tn_137, ln_137, tn_138, ln_138, tn_139, ln_139, tn_140, ln_140, tn_141, ln_141, tn_142, ln_142, tn_143, ln_143, ob_144, tn_145, ln_145, tn_146, ln_146, tn_147, ln_147, tn_148, ln_148, tn_149, ln_149, tn_150, ln_150, tn_151, ln_151, tn_152, ln_152, tn_153, ln_153, ob_154, tn_155, ln_155, tn_156, ln_156, tn_157, ln_157, tn_158, ln_158, tn_159, ln_159, tn_160, ln_160, tn_161, ln_161, tn_162, ln_162, tn_163, ln_163, ob_164, tn_165, ln_165, tn_166, ln_166, ob_167, tn_168, ln_168, tn_169, ln_169, tn_170, ln_170, tn_171, ln_171, tn_172, ln_172, tn_173, ln_173, tn_174, ln_174, tn_175, ln_175, tn_176, ln_176, ob_177, tn_178, ln_178, tn_179, ln_179, ob_180, tn_181, ln_181, tn_182, ln_182, tn_183, ln_183, tn_184, ln_184, tn_185, ln_185, tn_186, ln_186, tn_187, ln_187, tn_188, ln_188, tn_189, ln_189, tn_190, ln_190, tn_191, ln_191, tn_192, ln_192, tn_193, ln_193, tn_194, ln_194, tn_195, ln_195, tn_196, ln_196, tn_197, ln_197, tn_198, ln_198, tn_199, ln_199, tn_200, ln_200, tn_201, ln_201, tn_202, ln_202, tn_203, ln_203, tn_204, ln_204, tn_205, ln_205, tn_206, ln_206, tn_207, ln_207, tn_208, ln_208, tn_209, ln_209, tn_210, ln_210, tn_211, ln_211, tn_212, ln_212, tn_213, ln_213, tn_214, ln_214, tn_215, ln_215, tn_216, ln_216, tn_217, ln_217, tn_218, ln_218, tn_219, ln_219, tn_220, ln_220, tn_221, ln_221, tn_222, ln_222, tn_223, ln_223, tn_224, ln_224, tn_225, ln_225, tn_226, ln_226, tn_227, ln_227, tn_228, ln_228, tn_229, ln_229, tn_230, ln_230, lx2, lx3, lx4, lx5, lx6, lx7, lx8, lx9, lx10, lx14, lx15, lx16, lx18, lx20, lx24, lx25, lx27, lx32, lx36, lx40, lx41, lx42, lx43, lx45, lx48, lx52, lx54, lx56, lx57, lx58, lx60, lx61, lx62, lx63, lx64, lx66, lx69, lx73, lx80, lx81, lx84, lx85, lx87, lx94, lx96, lx97, lx120, lx128, lx135, lx160, lx162, lx163, lx165, lx200, lx232, lx242, lx243, lx255, lx256, lx320, lx325, lx400, lx405, lx464, lx512, lx600, lx640, lx752, lx900, lx940, lx1000, lx1024, lx1764, lx3360, lx3840, lx5000, lx6400, lx9050, lx9998, lx9999, lx10000, lx25600, lx76800, lx99999, si_ne, si_eq, sl_ne, sl_eq, xl_si, xi_sl, sA_ne, sA_eq, xl_sA, pk_div]
        rw [show t / 80 - t / 80 / 80 * 80 = t / 80 % 80 by omega, show t - t / 80 * 80 = t % 80 by omega]
        have gC := foG_fr hG (fr_mono hC (by omega))
        refine go_C p1 p2 p3 gC.2.2.1 (csS_fr hR hC (by omega)) (byS_fr hD hC (by omega)) fun E n2 hE e1 e2 e3 e4 => ?_
        simp (disch := omega) only [k_X10_follow_0, k_X10_follow_32, k_X10_follow_68, k_X10_follow_82, k_X10_follow_142, k_X10_follow_165, k_X10_follow_171, w_R, w_RIII, x_aload, x_dup, x_iadd, x_icmp_ge, x_icmp_gt, x_icmp_ne, x_idiv, x_if_eq, x_iinc, x_iload, x_irem, x_istore, x_push, x_vret, y_alen, y_cv0, y_cv3, y_getF, y_getI, y_iald, y_last, y_putI, y_putZ, xFT, xbool0, xbool1, Nat.reduceAdd, Nat.zero_add, xgl_0, xgl_s, xgl_n, xst_0, xst_1n, xst_1i, xst_1r, xst_1l, xst_s, set_0, set_s, true_and, and_true, xres, xcat_nil, xcat_i, xcat_r, xcat_l, Nat.add_zero, xble0, xble1, xble2, xble3, xble4, xble5, xble6, xble7, xble8, pk_mul, nI_add, nI_1, nI_leI, nI_ltI, nI_eq, n_in, n_cl, z_eq, z_lt, z_le, z_gt, z_ge, z_qe, o_eq, o_lt, o_le, o_gt, o_ge, vp0, vp1, cl0, cl1, n_sub, n_sub1, n_pm1, n_a0, n_0a, ofn, lN0, Nat.reduceLT, Nat.reduceLeDiff, Nat.reduceMul, Nat.reduceSub, Nat.reduceEqDiff, ne_eq, true_implies, false_implies, not_true_eq_false, not_false_eq_true, and_self, and_true, true_and, and_false, false_and, implies_true, if_true, if_false, i00, i10, i01, i11, ob_0, ob_1, tn_2, ln_2, ob_3, tn_4, ln_4, ob_5, tn_6, ln_6, tn_7, ln_7, ob_8, tn_9, ln_9, tn_10, ln_10, tn_11, ln_11, tn_12, ln_12, tn_13, ln_13, tn_14, ln_14, tn_15, ln_15, tn_16, ln_16, tn_17, ln_17, ob_18, tn_19, ln_19, tn_20, ln_20, tn_21, ln_21, tn_22, ln_22, tn_23, ln_23, tn_24, ln_24, tn_25, ln_25, tn_26, ln_26, tn_27, ln_27, ob_28, tn_29, ln_29, tn_30, ln_30, ob_31, tn_32, ln_32, tn_33, ln_33, ob_34, ob_35, tn_36, ln_36, tn_37, ln_37, tn_38, ln_38, ob_39, tn_40, ln_40, tn_41, ln_41, tn_42, ln_42, tn_43, ln_43, tn_44, ln_44, tn_45, ln_45, tn_46, ln_46, tn_47, ln_47, tn_48, ln_48, tn_49, ln_49, tn_50, ln_50, tn_51, ln_51, ob_52, tn_53, ln_53, tn_54, ln_54, tn_55, ln_55, tn_56, ln_56, ob_57, tn_58, ln_58, tn_59, ln_59, tn_60, ln_60, tn_61, ln_61, tn_62, ln_62, tn_63, ln_63, tn_64, ln_64, tn_65, ln_65, ob_66, tn_67, ln_67, tn_68, ln_68, tn_69, ln_69, tn_70, ln_70, tn_71, ln_71, tn_72, ln_72, tn_73, ln_73, ob_74, tn_75, ln_75, tn_76, ln_76, tn_77, ln_77, tn_78, ln_78, tn_79, ln_79, tn_80, ln_80, tn_81, ln_81, tn_82, ln_82, tn_83, ln_83, ob_84, tn_85, ln_85, tn_86, ln_86, tn_87, ln_87, tn_88, ln_88, tn_89, ln_89, tn_90, ln_90, tn_91, ln_91, tn_92, ln_92, tn_93, ln_93, ob_94, tn_95, ln_95, tn_96, ln_96, tn_97, ln_97, tn_98, ln_98, tn_99, ln_99, tn_100, ln_100, tn_101, ln_101, tn_102, ln_102, tn_103, ln_103, ob_104, tn_105, ln_105, tn_106, ln_106, tn_107, ln_107, tn_108, ln_108, tn_109, ln_109, tn_110, ln_110, tn_111, ln_111, tn_112, ln_112, tn_113, ln_113, ob_114, tn_115, ln_115, tn_116, ln_116, tn_117, ln_117, tn_118, ln_118, tn_119, ln_119, tn_120, ln_120, tn_121, ln_121, tn_122, ln_122, tn_123, ln_123, ob_124, tn_125, ln_125, tn_126, ln_126, tn_127, ln_127, tn_128, ln_128, tn_129, ln_129, tn_130, ln_130, tn_131, ln_131, tn_132, ln_132, tn_133, ln_133, ob_134, tn_135, ln_135, tn_136, ln_136, tn_137, ln_137, tn_138, ln_138, tn_139, ln_139, tn_140, ln_140, tn_141, ln_141, tn_142, ln_142, tn_143, ln_143, ob_144, tn_145, ln_145, tn_146, ln_146, tn_147, ln_147, tn_148, ln_148, tn_149, ln_149, tn_150, ln_150, tn_151, ln_151, tn_152, ln_152, tn_153, ln_153, ob_154, tn_155, ln_155, tn_156, ln_156, tn_157, ln_157, tn_158, ln_158, tn_159, ln_159, tn_160, ln_160, tn_161, ln_161, tn_162, ln_162, tn_163, ln_163, ob_164, tn_165, ln_165, tn_166, ln_166, ob_167, tn_168, ln_168, tn_169, ln_169, tn_170, ln_170, tn_171, ln_171, tn_172, ln_172, tn_173, ln_173, tn_174, ln_174, tn_175, ln_175, tn_176, ln_176, ob_177, tn_178, ln_178, tn_179, ln_179, ob_180, tn_181, ln_181, tn_182, ln_182, tn_183, ln_183, tn_184, ln_184, tn_185, ln_185, tn_186, ln_186, tn_187, ln_187, tn_188, ln_188, tn_189, ln_189, tn_190, ln_190, tn_191, ln_191, tn_192, ln_192, tn_193, ln_193, tn_194, ln_194, tn_195, ln_195, tn_196, ln_196, tn_197, ln_197, tn_198, ln_198, tn_199, ln_199, tn_200, ln_200, tn_201, ln_201, tn_202, ln_202, tn_203, ln_203, tn_204, ln_204, tn_205, ln_205, tn_206, ln_206, tn_207, ln_207, tn_208, ln_208, tn_209, ln_209, tn_210, ln_210, tn_211, ln_211, tn_212, ln_212, tn_213, ln_213, tn_214, ln_214, tn_215, ln_215, tn_216, ln_216, tn_217, ln_217, tn_218, ln_218, tn_219, ln_219, tn_220, ln_220, tn_221, ln_221, tn_222, ln_222, tn_223, ln_223, tn_224, ln_224, tn_225, ln_225, tn_226, ln_226, tn_227, ln_227, tn_228, ln_228, tn_229, ln_229, tn_230, ln_230, lx2, lx3, lx4, lx5, lx6, lx7, lx8, lx9, lx10, lx14, lx15, lx16, lx18, lx20, lx24, lx25, lx27, lx32, lx36, lx40, lx41, lx42, lx43, lx45, lx48, lx52, lx54, lx56, lx57, lx58, lx60, lx61, lx62, lx63, lx64, lx66, lx69, lx73, lx80, lx81, lx84, lx85, lx87, lx94, lx96, lx97, lx120, lx128, lx135, lx160, lx162, lx163, lx165, lx200, lx232, lx242, lx243, lx255, lx256, lx320, lx325, lx400, lx405, lx464, lx512, lx600, lx640, lx752, lx900, lx940, lx1000, lx1024, lx1764, lx3360, lx3840, lx5000, lx6400, lx9050, lx9998, lx9999, lx10000, lx25600, lx76800, lx99999, si_ne, si_eq, sl_ne, sl_eq, xl_si, xi_sl, sA_ne, sA_eq, xl_sA, pk_div]
        have gE := foG_fr gC (fr_mono hE (by unfold SGo2; omega))
        have e56 : ∀ k, k < n → xi E 56 k = xi B 56 k := fun k hk => (e2 k hk).trans (fr_i hC (by omega))
        have inE : ∀ x, x < 25600 → (inA E 56 (h + 1) x ↔ inA B 56 h x ∨ x = t) := fun x hx => inA_push ht hx (fun k hk => e56 k (by omega)) (by rw [e56 h (by omega)]; exact et)
        have inE2 : inA E 56 (h + 1) 6481 ↔ inA B 56 (h + 1) 6481 := inA_congr fun k hk => e56 k (by omega)
        refine xB3 (d := 30000 - (h + 1)) (by omega) ⟨v, R0, _, _, n2, h + 1, d, _, gE, ⟨e3, e4, by rw [fr_i hE (by unfold SGo2; omega)]; exact c8, by omega, by omega, hco, fun x hx w => ⟨(inE x hx).mpr (Or.inl (hR0 x hx w).1), fun b hb => Or.inl ((hR0 x hx w).2 b hb)⟩, fun x hx w => ?_, fun x hx w => ?_, fun x hx w => ?_, Or.inl hst, ⟨?_, ?_, ?_⟩⟩, rfl, rfl, rfl⟩
        · rcases (inE x hx).mp w with w | w
          · exact ⟨fun b hb => Or.inl ((hcl x hx w).1 b hb), fun b hb => ((hcl x hx w).2 b hb).elim (fun q => Or.inl (Or.inl q)) fun q => Or.inr (Or.inl q)⟩
          · subst w
            refine ⟨fun b hb => Or.inr ?_, fun b hb => Or.inr (Or.inr ?_)⟩
            · rw [(rc_cEn h80 (rc_same rct hb)).2.2]; exact hb
            · rw [(rc_cEn h80 (rc_more rct hb)).2.2]; exact hb
        · rcases w with w | w
          · exact hso x hx w
          · exact rc_same rct w
        · rcases w with w | w
          · exact hsD x hx w
          · exact rc_more rct w
        · rw [fr_i hE (by unfold SGo2; omega), hm.1, bt_congr inE2]
        · intro w2; rw [fr_i hE (by unfold SGo2; omega)]; exact hm.2.1 fun w3 => w2 (inE2.mpr w3)
        · intro w2
          obtain ⟨d', x0, x1, x2, x3⟩ := hm.2.2 (inE2.mp w2)
          exact ⟨d', x0, by rw [fr_i hE (by unfold SGo2; omega)]; exact x1, x2, x3⟩
      have inB : inA B 56 (h + 1) 6481 ↔ inA B 56 h 6481 ∨ 6481 = t := inA_push ht (by omega) (fun k hk => rfl) et
      rw [et]
      simp (disch := omega) only [show (6481 : Int32) = nI 6481 from rfl, nI_eq]
      refine ⟨by omega, fun ne => key _ (fr_si fr_rf (by omega)) si_eq ?_, fun e => key _ (fr_si (fr_si (fr_si fr_rf (by omega)) (by omega)) (by omega)) (by simp (disch := omega) only [si_ne, si_eq, sl_ne, sl_eq, xl_si, xi_sl, sA_ne, sA_eq, xl_sA]) ?_⟩
      · have eM : inA B 56 (h + 1) 6481 ↔ inA B 56 h 6481 := by
          rw [inB]
          exact ⟨fun w => w.elim id fun w => absurd w.symm ne, Or.inl⟩
        refine ⟨?_, ?_, ?_⟩
        · rw [si_ne (by omega), hme.1, bt_congr eM]
        · intro w2; rw [si_ne (by omega)]; exact hme.2.1 fun w3 => w2 (eM.mpr w3)
        · intro w2; rw [si_ne (by omega)]; exact hme.2.2 (eM.mp w2)
      · have hM : inA B 56 (h + 1) 6481 := inB.mpr (Or.inr e.symm)
        refine ⟨?_, fun w => absurd hM w, fun _ => ⟨d, by omega, by simp (disch := omega) only [si_ne, si_eq, sl_ne, sl_eq, xl_si, xi_sl, sA_ne, sA_eq, xl_sA], by rw [e] at rct; exact rct, fun d'' hd'' w => ?_⟩⟩
        · simp (disch := omega) only [si_ne, si_eq, sl_ne, sl_eq, xl_si, xi_sl, sA_ne, sA_eq, xl_sA]
          rw [bt_t hM]; rfl
        · have r0 := hco d'' _ hd'' w
          rw [cEn_De] at r0
          obtain ⟨k, hk, ek⟩ := (hR0 6481 (by omega) r0).1
          refine hR.1.2.2 k h hk (by omega) ?_
          rw [ek, et, e]

