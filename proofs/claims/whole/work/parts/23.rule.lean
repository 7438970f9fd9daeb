theorem d_X5_ruleLine_0 : decode cX5_ruleLine 0 = .ok (.aload_n 0, 1) := by decide +kernel
theorem d_X5_ruleLine_1 : decode cX5_ruleLine 1 = .ok (.getfield 22, 3) := by decide +kernel
theorem d_X5_ruleLine_4 : decode cX5_ruleLine 4 = .ok (.invokevirtual 88, 3) := by decide +kernel
theorem d_X5_ruleLine_7 : decode cX5_ruleLine 7 = .ok (.aload_n 0, 1) := by decide +kernel
theorem d_X5_ruleLine_8 : decode cX5_ruleLine 8 = .ok (.aload_n 1, 1) := by decide +kernel
theorem d_X5_ruleLine_9 : decode cX5_ruleLine 9 = .ok (.invokevirtual 116, 3) := by decide +kernel
theorem d_X5_ruleLine_12 : decode cX5_ruleLine 12 = .ok (.istore_n 2, 1) := by decide +kernel
theorem d_X5_ruleLine_13 : decode cX5_ruleLine 13 = .ok (.iload_n 2, 1) := by decide +kernel
theorem d_X5_ruleLine_14 : decode cX5_ruleLine 14 = .ok (.iconst (-1), 1) := by decide +kernel
theorem d_X5_ruleLine_15 : decode cX5_ruleLine 15 = .ok (.if_icmp .ne 5, 3) := by decide +kernel
theorem d_X5_ruleLine_18 : decode cX5_ruleLine 18 = .ok (.iconst 0, 1) := by decide +kernel
theorem d_X5_ruleLine_19 : decode cX5_ruleLine 19 = .ok (.ireturn, 1) := by decide +kernel
theorem d_X5_ruleLine_20 : decode cX5_ruleLine 20 = .ok (.iload_n 2, 1) := by decide +kernel
theorem d_X5_ruleLine_21 : decode cX5_ruleLine 21 = .ok (.bipush 8, 2) := by decide +kernel
theorem d_X5_ruleLine_23 : decode cX5_ruleLine 23 = .ok (.if_icmp .ge 9, 3) := by decide +kernel
theorem d_X5_ruleLine_26 : decode cX5_ruleLine 26 = .ok (.aload_n 0, 1) := by decide +kernel
theorem d_X5_ruleLine_27 : decode cX5_ruleLine 27 = .ok (.iconst 3, 1) := by decide +kernel
theorem d_X5_ruleLine_28 : decode cX5_ruleLine 28 = .ok (.invokevirtual 63, 3) := by decide +kernel
theorem d_X5_ruleLine_31 : decode cX5_ruleLine 31 = .ok (.ireturn, 1) := by decide +kernel
theorem d_X5_ruleLine_32 : decode cX5_ruleLine 32 = .ok (.aload_n 0, 1) := by decide +kernel
theorem d_X5_ruleLine_33 : decode cX5_ruleLine 33 = .ok (.getfield 9, 3) := by decide +kernel
theorem d_X5_ruleLine_36 : decode cX5_ruleLine 36 = .ok (.iconst 0, 1) := by decide +kernel
theorem d_X5_ruleLine_37 : decode cX5_ruleLine 37 = .ok (.iload_n 2, 1) := by decide +kernel
theorem d_X5_ruleLine_38 : decode cX5_ruleLine 38 = .ok (.bipush 8, 2) := by decide +kernel
theorem d_X5_ruleLine_40 : decode cX5_ruleLine 40 = .ok (.isub, 1) := by decide +kernel
theorem d_X5_ruleLine_41 : decode cX5_ruleLine 41 = .ok (.iastore, 1) := by decide +kernel
theorem d_X5_ruleLine_42 : decode cX5_ruleLine 42 = .ok (.aload_n 0, 1) := by decide +kernel
theorem d_X5_ruleLine_43 : decode cX5_ruleLine 43 = .ok (.getfield 9, 3) := by decide +kernel
theorem d_X5_ruleLine_46 : decode cX5_ruleLine 46 = .ok (.iconst 1, 1) := by decide +kernel
theorem d_X5_ruleLine_47 : decode cX5_ruleLine 47 = .ok (.iconst 0, 1) := by decide +kernel
theorem d_X5_ruleLine_48 : decode cX5_ruleLine 48 = .ok (.iastore, 1) := by decide +kernel
theorem d_X5_ruleLine_49 : decode cX5_ruleLine 49 = .ok (.iconst 0, 1) := by decide +kernel
theorem d_X5_ruleLine_50 : decode cX5_ruleLine 50 = .ok (.istore_n 3, 1) := by decide +kernel
theorem d_X5_ruleLine_51 : decode cX5_ruleLine 51 = .ok (.iload_n 3, 1) := by decide +kernel
theorem d_X5_ruleLine_52 : decode cX5_ruleLine 52 = .ok (.iconst 3, 1) := by decide +kernel
theorem d_X5_ruleLine_53 : decode cX5_ruleLine 53 = .ok (.if_icmp .ge 18, 3) := by decide +kernel
theorem d_X5_ruleLine_56 : decode cX5_ruleLine 56 = .ok (.aload_n 0, 1) := by decide +kernel
theorem d_X5_ruleLine_57 : decode cX5_ruleLine 57 = .ok (.getfield 9, 3) := by decide +kernel
theorem d_X5_ruleLine_60 : decode cX5_ruleLine 60 = .ok (.iconst 2, 1) := by decide +kernel
theorem d_X5_ruleLine_61 : decode cX5_ruleLine 61 = .ok (.iload_n 3, 1) := by decide +kernel
theorem d_X5_ruleLine_62 : decode cX5_ruleLine 62 = .ok (.iadd, 1) := by decide +kernel
theorem d_X5_ruleLine_63 : decode cX5_ruleLine 63 = .ok (.iconst (-1), 1) := by decide +kernel
theorem d_X5_ruleLine_64 : decode cX5_ruleLine 64 = .ok (.iastore, 1) := by decide +kernel
theorem d_X5_ruleLine_65 : decode cX5_ruleLine 65 = .ok (.iinc 3 1, 3) := by decide +kernel
theorem d_X5_ruleLine_68 : decode cX5_ruleLine 68 = .ok (.goto (-17), 3) := by decide +kernel
theorem d_X5_ruleLine_71 : decode cX5_ruleLine 71 = .ok (.aload_n 0, 1) := by decide +kernel
theorem d_X5_ruleLine_72 : decode cX5_ruleLine 72 = .ok (.getfield 22, 3) := by decide +kernel
theorem d_X5_ruleLine_75 : decode cX5_ruleLine 75 = .ok (.invokevirtual 88, 3) := by decide +kernel
theorem d_X5_ruleLine_78 : decode cX5_ruleLine 78 = .ok (.iconst 0, 1) := by decide +kernel
theorem d_X5_ruleLine_79 : decode cX5_ruleLine 79 = .ok (.istore_n 3, 1) := by decide +kernel
theorem d_X5_ruleLine_80 : decode cX5_ruleLine 80 = .ok (.iload_n 3, 1) := by decide +kernel
theorem d_X5_ruleLine_81 : decode cX5_ruleLine 81 = .ok (.iconst 3, 1) := by decide +kernel
theorem d_X5_ruleLine_82 : decode cX5_ruleLine 82 = .ok (.if_icmp .gt 74, 3) := by decide +kernel
theorem d_X5_ruleLine_85 : decode cX5_ruleLine 85 = .ok (.aload_n 0, 1) := by decide +kernel
theorem d_X5_ruleLine_86 : decode cX5_ruleLine 86 = .ok (.getfield 22, 3) := by decide +kernel
theorem d_X5_ruleLine_89 : decode cX5_ruleLine 89 = .ok (.bipush 59, 2) := by decide +kernel
theorem d_X5_ruleLine_91 : decode cX5_ruleLine 91 = .ok (.invokevirtual 113, 3) := by decide +kernel
theorem d_X5_ruleLine_94 : decode cX5_ruleLine 94 = .ok (.ifCond .ne 62, 3) := by decide +kernel
theorem d_X5_ruleLine_97 : decode cX5_ruleLine 97 = .ok (.aload_n 0, 1) := by decide +kernel
theorem d_X5_ruleLine_98 : decode cX5_ruleLine 98 = .ok (.aload_n 1, 1) := by decide +kernel
theorem d_X5_ruleLine_99 : decode cX5_ruleLine 99 = .ok (.invokevirtual 116, 3) := by decide +kernel
theorem d_X5_ruleLine_102 : decode cX5_ruleLine 102 = .ok (.istore 4, 2) := by decide +kernel
theorem d_X5_ruleLine_104 : decode cX5_ruleLine 104 = .ok (.iload 4, 2) := by decide +kernel
theorem d_X5_ruleLine_106 : decode cX5_ruleLine 106 = .ok (.iconst (-1), 1) := by decide +kernel
theorem d_X5_ruleLine_107 : decode cX5_ruleLine 107 = .ok (.if_icmp .ne 5, 3) := by decide +kernel
theorem d_X5_ruleLine_110 : decode cX5_ruleLine 110 = .ok (.iconst 0, 1) := by decide +kernel
theorem d_X5_ruleLine_111 : decode cX5_ruleLine 111 = .ok (.ireturn, 1) := by decide +kernel
theorem d_X5_ruleLine_112 : decode cX5_ruleLine 112 = .ok (.iload_n 3, 1) := by decide +kernel
theorem d_X5_ruleLine_113 : decode cX5_ruleLine 113 = .ok (.iconst 3, 1) := by decide +kernel
theorem d_X5_ruleLine_114 : decode cX5_ruleLine 114 = .ok (.if_icmp .lt 9, 3) := by decide +kernel
theorem d_X5_ruleLine_117 : decode cX5_ruleLine 117 = .ok (.aload_n 0, 1) := by decide +kernel
theorem d_X5_ruleLine_118 : decode cX5_ruleLine 118 = .ok (.iconst 4, 1) := by decide +kernel
theorem d_X5_ruleLine_119 : decode cX5_ruleLine 119 = .ok (.invokevirtual 63, 3) := by decide +kernel
theorem d_X5_ruleLine_122 : decode cX5_ruleLine 122 = .ok (.ireturn, 1) := by decide +kernel
theorem d_X5_ruleLine_123 : decode cX5_ruleLine 123 = .ok (.aload_n 0, 1) := by decide +kernel
theorem d_X5_ruleLine_124 : decode cX5_ruleLine 124 = .ok (.getfield 9, 3) := by decide +kernel
theorem d_X5_ruleLine_127 : decode cX5_ruleLine 127 = .ok (.iconst 2, 1) := by decide +kernel
theorem d_X5_ruleLine_128 : decode cX5_ruleLine 128 = .ok (.iload_n 3, 1) := by decide +kernel
theorem d_X5_ruleLine_129 : decode cX5_ruleLine 129 = .ok (.iadd, 1) := by decide +kernel
theorem d_X5_ruleLine_130 : decode cX5_ruleLine 130 = .ok (.iload 4, 2) := by decide +kernel
theorem d_X5_ruleLine_132 : decode cX5_ruleLine 132 = .ok (.iastore, 1) := by decide +kernel
theorem d_X5_ruleLine_133 : decode cX5_ruleLine 133 = .ok (.aload_n 0, 1) := by decide +kernel
theorem d_X5_ruleLine_134 : decode cX5_ruleLine 134 = .ok (.getfield 9, 3) := by decide +kernel
theorem d_X5_ruleLine_137 : decode cX5_ruleLine 137 = .ok (.iconst 1, 1) := by decide +kernel
theorem d_X5_ruleLine_138 : decode cX5_ruleLine 138 = .ok (.dup2, 1) := by decide +kernel
theorem d_X5_ruleLine_139 : decode cX5_ruleLine 139 = .ok (.iaload, 1) := by decide +kernel
theorem d_X5_ruleLine_140 : decode cX5_ruleLine 140 = .ok (.iconst 1, 1) := by decide +kernel
theorem d_X5_ruleLine_141 : decode cX5_ruleLine 141 = .ok (.iadd, 1) := by decide +kernel
theorem d_X5_ruleLine_142 : decode cX5_ruleLine 142 = .ok (.iastore, 1) := by decide +kernel
theorem d_X5_ruleLine_143 : decode cX5_ruleLine 143 = .ok (.aload_n 0, 1) := by decide +kernel
theorem d_X5_ruleLine_144 : decode cX5_ruleLine 144 = .ok (.getfield 22, 3) := by decide +kernel
theorem d_X5_ruleLine_147 : decode cX5_ruleLine 147 = .ok (.invokevirtual 88, 3) := by decide +kernel
theorem d_X5_ruleLine_150 : decode cX5_ruleLine 150 = .ok (.iinc 3 1, 3) := by decide +kernel
theorem d_X5_ruleLine_153 : decode cX5_ruleLine 153 = .ok (.goto (-73), 3) := by decide +kernel
theorem d_X5_ruleLine_156 : decode cX5_ruleLine 156 = .ok (.aload_n 0, 1) := by decide +kernel
theorem d_X5_ruleLine_157 : decode cX5_ruleLine 157 = .ok (.invokevirtual 103, 3) := by decide +kernel
theorem d_X5_ruleLine_160 : decode cX5_ruleLine 160 = .ok (.ireturn, 1) := by decide +kernel
def k_X5_ruleLine_0 (P : xP) (C51 : xK) : xK := x_aload 0 (y_getF 3 1 (y_cv0 1 (w_R f_X9_advance) (x_aload 0 (x_aload 1 (y_cv1 3 (w_RR f_X5_knownName) (x_istore 2 (x_iload 2 (x_push (.int (-1)) (x_icmp_ne (x_iload 2 (x_push (.int 8) (x_icmp_ge (x_aload 0 (y_getF 3 4 (x_push (.int 0) (x_iload 2 (x_push (.int 8) (x_isub (y_iast 4 5 (x_aload 0 (y_getF 3 4 (x_push (.int 1) (x_push (.int 0) (y_iast 4 5 (x_push (.int 0) (x_istore 3 (C51))))))))))))))) (x_aload 0 (x_push (.int 3) (y_cv1 3 (w_RI f_X5_fail) (x_zret P))))))) (x_push (.int 0) (x_zret P)))))))))))
set_option maxRecDepth 20000 in
theorem t_X5_ruleLine_0 {p : Program} {l : Launch} {e : Env} {s : State} {m : MethodId} {args : Array Value} {below : List Frame} {meth : Method} {c : Code} {g : xG} (X : xX p s m args c meth cX5_ruleLine RX5 5 g) (hr : meth.sig.returnType = (some .boolean)) {P : xP} {C51 : xK} (h51 : xAt p l e { frames := 3, cells := 0, slots := 0, locals := 69 } s m args below meth c g 5 xFT xN 0 0 (MQ below (xQc g xFT xN P) args s 0 0 (xFr g)) C51 51) : xAt p l e { frames := 3, cells := 0, slots := 0, locals := 69 } s m args below meth c g 5 xFT xN 0 0 (MQ below (xQc g xFT xN P) args s 0 0 (xFr g)) (k_X5_ruleLine_0 P C51) 0 := by
  unfold k_X5_ruleLine_0
  refine r_aload_n (pc := 0) X d_X5_ruleLine_0 fn0 ?_
  refine s_getF (pc := 1) (ci := 5) (k := 0) X xok5 (by decide +kernel) ob_3 trivial ly_3_0 (by decide +kernel) fl_RX5_22 d_X5_ruleLine_1 ?_
  refine s_cv0 (pc := 4) (ci := 9) X xok9 (by decide +kernel) ob_1 rfl (con_X9_advance l) mf_X9_advance ml_RX5_88 (by decide +kernel) (by decide +kernel) d_X5_ruleLine_4 ?_
  refine r_aload_n (pc := 7) X d_X5_ruleLine_7 fn0 ?_
  refine r_aload_n (pc := 8) X d_X5_ruleLine_8 fn1 ?_
  refine s_cv1 (pc := 9) (ci := 5) X xok5 (by decide +kernel) ob_3 rfl (con_X5_knownName l) mf_X5_knownName ml_RX5_116 (by decide +kernel) (by decide +kernel) d_X5_ruleLine_9 ?_
  refine r_istore_n (pc := 12) X d_X5_ruleLine_12 fn2 (by decide +kernel) ?_
  refine r_iload_n (pc := 13) X d_X5_ruleLine_13 fn2 ?_
  refine r_iconst (pc := 14) X d_X5_ruleLine_14 (by decide +kernel) ?_
  refine r_icmp_ne (pc := 15) (tgt := 20) X d_X5_ruleLine_15 (by decide +kernel) ?_ ?_
  · refine r_iload_n (pc := 20) X d_X5_ruleLine_20 fn2 ?_
    refine r_bipush (pc := 21) X d_X5_ruleLine_21 (by decide +kernel) ?_
    refine r_icmp_ge (pc := 23) (tgt := 32) X d_X5_ruleLine_23 (by decide +kernel) ?_ ?_
    · refine r_aload_n (pc := 32) X d_X5_ruleLine_32 fn0 ?_
      refine s_getF (pc := 33) (ci := 5) (k := 1) X xok5 (by decide +kernel) ob_3 trivial ly_3_1 (by decide +kernel) fl_RX5_9 d_X5_ruleLine_33 ?_
      refine r_iconst (pc := 36) X d_X5_ruleLine_36 (by decide +kernel) ?_
      refine r_iload_n (pc := 37) X d_X5_ruleLine_37 fn2 ?_
      refine r_bipush (pc := 38) X d_X5_ruleLine_38 (by decide +kernel) ?_
      refine r_isub (pc := 40) X d_X5_ruleLine_40 ?_
      refine s_iast (pc := 41) X tn_4 ln_4 d_X5_ruleLine_41 ?_
      refine r_aload_n (pc := 42) X d_X5_ruleLine_42 fn0 ?_
      refine s_getF (pc := 43) (ci := 5) (k := 1) X xok5 (by decide +kernel) ob_3 trivial ly_3_1 (by decide +kernel) fl_RX5_9 d_X5_ruleLine_43 ?_
      refine r_iconst (pc := 46) X d_X5_ruleLine_46 (by decide +kernel) ?_
      refine r_iconst (pc := 47) X d_X5_ruleLine_47 (by decide +kernel) ?_
      refine s_iast (pc := 48) X tn_4 ln_4 d_X5_ruleLine_48 ?_
      refine r_iconst (pc := 49) X d_X5_ruleLine_49 (by decide +kernel) ?_
      refine r_istore_n (pc := 50) X d_X5_ruleLine_50 fn3 (by decide +kernel) ?_
      exact h51
    · refine r_aload_n (pc := 26) X d_X5_ruleLine_26 fn0 ?_
      refine r_iconst (pc := 27) X d_X5_ruleLine_27 (by decide +kernel) ?_
      refine s_cv1 (pc := 28) (ci := 5) X xok5 (by decide +kernel) ob_3 rfl (con_X5_fail l) mf_X5_fail ml_RX5_63 (by decide +kernel) (by decide +kernel) d_X5_ruleLine_28 ?_
      exact r_zret (pc := 31) X hr d_X5_ruleLine_31
  · refine r_iconst (pc := 18) X d_X5_ruleLine_18 (by decide +kernel) ?_
    exact r_zret (pc := 19) X hr d_X5_ruleLine_19
def k_X5_ruleLine_51 (P : xP) (C51 : xK) (C80 : xK) : xK := x_iload 3 (x_push (.int 3) (x_icmp_ge (x_aload 0 (y_getF 3 1 (y_cv0 1 (w_R f_X9_advance) (x_push (.int 0) (x_istore 3 (C80)))))) (x_aload 0 (y_getF 3 4 (x_push (.int 2) (x_iload 3 (x_iadd (x_push (.int (-1)) (y_iast 4 5 (x_iinc 3 1 (C51)))))))))))
set_option maxRecDepth 20000 in
theorem t_X5_ruleLine_51 {p : Program} {l : Launch} {e : Env} {s : State} {m : MethodId} {args : Array Value} {below : List Frame} {meth : Method} {c : Code} {g : xG} (X : xX p s m args c meth cX5_ruleLine RX5 5 g) (hr : meth.sig.returnType = (some .boolean)) {P : xP} {C51 : xK} {C80 : xK} (h51 : xAt p l e { frames := 3, cells := 0, slots := 0, locals := 69 } s m args below meth c g 5 xFT xN 0 0 (MQ below (xQc g xFT xN P) args s 0 0 (xFr g)) C51 51) (h80 : xAt p l e { frames := 3, cells := 0, slots := 0, locals := 69 } s m args below meth c g 5 xFT xN 0 0 (MQ below (xQc g xFT xN P) args s 0 0 (xFr g)) C80 80) : xAt p l e { frames := 3, cells := 0, slots := 0, locals := 69 } s m args below meth c g 5 xFT xN 0 0 (MQ below (xQc g xFT xN P) args s 0 0 (xFr g)) (k_X5_ruleLine_51 P C51 C80) 51 := by
  unfold k_X5_ruleLine_51
  refine r_iload_n (pc := 51) X d_X5_ruleLine_51 fn3 ?_
  refine r_iconst (pc := 52) X d_X5_ruleLine_52 (by decide +kernel) ?_
  refine r_icmp_ge (pc := 53) (tgt := 71) X d_X5_ruleLine_53 (by decide +kernel) ?_ ?_
  · refine r_aload_n (pc := 71) X d_X5_ruleLine_71 fn0 ?_
    refine s_getF (pc := 72) (ci := 5) (k := 0) X xok5 (by decide +kernel) ob_3 trivial ly_3_0 (by decide +kernel) fl_RX5_22 d_X5_ruleLine_72 ?_
    refine s_cv0 (pc := 75) (ci := 9) X xok9 (by decide +kernel) ob_1 rfl (con_X9_advance l) mf_X9_advance ml_RX5_88 (by decide +kernel) (by decide +kernel) d_X5_ruleLine_75 ?_
    refine r_iconst (pc := 78) X d_X5_ruleLine_78 (by decide +kernel) ?_
    refine r_istore_n (pc := 79) X d_X5_ruleLine_79 fn3 (by decide +kernel) ?_
    exact h80
  · refine r_aload_n (pc := 56) X d_X5_ruleLine_56 fn0 ?_
    refine s_getF (pc := 57) (ci := 5) (k := 1) X xok5 (by decide +kernel) ob_3 trivial ly_3_1 (by decide +kernel) fl_RX5_9 d_X5_ruleLine_57 ?_
    refine r_iconst (pc := 60) X d_X5_ruleLine_60 (by decide +kernel) ?_
    refine r_iload_n (pc := 61) X d_X5_ruleLine_61 fn3 ?_
    refine r_iadd (pc := 62) X d_X5_ruleLine_62 ?_
    refine r_iconst (pc := 63) X d_X5_ruleLine_63 (by decide +kernel) ?_
    refine s_iast (pc := 64) X tn_4 ln_4 d_X5_ruleLine_64 ?_
    refine r_iinc (pc := 65) X d_X5_ruleLine_65 (by decide +kernel) (by decide +kernel) ?_
    refine r_goto (pc := 68) (tgt := 51) X d_X5_ruleLine_68 (by decide +kernel) ?_
    exact h51
def k_X5_ruleLine_156 (P : xP) : xK := x_aload 0 (y_cv0 3 (w_R f_X5_lineEnds) (x_zret P))
set_option maxRecDepth 20000 in
theorem t_X5_ruleLine_156 {p : Program} {l : Launch} {e : Env} {s : State} {m : MethodId} {args : Array Value} {below : List Frame} {meth : Method} {c : Code} {g : xG} (X : xX p s m args c meth cX5_ruleLine RX5 5 g) (hr : meth.sig.returnType = (some .boolean)) {P : xP} : xAt p l e { frames := 3, cells := 0, slots := 0, locals := 69 } s m args below meth c g 5 xFT xN 0 0 (MQ below (xQc g xFT xN P) args s 0 0 (xFr g)) (k_X5_ruleLine_156 P) 156 := by
  unfold k_X5_ruleLine_156
  refine r_aload_n (pc := 156) X d_X5_ruleLine_156 fn0 ?_
  refine s_cv0 (pc := 157) (ci := 5) X xok5 (by decide +kernel) ob_3 rfl (con_X5_lineEnds l) mf_X5_lineEnds ml_RX5_103 (by decide +kernel) (by decide +kernel) d_X5_ruleLine_157 ?_
  exact r_zret (pc := 160) X hr d_X5_ruleLine_160
def k_X5_ruleLine_80 (P : xP) (C80 : xK) : xK := x_iload 3 (x_push (.int 3) (x_icmp_gt ((k_X5_ruleLine_156 P)) (x_aload 0 (y_getF 3 1 (x_push (.int 59) (y_cv1 1 (w_RI f_X9_isMark) (x_if_ne ((k_X5_ruleLine_156 P)) (x_aload 0 (x_aload 1 (y_cv1 3 (w_RR f_X5_knownName) (x_istore 4 (x_iload 4 (x_push (.int (-1)) (x_icmp_ne (x_iload 3 (x_push (.int 3) (x_icmp_lt (x_aload 0 (y_getF 3 4 (x_push (.int 2) (x_iload 3 (x_iadd (x_iload 4 (y_iast 4 5 (x_aload 0 (y_getF 3 4 (x_push (.int 1) (x_dup2 (y_iald 4 5 (x_push (.int 1) (x_iadd (y_iast 4 5 (x_aload 0 (y_getF 3 1 (y_cv0 1 (w_R f_X9_advance) (x_iinc 3 1 (C80)))))))))))))))))))) (x_aload 0 (x_push (.int 4) (y_cv1 3 (w_RI f_X5_fail) (x_zret P))))))) (x_push (.int 0) (x_zret P))))))))))))))))
set_option maxRecDepth 20000 in
theorem t_X5_ruleLine_80 {p : Program} {l : Launch} {e : Env} {s : State} {m : MethodId} {args : Array Value} {below : List Frame} {meth : Method} {c : Code} {g : xG} (X : xX p s m args c meth cX5_ruleLine RX5 5 g) (hr : meth.sig.returnType = (some .boolean)) {P : xP} {C80 : xK} (h80 : xAt p l e { frames := 3, cells := 0, slots := 0, locals := 69 } s m args below meth c g 5 xFT xN 0 0 (MQ below (xQc g xFT xN P) args s 0 0 (xFr g)) C80 80) : xAt p l e { frames := 3, cells := 0, slots := 0, locals := 69 } s m args below meth c g 5 xFT xN 0 0 (MQ below (xQc g xFT xN P) args s 0 0 (xFr g)) (k_X5_ruleLine_80 P C80) 80 := by
  unfold k_X5_ruleLine_80
  refine r_iload_n (pc := 80) X d_X5_ruleLine_80 fn3 ?_
  refine r_iconst (pc := 81) X d_X5_ruleLine_81 (by decide +kernel) ?_
  refine r_icmp_gt (pc := 82) (tgt := 156) X d_X5_ruleLine_82 (by decide +kernel) ?_ ?_
  · exact t_X5_ruleLine_156 X hr
  · refine r_aload_n (pc := 85) X d_X5_ruleLine_85 fn0 ?_
    refine s_getF (pc := 86) (ci := 5) (k := 0) X xok5 (by decide +kernel) ob_3 trivial ly_3_0 (by decide +kernel) fl_RX5_22 d_X5_ruleLine_86 ?_
    refine r_bipush (pc := 89) X d_X5_ruleLine_89 (by decide +kernel) ?_
    refine s_cv1 (pc := 91) (ci := 9) X xok9 (by decide +kernel) ob_1 rfl (con_X9_isMark l) mf_X9_isMark ml_RX5_113 (by decide +kernel) (by decide +kernel) d_X5_ruleLine_91 ?_
    refine r_if_ne (pc := 94) (tgt := 156) X d_X5_ruleLine_94 (by decide +kernel) ?_ ?_
    · exact t_X5_ruleLine_156 X hr
    · refine r_aload_n (pc := 97) X d_X5_ruleLine_97 fn0 ?_
      refine r_aload_n (pc := 98) X d_X5_ruleLine_98 fn1 ?_
      refine s_cv1 (pc := 99) (ci := 5) X xok5 (by decide +kernel) ob_3 rfl (con_X5_knownName l) mf_X5_knownName ml_RX5_116 (by decide +kernel) (by decide +kernel) d_X5_ruleLine_99 ?_
      refine r_istore (pc := 102) X d_X5_ruleLine_102 (by decide +kernel) ?_
      refine r_iload (pc := 104) X d_X5_ruleLine_104 ?_
      refine r_iconst (pc := 106) X d_X5_ruleLine_106 (by decide +kernel) ?_
      refine r_icmp_ne (pc := 107) (tgt := 112) X d_X5_ruleLine_107 (by decide +kernel) ?_ ?_
      · refine r_iload_n (pc := 112) X d_X5_ruleLine_112 fn3 ?_
        refine r_iconst (pc := 113) X d_X5_ruleLine_113 (by decide +kernel) ?_
        refine r_icmp_lt (pc := 114) (tgt := 123) X d_X5_ruleLine_114 (by decide +kernel) ?_ ?_
        · refine r_aload_n (pc := 123) X d_X5_ruleLine_123 fn0 ?_
          refine s_getF (pc := 124) (ci := 5) (k := 1) X xok5 (by decide +kernel) ob_3 trivial ly_3_1 (by decide +kernel) fl_RX5_9 d_X5_ruleLine_124 ?_
          refine r_iconst (pc := 127) X d_X5_ruleLine_127 (by decide +kernel) ?_
          refine r_iload_n (pc := 128) X d_X5_ruleLine_128 fn3 ?_
          refine r_iadd (pc := 129) X d_X5_ruleLine_129 ?_
          refine r_iload (pc := 130) X d_X5_ruleLine_130 ?_
          refine s_iast (pc := 132) X tn_4 ln_4 d_X5_ruleLine_132 ?_
          refine r_aload_n (pc := 133) X d_X5_ruleLine_133 fn0 ?_
          refine s_getF (pc := 134) (ci := 5) (k := 1) X xok5 (by decide +kernel) ob_3 trivial ly_3_1 (by decide +kernel) fl_RX5_9 d_X5_ruleLine_134 ?_
          refine r_iconst (pc := 137) X d_X5_ruleLine_137 (by decide +kernel) ?_
          refine r_dup2 (pc := 138) X d_X5_ruleLine_138 ?_
          refine s_iald (pc := 139) X tn_4 ln_4 d_X5_ruleLine_139 ?_
          refine r_iconst (pc := 140) X d_X5_ruleLine_140 (by decide +kernel) ?_
          refine r_iadd (pc := 141) X d_X5_ruleLine_141 ?_
          refine s_iast (pc := 142) X tn_4 ln_4 d_X5_ruleLine_142 ?_
          refine r_aload_n (pc := 143) X d_X5_ruleLine_143 fn0 ?_
          refine s_getF (pc := 144) (ci := 5) (k := 0) X xok5 (by decide +kernel) ob_3 trivial ly_3_0 (by decide +kernel) fl_RX5_22 d_X5_ruleLine_144 ?_
          refine s_cv0 (pc := 147) (ci := 9) X xok9 (by decide +kernel) ob_1 rfl (con_X9_advance l) mf_X9_advance ml_RX5_88 (by decide +kernel) (by decide +kernel) d_X5_ruleLine_147 ?_
          refine r_iinc (pc := 150) X d_X5_ruleLine_150 (by decide +kernel) (by decide +kernel) ?_
          refine r_goto (pc := 153) (tgt := 80) X d_X5_ruleLine_153 (by decide +kernel) ?_
          exact h80
        · refine r_aload_n (pc := 117) X d_X5_ruleLine_117 fn0 ?_
          refine r_iconst (pc := 118) X d_X5_ruleLine_118 (by decide +kernel) ?_
          refine s_cv1 (pc := 119) (ci := 5) X xok5 (by decide +kernel) ob_3 rfl (con_X5_fail l) mf_X5_fail ml_RX5_63 (by decide +kernel) (by decide +kernel) d_X5_ruleLine_119 ?_
          exact r_zret (pc := 122) X hr d_X5_ruleLine_122
      · refine r_iconst (pc := 110) X d_X5_ruleLine_110 (by decide +kernel) ?_
        exact r_zret (pc := 111) X hr d_X5_ruleLine_111
set_option maxRecDepth 20000 in
theorem m_X5_ruleLine {l : Launch} {f : Nat → Nat → xH → xP → Prop}  {I51 : Nat → Nat → xH → xP → xM → xK} {I80 : Nat → Nat → xH → xP → xM → xK}
    (v0 : ∀ (a0 : Nat) (a1 : Nat) (A : xH) (P : xP), f a0 a1 A P → k_X5_ruleLine_0 P (xE (I51 a0 a1 A P)) [some (.ref a0), some (.ref a1), none, none, none] [] A)
    (v51 : ∀ (a0 : Nat) (a1 : Nat) (A : xH) (P : xP), f a0 a1 A P → ∀ (μ : xM) (L : xL) (st : List Value) (B : xH), I51 a0 a1 A P μ L st B → k_X5_ruleLine_51 P (xB (I51 a0 a1 A P) μ) (xE (I80 a0 a1 A P)) L st B)
    (v80 : ∀ (a0 : Nat) (a1 : Nat) (A : xH) (P : xP), f a0 a1 A P → ∀ (μ : xM) (L : xL) (st : List Value) (B : xH), I80 a0 a1 A P μ L st B → k_X5_ruleLine_80 P (xB (I80 a0 a1 A P) μ) L st B) : xCon l yX5_ruleLine cX5_ruleLine 5 (some .boolean) 3 69 xN xN 0 xFT xFT (w_RR f) := by
  refine xc_RR (plainFor_of_name pn_RX5) (by decide +kernel) (fun p e s m args below meth c g a0 a1 A P h X hr _ => ?_)
  have h80 := x_loop1 (p := p) (l := l) (e := e) (R := { frames := 3, cells := 0, slots := 0, locals := 69 }) (s := s) (m := m) (args := args) (below := below) (meth := meth) (c := c) (g := g) (nL := 5) (F := xFT) (n := xN) (cells := 0) (slots := 0) (Q := MQ below (xQc g xFT xN P) args s 0 0 (xFr g)) (I := I80 a0 a1 A P) (pc1 := 80) (fun μ i80 => xAt_mono (t_X5_ruleLine_80 (P := P) X hr i80) (v80 a0 a1 A P h μ))
  have h51 := x_loop1 (p := p) (l := l) (e := e) (R := { frames := 3, cells := 0, slots := 0, locals := 69 }) (s := s) (m := m) (args := args) (below := below) (meth := meth) (c := c) (g := g) (nL := 5) (F := xFT) (n := xN) (cells := 0) (slots := 0) (Q := MQ below (xQc g xFT xN P) args s 0 0 (xFr g)) (I := I51 a0 a1 A P) (pc1 := 51) (fun μ i51 => xAt_mono (t_X5_ruleLine_51 (P := P) X hr i51 h80) (v51 a0 a1 A P h μ))
  exact ⟨_, v0 a0 a1 A P h, t_X5_ruleLine_0 X hr h51⟩
/-- the SYMBOLS of a rule's line, read on from p: a FAULT and its PLACE, or them and the place of the mark -/
def rsy (v : xV) (f : Nat → Nat) (n lim : Nat) : Nat → Nat → List Nat → (Nat × Nat) ⊕ (List Nat × Nat)
  | 0, _, _ => .inl (0, 0)
  | k + 1, p, l =>
    if isMk (tk f n lim p) 59 then .inr (l, p)
    else if isNa (tk f n lim p) = false then .inl (1, (tk f n lim p).2.1)
    else if vfind v (lN (tk f n lim p).2.2.2) = -1 then .inl (3, (tk f n lim p).2.1)
    else if l.length = 3 then .inl (4, (tk f n lim p).2.1)
    else rsy v f n lim k (tk f n lim p).2.2.1 (l ++ [(vfind v (lN (tk f n lim p).2.2.2)).toNatClampNeg])
/-- a rule's line, its first word being at p -/
def rln (v : xV) (f : Nat → Nat) (n lim p : Nat) : (Nat × Nat) ⊕ ((Nat × List Nat) × Nat) :=
  if isNa (tk f n lim (tk f n lim p).2.2.1) = false then .inl (1, (tk f n lim (tk f n lim p).2.2.1).2.1)
  else if vfind v (lN (tk f n lim (tk f n lim p).2.2.1).2.2.2) < 8 then .inl (3, (tk f n lim (tk f n lim p).2.2.1).2.1)
  else match rsy v f n lim 4 (tk f n lim (tk f n lim p).2.2.1).2.2.1 [] with
    | .inl e => .inl e
    | .inr (l, q) => .inr (((vfind v (lN (tk f n lim (tk f n lim p).2.2.1).2.2.2)).toNatClampNeg - 8, l), q)
def rowIs (A : xH) (c o : Nat) (k : Nat) (l : List Nat) : Prop := xi A c o = nI k ∧ xi A c (o + 1) = nI l.length ∧ ∀ t, t < 3 → xi A c (o + 2 + t) = if h : t < l.length then nI l[t] else -1
/-- reader and tape alone are otherwise -/
def pS (A B : xH) : Prop := xoff A B 1 4 ∧ (∀ k, xi B 2 k = xi A 2 k) ∧ ∀ k, k ≠ 3 → k ≠ 4 → k ≠ 5 → xi B 1 k = xi A 1 k
theorem pS_rf {A : xH} : pS A A := ⟨xoff_rf, fun _ => rfl, fun _ _ _ _ => rfl⟩
theorem pS_tr {A B C : xH} (h : pS A B) (h2 : pS B C) : pS A C := ⟨xoff_tr h.1 h2.1, fun k => (h2.2.1 k).trans (h.2.1 k), fun k a b c => (h2.2.2 k a b c).trans (h.2.2 k a b c)⟩
theorem pS_aS {A B : xH} (h : aS A B) : pS A B := ⟨xoff_wide h.1 (by omega) (by omega), fun k => xoff_i h.1 (by omega), h.2⟩
theorem pS_si {A B : xH} {c k : Nat} {x : Int32} (h : pS A B) (hc : c = 3 ∨ c = 4) : pS A (xsi B c k x) :=
  ⟨xoff_si h.1 (by omega) (by omega), fun j => by rw [si_ne (by omega)]; exact h.2.1 j, fun j a b c => by rw [si_ne (by omega)]; exact h.2.2 j a b c⟩
/-- the class has read up to the token at p -/
def cT (A : xH) (f : Nat → Nat) (n lim p : Nat) : Prop := isT A f n ∧ xi A 1 2 = nI lim ∧ lim < 2 ^ 31 ∧ p ≤ n ∧ tkT A (tk f n lim p)
theorem cT_ok {A : xH} {f : Nat → Nat} {n lim p : Nat} (h : cT A f n lim p) : okT (tk f n lim p) := tk_ok h.2.2.2.1 fun j hj => (h.1.2.2 j hj).2
theorem cT_si {A : xH} {f : Nat → Nat} {n lim p c k : Nat} {x : Int32} (h : cT A f n lim p) (hc : c = 3 ∨ c = 4) : cT (xsi A c k x) f n lim p := by
  obtain ⟨⟨h1, h2, h3⟩, h4, h5, h6, t1, t2, t3, t4⟩ := h
  refine ⟨⟨?_, h2, fun j hj => ?_⟩, ?_, h5, h6, ?_, ?_, ?_, t4⟩
  · rw [si_ne (by omega)]; exact h1
  · rw [si_ne (by omega)]; exact h3 j hj
  · rw [si_ne (by omega)]; exact h4
  · rw [si_ne (by omega)]; exact t1
  · rw [si_ne (by omega)]; exact t2
  · rw [si_ne (by omega)]; exact t3
theorem adv_T {A : xH} {P : xP} {f : Nat → Nat} {n lim p : Nat} (h : cT A f n lim p) (hP : ∀ B, pS A B → aS A B → cT B f n lim (tk f n lim p).2.2.1 → P none B) : f_X9_advance 1 A P := by
  obtain ⟨h1, h4, h5, h6, t1, t2, t3, t4⟩ := h
  have hn := tk_next (f := f) (lim := lim) h6
  exact ⟨rfl, f, n, lim, _, h1, h4, h5, hn.1, t3, fun B hS ht => hP B (pS_aS hS) hS ⟨isT_aS h1 hS, (hS.2 2 (by omega) (by omega) (by omega)).trans h4, h5, hn.1, ht⟩⟩
theorem fail_L {A : xH} {P : xP} {t : Nat × Nat × Nat × Nat} (e : Nat) (h : tkT A t) : f_X5_fail 3 (OfNat.ofNat e : Int32) A P = P (some (.int 0)) (fltT A e t.2.1) := fail_T h
theorem bad_L {A : xH} {P : xP} {t : Nat × Nat × Nat × Nat} (e : Nat) (h : tkU A t) : f_X12_bad 180 (OfNat.ofNat e : Int32) A P = P (some (.int 0)) (fltU A e t.2.1) := bad_U h
theorem mark_L {A : xH} {P : xP} {t : Nat × Nat × Nat × Nat} (c : Nat) (h : tkT A t) (ho : okT t) (hc : c < 2 ^ 31) : f_X9_isMark 1 (OfNat.ofNat c : Int32) A P = P (some (.int (bI (isMk t c)))) A := mark_T h ho hc
theorem sign_L {A : xH} {P : xP} {t : Nat × Nat × Nat × Nat} (c : Nat) (h : tkU A t) (ho : okT t) (hc : c < 2 ^ 31) : f_X12_isSign 180 (OfNat.ofNat c : Int32) A P = P (some (.int (bI (isMk t c)))) A := sign_U h ho hc
theorem na_1 {t : Nat × Nat × Nat × Nat} (h : isNa t = true) : t.1 = 1 := by
  unfold isNa at h
  simp only [Bool.and_eq_true, decide_eq_true_eq] at h
  exact h.1
theorem kn_T {A : xH} {P : xP} {f : Nat → Nat} {n lim p m : Nat} {v : xV} (h : cT A f n lim p) (hM : isM A m v)
    (h1 : isNa (tk f n lim p) = false → P (some (.int (-1))) (fltT A 1 (tk f n lim p).2.1))
    (h2 : isNa (tk f n lim p) = true → vfind v (lN (tk f n lim p).2.2.2) = -1 → P (some (.int (-1))) (fltT A 3 (tk f n lim p).2.1))
    (h3 : isNa (tk f n lim p) = true → vfind v (lN (tk f n lim p).2.2.2) ≠ -1 → P (some (.int (vfind v (lN (tk f n lim p).2.2.2)))) A) : f_X5_knownName 3 m A P := by
  have ho := cT_ok h
  have hm := hM.1.1.1
  obtain ⟨-, -, -, -, ht⟩ := h
  unfold f_X5_knownName
  simp only [k_X5_knownName_0, k_X5_knownName_41, f_X4_find, f_X9_isName, w_R, w_RI, w_RJ, x_aload, x_cv1, x_icmp_ne, x_if_ne, x_iload, x_iret, x_istore, x_pop, x_push, y_cv0, y_cv1, y_getF, y_getJ, xFT, xbool0, xbool1, Nat.reduceAdd, Nat.zero_add, xgl_0, xgl_s, xgl_n, xst_0, xst_1n, xst_1i, xst_1r, xst_1l, xst_s, set_0, set_s, true_and, and_true, xres, xcat_nil, xcat_i, xcat_r, xcat_l, Nat.add_zero, xble0, xble1, xble2, xble3, xble4, xble5, xble6, xble7, xble8, f_X9_isName, name_T ht ho, fail_L 1 ht, fail_L 3 ht, bI_t, f_X4_find, hm, ne_eq]
  refine ⟨fun h => ⟨v, hM, fun h4 => ?_, fun h4 => ?_⟩, fun h => h1 h⟩
  · have hn : isNa (tk f n lim p) = true := by simpa using h
    have e := ht.2.2.2 (by rw [na_1 hn]; decide)
    rw [e] at h4 ⊢
    exact h3 hn h4
  · have hn : isNa (tk f n lim p) = true := by simpa using h
    have e := ht.2.2.2 (by rw [na_1 hn]; decide)
    rw [e] at h4 ⊢
    rw [h4]
    exact h2 hn h4
theorem le_T {A : xH} {P : xP} {f : Nat → Nat} {n lim p : Nat} (h : cT A f n lim p)
    (h1 : isMk (tk f n lim p) 59 = false → P (some (.int 0)) (fltT A 1 (tk f n lim p).2.1))
    (h2 : isMk (tk f n lim p) 59 = true → ∀ B, pS A B → aS A B → cT B f n lim (tk f n lim p).2.2.1 → P (some (.int 1)) B) : f_X5_lineEnds 3 A P := by
  have ho := cT_ok h
  have ht := h.2.2.2.2
  unfold f_X5_lineEnds
  simp only [k_X5_lineEnds_0, w_R, w_RI, x_aload, x_if_ne, x_push, x_zret, y_cv0, y_cv1, y_getF, xFT, xbool0, xbool1, Nat.reduceAdd, Nat.zero_add, xgl_0, xgl_s, xgl_n, xst_0, xst_1n, xst_1i, xst_1r, xst_1l, xst_s, set_0, set_s, true_and, and_true, xres, xcat_nil, xcat_i, xcat_r, xcat_l, Nat.add_zero, xble0, xble1, xble2, xble3, xble4, xble5, xble6, xble7, xble8, mark_L 59 ht ho (by decide), fail_L 1 ht, bI_t, ne_eq]
  refine ⟨fun q => adv_T h fun B hB hS hc => ?_, fun q => h1 q⟩
  simp only [k_X5_lineEnds_0, w_R, w_RI, x_aload, x_if_ne, x_push, x_zret, y_cv0, y_cv1, y_getF, xFT, xbool0, xbool1, Nat.reduceAdd, Nat.zero_add, xgl_0, xgl_s, xgl_n, xst_0, xst_1n, xst_1i, xst_1r, xst_1l, xst_s, set_0, set_s, true_and, and_true, xres, xcat_nil, xcat_i, xcat_r, xcat_l, Nat.add_zero, xble0, xble1, xble2, xble3, xble4, xble5, xble6, xble7, xble8]
  exact h2 (by simpa using q) B hB hS hc
theorem vfind_n {v : xV} {w : Int64} (h : vfind v w ≠ -1) (hv : wfg v) : ∃ c, vfind v w = nI c ∧ c < 13 := by
  obtain ⟨h1, h2, -⟩ := hv
  unfold vfind at h ⊢
  split
  · exact ⟨_, rfl, by omega⟩
  · rename_i q
    rw [if_neg q] at h
    split
    · exact ⟨_, rfl, by omega⟩
    · rename_i q2
      rw [if_neg q2] at h
      exact absurd rfl h
theorem cl0 : Int32.toNatClampNeg 0 = 0 := by decide +kernel
theorem cl1 : Int32.toNatClampNeg 1 = 1 := by decide +kernel
theorem rowIs_app {A : xH} {c o k x : Nat} {l : List Nat} (h : rowIs A c o k l) (hl : l.length < 3) : rowIs (xsi (xsi A c (o + 2 + l.length) (nI x)) c (o + 1) (nI (l.length + 1))) c o k (l ++ [x]) := by
  obtain ⟨h1, h2, h3⟩ := h
  refine ⟨?_, ?_, fun t ht => ?_⟩
  · rw [si_ne (by omega), si_ne (by omega)]; exact h1
  · rw [si_eq, List.length_append]; rfl
  · rw [si_ne (by omega)]
    by_cases e : t = l.length
    · subst e
      rw [si_eq, dif_pos (by simp)]
      simp
    · rw [si_ne (by omega), h3 t ht]
      by_cases e2 : t < l.length
      · rw [dif_pos e2, dif_pos (by simp; omega), List.getElem_append_left e2]
      · rw [dif_neg e2, dif_neg (by simp; omega)]
def RL1 (A : xH) (P : xP) (v : xV) (f : Nat → Nat) (n lim p : Nat) : Prop := ∀ B e d, rln v f n lim p = .inl (e, d) → pS A B → xi B 3 3 = nI e → xi B 3 4 = nI d → P (some (.int 0)) B
def RL2 (A : xH) (P : xP) (v : xV) (f : Nat → Nat) (n lim p : Nat) : Prop := ∀ B k l z, rln v f n lim p = .inr ((k, l), z) → pS A B → rowIs B 4 0 k l → (∀ j, xi B 3 j = xi A 3 j) → cT B f n lim (tk f n lim z).2.2.1 → P (some (.int 1)) B
theorem RL1_flt {A B : xH} {P : xP} {v : xV} {f : Nat → Nat} {n lim p e d : Nat} (h : RL1 A P v f n lim p) (hB : pS A B) (he : rln v f n lim p = .inl (e, d)) : P (some (.int 0)) (fltT B e d) := by
  refine h _ e d he (pS_si (pS_si hB (by omega)) (by omega)) ?_ si_eq
  unfold fltT
  rw [si_ne (by omega), si_eq]
def f_X5_ruleLine (q m : Nat) (A : xH) (P : xP) : Prop := q = 3 ∧ ∃ f n lim p v, cT A f n lim p ∧ isM A m v ∧ 8 ≤ m ∧ RL1 A P v f n lim p ∧ RL2 A P v f n lim p
def rk (k : Nat) : (Nat × Nat) ⊕ (List Nat × Nat) → (Nat × Nat) ⊕ ((Nat × List Nat) × Nat)
  | .inl e => .inl e
  | .inr (l, q) => .inr ((k, l), q)
theorem rln_ok {v : xV} {f : Nat → Nat} {n lim p : Nat} (h : isNa (tk f n lim (tk f n lim p).2.2.1) = true) (h2 : ¬ vfind v (lN (tk f n lim (tk f n lim p).2.2.1).2.2.2) < 8) :
    rln v f n lim p = rk ((vfind v (lN (tk f n lim (tk f n lim p).2.2.1).2.2.2)).toNatClampNeg - 8) (rsy v f n lim 4 (tk f n lim (tk f n lim p).2.2.1).2.2.1 []) := by
  unfold rln
  rw [if_neg (by rw [h]; decide), if_neg h2]
  rfl
def rlA (m : Nat) (A : xH) (P : xP) : xM → xK := fun μ L st B => ∃ f n lim p v t k x, RL1 A P v f n lim p ∧ RL2 A P v f n lim p ∧ isM A m v ∧ pS A B ∧ cT B f n lim (tk f n lim p).2.2.1 ∧ (∀ j, xi B 3 j = xi A 3 j) ∧
  rln v f n lim p = rk k (rsy v f n lim 4 (tk f n lim (tk f n lim p).2.2.1).2.2.1 []) ∧ xi B 4 0 = nI k ∧ xi B 4 1 = 0 ∧ t ≤ 3 ∧ (∀ j, j < t → xi B 4 (2 + j) = -1) ∧ st = [] ∧ L = [some (.ref 3), some (.ref m), some (.int x), some (.int (nI t)), none] ∧ μ = (3 - t, 0, 0)
def rlB (m : Nat) (A : xH) (P : xP) : xM → xK := fun μ L st B => ∃ f n lim p v k z l x o, RL1 A P v f n lim p ∧ RL2 A P v f n lim p ∧ isM A m v ∧ pS A B ∧ cT B f n lim z ∧ (∀ j, xi B 3 j = xi A 3 j) ∧
  rln v f n lim p = rk k (rsy v f n lim (4 - l.length) z l) ∧ rowIs B 4 0 k l ∧ l.length ≤ 3 ∧ st = [] ∧ L = [some (.ref 3), some (.ref m), some (.int x), some (.int (nI l.length)), o] ∧ μ = (3 - l.length, 0, 0)
theorem con_X5_ruleLine (l : Launch) : xCon l yX5_ruleLine cX5_ruleLine 5 (some .boolean) 3 69 xN xN 0 xFT xFT (w_RR f_X5_ruleLine) := by
  have m1 : ((-1 : Int32) ≠ -1) = False := by decide +kernel
  refine m_X5_ruleLine (I51 := fun q m A P μ L st B => 8 ≤ m ∧ rlA m A P μ L st B) (I80 := fun q m A P μ L st B => 8 ≤ m ∧ rlB m A P μ L st B) ?_ ?_ ?_
  · rintro q m A P ⟨rfl, f, n, lim, p, v, hc, hM, hm, h1, h2⟩
    simp only [k_X5_ruleLine_0, k_X5_ruleLine_51, k_X5_ruleLine_80, k_X5_ruleLine_156, w_R, w_RI, w_RR, x_aload, x_dup2, x_iadd, x_icmp_ge, x_icmp_gt, x_icmp_lt, x_icmp_ne, x_if_ne, x_iinc, x_iload, x_istore, x_isub, x_push, x_zret, y_cv0, y_cv1, y_getF, y_iald, y_iast, xFT, xbool0, xbool1, Nat.reduceAdd, Nat.zero_add, xgl_0, xgl_s, xgl_n, xst_0, xst_1n, xst_1i, xst_1r, xst_1l, xst_s, set_0, set_s, true_and, and_true, xres, xcat_nil, xcat_i, xcat_r, xcat_l, Nat.add_zero, xble0, xble1, xble2, xble3, xble4, xble5, xble6, xble7, xble8]
    refine adv_T hc fun B hB hS hcB => ?_
    simp only [k_X5_ruleLine_0, k_X5_ruleLine_51, k_X5_ruleLine_80, k_X5_ruleLine_156, w_R, w_RI, w_RR, x_aload, x_dup2, x_iadd, x_icmp_ge, x_icmp_gt, x_icmp_lt, x_icmp_ne, x_if_ne, x_iinc, x_iload, x_istore, x_isub, x_push, x_zret, y_cv0, y_cv1, y_getF, y_iald, y_iast, xFT, xbool0, xbool1, Nat.reduceAdd, Nat.zero_add, xgl_0, xgl_s, xgl_n, xst_0, xst_1n, xst_1i, xst_1r, xst_1l, xst_s, set_0, set_s, true_and, and_true, xres, xcat_nil, xcat_i, xcat_r, xcat_l, Nat.add_zero, xble0, xble1, xble2, xble3, xble4, xble5, xble6, xble7, xble8]
    have h3 : ∀ j, xi B 3 j = xi A 3 j := fun j => xoff_i hS.1 (by omega)
    refine kn_T (v := v) hcB (isM_off hM hS.1 (by omega)) (fun a => ?_) (fun a b => ?_) (fun a b => ?_)
    · simp only [k_X5_ruleLine_0, k_X5_ruleLine_51, k_X5_ruleLine_80, k_X5_ruleLine_156, w_R, w_RI, w_RR, x_aload, x_dup2, x_iadd, x_icmp_ge, x_icmp_gt, x_icmp_lt, x_icmp_ne, x_if_ne, x_iinc, x_iload, x_istore, x_isub, x_push, x_zret, y_cv0, y_cv1, y_getF, y_iald, y_iast, xFT, xbool0, xbool1, Nat.reduceAdd, Nat.zero_add, xgl_0, xgl_s, xgl_n, xst_0, xst_1n, xst_1i, xst_1r, xst_1l, xst_s, set_0, set_s, true_and, and_true, xres, xcat_nil, xcat_i, xcat_r, xcat_l, Nat.add_zero, xble0, xble1, xble2, xble3, xble4, xble5, xble6, xble7, xble8, m1, false_implies, true_implies]
      exact RL1_flt h1 hB (by unfold rln; rw [if_pos a])
    · simp only [k_X5_ruleLine_0, k_X5_ruleLine_51, k_X5_ruleLine_80, k_X5_ruleLine_156, w_R, w_RI, w_RR, x_aload, x_dup2, x_iadd, x_icmp_ge, x_icmp_gt, x_icmp_lt, x_icmp_ne, x_if_ne, x_iinc, x_iload, x_istore, x_isub, x_push, x_zret, y_cv0, y_cv1, y_getF, y_iald, y_iast, xFT, xbool0, xbool1, Nat.reduceAdd, Nat.zero_add, xgl_0, xgl_s, xgl_n, xst_0, xst_1n, xst_1i, xst_1r, xst_1l, xst_s, set_0, set_s, true_and, and_true, xres, xcat_nil, xcat_i, xcat_r, xcat_l, Nat.add_zero, xble0, xble1, xble2, xble3, xble4, xble5, xble6, xble7, xble8, m1, false_implies, true_implies]
      exact RL1_flt h1 hB (by unfold rln; rw [if_neg (by rw [a]; decide), if_pos (by rw [b]; decide +kernel)])
    · simp only [k_X5_ruleLine_0, k_X5_ruleLine_51, k_X5_ruleLine_80, k_X5_ruleLine_156, w_R, w_RI, w_RR, x_aload, x_dup2, x_iadd, x_icmp_ge, x_icmp_gt, x_icmp_lt, x_icmp_ne, x_if_ne, x_iinc, x_iload, x_istore, x_isub, x_push, x_zret, y_cv0, y_cv1, y_getF, y_iald, y_iast, xFT, xbool0, xbool1, Nat.reduceAdd, Nat.zero_add, xgl_0, xgl_s, xgl_n, xst_0, xst_1n, xst_1i, xst_1r, xst_1l, xst_s, set_0, set_s, true_and, and_true, xres, xcat_nil, xcat_i, xcat_r, xcat_l, Nat.add_zero, xble0, xble1, xble2, xble3, xble4, xble5, xble6, xble7, xble8, fail_L 3 hcB.2.2.2.2, cl0, cl1]
      obtain ⟨c, hc1, hc2⟩ := vfind_n b hM.1.2.1
      refine ⟨fun _ => ⟨fun q => ⟨vpl (by decide) (by decide), vpl (by decide) (by decide), xE0 (3, 0, 0) ⟨hm, ?_⟩⟩, fun q => ?_⟩, fun q => absurd q b⟩
      · rw [hc1, c_ge 8 (c := c) (by omega) (by decide)] at q
        refine ⟨f, n, lim, p, v, 0, c - 8, _, h1, h2, hM, pS_si (pS_si hB (by omega)) (by omega), cT_si (cT_si hcB (by omega)) (by omega), fun j => by rw [si_ne (by omega), si_ne (by omega)]; exact h3 j, ?_, ?_, si_eq, by omega, fun j hj => by omega, rfl, rfl, rfl⟩
        · rw [rln_ok a (by rw [hc1, c_lt 8 (c := c) (by omega) (by decide)]; omega), hc1, n_cl (by omega)]
        · rw [si_ne (by omega), si_eq, hc1, show (8 : Int32) = nI 8 from rfl, n_sub q]
      · rw [hc1, c_ge 8 (c := c) (by omega) (by decide)] at q
        exact RL1_flt h1 hB (by unfold rln; rw [if_neg (by rw [a]; decide), if_pos (by rw [hc1, c_lt 8 (c := c) (by omega) (by decide)]; omega)])
  · rintro q m A P - μ L st B ⟨hm, f, n, lim, p, v, t, k, x, h1, h2, hM, hB, hc, h3, hr, k0, k1, ht, hj, rfl, rfl, rfl⟩
    simp only [k_X5_ruleLine_0, k_X5_ruleLine_51, k_X5_ruleLine_80, k_X5_ruleLine_156, w_R, w_RI, w_RR, x_aload, x_dup2, x_iadd, x_icmp_ge, x_icmp_gt, x_icmp_lt, x_icmp_ne, x_if_ne, x_iinc, x_iload, x_istore, x_isub, x_push, x_zret, y_cv0, y_cv1, y_getF, y_iald, y_iast, xFT, xbool0, xbool1, Nat.reduceAdd, Nat.zero_add, xgl_0, xgl_s, xgl_n, xst_0, xst_1n, xst_1i, xst_1r, xst_1l, xst_s, set_0, set_s, true_and, and_true, xres, xcat_nil, xcat_i, xcat_r, xcat_l, Nat.add_zero, xble0, xble1, xble2, xble3, xble4, xble5, xble6, xble7, xble8, c_ge 3 (c := t) (by omega) (by decide), show (2 : Int32) = nI 2 from rfl, nI_add, n_cl (n := 2 + t) (by omega), nI_1]
    refine ⟨fun a => adv_T hc fun D hD hS hcD => ?_, fun a => ⟨(n_in (by omega) (by omega)).mpr (by omega), xB1 (b := 3 - (t + 1)) (by omega) ⟨hm, f, n, lim, p, v, t + 1, k, x, h1, h2, hM, pS_si hB (by omega), cT_si hc (by omega), fun j => by rw [si_ne (by omega)]; exact h3 j, hr, ?_, ?_, by omega, fun j hj2 => ?_, rfl, rfl, rfl⟩⟩⟩
    · have ht3 : t = 3 := by omega
      subst ht3
      have e : ∀ j, xi D 4 j = xi B 4 j := fun j => xoff_i hS.1 (by omega)
      refine xE0 (3, 0, 0) ⟨hm, f, n, lim, p, v, k, _, [], x, none, h1, h2, hM, pS_tr hB hD, hcD, fun j => (xoff_i hS.1 (by omega)).trans (h3 j), hr, ⟨(e 0).trans k0, (e 1).trans k1, fun t ht => ?_⟩, by decide, rfl, rfl, rfl⟩
      rw [dif_neg (by simp), e]
      rw [Nat.zero_add]
      exact hj t ht
    · rw [si_ne (by omega)]; exact k0
    · rw [si_ne (by omega)]; exact k1
    · by_cases e : j < t
      · rw [si_ne (by omega)]; exact hj j e
      · rw [show j = t by omega, si_eq]
  · rintro q m A P - μ L st B ⟨hm, f, n, lim, p, v, k, z, l, x, o, h1, h2, hM, hB, hc, h3, hr, hrow, hl, rfl, rfl, rfl⟩
    have ho := cT_ok hc
    have ht := hc.2.2.2.2
    have hgt : ¬ 3 < l.length := by omega
    have hk : 4 - l.length = (3 - l.length) + 1 := by omega
    rw [hk] at hr
    simp only [rsy] at hr
    simp only [k_X5_ruleLine_0, k_X5_ruleLine_51, k_X5_ruleLine_80, k_X5_ruleLine_156, w_R, w_RI, w_RR, x_aload, x_dup2, x_iadd, x_icmp_ge, x_icmp_gt, x_icmp_lt, x_icmp_ne, x_if_ne, x_iinc, x_iload, x_istore, x_isub, x_push, x_zret, y_cv0, y_cv1, y_getF, y_iald, y_iast, xFT, xbool0, xbool1, Nat.reduceAdd, Nat.zero_add, xgl_0, xgl_s, xgl_n, xst_0, xst_1n, xst_1i, xst_1r, xst_1l, xst_s, set_0, set_s, true_and, and_true, xres, xcat_nil, xcat_i, xcat_r, xcat_l, Nat.add_zero, xble0, xble1, xble2, xble3, xble4, xble5, xble6, xble7, xble8, c_gt 3 (c := l.length) (by omega) (by decide), hgt, mark_L 59 ht ho (by decide), bI_t, ne_eq, false_implies, not_false_eq_true, true_implies]
    refine ⟨fun a => le_T hc (fun b => absurd b a) fun b D hD hS hcD => ?_, fun a => kn_T (v := v) hc (isM_off hM hB.1 (by omega)) (fun b => ?_) (fun b c => ?_) (fun b c => ?_)⟩
    · simp only [k_X5_ruleLine_0, k_X5_ruleLine_51, k_X5_ruleLine_80, k_X5_ruleLine_156, w_R, w_RI, w_RR, x_aload, x_dup2, x_iadd, x_icmp_ge, x_icmp_gt, x_icmp_lt, x_icmp_ne, x_if_ne, x_iinc, x_iload, x_istore, x_isub, x_push, x_zret, y_cv0, y_cv1, y_getF, y_iald, y_iast, xFT, xbool0, xbool1, Nat.reduceAdd, Nat.zero_add, xgl_0, xgl_s, xgl_n, xst_0, xst_1n, xst_1i, xst_1r, xst_1l, xst_s, set_0, set_s, true_and, and_true, xres, xcat_nil, xcat_i, xcat_r, xcat_l, Nat.add_zero, xble0, xble1, xble2, xble3, xble4, xble5, xble6, xble7, xble8]
      rw [if_pos b] at hr
      have e : ∀ j, xi D 4 j = xi B 4 j := fun j => xoff_i hS.1 (by omega)
      refine h2 D k l z hr (pS_tr hB hD) ⟨(e _).trans hrow.1, (e _).trans hrow.2.1, fun t ht => (e _).trans (hrow.2.2 t ht)⟩ (fun j => (xoff_i hS.1 (by omega)).trans (h3 j)) hcD
    · simp only [k_X5_ruleLine_0, k_X5_ruleLine_51, k_X5_ruleLine_80, k_X5_ruleLine_156, w_R, w_RI, w_RR, x_aload, x_dup2, x_iadd, x_icmp_ge, x_icmp_gt, x_icmp_lt, x_icmp_ne, x_if_ne, x_iinc, x_iload, x_istore, x_isub, x_push, x_zret, y_cv0, y_cv1, y_getF, y_iald, y_iast, xFT, xbool0, xbool1, Nat.reduceAdd, Nat.zero_add, xgl_0, xgl_s, xgl_n, xst_0, xst_1n, xst_1i, xst_1r, xst_1l, xst_s, set_0, set_s, true_and, and_true, xres, xcat_nil, xcat_i, xcat_r, xcat_l, Nat.add_zero, xble0, xble1, xble2, xble3, xble4, xble5, xble6, xble7, xble8, false_implies, true_implies, not_true_eq_false]
      rw [if_neg (by rw [a]; decide), if_pos b] at hr
      exact RL1_flt h1 hB hr
    · simp only [k_X5_ruleLine_0, k_X5_ruleLine_51, k_X5_ruleLine_80, k_X5_ruleLine_156, w_R, w_RI, w_RR, x_aload, x_dup2, x_iadd, x_icmp_ge, x_icmp_gt, x_icmp_lt, x_icmp_ne, x_if_ne, x_iinc, x_iload, x_istore, x_isub, x_push, x_zret, y_cv0, y_cv1, y_getF, y_iald, y_iast, xFT, xbool0, xbool1, Nat.reduceAdd, Nat.zero_add, xgl_0, xgl_s, xgl_n, xst_0, xst_1n, xst_1i, xst_1r, xst_1l, xst_s, set_0, set_s, true_and, and_true, xres, xcat_nil, xcat_i, xcat_r, xcat_l, Nat.add_zero, xble0, xble1, xble2, xble3, xble4, xble5, xble6, xble7, xble8, false_implies, true_implies, not_true_eq_false]
      rw [if_neg (by rw [a]; decide), if_neg (by rw [b]; decide), if_pos c] at hr
      exact RL1_flt h1 hB hr
    · rw [if_neg (by rw [a]; decide), if_neg (by rw [b]; decide), if_neg c] at hr
      obtain ⟨y, hy, hy2⟩ := vfind_n c hM.1.2.1
      rw [hy] at c hr ⊢
      rw [n_cl (by omega)] at hr
      simp only [k_X5_ruleLine_0, k_X5_ruleLine_51, k_X5_ruleLine_80, k_X5_ruleLine_156, w_R, w_RI, w_RR, x_aload, x_dup2, x_iadd, x_icmp_ge, x_icmp_gt, x_icmp_lt, x_icmp_ne, x_if_ne, x_iinc, x_iload, x_istore, x_isub, x_push, x_zret, y_cv0, y_cv1, y_getF, y_iald, y_iast, xFT, xbool0, xbool1, Nat.reduceAdd, Nat.zero_add, xgl_0, xgl_s, xgl_n, xst_0, xst_1n, xst_1i, xst_1r, xst_1l, xst_s, set_0, set_s, true_and, and_true, xres, xcat_nil, xcat_i, xcat_r, xcat_l, Nat.add_zero, xble0, xble1, xble2, xble3, xble4, xble5, xble6, xble7, xble8, c_lt 3 (c := l.length) (by omega) (by decide), c, fail_L 4 ht, cl1, not_false_eq_true, true_implies, false_implies, show (2 : Int32) = nI 2 from rfl, nI_add, n_cl (n := 2 + l.length) (by omega), nI_1]
      refine ⟨fun d => ⟨(n_in (by omega) (by omega)).mpr (by omega), vpl (by decide) (by decide), vpl (by decide) (by decide), ?_⟩, fun d => ?_⟩
      · rw [if_neg (by omega)] at hr
        have e1 : xi (xsi B 4 (2 + l.length) (nI y)) 4 1 = nI l.length := by
          rw [si_ne (by omega)]; exact hrow.2.1
        rw [e1, nI_1]
        have happ := rowIs_app (x := y) hrow d
        refine adv_T (cT_si (cT_si hc (by omega)) (by omega)) fun D hD hS hcD => ?_
        simp only [k_X5_ruleLine_0, k_X5_ruleLine_51, k_X5_ruleLine_80, k_X5_ruleLine_156, w_R, w_RI, w_RR, x_aload, x_dup2, x_iadd, x_icmp_ge, x_icmp_gt, x_icmp_lt, x_icmp_ne, x_if_ne, x_iinc, x_iload, x_istore, x_isub, x_push, x_zret, y_cv0, y_cv1, y_getF, y_iald, y_iast, xFT, xbool0, xbool1, Nat.reduceAdd, Nat.zero_add, xgl_0, xgl_s, xgl_n, xst_0, xst_1n, xst_1i, xst_1r, xst_1l, xst_s, set_0, set_s, true_and, and_true, xres, xcat_nil, xcat_i, xcat_r, xcat_l, Nat.add_zero, xble0, xble1, xble2, xble3, xble4, xble5, xble6, xble7, xble8]
        have e : ∀ j, xi D 4 j = _ := fun j => xoff_i hS.1 (by omega)
        simp only [Nat.zero_add] at happ
        refine xB1 (b := 3 - (l.length + 1)) (by omega) ⟨hm, f, n, lim, p, v, k, _, l ++ [y], x, some (.int (nI y)), h1, h2, hM, pS_tr (pS_si (pS_si hB (by omega)) (by omega)) hD, hcD, fun j => ?_, ?_, ⟨(e _).trans happ.1, (e _).trans happ.2.1, fun t ht => (e _).trans (happ.2.2 t ht)⟩, by simp; omega, rfl, ?_, by rw [List.length_append]; rfl⟩
        · rw [xoff_i hS.1 (by omega), si_ne (by omega), si_ne (by omega)]; exact h3 j
        · rw [hr, List.length_append, show 4 - (l.length + [y].length) = 3 - l.length by simp only [List.length_singleton]; omega]
        · rw [List.length_append]; rfl
      · rw [if_pos (by omega)] at hr
        exact RL1_flt h1 hB hr

