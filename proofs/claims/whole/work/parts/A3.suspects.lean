/-! ===== the class's findSuspects ===== -/
theorem d_X10_findSuspects_0 : decode cX10_findSuspects 0 = .ok (.aload_n 0, 1) := by decide +kernel
theorem d_X10_findSuspects_1 : decode cX10_findSuspects 1 = .ok (.getfield 33, 3) := by decide +kernel
theorem d_X10_findSuspects_4 : decode cX10_findSuspects 4 = .ok (.ifCond .eq 4, 3) := by decide +kernel
theorem d_X10_findSuspects_7 : decode cX10_findSuspects 7 = .ok (.return_, 1) := by decide +kernel
theorem d_X10_findSuspects_8 : decode cX10_findSuspects 8 = .ok (.aload_n 0, 1) := by decide +kernel
theorem d_X10_findSuspects_9 : decode cX10_findSuspects 9 = .ok (.iconst 1, 1) := by decide +kernel
theorem d_X10_findSuspects_10 : decode cX10_findSuspects 10 = .ok (.putfield 33, 3) := by decide +kernel
theorem d_X10_findSuspects_13 : decode cX10_findSuspects 13 = .ok (.iconst 0, 1) := by decide +kernel
theorem d_X10_findSuspects_14 : decode cX10_findSuspects 14 = .ok (.istore_n 1, 1) := by decide +kernel
theorem d_X10_findSuspects_15 : decode cX10_findSuspects 15 = .ok (.iload_n 1, 1) := by decide +kernel
theorem d_X10_findSuspects_16 : decode cX10_findSuspects 16 = .ok (.sipush 640, 3) := by decide +kernel
theorem d_X10_findSuspects_19 : decode cX10_findSuspects 19 = .ok (.if_icmp .ge 16, 3) := by decide +kernel
theorem d_X10_findSuspects_22 : decode cX10_findSuspects 22 = .ok (.aload_n 0, 1) := by decide +kernel
theorem d_X10_findSuspects_23 : decode cX10_findSuspects 23 = .ok (.getfield 15, 3) := by decide +kernel
theorem d_X10_findSuspects_26 : decode cX10_findSuspects 26 = .ok (.iload_n 1, 1) := by decide +kernel
theorem d_X10_findSuspects_27 : decode cX10_findSuspects 27 = .ok (.lconst 0, 1) := by decide +kernel
theorem d_X10_findSuspects_28 : decode cX10_findSuspects 28 = .ok (.lastore, 1) := by decide +kernel
theorem d_X10_findSuspects_29 : decode cX10_findSuspects 29 = .ok (.iinc 1 1, 3) := by decide +kernel
theorem d_X10_findSuspects_32 : decode cX10_findSuspects 32 = .ok (.goto (-17), 3) := by decide +kernel
theorem d_X10_findSuspects_35 : decode cX10_findSuspects 35 = .ok (.aload_n 0, 1) := by decide +kernel
theorem d_X10_findSuspects_36 : decode cX10_findSuspects 36 = .ok (.iconst 0, 1) := by decide +kernel
theorem d_X10_findSuspects_37 : decode cX10_findSuspects 37 = .ok (.putfield 43, 3) := by decide +kernel
theorem d_X10_findSuspects_40 : decode cX10_findSuspects 40 = .ok (.aload_n 0, 1) := by decide +kernel
theorem d_X10_findSuspects_41 : decode cX10_findSuspects 41 = .ok (.iconst 0, 1) := by decide +kernel
theorem d_X10_findSuspects_42 : decode cX10_findSuspects 42 = .ok (.putfield 46, 3) := by decide +kernel
theorem d_X10_findSuspects_45 : decode cX10_findSuspects 45 = .ok (.aload_n 0, 1) := by decide +kernel
theorem d_X10_findSuspects_46 : decode cX10_findSuspects 46 = .ok (.getfield 36, 3) := by decide +kernel
theorem d_X10_findSuspects_49 : decode cX10_findSuspects 49 = .ok (.ifCond .eq 17, 3) := by decide +kernel
theorem d_X10_findSuspects_52 : decode cX10_findSuspects 52 = .ok (.aload_n 0, 1) := by decide +kernel
theorem d_X10_findSuspects_53 : decode cX10_findSuspects 53 = .ok (.aload_n 0, 1) := by decide +kernel
theorem d_X10_findSuspects_54 : decode cX10_findSuspects 54 = .ok (.getfield 15, 3) := by decide +kernel
theorem d_X10_findSuspects_57 : decode cX10_findSuspects 57 = .ok (.sipush 162, 3) := by decide +kernel
theorem d_X10_findSuspects_60 : decode cX10_findSuspects 60 = .ok (.ldc2_w 104, 3) := by decide +kernel
theorem d_X10_findSuspects_63 : decode cX10_findSuspects 63 = .ok (.invokevirtual 57, 3) := by decide +kernel
theorem d_X10_findSuspects_66 : decode cX10_findSuspects 66 = .ok (.aload_n 0, 1) := by decide +kernel
theorem d_X10_findSuspects_67 : decode cX10_findSuspects 67 = .ok (.getfield 43, 3) := by decide +kernel
theorem d_X10_findSuspects_70 : decode cX10_findSuspects 70 = .ok (.aload_n 0, 1) := by decide +kernel
theorem d_X10_findSuspects_71 : decode cX10_findSuspects 71 = .ok (.getfield 46, 3) := by decide +kernel
theorem d_X10_findSuspects_74 : decode cX10_findSuspects 74 = .ok (.if_icmp .ge 58, 3) := by decide +kernel
theorem d_X10_findSuspects_77 : decode cX10_findSuspects 77 = .ok (.aload_n 0, 1) := by decide +kernel
theorem d_X10_findSuspects_78 : decode cX10_findSuspects 78 = .ok (.getfield 43, 3) := by decide +kernel
theorem d_X10_findSuspects_81 : decode cX10_findSuspects 81 = .ok (.aload_n 0, 1) := by decide +kernel
theorem d_X10_findSuspects_82 : decode cX10_findSuspects 82 = .ok (.getfield 21, 3) := by decide +kernel
theorem d_X10_findSuspects_85 : decode cX10_findSuspects 85 = .ok (.arraylength, 1) := by decide +kernel
theorem d_X10_findSuspects_86 : decode cX10_findSuspects 86 = .ok (.if_icmp .ge 46, 3) := by decide +kernel
theorem d_X10_findSuspects_89 : decode cX10_findSuspects 89 = .ok (.aload_n 0, 1) := by decide +kernel
theorem d_X10_findSuspects_90 : decode cX10_findSuspects 90 = .ok (.getfield 21, 3) := by decide +kernel
theorem d_X10_findSuspects_93 : decode cX10_findSuspects 93 = .ok (.aload_n 0, 1) := by decide +kernel
theorem d_X10_findSuspects_94 : decode cX10_findSuspects 94 = .ok (.getfield 43, 3) := by decide +kernel
theorem d_X10_findSuspects_97 : decode cX10_findSuspects 97 = .ok (.iaload, 1) := by decide +kernel
theorem d_X10_findSuspects_98 : decode cX10_findSuspects 98 = .ok (.istore_n 1, 1) := by decide +kernel
theorem d_X10_findSuspects_99 : decode cX10_findSuspects 99 = .ok (.aload_n 0, 1) := by decide +kernel
theorem d_X10_findSuspects_100 : decode cX10_findSuspects 100 = .ok (.dup, 1) := by decide +kernel
theorem d_X10_findSuspects_101 : decode cX10_findSuspects 101 = .ok (.getfield 43, 3) := by decide +kernel
theorem d_X10_findSuspects_104 : decode cX10_findSuspects 104 = .ok (.iconst 1, 1) := by decide +kernel
theorem d_X10_findSuspects_105 : decode cX10_findSuspects 105 = .ok (.iadd, 1) := by decide +kernel
theorem d_X10_findSuspects_106 : decode cX10_findSuspects 106 = .ok (.putfield 43, 3) := by decide +kernel
theorem d_X10_findSuspects_109 : decode cX10_findSuspects 109 = .ok (.aload_n 0, 1) := by decide +kernel
theorem d_X10_findSuspects_110 : decode cX10_findSuspects 110 = .ok (.iload_n 1, 1) := by decide +kernel
theorem d_X10_findSuspects_111 : decode cX10_findSuspects 111 = .ok (.sipush 6400, 3) := by decide +kernel
theorem d_X10_findSuspects_114 : decode cX10_findSuspects 114 = .ok (.idiv, 1) := by decide +kernel
theorem d_X10_findSuspects_115 : decode cX10_findSuspects 115 = .ok (.iload_n 1, 1) := by decide +kernel
theorem d_X10_findSuspects_116 : decode cX10_findSuspects 116 = .ok (.bipush 80, 2) := by decide +kernel
theorem d_X10_findSuspects_118 : decode cX10_findSuspects 118 = .ok (.idiv, 1) := by decide +kernel
theorem d_X10_findSuspects_119 : decode cX10_findSuspects 119 = .ok (.bipush 80, 2) := by decide +kernel
theorem d_X10_findSuspects_121 : decode cX10_findSuspects 121 = .ok (.irem, 1) := by decide +kernel
theorem d_X10_findSuspects_122 : decode cX10_findSuspects 122 = .ok (.iload_n 1, 1) := by decide +kernel
theorem d_X10_findSuspects_123 : decode cX10_findSuspects 123 = .ok (.bipush 80, 2) := by decide +kernel
theorem d_X10_findSuspects_125 : decode cX10_findSuspects 125 = .ok (.irem, 1) := by decide +kernel
theorem d_X10_findSuspects_126 : decode cX10_findSuspects 126 = .ok (.invokevirtual 106, 3) := by decide +kernel
theorem d_X10_findSuspects_129 : decode cX10_findSuspects 129 = .ok (.goto (-63), 3) := by decide +kernel
theorem d_X10_findSuspects_132 : decode cX10_findSuspects 132 = .ok (.return_, 1) := by decide +kernel
def k_X10_findSuspects_0 (P : xP) (C15 : xK) : xK := x_aload 0 (y_getI 52 1 (x_if_eq (x_aload 0 (x_push (.int 1) (y_putZ 52 1 (x_push (.int 0) (x_istore 1 (C15)))))) (x_vret P)))
set_option maxRecDepth 20000 in
theorem t_X10_findSuspects_0 {p : Program} {l : Launch} {e : Env} {s : State} {m : MethodId} {args : Array Value} {below : List Frame} {meth : Method} {c : Code} {g : xG} (X : xX p s m args c meth cX10_findSuspects RX10 2 g) (hr : meth.sig.returnType = none) {P : xP} {C15 : xK} (h15 : xAt p l e { frames := 5, cells := 0, slots := 0, locals := 136 } s m args below meth c g 2 xFT xN 0 0 (MQ below (xQc g xFT xN P) args s 0 0 (xFr g)) C15 15) : xAt p l e { frames := 5, cells := 0, slots := 0, locals := 136 } s m args below meth c g 2 xFT xN 0 0 (MQ below (xQc g xFT xN P) args s 0 0 (xFr g)) (k_X10_findSuspects_0 P C15) 0 := by
  unfold k_X10_findSuspects_0
  refine r_aload_n (pc := 0) X d_X10_findSuspects_0 fn0 ?_
  refine s_getI (pc := 1) (ci := 10) X xok10 (by decide +kernel) ob_52 (by decide +kernel) fl_RX10_33 d_X10_findSuspects_1 ?_
  refine r_if_eq (pc := 4) (tgt := 8) X d_X10_findSuspects_4 (by decide +kernel) ?_ ?_
  · refine r_aload_n (pc := 8) X d_X10_findSuspects_8 fn0 ?_
    refine r_iconst (pc := 9) X d_X10_findSuspects_9 (by decide +kernel) ?_
    refine s_putZ (pc := 10) (ci := 10) X xok10 (by decide +kernel) ob_52 (by decide +kernel) (by decide +kernel) (by decide +kernel) fl_RX10_33 d_X10_findSuspects_10 ?_
    refine r_iconst (pc := 13) X d_X10_findSuspects_13 (by decide +kernel) ?_
    refine r_istore_n (pc := 14) X d_X10_findSuspects_14 fn1 (by decide +kernel) ?_
    exact h15
  · exact r_vret (pc := 7) X hr d_X10_findSuspects_7
def k_X10_findSuspects_15 (P : xP) (C15 : xK) (C66 : xK) : xK := x_iload 1 (x_push (.int 640) (x_icmp_ge (x_aload 0 (x_push (.int 0) (y_putI 52 8 (x_aload 0 (x_push (.int 0) (y_putI 52 9 (x_aload 0 (y_getI 52 2 (x_if_eq (C66) (x_aload 0 (x_aload 0 (y_getF 52 54 (x_push (.int 162) (x_push (.long 2) (y_cv3 52 (w_RRIJ f_X10_enter) (C66)))))))))))))))) (x_aload 0 (y_getF 52 54 (x_iload 1 (x_push (.long 0) (y_last 54 640 (x_iinc 1 1 (C15)))))))))
set_option maxRecDepth 20000 in
theorem t_X10_findSuspects_15 {p : Program} {l : Launch} {e : Env} {s : State} {m : MethodId} {args : Array Value} {below : List Frame} {meth : Method} {c : Code} {g : xG} (X : xX p s m args c meth cX10_findSuspects RX10 2 g) (hr : meth.sig.returnType = none) {P : xP} {C15 : xK} {C66 : xK} (h15 : xAt p l e { frames := 5, cells := 0, slots := 0, locals := 136 } s m args below meth c g 2 xFT xN 0 0 (MQ below (xQc g xFT xN P) args s 0 0 (xFr g)) C15 15) (h66 : xAt p l e { frames := 5, cells := 0, slots := 0, locals := 136 } s m args below meth c g 2 xFT xN 0 0 (MQ below (xQc g xFT xN P) args s 0 0 (xFr g)) C66 66) : xAt p l e { frames := 5, cells := 0, slots := 0, locals := 136 } s m args below meth c g 2 xFT xN 0 0 (MQ below (xQc g xFT xN P) args s 0 0 (xFr g)) (k_X10_findSuspects_15 P C15 C66) 15 := by
  unfold k_X10_findSuspects_15
  refine r_iload_n (pc := 15) X d_X10_findSuspects_15 fn1 ?_
  refine r_sipush (pc := 16) X d_X10_findSuspects_16 (by decide +kernel) ?_
  refine r_icmp_ge (pc := 19) (tgt := 35) X d_X10_findSuspects_19 (by decide +kernel) ?_ ?_
  · refine r_aload_n (pc := 35) X d_X10_findSuspects_35 fn0 ?_
    refine r_iconst (pc := 36) X d_X10_findSuspects_36 (by decide +kernel) ?_
    refine s_putI (pc := 37) (ci := 10) X xok10 (by decide +kernel) ob_52 (by decide +kernel) (by decide +kernel) (by decide +kernel) fl_RX10_43 d_X10_findSuspects_37 ?_
    refine r_aload_n (pc := 40) X d_X10_findSuspects_40 fn0 ?_
    refine r_iconst (pc := 41) X d_X10_findSuspects_41 (by decide +kernel) ?_
    refine s_putI (pc := 42) (ci := 10) X xok10 (by decide +kernel) ob_52 (by decide +kernel) (by decide +kernel) (by decide +kernel) fl_RX10_46 d_X10_findSuspects_42 ?_
    refine r_aload_n (pc := 45) X d_X10_findSuspects_45 fn0 ?_
    refine s_getI (pc := 46) (ci := 10) X xok10 (by decide +kernel) ob_52 (by decide +kernel) fl_RX10_36 d_X10_findSuspects_46 ?_
    refine r_if_eq (pc := 49) (tgt := 66) X d_X10_findSuspects_49 (by decide +kernel) ?_ ?_
    · exact h66
    · refine r_aload_n (pc := 52) X d_X10_findSuspects_52 fn0 ?_
      refine r_aload_n (pc := 53) X d_X10_findSuspects_53 fn0 ?_
      refine s_getF (pc := 54) (ci := 10) (k := 5) X xok10 (by decide +kernel) ob_52 trivial ly_52_5 (by decide +kernel) fl_RX10_15 d_X10_findSuspects_54 ?_
      refine r_sipush (pc := 57) X d_X10_findSuspects_57 (by decide +kernel) ?_
      refine r_ldc2 (pc := 60) X cw_RX10_104 d_X10_findSuspects_60 ?_
      refine s_cv3 (pc := 63) (ci := 10) X xok10 (by decide +kernel) ob_52 rfl (con_X10_enter l) mf_X10_enter ml_RX10_57 (by decide +kernel) (by decide +kernel) d_X10_findSuspects_63 ?_
      exact h66
  · refine r_aload_n (pc := 22) X d_X10_findSuspects_22 fn0 ?_
    refine s_getF (pc := 23) (ci := 10) (k := 5) X xok10 (by decide +kernel) ob_52 trivial ly_52_5 (by decide +kernel) fl_RX10_15 d_X10_findSuspects_23 ?_
    refine r_iload_n (pc := 26) X d_X10_findSuspects_26 fn1 ?_
    refine r_lconst (pc := 27) X d_X10_findSuspects_27 (by decide +kernel) ?_
    refine s_last (pc := 28) X tn_54 ln_54 d_X10_findSuspects_28 ?_
    refine r_iinc (pc := 29) X d_X10_findSuspects_29 (by decide +kernel) (by decide +kernel) ?_
    refine r_goto (pc := 32) (tgt := 15) X d_X10_findSuspects_32 (by decide +kernel) ?_
    exact h15
def k_X10_findSuspects_132 (P : xP) : xK := x_vret P
set_option maxRecDepth 20000 in
theorem t_X10_findSuspects_132 {p : Program} {l : Launch} {e : Env} {s : State} {m : MethodId} {args : Array Value} {below : List Frame} {meth : Method} {c : Code} {g : xG} (X : xX p s m args c meth cX10_findSuspects RX10 2 g) (hr : meth.sig.returnType = none) {P : xP} : xAt p l e { frames := 5, cells := 0, slots := 0, locals := 136 } s m args below meth c g 2 xFT xN 0 0 (MQ below (xQc g xFT xN P) args s 0 0 (xFr g)) (k_X10_findSuspects_132 P) 132 := by
  unfold k_X10_findSuspects_132
  exact r_vret (pc := 132) X hr d_X10_findSuspects_132
def k_X10_findSuspects_66 (P : xP) (C66 : xK) : xK := x_aload 0 (y_getI 52 8 (x_aload 0 (y_getI 52 9 (x_icmp_ge ((k_X10_findSuspects_132 P)) (x_aload 0 (y_getI 52 8 (x_aload 0 (y_getF 52 56 (y_alen 56 25600 (x_icmp_ge ((k_X10_findSuspects_132 P)) (x_aload 0 (y_getF 52 56 (x_aload 0 (y_getI 52 8 (y_iald 56 25600 (x_istore 1 (x_aload 0 (x_dup (y_getI 52 8 (x_push (.int 1) (x_iadd (y_putI 52 8 (x_aload 0 (x_iload 1 (x_push (.int 6400) (x_idiv (x_iload 1 (x_push (.int 80) (x_idiv (x_push (.int 80) (x_irem (x_iload 1 (x_push (.int 80) (x_irem (y_cv3 52 (w_RIII f_X10_back) (C66))))))))))))))))))))))))))))))))))))
set_option maxRecDepth 20000 in
theorem t_X10_findSuspects_66 {p : Program} {l : Launch} {e : Env} {s : State} {m : MethodId} {args : Array Value} {below : List Frame} {meth : Method} {c : Code} {g : xG} (X : xX p s m args c meth cX10_findSuspects RX10 2 g) (hr : meth.sig.returnType = none) {P : xP} {C66 : xK} (h66 : xAt p l e { frames := 5, cells := 0, slots := 0, locals := 136 } s m args below meth c g 2 xFT xN 0 0 (MQ below (xQc g xFT xN P) args s 0 0 (xFr g)) C66 66) : xAt p l e { frames := 5, cells := 0, slots := 0, locals := 136 } s m args below meth c g 2 xFT xN 0 0 (MQ below (xQc g xFT xN P) args s 0 0 (xFr g)) (k_X10_findSuspects_66 P C66) 66 := by
  unfold k_X10_findSuspects_66
  refine r_aload_n (pc := 66) X d_X10_findSuspects_66 fn0 ?_
  refine s_getI (pc := 67) (ci := 10) X xok10 (by decide +kernel) ob_52 (by decide +kernel) fl_RX10_43 d_X10_findSuspects_67 ?_
  refine r_aload_n (pc := 70) X d_X10_findSuspects_70 fn0 ?_
  refine s_getI (pc := 71) (ci := 10) X xok10 (by decide +kernel) ob_52 (by decide +kernel) fl_RX10_46 d_X10_findSuspects_71 ?_
  refine r_icmp_ge (pc := 74) (tgt := 132) X d_X10_findSuspects_74 (by decide +kernel) ?_ ?_
  · exact t_X10_findSuspects_132 X hr
  · refine r_aload_n (pc := 77) X d_X10_findSuspects_77 fn0 ?_
    refine s_getI (pc := 78) (ci := 10) X xok10 (by decide +kernel) ob_52 (by decide +kernel) fl_RX10_43 d_X10_findSuspects_78 ?_
    refine r_aload_n (pc := 81) X d_X10_findSuspects_81 fn0 ?_
    refine s_getF (pc := 82) (ci := 10) (k := 7) X xok10 (by decide +kernel) ob_52 trivial ly_52_7 (by decide +kernel) fl_RX10_21 d_X10_findSuspects_82 ?_
    refine s_alen (pc := 85) (q := 56) X (by rw [tn_56]; decide +kernel) ln_56 d_X10_findSuspects_85 ?_
    refine r_icmp_ge (pc := 86) (tgt := 132) X d_X10_findSuspects_86 (by decide +kernel) ?_ ?_
    · exact t_X10_findSuspects_132 X hr
    · refine r_aload_n (pc := 89) X d_X10_findSuspects_89 fn0 ?_
      refine s_getF (pc := 90) (ci := 10) (k := 7) X xok10 (by decide +kernel) ob_52 trivial ly_52_7 (by decide +kernel) fl_RX10_21 d_X10_findSuspects_90 ?_
      refine r_aload_n (pc := 93) X d_X10_findSuspects_93 fn0 ?_
      refine s_getI (pc := 94) (ci := 10) X xok10 (by decide +kernel) ob_52 (by decide +kernel) fl_RX10_43 d_X10_findSuspects_94 ?_
      refine s_iald (pc := 97) X tn_56 ln_56 d_X10_findSuspects_97 ?_
      refine r_istore_n (pc := 98) X d_X10_findSuspects_98 fn1 (by decide +kernel) ?_
      refine r_aload_n (pc := 99) X d_X10_findSuspects_99 fn0 ?_
      refine r_dup (pc := 100) X d_X10_findSuspects_100 ?_
      refine s_getI (pc := 101) (ci := 10) X xok10 (by decide +kernel) ob_52 (by decide +kernel) fl_RX10_43 d_X10_findSuspects_101 ?_
      refine r_iconst (pc := 104) X d_X10_findSuspects_104 (by decide +kernel) ?_
      refine r_iadd (pc := 105) X d_X10_findSuspects_105 ?_
      refine s_putI (pc := 106) (ci := 10) X xok10 (by decide +kernel) ob_52 (by decide +kernel) (by decide +kernel) (by decide +kernel) fl_RX10_43 d_X10_findSuspects_106 ?_
      refine r_aload_n (pc := 109) X d_X10_findSuspects_109 fn0 ?_
      refine r_iload_n (pc := 110) X d_X10_findSuspects_110 fn1 ?_
      refine r_sipush (pc := 111) X d_X10_findSuspects_111 (by decide +kernel) ?_
      refine r_idiv (pc := 114) X d_X10_findSuspects_114 ?_
      refine r_iload_n (pc := 115) X d_X10_findSuspects_115 fn1 ?_
      refine r_bipush (pc := 116) X d_X10_findSuspects_116 (by decide +kernel) ?_
      refine r_idiv (pc := 118) X d_X10_findSuspects_118 ?_
      refine r_bipush (pc := 119) X d_X10_findSuspects_119 (by decide +kernel) ?_
      refine r_irem (pc := 121) X d_X10_findSuspects_121 ?_
      refine r_iload_n (pc := 122) X d_X10_findSuspects_122 fn1 ?_
      refine r_bipush (pc := 123) X d_X10_findSuspects_123 (by decide +kernel) ?_
      refine r_irem (pc := 125) X d_X10_findSuspects_125 ?_
      refine s_cv3 (pc := 126) (ci := 10) X xok10 (by decide +kernel) ob_52 rfl (con_X10_back l) mf_X10_back ml_RX10_106 (by decide +kernel) (by decide +kernel) d_X10_findSuspects_126 ?_
      refine r_goto (pc := 129) (tgt := 66) X d_X10_findSuspects_129 (by decide +kernel) ?_
      exact h66
set_option maxRecDepth 20000 in
theorem m_X10_findSuspects {l : Launch} {f : Nat → xH → xP → Prop}  {I15 : Nat → xH → xP → xM → xK} {I66 : Nat → xH → xP → xM → xK}
    (v0 : ∀ (a0 : Nat) (A : xH) (P : xP), f a0 A P → k_X10_findSuspects_0 P (xE (I15 a0 A P)) [some (.ref a0), none] [] A)
    (v15 : ∀ (a0 : Nat) (A : xH) (P : xP), f a0 A P → ∀ (μ : xM) (L : xL) (st : List Value) (B : xH), I15 a0 A P μ L st B → k_X10_findSuspects_15 P (xB (I15 a0 A P) μ) (xE (I66 a0 A P)) L st B)
    (v66 : ∀ (a0 : Nat) (A : xH) (P : xP), f a0 A P → ∀ (μ : xM) (L : xL) (st : List Value) (B : xH), I66 a0 A P μ L st B → k_X10_findSuspects_66 P (xB (I66 a0 A P) μ) L st B) : xCon l yX10_findSuspects cX10_findSuspects 2 none 5 136 xN xN 0 xFT xFT (w_R f) := by
  refine xc_R (plainFor_of_name pn_RX10) (by decide +kernel) (fun p e s m args below meth c g a0 A P h X hr _ => ?_)
  have h66 := x_loop1 (p := p) (l := l) (e := e) (R := { frames := 5, cells := 0, slots := 0, locals := 136 }) (s := s) (m := m) (args := args) (below := below) (meth := meth) (c := c) (g := g) (nL := 2) (F := xFT) (n := xN) (cells := 0) (slots := 0) (Q := MQ below (xQc g xFT xN P) args s 0 0 (xFr g)) (I := I66 a0 A P) (pc1 := 66) (fun μ i66 => xAt_mono (t_X10_findSuspects_66 (P := P) X hr i66) (v66 a0 A P h μ))
  have h15 := x_loop1 (p := p) (l := l) (e := e) (R := { frames := 5, cells := 0, slots := 0, locals := 136 }) (s := s) (m := m) (args := args) (below := below) (meth := meth) (c := c) (g := g) (nL := 2) (F := xFT) (n := xN) (cells := 0) (slots := 0) (Q := MQ below (xQc g xFT xN P) args s 0 0 (xFr g)) (I := I15 a0 A P) (pc1 := 15) (fun μ i15 => xAt_mono (t_X10_findSuspects_15 (P := P) X hr i15 h66) (v15 a0 A P h μ))
  exact ⟨_, v0 a0 A P h, t_X10_findSuspects_0 X hr h15⟩
def spS (v : xV) (A : xH) : Prop := ∀ t j, t < 640 → j < 64 → (tl (xl A 54 t) j = true ↔ t % 2 * 64 + j < 80 ∧ suN v (cDe (t / 2 * 80 + t % 2 * 64 + j)))
def sdS (A : xH) (v : xV) : Prop := xi A 52 1 = 0 ∨ (xi A 52 1 = 1 ∧ spS v A)
def SFs (c k : Nat) : Prop := c = 54 ∨ c = 56 ∨ (c = 52 ∧ (k = 1 ∨ k = 8 ∨ k = 9))
theorem twDC_fr {S : Nat → Nat → Prop} {A B : xH} {v : xV} (h : twDC A v) (hf : fr S A B) (hs : ∀ c k, S c k → c ≠ 53 ∧ ¬ (c = 52 ∧ (k = 2 ∨ k = 3))) : twDC B v := by
  have e2 : xi B 52 2 = xi A 52 2 := fr_i hf fun w => by have := hs _ _ w; omega
  have e3 : xi B 52 3 = xi A 52 3 := fr_i hf fun w => by have := hs _ _ w; omega
  obtain ⟨h1, h2, h3, h4⟩ := h
  refine ⟨fun t j ht hj => ?_, by rw [e2]; exact h2, fun w => by rw [e3]; exact h3 w, fun w => by rw [e3]; exact h4 w⟩
  rw [fr_l hf fun w => (hs _ _ w).1 rfl]; exact h1 t j ht hj
def fuP (A : xH) (P : xP) (v : xV) : Prop := ∀ B, fr SFs A B → twDC B v → xi B 52 1 = 1 → spS v B → P none B
def f_X10_findSuspects (q : Nat) (A : xH) (P : xP) : Prop := q = 52 ∧ ∃ v, ctS v A ∧ twDC A v ∧ sdS A v ∧ fuP A P v
def fuG (A B : xH) (P : xP) (v : xV) : Prop := fuP A P v ∧ ctS v B ∧ twDC B v ∧ fr SFs A B ∧ xi B 52 1 = 1
theorem fuG_fr {A B C : xH} {P : xP} {v : xV} (h : fuG A B P v) (hf : fr (fun c k => c = 54 ∨ c = 56 ∨ (c = 52 ∧ (k = 8 ∨ k = 9))) B C) : fuG A C P v := by
  obtain ⟨h1, h2, h3, h4, h5⟩ := h
  exact ⟨h1, ctS_fr h2 hf (by omega), twDC_fr h3 hf (by omega), fr_tr h4 (fr_mono hf (by unfold SFs; omega)), (fr_i hf (by omega)).trans h5⟩
def fu15 (A : xH) (P : xP) : xM → xK := fun μ L st B => ∃ (v : xV) (i : Nat), fuG A B P v ∧ i ≤ 640 ∧ (∀ j, j < i → xl B 54 j = 0) ∧ st = [] ∧ L = [some (.ref 52), some (.int (nI i))] ∧ μ = (640 - i, 0, 0)
def fuS (v : xV) (S : Nat → Prop) (n h : Nat) (B : xH) : Prop := csS 54 S n B ∧ xi B 52 8 = nI h ∧ h ≤ n ∧ (∀ x, x < 25600 → S x → suN v (cDe x)) ∧ (rcN v (1, 1, 1) → S 6481) ∧ ∀ x, x < 25600 → inA B 56 h x → ∀ a, rcN v a → a.1 ≠ 0 → (e0T (stT v) a (cDe x) ∨ e1T (stT v) a (cDe x)) → S (cEn a)
def fu66 (A : xH) (P : xP) : xM → xK := fun μ L st B => ∃ (v : xV) (S : Nat → Prop) (n h : Nat) (i1 : Int32), fuG A B P v ∧ fuS v S n h B ∧ st = [] ∧ L = [some (.ref 52), some (.int i1)] ∧ μ = (30000 - h, 0, 0)
theorem tl_2 {j : Nat} (h : j < 64) : tl 2 j = decide (j = 1) := by
  have key : ∀ j, j < 64 → tl 2 j = decide (j = 1) := by decide +kernel
  exact key j h
theorem cDe_6481 : cDe 6481 = (1, 1, 1) := rfl
set_option maxRecDepth 20000 in
theorem con_X10_findSuspects (l : Launch) : xCon l yX10_findSuspects cX10_findSuspects 2 none 5 136 xN xN 0 xFT xFT (w_R f_X10_findSuspects) := by
  refine m_X10_findSuspects (I15 := fun q A P => fu15 A P) (I66 := fun q A P => fu66 A P) ?_ ?_ ?_
  · rintro q A P ⟨rfl, v, hC, hD, hS, hP⟩
    simp (disch := omega) only [k_X10_findSuspects_0, k_X10_findSuspects_15, k_X10_findSuspects_66, k_X10_findSuspects_132, w_RIII, w_RRIJ, x_aload, x_dup, x_iadd, x_icmp_ge, x_idiv, x_if_eq, x_iinc, x_iload, x_irem, x_istore, x_push, x_vret, y_alen, y_cv3, y_getF, y_getI, y_iald, y_last, y_putI, y_putZ, xFT, xbool0, xbool1, Nat.reduceAdd, Nat.zero_add, xgl_0, xgl_s, xgl_n, xst_0, xst_1n, xst_1i, xst_1r, xst_1l, xst_s, set_0, set_s, true_and, and_true, xres, xcat_nil, xcat_i, xcat_r, xcat_l, Nat.add_zero, xble0, xble1, xble2, xble3, xble4, xble5, xble6, xble7, xble8, pk_mul, nI_add, nI_1, nI_leI, nI_ltI, nI_eq, n_in, n_cl, z_eq, z_lt, z_le, z_gt, z_ge, z_qe, o_eq, o_lt, o_le, o_gt, o_ge, vp0, vp1, cl0, cl1, n_sub, n_sub1, n_pm1, n_a0, n_0a, ofn, lN0, Nat.reduceLT, Nat.reduceLeDiff, Nat.reduceMul, Nat.reduceSub, Nat.reduceEqDiff, ne_eq, true_implies, false_implies, not_true_eq_false, not_false_eq_true, and_self, and_true, true_and, and_false, false_and, implies_true, if_true, if_false, i00, i10, i01, i11, ob_0, ob_1, tn_2, ln_2, ob_3, tn_4, ln_4, ob_5, tn_6, ln_6, tn_7, ln_7, ob_8, tn_9, ln_9, tn_10, ln_10, tn_11, ln_11, tn_12, ln_12, tn_13, ln_13, tn_14, ln_14, tn_15, ln_15, tn_16, ln_16, tn_17, ln_17, ob_18, tn_19, ln_19, tn_20, ln_20, tn_21, ln_21, tn_22, ln_22, tn_23, ln_23, tn_24, ln_24, tn_25, ln_25, tn_26, ln_26, tn_27, ln_27, ob_28, tn_29, ln_29, tn_30, ln_30, ob_31, tn_32, ln_32, tn_33, ln_33, ob_34, ob_35, tn_36, ln_36, tn_37, ln_37, tn_38, ln_38, ob_39, tn_40, ln_40, tn_41, ln_41, tn_42, ln_42, tn_43, ln_43, tn_44, ln_44, tn_45, ln_45, tn_46, ln_46, tn_47, ln_47, tn_48, ln_48, tn_49, ln_49, tn_50, ln_50, tn_51, ln_51, ob_52, tn_53, ln_53, tn_54, ln_54, tn_55, ln_55, tn_56, ln_56, ob_57, tn_58, ln_58, tn_59, ln_59, tn_60, ln_60, tn_61, ln_61, tn_62, ln_62, tn_63, ln_63, tn_64, ln_64, tn_65, ln_65, ob_66, tn_67, ln_67, tn_68, ln_68, tn_69, ln_69, tn_70, ln_70, tn_71, ln_71, tn_72, ln_72, tn_73, ln_73, ob_74, tn_75, ln_75, tn_76, ln_76, tn_77, ln_77, tn_78, ln_78, tn_79, ln_79, tn_80, ln_80, tn_81, ln_81, tn_82, ln_82, tn_83, ln_83, ob_84, tn_85, ln_85, tn_86, ln_86, tn_87, ln_87, tn_88, ln_88, tn_89, ln_89, tn_90, ln_90, tn_91, ln_91, tn_92, ln_92, tn_93, ln_93, ob_94, tn_95, ln_95, tn_96, ln_96, tn_97, ln_97, tn_98, ln_98, tn_99, ln_99, tn_100, ln_100, tn_101, ln_101, tn_102, ln_102, tn_103, ln_103, ob_104, tn_105, ln_105, tn_106, ln_106, tn_107, ln_107, tn_108, ln_108, tn_109, ln_109, tn_110, ln_110, tn_111, ln_111, tn_112, ln_112, tn_113, ln_113, ob_114, tn_115, ln_115, tn_116, ln_116, tn_117, ln_117, tn_118, ln_118, tn_119, ln_119, tn_120, ln_120, tn_121, ln_121, tn_122, ln_122, tn_123, ln_123, ob_124, tn_125, ln_125, tn_126, ln_126, tn_127, ln_127, tn_128, ln_128, tn_129, ln_129, tn_130, ln_130, tn_131, ln_131, tn_132, ln_132, tn_133, ln_133, ob_134, tn_135, ln_135, tn_136, ln_136, tn_137, ln_137, tn_138, ln_138, tn_139, ln_139, tn_140, ln_140, tn_141, ln_141, tn_142, ln_142, tn_143, ln_143, ob_144, tn_145, ln_145, tn_146, ln_146, tn_147, ln_147, tn_148, ln_148, tn_149, ln_149, tn_150, ln_150, tn_151, ln_151, tn_152, ln_152, tn_153, ln_153, ob_154, tn_155, ln_155, tn_156, ln_156, tn_157, ln_157, tn_158, ln_158, tn_159, ln_159, tn_160, ln_160, tn_161, ln_161, tn_162, ln_162, tn_163, ln_163, ob_164, tn_165, ln_165, tn_166, ln_166, ob_167, tn_168, ln_168, tn_169, ln_169, tn_170, ln_170, tn_171, ln_171, tn_172, ln_172, tn_173, ln_173, tn_174, ln_174, tn_175, ln_175, tn_176, ln_176, ob_177, tn_178, ln_178, tn_179, ln_179, ob_180, tn_181, ln_181, tn_182, ln_182, tn_183, ln_183, tn_184, ln_184, tn_185, ln_185, tn_186, ln_186, tn_187, ln_187, tn_188, ln_188, tn_189, ln_189, tn_190, ln_190, tn_191, ln_191, tn_192, ln_192, tn_193, ln_193, tn_194, ln_194, tn_195, ln_195, tn_196, ln_196, tn_197, ln_197, tn_198, ln_198, tn_199, ln_199, tn_200, ln_200, tn_201, ln_201, tn_202, ln_202, tn_203, ln_203, tn_204, ln_204, tn_205, ln_205, tn_206, ln_206, tn_207, ln_207, tn_208, ln_208, tn_209, ln_209, tn_210, ln_210, tn_211, ln_211, tn_212, ln_212, tn_213, ln_213, tn_214, ln_214, tn_215, ln_215, tn_216, ln_216, tn_217, ln_217, tn_218, ln_218, tn_219, ln_219, tn_220, ln_220, tn_221, ln_221, tn_222, ln_222, tn_223, ln_223, tn_224, ln_224, tn_225, ln_225, tn_226, ln_226, tn_227, ln_227, tn_228, ln_228, tn_229, ln_229, tn_230, ln_230, lx2, lx3, lx4, lx5, lx6, lx7, lx8, lx9, lx10, lx14, lx15, lx16, lx18, lx20, lx24, lx25, lx27, lx32, lx36, lx40, lx41, lx42, lx43, lx45, lx48, lx52, lx54, lx56, lx57, lx58, lx60, lx61, lx62, lx63, lx64, lx66, lx69, lx73, lx80, lx81, lx84, lx85, lx87, lx94, lx96, lx97, lx120, lx128, lx135, lx160, lx162, lx163, lx165, lx200, lx232, lx242, lx243, lx255, lx256, lx320, lx325, lx400, lx405, lx464, lx512, lx600, lx640, lx752, lx900, lx940, lx1000, lx1024, lx1764, lx3360, lx3840, lx5000, lx6400, lx9050, lx9998, lx9999, lx10000, lx25600, lx76800, lx99999, si_ne, si_eq, sl_ne, sl_eq, xl_si, xi_sl, sA_ne, sA_eq, xl_sA]
    refine ⟨fun z => ?_, fun z => ?_⟩
    · have f1 : fr (fun c k => c = 52 ∧ k = 1) A (xsi A 52 1 1) := fr_si fr_rf ⟨rfl, rfl⟩
      exact xE0 (640 - 0, 0, 0) ⟨v, 0, ⟨hP, ctS_fr hC f1 (by omega), twDC_fr hD f1 (by omega), fr_mono f1 (by unfold SFs; omega), si_eq⟩, Nat.zero_le _, fun j hj => absurd hj (Nat.not_lt_zero j), rfl, rfl, rfl⟩
    · rcases hS with w | ⟨w1, w2⟩
      · exact absurd w z
      · exact hP A fr_rf hD w1 w2
  · rintro q A P - μ L st B ⟨v, i, hG, hi, hz, rfl, rfl, rfl⟩
    have hD := hG.2.2.1
    simp (disch := omega) only [k_X10_findSuspects_0, k_X10_findSuspects_15, k_X10_findSuspects_66, k_X10_findSuspects_132, w_RIII, w_RRIJ, x_aload, x_dup, x_iadd, x_icmp_ge, x_idiv, x_if_eq, x_iinc, x_iload, x_irem, x_istore, x_push, x_vret, y_alen, y_cv3, y_getF, y_getI, y_iald, y_last, y_putI, y_putZ, xFT, xbool0, xbool1, Nat.reduceAdd, Nat.zero_add, xgl_0, xgl_s, xgl_n, xst_0, xst_1n, xst_1i, xst_1r, xst_1l, xst_s, set_0, set_s, true_and, and_true, xres, xcat_nil, xcat_i, xcat_r, xcat_l, Nat.add_zero, xble0, xble1, xble2, xble3, xble4, xble5, xble6, xble7, xble8, pk_mul, nI_add, nI_1, nI_leI, nI_ltI, nI_eq, n_in, n_cl, z_eq, z_lt, z_le, z_gt, z_ge, z_qe, o_eq, o_lt, o_le, o_gt, o_ge, vp0, vp1, cl0, cl1, n_sub, n_sub1, n_pm1, n_a0, n_0a, ofn, lN0, Nat.reduceLT, Nat.reduceLeDiff, Nat.reduceMul, Nat.reduceSub, Nat.reduceEqDiff, ne_eq, true_implies, false_implies, not_true_eq_false, not_false_eq_true, and_self, and_true, true_and, and_false, false_and, implies_true, if_true, if_false, i00, i10, i01, i11, ob_0, ob_1, tn_2, ln_2, ob_3, tn_4, ln_4, ob_5, tn_6, ln_6, tn_7, ln_7, ob_8, tn_9, ln_9, tn_10, ln_10, tn_11, ln_11, tn_12, ln_12, tn_13, ln_13, tn_14, ln_14, tn_15, ln_15, tn_16, ln_16, tn_17, ln_17, ob_18, tn_19, ln_19, tn_20, ln_20, tn_21, ln_21, tn_22, ln_22, tn_23, ln_23, tn_24, ln_24, tn_25, ln_25, tn_26, ln_26, tn_27, ln_27, ob_28, tn_29, ln_29, tn_30, ln_30, ob_31, tn_32, ln_32, tn_33, ln_33, ob_34, ob_35, tn_36, ln_36, tn_37, ln_37, tn_38, ln_38, ob_39, tn_40, ln_40, tn_41, ln_41, tn_42, ln_42, tn_43, ln_43, tn_44, ln_44, tn_45, ln_45, tn_46, ln_46, tn_47, ln_47, tn_48, ln_48, tn_49, ln_49, tn_50, ln_50, tn_51, ln_51, ob_52, tn_53, ln_53, tn_54, ln_54, tn_55, ln_55, tn_56, ln_56, ob_57, tn_58, ln_58, tn_59, ln_59, tn_60, ln_60, tn_61, ln_61, tn_62, ln_62, tn_63, ln_63, tn_64, ln_64, tn_65, ln_65, ob_66, tn_67, ln_67, tn_68, ln_68, tn_69, ln_69, tn_70, ln_70, tn_71, ln_71, tn_72, ln_72, tn_73, ln_73, ob_74, tn_75, ln_75, tn_76, ln_76, tn_77, ln_77, tn_78, ln_78, tn_79, ln_79, tn_80, ln_80, tn_81, ln_81, tn_82, ln_82, tn_83, ln_83, ob_84, tn_85, ln_85, tn_86, ln_86, tn_87, ln_87, tn_88, ln_88, tn_89, ln_89, tn_90, ln_90, tn_91, ln_91, tn_92, ln_92, tn_93, ln_93, ob_94, tn_95, ln_95, tn_96, ln_96, tn_97, ln_97, tn_98, ln_98, tn_99, ln_99, tn_100, ln_100, tn_101, ln_101, tn_102, ln_102, tn_103, ln_103, ob_104, tn_105, ln_105, tn_106, ln_106, tn_107, ln_107, tn_108, ln_108, tn_109, ln_109, tn_110, ln_110, tn_111, ln_111, tn_112, ln_112, tn_113, ln_113, ob_114, tn_115, ln_115, tn_116, ln_116, tn_117, ln_117, tn_118, ln_118, tn_119, ln_119, tn_120, ln_120, tn_121, ln_121, tn_122, ln_122, tn_123, ln_123, ob_124, tn_125, ln_125, tn_126, ln_126, tn_127, ln_127, tn_128, ln_128, tn_129, ln_129, tn_130, ln_130, tn_131, ln_131, tn_132, ln_132, tn_133, ln_133, ob_134, tn_135, ln_135, tn_136, ln_136, tn_137, ln_137, tn_138, ln_138, tn_139, ln_139, tn_140, ln_140, tn_141, ln_141, tn_142, ln_142, tn_143, ln_143, ob_144, tn_145, ln_145, tn_146, ln_146, tn_147, ln_147, tn_148, ln_148, tn_149, ln_149, tn_150, ln_150, tn_151, ln_151, tn_152, ln_152, tn_153, ln_153, ob_154, tn_155, ln_155, tn_156, ln_156, tn_157, ln_157, tn_158, ln_158, tn_159, ln_159, tn_160, ln_160, tn_161, ln_161, tn_162, ln_162, tn_163, ln_163, ob_164, tn_165, ln_165, tn_166, ln_166, ob_167, tn_168, ln_168, tn_169, ln_169, tn_170, ln_170, tn_171, ln_171, tn_172, ln_172, tn_173, ln_173, tn_174, ln_174, tn_175, ln_175, tn_176, ln_176, ob_177, tn_178, ln_178, tn_179, ln_179, ob_180, tn_181, ln_181, tn_182, ln_182, tn_183, ln_183, tn_184, ln_184, tn_185, ln_185, tn_186, ln_186, tn_187, ln_187, tn_188, ln_188, tn_189, ln_189, tn_190, ln_190, tn_191, ln_191, tn_192, ln_192, tn_193, ln_193, tn_194, ln_194, tn_195, ln_195, tn_196, ln_196, tn_197, ln_197, tn_198, ln_198, tn_199, ln_199, tn_200, ln_200, tn_201, ln_201, tn_202, ln_202, tn_203, ln_203, tn_204, ln_204, tn_205, ln_205, tn_206, ln_206, tn_207, ln_207, tn_208, ln_208, tn_209, ln_209, tn_210, ln_210, tn_211, ln_211, tn_212, ln_212, tn_213, ln_213, tn_214, ln_214, tn_215, ln_215, tn_216, ln_216, tn_217, ln_217, tn_218, ln_218, tn_219, ln_219, tn_220, ln_220, tn_221, ln_221, tn_222, ln_222, tn_223, ln_223, tn_224, ln_224, tn_225, ln_225, tn_226, ln_226, tn_227, ln_227, tn_228, ln_228, tn_229, ln_229, tn_230, ln_230, lx2, lx3, lx4, lx5, lx6, lx7, lx8, lx9, lx10, lx14, lx15, lx16, lx18, lx20, lx24, lx25, lx27, lx32, lx36, lx40, lx41, lx42, lx43, lx45, lx48, lx52, lx54, lx56, lx57, lx58, lx60, lx61, lx62, lx63, lx64, lx66, lx69, lx73, lx80, lx81, lx84, lx85, lx87, lx94, lx96, lx97, lx120, lx128, lx135, lx160, lx162, lx163, lx165, lx200, lx232, lx242, lx243, lx255, lx256, lx320, lx325, lx400, lx405, lx464, lx512, lx600, lx640, lx752, lx900, lx940, lx1000, lx1024, lx1764, lx3360, lx3840, lx5000, lx6400, lx9050, lx9998, lx9999, lx10000, lx25600, lx76800, lx99999, si_ne, si_eq, sl_ne, sl_eq, xl_si, xi_sl, sA_ne, sA_eq, xl_sA, hD.2.1, bI_t]
    have rM : rchC v 6481 ↔ rcN v (1, 1, 1) := Iff.rfl
    refine ⟨fun z => ?_, fun z => ⟨by omega, ?_⟩⟩
    · have e640 : i = 640 := by omega
      subst e640
      have f1 : fr (fun c k => c = 52 ∧ (k = 8 ∨ k = 9)) B (xsi (xsi B 52 8 0) 52 9 0) := fr_si (fr_si fr_rf (by omega)) (by omega)
      have m0 : ∀ x, ¬ inA (xsi (xsi B 52 8 0) 52 9 0) 56 0 x := fun x ⟨k, hk, _⟩ => Nat.not_lt_zero k hk
      have c0 : csS 54 (fun _ => False) 0 (xsi (xsi B 52 8 0) 52 9 0) := ⟨okA_0 _ _, si_eq, fun x _ => ⟨fun w => m0 x w, False.elim⟩, fun t j ht hj => by
        rw [fr_l f1 (by omega), hz t ht, tl_0]
        exact ⟨fun w => (by cases w), fun w => w.2.elim⟩⟩
      have gC := fuG_fr hG (fr_mono f1 (by omega))
      refine ⟨fun w => ?_, fun w => ?_⟩
      · have nr : ¬ rcN v (1, 1, 1) := fun q => by
          rw [bt_t (rM.mpr q)] at w; cases w
        exact xE0 (30000 - 0, 0, 0) ⟨v, _, 0, 0, _, gC, ⟨c0, by rw [si_ne (by omega)]; exact si_eq, Nat.le_refl _, fun x _ w => w.elim, fun q => absurd q nr, fun x _ w => absurd w (m0 x)⟩, rfl, rfl, rfl⟩
      · have yr : rcN v (1, 1, 1) := rM.mp (Classical.byContradiction fun q => w (bt_f q))
        refine ⟨rfl, Or.inr rfl, _, 0, 162, rfl, by omega, c0, fun j hj q => ?_, fun C n1 hC h1 h2 h3 => ?_⟩
        · omega
        have e1 : ∀ m, m < 25600 → (False ∨ enV 162 2 m ↔ m = 6481) := fun m hm => by
          have := Nat.mod_lt m (show 80 > 0 by omega)
          unfold enV
          constructor
          · rintro (w | ⟨a, b, c⟩)
            · exact w.elim
            · rw [tl_2 (Nat.mod_lt _ (by omega)), decide_eq_true_eq] at c
              omega
          · intro e
            subst e
            exact Or.inr ⟨by decide, by decide, by decide +kernel⟩
        simp (disch := omega) only [k_X10_findSuspects_0, k_X10_findSuspects_15, k_X10_findSuspects_66, k_X10_findSuspects_132, w_RIII, w_RRIJ, x_aload, x_dup, x_iadd, x_icmp_ge, x_idiv, x_if_eq, x_iinc, x_iload, x_irem, x_istore, x_push, x_vret, y_alen, y_cv3, y_getF, y_getI, y_iald, y_last, y_putI, y_putZ, xFT, xbool0, xbool1, Nat.reduceAdd, Nat.zero_add, xgl_0, xgl_s, xgl_n, xst_0, xst_1n, xst_1i, xst_1r, xst_1l, xst_s, set_0, set_s, true_and, and_true, xres, xcat_nil, xcat_i, xcat_r, xcat_l, Nat.add_zero, xble0, xble1, xble2, xble3, xble4, xble5, xble6, xble7, xble8, pk_mul, nI_add, nI_1, nI_leI, nI_ltI, nI_eq, n_in, n_cl, z_eq, z_lt, z_le, z_gt, z_ge, z_qe, o_eq, o_lt, o_le, o_gt, o_ge, vp0, vp1, cl0, cl1, n_sub, n_sub1, n_pm1, n_a0, n_0a, ofn, lN0, Nat.reduceLT, Nat.reduceLeDiff, Nat.reduceMul, Nat.reduceSub, Nat.reduceEqDiff, ne_eq, true_implies, false_implies, not_true_eq_false, not_false_eq_true, and_self, and_true, true_and, and_false, false_and, implies_true, if_true, if_false, i00, i10, i01, i11, ob_0, ob_1, tn_2, ln_2, ob_3, tn_4, ln_4, ob_5, tn_6, ln_6, tn_7, ln_7, ob_8, tn_9, ln_9, tn_10, ln_10, tn_11, ln_11, tn_12, ln_12, tn_13, ln_13, tn_14, ln_14, tn_15, ln_15, tn_16, ln_16, tn_17, ln_17, ob_18, tn_19, ln_19, tn_20, ln_20, tn_21, ln_21, tn_22, ln_22, tn_23, ln_23, tn_24, ln_24, tn_25, ln_25, tn_26, ln_26, tn_27, ln_27, ob_28, tn_29, ln_29, tn_30, ln_30, ob_31, tn_32, ln_32, tn_33, ln_33, ob_34, ob_35, tn_36, ln_36, tn_37, ln_37, tn_38, ln_38, ob_39, tn_40, ln_40, tn_41, ln_41, tn_42, ln_42, tn_43, ln_43, tn_44, ln_44, tn_45, ln_45, tn_46, ln_46, tn_47, ln_47, tn_48, ln_48, tn_49, ln_49, tn_50, ln_50, tn_51, ln_51, ob_52, tn_53, ln_53, tn_54, ln_54, tn_55, ln_55, tn_56, ln_56, ob_57, tn_58, ln_58, tn_59, ln_59, tn_60, ln_60, tn_61, ln_61, tn_62, ln_62, tn_63, ln_63, tn_64, ln_64, tn_65, ln_65, ob_66, tn_67, ln_67, tn_68, ln_68, tn_69, ln_69, tn_70, ln_70, tn_71, ln_71, tn_72, ln_72, tn_73, ln_73, ob_74, tn_75, ln_75, tn_76, ln_76, tn_77, ln_77, tn_78, ln_78, tn_79, ln_79, tn_80, ln_80, tn_81, ln_81, tn_82, ln_82, tn_83, ln_83, ob_84, tn_85, ln_85, tn_86, ln_86, tn_87, ln_87, tn_88, ln_88, tn_89, ln_89, tn_90, ln_90, tn_91, ln_91, tn_92, ln_92, tn_93, ln_93, ob_94, tn_95, ln_95, tn_96, ln_96, tn_97, ln_97, tn_98, ln_98, tn_99, ln_99, tn_100, ln_100, tn_101, ln_101, tn_102, ln_102, tn_103, ln_103, ob_104, tn_105, ln_105, tn_106, ln_106, tn_107, ln_107, tn_108, ln_108, tn_109, ln_109, tn_110, ln_110, tn_111, ln_111, tn_112, ln_112, tn_113, ln_113, ob_114, tn_115, ln_115, tn_116, ln_116, tn_117, ln_117, tn_118, ln_118, tn_119, ln_119, tn_120, ln_120, tn_121, ln_121, tn_122, ln_122, tn_123, ln_123, ob_124, tn_125, ln_125, tn_126, ln_126, tn_127, ln_127, tn_128, ln_128, tn_129, ln_129, tn_130, ln_130, tn_131, ln_131, tn_132, ln_132, tn_133, ln_133, ob_134, tn_135, ln_135, tn_136, ln_136, tn_137, ln_137, tn_138, ln_138, tn_139, ln_139, tn_140, ln_140, tn_141, ln_141, tn_142, ln_142, tn_143, ln_143, ob_144, tn_145, ln_145, tn_146, ln_146, tn_147, ln_147, tn_148, ln_148, tn_149, ln_149, tn_150, ln_150, tn_151, ln_151, tn_152, ln_152, tn_153, ln_153, ob_154, tn_155, ln_155, tn_156, ln_156, tn_157, ln_157, tn_158, ln_158, tn_159, ln_159, tn_160, ln_160, tn_161, ln_161, tn_162, ln_162, tn_163, ln_163, ob_164, tn_165, ln_165, tn_166, ln_166, ob_167, tn_168, ln_168, tn_169, ln_169, tn_170, ln_170, tn_171, ln_171, tn_172, ln_172, tn_173, ln_173, tn_174, ln_174, tn_175, ln_175, tn_176, ln_176, ob_177, tn_178, ln_178, tn_179, ln_179, ob_180, tn_181, ln_181, tn_182, ln_182, tn_183, ln_183, tn_184, ln_184, tn_185, ln_185, tn_186, ln_186, tn_187, ln_187, tn_188, ln_188, tn_189, ln_189, tn_190, ln_190, tn_191, ln_191, tn_192, ln_192, tn_193, ln_193, tn_194, ln_194, tn_195, ln_195, tn_196, ln_196, tn_197, ln_197, tn_198, ln_198, tn_199, ln_199, tn_200, ln_200, tn_201, ln_201, tn_202, ln_202, tn_203, ln_203, tn_204, ln_204, tn_205, ln_205, tn_206, ln_206, tn_207, ln_207, tn_208, ln_208, tn_209, ln_209, tn_210, ln_210, tn_211, ln_211, tn_212, ln_212, tn_213, ln_213, tn_214, ln_214, tn_215, ln_215, tn_216, ln_216, tn_217, ln_217, tn_218, ln_218, tn_219, ln_219, tn_220, ln_220, tn_221, ln_221, tn_222, ln_222, tn_223, ln_223, tn_224, ln_224, tn_225, ln_225, tn_226, ln_226, tn_227, ln_227, tn_228, ln_228, tn_229, ln_229, tn_230, ln_230, lx2, lx3, lx4, lx5, lx6, lx7, lx8, lx9, lx10, lx14, lx15, lx16, lx18, lx20, lx24, lx25, lx27, lx32, lx36, lx40, lx41, lx42, lx43, lx45, lx48, lx52, lx54, lx56, lx57, lx58, lx60, lx61, lx62, lx63, lx64, lx66, lx69, lx73, lx80, lx81, lx84, lx85, lx87, lx94, lx96, lx97, lx120, lx128, lx135, lx160, lx162, lx163, lx165, lx200, lx232, lx242, lx243, lx255, lx256, lx320, lx325, lx400, lx405, lx464, lx512, lx600, lx640, lx752, lx900, lx940, lx1000, lx1024, lx1764, lx3360, lx3840, lx5000, lx6400, lx9050, lx9998, lx9999, lx10000, lx25600, lx76800, lx99999, si_ne, si_eq, sl_ne, sl_eq, xl_si, xi_sl, sA_ne, sA_eq, xl_sA]
        have fC := fuG_fr gC (fr_mono hC (by unfold SEn; omega))
        refine xE0 (30000 - 0, 0, 0) ⟨v, fun m => m = 6481, n1, 0, _, fC, ⟨csS_congr h3 e1, ?_, by omega, fun x _ w => ?_, fun _ => rfl, fun x _ ⟨k, hk, _⟩ => absurd hk (Nat.not_lt_zero k)⟩, rfl, rfl, rfl⟩
        · rw [fr_i hC (by unfold SEn; omega), si_ne (by omega)]; exact si_eq
        · subst w; exact suN_meet yr
    · refine xB1 (b := 640 - (i + 1)) (by omega) ⟨v, i + 1, fuG_fr hG (fr_sl fr_rf (by omega)), by omega, fun j hj => ?_, rfl, rfl, rfl⟩
      by_cases e : j = i
      · subst e; rw [sl_eq]; rfl
      · rw [sl_ne (by omega)]; exact hz j (by omega)
  · rintro q A P - μ L st B ⟨v, S, n, h, i1, hG, hS, rfl, rfl, rfl⟩
    obtain ⟨hR, h8, hn, hso, hme, hcl⟩ := hS
    have h80 := hG.2.1.2
    have hnl := okA_le hR.1
    simp (disch := omega) only [k_X10_findSuspects_0, k_X10_findSuspects_15, k_X10_findSuspects_66, k_X10_findSuspects_132, w_RIII, w_RRIJ, x_aload, x_dup, x_iadd, x_icmp_ge, x_idiv, x_if_eq, x_iinc, x_iload, x_irem, x_istore, x_push, x_vret, y_alen, y_cv3, y_getF, y_getI, y_iald, y_last, y_putI, y_putZ, xFT, xbool0, xbool1, Nat.reduceAdd, Nat.zero_add, xgl_0, xgl_s, xgl_n, xst_0, xst_1n, xst_1i, xst_1r, xst_1l, xst_s, set_0, set_s, true_and, and_true, xres, xcat_nil, xcat_i, xcat_r, xcat_l, Nat.add_zero, xble0, xble1, xble2, xble3, xble4, xble5, xble6, xble7, xble8, pk_mul, nI_add, nI_1, nI_leI, nI_ltI, nI_eq, n_in, n_cl, z_eq, z_lt, z_le, z_gt, z_ge, z_qe, o_eq, o_lt, o_le, o_gt, o_ge, vp0, vp1, cl0, cl1, n_sub, n_sub1, n_pm1, n_a0, n_0a, ofn, lN0, Nat.reduceLT, Nat.reduceLeDiff, Nat.reduceMul, Nat.reduceSub, Nat.reduceEqDiff, ne_eq, true_implies, false_implies, not_true_eq_false, not_false_eq_true, and_self, and_true, true_and, and_false, false_and, implies_true, if_true, if_false, i00, i10, i01, i11, ob_0, ob_1, tn_2, ln_2, ob_3, tn_4, ln_4, ob_5, tn_6, ln_6, tn_7, ln_7, ob_8, tn_9, ln_9, tn_10, ln_10, tn_11, ln_11, tn_12, ln_12, tn_13, ln_13, tn_14, ln_14, tn_15, ln_15, tn_16, ln_16, tn_17, ln_17, ob_18, tn_19, ln_19, tn_20, ln_20, tn_21, ln_21, tn_22, ln_22, tn_23, ln_23, tn_24, ln_24, tn_25, ln_25, tn_26, ln_26, tn_27, ln_27, ob_28, tn_29, ln_29, tn_30, ln_30, ob_31, tn_32, ln_32, tn_33, ln_33, ob_34, ob_35, tn_36, ln_36, tn_37, ln_37, tn_38, ln_38, ob_39, tn_40, ln_40, tn_41, ln_41, tn_42, ln_42, tn_43, ln_43, tn_44, ln_44, tn_45, ln_45, tn_46, ln_46, tn_47, ln_47, tn_48, ln_48, tn_49, ln_49, tn_50, ln_50, tn_51, ln_51, ob_52, tn_53, ln_53, tn_54, ln_54, tn_55, ln_55, tn_56, ln_56, ob_57, tn_58, ln_58, tn_59, ln_59, tn_60, ln_60, tn_61, ln_61, tn_62, ln_62, tn_63, ln_63, tn_64, ln_64, tn_65, ln_65, ob_66, tn_67, ln_67, tn_68, ln_68, tn_69, ln_69, tn_70, ln_70, tn_71, ln_71, tn_72, ln_72, tn_73, ln_73, ob_74, tn_75, ln_75, tn_76, ln_76, tn_77, ln_77, tn_78, ln_78, tn_79, ln_79, tn_80, ln_80, tn_81, ln_81, tn_82, ln_82, tn_83, ln_83, ob_84, tn_85, ln_85, tn_86, ln_86, tn_87, ln_87, tn_88, ln_88, tn_89, ln_89, tn_90, ln_90, tn_91, ln_91, tn_92, ln_92, tn_93, ln_93, ob_94, tn_95, ln_95, tn_96, ln_96, tn_97, ln_97, tn_98, ln_98, tn_99, ln_99, tn_100, ln_100, tn_101, ln_101, tn_102, ln_102, tn_103, ln_103, ob_104, tn_105, ln_105, tn_106, ln_106, tn_107, ln_107, tn_108, ln_108, tn_109, ln_109, tn_110, ln_110, tn_111, ln_111, tn_112, ln_112, tn_113, ln_113, ob_114, tn_115, ln_115, tn_116, ln_116, tn_117, ln_117, tn_118, ln_118, tn_119, ln_119, tn_120, ln_120, tn_121, ln_121, tn_122, ln_122, tn_123, ln_123, ob_124, tn_125, ln_125, tn_126, ln_126, tn_127, ln_127, tn_128, ln_128, tn_129, ln_129, tn_130, ln_130, tn_131, ln_131, tn_132, ln_132, tn_133, ln_133, ob_134, tn_135, ln_135, tn_136, ln_136, tn_137, ln_137, tn_138, ln_138, tn_139, ln_139, tn_140, ln_140, tn_141, ln_141, tn_142, ln_142, tn_143, ln_143, ob_144, tn_145, ln_145, tn_146, ln_146, tn_147, ln_147, tn_148, ln_148, tn_149, ln_149, tn_150, ln_150, tn_151, ln_151, tn_152, ln_152, tn_153, ln_153, ob_154, tn_155, ln_155, tn_156, ln_156, tn_157, ln_157, tn_158, ln_158, tn_159, ln_159, tn_160, ln_160, tn_161, ln_161, tn_162, ln_162, tn_163, ln_163, ob_164, tn_165, ln_165, tn_166, ln_166, ob_167, tn_168, ln_168, tn_169, ln_169, tn_170, ln_170, tn_171, ln_171, tn_172, ln_172, tn_173, ln_173, tn_174, ln_174, tn_175, ln_175, tn_176, ln_176, ob_177, tn_178, ln_178, tn_179, ln_179, ob_180, tn_181, ln_181, tn_182, ln_182, tn_183, ln_183, tn_184, ln_184, tn_185, ln_185, tn_186, ln_186, tn_187, ln_187, tn_188, ln_188, tn_189, ln_189, tn_190, ln_190, tn_191, ln_191, tn_192, ln_192, tn_193, ln_193, tn_194, ln_194, tn_195, ln_195, tn_196, ln_196, tn_197, ln_197, tn_198, ln_198, tn_199, ln_199, tn_200, ln_200, tn_201, ln_201, tn_202, ln_202, tn_203, ln_203, tn_204, ln_204, tn_205, ln_205, tn_206, ln_206, tn_207, ln_207, tn_208, ln_208, tn_209, ln_209, tn_210, ln_210, tn_211, ln_211, tn_212, ln_212, tn_213, ln_213, tn_214, ln_214, tn_215, ln_215, tn_216, ln_216, tn_217, ln_217, tn_218, ln_218, tn_219, ln_219, tn_220, ln_220, tn_221, ln_221, tn_222, ln_222, tn_223, ln_223, tn_224, ln_224, tn_225, ln_225, tn_226, ln_226, tn_227, ln_227, tn_228, ln_228, tn_229, ln_229, tn_230, ln_230, lx2, lx3, lx4, lx5, lx6, lx7, lx8, lx9, lx10, lx14, lx15, lx16, lx18, lx20, lx24, lx25, lx27, lx32, lx36, lx40, lx41, lx42, lx43, lx45, lx48, lx52, lx54, lx56, lx57, lx58, lx60, lx61, lx62, lx63, lx64, lx66, lx69, lx73, lx80, lx81, lx84, lx85, lx87, lx94, lx96, lx97, lx120, lx128, lx135, lx160, lx162, lx163, lx165, lx200, lx232, lx242, lx243, lx255, lx256, lx320, lx325, lx400, lx405, lx464, lx512, lx600, lx640, lx752, lx900, lx940, lx1000, lx1024, lx1764, lx3360, lx3840, lx5000, lx6400, lx9050, lx9998, lx9999, lx10000, lx25600, lx76800, lx99999, si_ne, si_eq, sl_ne, sl_eq, xl_si, xi_sl, sA_ne, sA_eq, xl_sA, h8, hR.2.1]
    refine ⟨fun z => ?_, fun z => ⟨fun z2 => absurd z2 (by omega), fun _ => ⟨by omega, ?_⟩⟩⟩
    · have e : h = n := by omega
      subst e
      refine hG.1 B hG.2.2.2.1 hG.2.2.1 hG.2.2.2.2 fun t j ht hj => ?_
      rw [hR.2.2.2 t j ht hj]
      have key : ∀ x, x < 25600 → suN v (cDe x) → S x := fun x hx w => by
        have := w (fun n => S (cEn n)) hme fun a b ha h0 e hb => ?_
        · rw [cEn_De] at this; exact this
        · have hN := rcN_N h80 (rcN_e ha e)
          exact hcl _ (cEn_lt hN) ((hR.2.2.1 _ (cEn_lt hN)).mpr hb) a ha h0 (by rw [cDe_En hN]; exact e)
      constructor
      · rintro ⟨a, b⟩; exact ⟨a, hso _ (by omega) b⟩
      · rintro ⟨a, b⟩; exact ⟨a, key _ (by omega) b⟩
    · obtain ⟨t, ht, et⟩ := hR.1.1 h (by omega)
      have hin : inA B 56 n t := ⟨h, by omega, et⟩
      have st := hso t ht ((hR.2.2.1 t ht).mp hin)
      obtain ⟨s0, d, rd⟩ := suN_rc st
      have pt := rc_pl rd
      have p0 : t / 6400 ≠ 0 := s0
      have p1 : t / 6400 < 4 := pt.1
      have p2 : t / 80 % 80 < (plL v).length := pt.2.1
      have p3 : t % 80 < (plL v).length := pt.2.2
      have f1 : fr (fun c k => c = 52 ∧ k = 8) B (xsi B 52 8 (nI (h + 1))) := fr_si fr_rf ⟨rfl, rfl⟩
      have gC := fuG_fr hG (fr_mono f1 (by omega))
      have c8 : xi (xsi B 52 8 (nI (h + 1))) 52 8 = nI (h + 1) := si_eq
      have hR' := csS_fr hR f1 (by omega)
      have e56' : ∀ k, xi (xsi B 52 8 (nI (h + 1))) 56 k = xi B 56 k := fun k => si_ne (by omega)
      rw [et]
      simp (disch := omega) only [pk_mul, nI_add, nI_1, nI_leI, nI_ltI, nI_eq, n_in, n_cl, z_eq, z_lt, z_le, z_gt, z_ge, z_qe, o_eq, o_lt, o_le, o_gt, o_ge, vp0, vp1, cl0, cl1, n_sub, n_sub1, n_pm1, n_a0, n_0a, ofn, lN0, Nat.reduceLT, Nat.reduceLeDiff, Nat.reduceMul, Nat.reduceSub, Nat.reduceEqDiff, ne_eq, true_implies, false_implies, not_true_eq_false, not_false_eq_true, and_self, and_true, true_and, and_false, false_and, implies_true, if_true, if_false, i00, i10, i01, i11, ob_0, ob_1, tn_2, ln_2, ob_3, tn_4, ln_4, ob_5, tn_6, ln_6, tn_7, ln_7, ob_8, tn_9, ln_9, tn_10, ln_10, tn_11, ln_11, tn_12, ln_12, tn_13, ln_13, tn_14, ln_14, tn_15, ln_15, tn_16, ln_16, tn_17, ln_17, ob_18, tn_19, ln_19, tn_20, ln_20, tn_21, ln_21, tn_22, ln_22, tn_23, ln_23, tn_24, ln_24, tn_25, ln_25, tn_26, ln_26, tn_27, ln_27, ob_28, tn_29, ln_29, tn_30, ln_30, ob_31, tn_32, ln_32, tn_33, ln_33, ob_34, ob_35, tn_36, ln_36, tn_37, ln_37, tn_38, ln_38, ob_39, tn_40, ln_40, tn_41, ln_41, tn_42, ln_42, tn_43, ln_43, tn_44, ln_44, tn_45, ln_45, tn_46, ln_46, tn_47, ln_47, tn_48, ln_48, tn_49, ln_49, tn_50, ln_50, tn_51, ln_51, ob_52, tn_53, ln_53, tn_54, ln_54, tn_55, ln_55, tn_56, ln_56, ob_57, tn_58, ln_58, tn_59, ln_59, tn_60, ln_60, tn_61, ln_61, tn_62, ln_62, tn_63, ln_63, tn_64, ln_64, tn_65, ln_65, ob_66, tn_67, ln_67, tn_68, ln_68, tn_69, ln_69, tn_70, ln_70, tn_71, ln_71, tn_72, ln_72, tn_73, ln_73, ob_74, tn_75, ln_75, tn_76, ln_76, tn_77, ln_77, tn_78, ln_78, tn_79, ln_79, tn_80, ln_80, tn_81, ln_81, tn_82, ln_82, tn_83, ln_83, ob_84, tn_85, ln_85, tn_86, ln_86, tn_87, ln_87, tn_88, ln_88, tn_89, ln_89, tn_90, ln_90, tn_91, ln_91, tn_92, ln_92, tn_93, ln_93, ob_94, tn_95, ln_95, tn_96, ln_96, tn_97, ln_97, tn_98, ln_98, tn_99, ln_99, tn_100, ln_100, tn_101, ln_101, tn_102, ln_102, tn_103, ln_103, ob_104, tn_105, ln_105, tn_106, ln_106, tn_107, ln_107, tn_108, ln_108, tn_109, ln_109, tn_110, ln_110, tn_111, ln_111, tn_112, ln_112, tn_113, ln_113, ob_114, tn_115, ln_115, tn_116, ln_116, tn_117, ln_117, tn_118, ln_118, tn_119, ln_119, tn_120, ln_120, tn_121, ln_121, tn_122, ln_122, tn_123, ln_123, ob_124, tn_125, ln_125, tn_126, ln_126, tn_127, ln_127, tn_128, ln_128, tn_129, ln_129, tn_130, ln_130, tn_131, ln_131, tn_132, ln_132, tn_133, ln_133, ob_134, tn_135, ln_135, tn_136, ln_136, tn_137, ln_137, tn_138, ln_138, tn_139, ln_139, tn_140, ln_140, tn_141, ln_141, tn_142, ln_142, tn_143, ln_143, ob_144, tn_145, ln_145, tn_146, ln_146, tn_147, ln_147, tn_148, ln_148, tn_149, ln_149, tn_150, ln_150, tn_151, ln_151, tn_152, ln_152, tn_153, ln_153, ob_154, tn_155, ln_155, tn_156, ln_156, tn_157, ln_157, tn_158, ln_158, tn_159, ln_159, tn_160, ln_160, tn_161, ln_161, tn_162, ln_162, tn_163, ln_163, ob_164, tn_165, ln_165, tn_166, ln_166, ob_167, tn_168, ln_168, tn_169, ln_169, tn_170, ln_170, tn_171, ln_171, tn_172, ln_172, tn_173, ln_173, tn_174, ln_174, tn_175, ln_175, tn_176, ln_176, ob_177, tn_178, ln_178, tn_179, ln_179, ob_180, tn_181, ln_181, tn_182, ln_182, tn_183, ln_183, tn_184, ln_184, tn_185, ln_185, tn_186, ln_186, tn_187, ln_187, tn_188, ln_188, tn_189, ln_189, tn_190, ln_190, tn_191, ln_191, tn_192, ln_192, tn_193, ln_193, tn_194, ln_194, tn_195, ln_195, tn_196, ln_196, tn_197, ln_197, tn_198, ln_198, tn_199, ln_199, tn_200, ln_200, tn_201, ln_201, tn_202, ln_202, tn_203, ln_203, tn_204, ln_204, tn_205, ln_205, tn_206, ln_206, tn_207, ln_207, tn_208, ln_208, tn_209, ln_209, tn_210, ln_210, tn_211, ln_211, tn_212, ln_212, tn_213, ln_213, tn_214, ln_214, tn_215, ln_215, tn_216, ln_216, tn_217, ln_217, tn_218, ln_218, tn_219, ln_219, tn_220, ln_220, tn_221, ln_221, tn_222, ln_222, tn_223, ln_223, tn_224, ln_224, tn_225, ln_225, tn_226, ln_226, tn_227, ln_227, tn_228, ln_228, tn_229, ln_229, tn_230, ln_230, lx2, lx3, lx4, lx5, lx6, lx7, lx8, lx9, lx10, lx14, lx15, lx16, lx18, lx20, lx24, lx25, lx27, lx32, lx36, lx40, lx41, lx42, lx43, lx45, lx48, lx52, lx54, lx56, lx57, lx58, lx60, lx61, lx62, lx63, lx64, lx66, lx69, lx73, lx80, lx81, lx84, lx85, lx87, lx94, lx96, lx97, lx120, lx128, lx135, lx160, lx162, lx163, lx165, lx200, lx232, lx242, lx243, lx255, lx256, lx320, lx325, lx400, lx405, lx464, lx512, lx600, lx640, lx752, lx900, lx940, lx1000, lx1024, lx1764, lx3360, lx3840, lx5000, lx6400, lx9050, lx9998, lx9999, lx10000, lx25600, lx76800, lx99999, pk_div]
      rw [show t / 80 - t / 80 / 80 * 80 = t / 80 % 80 by omega, show t - t / 80 * 80 = t % 80 by omega]
      generalize xsi B 52 8 (nI (h + 1)) = C at *
      refine ⟨rfl, v, S, n, t / 6400, t / 80 % 80, t % 80, rfl, rfl, rfl, ⟨p1, p0, p2, p3, gC.2.1, gC.2.2.1.1, fun E n2 hE e1 e2 e3 => ?_, fr_rf, Nat.le_refl _, fun _ _ => rfl⟩, hR'⟩
      simp (disch := omega) only [k_X10_findSuspects_0, k_X10_findSuspects_15, k_X10_findSuspects_66, k_X10_findSuspects_132, w_RIII, w_RRIJ, x_aload, x_dup, x_iadd, x_icmp_ge, x_idiv, x_if_eq, x_iinc, x_iload, x_irem, x_istore, x_push, x_vret, y_alen, y_cv3, y_getF, y_getI, y_iald, y_last, y_putI, y_putZ, xFT, xbool0, xbool1, Nat.reduceAdd, Nat.zero_add, xgl_0, xgl_s, xgl_n, xst_0, xst_1n, xst_1i, xst_1r, xst_1l, xst_s, set_0, set_s, true_and, and_true, xres, xcat_nil, xcat_i, xcat_r, xcat_l, Nat.add_zero, xble0, xble1, xble2, xble3, xble4, xble5, xble6, xble7, xble8, pk_mul, nI_add, nI_1, nI_leI, nI_ltI, nI_eq, n_in, n_cl, z_eq, z_lt, z_le, z_gt, z_ge, z_qe, o_eq, o_lt, o_le, o_gt, o_ge, vp0, vp1, cl0, cl1, n_sub, n_sub1, n_pm1, n_a0, n_0a, ofn, lN0, Nat.reduceLT, Nat.reduceLeDiff, Nat.reduceMul, Nat.reduceSub, Nat.reduceEqDiff, ne_eq, true_implies, false_implies, not_true_eq_false, not_false_eq_true, and_self, and_true, true_and, and_false, false_and, implies_true, if_true, if_false, i00, i10, i01, i11, ob_0, ob_1, tn_2, ln_2, ob_3, tn_4, ln_4, ob_5, tn_6, ln_6, tn_7, ln_7, ob_8, tn_9, ln_9, tn_10, ln_10, tn_11, ln_11, tn_12, ln_12, tn_13, ln_13, tn_14, ln_14, tn_15, ln_15, tn_16, ln_16, tn_17, ln_17, ob_18, tn_19, ln_19, tn_20, ln_20, tn_21, ln_21, tn_22, ln_22, tn_23, ln_23, tn_24, ln_24, tn_25, ln_25, tn_26, ln_26, tn_27, ln_27, ob_28, tn_29, ln_29, tn_30, ln_30, ob_31, tn_32, ln_32, tn_33, ln_33, ob_34, ob_35, tn_36, ln_36, tn_37, ln_37, tn_38, ln_38, ob_39, tn_40, ln_40, tn_41, ln_41, tn_42, ln_42, tn_43, ln_43, tn_44, ln_44, tn_45, ln_45, tn_46, ln_46, tn_47, ln_47, tn_48, ln_48, tn_49, ln_49, tn_50, ln_50, tn_51, ln_51, ob_52, tn_53, ln_53, tn_54, ln_54, tn_55, ln_55, tn_56, ln_56, ob_57, tn_58, ln_58, tn_59, ln_59, tn_60, ln_60, tn_61, ln_61, tn_62, ln_62, tn_63, ln_63, tn_64, ln_64, tn_65, ln_65, ob_66, tn_67, ln_67, tn_68, ln_68, tn_69, ln_69, tn_70, ln_70, tn_71, ln_71, tn_72, ln_72, tn_73, ln_73, ob_74, tn_75, ln_75, tn_76, ln_76, tn_77, ln_77, tn_78, ln_78, tn_79, ln_79, tn_80, ln_80, tn_81, ln_81, tn_82, ln_82, tn_83, ln_83, ob_84, tn_85, ln_85, tn_86, ln_86, tn_87, ln_87, tn_88, ln_88, tn_89, ln_89, tn_90, ln_90, tn_91, ln_91, tn_92, ln_92, tn_93, ln_93, ob_94, tn_95, ln_95, tn_96, ln_96, tn_97, ln_97, tn_98, ln_98, tn_99, ln_99, tn_100, ln_100, tn_101, ln_101, tn_102, ln_102, tn_103, ln_103, ob_104, tn_105, ln_105, tn_106, ln_106, tn_107, ln_107, tn_108, ln_108, tn_109, ln_109, tn_110, ln_110, tn_111, ln_111, tn_112, ln_112, tn_113, ln_113, ob_114, tn_115, ln_115, tn_116, ln_116, tn_117, ln_117, tn_118, ln_118, tn_119, ln_119, tn_120, ln_120, tn_121, ln_121, tn_122, ln_122, tn_123, ln_123, ob_124, tn_125, ln_125, tn_126, ln_126, tn_127, ln_127, tn_128, ln_128, tn_129, ln_129, tn_130, ln_130, tn_131, ln_131, tn_132, ln_132, tn_133, ln_133, ob_134, tn_135, ln_135, tn_136, ln_136, tn_137, ln_137, tn_138, ln_138, tn_139, ln_139, tn_140, ln_140, tn_141, ln_141, tn_142, ln_142, tn_143, ln_143, ob_144, tn_145, ln_145, tn_146, ln_146, tn_147, ln_147, tn_148, ln_148, tn_149, ln_149, tn_150, ln_150, tn_151, ln_151, tn_152, ln_152, tn_153, ln_153, ob_154, tn_155, ln_155, tn_156, ln_156, tn_157, ln_157, tn_158, ln_158, tn_159, ln_159, tn_160, ln_160, tn_161, ln_161, tn_162, ln_162, tn_163, ln_163, ob_164, tn_165, ln_165, tn_166, ln_166, ob_167, tn_168, ln_168, tn_169, ln_169, tn_170, ln_170, tn_171, ln_171, tn_172, ln_172, tn_173, ln_173, tn_174, ln_174, tn_175, ln_175, tn_176, ln_176, ob_177, tn_178, ln_178, tn_179, ln_179, ob_180, tn_181, ln_181, tn_182, ln_182, tn_183, ln_183, tn_184, ln_184, tn_185, ln_185, tn_186, ln_186, tn_187, ln_187, tn_188, ln_188, tn_189, ln_189, tn_190, ln_190, tn_191, ln_191, tn_192, ln_192, tn_193, ln_193, tn_194, ln_194, tn_195, ln_195, tn_196, ln_196, tn_197, ln_197, tn_198, ln_198, tn_199, ln_199, tn_200, ln_200, tn_201, ln_201, tn_202, ln_202, tn_203, ln_203, tn_204, ln_204, tn_205, ln_205, tn_206, ln_206, tn_207, ln_207, tn_208, ln_208, tn_209, ln_209, tn_210, ln_210, tn_211, ln_211, tn_212, ln_212, tn_213, ln_213, tn_214, ln_214, tn_215, ln_215, tn_216, ln_216, tn_217, ln_217, tn_218, ln_218, tn_219, ln_219, tn_220, ln_220, tn_221, ln_221, tn_222, ln_222, tn_223, ln_223, tn_224, ln_224, tn_225, ln_225, tn_226, ln_226, tn_227, ln_227, tn_228, ln_228, tn_229, ln_229, tn_230, ln_230, lx2, lx3, lx4, lx5, lx6, lx7, lx8, lx9, lx10, lx14, lx15, lx16, lx18, lx20, lx24, lx25, lx27, lx32, lx36, lx40, lx41, lx42, lx43, lx45, lx48, lx52, lx54, lx56, lx57, lx58, lx60, lx61, lx62, lx63, lx64, lx66, lx69, lx73, lx80, lx81, lx84, lx85, lx87, lx94, lx96, lx97, lx120, lx128, lx135, lx160, lx162, lx163, lx165, lx200, lx232, lx242, lx243, lx255, lx256, lx320, lx325, lx400, lx405, lx464, lx512, lx600, lx640, lx752, lx900, lx940, lx1000, lx1024, lx1764, lx3360, lx3840, lx5000, lx6400, lx9050, lx9998, lx9999, lx10000, lx25600, lx76800, lx99999, si_ne, si_eq, sl_ne, sl_eq, xl_si, xi_sl, sA_ne, sA_eq, xl_sA]
      have gE := fuG_fr gC (fr_mono hE (by unfold SEn; omega))
      have e56 : ∀ k, k < n → xi E 56 k = xi B 56 k := fun k hk => (e2 k hk).trans (e56' k)
      have inE : ∀ x, x < 25600 → (inA E 56 (h + 1) x ↔ inA B 56 h x ∨ x = t) := fun x hx => inA_push ht hx (fun k hk => e56 k (by omega)) (by rw [e56 h (by omega)]; exact et)
      refine xB1 (b := 30000 - (h + 1)) (by omega) ⟨v, _, n2, h + 1, _, gE, ⟨e3, by rw [fr_i hE (by unfold SEn; omega)]; exact c8, by omega, fun x hx w => ?_, fun w => Or.inl (hme w), fun x hx w a ha h0 e => ?_⟩, rfl, rfl, rfl⟩
      · rcases w with w | ⟨w1, w2, w3⟩
        · exact hso x hx w
        · exact suN_step w1 w2 w3 st
      · rcases (inE x hx).mp w with w | w
        · exact Or.inl (hcl x hx w a ha h0 e)
        · subst w
          refine Or.inr ⟨?_, ?_, ?_⟩
          · rw [cDe_En (rcN_N h80 ha)]; exact ha
          · have hN := rcN_N h80 ha
            have := congrArg Prod.fst (cDe_En hN)
            have h5 : cEn a / 6400 = a.1 := this
            rw [h5]; exact h0
          · rw [cDe_En (rcN_N h80 ha)]; exact e

