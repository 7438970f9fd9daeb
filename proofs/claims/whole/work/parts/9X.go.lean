/-! ===== the class goes on from a pair ===== -/
theorem d_X10_goBySigns_0 : decode cX10_goBySigns 0 = .ok (.aload_n 0, 1) := by decide +kernel
theorem d_X10_goBySigns_1 : decode cX10_goBySigns 1 = .ok (.getfield 25, 3) := by decide +kernel
theorem d_X10_goBySigns_4 : decode cX10_goBySigns 4 = .ok (.getfield 76, 3) := by decide +kernel
theorem d_X10_goBySigns_7 : decode cX10_goBySigns 7 = .ok (.iload_n 2, 1) := by decide +kernel
theorem d_X10_goBySigns_8 : decode cX10_goBySigns 8 = .ok (.baload, 1) := by decide +kernel
theorem d_X10_goBySigns_9 : decode cX10_goBySigns 9 = .ok (.ifCond .eq 15, 3) := by decide +kernel
theorem d_X10_goBySigns_12 : decode cX10_goBySigns 12 = .ok (.aload_n 0, 1) := by decide +kernel
theorem d_X10_goBySigns_13 : decode cX10_goBySigns 13 = .ok (.getfield 25, 3) := by decide +kernel
theorem d_X10_goBySigns_16 : decode cX10_goBySigns 16 = .ok (.getfield 76, 3) := by decide +kernel
theorem d_X10_goBySigns_19 : decode cX10_goBySigns 19 = .ok (.iload_n 3, 1) := by decide +kernel
theorem d_X10_goBySigns_20 : decode cX10_goBySigns 20 = .ok (.baload, 1) := by decide +kernel
theorem d_X10_goBySigns_21 : decode cX10_goBySigns 21 = .ok (.ifCond .ne 4, 3) := by decide +kernel
theorem d_X10_goBySigns_24 : decode cX10_goBySigns 24 = .ok (.return_, 1) := by decide +kernel
theorem d_X10_goBySigns_25 : decode cX10_goBySigns 25 = .ok (.iconst 0, 1) := by decide +kernel
theorem d_X10_goBySigns_26 : decode cX10_goBySigns 26 = .ok (.istore 4, 2) := by decide +kernel
theorem d_X10_goBySigns_28 : decode cX10_goBySigns 28 = .ok (.iload 4, 2) := by decide +kernel
theorem d_X10_goBySigns_30 : decode cX10_goBySigns 30 = .ok (.iconst 4, 1) := by decide +kernel
theorem d_X10_goBySigns_31 : decode cX10_goBySigns 31 = .ok (.if_icmp .ge 110, 3) := by decide +kernel
theorem d_X10_goBySigns_34 : decode cX10_goBySigns 34 = .ok (.iload_n 2, 1) := by decide +kernel
theorem d_X10_goBySigns_35 : decode cX10_goBySigns 35 = .ok (.bipush 24, 2) := by decide +kernel
theorem d_X10_goBySigns_37 : decode cX10_goBySigns 37 = .ok (.imul, 1) := by decide +kernel
theorem d_X10_goBySigns_38 : decode cX10_goBySigns 38 = .ok (.iload 4, 2) := by decide +kernel
theorem d_X10_goBySigns_40 : decode cX10_goBySigns 40 = .ok (.iadd, 1) := by decide +kernel
theorem d_X10_goBySigns_41 : decode cX10_goBySigns 41 = .ok (.iconst 2, 1) := by decide +kernel
theorem d_X10_goBySigns_42 : decode cX10_goBySigns 42 = .ok (.imul, 1) := by decide +kernel
theorem d_X10_goBySigns_43 : decode cX10_goBySigns 43 = .ok (.istore 5, 2) := by decide +kernel
theorem d_X10_goBySigns_45 : decode cX10_goBySigns 45 = .ok (.iload_n 3, 1) := by decide +kernel
theorem d_X10_goBySigns_46 : decode cX10_goBySigns 46 = .ok (.bipush 24, 2) := by decide +kernel
theorem d_X10_goBySigns_48 : decode cX10_goBySigns 48 = .ok (.imul, 1) := by decide +kernel
theorem d_X10_goBySigns_49 : decode cX10_goBySigns 49 = .ok (.iload 4, 2) := by decide +kernel
theorem d_X10_goBySigns_51 : decode cX10_goBySigns 51 = .ok (.iadd, 1) := by decide +kernel
theorem d_X10_goBySigns_52 : decode cX10_goBySigns 52 = .ok (.iconst 2, 1) := by decide +kernel
theorem d_X10_goBySigns_53 : decode cX10_goBySigns 53 = .ok (.imul, 1) := by decide +kernel
theorem d_X10_goBySigns_54 : decode cX10_goBySigns 54 = .ok (.istore 6, 2) := by decide +kernel
theorem d_X10_goBySigns_56 : decode cX10_goBySigns 56 = .ok (.aload_n 0, 1) := by decide +kernel
theorem d_X10_goBySigns_57 : decode cX10_goBySigns 57 = .ok (.getfield 25, 3) := by decide +kernel
theorem d_X10_goBySigns_60 : decode cX10_goBySigns 60 = .ok (.getfield 88, 3) := by decide +kernel
theorem d_X10_goBySigns_63 : decode cX10_goBySigns 63 = .ok (.iload 6, 2) := by decide +kernel
theorem d_X10_goBySigns_65 : decode cX10_goBySigns 65 = .ok (.laload, 1) := by decide +kernel
theorem d_X10_goBySigns_66 : decode cX10_goBySigns 66 = .ok (.lstore 7, 2) := by decide +kernel
theorem d_X10_goBySigns_68 : decode cX10_goBySigns 68 = .ok (.aload_n 0, 1) := by decide +kernel
theorem d_X10_goBySigns_69 : decode cX10_goBySigns 69 = .ok (.getfield 25, 3) := by decide +kernel
theorem d_X10_goBySigns_72 : decode cX10_goBySigns 72 = .ok (.getfield 88, 3) := by decide +kernel
theorem d_X10_goBySigns_75 : decode cX10_goBySigns 75 = .ok (.iload 6, 2) := by decide +kernel
theorem d_X10_goBySigns_77 : decode cX10_goBySigns 77 = .ok (.iconst 1, 1) := by decide +kernel
theorem d_X10_goBySigns_78 : decode cX10_goBySigns 78 = .ok (.iadd, 1) := by decide +kernel
theorem d_X10_goBySigns_79 : decode cX10_goBySigns 79 = .ok (.laload, 1) := by decide +kernel
theorem d_X10_goBySigns_80 : decode cX10_goBySigns 80 = .ok (.lstore 9, 2) := by decide +kernel
theorem d_X10_goBySigns_82 : decode cX10_goBySigns 82 = .ok (.lload 7, 2) := by decide +kernel
theorem d_X10_goBySigns_84 : decode cX10_goBySigns 84 = .ok (.lload 9, 2) := by decide +kernel
theorem d_X10_goBySigns_86 : decode cX10_goBySigns 86 = .ok (.lor, 1) := by decide +kernel
theorem d_X10_goBySigns_87 : decode cX10_goBySigns 87 = .ok (.lconst 0, 1) := by decide +kernel
theorem d_X10_goBySigns_88 : decode cX10_goBySigns 88 = .ok (.lcmp, 1) := by decide +kernel
theorem d_X10_goBySigns_89 : decode cX10_goBySigns 89 = .ok (.ifCond .eq 46, 3) := by decide +kernel
theorem d_X10_goBySigns_92 : decode cX10_goBySigns 92 = .ok (.aload_n 0, 1) := by decide +kernel
theorem d_X10_goBySigns_93 : decode cX10_goBySigns 93 = .ok (.iload_n 1, 1) := by decide +kernel
theorem d_X10_goBySigns_94 : decode cX10_goBySigns 94 = .ok (.aload_n 0, 1) := by decide +kernel
theorem d_X10_goBySigns_95 : decode cX10_goBySigns 95 = .ok (.getfield 25, 3) := by decide +kernel
theorem d_X10_goBySigns_98 : decode cX10_goBySigns 98 = .ok (.getfield 88, 3) := by decide +kernel
theorem d_X10_goBySigns_101 : decode cX10_goBySigns 101 = .ok (.iload 5, 2) := by decide +kernel
theorem d_X10_goBySigns_103 : decode cX10_goBySigns 103 = .ok (.laload, 1) := by decide +kernel
theorem d_X10_goBySigns_104 : decode cX10_goBySigns 104 = .ok (.iconst 0, 1) := by decide +kernel
theorem d_X10_goBySigns_105 : decode cX10_goBySigns 105 = .ok (.lload 7, 2) := by decide +kernel
theorem d_X10_goBySigns_107 : decode cX10_goBySigns 107 = .ok (.lload 9, 2) := by decide +kernel
theorem d_X10_goBySigns_109 : decode cX10_goBySigns 109 = .ok (.invokevirtual 91, 3) := by decide +kernel
theorem d_X10_goBySigns_112 : decode cX10_goBySigns 112 = .ok (.aload_n 0, 1) := by decide +kernel
theorem d_X10_goBySigns_113 : decode cX10_goBySigns 113 = .ok (.iload_n 1, 1) := by decide +kernel
theorem d_X10_goBySigns_114 : decode cX10_goBySigns 114 = .ok (.aload_n 0, 1) := by decide +kernel
theorem d_X10_goBySigns_115 : decode cX10_goBySigns 115 = .ok (.getfield 25, 3) := by decide +kernel
theorem d_X10_goBySigns_118 : decode cX10_goBySigns 118 = .ok (.getfield 88, 3) := by decide +kernel
theorem d_X10_goBySigns_121 : decode cX10_goBySigns 121 = .ok (.iload 5, 2) := by decide +kernel
theorem d_X10_goBySigns_123 : decode cX10_goBySigns 123 = .ok (.iconst 1, 1) := by decide +kernel
theorem d_X10_goBySigns_124 : decode cX10_goBySigns 124 = .ok (.iadd, 1) := by decide +kernel
theorem d_X10_goBySigns_125 : decode cX10_goBySigns 125 = .ok (.laload, 1) := by decide +kernel
theorem d_X10_goBySigns_126 : decode cX10_goBySigns 126 = .ok (.bipush 64, 2) := by decide +kernel
theorem d_X10_goBySigns_128 : decode cX10_goBySigns 128 = .ok (.lload 7, 2) := by decide +kernel
theorem d_X10_goBySigns_130 : decode cX10_goBySigns 130 = .ok (.lload 9, 2) := by decide +kernel
theorem d_X10_goBySigns_132 : decode cX10_goBySigns 132 = .ok (.invokevirtual 91, 3) := by decide +kernel
theorem d_X10_goBySigns_135 : decode cX10_goBySigns 135 = .ok (.iinc 4 1, 3) := by decide +kernel
theorem d_X10_goBySigns_138 : decode cX10_goBySigns 138 = .ok (.goto (-110), 3) := by decide +kernel
theorem d_X10_goBySigns_141 : decode cX10_goBySigns 141 = .ok (.return_, 1) := by decide +kernel
def k_X10_goBySigns_24 (P : xP) : xK := x_vret P
set_option maxRecDepth 20000 in
theorem t_X10_goBySigns_24 {p : Program} {l : Launch} {e : Env} {s : State} {m : MethodId} {args : Array Value} {below : List Frame} {meth : Method} {c : Code} {g : xG} (X : xX p s m args c meth cX10_goBySigns RX10 11 g) (hr : meth.sig.returnType = none) {P : xP} : xAt p l e { frames := 2, cells := 0, slots := 0, locals := 53 } s m args below meth c g 11 xFT xN 0 0 (MQ below (xQc g xFT xN P) args s 0 0 (xFr g)) (k_X10_goBySigns_24 P) 24 := by
  unfold k_X10_goBySigns_24
  exact r_vret (pc := 24) X hr d_X10_goBySigns_24
def k_X10_goBySigns_0 (P : xP) (C28 : xK) : xK := x_aload 0 (y_getF 52 39 (y_getF 39 46 (x_iload 2 (y_iald 46 80 (x_if_eq ((k_X10_goBySigns_24 P)) (x_aload 0 (y_getF 52 39 (y_getF 39 46 (x_iload 3 (y_iald 46 80 (x_if_ne (x_push (.int 0) (x_istore 4 (C28))) ((k_X10_goBySigns_24 P)))))))))))))
set_option maxRecDepth 20000 in
theorem t_X10_goBySigns_0 {p : Program} {l : Launch} {e : Env} {s : State} {m : MethodId} {args : Array Value} {below : List Frame} {meth : Method} {c : Code} {g : xG} (X : xX p s m args c meth cX10_goBySigns RX10 11 g) (hr : meth.sig.returnType = none) {P : xP} {C28 : xK} (h28 : xAt p l e { frames := 2, cells := 0, slots := 0, locals := 53 } s m args below meth c g 11 xFT xN 0 0 (MQ below (xQc g xFT xN P) args s 0 0 (xFr g)) C28 28) : xAt p l e { frames := 2, cells := 0, slots := 0, locals := 53 } s m args below meth c g 11 xFT xN 0 0 (MQ below (xQc g xFT xN P) args s 0 0 (xFr g)) (k_X10_goBySigns_0 P C28) 0 := by
  unfold k_X10_goBySigns_0
  refine r_aload_n (pc := 0) X d_X10_goBySigns_0 fn0 ?_
  refine s_getF (pc := 1) (ci := 10) (k := 10) X xok10 (by decide +kernel) ob_52 trivial ly_52_10 (by decide +kernel) fl_RX10_25 d_X10_goBySigns_1 ?_
  refine s_getF (pc := 4) (ci := 7) (k := 9) X xok7 (by decide +kernel) ob_39 trivial ly_39_9 (by decide +kernel) fl_RX10_76 d_X10_goBySigns_4 ?_
  refine r_iload_n (pc := 7) X d_X10_goBySigns_7 fn2 ?_
  refine s_zald (pc := 8) X tn_46 ln_46 d_X10_goBySigns_8 ?_
  refine r_if_eq (pc := 9) (tgt := 24) X d_X10_goBySigns_9 (by decide +kernel) ?_ ?_
  · exact t_X10_goBySigns_24 X hr
  · refine r_aload_n (pc := 12) X d_X10_goBySigns_12 fn0 ?_
    refine s_getF (pc := 13) (ci := 10) (k := 10) X xok10 (by decide +kernel) ob_52 trivial ly_52_10 (by decide +kernel) fl_RX10_25 d_X10_goBySigns_13 ?_
    refine s_getF (pc := 16) (ci := 7) (k := 9) X xok7 (by decide +kernel) ob_39 trivial ly_39_9 (by decide +kernel) fl_RX10_76 d_X10_goBySigns_16 ?_
    refine r_iload_n (pc := 19) X d_X10_goBySigns_19 fn3 ?_
    refine s_zald (pc := 20) X tn_46 ln_46 d_X10_goBySigns_20 ?_
    refine r_if_ne (pc := 21) (tgt := 25) X d_X10_goBySigns_21 (by decide +kernel) ?_ ?_
    · refine r_iconst (pc := 25) X d_X10_goBySigns_25 (by decide +kernel) ?_
      refine r_istore (pc := 26) X d_X10_goBySigns_26 (by decide +kernel) ?_
      exact h28
    · exact t_X10_goBySigns_24 X hr
def k_X10_goBySigns_135 (P : xP) (C28 : xK) : xK := x_iinc 4 1 (C28)
set_option maxRecDepth 20000 in
theorem t_X10_goBySigns_135 {p : Program} {l : Launch} {e : Env} {s : State} {m : MethodId} {args : Array Value} {below : List Frame} {meth : Method} {c : Code} {g : xG} (X : xX p s m args c meth cX10_goBySigns RX10 11 g) (hr : meth.sig.returnType = none) {P : xP} {C28 : xK} (h28 : xAt p l e { frames := 2, cells := 0, slots := 0, locals := 53 } s m args below meth c g 11 xFT xN 0 0 (MQ below (xQc g xFT xN P) args s 0 0 (xFr g)) C28 28) : xAt p l e { frames := 2, cells := 0, slots := 0, locals := 53 } s m args below meth c g 11 xFT xN 0 0 (MQ below (xQc g xFT xN P) args s 0 0 (xFr g)) (k_X10_goBySigns_135 P C28) 135 := by
  unfold k_X10_goBySigns_135
  refine r_iinc (pc := 135) X d_X10_goBySigns_135 (by decide +kernel) (by decide +kernel) ?_
  refine r_goto (pc := 138) (tgt := 28) X d_X10_goBySigns_138 (by decide +kernel) ?_
  exact h28
def k_X10_goBySigns_28 (P : xP) (C28 : xK) : xK := x_iload 4 (x_push (.int 4) (x_icmp_ge (x_vret P) (x_iload 2 (x_push (.int 24) (x_imul (x_iload 4 (x_iadd (x_push (.int 2) (x_imul (x_istore 5 (x_iload 3 (x_push (.int 24) (x_imul (x_iload 4 (x_iadd (x_push (.int 2) (x_imul (x_istore 6 (x_aload 0 (y_getF 52 39 (y_getF 39 42 (x_iload 6 (y_lald 42 3840 (x_lstore 7 (x_aload 0 (y_getF 52 39 (y_getF 39 42 (x_iload 6 (x_push (.int 1) (x_iadd (y_lald 42 3840 (x_lstore 9 (x_lload 7 (x_lload 9 (x_lor (x_push (.long 0) (x_lcmp (x_if_eq ((k_X10_goBySigns_135 P C28)) (x_aload 0 (x_iload 1 (x_aload 0 (y_getF 52 39 (y_getF 39 42 (x_iload 5 (y_lald 42 3840 (x_push (.int 0) (x_lload 7 (x_lload 9 (y_cv5 52 (w_RIJIJJ f_X10_leaveBeyond) (x_aload 0 (x_iload 1 (x_aload 0 (y_getF 52 39 (y_getF 39 42 (x_iload 5 (x_push (.int 1) (x_iadd (y_lald 42 3840 (x_push (.int 64) (x_lload 7 (x_lload 9 (y_cv5 52 (w_RIJIJJ f_X10_leaveBeyond) ((k_X10_goBySigns_135 P C28))))))))))))))))))))))))))))))))))))))))))))))))))))))))))))))))
set_option maxRecDepth 20000 in
theorem t_X10_goBySigns_28 {p : Program} {l : Launch} {e : Env} {s : State} {m : MethodId} {args : Array Value} {below : List Frame} {meth : Method} {c : Code} {g : xG} (X : xX p s m args c meth cX10_goBySigns RX10 11 g) (hr : meth.sig.returnType = none) {P : xP} {C28 : xK} (h28 : xAt p l e { frames := 2, cells := 0, slots := 0, locals := 53 } s m args below meth c g 11 xFT xN 0 0 (MQ below (xQc g xFT xN P) args s 0 0 (xFr g)) C28 28) : xAt p l e { frames := 2, cells := 0, slots := 0, locals := 53 } s m args below meth c g 11 xFT xN 0 0 (MQ below (xQc g xFT xN P) args s 0 0 (xFr g)) (k_X10_goBySigns_28 P C28) 28 := by
  unfold k_X10_goBySigns_28
  refine r_iload (pc := 28) X d_X10_goBySigns_28 ?_
  refine r_iconst (pc := 30) X d_X10_goBySigns_30 (by decide +kernel) ?_
  refine r_icmp_ge (pc := 31) (tgt := 141) X d_X10_goBySigns_31 (by decide +kernel) ?_ ?_
  · exact r_vret (pc := 141) X hr d_X10_goBySigns_141
  · refine r_iload_n (pc := 34) X d_X10_goBySigns_34 fn2 ?_
    refine r_bipush (pc := 35) X d_X10_goBySigns_35 (by decide +kernel) ?_
    refine r_imul (pc := 37) X d_X10_goBySigns_37 ?_
    refine r_iload (pc := 38) X d_X10_goBySigns_38 ?_
    refine r_iadd (pc := 40) X d_X10_goBySigns_40 ?_
    refine r_iconst (pc := 41) X d_X10_goBySigns_41 (by decide +kernel) ?_
    refine r_imul (pc := 42) X d_X10_goBySigns_42 ?_
    refine r_istore (pc := 43) X d_X10_goBySigns_43 (by decide +kernel) ?_
    refine r_iload_n (pc := 45) X d_X10_goBySigns_45 fn3 ?_
    refine r_bipush (pc := 46) X d_X10_goBySigns_46 (by decide +kernel) ?_
    refine r_imul (pc := 48) X d_X10_goBySigns_48 ?_
    refine r_iload (pc := 49) X d_X10_goBySigns_49 ?_
    refine r_iadd (pc := 51) X d_X10_goBySigns_51 ?_
    refine r_iconst (pc := 52) X d_X10_goBySigns_52 (by decide +kernel) ?_
    refine r_imul (pc := 53) X d_X10_goBySigns_53 ?_
    refine r_istore (pc := 54) X d_X10_goBySigns_54 (by decide +kernel) ?_
    refine r_aload_n (pc := 56) X d_X10_goBySigns_56 fn0 ?_
    refine s_getF (pc := 57) (ci := 10) (k := 10) X xok10 (by decide +kernel) ob_52 trivial ly_52_10 (by decide +kernel) fl_RX10_25 d_X10_goBySigns_57 ?_
    refine s_getF (pc := 60) (ci := 7) (k := 5) X xok7 (by decide +kernel) ob_39 trivial ly_39_5 (by decide +kernel) fl_RX10_88 d_X10_goBySigns_60 ?_
    refine r_iload (pc := 63) X d_X10_goBySigns_63 ?_
    refine s_lald (pc := 65) X tn_42 ln_42 d_X10_goBySigns_65 ?_
    refine r_lstore (pc := 66) X d_X10_goBySigns_66 (by decide +kernel) ?_
    refine r_aload_n (pc := 68) X d_X10_goBySigns_68 fn0 ?_
    refine s_getF (pc := 69) (ci := 10) (k := 10) X xok10 (by decide +kernel) ob_52 trivial ly_52_10 (by decide +kernel) fl_RX10_25 d_X10_goBySigns_69 ?_
    refine s_getF (pc := 72) (ci := 7) (k := 5) X xok7 (by decide +kernel) ob_39 trivial ly_39_5 (by decide +kernel) fl_RX10_88 d_X10_goBySigns_72 ?_
    refine r_iload (pc := 75) X d_X10_goBySigns_75 ?_
    refine r_iconst (pc := 77) X d_X10_goBySigns_77 (by decide +kernel) ?_
    refine r_iadd (pc := 78) X d_X10_goBySigns_78 ?_
    refine s_lald (pc := 79) X tn_42 ln_42 d_X10_goBySigns_79 ?_
    refine r_lstore (pc := 80) X d_X10_goBySigns_80 (by decide +kernel) ?_
    refine r_lload (pc := 82) X d_X10_goBySigns_82 ?_
    refine r_lload (pc := 84) X d_X10_goBySigns_84 ?_
    refine r_lor (pc := 86) X d_X10_goBySigns_86 ?_
    refine r_lconst (pc := 87) X d_X10_goBySigns_87 (by decide +kernel) ?_
    refine r_lcmp (pc := 88) X d_X10_goBySigns_88 ?_
    refine r_if_eq (pc := 89) (tgt := 135) X d_X10_goBySigns_89 (by decide +kernel) ?_ ?_
    · exact t_X10_goBySigns_135 X hr h28
    · refine r_aload_n (pc := 92) X d_X10_goBySigns_92 fn0 ?_
      refine r_iload_n (pc := 93) X d_X10_goBySigns_93 fn1 ?_
      refine r_aload_n (pc := 94) X d_X10_goBySigns_94 fn0 ?_
      refine s_getF (pc := 95) (ci := 10) (k := 10) X xok10 (by decide +kernel) ob_52 trivial ly_52_10 (by decide +kernel) fl_RX10_25 d_X10_goBySigns_95 ?_
      refine s_getF (pc := 98) (ci := 7) (k := 5) X xok7 (by decide +kernel) ob_39 trivial ly_39_5 (by decide +kernel) fl_RX10_88 d_X10_goBySigns_98 ?_
      refine r_iload (pc := 101) X d_X10_goBySigns_101 ?_
      refine s_lald (pc := 103) X tn_42 ln_42 d_X10_goBySigns_103 ?_
      refine r_iconst (pc := 104) X d_X10_goBySigns_104 (by decide +kernel) ?_
      refine r_lload (pc := 105) X d_X10_goBySigns_105 ?_
      refine r_lload (pc := 107) X d_X10_goBySigns_107 ?_
      refine s_cv5 (pc := 109) (ci := 10) X xok10 (by decide +kernel) ob_52 rfl (con_X10_leaveBeyond l) mf_X10_leaveBeyond ml_RX10_91 (by decide +kernel) (by decide +kernel) d_X10_goBySigns_109 ?_
      refine r_aload_n (pc := 112) X d_X10_goBySigns_112 fn0 ?_
      refine r_iload_n (pc := 113) X d_X10_goBySigns_113 fn1 ?_
      refine r_aload_n (pc := 114) X d_X10_goBySigns_114 fn0 ?_
      refine s_getF (pc := 115) (ci := 10) (k := 10) X xok10 (by decide +kernel) ob_52 trivial ly_52_10 (by decide +kernel) fl_RX10_25 d_X10_goBySigns_115 ?_
      refine s_getF (pc := 118) (ci := 7) (k := 5) X xok7 (by decide +kernel) ob_39 trivial ly_39_5 (by decide +kernel) fl_RX10_88 d_X10_goBySigns_118 ?_
      refine r_iload (pc := 121) X d_X10_goBySigns_121 ?_
      refine r_iconst (pc := 123) X d_X10_goBySigns_123 (by decide +kernel) ?_
      refine r_iadd (pc := 124) X d_X10_goBySigns_124 ?_
      refine s_lald (pc := 125) X tn_42 ln_42 d_X10_goBySigns_125 ?_
      refine r_bipush (pc := 126) X d_X10_goBySigns_126 (by decide +kernel) ?_
      refine r_lload (pc := 128) X d_X10_goBySigns_128 ?_
      refine r_lload (pc := 130) X d_X10_goBySigns_130 ?_
      refine s_cv5 (pc := 132) (ci := 10) X xok10 (by decide +kernel) ob_52 rfl (con_X10_leaveBeyond l) mf_X10_leaveBeyond ml_RX10_91 (by decide +kernel) (by decide +kernel) d_X10_goBySigns_132 ?_
      exact t_X10_goBySigns_135 X hr h28
set_option maxRecDepth 20000 in
theorem m_X10_goBySigns {l : Launch} {f : Nat → Int32 → Int32 → Int32 → xH → xP → Prop}  {I28 : Nat → Int32 → Int32 → Int32 → xH → xP → xM → xK}
    (v0 : ∀ (a0 : Nat) (a1 : Int32) (a2 : Int32) (a3 : Int32) (A : xH) (P : xP), f a0 a1 a2 a3 A P → k_X10_goBySigns_0 P (xE (I28 a0 a1 a2 a3 A P)) [some (.ref a0), some (.int a1), some (.int a2), some (.int a3), none, none, none, none, none, none, none] [] A)
    (v28 : ∀ (a0 : Nat) (a1 : Int32) (a2 : Int32) (a3 : Int32) (A : xH) (P : xP), f a0 a1 a2 a3 A P → ∀ (μ : xM) (L : xL) (st : List Value) (B : xH), I28 a0 a1 a2 a3 A P μ L st B → k_X10_goBySigns_28 P (xB (I28 a0 a1 a2 a3 A P) μ) L st B) : xCon l yX10_goBySigns cX10_goBySigns 11 none 2 53 xN xN 0 xFT xFT (w_RIII f) := by
  refine xc_RIII (plainFor_of_name pn_RX10) (by decide +kernel) (fun p e s m args below meth c g a0 a1 a2 a3 A P h X hr _ => ?_)
  have h28 := x_loop1 (p := p) (l := l) (e := e) (R := { frames := 2, cells := 0, slots := 0, locals := 53 }) (s := s) (m := m) (args := args) (below := below) (meth := meth) (c := c) (g := g) (nL := 11) (F := xFT) (n := xN) (cells := 0) (slots := 0) (Q := MQ below (xQc g xFT xN P) args s 0 0 (xFr g)) (I := I28 a0 a1 a2 a3 A P) (pc1 := 28) (fun μ i28 => xAt_mono (t_X10_goBySigns_28 (P := P) X hr i28) (v28 a0 a1 a2 a3 A P h μ))
  exact ⟨_, v0 a0 a1 a2 a3 A P h, t_X10_goBySigns_0 X hr h28⟩
theorem d_X10_goTogether_0 : decode cX10_goTogether 0 = .ok (.aload_n 0, 1) := by decide +kernel
theorem d_X10_goTogether_1 : decode cX10_goTogether 1 = .ok (.getfield 25, 3) := by decide +kernel
theorem d_X10_goTogether_4 : decode cX10_goTogether 4 = .ok (.getfield 95, 3) := by decide +kernel
theorem d_X10_goTogether_7 : decode cX10_goTogether 7 = .ok (.iload_n 2, 1) := by decide +kernel
theorem d_X10_goTogether_8 : decode cX10_goTogether 8 = .ok (.iconst 2, 1) := by decide +kernel
theorem d_X10_goTogether_9 : decode cX10_goTogether 9 = .ok (.imul, 1) := by decide +kernel
theorem d_X10_goTogether_10 : decode cX10_goTogether 10 = .ok (.laload, 1) := by decide +kernel
theorem d_X10_goTogether_11 : decode cX10_goTogether 11 = .ok (.lstore_n 3, 1) := by decide +kernel
theorem d_X10_goTogether_12 : decode cX10_goTogether 12 = .ok (.aload_n 0, 1) := by decide +kernel
theorem d_X10_goTogether_13 : decode cX10_goTogether 13 = .ok (.getfield 25, 3) := by decide +kernel
theorem d_X10_goTogether_16 : decode cX10_goTogether 16 = .ok (.getfield 95, 3) := by decide +kernel
theorem d_X10_goTogether_19 : decode cX10_goTogether 19 = .ok (.iload_n 2, 1) := by decide +kernel
theorem d_X10_goTogether_20 : decode cX10_goTogether 20 = .ok (.iconst 2, 1) := by decide +kernel
theorem d_X10_goTogether_21 : decode cX10_goTogether 21 = .ok (.imul, 1) := by decide +kernel
theorem d_X10_goTogether_22 : decode cX10_goTogether 22 = .ok (.iconst 1, 1) := by decide +kernel
theorem d_X10_goTogether_23 : decode cX10_goTogether 23 = .ok (.iadd, 1) := by decide +kernel
theorem d_X10_goTogether_24 : decode cX10_goTogether 24 = .ok (.laload, 1) := by decide +kernel
theorem d_X10_goTogether_25 : decode cX10_goTogether 25 = .ok (.lstore 5, 2) := by decide +kernel
theorem d_X10_goTogether_27 : decode cX10_goTogether 27 = .ok (.lload_n 3, 1) := by decide +kernel
theorem d_X10_goTogether_28 : decode cX10_goTogether 28 = .ok (.lload 5, 2) := by decide +kernel
theorem d_X10_goTogether_30 : decode cX10_goTogether 30 = .ok (.lor, 1) := by decide +kernel
theorem d_X10_goTogether_31 : decode cX10_goTogether 31 = .ok (.lconst 0, 1) := by decide +kernel
theorem d_X10_goTogether_32 : decode cX10_goTogether 32 = .ok (.lcmp, 1) := by decide +kernel
theorem d_X10_goTogether_33 : decode cX10_goTogether 33 = .ok (.ifCond .ne 4, 3) := by decide +kernel
theorem d_X10_goTogether_36 : decode cX10_goTogether 36 = .ok (.return_, 1) := by decide +kernel
theorem d_X10_goTogether_37 : decode cX10_goTogether 37 = .ok (.iconst 4, 1) := by decide +kernel
theorem d_X10_goTogether_38 : decode cX10_goTogether 38 = .ok (.istore 7, 2) := by decide +kernel
theorem d_X10_goTogether_40 : decode cX10_goTogether 40 = .ok (.iload 7, 2) := by decide +kernel
theorem d_X10_goTogether_42 : decode cX10_goTogether 42 = .ok (.bipush 24, 2) := by decide +kernel
theorem d_X10_goTogether_44 : decode cX10_goTogether 44 = .ok (.if_icmp .ge 190, 3) := by decide +kernel
theorem d_X10_goTogether_47 : decode cX10_goTogether 47 = .ok (.iload_n 1, 1) := by decide +kernel
theorem d_X10_goTogether_48 : decode cX10_goTogether 48 = .ok (.bipush 24, 2) := by decide +kernel
theorem d_X10_goTogether_50 : decode cX10_goTogether 50 = .ok (.imul, 1) := by decide +kernel
theorem d_X10_goTogether_51 : decode cX10_goTogether 51 = .ok (.iload 7, 2) := by decide +kernel
theorem d_X10_goTogether_53 : decode cX10_goTogether 53 = .ok (.iadd, 1) := by decide +kernel
theorem d_X10_goTogether_54 : decode cX10_goTogether 54 = .ok (.iconst 2, 1) := by decide +kernel
theorem d_X10_goTogether_55 : decode cX10_goTogether 55 = .ok (.imul, 1) := by decide +kernel
theorem d_X10_goTogether_56 : decode cX10_goTogether 56 = .ok (.istore 8, 2) := by decide +kernel
theorem d_X10_goTogether_58 : decode cX10_goTogether 58 = .ok (.iload_n 2, 1) := by decide +kernel
theorem d_X10_goTogether_59 : decode cX10_goTogether 59 = .ok (.bipush 24, 2) := by decide +kernel
theorem d_X10_goTogether_61 : decode cX10_goTogether 61 = .ok (.imul, 1) := by decide +kernel
theorem d_X10_goTogether_62 : decode cX10_goTogether 62 = .ok (.iload 7, 2) := by decide +kernel
theorem d_X10_goTogether_64 : decode cX10_goTogether 64 = .ok (.iadd, 1) := by decide +kernel
theorem d_X10_goTogether_65 : decode cX10_goTogether 65 = .ok (.iconst 2, 1) := by decide +kernel
theorem d_X10_goTogether_66 : decode cX10_goTogether 66 = .ok (.imul, 1) := by decide +kernel
theorem d_X10_goTogether_67 : decode cX10_goTogether 67 = .ok (.istore 9, 2) := by decide +kernel
theorem d_X10_goTogether_69 : decode cX10_goTogether 69 = .ok (.aload_n 0, 1) := by decide +kernel
theorem d_X10_goTogether_70 : decode cX10_goTogether 70 = .ok (.getfield 25, 3) := by decide +kernel
theorem d_X10_goTogether_73 : decode cX10_goTogether 73 = .ok (.getfield 88, 3) := by decide +kernel
theorem d_X10_goTogether_76 : decode cX10_goTogether 76 = .ok (.iload 9, 2) := by decide +kernel
theorem d_X10_goTogether_78 : decode cX10_goTogether 78 = .ok (.laload, 1) := by decide +kernel
theorem d_X10_goTogether_79 : decode cX10_goTogether 79 = .ok (.lstore 10, 2) := by decide +kernel
theorem d_X10_goTogether_81 : decode cX10_goTogether 81 = .ok (.aload_n 0, 1) := by decide +kernel
theorem d_X10_goTogether_82 : decode cX10_goTogether 82 = .ok (.getfield 25, 3) := by decide +kernel
theorem d_X10_goTogether_85 : decode cX10_goTogether 85 = .ok (.getfield 88, 3) := by decide +kernel
theorem d_X10_goTogether_88 : decode cX10_goTogether 88 = .ok (.iload 9, 2) := by decide +kernel
theorem d_X10_goTogether_90 : decode cX10_goTogether 90 = .ok (.iconst 1, 1) := by decide +kernel
theorem d_X10_goTogether_91 : decode cX10_goTogether 91 = .ok (.iadd, 1) := by decide +kernel
theorem d_X10_goTogether_92 : decode cX10_goTogether 92 = .ok (.laload, 1) := by decide +kernel
theorem d_X10_goTogether_93 : decode cX10_goTogether 93 = .ok (.lstore 12, 2) := by decide +kernel
theorem d_X10_goTogether_95 : decode cX10_goTogether 95 = .ok (.aload_n 0, 1) := by decide +kernel
theorem d_X10_goTogether_96 : decode cX10_goTogether 96 = .ok (.getfield 25, 3) := by decide +kernel
theorem d_X10_goTogether_99 : decode cX10_goTogether 99 = .ok (.getfield 98, 3) := by decide +kernel
theorem d_X10_goTogether_102 : decode cX10_goTogether 102 = .ok (.iload_n 2, 1) := by decide +kernel
theorem d_X10_goTogether_103 : decode cX10_goTogether 103 = .ok (.iconst 2, 1) := by decide +kernel
theorem d_X10_goTogether_104 : decode cX10_goTogether 104 = .ok (.imul, 1) := by decide +kernel
theorem d_X10_goTogether_105 : decode cX10_goTogether 105 = .ok (.laload, 1) := by decide +kernel
theorem d_X10_goTogether_106 : decode cX10_goTogether 106 = .ok (.lload_n 3, 1) := by decide +kernel
theorem d_X10_goTogether_107 : decode cX10_goTogether 107 = .ok (.lload 10, 2) := by decide +kernel
theorem d_X10_goTogether_109 : decode cX10_goTogether 109 = .ok (.ldc2_w 61, 3) := by decide +kernel
theorem d_X10_goTogether_112 : decode cX10_goTogether 112 = .ok (.lxor, 1) := by decide +kernel
theorem d_X10_goTogether_113 : decode cX10_goTogether 113 = .ok (.land, 1) := by decide +kernel
theorem d_X10_goTogether_114 : decode cX10_goTogether 114 = .ok (.lor, 1) := by decide +kernel
theorem d_X10_goTogether_115 : decode cX10_goTogether 115 = .ok (.lstore 14, 2) := by decide +kernel
theorem d_X10_goTogether_117 : decode cX10_goTogether 117 = .ok (.aload_n 0, 1) := by decide +kernel
theorem d_X10_goTogether_118 : decode cX10_goTogether 118 = .ok (.getfield 25, 3) := by decide +kernel
theorem d_X10_goTogether_121 : decode cX10_goTogether 121 = .ok (.getfield 98, 3) := by decide +kernel
theorem d_X10_goTogether_124 : decode cX10_goTogether 124 = .ok (.iload_n 2, 1) := by decide +kernel
theorem d_X10_goTogether_125 : decode cX10_goTogether 125 = .ok (.iconst 2, 1) := by decide +kernel
theorem d_X10_goTogether_126 : decode cX10_goTogether 126 = .ok (.imul, 1) := by decide +kernel
theorem d_X10_goTogether_127 : decode cX10_goTogether 127 = .ok (.iconst 1, 1) := by decide +kernel
theorem d_X10_goTogether_128 : decode cX10_goTogether 128 = .ok (.iadd, 1) := by decide +kernel
theorem d_X10_goTogether_129 : decode cX10_goTogether 129 = .ok (.laload, 1) := by decide +kernel
theorem d_X10_goTogether_130 : decode cX10_goTogether 130 = .ok (.lload 5, 2) := by decide +kernel
theorem d_X10_goTogether_132 : decode cX10_goTogether 132 = .ok (.lload 12, 2) := by decide +kernel
theorem d_X10_goTogether_134 : decode cX10_goTogether 134 = .ok (.ldc2_w 61, 3) := by decide +kernel
theorem d_X10_goTogether_137 : decode cX10_goTogether 137 = .ok (.lxor, 1) := by decide +kernel
theorem d_X10_goTogether_138 : decode cX10_goTogether 138 = .ok (.land, 1) := by decide +kernel
theorem d_X10_goTogether_139 : decode cX10_goTogether 139 = .ok (.lor, 1) := by decide +kernel
theorem d_X10_goTogether_140 : decode cX10_goTogether 140 = .ok (.lstore 16, 2) := by decide +kernel
theorem d_X10_goTogether_142 : decode cX10_goTogether 142 = .ok (.aload_n 0, 1) := by decide +kernel
theorem d_X10_goTogether_143 : decode cX10_goTogether 143 = .ok (.iconst 0, 1) := by decide +kernel
theorem d_X10_goTogether_144 : decode cX10_goTogether 144 = .ok (.aload_n 0, 1) := by decide +kernel
theorem d_X10_goTogether_145 : decode cX10_goTogether 145 = .ok (.getfield 25, 3) := by decide +kernel
theorem d_X10_goTogether_148 : decode cX10_goTogether 148 = .ok (.getfield 88, 3) := by decide +kernel
theorem d_X10_goTogether_151 : decode cX10_goTogether 151 = .ok (.iload 8, 2) := by decide +kernel
theorem d_X10_goTogether_153 : decode cX10_goTogether 153 = .ok (.laload, 1) := by decide +kernel
theorem d_X10_goTogether_154 : decode cX10_goTogether 154 = .ok (.iconst 0, 1) := by decide +kernel
theorem d_X10_goTogether_155 : decode cX10_goTogether 155 = .ok (.lload 10, 2) := by decide +kernel
theorem d_X10_goTogether_157 : decode cX10_goTogether 157 = .ok (.lload 12, 2) := by decide +kernel
theorem d_X10_goTogether_159 : decode cX10_goTogether 159 = .ok (.invokevirtual 101, 3) := by decide +kernel
theorem d_X10_goTogether_162 : decode cX10_goTogether 162 = .ok (.aload_n 0, 1) := by decide +kernel
theorem d_X10_goTogether_163 : decode cX10_goTogether 163 = .ok (.iconst 0, 1) := by decide +kernel
theorem d_X10_goTogether_164 : decode cX10_goTogether 164 = .ok (.aload_n 0, 1) := by decide +kernel
theorem d_X10_goTogether_165 : decode cX10_goTogether 165 = .ok (.getfield 25, 3) := by decide +kernel
theorem d_X10_goTogether_168 : decode cX10_goTogether 168 = .ok (.getfield 88, 3) := by decide +kernel
theorem d_X10_goTogether_171 : decode cX10_goTogether 171 = .ok (.iload 8, 2) := by decide +kernel
theorem d_X10_goTogether_173 : decode cX10_goTogether 173 = .ok (.iconst 1, 1) := by decide +kernel
theorem d_X10_goTogether_174 : decode cX10_goTogether 174 = .ok (.iadd, 1) := by decide +kernel
theorem d_X10_goTogether_175 : decode cX10_goTogether 175 = .ok (.laload, 1) := by decide +kernel
theorem d_X10_goTogether_176 : decode cX10_goTogether 176 = .ok (.bipush 64, 2) := by decide +kernel
theorem d_X10_goTogether_178 : decode cX10_goTogether 178 = .ok (.lload 10, 2) := by decide +kernel
theorem d_X10_goTogether_180 : decode cX10_goTogether 180 = .ok (.lload 12, 2) := by decide +kernel
theorem d_X10_goTogether_182 : decode cX10_goTogether 182 = .ok (.invokevirtual 101, 3) := by decide +kernel
theorem d_X10_goTogether_185 : decode cX10_goTogether 185 = .ok (.aload_n 0, 1) := by decide +kernel
theorem d_X10_goTogether_186 : decode cX10_goTogether 186 = .ok (.iconst 1, 1) := by decide +kernel
theorem d_X10_goTogether_187 : decode cX10_goTogether 187 = .ok (.aload_n 0, 1) := by decide +kernel
theorem d_X10_goTogether_188 : decode cX10_goTogether 188 = .ok (.getfield 25, 3) := by decide +kernel
theorem d_X10_goTogether_191 : decode cX10_goTogether 191 = .ok (.getfield 88, 3) := by decide +kernel
theorem d_X10_goTogether_194 : decode cX10_goTogether 194 = .ok (.iload 8, 2) := by decide +kernel
theorem d_X10_goTogether_196 : decode cX10_goTogether 196 = .ok (.laload, 1) := by decide +kernel
theorem d_X10_goTogether_197 : decode cX10_goTogether 197 = .ok (.iconst 0, 1) := by decide +kernel
theorem d_X10_goTogether_198 : decode cX10_goTogether 198 = .ok (.lload 14, 2) := by decide +kernel
theorem d_X10_goTogether_200 : decode cX10_goTogether 200 = .ok (.lload 16, 2) := by decide +kernel
theorem d_X10_goTogether_202 : decode cX10_goTogether 202 = .ok (.invokevirtual 101, 3) := by decide +kernel
theorem d_X10_goTogether_205 : decode cX10_goTogether 205 = .ok (.aload_n 0, 1) := by decide +kernel
theorem d_X10_goTogether_206 : decode cX10_goTogether 206 = .ok (.iconst 1, 1) := by decide +kernel
theorem d_X10_goTogether_207 : decode cX10_goTogether 207 = .ok (.aload_n 0, 1) := by decide +kernel
theorem d_X10_goTogether_208 : decode cX10_goTogether 208 = .ok (.getfield 25, 3) := by decide +kernel
theorem d_X10_goTogether_211 : decode cX10_goTogether 211 = .ok (.getfield 88, 3) := by decide +kernel
theorem d_X10_goTogether_214 : decode cX10_goTogether 214 = .ok (.iload 8, 2) := by decide +kernel
theorem d_X10_goTogether_216 : decode cX10_goTogether 216 = .ok (.iconst 1, 1) := by decide +kernel
theorem d_X10_goTogether_217 : decode cX10_goTogether 217 = .ok (.iadd, 1) := by decide +kernel
theorem d_X10_goTogether_218 : decode cX10_goTogether 218 = .ok (.laload, 1) := by decide +kernel
theorem d_X10_goTogether_219 : decode cX10_goTogether 219 = .ok (.bipush 64, 2) := by decide +kernel
theorem d_X10_goTogether_221 : decode cX10_goTogether 221 = .ok (.lload 14, 2) := by decide +kernel
theorem d_X10_goTogether_223 : decode cX10_goTogether 223 = .ok (.lload 16, 2) := by decide +kernel
theorem d_X10_goTogether_225 : decode cX10_goTogether 225 = .ok (.invokevirtual 101, 3) := by decide +kernel
theorem d_X10_goTogether_228 : decode cX10_goTogether 228 = .ok (.iinc 7 1, 3) := by decide +kernel
theorem d_X10_goTogether_231 : decode cX10_goTogether 231 = .ok (.goto (-191), 3) := by decide +kernel
theorem d_X10_goTogether_234 : decode cX10_goTogether 234 = .ok (.return_, 1) := by decide +kernel
def k_X10_goTogether_0 (P : xP) (C40 : xK) : xK := x_aload 0 (y_getF 52 39 (y_getF 39 44 (x_iload 2 (x_push (.int 2) (x_imul (y_lald 44 160 (x_lstore 3 (x_aload 0 (y_getF 52 39 (y_getF 39 44 (x_iload 2 (x_push (.int 2) (x_imul (x_push (.int 1) (x_iadd (y_lald 44 160 (x_lstore 5 (x_lload 3 (x_lload 5 (x_lor (x_push (.long 0) (x_lcmp (x_if_ne (x_push (.int 4) (x_istore 7 (C40))) (x_vret P))))))))))))))))))))))))
set_option maxRecDepth 20000 in
theorem t_X10_goTogether_0 {p : Program} {l : Launch} {e : Env} {s : State} {m : MethodId} {args : Array Value} {below : List Frame} {meth : Method} {c : Code} {g : xG} (X : xX p s m args c meth cX10_goTogether RX10 18 g) (hr : meth.sig.returnType = none) {P : xP} {C40 : xK} (h40 : xAt p l e { frames := 3, cells := 0, slots := 0, locals := 81 } s m args below meth c g 18 xFT xN 0 0 (MQ below (xQc g xFT xN P) args s 0 0 (xFr g)) C40 40) : xAt p l e { frames := 3, cells := 0, slots := 0, locals := 81 } s m args below meth c g 18 xFT xN 0 0 (MQ below (xQc g xFT xN P) args s 0 0 (xFr g)) (k_X10_goTogether_0 P C40) 0 := by
  unfold k_X10_goTogether_0
  refine r_aload_n (pc := 0) X d_X10_goTogether_0 fn0 ?_
  refine s_getF (pc := 1) (ci := 10) (k := 10) X xok10 (by decide +kernel) ob_52 trivial ly_52_10 (by decide +kernel) fl_RX10_25 d_X10_goTogether_1 ?_
  refine s_getF (pc := 4) (ci := 7) (k := 7) X xok7 (by decide +kernel) ob_39 trivial ly_39_7 (by decide +kernel) fl_RX10_95 d_X10_goTogether_4 ?_
  refine r_iload_n (pc := 7) X d_X10_goTogether_7 fn2 ?_
  refine r_iconst (pc := 8) X d_X10_goTogether_8 (by decide +kernel) ?_
  refine r_imul (pc := 9) X d_X10_goTogether_9 ?_
  refine s_lald (pc := 10) X tn_44 ln_44 d_X10_goTogether_10 ?_
  refine r_lstore_n (pc := 11) X d_X10_goTogether_11 fn3 (by decide +kernel) ?_
  refine r_aload_n (pc := 12) X d_X10_goTogether_12 fn0 ?_
  refine s_getF (pc := 13) (ci := 10) (k := 10) X xok10 (by decide +kernel) ob_52 trivial ly_52_10 (by decide +kernel) fl_RX10_25 d_X10_goTogether_13 ?_
  refine s_getF (pc := 16) (ci := 7) (k := 7) X xok7 (by decide +kernel) ob_39 trivial ly_39_7 (by decide +kernel) fl_RX10_95 d_X10_goTogether_16 ?_
  refine r_iload_n (pc := 19) X d_X10_goTogether_19 fn2 ?_
  refine r_iconst (pc := 20) X d_X10_goTogether_20 (by decide +kernel) ?_
  refine r_imul (pc := 21) X d_X10_goTogether_21 ?_
  refine r_iconst (pc := 22) X d_X10_goTogether_22 (by decide +kernel) ?_
  refine r_iadd (pc := 23) X d_X10_goTogether_23 ?_
  refine s_lald (pc := 24) X tn_44 ln_44 d_X10_goTogether_24 ?_
  refine r_lstore (pc := 25) X d_X10_goTogether_25 (by decide +kernel) ?_
  refine r_lload_n (pc := 27) X d_X10_goTogether_27 fn3 ?_
  refine r_lload (pc := 28) X d_X10_goTogether_28 ?_
  refine r_lor (pc := 30) X d_X10_goTogether_30 ?_
  refine r_lconst (pc := 31) X d_X10_goTogether_31 (by decide +kernel) ?_
  refine r_lcmp (pc := 32) X d_X10_goTogether_32 ?_
  refine r_if_ne (pc := 33) (tgt := 37) X d_X10_goTogether_33 (by decide +kernel) ?_ ?_
  · refine r_iconst (pc := 37) X d_X10_goTogether_37 (by decide +kernel) ?_
    refine r_istore (pc := 38) X d_X10_goTogether_38 (by decide +kernel) ?_
    exact h40
  · exact r_vret (pc := 36) X hr d_X10_goTogether_36
def k_X10_goTogether_40 (P : xP) (C40 : xK) : xK := x_iload 7 (x_push (.int 24) (x_icmp_ge (x_vret P) (x_iload 1 (x_push (.int 24) (x_imul (x_iload 7 (x_iadd (x_push (.int 2) (x_imul (x_istore 8 (x_iload 2 (x_push (.int 24) (x_imul (x_iload 7 (x_iadd (x_push (.int 2) (x_imul (x_istore 9 (x_aload 0 (y_getF 52 39 (y_getF 39 42 (x_iload 9 (y_lald 42 3840 (x_lstore 10 (x_aload 0 (y_getF 52 39 (y_getF 39 42 (x_iload 9 (x_push (.int 1) (x_iadd (y_lald 42 3840 (x_lstore 12 (x_aload 0 (y_getF 52 39 (y_getF 39 45 (x_iload 2 (x_push (.int 2) (x_imul (y_lald 45 160 (x_lload 3 (x_lload 10 (x_push (.long (-1)) (x_lxor (x_land (x_lor (x_lstore 14 (x_aload 0 (y_getF 52 39 (y_getF 39 45 (x_iload 2 (x_push (.int 2) (x_imul (x_push (.int 1) (x_iadd (y_lald 45 160 (x_lload 5 (x_lload 12 (x_push (.long (-1)) (x_lxor (x_land (x_lor (x_lstore 16 (x_aload 0 (x_push (.int 0) (x_aload 0 (y_getF 52 39 (y_getF 39 42 (x_iload 8 (y_lald 42 3840 (x_push (.int 0) (x_lload 10 (x_lload 12 (y_cv5 52 (w_RIJIJJ f_X10_enterAll) (x_aload 0 (x_push (.int 0) (x_aload 0 (y_getF 52 39 (y_getF 39 42 (x_iload 8 (x_push (.int 1) (x_iadd (y_lald 42 3840 (x_push (.int 64) (x_lload 10 (x_lload 12 (y_cv5 52 (w_RIJIJJ f_X10_enterAll) (x_aload 0 (x_push (.int 1) (x_aload 0 (y_getF 52 39 (y_getF 39 42 (x_iload 8 (y_lald 42 3840 (x_push (.int 0) (x_lload 14 (x_lload 16 (y_cv5 52 (w_RIJIJJ f_X10_enterAll) (x_aload 0 (x_push (.int 1) (x_aload 0 (y_getF 52 39 (y_getF 39 42 (x_iload 8 (x_push (.int 1) (x_iadd (y_lald 42 3840 (x_push (.int 64) (x_lload 14 (x_lload 16 (y_cv5 52 (w_RIJIJJ f_X10_enterAll) (x_iinc 7 1 (C40))))))))))))))))))))))))))))))))))))))))))))))))))))))))))))))))))))))))))))))))))))))))))))))))))))))))))))))))
set_option maxRecDepth 20000 in
theorem t_X10_goTogether_40 {p : Program} {l : Launch} {e : Env} {s : State} {m : MethodId} {args : Array Value} {below : List Frame} {meth : Method} {c : Code} {g : xG} (X : xX p s m args c meth cX10_goTogether RX10 18 g) (hr : meth.sig.returnType = none) {P : xP} {C40 : xK} (h40 : xAt p l e { frames := 3, cells := 0, slots := 0, locals := 81 } s m args below meth c g 18 xFT xN 0 0 (MQ below (xQc g xFT xN P) args s 0 0 (xFr g)) C40 40) : xAt p l e { frames := 3, cells := 0, slots := 0, locals := 81 } s m args below meth c g 18 xFT xN 0 0 (MQ below (xQc g xFT xN P) args s 0 0 (xFr g)) (k_X10_goTogether_40 P C40) 40 := by
  unfold k_X10_goTogether_40
  refine r_iload (pc := 40) X d_X10_goTogether_40 ?_
  refine r_bipush (pc := 42) X d_X10_goTogether_42 (by decide +kernel) ?_
  refine r_icmp_ge (pc := 44) (tgt := 234) X d_X10_goTogether_44 (by decide +kernel) ?_ ?_
  · exact r_vret (pc := 234) X hr d_X10_goTogether_234
  · refine r_iload_n (pc := 47) X d_X10_goTogether_47 fn1 ?_
    refine r_bipush (pc := 48) X d_X10_goTogether_48 (by decide +kernel) ?_
    refine r_imul (pc := 50) X d_X10_goTogether_50 ?_
    refine r_iload (pc := 51) X d_X10_goTogether_51 ?_
    refine r_iadd (pc := 53) X d_X10_goTogether_53 ?_
    refine r_iconst (pc := 54) X d_X10_goTogether_54 (by decide +kernel) ?_
    refine r_imul (pc := 55) X d_X10_goTogether_55 ?_
    refine r_istore (pc := 56) X d_X10_goTogether_56 (by decide +kernel) ?_
    refine r_iload_n (pc := 58) X d_X10_goTogether_58 fn2 ?_
    refine r_bipush (pc := 59) X d_X10_goTogether_59 (by decide +kernel) ?_
    refine r_imul (pc := 61) X d_X10_goTogether_61 ?_
    refine r_iload (pc := 62) X d_X10_goTogether_62 ?_
    refine r_iadd (pc := 64) X d_X10_goTogether_64 ?_
    refine r_iconst (pc := 65) X d_X10_goTogether_65 (by decide +kernel) ?_
    refine r_imul (pc := 66) X d_X10_goTogether_66 ?_
    refine r_istore (pc := 67) X d_X10_goTogether_67 (by decide +kernel) ?_
    refine r_aload_n (pc := 69) X d_X10_goTogether_69 fn0 ?_
    refine s_getF (pc := 70) (ci := 10) (k := 10) X xok10 (by decide +kernel) ob_52 trivial ly_52_10 (by decide +kernel) fl_RX10_25 d_X10_goTogether_70 ?_
    refine s_getF (pc := 73) (ci := 7) (k := 5) X xok7 (by decide +kernel) ob_39 trivial ly_39_5 (by decide +kernel) fl_RX10_88 d_X10_goTogether_73 ?_
    refine r_iload (pc := 76) X d_X10_goTogether_76 ?_
    refine s_lald (pc := 78) X tn_42 ln_42 d_X10_goTogether_78 ?_
    refine r_lstore (pc := 79) X d_X10_goTogether_79 (by decide +kernel) ?_
    refine r_aload_n (pc := 81) X d_X10_goTogether_81 fn0 ?_
    refine s_getF (pc := 82) (ci := 10) (k := 10) X xok10 (by decide +kernel) ob_52 trivial ly_52_10 (by decide +kernel) fl_RX10_25 d_X10_goTogether_82 ?_
    refine s_getF (pc := 85) (ci := 7) (k := 5) X xok7 (by decide +kernel) ob_39 trivial ly_39_5 (by decide +kernel) fl_RX10_88 d_X10_goTogether_85 ?_
    refine r_iload (pc := 88) X d_X10_goTogether_88 ?_
    refine r_iconst (pc := 90) X d_X10_goTogether_90 (by decide +kernel) ?_
    refine r_iadd (pc := 91) X d_X10_goTogether_91 ?_
    refine s_lald (pc := 92) X tn_42 ln_42 d_X10_goTogether_92 ?_
    refine r_lstore (pc := 93) X d_X10_goTogether_93 (by decide +kernel) ?_
    refine r_aload_n (pc := 95) X d_X10_goTogether_95 fn0 ?_
    refine s_getF (pc := 96) (ci := 10) (k := 10) X xok10 (by decide +kernel) ob_52 trivial ly_52_10 (by decide +kernel) fl_RX10_25 d_X10_goTogether_96 ?_
    refine s_getF (pc := 99) (ci := 7) (k := 8) X xok7 (by decide +kernel) ob_39 trivial ly_39_8 (by decide +kernel) fl_RX10_98 d_X10_goTogether_99 ?_
    refine r_iload_n (pc := 102) X d_X10_goTogether_102 fn2 ?_
    refine r_iconst (pc := 103) X d_X10_goTogether_103 (by decide +kernel) ?_
    refine r_imul (pc := 104) X d_X10_goTogether_104 ?_
    refine s_lald (pc := 105) X tn_45 ln_45 d_X10_goTogether_105 ?_
    refine r_lload_n (pc := 106) X d_X10_goTogether_106 fn3 ?_
    refine r_lload (pc := 107) X d_X10_goTogether_107 ?_
    refine r_ldc2 (pc := 109) X cw_RX10_61 d_X10_goTogether_109 ?_
    refine r_lxor (pc := 112) X d_X10_goTogether_112 ?_
    refine r_land (pc := 113) X d_X10_goTogether_113 ?_
    refine r_lor (pc := 114) X d_X10_goTogether_114 ?_
    refine r_lstore (pc := 115) X d_X10_goTogether_115 (by decide +kernel) ?_
    refine r_aload_n (pc := 117) X d_X10_goTogether_117 fn0 ?_
    refine s_getF (pc := 118) (ci := 10) (k := 10) X xok10 (by decide +kernel) ob_52 trivial ly_52_10 (by decide +kernel) fl_RX10_25 d_X10_goTogether_118 ?_
    refine s_getF (pc := 121) (ci := 7) (k := 8) X xok7 (by decide +kernel) ob_39 trivial ly_39_8 (by decide +kernel) fl_RX10_98 d_X10_goTogether_121 ?_
    refine r_iload_n (pc := 124) X d_X10_goTogether_124 fn2 ?_
    refine r_iconst (pc := 125) X d_X10_goTogether_125 (by decide +kernel) ?_
    refine r_imul (pc := 126) X d_X10_goTogether_126 ?_
    refine r_iconst (pc := 127) X d_X10_goTogether_127 (by decide +kernel) ?_
    refine r_iadd (pc := 128) X d_X10_goTogether_128 ?_
    refine s_lald (pc := 129) X tn_45 ln_45 d_X10_goTogether_129 ?_
    refine r_lload (pc := 130) X d_X10_goTogether_130 ?_
    refine r_lload (pc := 132) X d_X10_goTogether_132 ?_
    refine r_ldc2 (pc := 134) X cw_RX10_61 d_X10_goTogether_134 ?_
    refine r_lxor (pc := 137) X d_X10_goTogether_137 ?_
    refine r_land (pc := 138) X d_X10_goTogether_138 ?_
    refine r_lor (pc := 139) X d_X10_goTogether_139 ?_
    refine r_lstore (pc := 140) X d_X10_goTogether_140 (by decide +kernel) ?_
    refine r_aload_n (pc := 142) X d_X10_goTogether_142 fn0 ?_
    refine r_iconst (pc := 143) X d_X10_goTogether_143 (by decide +kernel) ?_
    refine r_aload_n (pc := 144) X d_X10_goTogether_144 fn0 ?_
    refine s_getF (pc := 145) (ci := 10) (k := 10) X xok10 (by decide +kernel) ob_52 trivial ly_52_10 (by decide +kernel) fl_RX10_25 d_X10_goTogether_145 ?_
    refine s_getF (pc := 148) (ci := 7) (k := 5) X xok7 (by decide +kernel) ob_39 trivial ly_39_5 (by decide +kernel) fl_RX10_88 d_X10_goTogether_148 ?_
    refine r_iload (pc := 151) X d_X10_goTogether_151 ?_
    refine s_lald (pc := 153) X tn_42 ln_42 d_X10_goTogether_153 ?_
    refine r_iconst (pc := 154) X d_X10_goTogether_154 (by decide +kernel) ?_
    refine r_lload (pc := 155) X d_X10_goTogether_155 ?_
    refine r_lload (pc := 157) X d_X10_goTogether_157 ?_
    refine s_cv5 (pc := 159) (ci := 10) X xok10 (by decide +kernel) ob_52 rfl (con_X10_enterAll l) mf_X10_enterAll ml_RX10_101 (by decide +kernel) (by decide +kernel) d_X10_goTogether_159 ?_
    refine r_aload_n (pc := 162) X d_X10_goTogether_162 fn0 ?_
    refine r_iconst (pc := 163) X d_X10_goTogether_163 (by decide +kernel) ?_
    refine r_aload_n (pc := 164) X d_X10_goTogether_164 fn0 ?_
    refine s_getF (pc := 165) (ci := 10) (k := 10) X xok10 (by decide +kernel) ob_52 trivial ly_52_10 (by decide +kernel) fl_RX10_25 d_X10_goTogether_165 ?_
    refine s_getF (pc := 168) (ci := 7) (k := 5) X xok7 (by decide +kernel) ob_39 trivial ly_39_5 (by decide +kernel) fl_RX10_88 d_X10_goTogether_168 ?_
    refine r_iload (pc := 171) X d_X10_goTogether_171 ?_
    refine r_iconst (pc := 173) X d_X10_goTogether_173 (by decide +kernel) ?_
    refine r_iadd (pc := 174) X d_X10_goTogether_174 ?_
    refine s_lald (pc := 175) X tn_42 ln_42 d_X10_goTogether_175 ?_
    refine r_bipush (pc := 176) X d_X10_goTogether_176 (by decide +kernel) ?_
    refine r_lload (pc := 178) X d_X10_goTogether_178 ?_
    refine r_lload (pc := 180) X d_X10_goTogether_180 ?_
    refine s_cv5 (pc := 182) (ci := 10) X xok10 (by decide +kernel) ob_52 rfl (con_X10_enterAll l) mf_X10_enterAll ml_RX10_101 (by decide +kernel) (by decide +kernel) d_X10_goTogether_182 ?_
    refine r_aload_n (pc := 185) X d_X10_goTogether_185 fn0 ?_
    refine r_iconst (pc := 186) X d_X10_goTogether_186 (by decide +kernel) ?_
    refine r_aload_n (pc := 187) X d_X10_goTogether_187 fn0 ?_
    refine s_getF (pc := 188) (ci := 10) (k := 10) X xok10 (by decide +kernel) ob_52 trivial ly_52_10 (by decide +kernel) fl_RX10_25 d_X10_goTogether_188 ?_
    refine s_getF (pc := 191) (ci := 7) (k := 5) X xok7 (by decide +kernel) ob_39 trivial ly_39_5 (by decide +kernel) fl_RX10_88 d_X10_goTogether_191 ?_
    refine r_iload (pc := 194) X d_X10_goTogether_194 ?_
    refine s_lald (pc := 196) X tn_42 ln_42 d_X10_goTogether_196 ?_
    refine r_iconst (pc := 197) X d_X10_goTogether_197 (by decide +kernel) ?_
    refine r_lload (pc := 198) X d_X10_goTogether_198 ?_
    refine r_lload (pc := 200) X d_X10_goTogether_200 ?_
    refine s_cv5 (pc := 202) (ci := 10) X xok10 (by decide +kernel) ob_52 rfl (con_X10_enterAll l) mf_X10_enterAll ml_RX10_101 (by decide +kernel) (by decide +kernel) d_X10_goTogether_202 ?_
    refine r_aload_n (pc := 205) X d_X10_goTogether_205 fn0 ?_
    refine r_iconst (pc := 206) X d_X10_goTogether_206 (by decide +kernel) ?_
    refine r_aload_n (pc := 207) X d_X10_goTogether_207 fn0 ?_
    refine s_getF (pc := 208) (ci := 10) (k := 10) X xok10 (by decide +kernel) ob_52 trivial ly_52_10 (by decide +kernel) fl_RX10_25 d_X10_goTogether_208 ?_
    refine s_getF (pc := 211) (ci := 7) (k := 5) X xok7 (by decide +kernel) ob_39 trivial ly_39_5 (by decide +kernel) fl_RX10_88 d_X10_goTogether_211 ?_
    refine r_iload (pc := 214) X d_X10_goTogether_214 ?_
    refine r_iconst (pc := 216) X d_X10_goTogether_216 (by decide +kernel) ?_
    refine r_iadd (pc := 217) X d_X10_goTogether_217 ?_
    refine s_lald (pc := 218) X tn_42 ln_42 d_X10_goTogether_218 ?_
    refine r_bipush (pc := 219) X d_X10_goTogether_219 (by decide +kernel) ?_
    refine r_lload (pc := 221) X d_X10_goTogether_221 ?_
    refine r_lload (pc := 223) X d_X10_goTogether_223 ?_
    refine s_cv5 (pc := 225) (ci := 10) X xok10 (by decide +kernel) ob_52 rfl (con_X10_enterAll l) mf_X10_enterAll ml_RX10_101 (by decide +kernel) (by decide +kernel) d_X10_goTogether_225 ?_
    refine r_iinc (pc := 228) X d_X10_goTogether_228 (by decide +kernel) (by decide +kernel) ?_
    refine r_goto (pc := 231) (tgt := 40) X d_X10_goTogether_231 (by decide +kernel) ?_
    exact h40
set_option maxRecDepth 20000 in
theorem m_X10_goTogether {l : Launch} {f : Nat → Int32 → Int32 → xH → xP → Prop}  {I40 : Nat → Int32 → Int32 → xH → xP → xM → xK}
    (v0 : ∀ (a0 : Nat) (a1 : Int32) (a2 : Int32) (A : xH) (P : xP), f a0 a1 a2 A P → k_X10_goTogether_0 P (xE (I40 a0 a1 a2 A P)) [some (.ref a0), some (.int a1), some (.int a2), none, none, none, none, none, none, none, none, none, none, none, none, none, none, none] [] A)
    (v40 : ∀ (a0 : Nat) (a1 : Int32) (a2 : Int32) (A : xH) (P : xP), f a0 a1 a2 A P → ∀ (μ : xM) (L : xL) (st : List Value) (B : xH), I40 a0 a1 a2 A P μ L st B → k_X10_goTogether_40 P (xB (I40 a0 a1 a2 A P) μ) L st B) : xCon l yX10_goTogether cX10_goTogether 18 none 3 81 xN xN 0 xFT xFT (w_RII f) := by
  refine xc_RII (plainFor_of_name pn_RX10) (by decide +kernel) (fun p e s m args below meth c g a0 a1 a2 A P h X hr _ => ?_)
  have h40 := x_loop1 (p := p) (l := l) (e := e) (R := { frames := 3, cells := 0, slots := 0, locals := 81 }) (s := s) (m := m) (args := args) (below := below) (meth := meth) (c := c) (g := g) (nL := 18) (F := xFT) (n := xN) (cells := 0) (slots := 0) (Q := MQ below (xQc g xFT xN P) args s 0 0 (xFr g)) (I := I40 a0 a1 a2 A P) (pc1 := 40) (fun μ i40 => xAt_mono (t_X10_goTogether_40 (P := P) X hr i40) (v40 a0 a1 a2 A P h μ))
  exact ⟨_, v0 a0 a1 a2 A P h, t_X10_goTogether_0 X hr h40⟩
def cDe (m : Nat) : Nat × Nat × Nat := (m / 6400, m / 80 % 80, m % 80)
theorem vs_2 {s m : Nat} {x0 x1 lo hi : Int64} : (vsT s 0 x0 lo hi m ∨ vsT s 1 x1 lo hi m) ↔ m / 6400 = s ∧ hq x0 x1 (m / 80 % 80) = true ∧ hq lo hi (m % 80) = true := by
  have h80 := Nat.mod_lt (m / 80) (show 80 > 0 by omega)
  unfold vsT
  generalize m / 80 % 80 = p at *
  generalize hq lo hi (m % 80) = b
  unfold hq
  by_cases q : p < 64
  · rw [if_pos q, Nat.mod_eq_of_lt q]
    constructor
    · rintro (⟨a, b, c, d⟩ | ⟨a, b, -⟩)
      · exact ⟨a, c, d⟩
      · omega
    · rintro ⟨a, c, d⟩; exact Or.inl ⟨a, by omega, c, d⟩
  · rw [if_neg q, show p % 64 = p - 64 by omega]
    constructor
    · rintro (⟨a, b, -⟩ | ⟨a, b, c, d⟩)
      · omega
      · exact ⟨a, c, d⟩
    · rintro ⟨a, c, d⟩; exact Or.inr ⟨a, by omega, c, d⟩
theorem hq_T {A : xH} {n p s q : Nat} {T : Nat → Nat → Nat → Prop} (h : isST A n T) (hp : p < n) (hs : s < 24) (hq' : q < 128) : hq (xl A 42 ((p * 24 + s) * 2)) (xl A 42 ((p * 24 + s) * 2 + 1)) q = true ↔ T p s q := by
  have h1 := h.1 p s q hp hs hq'
  unfold hq
  by_cases w : q < 64
  · rw [if_pos w]
    rw [Nat.div_eq_of_lt w, Nat.mod_eq_of_lt w, Nat.add_zero] at h1
    exact h1
  · rw [if_neg w]
    rw [show q / 64 = 1 by omega, show q % 64 = q - 64 by omega] at h1
    exact h1
theorem hq_o {A : xH} {n p q : Nat} {T : Nat → Nat → Nat → Prop} (h : gaC A n T) (hp : p < n) (hq' : q < 128) : (hq (xl A 44 (p * 2)) (xl A 44 (p * 2 + 1)) q = true ↔ nsT T p q) ∧ (hq (xl A 45 (p * 2)) (xl A 45 (p * 2 + 1)) q = true ↔ ∃ s s', 4 ≤ s ∧ s < s' ∧ s' < 24 ∧ T p s q ∧ T p s' q) := by
  obtain ⟨-, h0, h1⟩ := h p hp
  unfold hq
  by_cases w : q < 64
  · rw [if_pos w, if_pos w]
    have := h0 q w
    rw [Nat.add_zero, Nat.zero_mul, Nat.zero_add] at this
    exact this
  · rw [if_neg w, if_neg w]
    have := h1 (q - 64) (by omega)
    rw [Nat.one_mul, show 64 + (q - 64) = q by omega] at this
    exact this
theorem hq_lo {lo hi : Int64} {j : Nat} (h : j < 64) : hq lo hi j = tl lo j := if_pos h
theorem hq_hi {lo hi : Int64} {j : Nat} : hq lo hi (64 + j) = tl hi j := by
  unfold hq
  rw [if_neg (by omega), Nat.add_sub_cancel_left]
/-- one place alone -/
theorem hq_1 {r x : Nat} (hr : r < 80) (hx : x < 128) : hq (if r < 64 then xlsl 1 (nI r) else 0) (if r < 64 then 0 else xlsl 1 (nI (r - 64))) x = true ↔ x = r := by
  unfold hq
  by_cases w : r < 64
  · rw [if_pos w, if_pos w]
    by_cases w2 : x < 64
    · rw [if_pos w2, tl_bit w w2, decide_eq_true_eq]
    · rw [if_neg w2, tl_0]
      constructor
      · intro e; cases e
      · omega
  · rw [if_neg w, if_neg w]
    by_cases w2 : x < 64
    · rw [if_pos w2, tl_0]
      constructor
      · intro e; cases e
      · omega
    · rw [if_neg w2, tl_bit (by omega) (by omega), decide_eq_true_eq]
      omega
/-- what both sides' rows are -/
def ctS (v : xV) (A : xH) : Prop := plD A v ∧ (plL v).length ≤ 80
theorem ct_T {v : xV} {A : xH} (h : ctS v A) : isST A (plL v).length (stT v) ∧ gaC A (plL v).length (stT v) := h.1.2 h.2
theorem pl_to {v : xV} {A : xH} {p s j : Nat} (h : ctS v A) (hp : p < (plL v).length) (hs : s < 24) (hj : j < 64) : (tl (xl A 42 ((p * 24 + s) * 2)) j = true → 0 * 64 + j < 80) ∧ (tl (xl A 42 ((p * 24 + s) * 2 + 1)) j = true → 64 + j < 80) := by
  have h80 := h.2
  refine ⟨fun _ => by omega, fun w => ?_⟩
  have := (hq_T (q := 64 + j) (ct_T h).1 hp hs (by omega)).mp (by rw [hq_hi]; exact w)
  have := (stT_pl this).2
  omega
theorem ns_pl {v : xV} {p q : Nat} (h : nsT (stT v) p q) : q < (plL v).length := by
  obtain ⟨s, -, -, h⟩ := h
  exact (stT_pl h).2
theorem pl_on {v : xV} {A : xH} {p j : Nat} (h : ctS v A) (hp : p < (plL v).length) (hj : j < 64) (w : tl (xl A 44 (p * 2 + 1)) j = true) : 64 + j < 80 := by
  have h80 := h.2
  have := (hq_o (q := 64 + j) (ct_T h).2 hp (by omega)).1.mp (by rw [hq_hi]; exact w)
  have := ns_pl this
  omega
theorem pl_tw {v : xV} {A : xH} {p j : Nat} (h : ctS v A) (hp : p < (plL v).length) (hj : j < 64) (w : tl (xl A 45 (p * 2 + 1)) j = true) : 64 + j < 80 := by
  have h80 := h.2
  obtain ⟨s, s', -, -, -, h1, -⟩ := (hq_o (q := 64 + j) (ct_T h).2 hp (by omega)).2.mp (by rw [hq_hi]; exact w)
  have := (stT_pl h1).2
  omega
theorem lsC_fr2 {S : Nat → Nat → Prop} {A B : xH} {l : List (Nat × Nat)} (h : lsC A l) (hf : fr S A B) (hs : ∀ c k, S c k → ¬ (39 ≤ c ∧ c ≤ 51)) : lsC B l := lsC_fr h hf fun c k w => by have := hs c k w; unfold SPl; omega
theorem ctS_fr {S : Nat → Nat → Prop} {A B : xH} {v : xV} (h : ctS v A) (hf : fr S A B) (hs : ∀ c k, S c k → ¬ (39 ≤ c ∧ c ≤ 51)) : ctS v B := by
  obtain ⟨⟨h1, h2⟩, h80⟩ := h
  obtain ⟨h3, h4⟩ := h2 h80
  refine ⟨⟨lsC_fr2 h1 hf hs, fun _ => ⟨isST_fr h3 hf fun c k w => by have := hs c k w; omega, fun p hp => ?_⟩⟩, h80⟩
  obtain ⟨⟨a, b⟩, c, d⟩ := h4 p hp
  have e46 : xi B 46 p = xi A 46 p := fr_i hf fun w => by have := hs _ _ w; omega
  have e44 : ∀ k, xl B 44 k = xl A 44 k := fun k => fr_l hf fun w => by have := hs _ _ w; omega
  have e45 : ∀ k, xl B 45 k = xl A 45 k := fun k => fr_l hf fun w => by have := hs _ _ w; omega
  unfold ga1 ga2
  simp only [e46, e44, e45]
  exact ⟨⟨a, b⟩, c, d⟩
/-! by signs -/
def e1C (v : xV) (s p r n m : Nat) : Prop := m / 6400 = s ∧ ∃ u, u < n ∧ stT v p u (m / 80 % 80) ∧ stT v r u (m % 80)
def gsP (A : xH) (P : xP) (v : xV) (R : Nat → Prop) (s p r : Nat) : Prop := ∀ B, fr SBy A B → byS (fun m => R m ∨ e1C v s p r 4 m) B → P none B
def f_X10_goBySigns (q : Nat) (x y z : Int32) (A : xH) (P : xP) : Prop := q = 52 ∧ ∃ (v : xV) (R : Nat → Prop) (s p r : Nat), x = nI s ∧ y = nI p ∧ z = nI r ∧ s < 4 ∧ p < (plL v).length ∧ r < (plL v).length ∧ ctS v A ∧ byS R A ∧ gsP A P v R s p r
def gs28 (A : xH) (P : xP) : xM → xK := fun μ L st B => ∃ (v : xV) (R : Nat → Prop) (s p r u : Nat) (o5 o6 o7 o8 o9 o10 : Option Value), s < 4 ∧ p < (plL v).length ∧ r < (plL v).length ∧ ctS v B ∧ fr SBy A B ∧ gsP A P v R s p r ∧ u ≤ 4 ∧ byS (fun m => R m ∨ e1C v s p r u m) B ∧ st = [] ∧ L = [some (.ref 52), some (.int (nI s)), some (.int (nI p)), some (.int (nI r)), some (.int (nI u)), o5, o6, o7, o8, o9, o10] ∧ μ = (4 - u, 0, 0)
theorem e1C_s {v : xV} {s p r u m : Nat} : e1C v s p r (u + 1) m ↔ e1C v s p r u m ∨ (m / 6400 = s ∧ stT v p u (m / 80 % 80) ∧ stT v r u (m % 80)) := by
  unfold e1C
  constructor
  · rintro ⟨a, w, b, c⟩
    by_cases e : w = u
    · subst e; exact Or.inr ⟨a, c⟩
    · exact Or.inl ⟨a, w, by omega, c⟩
  · rintro (⟨a, w, b, c⟩ | ⟨a, c⟩)
    · exact ⟨a, w, by omega, c⟩
    · exact ⟨a, u, by omega, c⟩
set_option maxRecDepth 20000 in
theorem con_X10_goBySigns (l : Launch) : xCon l yX10_goBySigns cX10_goBySigns 11 none 2 53 xN xN 0 xFT xFT (w_RIII f_X10_goBySigns) := by
  refine m_X10_goBySigns (I28 := fun q x y z A P => gs28 A P) ?_ ?_
  · rintro q x y z A P ⟨rfl, v, R, s, p, r, rfl, rfl, rfl, hs, hp, hr, hC, hS, hP⟩
    have h80 := hC.2
    obtain ⟨hT, hG⟩ := ct_T hC
    simp (disch := omega) only [k_X10_goBySigns_0, k_X10_goBySigns_28, k_X10_goBySigns_24, k_X10_goBySigns_135, w_RIJIJJ, x_aload, x_iadd, x_icmp_ge, x_if_eq, x_if_ne, x_iinc, x_iload, x_imul, x_istore, x_lcmp, x_lload, x_lor, x_lstore, x_push, x_vret, y_cv5, y_getF, y_iald, y_lald, xFT, xbool0, xbool1, Nat.reduceAdd, Nat.zero_add, xgl_0, xgl_s, xgl_n, xst_0, xst_1n, xst_1i, xst_1r, xst_1l, xst_s, set_0, set_s, true_and, and_true, xres, xcat_nil, xcat_i, xcat_r, xcat_l, Nat.add_zero, xble0, xble1, xble2, xble3, xble4, xble5, xble6, xble7, xble8, pk_mul, nI_add, nI_1, nI_leI, nI_ltI, nI_eq, n_in, n_cl, z_eq, z_lt, z_le, z_gt, z_ge, z_qe, o_eq, o_lt, o_le, o_gt, o_ge, vp0, vp1, cl0, cl1, n_sub, n_sub1, n_pm1, n_a0, n_0a, ofn, lN0, Nat.reduceLT, Nat.reduceLeDiff, Nat.reduceMul, Nat.reduceSub, Nat.reduceEqDiff, ne_eq, true_implies, false_implies, not_true_eq_false, not_false_eq_true, and_self, and_true, true_and, and_false, false_and, implies_true, if_true, if_false, i00, i10, i01, i11, ob_0, ob_1, tn_2, ln_2, ob_3, tn_4, ln_4, ob_5, tn_6, ln_6, tn_7, ln_7, ob_8, tn_9, ln_9, tn_10, ln_10, tn_11, ln_11, tn_12, ln_12, tn_13, ln_13, tn_14, ln_14, tn_15, ln_15, tn_16, ln_16, tn_17, ln_17, ob_18, tn_19, ln_19, tn_20, ln_20, tn_21, ln_21, tn_22, ln_22, tn_23, ln_23, tn_24, ln_24, tn_25, ln_25, tn_26, ln_26, tn_27, ln_27, ob_28, tn_29, ln_29, tn_30, ln_30, ob_31, tn_32, ln_32, tn_33, ln_33, ob_34, ob_35, tn_36, ln_36, tn_37, ln_37, tn_38, ln_38, ob_39, tn_40, ln_40, tn_41, ln_41, tn_42, ln_42, tn_43, ln_43, tn_44, ln_44, tn_45, ln_45, tn_46, ln_46, tn_47, ln_47, tn_48, ln_48, tn_49, ln_49, tn_50, ln_50, tn_51, ln_51, ob_52, tn_53, ln_53, tn_54, ln_54, tn_55, ln_55, tn_56, ln_56, ob_57, tn_58, ln_58, tn_59, ln_59, tn_60, ln_60, tn_61, ln_61, tn_62, ln_62, tn_63, ln_63, tn_64, ln_64, tn_65, ln_65, ob_66, tn_67, ln_67, tn_68, ln_68, tn_69, ln_69, tn_70, ln_70, tn_71, ln_71, tn_72, ln_72, tn_73, ln_73, ob_74, tn_75, ln_75, tn_76, ln_76, tn_77, ln_77, tn_78, ln_78, tn_79, ln_79, tn_80, ln_80, tn_81, ln_81, tn_82, ln_82, tn_83, ln_83, ob_84, tn_85, ln_85, tn_86, ln_86, tn_87, ln_87, tn_88, ln_88, tn_89, ln_89, tn_90, ln_90, tn_91, ln_91, tn_92, ln_92, tn_93, ln_93, ob_94, tn_95, ln_95, tn_96, ln_96, tn_97, ln_97, tn_98, ln_98, tn_99, ln_99, tn_100, ln_100, tn_101, ln_101, tn_102, ln_102, tn_103, ln_103, ob_104, tn_105, ln_105, tn_106, ln_106, tn_107, ln_107, tn_108, ln_108, tn_109, ln_109, tn_110, ln_110, tn_111, ln_111, tn_112, ln_112, tn_113, ln_113, ob_114, tn_115, ln_115, tn_116, ln_116, tn_117, ln_117, tn_118, ln_118, tn_119, ln_119, tn_120, ln_120, tn_121, ln_121, tn_122, ln_122, tn_123, ln_123, ob_124, tn_125, ln_125, tn_126, ln_126, tn_127, ln_127, tn_128, ln_128, tn_129, ln_129, tn_130, ln_130, tn_131, ln_131, tn_132, ln_132, tn_133, ln_133, ob_134, tn_135, ln_135, tn_136, ln_136, tn_137, ln_137, tn_138, ln_138, tn_139, ln_139, tn_140, ln_140, tn_141, ln_141, tn_142, ln_142, tn_143, ln_143, ob_144, tn_145, ln_145, tn_146, ln_146, tn_147, ln_147, tn_148, ln_148, tn_149, ln_149, tn_150, ln_150, tn_151, ln_151, tn_152, ln_152, tn_153, ln_153, ob_154, tn_155, ln_155, tn_156, ln_156, tn_157, ln_157, tn_158, ln_158, tn_159, ln_159, tn_160, ln_160, tn_161, ln_161, tn_162, ln_162, tn_163, ln_163, ob_164, tn_165, ln_165, tn_166, ln_166, ob_167, tn_168, ln_168, tn_169, ln_169, tn_170, ln_170, tn_171, ln_171, tn_172, ln_172, tn_173, ln_173, tn_174, ln_174, tn_175, ln_175, tn_176, ln_176, ob_177, tn_178, ln_178, tn_179, ln_179, ob_180, tn_181, ln_181, tn_182, ln_182, tn_183, ln_183, tn_184, ln_184, tn_185, ln_185, tn_186, ln_186, tn_187, ln_187, tn_188, ln_188, tn_189, ln_189, tn_190, ln_190, tn_191, ln_191, tn_192, ln_192, tn_193, ln_193, tn_194, ln_194, tn_195, ln_195, tn_196, ln_196, tn_197, ln_197, tn_198, ln_198, tn_199, ln_199, tn_200, ln_200, tn_201, ln_201, tn_202, ln_202, tn_203, ln_203, tn_204, ln_204, tn_205, ln_205, tn_206, ln_206, tn_207, ln_207, tn_208, ln_208, tn_209, ln_209, tn_210, ln_210, tn_211, ln_211, tn_212, ln_212, tn_213, ln_213, tn_214, ln_214, tn_215, ln_215, tn_216, ln_216, tn_217, ln_217, tn_218, ln_218, tn_219, ln_219, tn_220, ln_220, tn_221, ln_221, tn_222, ln_222, tn_223, ln_223, tn_224, ln_224, tn_225, ln_225, tn_226, ln_226, tn_227, ln_227, tn_228, ln_228, tn_229, ln_229, tn_230, ln_230, lx2, lx3, lx4, lx5, lx6, lx7, lx8, lx9, lx10, lx14, lx15, lx16, lx18, lx20, lx24, lx25, lx27, lx32, lx36, lx40, lx41, lx42, lx43, lx45, lx48, lx52, lx54, lx56, lx57, lx58, lx60, lx61, lx62, lx63, lx64, lx66, lx69, lx73, lx80, lx81, lx84, lx85, lx87, lx94, lx96, lx97, lx120, lx128, lx135, lx160, lx162, lx163, lx165, lx200, lx232, lx242, lx243, lx255, lx256, lx320, lx325, lx400, lx405, lx464, lx512, lx600, lx640, lx752, lx900, lx940, lx1000, lx1024, lx1764, lx3360, lx3840, lx5000, lx6400, lx9050, lx9998, lx9999, lx10000, lx25600, lx76800, lx99999, si_ne, si_eq, sl_ne, sl_eq, xl_si, xi_sl, sA_ne, sA_eq, xl_sA]
    have h0 : ∀ p', p' < (plL v).length → xi A 46 p' = 0 → ∀ u q, u < 4 → ¬ stT v p' u q := fun p' hp' e u q hu w => by
      obtain ⟨⟨a, b⟩, -⟩ := hG p' hp'
      have := (stT_pl w).2
      have := b.mpr ⟨u, hu, q, by omega, w⟩
      rw [this] at e
      exact absurd e (by decide)
    have none' : (∀ m, ¬ e1C v s p r 4 m) → P none A := fun w => hP A fr_rf (byS_congr hS fun m _ => ⟨Or.inl, fun x => x.elim id fun x => absurd x (w m)⟩)
    refine ⟨by omega, fun z => none' fun m ⟨_, u, hu, w, _⟩ => h0 p hp z u _ hu w, fun z => ⟨by omega, fun z2 => ?_, fun z2 => none' fun m ⟨_, u, hu, _, w⟩ => h0 r hr z2 u _ hu w⟩⟩
    exact xE0 (4 - 0, 0, 0) ⟨v, R, s, p, r, 0, none, none, none, none, none, none, hs, hp, hr, hC, fr_rf, hP, by omega, byS_congr hS fun m _ => ⟨Or.inl, fun x => x.elim id fun ⟨_, u, hu, _⟩ => absurd hu (Nat.not_lt_zero u)⟩, rfl, rfl, rfl⟩
  · rintro q x y z A P - μ L st B ⟨v, R, s, p, r, u, o5, o6, o7, o8, o9, o10, hs, hp, hr, hC, hF, hP, hu, hS, rfl, rfl, rfl⟩
    have h80 := hC.2
    obtain ⟨hT, hG⟩ := ct_T hC
    simp (disch := omega) only [k_X10_goBySigns_0, k_X10_goBySigns_28, k_X10_goBySigns_24, k_X10_goBySigns_135, w_RIJIJJ, x_aload, x_iadd, x_icmp_ge, x_if_eq, x_if_ne, x_iinc, x_iload, x_imul, x_istore, x_lcmp, x_lload, x_lor, x_lstore, x_push, x_vret, y_cv5, y_getF, y_iald, y_lald, xFT, xbool0, xbool1, Nat.reduceAdd, Nat.zero_add, xgl_0, xgl_s, xgl_n, xst_0, xst_1n, xst_1i, xst_1r, xst_1l, xst_s, set_0, set_s, true_and, and_true, xres, xcat_nil, xcat_i, xcat_r, xcat_l, Nat.add_zero, xble0, xble1, xble2, xble3, xble4, xble5, xble6, xble7, xble8, pk_mul, nI_add, nI_1, nI_leI, nI_ltI, nI_eq, n_in, n_cl, z_eq, z_lt, z_le, z_gt, z_ge, z_qe, o_eq, o_lt, o_le, o_gt, o_ge, vp0, vp1, cl0, cl1, n_sub, n_sub1, n_pm1, n_a0, n_0a, ofn, lN0, Nat.reduceLT, Nat.reduceLeDiff, Nat.reduceMul, Nat.reduceSub, Nat.reduceEqDiff, ne_eq, true_implies, false_implies, not_true_eq_false, not_false_eq_true, and_self, and_true, true_and, and_false, false_and, implies_true, if_true, if_false, i00, i10, i01, i11, ob_0, ob_1, tn_2, ln_2, ob_3, tn_4, ln_4, ob_5, tn_6, ln_6, tn_7, ln_7, ob_8, tn_9, ln_9, tn_10, ln_10, tn_11, ln_11, tn_12, ln_12, tn_13, ln_13, tn_14, ln_14, tn_15, ln_15, tn_16, ln_16, tn_17, ln_17, ob_18, tn_19, ln_19, tn_20, ln_20, tn_21, ln_21, tn_22, ln_22, tn_23, ln_23, tn_24, ln_24, tn_25, ln_25, tn_26, ln_26, tn_27, ln_27, ob_28, tn_29, ln_29, tn_30, ln_30, ob_31, tn_32, ln_32, tn_33, ln_33, ob_34, ob_35, tn_36, ln_36, tn_37, ln_37, tn_38, ln_38, ob_39, tn_40, ln_40, tn_41, ln_41, tn_42, ln_42, tn_43, ln_43, tn_44, ln_44, tn_45, ln_45, tn_46, ln_46, tn_47, ln_47, tn_48, ln_48, tn_49, ln_49, tn_50, ln_50, tn_51, ln_51, ob_52, tn_53, ln_53, tn_54, ln_54, tn_55, ln_55, tn_56, ln_56, ob_57, tn_58, ln_58, tn_59, ln_59, tn_60, ln_60, tn_61, ln_61, tn_62, ln_62, tn_63, ln_63, tn_64, ln_64, tn_65, ln_65, ob_66, tn_67, ln_67, tn_68, ln_68, tn_69, ln_69, tn_70, ln_70, tn_71, ln_71, tn_72, ln_72, tn_73, ln_73, ob_74, tn_75, ln_75, tn_76, ln_76, tn_77, ln_77, tn_78, ln_78, tn_79, ln_79, tn_80, ln_80, tn_81, ln_81, tn_82, ln_82, tn_83, ln_83, ob_84, tn_85, ln_85, tn_86, ln_86, tn_87, ln_87, tn_88, ln_88, tn_89, ln_89, tn_90, ln_90, tn_91, ln_91, tn_92, ln_92, tn_93, ln_93, ob_94, tn_95, ln_95, tn_96, ln_96, tn_97, ln_97, tn_98, ln_98, tn_99, ln_99, tn_100, ln_100, tn_101, ln_101, tn_102, ln_102, tn_103, ln_103, ob_104, tn_105, ln_105, tn_106, ln_106, tn_107, ln_107, tn_108, ln_108, tn_109, ln_109, tn_110, ln_110, tn_111, ln_111, tn_112, ln_112, tn_113, ln_113, ob_114, tn_115, ln_115, tn_116, ln_116, tn_117, ln_117, tn_118, ln_118, tn_119, ln_119, tn_120, ln_120, tn_121, ln_121, tn_122, ln_122, tn_123, ln_123, ob_124, tn_125, ln_125, tn_126, ln_126, tn_127, ln_127, tn_128, ln_128, tn_129, ln_129, tn_130, ln_130, tn_131, ln_131, tn_132, ln_132, tn_133, ln_133, ob_134, tn_135, ln_135, tn_136, ln_136, tn_137, ln_137, tn_138, ln_138, tn_139, ln_139, tn_140, ln_140, tn_141, ln_141, tn_142, ln_142, tn_143, ln_143, ob_144, tn_145, ln_145, tn_146, ln_146, tn_147, ln_147, tn_148, ln_148, tn_149, ln_149, tn_150, ln_150, tn_151, ln_151, tn_152, ln_152, tn_153, ln_153, ob_154, tn_155, ln_155, tn_156, ln_156, tn_157, ln_157, tn_158, ln_158, tn_159, ln_159, tn_160, ln_160, tn_161, ln_161, tn_162, ln_162, tn_163, ln_163, ob_164, tn_165, ln_165, tn_166, ln_166, ob_167, tn_168, ln_168, tn_169, ln_169, tn_170, ln_170, tn_171, ln_171, tn_172, ln_172, tn_173, ln_173, tn_174, ln_174, tn_175, ln_175, tn_176, ln_176, ob_177, tn_178, ln_178, tn_179, ln_179, ob_180, tn_181, ln_181, tn_182, ln_182, tn_183, ln_183, tn_184, ln_184, tn_185, ln_185, tn_186, ln_186, tn_187, ln_187, tn_188, ln_188, tn_189, ln_189, tn_190, ln_190, tn_191, ln_191, tn_192, ln_192, tn_193, ln_193, tn_194, ln_194, tn_195, ln_195, tn_196, ln_196, tn_197, ln_197, tn_198, ln_198, tn_199, ln_199, tn_200, ln_200, tn_201, ln_201, tn_202, ln_202, tn_203, ln_203, tn_204, ln_204, tn_205, ln_205, tn_206, ln_206, tn_207, ln_207, tn_208, ln_208, tn_209, ln_209, tn_210, ln_210, tn_211, ln_211, tn_212, ln_212, tn_213, ln_213, tn_214, ln_214, tn_215, ln_215, tn_216, ln_216, tn_217, ln_217, tn_218, ln_218, tn_219, ln_219, tn_220, ln_220, tn_221, ln_221, tn_222, ln_222, tn_223, ln_223, tn_224, ln_224, tn_225, ln_225, tn_226, ln_226, tn_227, ln_227, tn_228, ln_228, tn_229, ln_229, tn_230, ln_230, lx2, lx3, lx4, lx5, lx6, lx7, lx8, lx9, lx10, lx14, lx15, lx16, lx18, lx20, lx24, lx25, lx27, lx32, lx36, lx40, lx41, lx42, lx43, lx45, lx48, lx52, lx54, lx56, lx57, lx58, lx60, lx61, lx62, lx63, lx64, lx66, lx69, lx73, lx80, lx81, lx84, lx85, lx87, lx94, lx96, lx97, lx120, lx128, lx135, lx160, lx162, lx163, lx165, lx200, lx232, lx242, lx243, lx255, lx256, lx320, lx325, lx400, lx405, lx464, lx512, lx600, lx640, lx752, lx900, lx940, lx1000, lx1024, lx1764, lx3360, lx3840, lx5000, lx6400, lx9050, lx9998, lx9999, lx10000, lx25600, lx76800, lx99999, si_ne, si_eq, sl_ne, sl_eq, xl_si, xi_sl, sA_ne, sA_eq, xl_sA, lcmp0]
    refine ⟨fun z => ?_, fun z => ⟨by omega, by omega, fun w => ?_, fun w => ⟨by omega, ?_⟩⟩⟩
    · have : u = 4 := by omega
      subst this
      exact hP B hF hS
    · refine xB1 (b := 4 - (u + 1)) (by omega) ⟨v, R, s, p, r, u + 1, _, _, _, _, _, _, hs, hp, hr, hC, hF, hP, by omega, byS_congr hS fun m _ => ?_, rfl, rfl, rfl⟩
      rw [e1C_s]
      constructor
      · rintro (a | a)
        · exact Or.inl a
        · exact Or.inr (Or.inl a)
      · rintro (a | a | ⟨-, -, a⟩)
        · exact Or.inl a
        · exact Or.inr a
        · exfalso
          have hm := Nat.mod_lt m (show 80 > 0 by omega)
          have := (hq_T hT hr (show u < 24 by omega) (show m % 80 < 128 by omega)).mpr a
          have w := or_nz.mp w
          unfold hq at this
          split at this
          · rw [(w _ (by omega)).1] at this; cases this
          · rw [(w _ (by omega)).2] at this; cases this
    · have hh := fun j (hj : j < 64) => pl_to hC hr (show u < 24 by omega) hj
      have hx := fun j (hj : j < 64) => pl_to hC hp (show u < 24 by omega) hj
      refine ⟨rfl, _, s, 0, rfl, hs, rfl, by omega, hS, fun j hj => (hx j hj).1, fun j hj => (hh j hj).2, fun C hC1 hS1 => ?_⟩
      simp (disch := omega) only [k_X10_goBySigns_0, k_X10_goBySigns_28, k_X10_goBySigns_24, k_X10_goBySigns_135, w_RIJIJJ, x_aload, x_iadd, x_icmp_ge, x_if_eq, x_if_ne, x_iinc, x_iload, x_imul, x_istore, x_lcmp, x_lload, x_lor, x_lstore, x_push, x_vret, y_cv5, y_getF, y_iald, y_lald, xFT, xbool0, xbool1, Nat.reduceAdd, Nat.zero_add, xgl_0, xgl_s, xgl_n, xst_0, xst_1n, xst_1i, xst_1r, xst_1l, xst_s, set_0, set_s, true_and, and_true, xres, xcat_nil, xcat_i, xcat_r, xcat_l, Nat.add_zero, xble0, xble1, xble2, xble3, xble4, xble5, xble6, xble7, xble8, pk_mul, nI_add, nI_1, nI_leI, nI_ltI, nI_eq, n_in, n_cl, z_eq, z_lt, z_le, z_gt, z_ge, z_qe, o_eq, o_lt, o_le, o_gt, o_ge, vp0, vp1, cl0, cl1, n_sub, n_sub1, n_pm1, n_a0, n_0a, ofn, lN0, Nat.reduceLT, Nat.reduceLeDiff, Nat.reduceMul, Nat.reduceSub, Nat.reduceEqDiff, ne_eq, true_implies, false_implies, not_true_eq_false, not_false_eq_true, and_self, and_true, true_and, and_false, false_and, implies_true, if_true, if_false, i00, i10, i01, i11, ob_0, ob_1, tn_2, ln_2, ob_3, tn_4, ln_4, ob_5, tn_6, ln_6, tn_7, ln_7, ob_8, tn_9, ln_9, tn_10, ln_10, tn_11, ln_11, tn_12, ln_12, tn_13, ln_13, tn_14, ln_14, tn_15, ln_15, tn_16, ln_16, tn_17, ln_17, ob_18, tn_19, ln_19, tn_20, ln_20, tn_21, ln_21, tn_22, ln_22, tn_23, ln_23, tn_24, ln_24, tn_25, ln_25, tn_26, ln_26, tn_27, ln_27, ob_28, tn_29, ln_29, tn_30, ln_30, ob_31, tn_32, ln_32, tn_33, ln_33, ob_34, ob_35, tn_36, ln_36, tn_37, ln_37, tn_38, ln_38, ob_39, tn_40, ln_40, tn_41, ln_41, tn_42, ln_42, tn_43, ln_43, tn_44, ln_44, tn_45, ln_45, tn_46, ln_46, tn_47, ln_47, tn_48, ln_48, tn_49, ln_49, tn_50, ln_50, tn_51, ln_51, ob_52, tn_53, ln_53, tn_54, ln_54, tn_55, ln_55, tn_56, ln_56, ob_57, tn_58, ln_58, tn_59, ln_59, tn_60, ln_60, tn_61, ln_61, tn_62, ln_62, tn_63, ln_63, tn_64, ln_64, tn_65, ln_65, ob_66, tn_67, ln_67, tn_68, ln_68, tn_69, ln_69, tn_70, ln_70, tn_71, ln_71, tn_72, ln_72, tn_73, ln_73, ob_74, tn_75, ln_75, tn_76, ln_76, tn_77, ln_77, tn_78, ln_78, tn_79, ln_79, tn_80, ln_80, tn_81, ln_81, tn_82, ln_82, tn_83, ln_83, ob_84, tn_85, ln_85, tn_86, ln_86, tn_87, ln_87, tn_88, ln_88, tn_89, ln_89, tn_90, ln_90, tn_91, ln_91, tn_92, ln_92, tn_93, ln_93, ob_94, tn_95, ln_95, tn_96, ln_96, tn_97, ln_97, tn_98, ln_98, tn_99, ln_99, tn_100, ln_100, tn_101, ln_101, tn_102, ln_102, tn_103, ln_103, ob_104, tn_105, ln_105, tn_106, ln_106, tn_107, ln_107, tn_108, ln_108, tn_109, ln_109, tn_110, ln_110, tn_111, ln_111, tn_112, ln_112, tn_113, ln_113, ob_114, tn_115, ln_115, tn_116, ln_116, tn_117, ln_117, tn_118, ln_118, tn_119, ln_119, tn_120, ln_120, tn_121, ln_121, tn_122, ln_122, tn_123, ln_123, ob_124, tn_125, ln_125, tn_126, ln_126, tn_127, ln_127, tn_128, ln_128, tn_129, ln_129, tn_130, ln_130, tn_131, ln_131, tn_132, ln_132, tn_133, ln_133, ob_134, tn_135, ln_135, tn_136, ln_136, tn_137, ln_137, tn_138, ln_138, tn_139, ln_139, tn_140, ln_140, tn_141, ln_141, tn_142, ln_142, tn_143, ln_143, ob_144, tn_145, ln_145, tn_146, ln_146, tn_147, ln_147, tn_148, ln_148, tn_149, ln_149, tn_150, ln_150, tn_151, ln_151, tn_152, ln_152, tn_153, ln_153, ob_154, tn_155, ln_155, tn_156, ln_156, tn_157, ln_157, tn_158, ln_158, tn_159, ln_159, tn_160, ln_160, tn_161, ln_161, tn_162, ln_162, tn_163, ln_163, ob_164, tn_165, ln_165, tn_166, ln_166, ob_167, tn_168, ln_168, tn_169, ln_169, tn_170, ln_170, tn_171, ln_171, tn_172, ln_172, tn_173, ln_173, tn_174, ln_174, tn_175, ln_175, tn_176, ln_176, ob_177, tn_178, ln_178, tn_179, ln_179, ob_180, tn_181, ln_181, tn_182, ln_182, tn_183, ln_183, tn_184, ln_184, tn_185, ln_185, tn_186, ln_186, tn_187, ln_187, tn_188, ln_188, tn_189, ln_189, tn_190, ln_190, tn_191, ln_191, tn_192, ln_192, tn_193, ln_193, tn_194, ln_194, tn_195, ln_195, tn_196, ln_196, tn_197, ln_197, tn_198, ln_198, tn_199, ln_199, tn_200, ln_200, tn_201, ln_201, tn_202, ln_202, tn_203, ln_203, tn_204, ln_204, tn_205, ln_205, tn_206, ln_206, tn_207, ln_207, tn_208, ln_208, tn_209, ln_209, tn_210, ln_210, tn_211, ln_211, tn_212, ln_212, tn_213, ln_213, tn_214, ln_214, tn_215, ln_215, tn_216, ln_216, tn_217, ln_217, tn_218, ln_218, tn_219, ln_219, tn_220, ln_220, tn_221, ln_221, tn_222, ln_222, tn_223, ln_223, tn_224, ln_224, tn_225, ln_225, tn_226, ln_226, tn_227, ln_227, tn_228, ln_228, tn_229, ln_229, tn_230, ln_230, lx2, lx3, lx4, lx5, lx6, lx7, lx8, lx9, lx10, lx14, lx15, lx16, lx18, lx20, lx24, lx25, lx27, lx32, lx36, lx40, lx41, lx42, lx43, lx45, lx48, lx52, lx54, lx56, lx57, lx58, lx60, lx61, lx62, lx63, lx64, lx66, lx69, lx73, lx80, lx81, lx84, lx85, lx87, lx94, lx96, lx97, lx120, lx128, lx135, lx160, lx162, lx163, lx165, lx200, lx232, lx242, lx243, lx255, lx256, lx320, lx325, lx400, lx405, lx464, lx512, lx600, lx640, lx752, lx900, lx940, lx1000, lx1024, lx1764, lx3360, lx3840, lx5000, lx6400, lx9050, lx9998, lx9999, lx10000, lx25600, lx76800, lx99999, si_ne, si_eq, sl_ne, sl_eq, xl_si, xi_sl, sA_ne, sA_eq, xl_sA, lcmp0]
      have e42 : ∀ k, xl C 42 k = xl B 42 k := fun k => fr_l hC1 (by unfold SBy; omega)
      rw [e42]
      refine ⟨by omega, rfl, _, s, 1, rfl, hs, rfl, by omega, hS1, fun j hj w => by have := (hx j hj).2 w; omega, fun j hj => (hh j hj).2, fun D hD hS2 => ?_⟩
      simp (disch := omega) only [k_X10_goBySigns_0, k_X10_goBySigns_28, k_X10_goBySigns_24, k_X10_goBySigns_135, w_RIJIJJ, x_aload, x_iadd, x_icmp_ge, x_if_eq, x_if_ne, x_iinc, x_iload, x_imul, x_istore, x_lcmp, x_lload, x_lor, x_lstore, x_push, x_vret, y_cv5, y_getF, y_iald, y_lald, xFT, xbool0, xbool1, Nat.reduceAdd, Nat.zero_add, xgl_0, xgl_s, xgl_n, xst_0, xst_1n, xst_1i, xst_1r, xst_1l, xst_s, set_0, set_s, true_and, and_true, xres, xcat_nil, xcat_i, xcat_r, xcat_l, Nat.add_zero, xble0, xble1, xble2, xble3, xble4, xble5, xble6, xble7, xble8, pk_mul, nI_add, nI_1, nI_leI, nI_ltI, nI_eq, n_in, n_cl, z_eq, z_lt, z_le, z_gt, z_ge, z_qe, o_eq, o_lt, o_le, o_gt, o_ge, vp0, vp1, cl0, cl1, n_sub, n_sub1, n_pm1, n_a0, n_0a, ofn, lN0, Nat.reduceLT, Nat.reduceLeDiff, Nat.reduceMul, Nat.reduceSub, Nat.reduceEqDiff, ne_eq, true_implies, false_implies, not_true_eq_false, not_false_eq_true, and_self, and_true, true_and, and_false, false_and, implies_true, if_true, if_false, i00, i10, i01, i11, ob_0, ob_1, tn_2, ln_2, ob_3, tn_4, ln_4, ob_5, tn_6, ln_6, tn_7, ln_7, ob_8, tn_9, ln_9, tn_10, ln_10, tn_11, ln_11, tn_12, ln_12, tn_13, ln_13, tn_14, ln_14, tn_15, ln_15, tn_16, ln_16, tn_17, ln_17, ob_18, tn_19, ln_19, tn_20, ln_20, tn_21, ln_21, tn_22, ln_22, tn_23, ln_23, tn_24, ln_24, tn_25, ln_25, tn_26, ln_26, tn_27, ln_27, ob_28, tn_29, ln_29, tn_30, ln_30, ob_31, tn_32, ln_32, tn_33, ln_33, ob_34, ob_35, tn_36, ln_36, tn_37, ln_37, tn_38, ln_38, ob_39, tn_40, ln_40, tn_41, ln_41, tn_42, ln_42, tn_43, ln_43, tn_44, ln_44, tn_45, ln_45, tn_46, ln_46, tn_47, ln_47, tn_48, ln_48, tn_49, ln_49, tn_50, ln_50, tn_51, ln_51, ob_52, tn_53, ln_53, tn_54, ln_54, tn_55, ln_55, tn_56, ln_56, ob_57, tn_58, ln_58, tn_59, ln_59, tn_60, ln_60, tn_61, ln_61, tn_62, ln_62, tn_63, ln_63, tn_64, ln_64, tn_65, ln_65, ob_66, tn_67, ln_67, tn_68, ln_68, tn_69, ln_69, tn_70, ln_70, tn_71, ln_71, tn_72, ln_72, tn_73, ln_73, ob_74, tn_75, ln_75, tn_76, ln_76, tn_77, ln_77, tn_78, ln_78, tn_79, ln_79, tn_80, ln_80, tn_81, ln_81, tn_82, ln_82, tn_83, ln_83, ob_84, tn_85, ln_85, tn_86, ln_86, tn_87, ln_87, tn_88, ln_88, tn_89, ln_89, tn_90, ln_90, tn_91, ln_91, tn_92, ln_92, tn_93, ln_93, ob_94, tn_95, ln_95, tn_96, ln_96, tn_97, ln_97, tn_98, ln_98, tn_99, ln_99, tn_100, ln_100, tn_101, ln_101, tn_102, ln_102, tn_103, ln_103, ob_104, tn_105, ln_105, tn_106, ln_106, tn_107, ln_107, tn_108, ln_108, tn_109, ln_109, tn_110, ln_110, tn_111, ln_111, tn_112, ln_112, tn_113, ln_113, ob_114, tn_115, ln_115, tn_116, ln_116, tn_117, ln_117, tn_118, ln_118, tn_119, ln_119, tn_120, ln_120, tn_121, ln_121, tn_122, ln_122, tn_123, ln_123, ob_124, tn_125, ln_125, tn_126, ln_126, tn_127, ln_127, tn_128, ln_128, tn_129, ln_129, tn_130, ln_130, tn_131, ln_131, tn_132, ln_132, tn_133, ln_133, ob_134, tn_135, ln_135, tn_136, ln_136, tn_137, ln_137, tn_138, ln_138, tn_139, ln_139, tn_140, ln_140, tn_141, ln_141, tn_142, ln_142, tn_143, ln_143, ob_144, tn_145, ln_145, tn_146, ln_146, tn_147, ln_147, tn_148, ln_148, tn_149, ln_149, tn_150, ln_150, tn_151, ln_151, tn_152, ln_152, tn_153, ln_153, ob_154, tn_155, ln_155, tn_156, ln_156, tn_157, ln_157, tn_158, ln_158, tn_159, ln_159, tn_160, ln_160, tn_161, ln_161, tn_162, ln_162, tn_163, ln_163, ob_164, tn_165, ln_165, tn_166, ln_166, ob_167, tn_168, ln_168, tn_169, ln_169, tn_170, ln_170, tn_171, ln_171, tn_172, ln_172, tn_173, ln_173, tn_174, ln_174, tn_175, ln_175, tn_176, ln_176, ob_177, tn_178, ln_178, tn_179, ln_179, ob_180, tn_181, ln_181, tn_182, ln_182, tn_183, ln_183, tn_184, ln_184, tn_185, ln_185, tn_186, ln_186, tn_187, ln_187, tn_188, ln_188, tn_189, ln_189, tn_190, ln_190, tn_191, ln_191, tn_192, ln_192, tn_193, ln_193, tn_194, ln_194, tn_195, ln_195, tn_196, ln_196, tn_197, ln_197, tn_198, ln_198, tn_199, ln_199, tn_200, ln_200, tn_201, ln_201, tn_202, ln_202, tn_203, ln_203, tn_204, ln_204, tn_205, ln_205, tn_206, ln_206, tn_207, ln_207, tn_208, ln_208, tn_209, ln_209, tn_210, ln_210, tn_211, ln_211, tn_212, ln_212, tn_213, ln_213, tn_214, ln_214, tn_215, ln_215, tn_216, ln_216, tn_217, ln_217, tn_218, ln_218, tn_219, ln_219, tn_220, ln_220, tn_221, ln_221, tn_222, ln_222, tn_223, ln_223, tn_224, ln_224, tn_225, ln_225, tn_226, ln_226, tn_227, ln_227, tn_228, ln_228, tn_229, ln_229, tn_230, ln_230, lx2, lx3, lx4, lx5, lx6, lx7, lx8, lx9, lx10, lx14, lx15, lx16, lx18, lx20, lx24, lx25, lx27, lx32, lx36, lx40, lx41, lx42, lx43, lx45, lx48, lx52, lx54, lx56, lx57, lx58, lx60, lx61, lx62, lx63, lx64, lx66, lx69, lx73, lx80, lx81, lx84, lx85, lx87, lx94, lx96, lx97, lx120, lx128, lx135, lx160, lx162, lx163, lx165, lx200, lx232, lx242, lx243, lx255, lx256, lx320, lx325, lx400, lx405, lx464, lx512, lx600, lx640, lx752, lx900, lx940, lx1000, lx1024, lx1764, lx3360, lx3840, lx5000, lx6400, lx9050, lx9998, lx9999, lx10000, lx25600, lx76800, lx99999, si_ne, si_eq, sl_ne, sl_eq, xl_si, xi_sl, sA_ne, sA_eq, xl_sA, lcmp0]
      refine xB1 (b := 4 - (u + 1)) (by omega) ⟨v, R, s, p, r, u + 1, _, _, _, _, _, _, hs, hp, hr, ctS_fr hC (fr_tr hC1 hD) (by unfold SBy; omega), fr_tr hF (fr_tr hC1 hD), hP, by omega, byS_congr hS2 fun m _ => ?_, rfl, rfl, rfl⟩
      have hm := Nat.mod_lt m (show 80 > 0 by omega)
      have hm2 := Nat.mod_lt (m / 80) (show 80 > 0 by omega)
      rw [e1C_s, or_assoc, vs_2, hq_T hT hr (show u < 24 by omega) (show m % 80 < 128 by omega), hq_T hT hp (show u < 24 by omega) (show m / 80 % 80 < 128 by omega), or_assoc]
/-! both by steps that are no signs -/
theorem hq_or {a b c d : Int64} {q : Nat} : hq (a ||| b) (c ||| d) q = (hq a c q || hq b d q) := by
  unfold hq
  split
  · exact tl_or
  · exact tl_or
theorem hq_an {a b c d : Int64} {q : Nat} : hq (a &&& b) (c &&& d) q = (hq a c q && hq b d q) := by
  unfold hq
  split
  · exact tl_and
  · exact tl_and
theorem hq_xm {a c : Int64} {q : Nat} (h : q < 128) : hq (a ^^^ -1) (c ^^^ -1) q = !hq a c q := by
  unfold hq
  split
  · rw [tl_xm, decide_eq_true (by omega)]; rfl
  · rw [tl_xm, decide_eq_true (by omega)]; rfl
theorem hq_un {A : xH} {n r u x : Nat} {T : Nat → Nat → Nat → Prop} (hT : isST A n T) (hG : gaC A n T) (hr : r < n) (h4 : 4 ≤ u) (hu : u < 24) (hx : x < 128) : hq (xl A 45 (r * 2) ||| xl A 44 (r * 2) &&& (xl A 42 ((r * 24 + u) * 2) ^^^ -1)) (xl A 45 (r * 2 + 1) ||| xl A 44 (r * 2 + 1) &&& (xl A 42 ((r * 24 + u) * 2 + 1) ^^^ -1)) x = true ↔ ∃ w, w ≠ u ∧ 4 ≤ w ∧ w < 24 ∧ T r w x := by
  obtain ⟨o1, o2⟩ := hq_o hG hr hx
  have o3 := hq_T hT hr hu hx
  rw [hq_or, hq_an, hq_xm hx, Bool.or_eq_true, Bool.and_eq_true, o1, o2, Bool.not_eq_true', ← Bool.not_eq_true, o3]
  constructor
  · rintro (⟨s, s', a, b, c, d, e⟩ | ⟨⟨s, a, b, c⟩, d⟩)
    · by_cases w : s = u
      · exact ⟨s', by omega, by omega, c, e⟩
      · exact ⟨s, w, a, by omega, d⟩
    · exact ⟨s, fun w => d (by rw [← w]; exact c), a, b, c⟩
  · rintro ⟨w, a, b, c, d⟩
    by_cases e : T r u x
    · rcases Nat.lt_or_ge w u with q | q
      · exact Or.inl ⟨w, u, b, q, hu, d, e⟩
      · exact Or.inl ⟨u, w, h4, by omega, c, e, d⟩
    · exact Or.inr ⟨⟨w, b, c, d⟩, e⟩
def tzC (v : xV) (p r n m : Nat) : Prop := ∃ u, 4 ≤ u ∧ u < n ∧ stT v p u (m / 80 % 80) ∧ ((m / 6400 = 0 ∧ stT v r u (m % 80)) ∨ (m / 6400 = 1 ∧ ∃ w, w ≠ u ∧ 4 ≤ w ∧ w < 24 ∧ stT v r w (m % 80)))
def gtP (A : xH) (P : xP) (R : Nat → Prop) (Q : Nat → Prop) (n : Nat) : Prop := ∀ B n', fr (SEn 53) A B → n ≤ n' → (∀ k, k < n → xi B 56 k = xi A 56 k) → csS 53 (fun m => R m ∨ Q m) n' B → P none B
def f_X10_goTogether (q : Nat) (y z : Int32) (A : xH) (P : xP) : Prop := q = 52 ∧ ∃ (v : xV) (R : Nat → Prop) (n p r : Nat), y = nI p ∧ z = nI r ∧ p < (plL v).length ∧ r < (plL v).length ∧ ctS v A ∧ csS 53 R n A ∧ gtP A P R (tzC v p r 24) n
def gt40 (A : xH) (P : xP) : xM → xK := fun μ L st B => ∃ (v : xV) (R : Nat → Prop) (n p r u n' : Nat) (o8 o9 o10 o11 o12 o13 o14 o15 o16 o17 : Option Value), p < (plL v).length ∧ r < (plL v).length ∧ ctS v B ∧ fr (SEn 53) A B ∧ gtP A P R (tzC v p r 24) n ∧ 4 ≤ u ∧ u ≤ 24 ∧ n ≤ n' ∧ (∀ k, k < n → xi B 56 k = xi A 56 k) ∧ csS 53 (fun m => R m ∨ tzC v p r u m) n' B ∧ st = [] ∧ L = [some (.ref 52), some (.int (nI p)), some (.int (nI r)), some (.long (xl B 44 (r * 2))), none, some (.long (xl B 44 (r * 2 + 1))), none, some (.int (nI u)), o8, o9, o10, o11, o12, o13, o14, o15, o16, o17] ∧ μ = (24 - u, 0, 0)
set_option maxRecDepth 20000 in
theorem con_X10_goTogether (l : Launch) : xCon l yX10_goTogether cX10_goTogether 18 none 3 81 xN xN 0 xFT xFT (w_RII f_X10_goTogether) := by
  refine m_X10_goTogether (I40 := fun q y z A P => gt40 A P) ?_ ?_
  · rintro q y z A P ⟨rfl, v, R, n, p, r, rfl, rfl, hp, hr, hC, hS, hP⟩
    have h80 := hC.2
    obtain ⟨hT, hG⟩ := ct_T hC
    simp (disch := omega) only [k_X10_goTogether_0, k_X10_goTogether_40, w_RIJIJJ, x_aload, x_iadd, x_icmp_ge, x_if_ne, x_iinc, x_iload, x_imul, x_istore, x_land, x_lcmp, x_lload, x_lor, x_lstore, x_lxor, x_push, x_vret, y_cv5, y_getF, y_lald, xFT, xbool0, xbool1, Nat.reduceAdd, Nat.zero_add, xgl_0, xgl_s, xgl_n, xst_0, xst_1n, xst_1i, xst_1r, xst_1l, xst_s, set_0, set_s, true_and, and_true, xres, xcat_nil, xcat_i, xcat_r, xcat_l, Nat.add_zero, xble0, xble1, xble2, xble3, xble4, xble5, xble6, xble7, xble8, pk_mul, nI_add, nI_1, nI_leI, nI_ltI, nI_eq, n_in, n_cl, z_eq, z_lt, z_le, z_gt, z_ge, z_qe, o_eq, o_lt, o_le, o_gt, o_ge, vp0, vp1, cl0, cl1, n_sub, n_sub1, n_pm1, n_a0, n_0a, ofn, lN0, Nat.reduceLT, Nat.reduceLeDiff, Nat.reduceMul, Nat.reduceSub, Nat.reduceEqDiff, ne_eq, true_implies, false_implies, not_true_eq_false, not_false_eq_true, and_self, and_true, true_and, and_false, false_and, implies_true, if_true, if_false, i00, i10, i01, i11, ob_0, ob_1, tn_2, ln_2, ob_3, tn_4, ln_4, ob_5, tn_6, ln_6, tn_7, ln_7, ob_8, tn_9, ln_9, tn_10, ln_10, tn_11, ln_11, tn_12, ln_12, tn_13, ln_13, tn_14, ln_14, tn_15, ln_15, tn_16, ln_16, tn_17, ln_17, ob_18, tn_19, ln_19, tn_20, ln_20, tn_21, ln_21, tn_22, ln_22, tn_23, ln_23, tn_24, ln_24, tn_25, ln_25, tn_26, ln_26, tn_27, ln_27, ob_28, tn_29, ln_29, tn_30, ln_30, ob_31, tn_32, ln_32, tn_33, ln_33, ob_34, ob_35, tn_36, ln_36, tn_37, ln_37, tn_38, ln_38, ob_39, tn_40, ln_40, tn_41, ln_41, tn_42, ln_42, tn_43, ln_43, tn_44, ln_44, tn_45, ln_45, tn_46, ln_46, tn_47, ln_47, tn_48, ln_48, tn_49, ln_49, tn_50, ln_50, tn_51, ln_51, ob_52, tn_53, ln_53, tn_54, ln_54, tn_55, ln_55, tn_56, ln_56, ob_57, tn_58, ln_58, tn_59, ln_59, tn_60, ln_60, tn_61, ln_61, tn_62, ln_62, tn_63, ln_63, tn_64, ln_64, tn_65, ln_65, ob_66, tn_67, ln_67, tn_68, ln_68, tn_69, ln_69, tn_70, ln_70, tn_71, ln_71, tn_72, ln_72, tn_73, ln_73, ob_74, tn_75, ln_75, tn_76, ln_76, tn_77, ln_77, tn_78, ln_78, tn_79, ln_79, tn_80, ln_80, tn_81, ln_81, tn_82, ln_82, tn_83, ln_83, ob_84, tn_85, ln_85, tn_86, ln_86, tn_87, ln_87, tn_88, ln_88, tn_89, ln_89, tn_90, ln_90, tn_91, ln_91, tn_92, ln_92, tn_93, ln_93, ob_94, tn_95, ln_95, tn_96, ln_96, tn_97, ln_97, tn_98, ln_98, tn_99, ln_99, tn_100, ln_100, tn_101, ln_101, tn_102, ln_102, tn_103, ln_103, ob_104, tn_105, ln_105, tn_106, ln_106, tn_107, ln_107, tn_108, ln_108, tn_109, ln_109, tn_110, ln_110, tn_111, ln_111, tn_112, ln_112, tn_113, ln_113, ob_114, tn_115, ln_115, tn_116, ln_116, tn_117, ln_117, tn_118, ln_118, tn_119, ln_119, tn_120, ln_120, tn_121, ln_121, tn_122, ln_122, tn_123, ln_123, ob_124, tn_125, ln_125, tn_126, ln_126, tn_127, ln_127, tn_128, ln_128, tn_129, ln_129, tn_130, ln_130, tn_131, ln_131, tn_132, ln_132, tn_133, ln_133, ob_134, tn_135, ln_135, tn_136, ln_136, tn_137, ln_137, tn_138, ln_138, tn_139, ln_139, tn_140, ln_140, tn_141, ln_141, tn_142, ln_142, tn_143, ln_143, ob_144, tn_145, ln_145, tn_146, ln_146, tn_147, ln_147, tn_148, ln_148, tn_149, ln_149, tn_150, ln_150, tn_151, ln_151, tn_152, ln_152, tn_153, ln_153, ob_154, tn_155, ln_155, tn_156, ln_156, tn_157, ln_157, tn_158, ln_158, tn_159, ln_159, tn_160, ln_160, tn_161, ln_161, tn_162, ln_162, tn_163, ln_163, ob_164, tn_165, ln_165, tn_166, ln_166, ob_167, tn_168, ln_168, tn_169, ln_169, tn_170, ln_170, tn_171, ln_171, tn_172, ln_172, tn_173, ln_173, tn_174, ln_174, tn_175, ln_175, tn_176, ln_176, ob_177, tn_178, ln_178, tn_179, ln_179, ob_180, tn_181, ln_181, tn_182, ln_182, tn_183, ln_183, tn_184, ln_184, tn_185, ln_185, tn_186, ln_186, tn_187, ln_187, tn_188, ln_188, tn_189, ln_189, tn_190, ln_190, tn_191, ln_191, tn_192, ln_192, tn_193, ln_193, tn_194, ln_194, tn_195, ln_195, tn_196, ln_196, tn_197, ln_197, tn_198, ln_198, tn_199, ln_199, tn_200, ln_200, tn_201, ln_201, tn_202, ln_202, tn_203, ln_203, tn_204, ln_204, tn_205, ln_205, tn_206, ln_206, tn_207, ln_207, tn_208, ln_208, tn_209, ln_209, tn_210, ln_210, tn_211, ln_211, tn_212, ln_212, tn_213, ln_213, tn_214, ln_214, tn_215, ln_215, tn_216, ln_216, tn_217, ln_217, tn_218, ln_218, tn_219, ln_219, tn_220, ln_220, tn_221, ln_221, tn_222, ln_222, tn_223, ln_223, tn_224, ln_224, tn_225, ln_225, tn_226, ln_226, tn_227, ln_227, tn_228, ln_228, tn_229, ln_229, tn_230, ln_230, lx2, lx3, lx4, lx5, lx6, lx7, lx8, lx9, lx10, lx14, lx15, lx16, lx18, lx20, lx24, lx25, lx27, lx32, lx36, lx40, lx41, lx42, lx43, lx45, lx48, lx52, lx54, lx56, lx57, lx58, lx60, lx61, lx62, lx63, lx64, lx66, lx69, lx73, lx80, lx81, lx84, lx85, lx87, lx94, lx96, lx97, lx120, lx128, lx135, lx160, lx162, lx163, lx165, lx200, lx232, lx242, lx243, lx255, lx256, lx320, lx325, lx400, lx405, lx464, lx512, lx600, lx640, lx752, lx900, lx940, lx1000, lx1024, lx1764, lx3360, lx3840, lx5000, lx6400, lx9050, lx9998, lx9999, lx10000, lx25600, lx76800, lx99999, si_ne, si_eq, sl_ne, sl_eq, xl_si, xi_sl, sA_ne, sA_eq, xl_sA, lcmp0]
    refine ⟨by omega, by omega, fun z => ?_, fun z => ?_⟩
    · exact xE0 (24 - 4, 0, 0) ⟨v, R, n, p, r, 4, n, none, none, none, none, none, none, none, none, none, none, hp, hr, hC, fr_rf, hP, by omega, by omega, Nat.le_refl _, fun _ _ => rfl, csS_congr hS fun m _ => ⟨Or.inl, fun x => x.elim id fun ⟨u, a, b, _⟩ => absurd b (by omega)⟩, rfl, rfl, rfl⟩
    · refine hP A n fr_rf (Nat.le_refl _) (fun _ _ => rfl) (csS_congr hS fun m _ => ⟨Or.inl, fun x => x.elim id fun ⟨u, a, b, _, c⟩ => ?_⟩)
      exfalso
      have hm := Nat.mod_lt m (show 80 > 0 by omega)
      have z := or_nz.mp z
      have key : nsT (stT v) r (m % 80) := by
        rcases c with ⟨-, c⟩ | ⟨-, w, -, w1, w2, c⟩
        · exact ⟨u, a, b, c⟩
        · exact ⟨w, w1, w2, c⟩
      have := (hq_o hG hr (show m % 80 < 128 by omega)).1.mpr key
      unfold hq at this
      split at this
      · rw [(z _ (by omega)).1] at this; cases this
      · rw [(z _ (by omega)).2] at this; cases this
  · rintro q y z A P - μ L st B ⟨v, R, n, p, r, u, n', o8, o9, o10, o11, o12, o13, o14, o15, o16, o17, hp, hr, hC, hF, hP, h4, hu, hn, hpre, hS, rfl, rfl, rfl⟩
    have h80 := hC.2
    obtain ⟨hT, hG⟩ := ct_T hC
    simp (disch := omega) only [k_X10_goTogether_0, k_X10_goTogether_40, w_RIJIJJ, x_aload, x_iadd, x_icmp_ge, x_if_ne, x_iinc, x_iload, x_imul, x_istore, x_land, x_lcmp, x_lload, x_lor, x_lstore, x_lxor, x_push, x_vret, y_cv5, y_getF, y_lald, xFT, xbool0, xbool1, Nat.reduceAdd, Nat.zero_add, xgl_0, xgl_s, xgl_n, xst_0, xst_1n, xst_1i, xst_1r, xst_1l, xst_s, set_0, set_s, true_and, and_true, xres, xcat_nil, xcat_i, xcat_r, xcat_l, Nat.add_zero, xble0, xble1, xble2, xble3, xble4, xble5, xble6, xble7, xble8, pk_mul, nI_add, nI_1, nI_leI, nI_ltI, nI_eq, n_in, n_cl, z_eq, z_lt, z_le, z_gt, z_ge, z_qe, o_eq, o_lt, o_le, o_gt, o_ge, vp0, vp1, cl0, cl1, n_sub, n_sub1, n_pm1, n_a0, n_0a, ofn, lN0, Nat.reduceLT, Nat.reduceLeDiff, Nat.reduceMul, Nat.reduceSub, Nat.reduceEqDiff, ne_eq, true_implies, false_implies, not_true_eq_false, not_false_eq_true, and_self, and_true, true_and, and_false, false_and, implies_true, if_true, if_false, i00, i10, i01, i11, ob_0, ob_1, tn_2, ln_2, ob_3, tn_4, ln_4, ob_5, tn_6, ln_6, tn_7, ln_7, ob_8, tn_9, ln_9, tn_10, ln_10, tn_11, ln_11, tn_12, ln_12, tn_13, ln_13, tn_14, ln_14, tn_15, ln_15, tn_16, ln_16, tn_17, ln_17, ob_18, tn_19, ln_19, tn_20, ln_20, tn_21, ln_21, tn_22, ln_22, tn_23, ln_23, tn_24, ln_24, tn_25, ln_25, tn_26, ln_26, tn_27, ln_27, ob_28, tn_29, ln_29, tn_30, ln_30, ob_31, tn_32, ln_32, tn_33, ln_33, ob_34, ob_35, tn_36, ln_36, tn_37, ln_37, tn_38, ln_38, ob_39, tn_40, ln_40, tn_41, ln_41, tn_42, ln_42, tn_43, ln_43, tn_44, ln_44, tn_45, ln_45, tn_46, ln_46, tn_47, ln_47, tn_48, ln_48, tn_49, ln_49, tn_50, ln_50, tn_51, ln_51, ob_52, tn_53, ln_53, tn_54, ln_54, tn_55, ln_55, tn_56, ln_56, ob_57, tn_58, ln_58, tn_59, ln_59, tn_60, ln_60, tn_61, ln_61, tn_62, ln_62, tn_63, ln_63, tn_64, ln_64, tn_65, ln_65, ob_66, tn_67, ln_67, tn_68, ln_68, tn_69, ln_69, tn_70, ln_70, tn_71, ln_71, tn_72, ln_72, tn_73, ln_73, ob_74, tn_75, ln_75, tn_76, ln_76, tn_77, ln_77, tn_78, ln_78, tn_79, ln_79, tn_80, ln_80, tn_81, ln_81, tn_82, ln_82, tn_83, ln_83, ob_84, tn_85, ln_85, tn_86, ln_86, tn_87, ln_87, tn_88, ln_88, tn_89, ln_89, tn_90, ln_90, tn_91, ln_91, tn_92, ln_92, tn_93, ln_93, ob_94, tn_95, ln_95, tn_96, ln_96, tn_97, ln_97, tn_98, ln_98, tn_99, ln_99, tn_100, ln_100, tn_101, ln_101, tn_102, ln_102, tn_103, ln_103, ob_104, tn_105, ln_105, tn_106, ln_106, tn_107, ln_107, tn_108, ln_108, tn_109, ln_109, tn_110, ln_110, tn_111, ln_111, tn_112, ln_112, tn_113, ln_113, ob_114, tn_115, ln_115, tn_116, ln_116, tn_117, ln_117, tn_118, ln_118, tn_119, ln_119, tn_120, ln_120, tn_121, ln_121, tn_122, ln_122, tn_123, ln_123, ob_124, tn_125, ln_125, tn_126, ln_126, tn_127, ln_127, tn_128, ln_128, tn_129, ln_129, tn_130, ln_130, tn_131, ln_131, tn_132, ln_132, tn_133, ln_133, ob_134, tn_135, ln_135, tn_136, ln_136, tn_137, ln_137, tn_138, ln_138, tn_139, ln_139, tn_140, ln_140, tn_141, ln_141, tn_142, ln_142, tn_143, ln_143, ob_144, tn_145, ln_145, tn_146, ln_146, tn_147, ln_147, tn_148, ln_148, tn_149, ln_149, tn_150, ln_150, tn_151, ln_151, tn_152, ln_152, tn_153, ln_153, ob_154, tn_155, ln_155, tn_156, ln_156, tn_157, ln_157, tn_158, ln_158, tn_159, ln_159, tn_160, ln_160, tn_161, ln_161, tn_162, ln_162, tn_163, ln_163, ob_164, tn_165, ln_165, tn_166, ln_166, ob_167, tn_168, ln_168, tn_169, ln_169, tn_170, ln_170, tn_171, ln_171, tn_172, ln_172, tn_173, ln_173, tn_174, ln_174, tn_175, ln_175, tn_176, ln_176, ob_177, tn_178, ln_178, tn_179, ln_179, ob_180, tn_181, ln_181, tn_182, ln_182, tn_183, ln_183, tn_184, ln_184, tn_185, ln_185, tn_186, ln_186, tn_187, ln_187, tn_188, ln_188, tn_189, ln_189, tn_190, ln_190, tn_191, ln_191, tn_192, ln_192, tn_193, ln_193, tn_194, ln_194, tn_195, ln_195, tn_196, ln_196, tn_197, ln_197, tn_198, ln_198, tn_199, ln_199, tn_200, ln_200, tn_201, ln_201, tn_202, ln_202, tn_203, ln_203, tn_204, ln_204, tn_205, ln_205, tn_206, ln_206, tn_207, ln_207, tn_208, ln_208, tn_209, ln_209, tn_210, ln_210, tn_211, ln_211, tn_212, ln_212, tn_213, ln_213, tn_214, ln_214, tn_215, ln_215, tn_216, ln_216, tn_217, ln_217, tn_218, ln_218, tn_219, ln_219, tn_220, ln_220, tn_221, ln_221, tn_222, ln_222, tn_223, ln_223, tn_224, ln_224, tn_225, ln_225, tn_226, ln_226, tn_227, ln_227, tn_228, ln_228, tn_229, ln_229, tn_230, ln_230, lx2, lx3, lx4, lx5, lx6, lx7, lx8, lx9, lx10, lx14, lx15, lx16, lx18, lx20, lx24, lx25, lx27, lx32, lx36, lx40, lx41, lx42, lx43, lx45, lx48, lx52, lx54, lx56, lx57, lx58, lx60, lx61, lx62, lx63, lx64, lx66, lx69, lx73, lx80, lx81, lx84, lx85, lx87, lx94, lx96, lx97, lx120, lx128, lx135, lx160, lx162, lx163, lx165, lx200, lx232, lx242, lx243, lx255, lx256, lx320, lx325, lx400, lx405, lx464, lx512, lx600, lx640, lx752, lx900, lx940, lx1000, lx1024, lx1764, lx3360, lx3840, lx5000, lx6400, lx9050, lx9998, lx9999, lx10000, lx25600, lx76800, lx99999, si_ne, si_eq, sl_ne, sl_eq, xl_si, xi_sl, sA_ne, sA_eq, xl_sA, lcmp0]
    refine ⟨fun z => ?_, fun z => ⟨by omega, by omega, by omega, by omega, by omega, ?_⟩⟩
    · have : u = 24 := by omega
      subst this
      exact hP B n' hF hn hpre hS
    · have hu24 : u < 24 := by omega
      have hh := fun j (hj : j < 64) => pl_to hC hr hu24 hj
      have hx := fun j (hj : j < 64) => pl_to hC hp hu24 hj
      have hun : ∀ j, j < 64 → tl (xl B 45 (r * 2 + 1) ||| xl B 44 (r * 2 + 1) &&& (xl B 42 ((r * 24 + u) * 2 + 1) ^^^ -1)) j = true → 64 + j < 80 := fun j hj w => by
        obtain ⟨w', -, -, -, w⟩ := (hq_un hT hG hr h4 hu24 (show 64 + j < 128 by omega)).mp (by rw [hq_hi]; exact w)
        have := (stT_pl w).2
        omega
      refine ⟨rfl, _, n', 0, 0, rfl, by omega, rfl, by omega, hS, fun j hj => (hx j hj).1, fun j hj => (hh j hj).2, fun C n1 hC1 hn1 hp1 hS1 => ?_⟩
      simp (disch := omega) only [k_X10_goTogether_0, k_X10_goTogether_40, w_RIJIJJ, x_aload, x_iadd, x_icmp_ge, x_if_ne, x_iinc, x_iload, x_imul, x_istore, x_land, x_lcmp, x_lload, x_lor, x_lstore, x_lxor, x_push, x_vret, y_cv5, y_getF, y_lald, xFT, xbool0, xbool1, Nat.reduceAdd, Nat.zero_add, xgl_0, xgl_s, xgl_n, xst_0, xst_1n, xst_1i, xst_1r, xst_1l, xst_s, set_0, set_s, true_and, and_true, xres, xcat_nil, xcat_i, xcat_r, xcat_l, Nat.add_zero, xble0, xble1, xble2, xble3, xble4, xble5, xble6, xble7, xble8, pk_mul, nI_add, nI_1, nI_leI, nI_ltI, nI_eq, n_in, n_cl, z_eq, z_lt, z_le, z_gt, z_ge, z_qe, o_eq, o_lt, o_le, o_gt, o_ge, vp0, vp1, cl0, cl1, n_sub, n_sub1, n_pm1, n_a0, n_0a, ofn, lN0, Nat.reduceLT, Nat.reduceLeDiff, Nat.reduceMul, Nat.reduceSub, Nat.reduceEqDiff, ne_eq, true_implies, false_implies, not_true_eq_false, not_false_eq_true, and_self, and_true, true_and, and_false, false_and, implies_true, if_true, if_false, i00, i10, i01, i11, ob_0, ob_1, tn_2, ln_2, ob_3, tn_4, ln_4, ob_5, tn_6, ln_6, tn_7, ln_7, ob_8, tn_9, ln_9, tn_10, ln_10, tn_11, ln_11, tn_12, ln_12, tn_13, ln_13, tn_14, ln_14, tn_15, ln_15, tn_16, ln_16, tn_17, ln_17, ob_18, tn_19, ln_19, tn_20, ln_20, tn_21, ln_21, tn_22, ln_22, tn_23, ln_23, tn_24, ln_24, tn_25, ln_25, tn_26, ln_26, tn_27, ln_27, ob_28, tn_29, ln_29, tn_30, ln_30, ob_31, tn_32, ln_32, tn_33, ln_33, ob_34, ob_35, tn_36, ln_36, tn_37, ln_37, tn_38, ln_38, ob_39, tn_40, ln_40, tn_41, ln_41, tn_42, ln_42, tn_43, ln_43, tn_44, ln_44, tn_45, ln_45, tn_46, ln_46, tn_47, ln_47, tn_48, ln_48, tn_49, ln_49, tn_50, ln_50, tn_51, ln_51, ob_52, tn_53, ln_53, tn_54, ln_54, tn_55, ln_55, tn_56, ln_56, ob_57, tn_58, ln_58, tn_59, ln_59, tn_60, ln_60, tn_61, ln_61, tn_62, ln_62, tn_63, ln_63, tn_64, ln_64, tn_65, ln_65, ob_66, tn_67, ln_67, tn_68, ln_68, tn_69, ln_69, tn_70, ln_70, tn_71, ln_71, tn_72, ln_72, tn_73, ln_73, ob_74, tn_75, ln_75, tn_76, ln_76, tn_77, ln_77, tn_78, ln_78, tn_79, ln_79, tn_80, ln_80, tn_81, ln_81, tn_82, ln_82, tn_83, ln_83, ob_84, tn_85, ln_85, tn_86, ln_86, tn_87, ln_87, tn_88, ln_88, tn_89, ln_89, tn_90, ln_90, tn_91, ln_91, tn_92, ln_92, tn_93, ln_93, ob_94, tn_95, ln_95, tn_96, ln_96, tn_97, ln_97, tn_98, ln_98, tn_99, ln_99, tn_100, ln_100, tn_101, ln_101, tn_102, ln_102, tn_103, ln_103, ob_104, tn_105, ln_105, tn_106, ln_106, tn_107, ln_107, tn_108, ln_108, tn_109, ln_109, tn_110, ln_110, tn_111, ln_111, tn_112, ln_112, tn_113, ln_113, ob_114, tn_115, ln_115, tn_116, ln_116, tn_117, ln_117, tn_118, ln_118, tn_119, ln_119, tn_120, ln_120, tn_121, ln_121, tn_122, ln_122, tn_123, ln_123, ob_124, tn_125, ln_125, tn_126, ln_126, tn_127, ln_127, tn_128, ln_128, tn_129, ln_129, tn_130, ln_130, tn_131, ln_131, tn_132, ln_132, tn_133, ln_133, ob_134, tn_135, ln_135, tn_136, ln_136, tn_137, ln_137, tn_138, ln_138, tn_139, ln_139, tn_140, ln_140, tn_141, ln_141, tn_142, ln_142, tn_143, ln_143, ob_144, tn_145, ln_145, tn_146, ln_146, tn_147, ln_147, tn_148, ln_148, tn_149, ln_149, tn_150, ln_150, tn_151, ln_151, tn_152, ln_152, tn_153, ln_153, ob_154, tn_155, ln_155, tn_156, ln_156, tn_157, ln_157, tn_158, ln_158, tn_159, ln_159, tn_160, ln_160, tn_161, ln_161, tn_162, ln_162, tn_163, ln_163, ob_164, tn_165, ln_165, tn_166, ln_166, ob_167, tn_168, ln_168, tn_169, ln_169, tn_170, ln_170, tn_171, ln_171, tn_172, ln_172, tn_173, ln_173, tn_174, ln_174, tn_175, ln_175, tn_176, ln_176, ob_177, tn_178, ln_178, tn_179, ln_179, ob_180, tn_181, ln_181, tn_182, ln_182, tn_183, ln_183, tn_184, ln_184, tn_185, ln_185, tn_186, ln_186, tn_187, ln_187, tn_188, ln_188, tn_189, ln_189, tn_190, ln_190, tn_191, ln_191, tn_192, ln_192, tn_193, ln_193, tn_194, ln_194, tn_195, ln_195, tn_196, ln_196, tn_197, ln_197, tn_198, ln_198, tn_199, ln_199, tn_200, ln_200, tn_201, ln_201, tn_202, ln_202, tn_203, ln_203, tn_204, ln_204, tn_205, ln_205, tn_206, ln_206, tn_207, ln_207, tn_208, ln_208, tn_209, ln_209, tn_210, ln_210, tn_211, ln_211, tn_212, ln_212, tn_213, ln_213, tn_214, ln_214, tn_215, ln_215, tn_216, ln_216, tn_217, ln_217, tn_218, ln_218, tn_219, ln_219, tn_220, ln_220, tn_221, ln_221, tn_222, ln_222, tn_223, ln_223, tn_224, ln_224, tn_225, ln_225, tn_226, ln_226, tn_227, ln_227, tn_228, ln_228, tn_229, ln_229, tn_230, ln_230, lx2, lx3, lx4, lx5, lx6, lx7, lx8, lx9, lx10, lx14, lx15, lx16, lx18, lx20, lx24, lx25, lx27, lx32, lx36, lx40, lx41, lx42, lx43, lx45, lx48, lx52, lx54, lx56, lx57, lx58, lx60, lx61, lx62, lx63, lx64, lx66, lx69, lx73, lx80, lx81, lx84, lx85, lx87, lx94, lx96, lx97, lx120, lx128, lx135, lx160, lx162, lx163, lx165, lx200, lx232, lx242, lx243, lx255, lx256, lx320, lx325, lx400, lx405, lx464, lx512, lx600, lx640, lx752, lx900, lx940, lx1000, lx1024, lx1764, lx3360, lx3840, lx5000, lx6400, lx9050, lx9998, lx9999, lx10000, lx25600, lx76800, lx99999, si_ne, si_eq, sl_ne, sl_eq, xl_si, xi_sl, sA_ne, sA_eq, xl_sA, lcmp0]
      have e42 : ∀ k, xl C 42 k = xl B 42 k := fun k => fr_l hC1 (by unfold SEn; omega)
      rw [e42]
      refine ⟨by omega, rfl, _, n1, 0, 1, rfl, by omega, rfl, by omega, hS1, fun j hj w => by have := (hx j hj).2 w; omega, fun j hj => (hh j hj).2, fun D n2 hD hn2 hp2 hS2 => ?_⟩
      simp (disch := omega) only [k_X10_goTogether_0, k_X10_goTogether_40, w_RIJIJJ, x_aload, x_iadd, x_icmp_ge, x_if_ne, x_iinc, x_iload, x_imul, x_istore, x_land, x_lcmp, x_lload, x_lor, x_lstore, x_lxor, x_push, x_vret, y_cv5, y_getF, y_lald, xFT, xbool0, xbool1, Nat.reduceAdd, Nat.zero_add, xgl_0, xgl_s, xgl_n, xst_0, xst_1n, xst_1i, xst_1r, xst_1l, xst_s, set_0, set_s, true_and, and_true, xres, xcat_nil, xcat_i, xcat_r, xcat_l, Nat.add_zero, xble0, xble1, xble2, xble3, xble4, xble5, xble6, xble7, xble8, pk_mul, nI_add, nI_1, nI_leI, nI_ltI, nI_eq, n_in, n_cl, z_eq, z_lt, z_le, z_gt, z_ge, z_qe, o_eq, o_lt, o_le, o_gt, o_ge, vp0, vp1, cl0, cl1, n_sub, n_sub1, n_pm1, n_a0, n_0a, ofn, lN0, Nat.reduceLT, Nat.reduceLeDiff, Nat.reduceMul, Nat.reduceSub, Nat.reduceEqDiff, ne_eq, true_implies, false_implies, not_true_eq_false, not_false_eq_true, and_self, and_true, true_and, and_false, false_and, implies_true, if_true, if_false, i00, i10, i01, i11, ob_0, ob_1, tn_2, ln_2, ob_3, tn_4, ln_4, ob_5, tn_6, ln_6, tn_7, ln_7, ob_8, tn_9, ln_9, tn_10, ln_10, tn_11, ln_11, tn_12, ln_12, tn_13, ln_13, tn_14, ln_14, tn_15, ln_15, tn_16, ln_16, tn_17, ln_17, ob_18, tn_19, ln_19, tn_20, ln_20, tn_21, ln_21, tn_22, ln_22, tn_23, ln_23, tn_24, ln_24, tn_25, ln_25, tn_26, ln_26, tn_27, ln_27, ob_28, tn_29, ln_29, tn_30, ln_30, ob_31, tn_32, ln_32, tn_33, ln_33, ob_34, ob_35, tn_36, ln_36, tn_37, ln_37, tn_38, ln_38, ob_39, tn_40, ln_40, tn_41, ln_41, tn_42, ln_42, tn_43, ln_43, tn_44, ln_44, tn_45, ln_45, tn_46, ln_46, tn_47, ln_47, tn_48, ln_48, tn_49, ln_49, tn_50, ln_50, tn_51, ln_51, ob_52, tn_53, ln_53, tn_54, ln_54, tn_55, ln_55, tn_56, ln_56, ob_57, tn_58, ln_58, tn_59, ln_59, tn_60, ln_60, tn_61, ln_61, tn_62, ln_62, tn_63, ln_63, tn_64, ln_64, tn_65, ln_65, ob_66, tn_67, ln_67, tn_68, ln_68, tn_69, ln_69, tn_70, ln_70, tn_71, ln_71, tn_72, ln_72, tn_73, ln_73, ob_74, tn_75, ln_75, tn_76, ln_76, tn_77, ln_77, tn_78, ln_78, tn_79, ln_79, tn_80, ln_80, tn_81, ln_81, tn_82, ln_82, tn_83, ln_83, ob_84, tn_85, ln_85, tn_86, ln_86, tn_87, ln_87, tn_88, ln_88, tn_89, ln_89, tn_90, ln_90, tn_91, ln_91, tn_92, ln_92, tn_93, ln_93, ob_94, tn_95, ln_95, tn_96, ln_96, tn_97, ln_97, tn_98, ln_98, tn_99, ln_99, tn_100, ln_100, tn_101, ln_101, tn_102, ln_102, tn_103, ln_103, ob_104, tn_105, ln_105, tn_106, ln_106, tn_107, ln_107, tn_108, ln_108, tn_109, ln_109, tn_110, ln_110, tn_111, ln_111, tn_112, ln_112, tn_113, ln_113, ob_114, tn_115, ln_115, tn_116, ln_116, tn_117, ln_117, tn_118, ln_118, tn_119, ln_119, tn_120, ln_120, tn_121, ln_121, tn_122, ln_122, tn_123, ln_123, ob_124, tn_125, ln_125, tn_126, ln_126, tn_127, ln_127, tn_128, ln_128, tn_129, ln_129, tn_130, ln_130, tn_131, ln_131, tn_132, ln_132, tn_133, ln_133, ob_134, tn_135, ln_135, tn_136, ln_136, tn_137, ln_137, tn_138, ln_138, tn_139, ln_139, tn_140, ln_140, tn_141, ln_141, tn_142, ln_142, tn_143, ln_143, ob_144, tn_145, ln_145, tn_146, ln_146, tn_147, ln_147, tn_148, ln_148, tn_149, ln_149, tn_150, ln_150, tn_151, ln_151, tn_152, ln_152, tn_153, ln_153, ob_154, tn_155, ln_155, tn_156, ln_156, tn_157, ln_157, tn_158, ln_158, tn_159, ln_159, tn_160, ln_160, tn_161, ln_161, tn_162, ln_162, tn_163, ln_163, ob_164, tn_165, ln_165, tn_166, ln_166, ob_167, tn_168, ln_168, tn_169, ln_169, tn_170, ln_170, tn_171, ln_171, tn_172, ln_172, tn_173, ln_173, tn_174, ln_174, tn_175, ln_175, tn_176, ln_176, ob_177, tn_178, ln_178, tn_179, ln_179, ob_180, tn_181, ln_181, tn_182, ln_182, tn_183, ln_183, tn_184, ln_184, tn_185, ln_185, tn_186, ln_186, tn_187, ln_187, tn_188, ln_188, tn_189, ln_189, tn_190, ln_190, tn_191, ln_191, tn_192, ln_192, tn_193, ln_193, tn_194, ln_194, tn_195, ln_195, tn_196, ln_196, tn_197, ln_197, tn_198, ln_198, tn_199, ln_199, tn_200, ln_200, tn_201, ln_201, tn_202, ln_202, tn_203, ln_203, tn_204, ln_204, tn_205, ln_205, tn_206, ln_206, tn_207, ln_207, tn_208, ln_208, tn_209, ln_209, tn_210, ln_210, tn_211, ln_211, tn_212, ln_212, tn_213, ln_213, tn_214, ln_214, tn_215, ln_215, tn_216, ln_216, tn_217, ln_217, tn_218, ln_218, tn_219, ln_219, tn_220, ln_220, tn_221, ln_221, tn_222, ln_222, tn_223, ln_223, tn_224, ln_224, tn_225, ln_225, tn_226, ln_226, tn_227, ln_227, tn_228, ln_228, tn_229, ln_229, tn_230, ln_230, lx2, lx3, lx4, lx5, lx6, lx7, lx8, lx9, lx10, lx14, lx15, lx16, lx18, lx20, lx24, lx25, lx27, lx32, lx36, lx40, lx41, lx42, lx43, lx45, lx48, lx52, lx54, lx56, lx57, lx58, lx60, lx61, lx62, lx63, lx64, lx66, lx69, lx73, lx80, lx81, lx84, lx85, lx87, lx94, lx96, lx97, lx120, lx128, lx135, lx160, lx162, lx163, lx165, lx200, lx232, lx242, lx243, lx255, lx256, lx320, lx325, lx400, lx405, lx464, lx512, lx600, lx640, lx752, lx900, lx940, lx1000, lx1024, lx1764, lx3360, lx3840, lx5000, lx6400, lx9050, lx9998, lx9999, lx10000, lx25600, lx76800, lx99999, si_ne, si_eq, sl_ne, sl_eq, xl_si, xi_sl, sA_ne, sA_eq, xl_sA, lcmp0]
      have e42 : ∀ k, xl D 42 k = xl B 42 k := fun k => fr_l (fr_tr hC1 hD) (by unfold SEn; omega)
      rw [e42]
      refine ⟨by omega, rfl, _, n2, 1, 0, rfl, by omega, rfl, by omega, hS2, fun j hj => (hx j hj).1, hun, fun E n3 hE hn3 hp3 hS3 => ?_⟩
      simp (disch := omega) only [k_X10_goTogether_0, k_X10_goTogether_40, w_RIJIJJ, x_aload, x_iadd, x_icmp_ge, x_if_ne, x_iinc, x_iload, x_imul, x_istore, x_land, x_lcmp, x_lload, x_lor, x_lstore, x_lxor, x_push, x_vret, y_cv5, y_getF, y_lald, xFT, xbool0, xbool1, Nat.reduceAdd, Nat.zero_add, xgl_0, xgl_s, xgl_n, xst_0, xst_1n, xst_1i, xst_1r, xst_1l, xst_s, set_0, set_s, true_and, and_true, xres, xcat_nil, xcat_i, xcat_r, xcat_l, Nat.add_zero, xble0, xble1, xble2, xble3, xble4, xble5, xble6, xble7, xble8, pk_mul, nI_add, nI_1, nI_leI, nI_ltI, nI_eq, n_in, n_cl, z_eq, z_lt, z_le, z_gt, z_ge, z_qe, o_eq, o_lt, o_le, o_gt, o_ge, vp0, vp1, cl0, cl1, n_sub, n_sub1, n_pm1, n_a0, n_0a, ofn, lN0, Nat.reduceLT, Nat.reduceLeDiff, Nat.reduceMul, Nat.reduceSub, Nat.reduceEqDiff, ne_eq, true_implies, false_implies, not_true_eq_false, not_false_eq_true, and_self, and_true, true_and, and_false, false_and, implies_true, if_true, if_false, i00, i10, i01, i11, ob_0, ob_1, tn_2, ln_2, ob_3, tn_4, ln_4, ob_5, tn_6, ln_6, tn_7, ln_7, ob_8, tn_9, ln_9, tn_10, ln_10, tn_11, ln_11, tn_12, ln_12, tn_13, ln_13, tn_14, ln_14, tn_15, ln_15, tn_16, ln_16, tn_17, ln_17, ob_18, tn_19, ln_19, tn_20, ln_20, tn_21, ln_21, tn_22, ln_22, tn_23, ln_23, tn_24, ln_24, tn_25, ln_25, tn_26, ln_26, tn_27, ln_27, ob_28, tn_29, ln_29, tn_30, ln_30, ob_31, tn_32, ln_32, tn_33, ln_33, ob_34, ob_35, tn_36, ln_36, tn_37, ln_37, tn_38, ln_38, ob_39, tn_40, ln_40, tn_41, ln_41, tn_42, ln_42, tn_43, ln_43, tn_44, ln_44, tn_45, ln_45, tn_46, ln_46, tn_47, ln_47, tn_48, ln_48, tn_49, ln_49, tn_50, ln_50, tn_51, ln_51, ob_52, tn_53, ln_53, tn_54, ln_54, tn_55, ln_55, tn_56, ln_56, ob_57, tn_58, ln_58, tn_59, ln_59, tn_60, ln_60, tn_61, ln_61, tn_62, ln_62, tn_63, ln_63, tn_64, ln_64, tn_65, ln_65, ob_66, tn_67, ln_67, tn_68, ln_68, tn_69, ln_69, tn_70, ln_70, tn_71, ln_71, tn_72, ln_72, tn_73, ln_73, ob_74, tn_75, ln_75, tn_76, ln_76, tn_77, ln_77, tn_78, ln_78, tn_79, ln_79, tn_80, ln_80, tn_81, ln_81, tn_82, ln_82, tn_83, ln_83, ob_84, tn_85, ln_85, tn_86, ln_86, tn_87, ln_87, tn_88, ln_88, tn_89, ln_89, tn_90, ln_90, tn_91, ln_91, tn_92, ln_92, tn_93, ln_93, ob_94, tn_95, ln_95, tn_96, ln_96, tn_97, ln_97, tn_98, ln_98, tn_99, ln_99, tn_100, ln_100, tn_101, ln_101, tn_102, ln_102, tn_103, ln_103, ob_104, tn_105, ln_105, tn_106, ln_106, tn_107, ln_107, tn_108, ln_108, tn_109, ln_109, tn_110, ln_110, tn_111, ln_111, tn_112, ln_112, tn_113, ln_113, ob_114, tn_115, ln_115, tn_116, ln_116, tn_117, ln_117, tn_118, ln_118, tn_119, ln_119, tn_120, ln_120, tn_121, ln_121, tn_122, ln_122, tn_123, ln_123, ob_124, tn_125, ln_125, tn_126, ln_126, tn_127, ln_127, tn_128, ln_128, tn_129, ln_129, tn_130, ln_130, tn_131, ln_131, tn_132, ln_132, tn_133, ln_133, ob_134, tn_135, ln_135, tn_136, ln_136, tn_137, ln_137, tn_138, ln_138, tn_139, ln_139, tn_140, ln_140, tn_141, ln_141, tn_142, ln_142, tn_143, ln_143, ob_144, tn_145, ln_145, tn_146, ln_146, tn_147, ln_147, tn_148, ln_148, tn_149, ln_149, tn_150, ln_150, tn_151, ln_151, tn_152, ln_152, tn_153, ln_153, ob_154, tn_155, ln_155, tn_156, ln_156, tn_157, ln_157, tn_158, ln_158, tn_159, ln_159, tn_160, ln_160, tn_161, ln_161, tn_162, ln_162, tn_163, ln_163, ob_164, tn_165, ln_165, tn_166, ln_166, ob_167, tn_168, ln_168, tn_169, ln_169, tn_170, ln_170, tn_171, ln_171, tn_172, ln_172, tn_173, ln_173, tn_174, ln_174, tn_175, ln_175, tn_176, ln_176, ob_177, tn_178, ln_178, tn_179, ln_179, ob_180, tn_181, ln_181, tn_182, ln_182, tn_183, ln_183, tn_184, ln_184, tn_185, ln_185, tn_186, ln_186, tn_187, ln_187, tn_188, ln_188, tn_189, ln_189, tn_190, ln_190, tn_191, ln_191, tn_192, ln_192, tn_193, ln_193, tn_194, ln_194, tn_195, ln_195, tn_196, ln_196, tn_197, ln_197, tn_198, ln_198, tn_199, ln_199, tn_200, ln_200, tn_201, ln_201, tn_202, ln_202, tn_203, ln_203, tn_204, ln_204, tn_205, ln_205, tn_206, ln_206, tn_207, ln_207, tn_208, ln_208, tn_209, ln_209, tn_210, ln_210, tn_211, ln_211, tn_212, ln_212, tn_213, ln_213, tn_214, ln_214, tn_215, ln_215, tn_216, ln_216, tn_217, ln_217, tn_218, ln_218, tn_219, ln_219, tn_220, ln_220, tn_221, ln_221, tn_222, ln_222, tn_223, ln_223, tn_224, ln_224, tn_225, ln_225, tn_226, ln_226, tn_227, ln_227, tn_228, ln_228, tn_229, ln_229, tn_230, ln_230, lx2, lx3, lx4, lx5, lx6, lx7, lx8, lx9, lx10, lx14, lx15, lx16, lx18, lx20, lx24, lx25, lx27, lx32, lx36, lx40, lx41, lx42, lx43, lx45, lx48, lx52, lx54, lx56, lx57, lx58, lx60, lx61, lx62, lx63, lx64, lx66, lx69, lx73, lx80, lx81, lx84, lx85, lx87, lx94, lx96, lx97, lx120, lx128, lx135, lx160, lx162, lx163, lx165, lx200, lx232, lx242, lx243, lx255, lx256, lx320, lx325, lx400, lx405, lx464, lx512, lx600, lx640, lx752, lx900, lx940, lx1000, lx1024, lx1764, lx3360, lx3840, lx5000, lx6400, lx9050, lx9998, lx9999, lx10000, lx25600, lx76800, lx99999, si_ne, si_eq, sl_ne, sl_eq, xl_si, xi_sl, sA_ne, sA_eq, xl_sA, lcmp0]
      have e42 : ∀ k, xl E 42 k = xl B 42 k := fun k => fr_l (fr_tr hC1 (fr_tr hD hE)) (by unfold SEn; omega)
      rw [e42]
      refine ⟨by omega, rfl, _, n3, 1, 1, rfl, by omega, rfl, by omega, hS3, fun j hj w => by have := (hx j hj).2 w; omega, hun, fun G n4 hG' hn4 hp4 hS4 => ?_⟩
      simp (disch := omega) only [k_X10_goTogether_0, k_X10_goTogether_40, w_RIJIJJ, x_aload, x_iadd, x_icmp_ge, x_if_ne, x_iinc, x_iload, x_imul, x_istore, x_land, x_lcmp, x_lload, x_lor, x_lstore, x_lxor, x_push, x_vret, y_cv5, y_getF, y_lald, xFT, xbool0, xbool1, Nat.reduceAdd, Nat.zero_add, xgl_0, xgl_s, xgl_n, xst_0, xst_1n, xst_1i, xst_1r, xst_1l, xst_s, set_0, set_s, true_and, and_true, xres, xcat_nil, xcat_i, xcat_r, xcat_l, Nat.add_zero, xble0, xble1, xble2, xble3, xble4, xble5, xble6, xble7, xble8, pk_mul, nI_add, nI_1, nI_leI, nI_ltI, nI_eq, n_in, n_cl, z_eq, z_lt, z_le, z_gt, z_ge, z_qe, o_eq, o_lt, o_le, o_gt, o_ge, vp0, vp1, cl0, cl1, n_sub, n_sub1, n_pm1, n_a0, n_0a, ofn, lN0, Nat.reduceLT, Nat.reduceLeDiff, Nat.reduceMul, Nat.reduceSub, Nat.reduceEqDiff, ne_eq, true_implies, false_implies, not_true_eq_false, not_false_eq_true, and_self, and_true, true_and, and_false, false_and, implies_true, if_true, if_false, i00, i10, i01, i11, ob_0, ob_1, tn_2, ln_2, ob_3, tn_4, ln_4, ob_5, tn_6, ln_6, tn_7, ln_7, ob_8, tn_9, ln_9, tn_10, ln_10, tn_11, ln_11, tn_12, ln_12, tn_13, ln_13, tn_14, ln_14, tn_15, ln_15, tn_16, ln_16, tn_17, ln_17, ob_18, tn_19, ln_19, tn_20, ln_20, tn_21, ln_21, tn_22, ln_22, tn_23, ln_23, tn_24, ln_24, tn_25, ln_25, tn_26, ln_26, tn_27, ln_27, ob_28, tn_29, ln_29, tn_30, ln_30, ob_31, tn_32, ln_32, tn_33, ln_33, ob_34, ob_35, tn_36, ln_36, tn_37, ln_37, tn_38, ln_38, ob_39, tn_40, ln_40, tn_41, ln_41, tn_42, ln_42, tn_43, ln_43, tn_44, ln_44, tn_45, ln_45, tn_46, ln_46, tn_47, ln_47, tn_48, ln_48, tn_49, ln_49, tn_50, ln_50, tn_51, ln_51, ob_52, tn_53, ln_53, tn_54, ln_54, tn_55, ln_55, tn_56, ln_56, ob_57, tn_58, ln_58, tn_59, ln_59, tn_60, ln_60, tn_61, ln_61, tn_62, ln_62, tn_63, ln_63, tn_64, ln_64, tn_65, ln_65, ob_66, tn_67, ln_67, tn_68, ln_68, tn_69, ln_69, tn_70, ln_70, tn_71, ln_71, tn_72, ln_72, tn_73, ln_73, ob_74, tn_75, ln_75, tn_76, ln_76, tn_77, ln_77, tn_78, ln_78, tn_79, ln_79, tn_80, ln_80, tn_81, ln_81, tn_82, ln_82, tn_83, ln_83, ob_84, tn_85, ln_85, tn_86, ln_86, tn_87, ln_87, tn_88, ln_88, tn_89, ln_89, tn_90, ln_90, tn_91, ln_91, tn_92, ln_92, tn_93, ln_93, ob_94, tn_95, ln_95, tn_96, ln_96, tn_97, ln_97, tn_98, ln_98, tn_99, ln_99, tn_100, ln_100, tn_101, ln_101, tn_102, ln_102, tn_103, ln_103, ob_104, tn_105, ln_105, tn_106, ln_106, tn_107, ln_107, tn_108, ln_108, tn_109, ln_109, tn_110, ln_110, tn_111, ln_111, tn_112, ln_112, tn_113, ln_113, ob_114, tn_115, ln_115, tn_116, ln_116, tn_117, ln_117, tn_118, ln_118, tn_119, ln_119, tn_120, ln_120, tn_121, ln_121, tn_122, ln_122, tn_123, ln_123, ob_124, tn_125, ln_125, tn_126, ln_126, tn_127, ln_127, tn_128, ln_128, tn_129, ln_129, tn_130, ln_130, tn_131, ln_131, tn_132, ln_132, tn_133, ln_133, ob_134, tn_135, ln_135, tn_136, ln_136, tn_137, ln_137, tn_138, ln_138, tn_139, ln_139, tn_140, ln_140, tn_141, ln_141, tn_142, ln_142, tn_143, ln_143, ob_144, tn_145, ln_145, tn_146, ln_146, tn_147, ln_147, tn_148, ln_148, tn_149, ln_149, tn_150, ln_150, tn_151, ln_151, tn_152, ln_152, tn_153, ln_153, ob_154, tn_155, ln_155, tn_156, ln_156, tn_157, ln_157, tn_158, ln_158, tn_159, ln_159, tn_160, ln_160, tn_161, ln_161, tn_162, ln_162, tn_163, ln_163, ob_164, tn_165, ln_165, tn_166, ln_166, ob_167, tn_168, ln_168, tn_169, ln_169, tn_170, ln_170, tn_171, ln_171, tn_172, ln_172, tn_173, ln_173, tn_174, ln_174, tn_175, ln_175, tn_176, ln_176, ob_177, tn_178, ln_178, tn_179, ln_179, ob_180, tn_181, ln_181, tn_182, ln_182, tn_183, ln_183, tn_184, ln_184, tn_185, ln_185, tn_186, ln_186, tn_187, ln_187, tn_188, ln_188, tn_189, ln_189, tn_190, ln_190, tn_191, ln_191, tn_192, ln_192, tn_193, ln_193, tn_194, ln_194, tn_195, ln_195, tn_196, ln_196, tn_197, ln_197, tn_198, ln_198, tn_199, ln_199, tn_200, ln_200, tn_201, ln_201, tn_202, ln_202, tn_203, ln_203, tn_204, ln_204, tn_205, ln_205, tn_206, ln_206, tn_207, ln_207, tn_208, ln_208, tn_209, ln_209, tn_210, ln_210, tn_211, ln_211, tn_212, ln_212, tn_213, ln_213, tn_214, ln_214, tn_215, ln_215, tn_216, ln_216, tn_217, ln_217, tn_218, ln_218, tn_219, ln_219, tn_220, ln_220, tn_221, ln_221, tn_222, ln_222, tn_223, ln_223, tn_224, ln_224, tn_225, ln_225, tn_226, ln_226, tn_227, ln_227, tn_228, ln_228, tn_229, ln_229, tn_230, ln_230, lx2, lx3, lx4, lx5, lx6, lx7, lx8, lx9, lx10, lx14, lx15, lx16, lx18, lx20, lx24, lx25, lx27, lx32, lx36, lx40, lx41, lx42, lx43, lx45, lx48, lx52, lx54, lx56, lx57, lx58, lx60, lx61, lx62, lx63, lx64, lx66, lx69, lx73, lx80, lx81, lx84, lx85, lx87, lx94, lx96, lx97, lx120, lx128, lx135, lx160, lx162, lx163, lx165, lx200, lx232, lx242, lx243, lx255, lx256, lx320, lx325, lx400, lx405, lx464, lx512, lx600, lx640, lx752, lx900, lx940, lx1000, lx1024, lx1764, lx3360, lx3840, lx5000, lx6400, lx9050, lx9998, lx9999, lx10000, lx25600, lx76800, lx99999, si_ne, si_eq, sl_ne, sl_eq, xl_si, xi_sl, sA_ne, sA_eq, xl_sA, lcmp0]
      have fG : fr (SEn 53) B G := fr_tr hC1 (fr_tr hD (fr_tr hE hG'))
      have e44 : ∀ k, xl B 44 k = xl G 44 k := fun k => (fr_l fG (by unfold SEn; omega)).symm
      rw [e44, e44]
      refine xB1 (b := 24 - (u + 1)) (by omega) ⟨v, R, n, p, r, u + 1, n4, _, _, _, _, _, _, _, _, _, _, hp, hr, ctS_fr hC fG (by unfold SEn; omega), fr_tr hF fG, hP, by omega, by omega, by omega, fun k hk => (hp4 k (by omega)).trans ((hp3 k (by omega)).trans ((hp2 k (by omega)).trans ((hp1 k (by omega)).trans (hpre k hk)))), csS_congr hS4 fun m _ => ?_, rfl, rfl, rfl⟩
      have hm := Nat.mod_lt m (show 80 > 0 by omega)
      have hm2 := Nat.mod_lt (m / 80) (show 80 > 0 by omega)
      have b1 := hq_T hT hr hu24 (show m % 80 < 128 by omega)
      have b2 := hq_T hT hp hu24 (show m / 80 % 80 < 128 by omega)
      have b3 := hq_un hT hG hr h4 hu24 (show m % 80 < 128 by omega)
      have k1 := vs_2 (s := 0) (m := m) (x0 := xl B 42 ((p * 24 + u) * 2)) (x1 := xl B 42 ((p * 24 + u) * 2 + 1)) (lo := xl B 42 ((r * 24 + u) * 2)) (hi := xl B 42 ((r * 24 + u) * 2 + 1))
      rw [b1, b2] at k1
      have k2 := vs_2 (s := 1) (m := m) (x0 := xl B 42 ((p * 24 + u) * 2)) (x1 := xl B 42 ((p * 24 + u) * 2 + 1)) (lo := xl B 45 (r * 2) ||| xl B 44 (r * 2) &&& (xl B 42 ((r * 24 + u) * 2) ^^^ -1)) (hi := xl B 45 (r * 2 + 1) ||| xl B 44 (r * 2 + 1) &&& (xl B 42 ((r * 24 + u) * 2 + 1) ^^^ -1))
      rw [b2, b3] at k2
      dsimp only
      rw [or_assoc, k2, or_assoc (b := vsT 0 0 _ _ _ m), k1, or_assoc, or_assoc]
      refine or_congr Iff.rfl ?_
      unfold tzC
      constructor
      · rintro (⟨w, a, b, c⟩ | ⟨a, b, c⟩ | ⟨a, b, c⟩)
        · exact ⟨w, a, by omega, c⟩
        · exact ⟨u, h4, by omega, b, Or.inl ⟨a, c⟩⟩
        · exact ⟨u, h4, by omega, b, Or.inr ⟨a, c⟩⟩
      · rintro ⟨w, a, b, c, d⟩
        by_cases e : w = u
        · subst e
          rcases d with ⟨d1, d2⟩ | ⟨d1, d2⟩
          · exact Or.inr (Or.inl ⟨d1, c, d2⟩)
          · exact Or.inr (Or.inr ⟨d1, c, d2⟩)
        · exact Or.inl ⟨w, a, by omega, c, d⟩

