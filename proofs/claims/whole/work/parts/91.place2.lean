/-! ===== the class's places: what it learns of items ===== -/
theorem d_X7_learnItems_0 : decode cX7_learnItems 0 = .ok (.iconst 0, 1) := by decide +kernel
theorem d_X7_learnItems_1 : decode cX7_learnItems 1 = .ok (.istore_n 2, 1) := by decide +kernel
theorem d_X7_learnItems_2 : decode cX7_learnItems 2 = .ok (.iload_n 2, 1) := by decide +kernel
theorem d_X7_learnItems_3 : decode cX7_learnItems 3 = .ok (.bipush 42, 2) := by decide +kernel
theorem d_X7_learnItems_5 : decode cX7_learnItems 5 = .ok (.if_icmp .ge 23, 3) := by decide +kernel
theorem d_X7_learnItems_8 : decode cX7_learnItems 8 = .ok (.aload_n 0, 1) := by decide +kernel
theorem d_X7_learnItems_9 : decode cX7_learnItems 9 = .ok (.getfield 44, 3) := by decide +kernel
theorem d_X7_learnItems_12 : decode cX7_learnItems 12 = .ok (.iload_n 2, 1) := by decide +kernel
theorem d_X7_learnItems_13 : decode cX7_learnItems 13 = .ok (.iconst 0, 1) := by decide +kernel
theorem d_X7_learnItems_14 : decode cX7_learnItems 14 = .ok (.iastore, 1) := by decide +kernel
theorem d_X7_learnItems_15 : decode cX7_learnItems 15 = .ok (.aload_n 0, 1) := by decide +kernel
theorem d_X7_learnItems_16 : decode cX7_learnItems 16 = .ok (.getfield 47, 3) := by decide +kernel
theorem d_X7_learnItems_19 : decode cX7_learnItems 19 = .ok (.iload_n 2, 1) := by decide +kernel
theorem d_X7_learnItems_20 : decode cX7_learnItems 20 = .ok (.iconst 0, 1) := by decide +kernel
theorem d_X7_learnItems_21 : decode cX7_learnItems 21 = .ok (.iastore, 1) := by decide +kernel
theorem d_X7_learnItems_22 : decode cX7_learnItems 22 = .ok (.iinc 2 1, 3) := by decide +kernel
theorem d_X7_learnItems_25 : decode cX7_learnItems 25 = .ok (.goto (-23), 3) := by decide +kernel
theorem d_X7_learnItems_28 : decode cX7_learnItems 28 = .ok (.iconst 0, 1) := by decide +kernel
theorem d_X7_learnItems_29 : decode cX7_learnItems 29 = .ok (.istore_n 2, 1) := by decide +kernel
theorem d_X7_learnItems_30 : decode cX7_learnItems 30 = .ok (.iload_n 2, 1) := by decide +kernel
theorem d_X7_learnItems_31 : decode cX7_learnItems 31 = .ok (.aload_n 1, 1) := by decide +kernel
theorem d_X7_learnItems_32 : decode cX7_learnItems 32 = .ok (.getfield 82, 3) := by decide +kernel
theorem d_X7_learnItems_35 : decode cX7_learnItems 35 = .ok (.if_icmp .ge 103, 3) := by decide +kernel
theorem d_X7_learnItems_38 : decode cX7_learnItems 38 = .ok (.aload_n 1, 1) := by decide +kernel
theorem d_X7_learnItems_39 : decode cX7_learnItems 39 = .ok (.getfield 87, 3) := by decide +kernel
theorem d_X7_learnItems_42 : decode cX7_learnItems 42 = .ok (.iload_n 2, 1) := by decide +kernel
theorem d_X7_learnItems_43 : decode cX7_learnItems 43 = .ok (.iaload, 1) := by decide +kernel
theorem d_X7_learnItems_44 : decode cX7_learnItems 44 = .ok (.istore_n 3, 1) := by decide +kernel
theorem d_X7_learnItems_45 : decode cX7_learnItems 45 = .ok (.aload_n 0, 1) := by decide +kernel
theorem d_X7_learnItems_46 : decode cX7_learnItems 46 = .ok (.getfield 38, 3) := by decide +kernel
theorem d_X7_learnItems_49 : decode cX7_learnItems 49 = .ok (.iload_n 2, 1) := by decide +kernel
theorem d_X7_learnItems_50 : decode cX7_learnItems 50 = .ok (.aload_n 1, 1) := by decide +kernel
theorem d_X7_learnItems_51 : decode cX7_learnItems 51 = .ok (.iload_n 2, 1) := by decide +kernel
theorem d_X7_learnItems_52 : decode cX7_learnItems 52 = .ok (.invokevirtual 90, 3) := by decide +kernel
theorem d_X7_learnItems_55 : decode cX7_learnItems 55 = .ok (.iastore, 1) := by decide +kernel
theorem d_X7_learnItems_56 : decode cX7_learnItems 56 = .ok (.aload_n 0, 1) := by decide +kernel
theorem d_X7_learnItems_57 : decode cX7_learnItems 57 = .ok (.getfield 41, 3) := by decide +kernel
theorem d_X7_learnItems_60 : decode cX7_learnItems 60 = .ok (.iload_n 2, 1) := by decide +kernel
theorem d_X7_learnItems_61 : decode cX7_learnItems 61 = .ok (.aload_n 1, 1) := by decide +kernel
theorem d_X7_learnItems_62 : decode cX7_learnItems 62 = .ok (.iload_n 2, 1) := by decide +kernel
theorem d_X7_learnItems_63 : decode cX7_learnItems 63 = .ok (.invokevirtual 94, 3) := by decide +kernel
theorem d_X7_learnItems_66 : decode cX7_learnItems 66 = .ok (.iastore, 1) := by decide +kernel
theorem d_X7_learnItems_67 : decode cX7_learnItems 67 = .ok (.aload_n 0, 1) := by decide +kernel
theorem d_X7_learnItems_68 : decode cX7_learnItems 68 = .ok (.getfield 44, 3) := by decide +kernel
theorem d_X7_learnItems_71 : decode cX7_learnItems 71 = .ok (.iload_n 3, 1) := by decide +kernel
theorem d_X7_learnItems_72 : decode cX7_learnItems 72 = .ok (.dup2, 1) := by decide +kernel
theorem d_X7_learnItems_73 : decode cX7_learnItems 73 = .ok (.iaload, 1) := by decide +kernel
theorem d_X7_learnItems_74 : decode cX7_learnItems 74 = .ok (.aload_n 0, 1) := by decide +kernel
theorem d_X7_learnItems_75 : decode cX7_learnItems 75 = .ok (.getfield 41, 3) := by decide +kernel
theorem d_X7_learnItems_78 : decode cX7_learnItems 78 = .ok (.iload_n 2, 1) := by decide +kernel
theorem d_X7_learnItems_79 : decode cX7_learnItems 79 = .ok (.iaload, 1) := by decide +kernel
theorem d_X7_learnItems_80 : decode cX7_learnItems 80 = .ok (.ifCond .lt 14, 3) := by decide +kernel
theorem d_X7_learnItems_83 : decode cX7_learnItems 83 = .ok (.iconst 1, 1) := by decide +kernel
theorem d_X7_learnItems_84 : decode cX7_learnItems 84 = .ok (.aload_n 0, 1) := by decide +kernel
theorem d_X7_learnItems_85 : decode cX7_learnItems 85 = .ok (.getfield 41, 3) := by decide +kernel
theorem d_X7_learnItems_88 : decode cX7_learnItems 88 = .ok (.iload_n 2, 1) := by decide +kernel
theorem d_X7_learnItems_89 : decode cX7_learnItems 89 = .ok (.iaload, 1) := by decide +kernel
theorem d_X7_learnItems_90 : decode cX7_learnItems 90 = .ok (.ishl, 1) := by decide +kernel
theorem d_X7_learnItems_91 : decode cX7_learnItems 91 = .ok (.goto 4, 3) := by decide +kernel
theorem d_X7_learnItems_94 : decode cX7_learnItems 94 = .ok (.iconst 0, 1) := by decide +kernel
theorem d_X7_learnItems_95 : decode cX7_learnItems 95 = .ok (.ior, 1) := by decide +kernel
theorem d_X7_learnItems_96 : decode cX7_learnItems 96 = .ok (.iastore, 1) := by decide +kernel
theorem d_X7_learnItems_97 : decode cX7_learnItems 97 = .ok (.aload_n 0, 1) := by decide +kernel
theorem d_X7_learnItems_98 : decode cX7_learnItems 98 = .ok (.getfield 47, 3) := by decide +kernel
theorem d_X7_learnItems_101 : decode cX7_learnItems 101 = .ok (.iload_n 3, 1) := by decide +kernel
theorem d_X7_learnItems_102 : decode cX7_learnItems 102 = .ok (.dup2, 1) := by decide +kernel
theorem d_X7_learnItems_103 : decode cX7_learnItems 103 = .ok (.iaload, 1) := by decide +kernel
theorem d_X7_learnItems_104 : decode cX7_learnItems 104 = .ok (.aload_n 0, 1) := by decide +kernel
theorem d_X7_learnItems_105 : decode cX7_learnItems 105 = .ok (.getfield 38, 3) := by decide +kernel
theorem d_X7_learnItems_108 : decode cX7_learnItems 108 = .ok (.iload_n 2, 1) := by decide +kernel
theorem d_X7_learnItems_109 : decode cX7_learnItems 109 = .ok (.iaload, 1) := by decide +kernel
theorem d_X7_learnItems_110 : decode cX7_learnItems 110 = .ok (.bipush 8, 2) := by decide +kernel
theorem d_X7_learnItems_112 : decode cX7_learnItems 112 = .ok (.if_icmp .lt 17, 3) := by decide +kernel
theorem d_X7_learnItems_115 : decode cX7_learnItems 115 = .ok (.iconst 1, 1) := by decide +kernel
theorem d_X7_learnItems_116 : decode cX7_learnItems 116 = .ok (.aload_n 0, 1) := by decide +kernel
theorem d_X7_learnItems_117 : decode cX7_learnItems 117 = .ok (.getfield 38, 3) := by decide +kernel
theorem d_X7_learnItems_120 : decode cX7_learnItems 120 = .ok (.iload_n 2, 1) := by decide +kernel
theorem d_X7_learnItems_121 : decode cX7_learnItems 121 = .ok (.iaload, 1) := by decide +kernel
theorem d_X7_learnItems_122 : decode cX7_learnItems 122 = .ok (.bipush 8, 2) := by decide +kernel
theorem d_X7_learnItems_124 : decode cX7_learnItems 124 = .ok (.isub, 1) := by decide +kernel
theorem d_X7_learnItems_125 : decode cX7_learnItems 125 = .ok (.ishl, 1) := by decide +kernel
theorem d_X7_learnItems_126 : decode cX7_learnItems 126 = .ok (.goto 4, 3) := by decide +kernel
theorem d_X7_learnItems_129 : decode cX7_learnItems 129 = .ok (.iconst 0, 1) := by decide +kernel
theorem d_X7_learnItems_130 : decode cX7_learnItems 130 = .ok (.ior, 1) := by decide +kernel
theorem d_X7_learnItems_131 : decode cX7_learnItems 131 = .ok (.iastore, 1) := by decide +kernel
theorem d_X7_learnItems_132 : decode cX7_learnItems 132 = .ok (.iinc 2 1, 3) := by decide +kernel
theorem d_X7_learnItems_135 : decode cX7_learnItems 135 = .ok (.goto (-105), 3) := by decide +kernel
theorem d_X7_learnItems_138 : decode cX7_learnItems 138 = .ok (.return_, 1) := by decide +kernel
def k_X7_learnItems_0 (P : xP) (C2 : xK) : xK := x_push (.int 0) (x_istore 2 (C2))
set_option maxRecDepth 20000 in
theorem t_X7_learnItems_0 {p : Program} {l : Launch} {e : Env} {s : State} {m : MethodId} {args : Array Value} {below : List Frame} {meth : Method} {c : Code} {g : xG} (X : xX p s m args c meth cX7_learnItems RX7 4 g) (hr : meth.sig.returnType = none) {P : xP} {C2 : xK} (h2 : xAt p l e { frames := 2, cells := 0, slots := 0, locals := 43 } s m args below meth c g 4 xFT xN 0 0 (MQ below (xQc g xFT xN P) args s 0 0 (xFr g)) C2 2) : xAt p l e { frames := 2, cells := 0, slots := 0, locals := 43 } s m args below meth c g 4 xFT xN 0 0 (MQ below (xQc g xFT xN P) args s 0 0 (xFr g)) (k_X7_learnItems_0 P C2) 0 := by
  unfold k_X7_learnItems_0
  refine r_iconst (pc := 0) X d_X7_learnItems_0 (by decide +kernel) ?_
  refine r_istore_n (pc := 1) X d_X7_learnItems_1 fn2 (by decide +kernel) ?_
  exact h2
def k_X7_learnItems_2 (P : xP) (C2 : xK) (C30 : xK) : xK := x_iload 2 (x_push (.int 42) (x_icmp_ge (x_push (.int 0) (x_istore 2 (C30))) (x_aload 0 (y_getF 39 50 (x_iload 2 (x_push (.int 0) (y_iast 50 42 (x_aload 0 (y_getF 39 51 (x_iload 2 (x_push (.int 0) (y_iast 51 42 (x_iinc 2 1 (C2))))))))))))))
set_option maxRecDepth 20000 in
theorem t_X7_learnItems_2 {p : Program} {l : Launch} {e : Env} {s : State} {m : MethodId} {args : Array Value} {below : List Frame} {meth : Method} {c : Code} {g : xG} (X : xX p s m args c meth cX7_learnItems RX7 4 g) (hr : meth.sig.returnType = none) {P : xP} {C2 : xK} {C30 : xK} (h2 : xAt p l e { frames := 2, cells := 0, slots := 0, locals := 43 } s m args below meth c g 4 xFT xN 0 0 (MQ below (xQc g xFT xN P) args s 0 0 (xFr g)) C2 2) (h30 : xAt p l e { frames := 2, cells := 0, slots := 0, locals := 43 } s m args below meth c g 4 xFT xN 0 0 (MQ below (xQc g xFT xN P) args s 0 0 (xFr g)) C30 30) : xAt p l e { frames := 2, cells := 0, slots := 0, locals := 43 } s m args below meth c g 4 xFT xN 0 0 (MQ below (xQc g xFT xN P) args s 0 0 (xFr g)) (k_X7_learnItems_2 P C2 C30) 2 := by
  unfold k_X7_learnItems_2
  refine r_iload_n (pc := 2) X d_X7_learnItems_2 fn2 ?_
  refine r_bipush (pc := 3) X d_X7_learnItems_3 (by decide +kernel) ?_
  refine r_icmp_ge (pc := 5) (tgt := 28) X d_X7_learnItems_5 (by decide +kernel) ?_ ?_
  · refine r_iconst (pc := 28) X d_X7_learnItems_28 (by decide +kernel) ?_
    refine r_istore_n (pc := 29) X d_X7_learnItems_29 fn2 (by decide +kernel) ?_
    exact h30
  · refine r_aload_n (pc := 8) X d_X7_learnItems_8 fn0 ?_
    refine s_getF (pc := 9) (ci := 7) (k := 13) X xok7 (by decide +kernel) ob_39 trivial ly_39_13 (by decide +kernel) fl_RX7_44 d_X7_learnItems_9 ?_
    refine r_iload_n (pc := 12) X d_X7_learnItems_12 fn2 ?_
    refine r_iconst (pc := 13) X d_X7_learnItems_13 (by decide +kernel) ?_
    refine s_iast (pc := 14) X tn_50 ln_50 d_X7_learnItems_14 ?_
    refine r_aload_n (pc := 15) X d_X7_learnItems_15 fn0 ?_
    refine s_getF (pc := 16) (ci := 7) (k := 14) X xok7 (by decide +kernel) ob_39 trivial ly_39_14 (by decide +kernel) fl_RX7_47 d_X7_learnItems_16 ?_
    refine r_iload_n (pc := 19) X d_X7_learnItems_19 fn2 ?_
    refine r_iconst (pc := 20) X d_X7_learnItems_20 (by decide +kernel) ?_
    refine s_iast (pc := 21) X tn_51 ln_51 d_X7_learnItems_21 ?_
    refine r_iinc (pc := 22) X d_X7_learnItems_22 (by decide +kernel) (by decide +kernel) ?_
    refine r_goto (pc := 25) (tgt := 2) X d_X7_learnItems_25 (by decide +kernel) ?_
    exact h2
def k_X7_learnItems_130 (P : xP) (C30 : xK) : xK := x_ior (x_iast xN (x_iinc 2 1 (C30)))
set_option maxRecDepth 20000 in
theorem t_X7_learnItems_130 {p : Program} {l : Launch} {e : Env} {s : State} {m : MethodId} {args : Array Value} {below : List Frame} {meth : Method} {c : Code} {g : xG} (X : xX p s m args c meth cX7_learnItems RX7 4 g) (hr : meth.sig.returnType = none) {P : xP} {C30 : xK} (h30 : xAt p l e { frames := 2, cells := 0, slots := 0, locals := 43 } s m args below meth c g 4 xFT xN 0 0 (MQ below (xQc g xFT xN P) args s 0 0 (xFr g)) C30 30) : xAt p l e { frames := 2, cells := 0, slots := 0, locals := 43 } s m args below meth c g 4 xFT xN 0 0 (MQ below (xQc g xFT xN P) args s 0 0 (xFr g)) (k_X7_learnItems_130 P C30) 130 := by
  unfold k_X7_learnItems_130
  refine r_ior (pc := 130) X d_X7_learnItems_130 ?_
  refine r_iast (pc := 131) X d_X7_learnItems_131 ?_
  refine r_iinc (pc := 132) X d_X7_learnItems_132 (by decide +kernel) (by decide +kernel) ?_
  refine r_goto (pc := 135) (tgt := 30) X d_X7_learnItems_135 (by decide +kernel) ?_
  exact h30
def k_X7_learnItems_95 (P : xP) (C30 : xK) : xK := x_ior (x_iast xN (x_aload 0 (y_getF 39 51 (x_iload 3 (x_dup2 (y_iald 51 42 (x_aload 0 (y_getF 39 48 (x_iload 2 (y_iald 48 42 (x_push (.int 8) (x_icmp_lt (x_push (.int 0) ((k_X7_learnItems_130 P C30))) (x_push (.int 1) (x_aload 0 (y_getF 39 48 (x_iload 2 (y_iald 48 42 (x_push (.int 8) (x_isub (x_ishl ((k_X7_learnItems_130 P C30))))))))))))))))))))))
set_option maxRecDepth 20000 in
theorem t_X7_learnItems_95 {p : Program} {l : Launch} {e : Env} {s : State} {m : MethodId} {args : Array Value} {below : List Frame} {meth : Method} {c : Code} {g : xG} (X : xX p s m args c meth cX7_learnItems RX7 4 g) (hr : meth.sig.returnType = none) {P : xP} {C30 : xK} (h30 : xAt p l e { frames := 2, cells := 0, slots := 0, locals := 43 } s m args below meth c g 4 xFT xN 0 0 (MQ below (xQc g xFT xN P) args s 0 0 (xFr g)) C30 30) : xAt p l e { frames := 2, cells := 0, slots := 0, locals := 43 } s m args below meth c g 4 xFT xN 0 0 (MQ below (xQc g xFT xN P) args s 0 0 (xFr g)) (k_X7_learnItems_95 P C30) 95 := by
  unfold k_X7_learnItems_95
  refine r_ior (pc := 95) X d_X7_learnItems_95 ?_
  refine r_iast (pc := 96) X d_X7_learnItems_96 ?_
  refine r_aload_n (pc := 97) X d_X7_learnItems_97 fn0 ?_
  refine s_getF (pc := 98) (ci := 7) (k := 14) X xok7 (by decide +kernel) ob_39 trivial ly_39_14 (by decide +kernel) fl_RX7_47 d_X7_learnItems_98 ?_
  refine r_iload_n (pc := 101) X d_X7_learnItems_101 fn3 ?_
  refine r_dup2 (pc := 102) X d_X7_learnItems_102 ?_
  refine s_iald (pc := 103) X tn_51 ln_51 d_X7_learnItems_103 ?_
  refine r_aload_n (pc := 104) X d_X7_learnItems_104 fn0 ?_
  refine s_getF (pc := 105) (ci := 7) (k := 11) X xok7 (by decide +kernel) ob_39 trivial ly_39_11 (by decide +kernel) fl_RX7_38 d_X7_learnItems_105 ?_
  refine r_iload_n (pc := 108) X d_X7_learnItems_108 fn2 ?_
  refine s_iald (pc := 109) X tn_48 ln_48 d_X7_learnItems_109 ?_
  refine r_bipush (pc := 110) X d_X7_learnItems_110 (by decide +kernel) ?_
  refine r_icmp_lt (pc := 112) (tgt := 129) X d_X7_learnItems_112 (by decide +kernel) ?_ ?_
  · refine r_iconst (pc := 129) X d_X7_learnItems_129 (by decide +kernel) ?_
    exact t_X7_learnItems_130 X hr h30
  · refine r_iconst (pc := 115) X d_X7_learnItems_115 (by decide +kernel) ?_
    refine r_aload_n (pc := 116) X d_X7_learnItems_116 fn0 ?_
    refine s_getF (pc := 117) (ci := 7) (k := 11) X xok7 (by decide +kernel) ob_39 trivial ly_39_11 (by decide +kernel) fl_RX7_38 d_X7_learnItems_117 ?_
    refine r_iload_n (pc := 120) X d_X7_learnItems_120 fn2 ?_
    refine s_iald (pc := 121) X tn_48 ln_48 d_X7_learnItems_121 ?_
    refine r_bipush (pc := 122) X d_X7_learnItems_122 (by decide +kernel) ?_
    refine r_isub (pc := 124) X d_X7_learnItems_124 ?_
    refine r_ishl (pc := 125) X d_X7_learnItems_125 ?_
    refine r_goto (pc := 126) (tgt := 130) X d_X7_learnItems_126 (by decide +kernel) ?_
    exact t_X7_learnItems_130 X hr h30
def k_X7_learnItems_30 (P : xP) (C30 : xK) : xK := x_iload 2 (x_aload 1 (x_getI xN 4 3 (x_icmp_ge (x_vret P) (x_aload 1 (x_getF xN xFT 4 13 (x_iload 2 (x_iald xN (x_istore 3 (x_aload 0 (y_getF 39 48 (x_iload 2 (x_aload 1 (x_iload 2 (x_cv1 xN 4 (w_RI f_X4_nextOf) (y_iast 48 42 (x_aload 0 (y_getF 39 49 (x_iload 2 (x_aload 1 (x_iload 2 (x_cv1 xN 4 (w_RI f_X4_kindOf) (y_iast 49 42 (x_aload 0 (y_getF 39 50 (x_iload 3 (x_dup2 (y_iald 50 42 (x_aload 0 (y_getF 39 49 (x_iload 2 (y_iald 49 42 (x_if_lt (x_push (.int 0) ((k_X7_learnItems_95 P C30))) (x_push (.int 1) (x_aload 0 (y_getF 39 49 (x_iload 2 (y_iald 49 42 (x_ishl ((k_X7_learnItems_95 P C30))))))))))))))))))))))))))))))))))))))))
set_option maxRecDepth 20000 in
theorem t_X7_learnItems_30 {p : Program} {l : Launch} {e : Env} {s : State} {m : MethodId} {args : Array Value} {below : List Frame} {meth : Method} {c : Code} {g : xG} (X : xX p s m args c meth cX7_learnItems RX7 4 g) (hr : meth.sig.returnType = none) {P : xP} {C30 : xK} (h30 : xAt p l e { frames := 2, cells := 0, slots := 0, locals := 43 } s m args below meth c g 4 xFT xN 0 0 (MQ below (xQc g xFT xN P) args s 0 0 (xFr g)) C30 30) : xAt p l e { frames := 2, cells := 0, slots := 0, locals := 43 } s m args below meth c g 4 xFT xN 0 0 (MQ below (xQc g xFT xN P) args s 0 0 (xFr g)) (k_X7_learnItems_30 P C30) 30 := by
  unfold k_X7_learnItems_30
  refine r_iload_n (pc := 30) X d_X7_learnItems_30 fn2 ?_
  refine r_aload_n (pc := 31) X d_X7_learnItems_31 fn1 ?_
  refine r_getI (pc := 32) X xok4 (by decide +kernel) (by decide +kernel) fl_RX7_82 d_X7_learnItems_32 ?_
  refine r_icmp_ge (pc := 35) (tgt := 138) X d_X7_learnItems_35 (by decide +kernel) ?_ ?_
  · exact r_vret (pc := 138) X hr d_X7_learnItems_138
  · refine r_aload_n (pc := 38) X d_X7_learnItems_38 fn1 ?_
    refine r_getF (pc := 39) X xok4 (by decide +kernel) (by decide +kernel) fl_RX7_87 d_X7_learnItems_39 ?_
    refine r_iload_n (pc := 42) X d_X7_learnItems_42 fn2 ?_
    refine r_iald (pc := 43) X d_X7_learnItems_43 ?_
    refine r_istore_n (pc := 44) X d_X7_learnItems_44 fn3 (by decide +kernel) ?_
    refine r_aload_n (pc := 45) X d_X7_learnItems_45 fn0 ?_
    refine s_getF (pc := 46) (ci := 7) (k := 11) X xok7 (by decide +kernel) ob_39 trivial ly_39_11 (by decide +kernel) fl_RX7_38 d_X7_learnItems_46 ?_
    refine r_iload_n (pc := 49) X d_X7_learnItems_49 fn2 ?_
    refine r_aload_n (pc := 50) X d_X7_learnItems_50 fn1 ?_
    refine r_iload_n (pc := 51) X d_X7_learnItems_51 fn2 ?_
    refine r_cv1 (pc := 52) X xok4 (by decide +kernel) rfl (con_X4_nextOf l) mf_X4_nextOf ml_RX7_90 (by decide +kernel) (by decide +kernel) d_X7_learnItems_52 ?_
    refine s_iast (pc := 55) X tn_48 ln_48 d_X7_learnItems_55 ?_
    refine r_aload_n (pc := 56) X d_X7_learnItems_56 fn0 ?_
    refine s_getF (pc := 57) (ci := 7) (k := 12) X xok7 (by decide +kernel) ob_39 trivial ly_39_12 (by decide +kernel) fl_RX7_41 d_X7_learnItems_57 ?_
    refine r_iload_n (pc := 60) X d_X7_learnItems_60 fn2 ?_
    refine r_aload_n (pc := 61) X d_X7_learnItems_61 fn1 ?_
    refine r_iload_n (pc := 62) X d_X7_learnItems_62 fn2 ?_
    refine r_cv1 (pc := 63) X xok4 (by decide +kernel) rfl (con_X4_kindOf l) mf_X4_kindOf ml_RX7_94 (by decide +kernel) (by decide +kernel) d_X7_learnItems_63 ?_
    refine s_iast (pc := 66) X tn_49 ln_49 d_X7_learnItems_66 ?_
    refine r_aload_n (pc := 67) X d_X7_learnItems_67 fn0 ?_
    refine s_getF (pc := 68) (ci := 7) (k := 13) X xok7 (by decide +kernel) ob_39 trivial ly_39_13 (by decide +kernel) fl_RX7_44 d_X7_learnItems_68 ?_
    refine r_iload_n (pc := 71) X d_X7_learnItems_71 fn3 ?_
    refine r_dup2 (pc := 72) X d_X7_learnItems_72 ?_
    refine s_iald (pc := 73) X tn_50 ln_50 d_X7_learnItems_73 ?_
    refine r_aload_n (pc := 74) X d_X7_learnItems_74 fn0 ?_
    refine s_getF (pc := 75) (ci := 7) (k := 12) X xok7 (by decide +kernel) ob_39 trivial ly_39_12 (by decide +kernel) fl_RX7_41 d_X7_learnItems_75 ?_
    refine r_iload_n (pc := 78) X d_X7_learnItems_78 fn2 ?_
    refine s_iald (pc := 79) X tn_49 ln_49 d_X7_learnItems_79 ?_
    refine r_if_lt (pc := 80) (tgt := 94) X d_X7_learnItems_80 (by decide +kernel) ?_ ?_
    · refine r_iconst (pc := 94) X d_X7_learnItems_94 (by decide +kernel) ?_
      exact t_X7_learnItems_95 X hr h30
    · refine r_iconst (pc := 83) X d_X7_learnItems_83 (by decide +kernel) ?_
      refine r_aload_n (pc := 84) X d_X7_learnItems_84 fn0 ?_
      refine s_getF (pc := 85) (ci := 7) (k := 12) X xok7 (by decide +kernel) ob_39 trivial ly_39_12 (by decide +kernel) fl_RX7_41 d_X7_learnItems_85 ?_
      refine r_iload_n (pc := 88) X d_X7_learnItems_88 fn2 ?_
      refine s_iald (pc := 89) X tn_49 ln_49 d_X7_learnItems_89 ?_
      refine r_ishl (pc := 90) X d_X7_learnItems_90 ?_
      refine r_goto (pc := 91) (tgt := 95) X d_X7_learnItems_91 (by decide +kernel) ?_
      exact t_X7_learnItems_95 X hr h30
set_option maxRecDepth 20000 in
theorem m_X7_learnItems {l : Launch} {f : Nat → Nat → xH → xP → Prop}  {I2 : Nat → Nat → xH → xP → xM → xK} {I30 : Nat → Nat → xH → xP → xM → xK}
    (v0 : ∀ (a0 : Nat) (a1 : Nat) (A : xH) (P : xP), f a0 a1 A P → k_X7_learnItems_0 P (xE (I2 a0 a1 A P)) [some (.ref a0), some (.ref a1), none, none] [] A)
    (v2 : ∀ (a0 : Nat) (a1 : Nat) (A : xH) (P : xP), f a0 a1 A P → ∀ (μ : xM) (L : xL) (st : List Value) (B : xH), I2 a0 a1 A P μ L st B → k_X7_learnItems_2 P (xB (I2 a0 a1 A P) μ) (xE (I30 a0 a1 A P)) L st B)
    (v30 : ∀ (a0 : Nat) (a1 : Nat) (A : xH) (P : xP), f a0 a1 A P → ∀ (μ : xM) (L : xL) (st : List Value) (B : xH), I30 a0 a1 A P μ L st B → k_X7_learnItems_30 P (xB (I30 a0 a1 A P) μ) L st B) : xCon l yX7_learnItems cX7_learnItems 4 none 2 43 xN xN 0 xFT xFT (w_RR f) := by
  refine xc_RR (plainFor_of_name pn_RX7) (by decide +kernel) (fun p e s m args below meth c g a0 a1 A P h X hr _ => ?_)
  have h30 := x_loop1 (p := p) (l := l) (e := e) (R := { frames := 2, cells := 0, slots := 0, locals := 43 }) (s := s) (m := m) (args := args) (below := below) (meth := meth) (c := c) (g := g) (nL := 4) (F := xFT) (n := xN) (cells := 0) (slots := 0) (Q := MQ below (xQc g xFT xN P) args s 0 0 (xFr g)) (I := I30 a0 a1 A P) (pc1 := 30) (fun μ i30 => xAt_mono (t_X7_learnItems_30 (P := P) X hr i30) (v30 a0 a1 A P h μ))
  have h2 := x_loop1 (p := p) (l := l) (e := e) (R := { frames := 2, cells := 0, slots := 0, locals := 43 }) (s := s) (m := m) (args := args) (below := below) (meth := meth) (c := c) (g := g) (nL := 4) (F := xFT) (n := xN) (cells := 0) (slots := 0) (Q := MQ below (xQc g xFT xN P) args s 0 0 (xFr g)) (I := I2 a0 a1 A P) (pc1 := 2) (fun μ i2 => xAt_mono (t_X7_learnItems_2 (P := P) X hr i2 h30) (v2 a0 a1 A P h μ))
  exact ⟨_, v0 a0 a1 A P h, t_X7_learnItems_0 X hr h2⟩
def vkI (v : xV) (i : Nat) : Int32 := if i < 2 then -1 else nI (vrk v (vri v i))
/-- up to n items are learnt -/
def liN (A : xH) (v : xV) (n : Nat) : Prop := (∀ i, i < n → xi A 48 i = oI (vnx v i) ∧ xi A 49 i = vkI v i) ∧ ∀ c, c < 42 → (∀ k, k < 32 → tst (xi A 50 c) k = okB v c n k) ∧ ∀ k, k < 32 → tst (xi A 51 c) k = clB v c n k
def liC (A : xH) (v : xV) : Prop := liN A v (vN v)
def SLi (c k : Nat) : Prop := (48 ≤ c ∧ c ≤ 51) ∧ 0 ≤ k
theorem liN_fr {S : Nat → Nat → Prop} {A B : xH} {v : xV} {n : Nat} (h : liN A v n) (hf : fr S A B) (hs : ∀ c k, S c k → ¬ SLi c k) : liN B v n := by
  have e : ∀ c k, (48 ≤ c ∧ c ≤ 51) → ¬ S c k := fun c k a b => hs c k b ⟨a, Nat.zero_le _⟩
  refine ⟨fun i hi => ⟨(fr_i hf (e _ _ (by omega))).trans (h.1 i hi).1, (fr_i hf (e _ _ (by omega))).trans (h.1 i hi).2⟩, fun c hc => ⟨fun k hk => ?_, fun k hk => ?_⟩⟩
  · rw [fr_i hf (e _ _ (by omega))]; exact (h.2 c hc).1 k hk
  · rw [fr_i hf (e _ _ (by omega))]; exact (h.2 c hc).2 k hk
def mod2 (m : Nat) : Prop := m = 8 ∨ m = 18
def f_X7_learnItems (q m : Nat) (A : xH) (P : xP) : Prop := q = 39 ∧ mod2 m ∧ ∃ v, isM A m v ∧ ∀ B, fr SLi A B → liC B v → P none B
def li2 (m : Nat) (A : xH) (P : xP) : xM → xK := fun μ L st B => ∃ v i, mod2 m ∧ isM A m v ∧ (∀ B, fr SLi A B → liC B v → P none B) ∧ i ≤ 42 ∧ fr SLi A B ∧ (∀ c, c < i → xi B 50 c = 0 ∧ xi B 51 c = 0) ∧ st = [] ∧ L = [some (.ref 39), some (.ref m), some (.int (nI i)), none] ∧ μ = (42 - i, 0, 0)
def li30 (m : Nat) (A : xH) (P : xP) : xM → xK := fun μ L st B => ∃ v i o, mod2 m ∧ isM A m v ∧ (∀ B, fr SLi A B → liC B v → P none B) ∧ i ≤ vN v ∧ fr SLi A B ∧ liN B v i ∧ st = [] ∧ L = [some (.ref 39), some (.ref m), some (.int (nI i)), o] ∧ μ = (vN v - i, 0, 0)
theorem isM_li {A B : xH} {v : xV} {m : Nat} (hm : mod2 m) (h : isM A m v) (hf : fr SLi A B) : isM B m v := isM_fr h hf (by rcases hm with rfl | rfl <;> unfold SLi <;> omega)
theorem kind_CA {A : xH} {P : xP} {v : xV} {m i : Nat} (hM : isM A m v) (hi : i < vN v) (hP : P (some (.int (vkI v i))) A) : f_X4_kindOf m (nI i) A P := by
  have hw := hM.1.2.1
  have hN := vN_le hw
  refine ⟨v, hM, fun r d hr hd ei => ?_, fun no => ?_⟩
  · have hlt := vfst_lt hr
    have h2 := vfst_ge v r
    rw [nI_eq (by omega) (by omega)] at ei
    unfold vkI at hP
    rw [if_neg (by omega), ei, vri_eq hr hd] at hP
    exact hP
  · unfold vkI at hP
    by_cases h2 : i < 2
    · rw [if_pos h2] at hP; exact hP
    · obtain ⟨a1, a2, a3⟩ := vri_sp (by omega) hi
      exact absurd ⟨_, _, a1, a2, by rw [← a3]⟩ no
theorem li_130 {B : xH} {P : xP} {m i g : Nat} {C : xK} {y x : Int32} (hg : g < 42) (h : ∀ z, z = (y ||| x) → C [some (.ref 39), some (.ref m), some (.int (nI (i + 1))), some (.int (nI g))] [] (xsi B 51 g z)) : k_X7_learnItems_130 P C [some (.ref 39), some (.ref m), some (.int (nI i)), some (.int (nI g))] [.int x, .int y, .int (nI g), .ref 51] B := by
  have t : xtn xN 51 = 1 := tn_51
  have l : (xsh 51).2 = 42 := ln_51
  simp (disch := omega) only [k_X7_learnItems_0, k_X7_learnItems_2, k_X7_learnItems_30, k_X7_learnItems_95, k_X7_learnItems_130, w_RI, x_aload, x_cv1, x_dup2, x_getF, x_getI, x_iald, x_iast, x_icmp_ge, x_icmp_lt, x_if_lt, x_iinc, x_iload, x_ior, x_ishl, x_istore, x_isub, x_push, x_vret, y_getF, y_iald, y_iast, xFT, xbool0, xbool1, Nat.reduceAdd, Nat.zero_add, xgl_0, xgl_s, xgl_n, xst_0, xst_1n, xst_1i, xst_1r, xst_1l, xst_s, set_0, set_s, true_and, and_true, xres, xcat_nil, xcat_i, xcat_r, xcat_l, Nat.add_zero, xble0, xble1, xble2, xble3, xble4, xble5, xble6, xble7, xble8, pk_mul, nI_add, nI_1, nI_leI, nI_ltI, nI_eq, n_in, n_cl, z_eq, z_lt, z_le, z_gt, z_ge, z_qe, o_eq, o_lt, o_le, o_gt, o_ge, vp0, vp1, cl0, cl1, n_sub, n_sub1, n_pm1, n_a0, n_0a, ofn, lN0, Nat.reduceLT, Nat.reduceLeDiff, Nat.reduceMul, Nat.reduceSub, Nat.reduceEqDiff, ne_eq, true_implies, false_implies, not_true_eq_false, not_false_eq_true, and_self, and_true, true_and, and_false, false_and, implies_true, if_true, if_false, i00, i10, i01, i11, ob_0, ob_1, tn_2, ln_2, ob_3, tn_4, ln_4, ob_5, tn_6, ln_6, tn_7, ln_7, ob_8, tn_9, ln_9, tn_10, ln_10, tn_11, ln_11, tn_12, ln_12, tn_13, ln_13, tn_14, ln_14, tn_15, ln_15, tn_16, ln_16, tn_17, ln_17, ob_18, tn_19, ln_19, tn_20, ln_20, tn_21, ln_21, tn_22, ln_22, tn_23, ln_23, tn_24, ln_24, tn_25, ln_25, tn_26, ln_26, tn_27, ln_27, ob_28, tn_29, ln_29, tn_30, ln_30, ob_31, tn_32, ln_32, tn_33, ln_33, ob_34, ob_35, tn_36, ln_36, tn_37, ln_37, tn_38, ln_38, ob_39, tn_40, ln_40, tn_41, ln_41, tn_42, ln_42, tn_43, ln_43, tn_44, ln_44, tn_45, ln_45, tn_46, ln_46, tn_47, ln_47, tn_48, ln_48, tn_49, ln_49, tn_50, ln_50, tn_51, ln_51, ob_52, tn_53, ln_53, tn_54, ln_54, tn_55, ln_55, tn_56, ln_56, ob_57, tn_58, ln_58, tn_59, ln_59, tn_60, ln_60, tn_61, ln_61, tn_62, ln_62, tn_63, ln_63, tn_64, ln_64, tn_65, ln_65, ob_66, tn_67, ln_67, tn_68, ln_68, tn_69, ln_69, tn_70, ln_70, tn_71, ln_71, tn_72, ln_72, tn_73, ln_73, ob_74, tn_75, ln_75, tn_76, ln_76, tn_77, ln_77, tn_78, ln_78, tn_79, ln_79, tn_80, ln_80, tn_81, ln_81, tn_82, ln_82, tn_83, ln_83, ob_84, tn_85, ln_85, tn_86, ln_86, tn_87, ln_87, tn_88, ln_88, tn_89, ln_89, tn_90, ln_90, tn_91, ln_91, tn_92, ln_92, tn_93, ln_93, ob_94, tn_95, ln_95, tn_96, ln_96, tn_97, ln_97, tn_98, ln_98, tn_99, ln_99, tn_100, ln_100, tn_101, ln_101, tn_102, ln_102, tn_103, ln_103, ob_104, tn_105, ln_105, tn_106, ln_106, tn_107, ln_107, tn_108, ln_108, tn_109, ln_109, tn_110, ln_110, tn_111, ln_111, tn_112, ln_112, tn_113, ln_113, ob_114, tn_115, ln_115, tn_116, ln_116, tn_117, ln_117, tn_118, ln_118, tn_119, ln_119, tn_120, ln_120, tn_121, ln_121, tn_122, ln_122, tn_123, ln_123, ob_124, tn_125, ln_125, tn_126, ln_126, tn_127, ln_127, tn_128, ln_128, tn_129, ln_129, tn_130, ln_130, tn_131, ln_131, tn_132, ln_132, tn_133, ln_133, ob_134, tn_135, ln_135, tn_136, ln_136, tn_137, ln_137, tn_138, ln_138, tn_139, ln_139, tn_140, ln_140, tn_141, ln_141, tn_142, ln_142, tn_143, ln_143, ob_144, tn_145, ln_145, tn_146, ln_146, tn_147, ln_147, tn_148, ln_148, tn_149, ln_149, tn_150, ln_150, tn_151, ln_151, tn_152, ln_152, tn_153, ln_153, ob_154, tn_155, ln_155, tn_156, ln_156, tn_157, ln_157, tn_158, ln_158, tn_159, ln_159, tn_160, ln_160, tn_161, ln_161, tn_162, ln_162, tn_163, ln_163, ob_164, tn_165, ln_165, tn_166, ln_166, ob_167, tn_168, ln_168, tn_169, ln_169, tn_170, ln_170, tn_171, ln_171, tn_172, ln_172, tn_173, ln_173, tn_174, ln_174, tn_175, ln_175, tn_176, ln_176, ob_177, tn_178, ln_178, tn_179, ln_179, ob_180, tn_181, ln_181, tn_182, ln_182, tn_183, ln_183, tn_184, ln_184, tn_185, ln_185, tn_186, ln_186, tn_187, ln_187, tn_188, ln_188, tn_189, ln_189, tn_190, ln_190, tn_191, ln_191, tn_192, ln_192, tn_193, ln_193, tn_194, ln_194, tn_195, ln_195, tn_196, ln_196, tn_197, ln_197, tn_198, ln_198, tn_199, ln_199, tn_200, ln_200, tn_201, ln_201, tn_202, ln_202, tn_203, ln_203, tn_204, ln_204, tn_205, ln_205, tn_206, ln_206, tn_207, ln_207, tn_208, ln_208, tn_209, ln_209, tn_210, ln_210, tn_211, ln_211, tn_212, ln_212, tn_213, ln_213, tn_214, ln_214, tn_215, ln_215, tn_216, ln_216, tn_217, ln_217, tn_218, ln_218, tn_219, ln_219, tn_220, ln_220, tn_221, ln_221, tn_222, ln_222, tn_223, ln_223, tn_224, ln_224, tn_225, ln_225, tn_226, ln_226, tn_227, ln_227, tn_228, ln_228, tn_229, ln_229, tn_230, ln_230, lx2, lx3, lx4, lx5, lx6, lx7, lx8, lx9, lx10, lx14, lx15, lx16, lx18, lx20, lx24, lx25, lx27, lx32, lx36, lx40, lx41, lx42, lx43, lx45, lx48, lx52, lx54, lx56, lx57, lx58, lx60, lx61, lx62, lx63, lx64, lx66, lx69, lx73, lx80, lx81, lx84, lx85, lx87, lx94, lx96, lx97, lx120, lx128, lx135, lx160, lx162, lx163, lx165, lx200, lx232, lx242, lx243, lx255, lx256, lx320, lx325, lx400, lx405, lx464, lx512, lx600, lx640, lx752, lx900, lx940, lx1000, lx1024, lx1764, lx3360, lx3840, lx5000, lx6400, lx9050, lx9998, lx9999, lx10000, lx25600, lx76800, lx99999, t, l]
  exact ⟨hg, h _ rfl⟩
theorem shl_bit {k : Nat} : (1 : Int32) <<< (nI k &&& 31) = bit k := rfl
set_option maxRecDepth 20000 in
theorem con_X7_learnItems (l : Launch) : xCon l yX7_learnItems cX7_learnItems 4 none 2 43 xN xN 0 xFT xFT (w_RR f_X7_learnItems) := by
  refine m_X7_learnItems (I2 := fun q m A P => li2 m A P) (I30 := fun q m A P => li30 m A P) ?_ ?_ ?_
  · rintro q m A P ⟨rfl, hm, v, hM, hP⟩
    simp (disch := omega) only [k_X7_learnItems_0, k_X7_learnItems_2, k_X7_learnItems_30, k_X7_learnItems_95, k_X7_learnItems_130, w_RI, x_aload, x_cv1, x_dup2, x_getF, x_getI, x_iald, x_iast, x_icmp_ge, x_icmp_lt, x_if_lt, x_iinc, x_iload, x_ior, x_ishl, x_istore, x_isub, x_push, x_vret, y_getF, y_iald, y_iast, xFT, xbool0, xbool1, Nat.reduceAdd, Nat.zero_add, xgl_0, xgl_s, xgl_n, xst_0, xst_1n, xst_1i, xst_1r, xst_1l, xst_s, set_0, set_s, true_and, and_true, xres, xcat_nil, xcat_i, xcat_r, xcat_l, Nat.add_zero, xble0, xble1, xble2, xble3, xble4, xble5, xble6, xble7, xble8, pk_mul, nI_add, nI_1, nI_leI, nI_ltI, nI_eq, n_in, n_cl, z_eq, z_lt, z_le, z_gt, z_ge, z_qe, o_eq, o_lt, o_le, o_gt, o_ge, vp0, vp1, cl0, cl1, n_sub, n_sub1, n_pm1, n_a0, n_0a, ofn, lN0, Nat.reduceLT, Nat.reduceLeDiff, Nat.reduceMul, Nat.reduceSub, Nat.reduceEqDiff, ne_eq, true_implies, false_implies, not_true_eq_false, not_false_eq_true, and_self, and_true, true_and, and_false, false_and, implies_true, if_true, if_false, i00, i10, i01, i11, ob_0, ob_1, tn_2, ln_2, ob_3, tn_4, ln_4, ob_5, tn_6, ln_6, tn_7, ln_7, ob_8, tn_9, ln_9, tn_10, ln_10, tn_11, ln_11, tn_12, ln_12, tn_13, ln_13, tn_14, ln_14, tn_15, ln_15, tn_16, ln_16, tn_17, ln_17, ob_18, tn_19, ln_19, tn_20, ln_20, tn_21, ln_21, tn_22, ln_22, tn_23, ln_23, tn_24, ln_24, tn_25, ln_25, tn_26, ln_26, tn_27, ln_27, ob_28, tn_29, ln_29, tn_30, ln_30, ob_31, tn_32, ln_32, tn_33, ln_33, ob_34, ob_35, tn_36, ln_36, tn_37, ln_37, tn_38, ln_38, ob_39, tn_40, ln_40, tn_41, ln_41, tn_42, ln_42, tn_43, ln_43, tn_44, ln_44, tn_45, ln_45, tn_46, ln_46, tn_47, ln_47, tn_48, ln_48, tn_49, ln_49, tn_50, ln_50, tn_51, ln_51, ob_52, tn_53, ln_53, tn_54, ln_54, tn_55, ln_55, tn_56, ln_56, ob_57, tn_58, ln_58, tn_59, ln_59, tn_60, ln_60, tn_61, ln_61, tn_62, ln_62, tn_63, ln_63, tn_64, ln_64, tn_65, ln_65, ob_66, tn_67, ln_67, tn_68, ln_68, tn_69, ln_69, tn_70, ln_70, tn_71, ln_71, tn_72, ln_72, tn_73, ln_73, ob_74, tn_75, ln_75, tn_76, ln_76, tn_77, ln_77, tn_78, ln_78, tn_79, ln_79, tn_80, ln_80, tn_81, ln_81, tn_82, ln_82, tn_83, ln_83, ob_84, tn_85, ln_85, tn_86, ln_86, tn_87, ln_87, tn_88, ln_88, tn_89, ln_89, tn_90, ln_90, tn_91, ln_91, tn_92, ln_92, tn_93, ln_93, ob_94, tn_95, ln_95, tn_96, ln_96, tn_97, ln_97, tn_98, ln_98, tn_99, ln_99, tn_100, ln_100, tn_101, ln_101, tn_102, ln_102, tn_103, ln_103, ob_104, tn_105, ln_105, tn_106, ln_106, tn_107, ln_107, tn_108, ln_108, tn_109, ln_109, tn_110, ln_110, tn_111, ln_111, tn_112, ln_112, tn_113, ln_113, ob_114, tn_115, ln_115, tn_116, ln_116, tn_117, ln_117, tn_118, ln_118, tn_119, ln_119, tn_120, ln_120, tn_121, ln_121, tn_122, ln_122, tn_123, ln_123, ob_124, tn_125, ln_125, tn_126, ln_126, tn_127, ln_127, tn_128, ln_128, tn_129, ln_129, tn_130, ln_130, tn_131, ln_131, tn_132, ln_132, tn_133, ln_133, ob_134, tn_135, ln_135, tn_136, ln_136, tn_137, ln_137, tn_138, ln_138, tn_139, ln_139, tn_140, ln_140, tn_141, ln_141, tn_142, ln_142, tn_143, ln_143, ob_144, tn_145, ln_145, tn_146, ln_146, tn_147, ln_147, tn_148, ln_148, tn_149, ln_149, tn_150, ln_150, tn_151, ln_151, tn_152, ln_152, tn_153, ln_153, ob_154, tn_155, ln_155, tn_156, ln_156, tn_157, ln_157, tn_158, ln_158, tn_159, ln_159, tn_160, ln_160, tn_161, ln_161, tn_162, ln_162, tn_163, ln_163, ob_164, tn_165, ln_165, tn_166, ln_166, ob_167, tn_168, ln_168, tn_169, ln_169, tn_170, ln_170, tn_171, ln_171, tn_172, ln_172, tn_173, ln_173, tn_174, ln_174, tn_175, ln_175, tn_176, ln_176, ob_177, tn_178, ln_178, tn_179, ln_179, ob_180, tn_181, ln_181, tn_182, ln_182, tn_183, ln_183, tn_184, ln_184, tn_185, ln_185, tn_186, ln_186, tn_187, ln_187, tn_188, ln_188, tn_189, ln_189, tn_190, ln_190, tn_191, ln_191, tn_192, ln_192, tn_193, ln_193, tn_194, ln_194, tn_195, ln_195, tn_196, ln_196, tn_197, ln_197, tn_198, ln_198, tn_199, ln_199, tn_200, ln_200, tn_201, ln_201, tn_202, ln_202, tn_203, ln_203, tn_204, ln_204, tn_205, ln_205, tn_206, ln_206, tn_207, ln_207, tn_208, ln_208, tn_209, ln_209, tn_210, ln_210, tn_211, ln_211, tn_212, ln_212, tn_213, ln_213, tn_214, ln_214, tn_215, ln_215, tn_216, ln_216, tn_217, ln_217, tn_218, ln_218, tn_219, ln_219, tn_220, ln_220, tn_221, ln_221, tn_222, ln_222, tn_223, ln_223, tn_224, ln_224, tn_225, ln_225, tn_226, ln_226, tn_227, ln_227, tn_228, ln_228, tn_229, ln_229, tn_230, ln_230, lx2, lx3, lx4, lx5, lx6, lx7, lx8, lx9, lx10, lx14, lx15, lx16, lx18, lx20, lx24, lx25, lx27, lx32, lx36, lx40, lx41, lx42, lx43, lx45, lx48, lx52, lx54, lx56, lx57, lx58, lx60, lx61, lx62, lx63, lx64, lx66, lx69, lx73, lx80, lx81, lx84, lx85, lx87, lx94, lx96, lx97, lx120, lx128, lx135, lx160, lx162, lx163, lx165, lx200, lx232, lx242, lx243, lx255, lx256, lx320, lx325, lx400, lx405, lx464, lx512, lx600, lx640, lx752, lx900, lx940, lx1000, lx1024, lx1764, lx3360, lx3840, lx5000, lx6400, lx9050, lx9998, lx9999, lx10000, lx25600, lx76800, lx99999]
    exact xE0 (42 - 0, 0, 0) ⟨v, 0, hm, hM, hP, by omega, fr_rf, fun c hc => absurd hc (Nat.not_lt_zero c), rfl, rfl, rfl⟩
  · rintro q m A P - μ L st B ⟨v, i, hm, hM, hP, hi, hF, hz, rfl, rfl, rfl⟩
    simp (disch := omega) only [k_X7_learnItems_0, k_X7_learnItems_2, k_X7_learnItems_30, w_RI, x_aload, x_cv1, x_dup2, x_getF, x_getI, x_iald, x_iast, x_icmp_ge, x_icmp_lt, x_if_lt, x_iinc, x_iload, x_ior, x_ishl, x_istore, x_isub, x_push, x_vret, y_getF, y_iald, y_iast, xFT, xbool0, xbool1, Nat.reduceAdd, Nat.zero_add, xgl_0, xgl_s, xgl_n, xst_0, xst_1n, xst_1i, xst_1r, xst_1l, xst_s, set_0, set_s, true_and, and_true, xres, xcat_nil, xcat_i, xcat_r, xcat_l, Nat.add_zero, xble0, xble1, xble2, xble3, xble4, xble5, xble6, xble7, xble8, pk_mul, nI_add, nI_1, nI_leI, nI_ltI, nI_eq, n_in, n_cl, z_eq, z_lt, z_le, z_gt, z_ge, z_qe, o_eq, o_lt, o_le, o_gt, o_ge, vp0, vp1, cl0, cl1, n_sub, n_sub1, n_pm1, n_a0, n_0a, ofn, lN0, Nat.reduceLT, Nat.reduceLeDiff, Nat.reduceMul, Nat.reduceSub, Nat.reduceEqDiff, ne_eq, true_implies, false_implies, not_true_eq_false, not_false_eq_true, and_self, and_true, true_and, and_false, false_and, implies_true, if_true, if_false, i00, i10, i01, i11, ob_0, ob_1, tn_2, ln_2, ob_3, tn_4, ln_4, ob_5, tn_6, ln_6, tn_7, ln_7, ob_8, tn_9, ln_9, tn_10, ln_10, tn_11, ln_11, tn_12, ln_12, tn_13, ln_13, tn_14, ln_14, tn_15, ln_15, tn_16, ln_16, tn_17, ln_17, ob_18, tn_19, ln_19, tn_20, ln_20, tn_21, ln_21, tn_22, ln_22, tn_23, ln_23, tn_24, ln_24, tn_25, ln_25, tn_26, ln_26, tn_27, ln_27, ob_28, tn_29, ln_29, tn_30, ln_30, ob_31, tn_32, ln_32, tn_33, ln_33, ob_34, ob_35, tn_36, ln_36, tn_37, ln_37, tn_38, ln_38, ob_39, tn_40, ln_40, tn_41, ln_41, tn_42, ln_42, tn_43, ln_43, tn_44, ln_44, tn_45, ln_45, tn_46, ln_46, tn_47, ln_47, tn_48, ln_48, tn_49, ln_49, tn_50, ln_50, tn_51, ln_51, ob_52, tn_53, ln_53, tn_54, ln_54, tn_55, ln_55, tn_56, ln_56, ob_57, tn_58, ln_58, tn_59, ln_59, tn_60, ln_60, tn_61, ln_61, tn_62, ln_62, tn_63, ln_63, tn_64, ln_64, tn_65, ln_65, ob_66, tn_67, ln_67, tn_68, ln_68, tn_69, ln_69, tn_70, ln_70, tn_71, ln_71, tn_72, ln_72, tn_73, ln_73, ob_74, tn_75, ln_75, tn_76, ln_76, tn_77, ln_77, tn_78, ln_78, tn_79, ln_79, tn_80, ln_80, tn_81, ln_81, tn_82, ln_82, tn_83, ln_83, ob_84, tn_85, ln_85, tn_86, ln_86, tn_87, ln_87, tn_88, ln_88, tn_89, ln_89, tn_90, ln_90, tn_91, ln_91, tn_92, ln_92, tn_93, ln_93, ob_94, tn_95, ln_95, tn_96, ln_96, tn_97, ln_97, tn_98, ln_98, tn_99, ln_99, tn_100, ln_100, tn_101, ln_101, tn_102, ln_102, tn_103, ln_103, ob_104, tn_105, ln_105, tn_106, ln_106, tn_107, ln_107, tn_108, ln_108, tn_109, ln_109, tn_110, ln_110, tn_111, ln_111, tn_112, ln_112, tn_113, ln_113, ob_114, tn_115, ln_115, tn_116, ln_116, tn_117, ln_117, tn_118, ln_118, tn_119, ln_119, tn_120, ln_120, tn_121, ln_121, tn_122, ln_122, tn_123, ln_123, ob_124, tn_125, ln_125, tn_126, ln_126, tn_127, ln_127, tn_128, ln_128, tn_129, ln_129, tn_130, ln_130, tn_131, ln_131, tn_132, ln_132, tn_133, ln_133, ob_134, tn_135, ln_135, tn_136, ln_136, tn_137, ln_137, tn_138, ln_138, tn_139, ln_139, tn_140, ln_140, tn_141, ln_141, tn_142, ln_142, tn_143, ln_143, ob_144, tn_145, ln_145, tn_146, ln_146, tn_147, ln_147, tn_148, ln_148, tn_149, ln_149, tn_150, ln_150, tn_151, ln_151, tn_152, ln_152, tn_153, ln_153, ob_154, tn_155, ln_155, tn_156, ln_156, tn_157, ln_157, tn_158, ln_158, tn_159, ln_159, tn_160, ln_160, tn_161, ln_161, tn_162, ln_162, tn_163, ln_163, ob_164, tn_165, ln_165, tn_166, ln_166, ob_167, tn_168, ln_168, tn_169, ln_169, tn_170, ln_170, tn_171, ln_171, tn_172, ln_172, tn_173, ln_173, tn_174, ln_174, tn_175, ln_175, tn_176, ln_176, ob_177, tn_178, ln_178, tn_179, ln_179, ob_180, tn_181, ln_181, tn_182, ln_182, tn_183, ln_183, tn_184, ln_184, tn_185, ln_185, tn_186, ln_186, tn_187, ln_187, tn_188, ln_188, tn_189, ln_189, tn_190, ln_190, tn_191, ln_191, tn_192, ln_192, tn_193, ln_193, tn_194, ln_194, tn_195, ln_195, tn_196, ln_196, tn_197, ln_197, tn_198, ln_198, tn_199, ln_199, tn_200, ln_200, tn_201, ln_201, tn_202, ln_202, tn_203, ln_203, tn_204, ln_204, tn_205, ln_205, tn_206, ln_206, tn_207, ln_207, tn_208, ln_208, tn_209, ln_209, tn_210, ln_210, tn_211, ln_211, tn_212, ln_212, tn_213, ln_213, tn_214, ln_214, tn_215, ln_215, tn_216, ln_216, tn_217, ln_217, tn_218, ln_218, tn_219, ln_219, tn_220, ln_220, tn_221, ln_221, tn_222, ln_222, tn_223, ln_223, tn_224, ln_224, tn_225, ln_225, tn_226, ln_226, tn_227, ln_227, tn_228, ln_228, tn_229, ln_229, tn_230, ln_230, lx2, lx3, lx4, lx5, lx6, lx7, lx8, lx9, lx10, lx14, lx15, lx16, lx18, lx20, lx24, lx25, lx27, lx32, lx36, lx40, lx41, lx42, lx43, lx45, lx48, lx52, lx54, lx56, lx57, lx58, lx60, lx61, lx62, lx63, lx64, lx66, lx69, lx73, lx80, lx81, lx84, lx85, lx87, lx94, lx96, lx97, lx120, lx128, lx135, lx160, lx162, lx163, lx165, lx200, lx232, lx242, lx243, lx255, lx256, lx320, lx325, lx400, lx405, lx464, lx512, lx600, lx640, lx752, lx900, lx940, lx1000, lx1024, lx1764, lx3360, lx3840, lx5000, lx6400, lx9050, lx9998, lx9999, lx10000, lx25600, lx76800, lx99999]
    refine ⟨fun q => ?_, fun q => ⟨by omega, by omega, ?_⟩⟩
    · refine xE0 (vN v - 0, 0, 0) ⟨v, 0, none, hm, hM, hP, Nat.zero_le _, hF, ⟨fun i hi => absurd hi (Nat.not_lt_zero i), fun c hc => ?_⟩, rfl, rfl, rfl⟩
      obtain ⟨z1, z2⟩ := hz c (by omega)
      rw [z1, z2]
      exact ⟨fun k _ => tst_0, fun k _ => tst_0⟩
    · refine xB1 (b := 42 - (i + 1)) (by omega) ⟨v, i + 1, hm, hM, hP, by omega, fr_si (fr_si hF (by unfold SLi; omega)) (by unfold SLi; omega), fun c hc => ?_, rfl, rfl, rfl⟩
      by_cases e : c = i
      · subst e
        exact ⟨by rw [si_ne (by omega), si_eq], si_eq⟩
      · rw [si_ne (by omega), si_ne (by omega), si_ne (by omega), si_ne (by omega)]
        exact hz c (by omega)
  · rintro q m A P - μ L st B ⟨v, i, o, hm, hM, hP, hi, hF, hl, rfl, rfl, rfl⟩
    have hMB := isM_li hm hM hF
    have hw := hM.1.2.1
    have hN := vN_le hw
    have m5 := hMB.1.1
    obtain ⟨ob, ⟨l5, l6, l7, l8, l9, l10, l11, l12, l13⟩, ⟨t1, t2, t3, t4, t5, t6, t7, t8, t9⟩, ⟨n1, n2, n3, n4, n5, n6, n7, n8, n9⟩, -⟩ := m5
    have e3 : xi B m 3 = nI (vN v) := hMB.2.2.1.1
    have hcl : i < vN v → xi B (m + 9) i = nI (vcl v i) := fun q => hMB.2.2.2 i (by omega)
    simp (disch := omega) only [k_X7_learnItems_0, k_X7_learnItems_2, k_X7_learnItems_30, w_RI, x_aload, x_cv1, x_dup2, x_getF, x_getI, x_iald, x_iast, x_icmp_ge, x_icmp_lt, x_if_lt, x_iinc, x_iload, x_ior, x_ishl, x_istore, x_isub, x_push, x_vret, y_getF, y_iald, y_iast, xFT, xbool0, xbool1, Nat.reduceAdd, Nat.zero_add, xgl_0, xgl_s, xgl_n, xst_0, xst_1n, xst_1i, xst_1r, xst_1l, xst_s, set_0, set_s, true_and, and_true, xres, xcat_nil, xcat_i, xcat_r, xcat_l, Nat.add_zero, xble0, xble1, xble2, xble3, xble4, xble5, xble6, xble7, xble8, pk_mul, nI_add, nI_1, nI_leI, nI_ltI, nI_eq, n_in, n_cl, z_eq, z_lt, z_le, z_gt, z_ge, z_qe, o_eq, o_lt, o_le, o_gt, o_ge, vp0, vp1, cl0, cl1, n_sub, n_sub1, n_pm1, n_a0, n_0a, ofn, lN0, Nat.reduceLT, Nat.reduceLeDiff, Nat.reduceMul, Nat.reduceSub, Nat.reduceEqDiff, ne_eq, true_implies, false_implies, not_true_eq_false, not_false_eq_true, and_self, and_true, true_and, and_false, false_and, implies_true, if_true, if_false, i00, i10, i01, i11, ob_0, ob_1, tn_2, ln_2, ob_3, tn_4, ln_4, ob_5, tn_6, ln_6, tn_7, ln_7, ob_8, tn_9, ln_9, tn_10, ln_10, tn_11, ln_11, tn_12, ln_12, tn_13, ln_13, tn_14, ln_14, tn_15, ln_15, tn_16, ln_16, tn_17, ln_17, ob_18, tn_19, ln_19, tn_20, ln_20, tn_21, ln_21, tn_22, ln_22, tn_23, ln_23, tn_24, ln_24, tn_25, ln_25, tn_26, ln_26, tn_27, ln_27, ob_28, tn_29, ln_29, tn_30, ln_30, ob_31, tn_32, ln_32, tn_33, ln_33, ob_34, ob_35, tn_36, ln_36, tn_37, ln_37, tn_38, ln_38, ob_39, tn_40, ln_40, tn_41, ln_41, tn_42, ln_42, tn_43, ln_43, tn_44, ln_44, tn_45, ln_45, tn_46, ln_46, tn_47, ln_47, tn_48, ln_48, tn_49, ln_49, tn_50, ln_50, tn_51, ln_51, ob_52, tn_53, ln_53, tn_54, ln_54, tn_55, ln_55, tn_56, ln_56, ob_57, tn_58, ln_58, tn_59, ln_59, tn_60, ln_60, tn_61, ln_61, tn_62, ln_62, tn_63, ln_63, tn_64, ln_64, tn_65, ln_65, ob_66, tn_67, ln_67, tn_68, ln_68, tn_69, ln_69, tn_70, ln_70, tn_71, ln_71, tn_72, ln_72, tn_73, ln_73, ob_74, tn_75, ln_75, tn_76, ln_76, tn_77, ln_77, tn_78, ln_78, tn_79, ln_79, tn_80, ln_80, tn_81, ln_81, tn_82, ln_82, tn_83, ln_83, ob_84, tn_85, ln_85, tn_86, ln_86, tn_87, ln_87, tn_88, ln_88, tn_89, ln_89, tn_90, ln_90, tn_91, ln_91, tn_92, ln_92, tn_93, ln_93, ob_94, tn_95, ln_95, tn_96, ln_96, tn_97, ln_97, tn_98, ln_98, tn_99, ln_99, tn_100, ln_100, tn_101, ln_101, tn_102, ln_102, tn_103, ln_103, ob_104, tn_105, ln_105, tn_106, ln_106, tn_107, ln_107, tn_108, ln_108, tn_109, ln_109, tn_110, ln_110, tn_111, ln_111, tn_112, ln_112, tn_113, ln_113, ob_114, tn_115, ln_115, tn_116, ln_116, tn_117, ln_117, tn_118, ln_118, tn_119, ln_119, tn_120, ln_120, tn_121, ln_121, tn_122, ln_122, tn_123, ln_123, ob_124, tn_125, ln_125, tn_126, ln_126, tn_127, ln_127, tn_128, ln_128, tn_129, ln_129, tn_130, ln_130, tn_131, ln_131, tn_132, ln_132, tn_133, ln_133, ob_134, tn_135, ln_135, tn_136, ln_136, tn_137, ln_137, tn_138, ln_138, tn_139, ln_139, tn_140, ln_140, tn_141, ln_141, tn_142, ln_142, tn_143, ln_143, ob_144, tn_145, ln_145, tn_146, ln_146, tn_147, ln_147, tn_148, ln_148, tn_149, ln_149, tn_150, ln_150, tn_151, ln_151, tn_152, ln_152, tn_153, ln_153, ob_154, tn_155, ln_155, tn_156, ln_156, tn_157, ln_157, tn_158, ln_158, tn_159, ln_159, tn_160, ln_160, tn_161, ln_161, tn_162, ln_162, tn_163, ln_163, ob_164, tn_165, ln_165, tn_166, ln_166, ob_167, tn_168, ln_168, tn_169, ln_169, tn_170, ln_170, tn_171, ln_171, tn_172, ln_172, tn_173, ln_173, tn_174, ln_174, tn_175, ln_175, tn_176, ln_176, ob_177, tn_178, ln_178, tn_179, ln_179, ob_180, tn_181, ln_181, tn_182, ln_182, tn_183, ln_183, tn_184, ln_184, tn_185, ln_185, tn_186, ln_186, tn_187, ln_187, tn_188, ln_188, tn_189, ln_189, tn_190, ln_190, tn_191, ln_191, tn_192, ln_192, tn_193, ln_193, tn_194, ln_194, tn_195, ln_195, tn_196, ln_196, tn_197, ln_197, tn_198, ln_198, tn_199, ln_199, tn_200, ln_200, tn_201, ln_201, tn_202, ln_202, tn_203, ln_203, tn_204, ln_204, tn_205, ln_205, tn_206, ln_206, tn_207, ln_207, tn_208, ln_208, tn_209, ln_209, tn_210, ln_210, tn_211, ln_211, tn_212, ln_212, tn_213, ln_213, tn_214, ln_214, tn_215, ln_215, tn_216, ln_216, tn_217, ln_217, tn_218, ln_218, tn_219, ln_219, tn_220, ln_220, tn_221, ln_221, tn_222, ln_222, tn_223, ln_223, tn_224, ln_224, tn_225, ln_225, tn_226, ln_226, tn_227, ln_227, tn_228, ln_228, tn_229, ln_229, tn_230, ln_230, lx2, lx3, lx4, lx5, lx6, lx7, lx8, lx9, lx10, lx14, lx15, lx16, lx18, lx20, lx24, lx25, lx27, lx32, lx36, lx40, lx41, lx42, lx43, lx45, lx48, lx52, lx54, lx56, lx57, lx58, lx60, lx61, lx62, lx63, lx64, lx66, lx69, lx73, lx80, lx81, lx84, lx85, lx87, lx94, lx96, lx97, lx120, lx128, lx135, lx160, lx162, lx163, lx165, lx200, lx232, lx242, lx243, lx255, lx256, lx320, lx325, lx400, lx405, lx464, lx512, lx600, lx640, lx752, lx900, lx940, lx1000, lx1024, lx1764, lx3360, lx3840, lx5000, lx6400, lx9050, lx9998, lx9999, lx10000, lx25600, lx76800, lx99999, ob, l13, t9, n9, e3]
    refine ⟨fun z => ?_, fun z => ⟨by omega, v, hMB, fun x hx => ?_⟩⟩
    · have : i = vN v := by omega
      subst this; exact hP B hF hl
    have hi : i < vN v := by omega
    have hcl := hcl hi
    have hclI := hMB.2.1 i (by omega)
    have hg : vcl v i < 42 := by omega
    have x15 := vnx_le hw i
    rw [next_CA hw hi hx, hcl]
    generalize hgg : vcl v i = g at *
    simp (disch := omega) only [k_X7_learnItems_0, k_X7_learnItems_2, k_X7_learnItems_30, w_RI, x_aload, x_cv1, x_dup2, x_getF, x_getI, x_iald, x_iast, x_icmp_ge, x_icmp_lt, x_if_lt, x_iinc, x_iload, x_ior, x_ishl, x_istore, x_isub, x_push, x_vret, y_getF, y_iald, y_iast, xFT, xbool0, xbool1, Nat.reduceAdd, Nat.zero_add, xgl_0, xgl_s, xgl_n, xst_0, xst_1n, xst_1i, xst_1r, xst_1l, xst_s, set_0, set_s, true_and, and_true, xres, xcat_nil, xcat_i, xcat_r, xcat_l, Nat.add_zero, xble0, xble1, xble2, xble3, xble4, xble5, xble6, xble7, xble8, pk_mul, nI_add, nI_1, nI_leI, nI_ltI, nI_eq, n_in, n_cl, z_eq, z_lt, z_le, z_gt, z_ge, z_qe, o_eq, o_lt, o_le, o_gt, o_ge, vp0, vp1, cl0, cl1, n_sub, n_sub1, n_pm1, n_a0, n_0a, ofn, lN0, Nat.reduceLT, Nat.reduceLeDiff, Nat.reduceMul, Nat.reduceSub, Nat.reduceEqDiff, ne_eq, true_implies, false_implies, not_true_eq_false, not_false_eq_true, and_self, and_true, true_and, and_false, false_and, implies_true, if_true, if_false, i00, i10, i01, i11, ob_0, ob_1, tn_2, ln_2, ob_3, tn_4, ln_4, ob_5, tn_6, ln_6, tn_7, ln_7, ob_8, tn_9, ln_9, tn_10, ln_10, tn_11, ln_11, tn_12, ln_12, tn_13, ln_13, tn_14, ln_14, tn_15, ln_15, tn_16, ln_16, tn_17, ln_17, ob_18, tn_19, ln_19, tn_20, ln_20, tn_21, ln_21, tn_22, ln_22, tn_23, ln_23, tn_24, ln_24, tn_25, ln_25, tn_26, ln_26, tn_27, ln_27, ob_28, tn_29, ln_29, tn_30, ln_30, ob_31, tn_32, ln_32, tn_33, ln_33, ob_34, ob_35, tn_36, ln_36, tn_37, ln_37, tn_38, ln_38, ob_39, tn_40, ln_40, tn_41, ln_41, tn_42, ln_42, tn_43, ln_43, tn_44, ln_44, tn_45, ln_45, tn_46, ln_46, tn_47, ln_47, tn_48, ln_48, tn_49, ln_49, tn_50, ln_50, tn_51, ln_51, ob_52, tn_53, ln_53, tn_54, ln_54, tn_55, ln_55, tn_56, ln_56, ob_57, tn_58, ln_58, tn_59, ln_59, tn_60, ln_60, tn_61, ln_61, tn_62, ln_62, tn_63, ln_63, tn_64, ln_64, tn_65, ln_65, ob_66, tn_67, ln_67, tn_68, ln_68, tn_69, ln_69, tn_70, ln_70, tn_71, ln_71, tn_72, ln_72, tn_73, ln_73, ob_74, tn_75, ln_75, tn_76, ln_76, tn_77, ln_77, tn_78, ln_78, tn_79, ln_79, tn_80, ln_80, tn_81, ln_81, tn_82, ln_82, tn_83, ln_83, ob_84, tn_85, ln_85, tn_86, ln_86, tn_87, ln_87, tn_88, ln_88, tn_89, ln_89, tn_90, ln_90, tn_91, ln_91, tn_92, ln_92, tn_93, ln_93, ob_94, tn_95, ln_95, tn_96, ln_96, tn_97, ln_97, tn_98, ln_98, tn_99, ln_99, tn_100, ln_100, tn_101, ln_101, tn_102, ln_102, tn_103, ln_103, ob_104, tn_105, ln_105, tn_106, ln_106, tn_107, ln_107, tn_108, ln_108, tn_109, ln_109, tn_110, ln_110, tn_111, ln_111, tn_112, ln_112, tn_113, ln_113, ob_114, tn_115, ln_115, tn_116, ln_116, tn_117, ln_117, tn_118, ln_118, tn_119, ln_119, tn_120, ln_120, tn_121, ln_121, tn_122, ln_122, tn_123, ln_123, ob_124, tn_125, ln_125, tn_126, ln_126, tn_127, ln_127, tn_128, ln_128, tn_129, ln_129, tn_130, ln_130, tn_131, ln_131, tn_132, ln_132, tn_133, ln_133, ob_134, tn_135, ln_135, tn_136, ln_136, tn_137, ln_137, tn_138, ln_138, tn_139, ln_139, tn_140, ln_140, tn_141, ln_141, tn_142, ln_142, tn_143, ln_143, ob_144, tn_145, ln_145, tn_146, ln_146, tn_147, ln_147, tn_148, ln_148, tn_149, ln_149, tn_150, ln_150, tn_151, ln_151, tn_152, ln_152, tn_153, ln_153, ob_154, tn_155, ln_155, tn_156, ln_156, tn_157, ln_157, tn_158, ln_158, tn_159, ln_159, tn_160, ln_160, tn_161, ln_161, tn_162, ln_162, tn_163, ln_163, ob_164, tn_165, ln_165, tn_166, ln_166, ob_167, tn_168, ln_168, tn_169, ln_169, tn_170, ln_170, tn_171, ln_171, tn_172, ln_172, tn_173, ln_173, tn_174, ln_174, tn_175, ln_175, tn_176, ln_176, ob_177, tn_178, ln_178, tn_179, ln_179, ob_180, tn_181, ln_181, tn_182, ln_182, tn_183, ln_183, tn_184, ln_184, tn_185, ln_185, tn_186, ln_186, tn_187, ln_187, tn_188, ln_188, tn_189, ln_189, tn_190, ln_190, tn_191, ln_191, tn_192, ln_192, tn_193, ln_193, tn_194, ln_194, tn_195, ln_195, tn_196, ln_196, tn_197, ln_197, tn_198, ln_198, tn_199, ln_199, tn_200, ln_200, tn_201, ln_201, tn_202, ln_202, tn_203, ln_203, tn_204, ln_204, tn_205, ln_205, tn_206, ln_206, tn_207, ln_207, tn_208, ln_208, tn_209, ln_209, tn_210, ln_210, tn_211, ln_211, tn_212, ln_212, tn_213, ln_213, tn_214, ln_214, tn_215, ln_215, tn_216, ln_216, tn_217, ln_217, tn_218, ln_218, tn_219, ln_219, tn_220, ln_220, tn_221, ln_221, tn_222, ln_222, tn_223, ln_223, tn_224, ln_224, tn_225, ln_225, tn_226, ln_226, tn_227, ln_227, tn_228, ln_228, tn_229, ln_229, tn_230, ln_230, lx2, lx3, lx4, lx5, lx6, lx7, lx8, lx9, lx10, lx14, lx15, lx16, lx18, lx20, lx24, lx25, lx27, lx32, lx36, lx40, lx41, lx42, lx43, lx45, lx48, lx52, lx54, lx56, lx57, lx58, lx60, lx61, lx62, lx63, lx64, lx66, lx69, lx73, lx80, lx81, lx84, lx85, lx87, lx94, lx96, lx97, lx120, lx128, lx135, lx160, lx162, lx163, lx165, lx200, lx232, lx242, lx243, lx255, lx256, lx320, lx325, lx400, lx405, lx464, lx512, lx600, lx640, lx752, lx900, lx940, lx1000, lx1024, lx1764, lx3360, lx3840, lx5000, lx6400, lx9050, lx9998, lx9999, lx10000, lx25600, lx76800, lx99999]
    have f1 : fr SLi B (xsi B 48 i (oI (vnx v i))) := fr_si fr_rf (by unfold SLi; omega)
    refine ⟨by omega, kind_CA (isM_li hm hMB f1) hi ?_⟩
    simp (disch := omega) only [k_X7_learnItems_0, k_X7_learnItems_2, k_X7_learnItems_30, w_RI, x_aload, x_cv1, x_dup2, x_getF, x_getI, x_iald, x_iast, x_icmp_ge, x_icmp_lt, x_if_lt, x_iinc, x_iload, x_ior, x_ishl, x_istore, x_isub, x_push, x_vret, y_getF, y_iald, y_iast, xFT, xbool0, xbool1, Nat.reduceAdd, Nat.zero_add, xgl_0, xgl_s, xgl_n, xst_0, xst_1n, xst_1i, xst_1r, xst_1l, xst_s, set_0, set_s, true_and, and_true, xres, xcat_nil, xcat_i, xcat_r, xcat_l, Nat.add_zero, xble0, xble1, xble2, xble3, xble4, xble5, xble6, xble7, xble8, pk_mul, nI_add, nI_1, nI_leI, nI_ltI, nI_eq, n_in, n_cl, z_eq, z_lt, z_le, z_gt, z_ge, z_qe, o_eq, o_lt, o_le, o_gt, o_ge, vp0, vp1, cl0, cl1, n_sub, n_sub1, n_pm1, n_a0, n_0a, ofn, lN0, Nat.reduceLT, Nat.reduceLeDiff, Nat.reduceMul, Nat.reduceSub, Nat.reduceEqDiff, ne_eq, true_implies, false_implies, not_true_eq_false, not_false_eq_true, and_self, and_true, true_and, and_false, false_and, implies_true, if_true, if_false, i00, i10, i01, i11, ob_0, ob_1, tn_2, ln_2, ob_3, tn_4, ln_4, ob_5, tn_6, ln_6, tn_7, ln_7, ob_8, tn_9, ln_9, tn_10, ln_10, tn_11, ln_11, tn_12, ln_12, tn_13, ln_13, tn_14, ln_14, tn_15, ln_15, tn_16, ln_16, tn_17, ln_17, ob_18, tn_19, ln_19, tn_20, ln_20, tn_21, ln_21, tn_22, ln_22, tn_23, ln_23, tn_24, ln_24, tn_25, ln_25, tn_26, ln_26, tn_27, ln_27, ob_28, tn_29, ln_29, tn_30, ln_30, ob_31, tn_32, ln_32, tn_33, ln_33, ob_34, ob_35, tn_36, ln_36, tn_37, ln_37, tn_38, ln_38, ob_39, tn_40, ln_40, tn_41, ln_41, tn_42, ln_42, tn_43, ln_43, tn_44, ln_44, tn_45, ln_45, tn_46, ln_46, tn_47, ln_47, tn_48, ln_48, tn_49, ln_49, tn_50, ln_50, tn_51, ln_51, ob_52, tn_53, ln_53, tn_54, ln_54, tn_55, ln_55, tn_56, ln_56, ob_57, tn_58, ln_58, tn_59, ln_59, tn_60, ln_60, tn_61, ln_61, tn_62, ln_62, tn_63, ln_63, tn_64, ln_64, tn_65, ln_65, ob_66, tn_67, ln_67, tn_68, ln_68, tn_69, ln_69, tn_70, ln_70, tn_71, ln_71, tn_72, ln_72, tn_73, ln_73, ob_74, tn_75, ln_75, tn_76, ln_76, tn_77, ln_77, tn_78, ln_78, tn_79, ln_79, tn_80, ln_80, tn_81, ln_81, tn_82, ln_82, tn_83, ln_83, ob_84, tn_85, ln_85, tn_86, ln_86, tn_87, ln_87, tn_88, ln_88, tn_89, ln_89, tn_90, ln_90, tn_91, ln_91, tn_92, ln_92, tn_93, ln_93, ob_94, tn_95, ln_95, tn_96, ln_96, tn_97, ln_97, tn_98, ln_98, tn_99, ln_99, tn_100, ln_100, tn_101, ln_101, tn_102, ln_102, tn_103, ln_103, ob_104, tn_105, ln_105, tn_106, ln_106, tn_107, ln_107, tn_108, ln_108, tn_109, ln_109, tn_110, ln_110, tn_111, ln_111, tn_112, ln_112, tn_113, ln_113, ob_114, tn_115, ln_115, tn_116, ln_116, tn_117, ln_117, tn_118, ln_118, tn_119, ln_119, tn_120, ln_120, tn_121, ln_121, tn_122, ln_122, tn_123, ln_123, ob_124, tn_125, ln_125, tn_126, ln_126, tn_127, ln_127, tn_128, ln_128, tn_129, ln_129, tn_130, ln_130, tn_131, ln_131, tn_132, ln_132, tn_133, ln_133, ob_134, tn_135, ln_135, tn_136, ln_136, tn_137, ln_137, tn_138, ln_138, tn_139, ln_139, tn_140, ln_140, tn_141, ln_141, tn_142, ln_142, tn_143, ln_143, ob_144, tn_145, ln_145, tn_146, ln_146, tn_147, ln_147, tn_148, ln_148, tn_149, ln_149, tn_150, ln_150, tn_151, ln_151, tn_152, ln_152, tn_153, ln_153, ob_154, tn_155, ln_155, tn_156, ln_156, tn_157, ln_157, tn_158, ln_158, tn_159, ln_159, tn_160, ln_160, tn_161, ln_161, tn_162, ln_162, tn_163, ln_163, ob_164, tn_165, ln_165, tn_166, ln_166, ob_167, tn_168, ln_168, tn_169, ln_169, tn_170, ln_170, tn_171, ln_171, tn_172, ln_172, tn_173, ln_173, tn_174, ln_174, tn_175, ln_175, tn_176, ln_176, ob_177, tn_178, ln_178, tn_179, ln_179, ob_180, tn_181, ln_181, tn_182, ln_182, tn_183, ln_183, tn_184, ln_184, tn_185, ln_185, tn_186, ln_186, tn_187, ln_187, tn_188, ln_188, tn_189, ln_189, tn_190, ln_190, tn_191, ln_191, tn_192, ln_192, tn_193, ln_193, tn_194, ln_194, tn_195, ln_195, tn_196, ln_196, tn_197, ln_197, tn_198, ln_198, tn_199, ln_199, tn_200, ln_200, tn_201, ln_201, tn_202, ln_202, tn_203, ln_203, tn_204, ln_204, tn_205, ln_205, tn_206, ln_206, tn_207, ln_207, tn_208, ln_208, tn_209, ln_209, tn_210, ln_210, tn_211, ln_211, tn_212, ln_212, tn_213, ln_213, tn_214, ln_214, tn_215, ln_215, tn_216, ln_216, tn_217, ln_217, tn_218, ln_218, tn_219, ln_219, tn_220, ln_220, tn_221, ln_221, tn_222, ln_222, tn_223, ln_223, tn_224, ln_224, tn_225, ln_225, tn_226, ln_226, tn_227, ln_227, tn_228, ln_228, tn_229, ln_229, tn_230, ln_230, lx2, lx3, lx4, lx5, lx6, lx7, lx8, lx9, lx10, lx14, lx15, lx16, lx18, lx20, lx24, lx25, lx27, lx32, lx36, lx40, lx41, lx42, lx43, lx45, lx48, lx52, lx54, lx56, lx57, lx58, lx60, lx61, lx62, lx63, lx64, lx66, lx69, lx73, lx80, lx81, lx84, lx85, lx87, lx94, lx96, lx97, lx120, lx128, lx135, lx160, lx162, lx163, lx165, lx200, lx232, lx242, lx243, lx255, lx256, lx320, lx325, lx400, lx405, lx464, lx512, lx600, lx640, lx752, lx900, lx940, lx1000, lx1024, lx1764, lx3360, lx3840, lx5000, lx6400, lx9050, lx9998, lx9999, lx10000, lx25600, lx76800, lx99999, si_ne, si_eq, sl_ne, sl_eq, xl_si, xi_sl, sA_ne, sA_eq, xl_sA]
    refine ⟨by omega, hg, by omega, ?_⟩
    generalize hB2 : xsi (xsi B 48 i (oI (vnx v i))) 49 i (vkI v i) = B2
    have e2 : ∀ c k, (c ≠ 48 ∧ c ≠ 49) ∨ k ≠ i → xi B2 c k = xi B c k := fun c k h => by rw [← hB2, si_ne (by omega), si_ne (by omega)]
    have e48 : xi B2 48 i = oI (vnx v i) := by rw [← hB2, si_ne (by omega), si_eq]
    have e49 : xi B2 49 i = vkI v i := by rw [← hB2, si_eq]
    have f2 : fr SLi B B2 := by rw [← hB2]; exact fr_si f1 (by unfold SLi; omega)
    have t50 : xtn xN 50 = 1 := tn_50
    have n50 : (xsh 50).2 = 42 := ln_50
    have k95 : ∀ y, (∀ k, k < 32 → tst y k = decide (2 ≤ i ∧ vrk v (vri v i) = k)) → k_X7_learnItems_95 P (xB (li30 m A P) (vN v - i, 0, 0)) [some (.ref 39), some (.ref m), some (.int (nI i)), some (.int (nI g))] [.int y, .int (xi B2 50 g), .int (nI g), .ref 50] B2 := fun y hy => by
      have fin : ∀ z2 zz, (∀ k, k < 32 → tst z2 k = decide (vnx v i = 8 + k ∧ k < 5)) → zz = (xi B2 51 g ||| z2) → xB (li30 m A P) (vN v - i, 0, 0) [some (.ref 39), some (.ref m), some (.int (nI (i + 1))), some (.int (nI g))] [] (xsi (xsi B2 50 g (xi B2 50 g ||| y)) 51 g zz) := fun z2 zz hz2 hzz => by
        subst hzz
        refine xB1 (b := vN v - (i + 1)) (by omega) ⟨v, i + 1, _, hm, hM, hP, by omega, fr_tr hF (fr_si (fr_si f2 (by unfold SLi; omega)) (by unfold SLi; omega)), ⟨fun j hj => ?_, fun c hc => ⟨fun k hk => ?_, fun k hk => ?_⟩⟩, rfl, rfl, rfl⟩
        · simp (disch := omega) only [si_ne]
          by_cases e : j = i
          · subst e; exact ⟨e48, e49⟩
          · rw [e2 _ _ (by omega), e2 _ _ (by omega)]; exact hl.1 j (by omega)
        · rw [si_ne (by omega)]
          have h5 := (hl.2 c hc).1 k hk
          have hs : okB v c (i + 1) k = (okB v c i k || decide (vcl v i = c ∧ 2 ≤ i ∧ vrk v (vri v i) = k)) := rfl
          rw [hs, hgg, ← h5]
          by_cases e : c = g
          · subst e
            rw [si_eq, tst_or, hy k hk, e2 _ _ (by omega)]
            congr 1
            simp
          · rw [si_ne (by omega), e2 _ _ (by omega), decide_eq_false (fun q => e q.1.symm), Bool.or_false]
        · have h5 := (hl.2 c hc).2 k hk
          have hs : clB v c (i + 1) k = (clB v c i k || decide (vcl v i = c ∧ vnx v i = 8 + k ∧ k < 5)) := rfl
          rw [hs, hgg, ← h5]
          by_cases e : c = g
          · subst e
            rw [si_eq, tst_or, hz2 k hk, e2 _ _ (by omega)]
            congr 1
            simp
          · rw [si_ne (by omega), si_ne (by omega), e2 _ _ (by omega), decide_eq_false (fun q => e q.1.symm), Bool.or_false]
      simp (disch := omega) only [k_X7_learnItems_0, k_X7_learnItems_2, k_X7_learnItems_30, k_X7_learnItems_95, w_RI, x_aload, x_cv1, x_dup2, x_getF, x_getI, x_iald, x_iast, x_icmp_ge, x_icmp_lt, x_if_lt, x_iinc, x_iload, x_ior, x_ishl, x_istore, x_isub, x_push, x_vret, y_getF, y_iald, y_iast, xFT, xbool0, xbool1, Nat.reduceAdd, Nat.zero_add, xgl_0, xgl_s, xgl_n, xst_0, xst_1n, xst_1i, xst_1r, xst_1l, xst_s, set_0, set_s, true_and, and_true, xres, xcat_nil, xcat_i, xcat_r, xcat_l, Nat.add_zero, xble0, xble1, xble2, xble3, xble4, xble5, xble6, xble7, xble8, pk_mul, nI_add, nI_1, nI_leI, nI_ltI, nI_eq, n_in, n_cl, z_eq, z_lt, z_le, z_gt, z_ge, z_qe, o_eq, o_lt, o_le, o_gt, o_ge, vp0, vp1, cl0, cl1, n_sub, n_sub1, n_pm1, n_a0, n_0a, ofn, lN0, Nat.reduceLT, Nat.reduceLeDiff, Nat.reduceMul, Nat.reduceSub, Nat.reduceEqDiff, ne_eq, true_implies, false_implies, not_true_eq_false, not_false_eq_true, and_self, and_true, true_and, and_false, false_and, implies_true, if_true, if_false, i00, i10, i01, i11, ob_0, ob_1, tn_2, ln_2, ob_3, tn_4, ln_4, ob_5, tn_6, ln_6, tn_7, ln_7, ob_8, tn_9, ln_9, tn_10, ln_10, tn_11, ln_11, tn_12, ln_12, tn_13, ln_13, tn_14, ln_14, tn_15, ln_15, tn_16, ln_16, tn_17, ln_17, ob_18, tn_19, ln_19, tn_20, ln_20, tn_21, ln_21, tn_22, ln_22, tn_23, ln_23, tn_24, ln_24, tn_25, ln_25, tn_26, ln_26, tn_27, ln_27, ob_28, tn_29, ln_29, tn_30, ln_30, ob_31, tn_32, ln_32, tn_33, ln_33, ob_34, ob_35, tn_36, ln_36, tn_37, ln_37, tn_38, ln_38, ob_39, tn_40, ln_40, tn_41, ln_41, tn_42, ln_42, tn_43, ln_43, tn_44, ln_44, tn_45, ln_45, tn_46, ln_46, tn_47, ln_47, tn_48, ln_48, tn_49, ln_49, tn_50, ln_50, tn_51, ln_51, ob_52, tn_53, ln_53, tn_54, ln_54, tn_55, ln_55, tn_56, ln_56, ob_57, tn_58, ln_58, tn_59, ln_59, tn_60, ln_60, tn_61, ln_61, tn_62, ln_62, tn_63, ln_63, tn_64, ln_64, tn_65, ln_65, ob_66, tn_67, ln_67, tn_68, ln_68, tn_69, ln_69, tn_70, ln_70, tn_71, ln_71, tn_72, ln_72, tn_73, ln_73, ob_74, tn_75, ln_75, tn_76, ln_76, tn_77, ln_77, tn_78, ln_78, tn_79, ln_79, tn_80, ln_80, tn_81, ln_81, tn_82, ln_82, tn_83, ln_83, ob_84, tn_85, ln_85, tn_86, ln_86, tn_87, ln_87, tn_88, ln_88, tn_89, ln_89, tn_90, ln_90, tn_91, ln_91, tn_92, ln_92, tn_93, ln_93, ob_94, tn_95, ln_95, tn_96, ln_96, tn_97, ln_97, tn_98, ln_98, tn_99, ln_99, tn_100, ln_100, tn_101, ln_101, tn_102, ln_102, tn_103, ln_103, ob_104, tn_105, ln_105, tn_106, ln_106, tn_107, ln_107, tn_108, ln_108, tn_109, ln_109, tn_110, ln_110, tn_111, ln_111, tn_112, ln_112, tn_113, ln_113, ob_114, tn_115, ln_115, tn_116, ln_116, tn_117, ln_117, tn_118, ln_118, tn_119, ln_119, tn_120, ln_120, tn_121, ln_121, tn_122, ln_122, tn_123, ln_123, ob_124, tn_125, ln_125, tn_126, ln_126, tn_127, ln_127, tn_128, ln_128, tn_129, ln_129, tn_130, ln_130, tn_131, ln_131, tn_132, ln_132, tn_133, ln_133, ob_134, tn_135, ln_135, tn_136, ln_136, tn_137, ln_137, tn_138, ln_138, tn_139, ln_139, tn_140, ln_140, tn_141, ln_141, tn_142, ln_142, tn_143, ln_143, ob_144, tn_145, ln_145, tn_146, ln_146, tn_147, ln_147, tn_148, ln_148, tn_149, ln_149, tn_150, ln_150, tn_151, ln_151, tn_152, ln_152, tn_153, ln_153, ob_154, tn_155, ln_155, tn_156, ln_156, tn_157, ln_157, tn_158, ln_158, tn_159, ln_159, tn_160, ln_160, tn_161, ln_161, tn_162, ln_162, tn_163, ln_163, ob_164, tn_165, ln_165, tn_166, ln_166, ob_167, tn_168, ln_168, tn_169, ln_169, tn_170, ln_170, tn_171, ln_171, tn_172, ln_172, tn_173, ln_173, tn_174, ln_174, tn_175, ln_175, tn_176, ln_176, ob_177, tn_178, ln_178, tn_179, ln_179, ob_180, tn_181, ln_181, tn_182, ln_182, tn_183, ln_183, tn_184, ln_184, tn_185, ln_185, tn_186, ln_186, tn_187, ln_187, tn_188, ln_188, tn_189, ln_189, tn_190, ln_190, tn_191, ln_191, tn_192, ln_192, tn_193, ln_193, tn_194, ln_194, tn_195, ln_195, tn_196, ln_196, tn_197, ln_197, tn_198, ln_198, tn_199, ln_199, tn_200, ln_200, tn_201, ln_201, tn_202, ln_202, tn_203, ln_203, tn_204, ln_204, tn_205, ln_205, tn_206, ln_206, tn_207, ln_207, tn_208, ln_208, tn_209, ln_209, tn_210, ln_210, tn_211, ln_211, tn_212, ln_212, tn_213, ln_213, tn_214, ln_214, tn_215, ln_215, tn_216, ln_216, tn_217, ln_217, tn_218, ln_218, tn_219, ln_219, tn_220, ln_220, tn_221, ln_221, tn_222, ln_222, tn_223, ln_223, tn_224, ln_224, tn_225, ln_225, tn_226, ln_226, tn_227, ln_227, tn_228, ln_228, tn_229, ln_229, tn_230, ln_230, lx2, lx3, lx4, lx5, lx6, lx7, lx8, lx9, lx10, lx14, lx15, lx16, lx18, lx20, lx24, lx25, lx27, lx32, lx36, lx40, lx41, lx42, lx43, lx45, lx48, lx52, lx54, lx56, lx57, lx58, lx60, lx61, lx62, lx63, lx64, lx66, lx69, lx73, lx80, lx81, lx84, lx85, lx87, lx94, lx96, lx97, lx120, lx128, lx135, lx160, lx162, lx163, lx165, lx200, lx232, lx242, lx243, lx255, lx256, lx320, lx325, lx400, lx405, lx464, lx512, lx600, lx640, lx752, lx900, lx940, lx1000, lx1024, lx1764, lx3360, lx3840, lx5000, lx6400, lx9050, lx9998, lx9999, lx10000, lx25600, lx76800, lx99999, si_ne, si_eq, sl_ne, sl_eq, xl_si, xi_sl, sA_ne, sA_eq, xl_sA, t50, n50, e48]
      refine ⟨hg, hg, by omega, fun q => ?_, fun q => ⟨by omega, ?_⟩⟩
      · refine li_130 hg fun zz hzz => fin 0 zz (fun k hk => ?_) hzz
        rw [tst_0, decide_eq_false fun w => ?_]
        have w1 := w.1
        have w2 := w.2
        rw [oI_nI (by omega), nI_ltI (by omega) (by omega)] at q
        omega
      · have q2 : 8 ≤ vnx v i ∧ vnx v i ≠ 15 := by
          have := (oI_ge (n := vnx v i) (m := 8) x15 (by omega)).mp (Int32.not_lt.mp q)
          exact this
        have h13 := vnx_sp hw i
        have h4 := hw.1
        have h5 := hw.2.1
        rw [oI_nI (by omega), n_sub q2.1]
        refine li_130 hg fun zz hzz => fin (bit (vnx v i - 8)) zz (fun k hk => ?_) hzz
        rw [tst_bit (by omega) hk]
        congr 1
        apply propext
        omega
    have x50 : xi B 50 g = xi B2 50 g := (e2 _ _ (by omega)).symm
    by_cases h2 : i < 2
    · have ev : vkI v i = -1 := if_pos h2
      rw [ev]
      refine ⟨fun _ => ?_, fun q => absurd (by decide) q⟩
      rw [x50]
      exact k95 0 fun k hk => by rw [tst_0, decide_eq_false (fun q => by omega)]
    · obtain ⟨a1, a2, a3⟩ := vri_sp (by omega) hi
      have hk5 := (hw.2.2.2.2 _ a1).1
      have h5 := hw.2.1
      have ev : vkI v i = nI (vrk v (vri v i)) := if_neg h2
      rw [ev]
      refine ⟨fun q => absurd q (nI_pos (by omega)), fun _ => ⟨by omega, ?_⟩⟩
      rw [x50]
      refine k95 (bit (vrk v (vri v i))) fun k hk => ?_
      rw [tst_bit (by omega) hk]
      congr 1
      apply propext
      omega

