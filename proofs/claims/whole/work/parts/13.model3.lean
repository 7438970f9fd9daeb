theorem d_X4_renumber_0 : decode cX4_renumber 0 = .ok (.aload_n 0, 1) := by decide +kernel
theorem d_X4_renumber_1 : decode cX4_renumber 1 = .ok (.iconst 2, 1) := by decide +kernel
theorem d_X4_renumber_2 : decode cX4_renumber 2 = .ok (.putfield 9, 3) := by decide +kernel
theorem d_X4_renumber_5 : decode cX4_renumber 5 = .ok (.aload_n 0, 1) := by decide +kernel
theorem d_X4_renumber_6 : decode cX4_renumber 6 = .ok (.getfield 35, 3) := by decide +kernel
theorem d_X4_renumber_9 : decode cX4_renumber 9 = .ok (.iconst 0, 1) := by decide +kernel
theorem d_X4_renumber_10 : decode cX4_renumber 10 = .ok (.iconst (-1), 1) := by decide +kernel
theorem d_X4_renumber_11 : decode cX4_renumber 11 = .ok (.iastore, 1) := by decide +kernel
theorem d_X4_renumber_12 : decode cX4_renumber 12 = .ok (.aload_n 0, 1) := by decide +kernel
theorem d_X4_renumber_13 : decode cX4_renumber 13 = .ok (.getfield 38, 3) := by decide +kernel
theorem d_X4_renumber_16 : decode cX4_renumber 16 = .ok (.iconst 0, 1) := by decide +kernel
theorem d_X4_renumber_17 : decode cX4_renumber 17 = .ok (.iconst (-1), 1) := by decide +kernel
theorem d_X4_renumber_18 : decode cX4_renumber 18 = .ok (.iastore, 1) := by decide +kernel
theorem d_X4_renumber_19 : decode cX4_renumber 19 = .ok (.aload_n 0, 1) := by decide +kernel
theorem d_X4_renumber_20 : decode cX4_renumber 20 = .ok (.getfield 35, 3) := by decide +kernel
theorem d_X4_renumber_23 : decode cX4_renumber 23 = .ok (.iconst 1, 1) := by decide +kernel
theorem d_X4_renumber_24 : decode cX4_renumber 24 = .ok (.iconst (-1), 1) := by decide +kernel
theorem d_X4_renumber_25 : decode cX4_renumber 25 = .ok (.iastore, 1) := by decide +kernel
theorem d_X4_renumber_26 : decode cX4_renumber 26 = .ok (.aload_n 0, 1) := by decide +kernel
theorem d_X4_renumber_27 : decode cX4_renumber 27 = .ok (.getfield 38, 3) := by decide +kernel
theorem d_X4_renumber_30 : decode cX4_renumber 30 = .ok (.iconst 1, 1) := by decide +kernel
theorem d_X4_renumber_31 : decode cX4_renumber 31 = .ok (.iconst (-1), 1) := by decide +kernel
theorem d_X4_renumber_32 : decode cX4_renumber 32 = .ok (.iastore, 1) := by decide +kernel
theorem d_X4_renumber_33 : decode cX4_renumber 33 = .ok (.iconst 0, 1) := by decide +kernel
theorem d_X4_renumber_34 : decode cX4_renumber 34 = .ok (.istore_n 1, 1) := by decide +kernel
theorem d_X4_renumber_35 : decode cX4_renumber 35 = .ok (.iload_n 1, 1) := by decide +kernel
theorem d_X4_renumber_36 : decode cX4_renumber 36 = .ok (.aload_n 0, 1) := by decide +kernel
theorem d_X4_renumber_37 : decode cX4_renumber 37 = .ok (.getfield 53, 3) := by decide +kernel
theorem d_X4_renumber_40 : decode cX4_renumber 40 = .ok (.if_icmp .ge 76, 3) := by decide +kernel
theorem d_X4_renumber_43 : decode cX4_renumber 43 = .ok (.aload_n 0, 1) := by decide +kernel
theorem d_X4_renumber_44 : decode cX4_renumber 44 = .ok (.getfield 29, 3) := by decide +kernel
theorem d_X4_renumber_47 : decode cX4_renumber 47 = .ok (.iload_n 1, 1) := by decide +kernel
theorem d_X4_renumber_48 : decode cX4_renumber 48 = .ok (.aload_n 0, 1) := by decide +kernel
theorem d_X4_renumber_49 : decode cX4_renumber 49 = .ok (.getfield 9, 3) := by decide +kernel
theorem d_X4_renumber_52 : decode cX4_renumber 52 = .ok (.iastore, 1) := by decide +kernel
theorem d_X4_renumber_53 : decode cX4_renumber 53 = .ok (.iconst 0, 1) := by decide +kernel
theorem d_X4_renumber_54 : decode cX4_renumber 54 = .ok (.istore_n 2, 1) := by decide +kernel
theorem d_X4_renumber_55 : decode cX4_renumber 55 = .ok (.iload_n 2, 1) := by decide +kernel
theorem d_X4_renumber_56 : decode cX4_renumber 56 = .ok (.aload_n 0, 1) := by decide +kernel
theorem d_X4_renumber_57 : decode cX4_renumber 57 = .ok (.getfield 26, 3) := by decide +kernel
theorem d_X4_renumber_60 : decode cX4_renumber 60 = .ok (.iload_n 1, 1) := by decide +kernel
theorem d_X4_renumber_61 : decode cX4_renumber 61 = .ok (.iaload, 1) := by decide +kernel
theorem d_X4_renumber_62 : decode cX4_renumber 62 = .ok (.if_icmp .gt 48, 3) := by decide +kernel
theorem d_X4_renumber_65 : decode cX4_renumber 65 = .ok (.aload_n 0, 1) := by decide +kernel
theorem d_X4_renumber_66 : decode cX4_renumber 66 = .ok (.getfield 9, 3) := by decide +kernel
theorem d_X4_renumber_69 : decode cX4_renumber 69 = .ok (.bipush 42, 2) := by decide +kernel
theorem d_X4_renumber_71 : decode cX4_renumber 71 = .ok (.if_icmp .ge 39, 3) := by decide +kernel
theorem d_X4_renumber_74 : decode cX4_renumber 74 = .ok (.aload_n 0, 1) := by decide +kernel
theorem d_X4_renumber_75 : decode cX4_renumber 75 = .ok (.getfield 35, 3) := by decide +kernel
theorem d_X4_renumber_78 : decode cX4_renumber 78 = .ok (.aload_n 0, 1) := by decide +kernel
theorem d_X4_renumber_79 : decode cX4_renumber 79 = .ok (.getfield 9, 3) := by decide +kernel
theorem d_X4_renumber_82 : decode cX4_renumber 82 = .ok (.iload_n 1, 1) := by decide +kernel
theorem d_X4_renumber_83 : decode cX4_renumber 83 = .ok (.iastore, 1) := by decide +kernel
theorem d_X4_renumber_84 : decode cX4_renumber 84 = .ok (.aload_n 0, 1) := by decide +kernel
theorem d_X4_renumber_85 : decode cX4_renumber 85 = .ok (.getfield 38, 3) := by decide +kernel
theorem d_X4_renumber_88 : decode cX4_renumber 88 = .ok (.aload_n 0, 1) := by decide +kernel
theorem d_X4_renumber_89 : decode cX4_renumber 89 = .ok (.getfield 9, 3) := by decide +kernel
theorem d_X4_renumber_92 : decode cX4_renumber 92 = .ok (.iload_n 2, 1) := by decide +kernel
theorem d_X4_renumber_93 : decode cX4_renumber 93 = .ok (.iastore, 1) := by decide +kernel
theorem d_X4_renumber_94 : decode cX4_renumber 94 = .ok (.aload_n 0, 1) := by decide +kernel
theorem d_X4_renumber_95 : decode cX4_renumber 95 = .ok (.dup, 1) := by decide +kernel
theorem d_X4_renumber_96 : decode cX4_renumber 96 = .ok (.getfield 9, 3) := by decide +kernel
theorem d_X4_renumber_99 : decode cX4_renumber 99 = .ok (.iconst 1, 1) := by decide +kernel
theorem d_X4_renumber_100 : decode cX4_renumber 100 = .ok (.iadd, 1) := by decide +kernel
theorem d_X4_renumber_101 : decode cX4_renumber 101 = .ok (.putfield 9, 3) := by decide +kernel
theorem d_X4_renumber_104 : decode cX4_renumber 104 = .ok (.iinc 2 1, 3) := by decide +kernel
theorem d_X4_renumber_107 : decode cX4_renumber 107 = .ok (.goto (-52), 3) := by decide +kernel
theorem d_X4_renumber_110 : decode cX4_renumber 110 = .ok (.iinc 1 1, 3) := by decide +kernel
theorem d_X4_renumber_113 : decode cX4_renumber 113 = .ok (.goto (-78), 3) := by decide +kernel
theorem d_X4_renumber_116 : decode cX4_renumber 116 = .ok (.iconst 0, 1) := by decide +kernel
theorem d_X4_renumber_117 : decode cX4_renumber 117 = .ok (.istore_n 1, 1) := by decide +kernel
theorem d_X4_renumber_118 : decode cX4_renumber 118 = .ok (.iload_n 1, 1) := by decide +kernel
theorem d_X4_renumber_119 : decode cX4_renumber 119 = .ok (.bipush 42, 2) := by decide +kernel
theorem d_X4_renumber_121 : decode cX4_renumber 121 = .ok (.if_icmp .ge 16, 3) := by decide +kernel
theorem d_X4_renumber_124 : decode cX4_renumber 124 = .ok (.aload_n 0, 1) := by decide +kernel
theorem d_X4_renumber_125 : decode cX4_renumber 125 = .ok (.getfield 41, 3) := by decide +kernel
theorem d_X4_renumber_128 : decode cX4_renumber 128 = .ok (.iload_n 1, 1) := by decide +kernel
theorem d_X4_renumber_129 : decode cX4_renumber 129 = .ok (.iload_n 1, 1) := by decide +kernel
theorem d_X4_renumber_130 : decode cX4_renumber 130 = .ok (.iastore, 1) := by decide +kernel
theorem d_X4_renumber_131 : decode cX4_renumber 131 = .ok (.iinc 1 1, 3) := by decide +kernel
theorem d_X4_renumber_134 : decode cX4_renumber 134 = .ok (.goto (-16), 3) := by decide +kernel
theorem d_X4_renumber_137 : decode cX4_renumber 137 = .ok (.return_, 1) := by decide +kernel
def k_X4_renumber_0 (P : xP) (C35 : xK) : xK := x_aload 0 (x_push (.int 2) (x_putI xN 4 3 (x_aload 0 (x_getF xN xFT 4 11 (x_push (.int 0) (x_push (.int (-1)) (x_iast xN (x_aload 0 (x_getF xN xFT 4 12 (x_push (.int 0) (x_push (.int (-1)) (x_iast xN (x_aload 0 (x_getF xN xFT 4 11 (x_push (.int 1) (x_push (.int (-1)) (x_iast xN (x_aload 0 (x_getF xN xFT 4 12 (x_push (.int 1) (x_push (.int (-1)) (x_iast xN (x_push (.int 0) (x_istore 1 (C35)))))))))))))))))))))))))
set_option maxRecDepth 20000 in
theorem t_X4_renumber_0 {p : Program} {l : Launch} {e : Env} {s : State} {m : MethodId} {args : Array Value} {below : List Frame} {meth : Method} {c : Code} {g : xG} (X : xX p s m args c meth cX4_renumber RX4 3 g) (hr : meth.sig.returnType = none) {P : xP} {C35 : xK} (h35 : xAt p l e { frames := 0, cells := 0, slots := 0, locals := 0 } s m args below meth c g 3 xFT xN 0 0 (MQ below (xQc g xFT xN P) args s 0 0 (xFr g)) C35 35) : xAt p l e { frames := 0, cells := 0, slots := 0, locals := 0 } s m args below meth c g 3 xFT xN 0 0 (MQ below (xQc g xFT xN P) args s 0 0 (xFr g)) (k_X4_renumber_0 P C35) 0 := by
  unfold k_X4_renumber_0
  refine r_aload_n (pc := 0) X d_X4_renumber_0 fn0 ?_
  refine r_iconst (pc := 1) X d_X4_renumber_1 (by decide +kernel) ?_
  refine r_putI (pc := 2) X xok4 (by decide +kernel) (by decide +kernel) (by decide +kernel) (by decide +kernel) fl_RX4_9 d_X4_renumber_2 ?_
  refine r_aload_n (pc := 5) X d_X4_renumber_5 fn0 ?_
  refine r_getF (pc := 6) X xok4 (by decide +kernel) (by decide +kernel) fl_RX4_35 d_X4_renumber_6 ?_
  refine r_iconst (pc := 9) X d_X4_renumber_9 (by decide +kernel) ?_
  refine r_iconst (pc := 10) X d_X4_renumber_10 (by decide +kernel) ?_
  refine r_iast (pc := 11) X d_X4_renumber_11 ?_
  refine r_aload_n (pc := 12) X d_X4_renumber_12 fn0 ?_
  refine r_getF (pc := 13) X xok4 (by decide +kernel) (by decide +kernel) fl_RX4_38 d_X4_renumber_13 ?_
  refine r_iconst (pc := 16) X d_X4_renumber_16 (by decide +kernel) ?_
  refine r_iconst (pc := 17) X d_X4_renumber_17 (by decide +kernel) ?_
  refine r_iast (pc := 18) X d_X4_renumber_18 ?_
  refine r_aload_n (pc := 19) X d_X4_renumber_19 fn0 ?_
  refine r_getF (pc := 20) X xok4 (by decide +kernel) (by decide +kernel) fl_RX4_35 d_X4_renumber_20 ?_
  refine r_iconst (pc := 23) X d_X4_renumber_23 (by decide +kernel) ?_
  refine r_iconst (pc := 24) X d_X4_renumber_24 (by decide +kernel) ?_
  refine r_iast (pc := 25) X d_X4_renumber_25 ?_
  refine r_aload_n (pc := 26) X d_X4_renumber_26 fn0 ?_
  refine r_getF (pc := 27) X xok4 (by decide +kernel) (by decide +kernel) fl_RX4_38 d_X4_renumber_27 ?_
  refine r_iconst (pc := 30) X d_X4_renumber_30 (by decide +kernel) ?_
  refine r_iconst (pc := 31) X d_X4_renumber_31 (by decide +kernel) ?_
  refine r_iast (pc := 32) X d_X4_renumber_32 ?_
  refine r_iconst (pc := 33) X d_X4_renumber_33 (by decide +kernel) ?_
  refine r_istore_n (pc := 34) X d_X4_renumber_34 fn1 (by decide +kernel) ?_
  exact h35
def k_X4_renumber_35 (P : xP) (C55 : xK) (C118 : xK) : xK := x_iload 1 (x_aload 0 (x_getI xN 4 2 (x_icmp_ge (x_push (.int 0) (x_istore 1 (C118))) (x_aload 0 (x_getF xN xFT 4 9 (x_iload 1 (x_aload 0 (x_getI xN 4 3 (x_iast xN (x_push (.int 0) (x_istore 2 (C55))))))))))))
set_option maxRecDepth 20000 in
theorem t_X4_renumber_35 {p : Program} {l : Launch} {e : Env} {s : State} {m : MethodId} {args : Array Value} {below : List Frame} {meth : Method} {c : Code} {g : xG} (X : xX p s m args c meth cX4_renumber RX4 3 g) (hr : meth.sig.returnType = none) {P : xP} {C55 : xK} {C118 : xK} (h55 : xAt p l e { frames := 0, cells := 0, slots := 0, locals := 0 } s m args below meth c g 3 xFT xN 0 0 (MQ below (xQc g xFT xN P) args s 0 0 (xFr g)) C55 55) (h118 : xAt p l e { frames := 0, cells := 0, slots := 0, locals := 0 } s m args below meth c g 3 xFT xN 0 0 (MQ below (xQc g xFT xN P) args s 0 0 (xFr g)) C118 118) : xAt p l e { frames := 0, cells := 0, slots := 0, locals := 0 } s m args below meth c g 3 xFT xN 0 0 (MQ below (xQc g xFT xN P) args s 0 0 (xFr g)) (k_X4_renumber_35 P C55 C118) 35 := by
  unfold k_X4_renumber_35
  refine r_iload_n (pc := 35) X d_X4_renumber_35 fn1 ?_
  refine r_aload_n (pc := 36) X d_X4_renumber_36 fn0 ?_
  refine r_getI (pc := 37) X xok4 (by decide +kernel) (by decide +kernel) fl_RX4_53 d_X4_renumber_37 ?_
  refine r_icmp_ge (pc := 40) (tgt := 116) X d_X4_renumber_40 (by decide +kernel) ?_ ?_
  · refine r_iconst (pc := 116) X d_X4_renumber_116 (by decide +kernel) ?_
    refine r_istore_n (pc := 117) X d_X4_renumber_117 fn1 (by decide +kernel) ?_
    exact h118
  · refine r_aload_n (pc := 43) X d_X4_renumber_43 fn0 ?_
    refine r_getF (pc := 44) X xok4 (by decide +kernel) (by decide +kernel) fl_RX4_29 d_X4_renumber_44 ?_
    refine r_iload_n (pc := 47) X d_X4_renumber_47 fn1 ?_
    refine r_aload_n (pc := 48) X d_X4_renumber_48 fn0 ?_
    refine r_getI (pc := 49) X xok4 (by decide +kernel) (by decide +kernel) fl_RX4_9 d_X4_renumber_49 ?_
    refine r_iast (pc := 52) X d_X4_renumber_52 ?_
    refine r_iconst (pc := 53) X d_X4_renumber_53 (by decide +kernel) ?_
    refine r_istore_n (pc := 54) X d_X4_renumber_54 fn2 (by decide +kernel) ?_
    exact h55
def k_X4_renumber_110 (P : xP) (C35 : xK) : xK := x_iinc 1 1 (C35)
set_option maxRecDepth 20000 in
theorem t_X4_renumber_110 {p : Program} {l : Launch} {e : Env} {s : State} {m : MethodId} {args : Array Value} {below : List Frame} {meth : Method} {c : Code} {g : xG} (X : xX p s m args c meth cX4_renumber RX4 3 g) (hr : meth.sig.returnType = none) {P : xP} {C35 : xK} (h35 : xAt p l e { frames := 0, cells := 0, slots := 0, locals := 0 } s m args below meth c g 3 xFT xN 0 0 (MQ below (xQc g xFT xN P) args s 0 0 (xFr g)) C35 35) : xAt p l e { frames := 0, cells := 0, slots := 0, locals := 0 } s m args below meth c g 3 xFT xN 0 0 (MQ below (xQc g xFT xN P) args s 0 0 (xFr g)) (k_X4_renumber_110 P C35) 110 := by
  unfold k_X4_renumber_110
  refine r_iinc (pc := 110) X d_X4_renumber_110 (by decide +kernel) (by decide +kernel) ?_
  refine r_goto (pc := 113) (tgt := 35) X d_X4_renumber_113 (by decide +kernel) ?_
  exact h35
def k_X4_renumber_55 (P : xP) (C35 : xK) (C55 : xK) : xK := x_iload 2 (x_aload 0 (x_getF xN xFT 4 8 (x_iload 1 (x_iald xN (x_icmp_gt ((k_X4_renumber_110 P C35)) (x_aload 0 (x_getI xN 4 3 (x_push (.int 42) (x_icmp_ge ((k_X4_renumber_110 P C35)) (x_aload 0 (x_getF xN xFT 4 11 (x_aload 0 (x_getI xN 4 3 (x_iload 1 (x_iast xN (x_aload 0 (x_getF xN xFT 4 12 (x_aload 0 (x_getI xN 4 3 (x_iload 2 (x_iast xN (x_aload 0 (x_dup (x_getI xN 4 3 (x_push (.int 1) (x_iadd (x_putI xN 4 3 (x_iinc 2 1 (C55)))))))))))))))))))))))))))))
set_option maxRecDepth 20000 in
theorem t_X4_renumber_55 {p : Program} {l : Launch} {e : Env} {s : State} {m : MethodId} {args : Array Value} {below : List Frame} {meth : Method} {c : Code} {g : xG} (X : xX p s m args c meth cX4_renumber RX4 3 g) (hr : meth.sig.returnType = none) {P : xP} {C35 : xK} {C55 : xK} (h35 : xAt p l e { frames := 0, cells := 0, slots := 0, locals := 0 } s m args below meth c g 3 xFT xN 0 0 (MQ below (xQc g xFT xN P) args s 0 0 (xFr g)) C35 35) (h55 : xAt p l e { frames := 0, cells := 0, slots := 0, locals := 0 } s m args below meth c g 3 xFT xN 0 0 (MQ below (xQc g xFT xN P) args s 0 0 (xFr g)) C55 55) : xAt p l e { frames := 0, cells := 0, slots := 0, locals := 0 } s m args below meth c g 3 xFT xN 0 0 (MQ below (xQc g xFT xN P) args s 0 0 (xFr g)) (k_X4_renumber_55 P C35 C55) 55 := by
  unfold k_X4_renumber_55
  refine r_iload_n (pc := 55) X d_X4_renumber_55 fn2 ?_
  refine r_aload_n (pc := 56) X d_X4_renumber_56 fn0 ?_
  refine r_getF (pc := 57) X xok4 (by decide +kernel) (by decide +kernel) fl_RX4_26 d_X4_renumber_57 ?_
  refine r_iload_n (pc := 60) X d_X4_renumber_60 fn1 ?_
  refine r_iald (pc := 61) X d_X4_renumber_61 ?_
  refine r_icmp_gt (pc := 62) (tgt := 110) X d_X4_renumber_62 (by decide +kernel) ?_ ?_
  · exact t_X4_renumber_110 X hr h35
  · refine r_aload_n (pc := 65) X d_X4_renumber_65 fn0 ?_
    refine r_getI (pc := 66) X xok4 (by decide +kernel) (by decide +kernel) fl_RX4_9 d_X4_renumber_66 ?_
    refine r_bipush (pc := 69) X d_X4_renumber_69 (by decide +kernel) ?_
    refine r_icmp_ge (pc := 71) (tgt := 110) X d_X4_renumber_71 (by decide +kernel) ?_ ?_
    · exact t_X4_renumber_110 X hr h35
    · refine r_aload_n (pc := 74) X d_X4_renumber_74 fn0 ?_
      refine r_getF (pc := 75) X xok4 (by decide +kernel) (by decide +kernel) fl_RX4_35 d_X4_renumber_75 ?_
      refine r_aload_n (pc := 78) X d_X4_renumber_78 fn0 ?_
      refine r_getI (pc := 79) X xok4 (by decide +kernel) (by decide +kernel) fl_RX4_9 d_X4_renumber_79 ?_
      refine r_iload_n (pc := 82) X d_X4_renumber_82 fn1 ?_
      refine r_iast (pc := 83) X d_X4_renumber_83 ?_
      refine r_aload_n (pc := 84) X d_X4_renumber_84 fn0 ?_
      refine r_getF (pc := 85) X xok4 (by decide +kernel) (by decide +kernel) fl_RX4_38 d_X4_renumber_85 ?_
      refine r_aload_n (pc := 88) X d_X4_renumber_88 fn0 ?_
      refine r_getI (pc := 89) X xok4 (by decide +kernel) (by decide +kernel) fl_RX4_9 d_X4_renumber_89 ?_
      refine r_iload_n (pc := 92) X d_X4_renumber_92 fn2 ?_
      refine r_iast (pc := 93) X d_X4_renumber_93 ?_
      refine r_aload_n (pc := 94) X d_X4_renumber_94 fn0 ?_
      refine r_dup (pc := 95) X d_X4_renumber_95 ?_
      refine r_getI (pc := 96) X xok4 (by decide +kernel) (by decide +kernel) fl_RX4_9 d_X4_renumber_96 ?_
      refine r_iconst (pc := 99) X d_X4_renumber_99 (by decide +kernel) ?_
      refine r_iadd (pc := 100) X d_X4_renumber_100 ?_
      refine r_putI (pc := 101) X xok4 (by decide +kernel) (by decide +kernel) (by decide +kernel) (by decide +kernel) fl_RX4_9 d_X4_renumber_101 ?_
      refine r_iinc (pc := 104) X d_X4_renumber_104 (by decide +kernel) (by decide +kernel) ?_
      refine r_goto (pc := 107) (tgt := 55) X d_X4_renumber_107 (by decide +kernel) ?_
      exact h55
def k_X4_renumber_118 (P : xP) (C118 : xK) : xK := x_iload 1 (x_push (.int 42) (x_icmp_ge (x_vret P) (x_aload 0 (x_getF xN xFT 4 13 (x_iload 1 (x_iload 1 (x_iast xN (x_iinc 1 1 (C118)))))))))
set_option maxRecDepth 20000 in
theorem t_X4_renumber_118 {p : Program} {l : Launch} {e : Env} {s : State} {m : MethodId} {args : Array Value} {below : List Frame} {meth : Method} {c : Code} {g : xG} (X : xX p s m args c meth cX4_renumber RX4 3 g) (hr : meth.sig.returnType = none) {P : xP} {C118 : xK} (h118 : xAt p l e { frames := 0, cells := 0, slots := 0, locals := 0 } s m args below meth c g 3 xFT xN 0 0 (MQ below (xQc g xFT xN P) args s 0 0 (xFr g)) C118 118) : xAt p l e { frames := 0, cells := 0, slots := 0, locals := 0 } s m args below meth c g 3 xFT xN 0 0 (MQ below (xQc g xFT xN P) args s 0 0 (xFr g)) (k_X4_renumber_118 P C118) 118 := by
  unfold k_X4_renumber_118
  refine r_iload_n (pc := 118) X d_X4_renumber_118 fn1 ?_
  refine r_bipush (pc := 119) X d_X4_renumber_119 (by decide +kernel) ?_
  refine r_icmp_ge (pc := 121) (tgt := 137) X d_X4_renumber_121 (by decide +kernel) ?_ ?_
  · exact r_vret (pc := 137) X hr d_X4_renumber_137
  · refine r_aload_n (pc := 124) X d_X4_renumber_124 fn0 ?_
    refine r_getF (pc := 125) X xok4 (by decide +kernel) (by decide +kernel) fl_RX4_41 d_X4_renumber_125 ?_
    refine r_iload_n (pc := 128) X d_X4_renumber_128 fn1 ?_
    refine r_iload_n (pc := 129) X d_X4_renumber_129 fn1 ?_
    refine r_iast (pc := 130) X d_X4_renumber_130 ?_
    refine r_iinc (pc := 131) X d_X4_renumber_131 (by decide +kernel) (by decide +kernel) ?_
    refine r_goto (pc := 134) (tgt := 118) X d_X4_renumber_134 (by decide +kernel) ?_
    exact h118
set_option maxRecDepth 20000 in
theorem m_X4_renumber {l : Launch} {f : Nat → xH → xP → Prop}  {I35 : Nat → xH → xP → xM → xK} {I55 : Nat → xH → xP → xM → xK} {I118 : Nat → xH → xP → xM → xK}
    (v0 : ∀ (a0 : Nat) (A : xH) (P : xP), f a0 A P → k_X4_renumber_0 P (xE (I35 a0 A P)) [some (.ref a0), none, none] [] A)
    (v35 : ∀ (a0 : Nat) (A : xH) (P : xP), f a0 A P → ∀ (μ : xM) (L : xL) (st : List Value) (B : xH), I35 a0 A P μ L st B → k_X4_renumber_35 P (xB (I55 a0 A P) μ) (xE (I118 a0 A P)) L st B)
    (v55 : ∀ (a0 : Nat) (A : xH) (P : xP), f a0 A P → ∀ (μ : xM) (L : xL) (st : List Value) (B : xH), I55 a0 A P μ L st B → k_X4_renumber_55 P (xB (I35 a0 A P) μ) (xB (I55 a0 A P) μ) L st B)
    (v118 : ∀ (a0 : Nat) (A : xH) (P : xP), f a0 A P → ∀ (μ : xM) (L : xL) (st : List Value) (B : xH), I118 a0 A P μ L st B → k_X4_renumber_118 P (xB (I118 a0 A P) μ) L st B) : xCon l yX4_renumber cX4_renumber 3 none 0 0 xN xN 0 xFT xFT (w_R f) := by
  refine xc_R (plainFor_of_name pn_RX4) (by decide +kernel) (fun p e s m args below meth c g a0 A P h X hr _ => ?_)
  have h118 := x_loop1 (p := p) (l := l) (e := e) (R := { frames := 0, cells := 0, slots := 0, locals := 0 }) (s := s) (m := m) (args := args) (below := below) (meth := meth) (c := c) (g := g) (nL := 3) (F := xFT) (n := xN) (cells := 0) (slots := 0) (Q := MQ below (xQc g xFT xN P) args s 0 0 (xFr g)) (I := I118 a0 A P) (pc1 := 118) (fun μ i118 => xAt_mono (t_X4_renumber_118 (P := P) X hr i118) (v118 a0 A P h μ))
  obtain ⟨h35, h55⟩ := x_loop2 (p := p) (l := l) (e := e) (R := { frames := 0, cells := 0, slots := 0, locals := 0 }) (s := s) (m := m) (args := args) (below := below) (meth := meth) (c := c) (g := g) (nL := 3) (F := xFT) (n := xN) (cells := 0) (slots := 0) (Q := MQ below (xQc g xFT xN P) args s 0 0 (xFr g)) (I1 := I35 a0 A P) (I2 := I55 a0 A P) (pc1 := 35) (pc2 := 55) (fun μ i35 i55 => xAt_mono (t_X4_renumber_35 (P := P) X hr i55 h118) (v35 a0 A P h μ)) (fun μ i35 i55 => xAt_mono (t_X4_renumber_55 (P := P) X hr i35 i55) (v55 a0 A P h μ))
  exact ⟨_, v0 a0 A P h, t_X4_renumber_0 X hr h35⟩
def vnewS (v : xV) (w : Int64) : xV := ((vS v + 1, vK v, vR v, vD v), (fun j => if j = vS v then w else vsn v j), vkn v, vrk v, vrs v, vsy v, vcl v)
def vnewK (v : xV) (w : Int64) : xV := ((vS v, vK v + 1, vR v, vD v), vsn v, (fun j => if j = vK v then w else vkn v j), vrk v, vrs v, vsy v, vcl v)
def vdeep (v : xV) (d : Nat) : xV := ((vS v, vK v, vR v, d), vsn v, vkn v, vrk v, vrs v, vsy v, vcl v)
theorem vfst_same {v w : xV} (h : vrs v = vrs w) : ∀ r, vfst v r = vfst w r
  | 0 => rfl
  | r + 1 => by simp only [vfst, vfst_same h r, h]
/-- another grammar's numbers, the items and classes staying -/
theorem isM_alike {A B : xH} {b : Nat} {v w : xV} (h : isM A b v) (hg : isG B b w) (hR : vR w = vR v) (hrs : vrs w = vrs v) (hcl : vcl w = vcl v) (e3 : xi B b 3 = xi A b 3) (e5 : ∀ j, xi B (b + 5) j = xi A (b + 5) j) (e7 : ∀ j, xi B (b + 7) j = xi A (b + 7) j) (e8 : ∀ j, xi B (b + 8) j = xi A (b + 8) j) (e9 : ∀ j, xi B (b + 9) j = xi A (b + 9) j) : isM B b w := by
  have ef := vfst_same hrs
  obtain ⟨-, h2, ⟨i1, i2, i3, i4⟩, h4⟩ := h
  refine ⟨hg, ?_, ⟨?_, ?_, ?_, ?_⟩, ?_⟩
  · intro i hi
    have := h2 i hi
    unfold vN at this ⊢
    rw [hcl, hR, ef]
    exact this
  · rw [e3, hR, ef]; exact i1
  · intro r hr; rw [e5, ef]; exact i2 r (by rw [← hR]; exact hr)
  · simp only [e7, e8]; exact i3
  · intro r hr d hd
    simp only [e7, e8, ef]; exact i4 r (by rw [← hR]; exact hr) d (by rw [← hrs]; exact hd)
  · intro j hj; rw [e9, hcl]; exact h4 j hj
def f_X4_newSign (b : Nat) (w : Int64) (A : xH) (P : xP) : Prop := ∃ v, isM A b v ∧ vS v < 4 ∧ ∀ B, isM B b (vnewS v w) → xoff A B b (b + 9) → P none B
theorem con_X4_newSign (l : Launch) : xCon l yX4_newSign cX4_newSign 3 none 0 0 xN xN 0 xFT xFT (w_RJ f_X4_newSign) := by
  refine m_X4_newSign ?_
  rintro b w A P ⟨v, hM, hlt, hP⟩
  have hM0 := hM
  obtain ⟨⟨⟨m1, ⟨l5, -⟩, ⟨t5, -⟩, ⟨s5, -⟩, -⟩, ⟨w1, w2, w3, w4, w5⟩, ⟨k0, k1, k2, k4⟩, g4, g5, g6⟩, -⟩ := hM
  simp only [k_X4_newSign_0, k_X4_newSign_28, x_aload, x_dup, x_getF, x_getI, x_iadd, x_icmp_ge, x_last, x_lload, x_push, x_putI, x_vret, xFT, xbool0, xbool1, Nat.reduceAdd, Nat.zero_add, xgl_0, xgl_s, xgl_n, xst_0, xst_1n, xst_1i, xst_1r, xst_1l, xst_s, set_0, set_s, true_and, and_true, xres, xcat_nil, xcat_i, xcat_r, xcat_l, Nat.add_zero, xble0, xble1, xble2, xble3, xble4, xble5, xble6, xble7, xble8, m1, l5, t5, s5, k0, xi_sl]
  refine ⟨fun h => ?_, fun h => ?_⟩
  · simp (disch := omega) only [Int32.lt_iff_toInt_lt, Int32.le_iff_toInt_le, ← Int32.toInt_inj, nI_toInt, Int32.reduceToInt, n_m1, ne_eq, not_true_eq_false, not_false_eq_true] at h
    omega
  · rw [n_cl (by omega), show (1 : Int32) = nI 1 from rfl, nI_add]
    refine ⟨(n_in (by omega) (by omega)).mpr (by omega), hP _ (isM_alike hM0 ⟨hM0.1.1, ⟨?_, w2, w3, w4, fun r hr => ⟨(w5 r hr).1, (w5 r hr).2.1, fun t ht => ?_⟩⟩, ⟨?_, ?_, ?_, ?_⟩, ?_, ?_, ?_⟩ rfl rfl rfl ?_ ?_ ?_ ?_ ?_) (xoff_si (xoff_sl xoff_rf (by omega) (by omega)) (by omega) (by omega))⟩
    · show vS v + 1 ≤ 4; omega
    · show vsy v r t < vS v + 1 ∨ _
      have := (w5 r hr).2.2 t ht
      show vsy v r t < vS v + 1 ∨ (8 ≤ vsy v r t ∧ vsy v r t < 8 + vK v)
      omega
    · simp [xi_si, xi_sl, vnewS, vS]
    · simp [xi_si, xi_sl, k1, vnewS, vK]
    · simp [xi_si, xi_sl, k2, vnewS, vR]
    · simp [xi_si, xi_sl, k4, vnewS, vD]
    · intro j hj
      change j < vS v + 1 at hj
      simp only [xl_si, xl_sl, true_and]
      show _ = if j = vS v then w else vsn v j
      by_cases e : j = vS v
      · rw [if_pos e, if_pos e]
      · rw [if_neg e, if_neg e]
        exact g4 j (by omega)
    · intro j hj
      simp only [xl_si, xl_sl, show ¬ b + 2 = b + 1 by omega, false_and, if_false]
      exact g5 j hj
    · intro r hr
      simp only [xi_si, xi_sl, show ¬ b + 3 = b by omega, show ¬ b + 4 = b by omega, show ¬ b + 6 = b by omega, false_and, if_false]
      exact g6 r hr
    all_goals simp [xi_si, xi_sl]
def f_X4_newKind (b : Nat) (w : Int64) (A : xH) (P : xP) : Prop := ∃ v, isM A b v ∧ vK v < 5 ∧ ∀ B, isM B b (vnewK v w) → xoff A B b (b + 9) → P none B
theorem con_X4_newKind (l : Launch) : xCon l yX4_newKind cX4_newKind 3 none 0 0 xN xN 0 xFT xFT (w_RJ f_X4_newKind) := by
  refine m_X4_newKind ?_
  rintro b w A P ⟨v, hM, hlt, hP⟩
  have hM0 := hM
  obtain ⟨⟨⟨m1, ⟨-, l5, -⟩, ⟨-, t5, -⟩, ⟨-, s5, -⟩, -⟩, ⟨w1, w2, w3, w4, w5⟩, ⟨k0, k1, k2, k4⟩, g4, g5, g6⟩, -⟩ := hM
  simp only [k_X4_newKind_0, k_X4_newKind_28, x_aload, x_dup, x_getF, x_getI, x_iadd, x_icmp_ge, x_last, x_lload, x_push, x_putI, x_vret, xFT, xbool0, xbool1, Nat.reduceAdd, Nat.zero_add, xgl_0, xgl_s, xgl_n, xst_0, xst_1n, xst_1i, xst_1r, xst_1l, xst_s, set_0, set_s, true_and, and_true, xres, xcat_nil, xcat_i, xcat_r, xcat_l, Nat.add_zero, xble0, xble1, xble2, xble3, xble4, xble5, xble6, xble7, xble8, m1, l5, t5, s5, k1, xi_sl]
  refine ⟨fun h => ?_, fun h => ?_⟩
  · simp (disch := omega) only [Int32.lt_iff_toInt_lt, Int32.le_iff_toInt_le, ← Int32.toInt_inj, nI_toInt, Int32.reduceToInt, n_m1, ne_eq, not_true_eq_false, not_false_eq_true] at h
    omega
  · rw [n_cl (by omega), show (1 : Int32) = nI 1 from rfl, nI_add]
    refine ⟨(n_in (by omega) (by omega)).mpr (by omega), hP _ (isM_alike hM0 ⟨hM0.1.1, ⟨w1, ?_, w3, w4, fun r hr => ⟨?_, (w5 r hr).2.1, fun t ht => ?_⟩⟩, ⟨?_, ?_, ?_, ?_⟩, ?_, ?_, ?_⟩ rfl rfl rfl ?_ ?_ ?_ ?_ ?_) (xoff_si (xoff_sl xoff_rf (by omega) (by omega)) (by omega) (by omega))⟩
    · show vK v + 1 ≤ 5; omega
    · show vrk v r < vK v + 1
      have := (w5 r hr).1; omega
    · have := (w5 r hr).2.2 t ht
      show vsy v r t < vS v ∨ (8 ≤ vsy v r t ∧ vsy v r t < 8 + (vK v + 1))
      omega
    · simp [xi_si, xi_sl, k0, vnewK, vS]
    · simp [xi_si, xi_sl, vnewK, vK]
    · simp [xi_si, xi_sl, k2, vnewK, vR]
    · simp [xi_si, xi_sl, k4, vnewK, vD]
    · intro j hj
      simp only [xl_si, xl_sl, show ¬ b + 1 = b + 2 by omega, false_and, if_false]
      exact g4 j hj
    · intro j hj
      change j < vK v + 1 at hj
      simp only [xl_si, xl_sl, true_and]
      show _ = if j = vK v then w else vkn v j
      by_cases e : j = vK v
      · rw [if_pos e, if_pos e]
      · rw [if_neg e, if_neg e]
        exact g5 j (by omega)
    · intro r hr
      simp only [xi_si, xi_sl, show ¬ b + 3 = b by omega, show ¬ b + 4 = b by omega, show ¬ b + 6 = b by omega, false_and, if_false]
      exact g6 r hr
    all_goals simp [xi_si, xi_sl]
def f_X4_deepen (b : Nat) (d : Int32) (A : xH) (P : xP) : Prop := ∃ v, isM A b v ∧ (∀ k : Nat, d = nI k → k ≤ 1 → (k = vD v → P (some (.int 1)) A) ∧ (k ≠ vD v → ∀ B, isM B b (vdeep v k) → xoff A B b (b + 9) → P (some (.int 0)) B)) ∧ ((¬ ∃ k : Nat, d = nI k ∧ k ≤ 1) → P (some (.int (-1))) A)
theorem con_X4_deepen (l : Launch) : xCon l yX4_deepen cX4_deepen 2 (some .int) 0 0 xN xN 0 xFT xFT (w_RI f_X4_deepen) := by
  refine m_X4_deepen ?_
  rintro b d A P ⟨v, hM, hP, hP2⟩
  have hM0 := hM
  obtain ⟨⟨⟨m1, -⟩, ⟨w1, w2, w3, w4, w5⟩, ⟨k0, k1, k2, k4⟩, g4, g5, g6⟩, -⟩ := hM
  simp only [k_X4_deepen_0, k_X4_deepen_9, x_aload, x_getI, x_icmp_le, x_icmp_ne, x_if_lt, x_iload, x_iret, x_push, x_putI, xFT, xbool0, xbool1, Nat.reduceAdd, Nat.zero_add, xgl_0, xgl_s, xgl_n, xst_0, xst_1n, xst_1i, xst_1r, xst_1l, xst_s, set_0, set_s, true_and, and_true, xres, xcat_nil, xcat_i, xcat_r, xcat_l, Nat.add_zero, xble0, xble1, xble2, xble3, xble4, xble5, xble6, xble7, xble8, m1, k4]
  have no : d < 0 ∨ ¬ d ≤ 1 → ¬ ∃ k : Nat, d = nI k ∧ k ≤ 1 := by
    rintro h ⟨k, rfl, hk⟩
    rcases h with h | h
    · exact nI_pos (by omega) h
    · simp (disch := omega) only [Int32.lt_iff_toInt_lt, Int32.le_iff_toInt_le, ← Int32.toInt_inj, nI_toInt, Int32.reduceToInt, n_m1, ne_eq, not_true_eq_false, not_false_eq_true] at h
      omega
  refine ⟨fun h => hP2 (no (Or.inl h)), fun h1 => ⟨fun h2 => ?_, fun h2 => hP2 (no (Or.inr h2))⟩⟩
  obtain ⟨k, hk, rfl⟩ := nI_of h1
  have hk1 : k ≤ 1 := by simp (disch := omega) only [Int32.lt_iff_toInt_lt, Int32.le_iff_toInt_le, ← Int32.toInt_inj, nI_toInt, Int32.reduceToInt, n_m1, ne_eq, not_true_eq_false, not_false_eq_true] at h2; omega
  refine ⟨fun h => ?_, fun h => ?_⟩
  · refine (hP k rfl hk1).2 (fun e => h (by rw [e])) _ (isM_alike hM0 ⟨hM0.1.1, ⟨w1, w2, w3, hk1, w5⟩, ⟨?_, ?_, ?_, ?_⟩, g4, g5, ?_⟩ rfl rfl rfl ?_ ?_ ?_ ?_ ?_) (xoff_si xoff_rf (by omega) (by omega))
    · simp [xi_si, k0, vdeep, vS]
    · simp [xi_si, k1, vdeep, vK]
    · simp [xi_si, k2, vdeep, vR]
    · simp [xi_si, vdeep, vD]
    · intro r hr
      simp only [xi_si, show ¬ b + 3 = b by omega, show ¬ b + 4 = b by omega, show ¬ b + 6 = b by omega, false_and, if_false]
      exact g6 r hr
    all_goals simp [xi_si]
  · exact (hP k rfl hk1).1 ((nI_eq (by omega) (by omega)).mp h)
/-- all items laid anew, each alone -/
def f_X4_renumber (b : Nat) (A : xH) (P : xP) : Prop := ∃ v, isG A b v ∧ ∀ B, isM B b (vid v) → xoff A B b (b + 9) → P none B
theorem wfc_vid (v : xV) : wfc (vid v) := fun i hi => ⟨Nat.le_refl _, rfl, fun _ => rfl, fun h => h, fun _ => rfl⟩
theorem con_X4_renumber (l : Launch) : xCon l yX4_renumber cX4_renumber 3 none 0 0 xN xN 0 xFT xFT (w_R f_X4_renumber) := by
  refine m_X4_renumber
    (I35 := fun b A P μ L st B => ∃ v r o, isG B b v ∧ xoff A B b (b + 9) ∧ (∀ B, isM B b (vid v) → xoff A B b (b + 9) → P none B) ∧ isIt B b v r ∧ r ≤ vR v ∧ st = [] ∧ L = [some (.ref b), some (.int (nI r)), o] ∧ μ = (vR v - r, 5, 0))
    (I55 := fun b A P μ L st B => ∃ v r d, isG B b v ∧ xoff A B b (b + 9) ∧ (∀ B, isM B b (vid v) → xoff A B b (b + 9) → P none B) ∧ r < vR v ∧ d ≤ vrs v r + 1 ∧
      xi B b 3 = nI (vfst v r + d) ∧ (∀ q, q ≤ r → xi B (b + 5) q = nI (vfst v q)) ∧ (xi B (b + 7) 0 = -1 ∧ xi B (b + 8) 0 = -1 ∧ xi B (b + 7) 1 = -1 ∧ xi B (b + 8) 1 = -1) ∧ (∀ q, q < r → ∀ f, f ≤ vrs v q → xi B (b + 7) (vfst v q + f) = nI q ∧ xi B (b + 8) (vfst v q + f) = nI f) ∧ (∀ f, f < d → xi B (b + 7) (vfst v r + f) = nI r ∧ xi B (b + 8) (vfst v r + f) = nI f) ∧
      st = [] ∧ L = [some (.ref b), some (.int (nI r)), some (.int (nI d))] ∧ μ = (vR v - r, 4 - d, 0))
    (I118 := fun b A P μ L st B => ∃ v i o, isG B b v ∧ xoff A B b (b + 9) ∧ (∀ B, isM B b (vid v) → xoff A B b (b + 9) → P none B) ∧ isIt B b v (vR v) ∧ (∀ j, j < i → xi B (b + 9) j = nI j) ∧ i ≤ 42 ∧ st = [] ∧ L = [some (.ref b), some (.int (nI i)), o] ∧ μ = (42 - i, 0, 0)) ?_ ?_ ?_ ?_
  · rintro b A P ⟨v, hG, hP⟩
    have hG0 := hG
    obtain ⟨⟨m1, ⟨-, -, -, -, -, -, l11, l12, -⟩, ⟨-, -, -, -, -, -, t11, t12, -⟩, ⟨-, -, -, -, -, -, s11, s12, -⟩, -⟩, -⟩ := hG
    simp only [k_X4_renumber_0, k_X4_renumber_35, k_X4_renumber_55, k_X4_renumber_118, k_X4_renumber_110, x_aload, x_dup, x_getF, x_getI, x_iadd, x_iald, x_iast, x_icmp_ge, x_icmp_gt, x_iinc, x_iload, x_istore, x_push, x_putI, x_vret, xFT, xbool0, xbool1, Nat.reduceAdd, Nat.zero_add, xgl_0, xgl_s, xgl_n, xst_0, xst_1n, xst_1i, xst_1r, xst_1l, xst_s, set_0, set_s, true_and, and_true, xres, xcat_nil, xcat_i, xcat_r, xcat_l, Nat.add_zero, xble0, xble1, xble2, xble3, xble4, xble5, xble6, xble7, xble8, m1, l11, l12, t11, t12, s11, s12]
    refine ⟨vpl (by decide) (by decide), vpl (by decide) (by decide), vpl (by decide) (by decide), vpl (by decide) (by decide), xE0 (vR v - 0, 5, 0) ⟨v, 0, none, ?_, ?_, hP, ⟨?_, fun r hr => absurd hr (by omega), ⟨?_, ?_, ?_, ?_⟩, fun r hr => absurd hr (by omega)⟩, by omega, rfl, rfl, rfl⟩⟩
    · exact isG_si (isG_si (isG_si (isG_si (isG_si hG0 (by omega)) (by omega)) (by omega)) (by omega)) (by omega)
    · exact xoff_si (xoff_si (xoff_si (xoff_si (xoff_si xoff_rf (by omega) (by omega)) (by omega) (by omega)) (by omega) (by omega)) (by omega) (by omega)) (by omega) (by omega)
    all_goals simp [xi_si, vfst, show (0 : Int32).toNatClampNeg = 0 from rfl, show (1 : Int32).toNatClampNeg = 1 from rfl, show (2 : Int32) = nI 2 from rfl]
  · rintro b A P - μ L st B ⟨v, r, o, hG, hf, hP, hI, hr, rfl, rfl, rfl⟩
    have hG0 := hG
    obtain ⟨⟨m1, ⟨-, -, -, -, l9, -⟩, ⟨-, -, -, -, t9, -⟩, ⟨-, -, -, -, s9, -⟩, -⟩, ⟨w1, w2, w3, w4, w5⟩, ⟨k0, k1, k2, k4⟩, -⟩ := hG
    obtain ⟨j1, j2, j3, j4⟩ := hI
    simp only [k_X4_renumber_0, k_X4_renumber_35, k_X4_renumber_55, k_X4_renumber_118, k_X4_renumber_110, x_aload, x_dup, x_getF, x_getI, x_iadd, x_iald, x_iast, x_icmp_ge, x_icmp_gt, x_iinc, x_iload, x_istore, x_push, x_putI, x_vret, xFT, xbool0, xbool1, Nat.reduceAdd, Nat.zero_add, xgl_0, xgl_s, xgl_n, xst_0, xst_1n, xst_1i, xst_1r, xst_1l, xst_s, set_0, set_s, true_and, and_true, xres, xcat_nil, xcat_i, xcat_r, xcat_l, Nat.add_zero, xble0, xble1, xble2, xble3, xble4, xble5, xble6, xble7, xble8, m1, l9, t9, s9, k2]
    refine ⟨fun h => ?_, fun h => ?_⟩
    · simp (disch := omega) only [Int32.lt_iff_toInt_lt, Int32.le_iff_toInt_le, ← Int32.toInt_inj, nI_toInt, Int32.reduceToInt, n_m1, ne_eq, not_true_eq_false, not_false_eq_true] at h
      have : r = vR v := by omega
      subst this
      exact xE0 (42 - 0, 0, 0) ⟨v, 0, o, hG0, hf, hP, ⟨j1, j2, j3, j4⟩, fun j hj => absurd hj (by omega), by omega, rfl, rfl, rfl⟩
    · simp (disch := omega) only [Int32.lt_iff_toInt_lt, Int32.le_iff_toInt_le, ← Int32.toInt_inj, nI_toInt, Int32.reduceToInt, n_m1, ne_eq, not_true_eq_false, not_false_eq_true] at h
      rw [n_cl (by omega), j1]
      refine ⟨(n_in (by omega) (by omega)).mpr (by omega), xB2 (c := 4 - 0) (by omega) ⟨v, r, 0, isG_si hG0 (by omega), xoff_si hf (by omega) (by omega), hP, by omega, by omega, ?_, fun q hq => ?_, ?_, fun q hq f hf2 => ?_, fun f hf2 => absurd hf2 (by omega), rfl, rfl, rfl⟩⟩
      · rw [xi_si, if_neg (by omega)]; exact j1
      · rw [xi_si]
        by_cases e : q = r
        · subst e; rw [if_pos ⟨rfl, rfl⟩]
        · rw [if_neg (fun z => e z.2)]; exact j2 q (by omega)
      · simp only [xi_si, show ¬ b + 7 = b + 5 by omega, show ¬ b + 8 = b + 5 by omega, false_and, if_false]; exact j3
      · simp only [xi_si, show ¬ b + 7 = b + 5 by omega, show ¬ b + 8 = b + 5 by omega, false_and, if_false]; exact j4 q hq f hf2
  · rintro b A P - μ L st B ⟨v, r, d, hG, hf, hP, hr, hd, j1, j2, j3, j4, j5, rfl, rfl, rfl⟩
    have hG0 := hG
    obtain ⟨⟨m1, ⟨-, -, -, l8, -, -, l11, l12, -⟩, ⟨-, -, -, t8, -, -, t11, t12, -⟩, ⟨-, -, -, s8, -, -, s11, s12, -⟩, -⟩, ⟨w1, w2, w3, w4, w5⟩, ⟨k0, k1, k2, k4⟩, -, -, g6⟩ := hG
    have hrs := (w5 r hr).2.1
    have hle := vfst_le (v := v) (fun r hr => (w5 r hr).2.1) r (by omega)
    have hge := vfst_ge v r
    simp only [k_X4_renumber_0, k_X4_renumber_35, k_X4_renumber_55, k_X4_renumber_118, k_X4_renumber_110, x_aload, x_dup, x_getF, x_getI, x_iadd, x_iald, x_iast, x_icmp_ge, x_icmp_gt, x_iinc, x_iload, x_istore, x_push, x_putI, x_vret, xFT, xbool0, xbool1, Nat.reduceAdd, Nat.zero_add, xgl_0, xgl_s, xgl_n, xst_0, xst_1n, xst_1i, xst_1r, xst_1l, xst_s, set_0, set_s, true_and, and_true, xres, xcat_nil, xcat_i, xcat_r, xcat_l, Nat.add_zero, xble0, xble1, xble2, xble3, xble4, xble5, xble6, xble7, xble8, m1, l8, l11, l12, t8, t11, t12, s8, s11, s12, xi_si, show ¬ b = b + 7 by omega, show ¬ b = b + 8 by omega, false_and, if_false, j1]
    rw [n_cl (by omega), (g6 r hr).2.1, n_cl (by omega)]
    have hinr := (n_in (j := r) (n := 10) (by omega) (by omega)).mpr (by omega)
    have done : ∀ (C : xM → xK) (z : xM), True := fun _ _ => trivial
    refine ⟨hinr, fun h => ?_, fun h => ?_⟩
    · simp (disch := omega) only [Int32.lt_iff_toInt_lt, Int32.le_iff_toInt_le, ← Int32.toInt_inj, nI_toInt, Int32.reduceToInt, n_m1, ne_eq, not_true_eq_false, not_false_eq_true] at h
      have : d = vrs v r + 1 := by omega
      subst this
      refine xB1 (b := vR v - (r + 1)) (by omega) ⟨v, r + 1, some (.int (nI (vrs v r + 1))), hG0, hf, hP, ⟨?_, fun q hq => j2 q (by omega), j3, fun q hq f hf2 => ?_⟩, by omega, rfl, by rw [nI_1], rfl⟩
      · rw [j1]; rfl
      · rcases Nat.lt_or_ge q r with h2 | h2
        · exact j4 q h2 f hf2
        · have : q = r := by omega
          subst this
          exact j5 f (by omega)
    · simp (disch := omega) only [Int32.lt_iff_toInt_lt, Int32.le_iff_toInt_le, ← Int32.toInt_inj, nI_toInt, Int32.reduceToInt, n_m1, ne_eq, not_true_eq_false, not_false_eq_true] at h
      refine ⟨fun h2 => ?_, fun h2 => ?_⟩
      · have := (nI_leI (a := 42) (b := vfst v r + d) (by omega) (by omega)).mp h2
        omega
      · have hin := (n_in (j := vfst v r + d) (n := 42) (by omega) (by omega)).mpr (by omega)
        refine ⟨hin, hin, xB2 (c := 4 - (d + 1)) (by omega) ⟨v, r, d + 1, isG_si (isG_si (isG_si hG0 (by omega)) (by omega)) (by omega), xoff_si (xoff_si (xoff_si hf (by omega) (by omega)) (by omega) (by omega)) (by omega) (by omega), hP, hr, by omega, ?_, fun q hq => ?_, ⟨?_, ?_, ?_, ?_⟩, fun q hq f hf2 => ?_, fun f hf2 => ?_, rfl, by rw [nI_1], rfl⟩⟩
        · rw [xi_si, if_pos ⟨rfl, rfl⟩, nI_1, Nat.add_assoc]
        · rw [xi_si, if_neg (by omega), xi_si, if_neg (by omega), xi_si, if_neg (by omega)]; exact j2 q hq
        · rw [xi_si, if_neg (by omega), xi_si, if_neg (by omega), xi_si, if_neg (by omega)]; exact j3.1
        · rw [xi_si, if_neg (by omega), xi_si, if_neg (by omega), xi_si, if_neg (by omega)]; exact j3.2.1
        · rw [xi_si, if_neg (by omega), xi_si, if_neg (by omega), xi_si, if_neg (by omega)]; exact j3.2.2.1
        · rw [xi_si, if_neg (by omega), xi_si, if_neg (by omega), xi_si, if_neg (by omega)]; exact j3.2.2.2
        · have hm := vfst_mono v hq
          have := j4 q hq f hf2
          rw [xi_si, if_neg (by omega), xi_si, if_neg (by omega), xi_si, if_neg (by omega), xi_si, if_neg (by omega), xi_si, if_neg (by omega), xi_si, if_neg (by omega)]
          exact this
        · by_cases e : f = d
          · subst e
            constructor
            · rw [xi_si, if_neg (by omega), xi_si, if_neg (by omega), xi_si, if_pos ⟨rfl, rfl⟩]
            · rw [xi_si, if_neg (by omega), xi_si, if_pos ⟨rfl, rfl⟩]
          · have := j5 f (by omega)
            rw [xi_si, if_neg (by omega), xi_si, if_neg (by omega), xi_si, if_neg (by omega), xi_si, if_neg (by omega), xi_si, if_neg (by omega), xi_si, if_neg (by omega)]
            exact this
  · rintro b A P - μ L st B ⟨v, i, o, hG, hf, hP, hI, hj, hi, rfl, rfl, rfl⟩
    have hG0 := hG
    obtain ⟨⟨m1, ⟨-, -, -, -, -, -, -, -, l13⟩, ⟨-, -, -, -, -, -, -, -, t13⟩, ⟨-, -, -, -, -, -, -, -, s13⟩, -⟩, -⟩ := hG
    simp only [k_X4_renumber_0, k_X4_renumber_35, k_X4_renumber_55, k_X4_renumber_118, k_X4_renumber_110, x_aload, x_dup, x_getF, x_getI, x_iadd, x_iald, x_iast, x_icmp_ge, x_icmp_gt, x_iinc, x_iload, x_istore, x_push, x_putI, x_vret, xFT, xbool0, xbool1, Nat.reduceAdd, Nat.zero_add, xgl_0, xgl_s, xgl_n, xst_0, xst_1n, xst_1i, xst_1r, xst_1l, xst_s, set_0, set_s, true_and, and_true, xres, xcat_nil, xcat_i, xcat_r, xcat_l, Nat.add_zero, xble0, xble1, xble2, xble3, xble4, xble5, xble6, xble7, xble8, m1, l13, t13, s13, show (42 : Int32) = nI 42 from rfl]
    refine ⟨fun h => ?_, fun h => ?_⟩
    · simp (disch := omega) only [Int32.lt_iff_toInt_lt, Int32.le_iff_toInt_le, ← Int32.toInt_inj, nI_toInt, Int32.reduceToInt, n_m1, ne_eq, not_true_eq_false, not_false_eq_true] at h
      have : i = 42 := by omega
      subst this
      obtain ⟨j1, j2, j3, j4⟩ := hI
      refine hP B ⟨hG0, wfc_vid v, ⟨by rw [vfst_vid]; exact j1, fun r hr => by rw [vfst_vid]; exact j2 r hr, j3, fun r hr d hd => by rw [vfst_vid]; exact j4 r hr d hd⟩, fun j hj2 => hj j hj2⟩ hf
    · simp (disch := omega) only [Int32.lt_iff_toInt_lt, Int32.le_iff_toInt_le, ← Int32.toInt_inj, nI_toInt, Int32.reduceToInt, n_m1, ne_eq, not_true_eq_false, not_false_eq_true] at h
      rw [n_cl (by omega)]
      refine ⟨(n_in (by omega) (by omega)).mpr (by omega), xB1 (b := 42 - (i + 1)) (by omega) ⟨v, i + 1, o, isG_si hG0 (by omega), xoff_si hf (by omega) (by omega), hP, ?_, fun j hj2 => ?_, by omega, rfl, by rw [nI_1], rfl⟩⟩
      · obtain ⟨j1, j2, j3, j4⟩ := hI
        refine ⟨?_, fun r hr => ?_, ?_, fun r hr d hd => ?_⟩
        · rw [xi_si, if_neg (by omega)]; exact j1
        · rw [xi_si, if_neg (by omega)]; exact j2 r hr
        · simp only [xi_si, show ¬ b + 7 = b + 9 by omega, show ¬ b + 8 = b + 9 by omega, false_and, if_false]; exact j3
        · simp only [xi_si, show ¬ b + 7 = b + 9 by omega, show ¬ b + 8 = b + 9 by omega, false_and, if_false]; exact j4 r hr d hd
      · rw [xi_si]
        by_cases e : j = i
        · subst e; rw [if_pos ⟨rfl, rfl⟩]
        · rw [if_neg (fun q => e q.2)]; exact hj j (by omega)

