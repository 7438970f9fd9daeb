/-! ===== renumber on a heap that is not whole, the words of the constructors (printed by program) ===== -/
theorem d_X4_renumberG_0 : decode cX4_renumber 0 = .ok (.aload_n 0, 1) := by decide +kernel
theorem d_X4_renumberG_1 : decode cX4_renumber 1 = .ok (.iconst 2, 1) := by decide +kernel
theorem d_X4_renumberG_2 : decode cX4_renumber 2 = .ok (.putfield 9, 3) := by decide +kernel
theorem d_X4_renumberG_5 : decode cX4_renumber 5 = .ok (.aload_n 0, 1) := by decide +kernel
theorem d_X4_renumberG_6 : decode cX4_renumber 6 = .ok (.getfield 35, 3) := by decide +kernel
theorem d_X4_renumberG_9 : decode cX4_renumber 9 = .ok (.iconst 0, 1) := by decide +kernel
theorem d_X4_renumberG_10 : decode cX4_renumber 10 = .ok (.iconst (-1), 1) := by decide +kernel
theorem d_X4_renumberG_11 : decode cX4_renumber 11 = .ok (.iastore, 1) := by decide +kernel
theorem d_X4_renumberG_12 : decode cX4_renumber 12 = .ok (.aload_n 0, 1) := by decide +kernel
theorem d_X4_renumberG_13 : decode cX4_renumber 13 = .ok (.getfield 38, 3) := by decide +kernel
theorem d_X4_renumberG_16 : decode cX4_renumber 16 = .ok (.iconst 0, 1) := by decide +kernel
theorem d_X4_renumberG_17 : decode cX4_renumber 17 = .ok (.iconst (-1), 1) := by decide +kernel
theorem d_X4_renumberG_18 : decode cX4_renumber 18 = .ok (.iastore, 1) := by decide +kernel
theorem d_X4_renumberG_19 : decode cX4_renumber 19 = .ok (.aload_n 0, 1) := by decide +kernel
theorem d_X4_renumberG_20 : decode cX4_renumber 20 = .ok (.getfield 35, 3) := by decide +kernel
theorem d_X4_renumberG_23 : decode cX4_renumber 23 = .ok (.iconst 1, 1) := by decide +kernel
theorem d_X4_renumberG_24 : decode cX4_renumber 24 = .ok (.iconst (-1), 1) := by decide +kernel
theorem d_X4_renumberG_25 : decode cX4_renumber 25 = .ok (.iastore, 1) := by decide +kernel
theorem d_X4_renumberG_26 : decode cX4_renumber 26 = .ok (.aload_n 0, 1) := by decide +kernel
theorem d_X4_renumberG_27 : decode cX4_renumber 27 = .ok (.getfield 38, 3) := by decide +kernel
theorem d_X4_renumberG_30 : decode cX4_renumber 30 = .ok (.iconst 1, 1) := by decide +kernel
theorem d_X4_renumberG_31 : decode cX4_renumber 31 = .ok (.iconst (-1), 1) := by decide +kernel
theorem d_X4_renumberG_32 : decode cX4_renumber 32 = .ok (.iastore, 1) := by decide +kernel
theorem d_X4_renumberG_33 : decode cX4_renumber 33 = .ok (.iconst 0, 1) := by decide +kernel
theorem d_X4_renumberG_34 : decode cX4_renumber 34 = .ok (.istore_n 1, 1) := by decide +kernel
theorem d_X4_renumberG_35 : decode cX4_renumber 35 = .ok (.iload_n 1, 1) := by decide +kernel
theorem d_X4_renumberG_36 : decode cX4_renumber 36 = .ok (.aload_n 0, 1) := by decide +kernel
theorem d_X4_renumberG_37 : decode cX4_renumber 37 = .ok (.getfield 53, 3) := by decide +kernel
theorem d_X4_renumberG_40 : decode cX4_renumber 40 = .ok (.if_icmp .ge 76, 3) := by decide +kernel
theorem d_X4_renumberG_43 : decode cX4_renumber 43 = .ok (.aload_n 0, 1) := by decide +kernel
theorem d_X4_renumberG_44 : decode cX4_renumber 44 = .ok (.getfield 29, 3) := by decide +kernel
theorem d_X4_renumberG_47 : decode cX4_renumber 47 = .ok (.iload_n 1, 1) := by decide +kernel
theorem d_X4_renumberG_48 : decode cX4_renumber 48 = .ok (.aload_n 0, 1) := by decide +kernel
theorem d_X4_renumberG_49 : decode cX4_renumber 49 = .ok (.getfield 9, 3) := by decide +kernel
theorem d_X4_renumberG_52 : decode cX4_renumber 52 = .ok (.iastore, 1) := by decide +kernel
theorem d_X4_renumberG_53 : decode cX4_renumber 53 = .ok (.iconst 0, 1) := by decide +kernel
theorem d_X4_renumberG_54 : decode cX4_renumber 54 = .ok (.istore_n 2, 1) := by decide +kernel
theorem d_X4_renumberG_55 : decode cX4_renumber 55 = .ok (.iload_n 2, 1) := by decide +kernel
theorem d_X4_renumberG_56 : decode cX4_renumber 56 = .ok (.aload_n 0, 1) := by decide +kernel
theorem d_X4_renumberG_57 : decode cX4_renumber 57 = .ok (.getfield 26, 3) := by decide +kernel
theorem d_X4_renumberG_60 : decode cX4_renumber 60 = .ok (.iload_n 1, 1) := by decide +kernel
theorem d_X4_renumberG_61 : decode cX4_renumber 61 = .ok (.iaload, 1) := by decide +kernel
theorem d_X4_renumberG_62 : decode cX4_renumber 62 = .ok (.if_icmp .gt 48, 3) := by decide +kernel
theorem d_X4_renumberG_65 : decode cX4_renumber 65 = .ok (.aload_n 0, 1) := by decide +kernel
theorem d_X4_renumberG_66 : decode cX4_renumber 66 = .ok (.getfield 9, 3) := by decide +kernel
theorem d_X4_renumberG_69 : decode cX4_renumber 69 = .ok (.bipush 42, 2) := by decide +kernel
theorem d_X4_renumberG_71 : decode cX4_renumber 71 = .ok (.if_icmp .ge 39, 3) := by decide +kernel
theorem d_X4_renumberG_74 : decode cX4_renumber 74 = .ok (.aload_n 0, 1) := by decide +kernel
theorem d_X4_renumberG_75 : decode cX4_renumber 75 = .ok (.getfield 35, 3) := by decide +kernel
theorem d_X4_renumberG_78 : decode cX4_renumber 78 = .ok (.aload_n 0, 1) := by decide +kernel
theorem d_X4_renumberG_79 : decode cX4_renumber 79 = .ok (.getfield 9, 3) := by decide +kernel
theorem d_X4_renumberG_82 : decode cX4_renumber 82 = .ok (.iload_n 1, 1) := by decide +kernel
theorem d_X4_renumberG_83 : decode cX4_renumber 83 = .ok (.iastore, 1) := by decide +kernel
theorem d_X4_renumberG_84 : decode cX4_renumber 84 = .ok (.aload_n 0, 1) := by decide +kernel
theorem d_X4_renumberG_85 : decode cX4_renumber 85 = .ok (.getfield 38, 3) := by decide +kernel
theorem d_X4_renumberG_88 : decode cX4_renumber 88 = .ok (.aload_n 0, 1) := by decide +kernel
theorem d_X4_renumberG_89 : decode cX4_renumber 89 = .ok (.getfield 9, 3) := by decide +kernel
theorem d_X4_renumberG_92 : decode cX4_renumber 92 = .ok (.iload_n 2, 1) := by decide +kernel
theorem d_X4_renumberG_93 : decode cX4_renumber 93 = .ok (.iastore, 1) := by decide +kernel
theorem d_X4_renumberG_94 : decode cX4_renumber 94 = .ok (.aload_n 0, 1) := by decide +kernel
theorem d_X4_renumberG_95 : decode cX4_renumber 95 = .ok (.dup, 1) := by decide +kernel
theorem d_X4_renumberG_96 : decode cX4_renumber 96 = .ok (.getfield 9, 3) := by decide +kernel
theorem d_X4_renumberG_99 : decode cX4_renumber 99 = .ok (.iconst 1, 1) := by decide +kernel
theorem d_X4_renumberG_100 : decode cX4_renumber 100 = .ok (.iadd, 1) := by decide +kernel
theorem d_X4_renumberG_101 : decode cX4_renumber 101 = .ok (.putfield 9, 3) := by decide +kernel
theorem d_X4_renumberG_104 : decode cX4_renumber 104 = .ok (.iinc 2 1, 3) := by decide +kernel
theorem d_X4_renumberG_107 : decode cX4_renumber 107 = .ok (.goto (-52), 3) := by decide +kernel
theorem d_X4_renumberG_110 : decode cX4_renumber 110 = .ok (.iinc 1 1, 3) := by decide +kernel
theorem d_X4_renumberG_113 : decode cX4_renumber 113 = .ok (.goto (-78), 3) := by decide +kernel
theorem d_X4_renumberG_116 : decode cX4_renumber 116 = .ok (.iconst 0, 1) := by decide +kernel
theorem d_X4_renumberG_117 : decode cX4_renumber 117 = .ok (.istore_n 1, 1) := by decide +kernel
theorem d_X4_renumberG_118 : decode cX4_renumber 118 = .ok (.iload_n 1, 1) := by decide +kernel
theorem d_X4_renumberG_119 : decode cX4_renumber 119 = .ok (.bipush 42, 2) := by decide +kernel
theorem d_X4_renumberG_121 : decode cX4_renumber 121 = .ok (.if_icmp .ge 16, 3) := by decide +kernel
theorem d_X4_renumberG_124 : decode cX4_renumber 124 = .ok (.aload_n 0, 1) := by decide +kernel
theorem d_X4_renumberG_125 : decode cX4_renumber 125 = .ok (.getfield 41, 3) := by decide +kernel
theorem d_X4_renumberG_128 : decode cX4_renumber 128 = .ok (.iload_n 1, 1) := by decide +kernel
theorem d_X4_renumberG_129 : decode cX4_renumber 129 = .ok (.iload_n 1, 1) := by decide +kernel
theorem d_X4_renumberG_130 : decode cX4_renumber 130 = .ok (.iastore, 1) := by decide +kernel
theorem d_X4_renumberG_131 : decode cX4_renumber 131 = .ok (.iinc 1 1, 3) := by decide +kernel
theorem d_X4_renumberG_134 : decode cX4_renumber 134 = .ok (.goto (-16), 3) := by decide +kernel
theorem d_X4_renumberG_137 : decode cX4_renumber 137 = .ok (.return_, 1) := by decide +kernel
def k_X4_renumberG_0 (n : Nat) (P : xP) (C35 : xK) : xK := x_aload 0 (x_push (.int 2) (x_putI n 4 3 (x_aload 0 (x_getR n 4 11 (x_push (.int 0) (x_push (.int (-1)) (x_iast n (x_aload 0 (x_getR n 4 12 (x_push (.int 0) (x_push (.int (-1)) (x_iast n (x_aload 0 (x_getR n 4 11 (x_push (.int 1) (x_push (.int (-1)) (x_iast n (x_aload 0 (x_getR n 4 12 (x_push (.int 1) (x_push (.int (-1)) (x_iast n (x_push (.int 0) (x_istore 1 (C35)))))))))))))))))))))))))
set_option maxRecDepth 20000 in
theorem t_X4_renumberG_0 {n : Nat} {p : Program} {l : Launch} {e : Env} {s : State} {m : MethodId} {args : Array Value} {below : List Frame} {meth : Method} {c : Code} {g : xG} (X : xX p s m args c meth cX4_renumber RX4 3 g) (hr : meth.sig.returnType = none) {P : xP} {C35 : xK} (h35 : xAt p l e { frames := 0, cells := 0, slots := 0, locals := 0 } s m args below meth c g 3 xFF n 0 0 (MQ below (xQc g xFF n P) args s 0 0 (xFr g)) C35 35) : xAt p l e { frames := 0, cells := 0, slots := 0, locals := 0 } s m args below meth c g 3 xFF n 0 0 (MQ below (xQc g xFF n P) args s 0 0 (xFr g)) (k_X4_renumberG_0 n P C35) 0 := by
  unfold k_X4_renumberG_0
  refine r_aload_n (pc := 0) X d_X4_renumberG_0 fn0 ?_
  refine r_iconst (pc := 1) X d_X4_renumberG_1 (by decide +kernel) ?_
  refine r_putI (pc := 2) X xok4 (by decide +kernel) (by decide +kernel) (by decide +kernel) (by decide +kernel) fl_RX4_9 d_X4_renumberG_2 ?_
  refine r_aload_n (pc := 5) X d_X4_renumberG_5 fn0 ?_
  refine r_getR (pc := 6) X xok4 (by decide +kernel) (by decide +kernel) fl_RX4_35 d_X4_renumberG_6 ?_
  refine r_iconst (pc := 9) X d_X4_renumberG_9 (by decide +kernel) ?_
  refine r_iconst (pc := 10) X d_X4_renumberG_10 (by decide +kernel) ?_
  refine r_iast (pc := 11) X d_X4_renumberG_11 ?_
  refine r_aload_n (pc := 12) X d_X4_renumberG_12 fn0 ?_
  refine r_getR (pc := 13) X xok4 (by decide +kernel) (by decide +kernel) fl_RX4_38 d_X4_renumberG_13 ?_
  refine r_iconst (pc := 16) X d_X4_renumberG_16 (by decide +kernel) ?_
  refine r_iconst (pc := 17) X d_X4_renumberG_17 (by decide +kernel) ?_
  refine r_iast (pc := 18) X d_X4_renumberG_18 ?_
  refine r_aload_n (pc := 19) X d_X4_renumberG_19 fn0 ?_
  refine r_getR (pc := 20) X xok4 (by decide +kernel) (by decide +kernel) fl_RX4_35 d_X4_renumberG_20 ?_
  refine r_iconst (pc := 23) X d_X4_renumberG_23 (by decide +kernel) ?_
  refine r_iconst (pc := 24) X d_X4_renumberG_24 (by decide +kernel) ?_
  refine r_iast (pc := 25) X d_X4_renumberG_25 ?_
  refine r_aload_n (pc := 26) X d_X4_renumberG_26 fn0 ?_
  refine r_getR (pc := 27) X xok4 (by decide +kernel) (by decide +kernel) fl_RX4_38 d_X4_renumberG_27 ?_
  refine r_iconst (pc := 30) X d_X4_renumberG_30 (by decide +kernel) ?_
  refine r_iconst (pc := 31) X d_X4_renumberG_31 (by decide +kernel) ?_
  refine r_iast (pc := 32) X d_X4_renumberG_32 ?_
  refine r_iconst (pc := 33) X d_X4_renumberG_33 (by decide +kernel) ?_
  refine r_istore_n (pc := 34) X d_X4_renumberG_34 fn1 (by decide +kernel) ?_
  exact h35
def k_X4_renumberG_35 (n : Nat) (P : xP) (C55 : xK) (C118 : xK) : xK := x_iload 1 (x_aload 0 (x_getI n 4 2 (x_icmp_ge (x_push (.int 0) (x_istore 1 (C118))) (x_aload 0 (x_getR n 4 9 (x_iload 1 (x_aload 0 (x_getI n 4 3 (x_iast n (x_push (.int 0) (x_istore 2 (C55))))))))))))
set_option maxRecDepth 20000 in
theorem t_X4_renumberG_35 {n : Nat} {p : Program} {l : Launch} {e : Env} {s : State} {m : MethodId} {args : Array Value} {below : List Frame} {meth : Method} {c : Code} {g : xG} (X : xX p s m args c meth cX4_renumber RX4 3 g) (hr : meth.sig.returnType = none) {P : xP} {C55 : xK} {C118 : xK} (h55 : xAt p l e { frames := 0, cells := 0, slots := 0, locals := 0 } s m args below meth c g 3 xFF n 0 0 (MQ below (xQc g xFF n P) args s 0 0 (xFr g)) C55 55) (h118 : xAt p l e { frames := 0, cells := 0, slots := 0, locals := 0 } s m args below meth c g 3 xFF n 0 0 (MQ below (xQc g xFF n P) args s 0 0 (xFr g)) C118 118) : xAt p l e { frames := 0, cells := 0, slots := 0, locals := 0 } s m args below meth c g 3 xFF n 0 0 (MQ below (xQc g xFF n P) args s 0 0 (xFr g)) (k_X4_renumberG_35 n P C55 C118) 35 := by
  unfold k_X4_renumberG_35
  refine r_iload_n (pc := 35) X d_X4_renumberG_35 fn1 ?_
  refine r_aload_n (pc := 36) X d_X4_renumberG_36 fn0 ?_
  refine r_getI (pc := 37) X xok4 (by decide +kernel) (by decide +kernel) fl_RX4_53 d_X4_renumberG_37 ?_
  refine r_icmp_ge (pc := 40) (tgt := 116) X d_X4_renumberG_40 (by decide +kernel) ?_ ?_
  · refine r_iconst (pc := 116) X d_X4_renumberG_116 (by decide +kernel) ?_
    refine r_istore_n (pc := 117) X d_X4_renumberG_117 fn1 (by decide +kernel) ?_
    exact h118
  · refine r_aload_n (pc := 43) X d_X4_renumberG_43 fn0 ?_
    refine r_getR (pc := 44) X xok4 (by decide +kernel) (by decide +kernel) fl_RX4_29 d_X4_renumberG_44 ?_
    refine r_iload_n (pc := 47) X d_X4_renumberG_47 fn1 ?_
    refine r_aload_n (pc := 48) X d_X4_renumberG_48 fn0 ?_
    refine r_getI (pc := 49) X xok4 (by decide +kernel) (by decide +kernel) fl_RX4_9 d_X4_renumberG_49 ?_
    refine r_iast (pc := 52) X d_X4_renumberG_52 ?_
    refine r_iconst (pc := 53) X d_X4_renumberG_53 (by decide +kernel) ?_
    refine r_istore_n (pc := 54) X d_X4_renumberG_54 fn2 (by decide +kernel) ?_
    exact h55
def k_X4_renumberG_110 (n : Nat) (P : xP) (C35 : xK) : xK := x_iinc 1 1 (C35)
set_option maxRecDepth 20000 in
theorem t_X4_renumberG_110 {n : Nat} {p : Program} {l : Launch} {e : Env} {s : State} {m : MethodId} {args : Array Value} {below : List Frame} {meth : Method} {c : Code} {g : xG} (X : xX p s m args c meth cX4_renumber RX4 3 g) (hr : meth.sig.returnType = none) {P : xP} {C35 : xK} (h35 : xAt p l e { frames := 0, cells := 0, slots := 0, locals := 0 } s m args below meth c g 3 xFF n 0 0 (MQ below (xQc g xFF n P) args s 0 0 (xFr g)) C35 35) : xAt p l e { frames := 0, cells := 0, slots := 0, locals := 0 } s m args below meth c g 3 xFF n 0 0 (MQ below (xQc g xFF n P) args s 0 0 (xFr g)) (k_X4_renumberG_110 n P C35) 110 := by
  unfold k_X4_renumberG_110
  refine r_iinc (pc := 110) X d_X4_renumberG_110 (by decide +kernel) (by decide +kernel) ?_
  refine r_goto (pc := 113) (tgt := 35) X d_X4_renumberG_113 (by decide +kernel) ?_
  exact h35
def k_X4_renumberG_55 (n : Nat) (P : xP) (C35 : xK) (C55 : xK) : xK := x_iload 2 (x_aload 0 (x_getR n 4 8 (x_iload 1 (x_iald n (x_icmp_gt ((k_X4_renumberG_110 n P C35)) (x_aload 0 (x_getI n 4 3 (x_push (.int 42) (x_icmp_ge ((k_X4_renumberG_110 n P C35)) (x_aload 0 (x_getR n 4 11 (x_aload 0 (x_getI n 4 3 (x_iload 1 (x_iast n (x_aload 0 (x_getR n 4 12 (x_aload 0 (x_getI n 4 3 (x_iload 2 (x_iast n (x_aload 0 (x_dup (x_getI n 4 3 (x_push (.int 1) (x_iadd (x_putI n 4 3 (x_iinc 2 1 (C55)))))))))))))))))))))))))))))
set_option maxRecDepth 20000 in
theorem t_X4_renumberG_55 {n : Nat} {p : Program} {l : Launch} {e : Env} {s : State} {m : MethodId} {args : Array Value} {below : List Frame} {meth : Method} {c : Code} {g : xG} (X : xX p s m args c meth cX4_renumber RX4 3 g) (hr : meth.sig.returnType = none) {P : xP} {C35 : xK} {C55 : xK} (h35 : xAt p l e { frames := 0, cells := 0, slots := 0, locals := 0 } s m args below meth c g 3 xFF n 0 0 (MQ below (xQc g xFF n P) args s 0 0 (xFr g)) C35 35) (h55 : xAt p l e { frames := 0, cells := 0, slots := 0, locals := 0 } s m args below meth c g 3 xFF n 0 0 (MQ below (xQc g xFF n P) args s 0 0 (xFr g)) C55 55) : xAt p l e { frames := 0, cells := 0, slots := 0, locals := 0 } s m args below meth c g 3 xFF n 0 0 (MQ below (xQc g xFF n P) args s 0 0 (xFr g)) (k_X4_renumberG_55 n P C35 C55) 55 := by
  unfold k_X4_renumberG_55
  refine r_iload_n (pc := 55) X d_X4_renumberG_55 fn2 ?_
  refine r_aload_n (pc := 56) X d_X4_renumberG_56 fn0 ?_
  refine r_getR (pc := 57) X xok4 (by decide +kernel) (by decide +kernel) fl_RX4_26 d_X4_renumberG_57 ?_
  refine r_iload_n (pc := 60) X d_X4_renumberG_60 fn1 ?_
  refine r_iald (pc := 61) X d_X4_renumberG_61 ?_
  refine r_icmp_gt (pc := 62) (tgt := 110) X d_X4_renumberG_62 (by decide +kernel) ?_ ?_
  · exact t_X4_renumberG_110 X hr h35
  · refine r_aload_n (pc := 65) X d_X4_renumberG_65 fn0 ?_
    refine r_getI (pc := 66) X xok4 (by decide +kernel) (by decide +kernel) fl_RX4_9 d_X4_renumberG_66 ?_
    refine r_bipush (pc := 69) X d_X4_renumberG_69 (by decide +kernel) ?_
    refine r_icmp_ge (pc := 71) (tgt := 110) X d_X4_renumberG_71 (by decide +kernel) ?_ ?_
    · exact t_X4_renumberG_110 X hr h35
    · refine r_aload_n (pc := 74) X d_X4_renumberG_74 fn0 ?_
      refine r_getR (pc := 75) X xok4 (by decide +kernel) (by decide +kernel) fl_RX4_35 d_X4_renumberG_75 ?_
      refine r_aload_n (pc := 78) X d_X4_renumberG_78 fn0 ?_
      refine r_getI (pc := 79) X xok4 (by decide +kernel) (by decide +kernel) fl_RX4_9 d_X4_renumberG_79 ?_
      refine r_iload_n (pc := 82) X d_X4_renumberG_82 fn1 ?_
      refine r_iast (pc := 83) X d_X4_renumberG_83 ?_
      refine r_aload_n (pc := 84) X d_X4_renumberG_84 fn0 ?_
      refine r_getR (pc := 85) X xok4 (by decide +kernel) (by decide +kernel) fl_RX4_38 d_X4_renumberG_85 ?_
      refine r_aload_n (pc := 88) X d_X4_renumberG_88 fn0 ?_
      refine r_getI (pc := 89) X xok4 (by decide +kernel) (by decide +kernel) fl_RX4_9 d_X4_renumberG_89 ?_
      refine r_iload_n (pc := 92) X d_X4_renumberG_92 fn2 ?_
      refine r_iast (pc := 93) X d_X4_renumberG_93 ?_
      refine r_aload_n (pc := 94) X d_X4_renumberG_94 fn0 ?_
      refine r_dup (pc := 95) X d_X4_renumberG_95 ?_
      refine r_getI (pc := 96) X xok4 (by decide +kernel) (by decide +kernel) fl_RX4_9 d_X4_renumberG_96 ?_
      refine r_iconst (pc := 99) X d_X4_renumberG_99 (by decide +kernel) ?_
      refine r_iadd (pc := 100) X d_X4_renumberG_100 ?_
      refine r_putI (pc := 101) X xok4 (by decide +kernel) (by decide +kernel) (by decide +kernel) (by decide +kernel) fl_RX4_9 d_X4_renumberG_101 ?_
      refine r_iinc (pc := 104) X d_X4_renumberG_104 (by decide +kernel) (by decide +kernel) ?_
      refine r_goto (pc := 107) (tgt := 55) X d_X4_renumberG_107 (by decide +kernel) ?_
      exact h55
def k_X4_renumberG_118 (n : Nat) (P : xP) (C118 : xK) : xK := x_iload 1 (x_push (.int 42) (x_icmp_ge (x_vret P) (x_aload 0 (x_getR n 4 13 (x_iload 1 (x_iload 1 (x_iast n (x_iinc 1 1 (C118)))))))))
set_option maxRecDepth 20000 in
theorem t_X4_renumberG_118 {n : Nat} {p : Program} {l : Launch} {e : Env} {s : State} {m : MethodId} {args : Array Value} {below : List Frame} {meth : Method} {c : Code} {g : xG} (X : xX p s m args c meth cX4_renumber RX4 3 g) (hr : meth.sig.returnType = none) {P : xP} {C118 : xK} (h118 : xAt p l e { frames := 0, cells := 0, slots := 0, locals := 0 } s m args below meth c g 3 xFF n 0 0 (MQ below (xQc g xFF n P) args s 0 0 (xFr g)) C118 118) : xAt p l e { frames := 0, cells := 0, slots := 0, locals := 0 } s m args below meth c g 3 xFF n 0 0 (MQ below (xQc g xFF n P) args s 0 0 (xFr g)) (k_X4_renumberG_118 n P C118) 118 := by
  unfold k_X4_renumberG_118
  refine r_iload_n (pc := 118) X d_X4_renumberG_118 fn1 ?_
  refine r_bipush (pc := 119) X d_X4_renumberG_119 (by decide +kernel) ?_
  refine r_icmp_ge (pc := 121) (tgt := 137) X d_X4_renumberG_121 (by decide +kernel) ?_ ?_
  · exact r_vret (pc := 137) X hr d_X4_renumberG_137
  · refine r_aload_n (pc := 124) X d_X4_renumberG_124 fn0 ?_
    refine r_getR (pc := 125) X xok4 (by decide +kernel) (by decide +kernel) fl_RX4_41 d_X4_renumberG_125 ?_
    refine r_iload_n (pc := 128) X d_X4_renumberG_128 fn1 ?_
    refine r_iload_n (pc := 129) X d_X4_renumberG_129 fn1 ?_
    refine r_iast (pc := 130) X d_X4_renumberG_130 ?_
    refine r_iinc (pc := 131) X d_X4_renumberG_131 (by decide +kernel) (by decide +kernel) ?_
    refine r_goto (pc := 134) (tgt := 118) X d_X4_renumberG_134 (by decide +kernel) ?_
    exact h118
set_option maxRecDepth 20000 in
theorem m_X4_renumberG {l : Launch} {n : Nat} {f : Nat → xH → xP → Prop}  {I35 : Nat → xH → xP → xM → xK} {I55 : Nat → xH → xP → xM → xK} {I118 : Nat → xH → xP → xM → xK}
    (v0 : ∀ (a0 : Nat) (A : xH) (P : xP), f a0 A P → k_X4_renumberG_0 n P (xE (I35 a0 A P)) [some (.ref a0), none, none] [] A)
    (v35 : ∀ (a0 : Nat) (A : xH) (P : xP), f a0 A P → ∀ (μ : xM) (L : xL) (st : List Value) (B : xH), I35 a0 A P μ L st B → k_X4_renumberG_35 n P (xB (I55 a0 A P) μ) (xE (I118 a0 A P)) L st B)
    (v55 : ∀ (a0 : Nat) (A : xH) (P : xP), f a0 A P → ∀ (μ : xM) (L : xL) (st : List Value) (B : xH), I55 a0 A P μ L st B → k_X4_renumberG_55 n P (xB (I35 a0 A P) μ) (xB (I55 a0 A P) μ) L st B)
    (v118 : ∀ (a0 : Nat) (A : xH) (P : xP), f a0 A P → ∀ (μ : xM) (L : xL) (st : List Value) (B : xH), I118 a0 A P μ L st B → k_X4_renumberG_118 n P (xB (I118 a0 A P) μ) L st B) : xCon l yX4_renumber cX4_renumber 3 none 0 0 n n 0 xFF xFF (w_R f) := by
  refine xc_R (plainFor_of_name pn_RX4) (by decide +kernel) (fun p e s m args below meth c g a0 A P h X hr _ => ?_)
  rw [Nat.sub_self]
  have h118 := x_loop1 (p := p) (l := l) (e := e) (R := { frames := 0, cells := 0, slots := 0, locals := 0 }) (s := s) (m := m) (args := args) (below := below) (meth := meth) (c := c) (g := g) (nL := 3) (F := xFF) (n := n) (cells := 0) (slots := 0) (Q := MQ below (xQc g xFF n P) args s 0 0 (xFr g)) (I := I118 a0 A P) (pc1 := 118) (fun μ i118 => xAt_mono (t_X4_renumberG_118 (P := P) X hr i118) (v118 a0 A P h μ))
  obtain ⟨h35, h55⟩ := x_loop2 (p := p) (l := l) (e := e) (R := { frames := 0, cells := 0, slots := 0, locals := 0 }) (s := s) (m := m) (args := args) (below := below) (meth := meth) (c := c) (g := g) (nL := 3) (F := xFF) (n := n) (cells := 0) (slots := 0) (Q := MQ below (xQc g xFF n P) args s 0 0 (xFr g)) (I1 := I35 a0 A P) (I2 := I55 a0 A P) (pc1 := 35) (pc2 := 55) (fun μ i35 i55 => xAt_mono (t_X4_renumberG_35 (P := P) X hr i55 h118) (v35 a0 A P h μ)) (fun μ i35 i55 => xAt_mono (t_X4_renumberG_55 (P := P) X hr i35 i55) (v55 a0 A P h μ))
  exact ⟨_, v0 a0 A P h, t_X4_renumberG_0 X hr h35⟩

