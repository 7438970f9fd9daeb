theorem d_X12_keeps_0 : decode cX12_keeps 0 = .ok (.aload_n 0, 1) := by decide +kernel
theorem d_X12_keeps_1 : decode cX12_keeps 1 = .ok (.aload_n 0, 1) := by decide +kernel
theorem d_X12_keeps_2 : decode cX12_keeps 2 = .ok (.getfield 112, 3) := by decide +kernel
theorem d_X12_keeps_5 : decode cX12_keeps 5 = .ok (.invokevirtual 488, 3) := by decide +kernel
theorem d_X12_keeps_8 : decode cX12_keeps 8 = .ok (.aload_n 0, 1) := by decide +kernel
theorem d_X12_keeps_9 : decode cX12_keeps 9 = .ok (.aload_n 0, 1) := by decide +kernel
theorem d_X12_keeps_10 : decode cX12_keeps 10 = .ok (.getfield 112, 3) := by decide +kernel
theorem d_X12_keeps_13 : decode cX12_keeps 13 = .ok (.invokevirtual 492, 3) := by decide +kernel
theorem d_X12_keeps_16 : decode cX12_keeps 16 = .ok (.return_, 1) := by decide +kernel
def k_X12_keeps_0 (P : xP) : xK := x_aload 0 (x_aload 0 (y_getF 180 208 (y_cv1 180 (w_RR f_X12_copies) (x_aload 0 (x_aload 0 (y_getF 180 208 (y_cv1 180 (w_RR f_X12_stores) (x_vret P))))))))
set_option maxRecDepth 20000 in
theorem t_X12_keeps_0 {p : Program} {l : Launch} {e : Env} {s : State} {m : MethodId} {args : Array Value} {below : List Frame} {meth : Method} {c : Code} {g : xG} (X : xX p s m args c meth cX12_keeps RX12 1 g) (hr : meth.sig.returnType = none) {P : xP} : xAt p l e { frames := 1, cells := 0, slots := 0, locals := 22 } s m args below meth c g 1 xFT xN 0 0 (MQ below (xQc g xFT xN P) args s 0 0 (xFr g)) (k_X12_keeps_0 P) 0 := by
  unfold k_X12_keeps_0
  refine r_aload_n (pc := 0) X d_X12_keeps_0 fn0 ?_
  refine r_aload_n (pc := 1) X d_X12_keeps_1 fn0 ?_
  refine s_getF (pc := 2) (ci := 12) (k := 55) X xok12 (by decide +kernel) ob_180 trivial ly_180_55 (by decide +kernel) fl_RX12_112 d_X12_keeps_2 ?_
  refine s_cv1 (pc := 5) (ci := 12) X xok12 (by decide +kernel) ob_180 rfl (con_X12_copies l) mf_X12_copies ml_RX12_488 (by decide +kernel) (by decide +kernel) d_X12_keeps_5 ?_
  refine r_aload_n (pc := 8) X d_X12_keeps_8 fn0 ?_
  refine r_aload_n (pc := 9) X d_X12_keeps_9 fn0 ?_
  refine s_getF (pc := 10) (ci := 12) (k := 55) X xok12 (by decide +kernel) ob_180 trivial ly_180_55 (by decide +kernel) fl_RX12_112 d_X12_keeps_10 ?_
  refine s_cv1 (pc := 13) (ci := 12) X xok12 (by decide +kernel) ob_180 rfl (con_X12_stores l) mf_X12_stores ml_RX12_492 (by decide +kernel) (by decide +kernel) d_X12_keeps_13 ?_
  exact r_vret (pc := 16) X hr d_X12_keeps_16
def f_X12_keeps (a0 : Nat) (A : xH) (P : xP) : Prop := k_X12_keeps_0 P [some (.ref a0)] [] A
set_option maxRecDepth 20000 in
theorem con_X12_keeps (l : Launch) : xCon l yX12_keeps cX12_keeps 1 none 1 22 xN xN 0 xFT xFT (w_R f_X12_keeps) :=
  xc_R (plainFor_of_name pn_RX12) (by decide +kernel) (fun p e s m args below meth c g a0 A P h X hr _ => ⟨_, h, t_X12_keeps_0 X hr⟩)
theorem d_X12_merges_0 : decode cX12_merges 0 = .ok (.aload_n 0, 1) := by decide +kernel
theorem d_X12_merges_1 : decode cX12_merges 1 = .ok (.getfield 30, 3) := by decide +kernel
theorem d_X12_merges_4 : decode cX12_merges 4 = .ok (.bipush 54, 2) := by decide +kernel
theorem d_X12_merges_6 : decode cX12_merges 6 = .ok (.iload_n 1, 1) := by decide +kernel
theorem d_X12_merges_7 : decode cX12_merges 7 = .ok (.iadd, 1) := by decide +kernel
theorem d_X12_merges_8 : decode cX12_merges 8 = .ok (.iaload, 1) := by decide +kernel
theorem d_X12_merges_9 : decode cX12_merges 9 = .ok (.istore_n 3, 1) := by decide +kernel
theorem d_X12_merges_10 : decode cX12_merges 10 = .ok (.aload_n 0, 1) := by decide +kernel
theorem d_X12_merges_11 : decode cX12_merges 11 = .ok (.getfield 30, 3) := by decide +kernel
theorem d_X12_merges_14 : decode cX12_merges 14 = .ok (.bipush 54, 2) := by decide +kernel
theorem d_X12_merges_16 : decode cX12_merges 16 = .ok (.iload_n 2, 1) := by decide +kernel
theorem d_X12_merges_17 : decode cX12_merges 17 = .ok (.iadd, 1) := by decide +kernel
theorem d_X12_merges_18 : decode cX12_merges 18 = .ok (.iaload, 1) := by decide +kernel
theorem d_X12_merges_19 : decode cX12_merges 19 = .ok (.istore 4, 2) := by decide +kernel
theorem d_X12_merges_21 : decode cX12_merges 21 = .ok (.iload_n 3, 1) := by decide +kernel
theorem d_X12_merges_22 : decode cX12_merges 22 = .ok (.iload 4, 2) := by decide +kernel
theorem d_X12_merges_24 : decode cX12_merges 24 = .ok (.if_icmp .ne 5, 3) := by decide +kernel
theorem d_X12_merges_27 : decode cX12_merges 27 = .ok (.iconst 1, 1) := by decide +kernel
theorem d_X12_merges_28 : decode cX12_merges 28 = .ok (.ireturn, 1) := by decide +kernel
theorem d_X12_merges_29 : decode cX12_merges 29 = .ok (.iload_n 3, 1) := by decide +kernel
theorem d_X12_merges_30 : decode cX12_merges 30 = .ok (.iload 4, 2) := by decide +kernel
theorem d_X12_merges_32 : decode cX12_merges 32 = .ok (.if_icmp .ge 7, 3) := by decide +kernel
theorem d_X12_merges_35 : decode cX12_merges 35 = .ok (.iload_n 3, 1) := by decide +kernel
theorem d_X12_merges_36 : decode cX12_merges 36 = .ok (.goto 5, 3) := by decide +kernel
theorem d_X12_merges_39 : decode cX12_merges 39 = .ok (.iload 4, 2) := by decide +kernel
theorem d_X12_merges_41 : decode cX12_merges 41 = .ok (.istore 5, 2) := by decide +kernel
theorem d_X12_merges_43 : decode cX12_merges 43 = .ok (.iconst 2, 1) := by decide +kernel
theorem d_X12_merges_44 : decode cX12_merges 44 = .ok (.istore 6, 2) := by decide +kernel
theorem d_X12_merges_46 : decode cX12_merges 46 = .ok (.iload 6, 2) := by decide +kernel
theorem d_X12_merges_48 : decode cX12_merges 48 = .ok (.bipush 42, 2) := by decide +kernel
theorem d_X12_merges_50 : decode cX12_merges 50 = .ok (.if_icmp .ge 50, 3) := by decide +kernel
theorem d_X12_merges_53 : decode cX12_merges 53 = .ok (.aload_n 0, 1) := by decide +kernel
theorem d_X12_merges_54 : decode cX12_merges 54 = .ok (.getfield 30, 3) := by decide +kernel
theorem d_X12_merges_57 : decode cX12_merges 57 = .ok (.bipush 54, 2) := by decide +kernel
theorem d_X12_merges_59 : decode cX12_merges 59 = .ok (.iload 6, 2) := by decide +kernel
theorem d_X12_merges_61 : decode cX12_merges 61 = .ok (.iadd, 1) := by decide +kernel
theorem d_X12_merges_62 : decode cX12_merges 62 = .ok (.iaload, 1) := by decide +kernel
theorem d_X12_merges_63 : decode cX12_merges 63 = .ok (.iload_n 3, 1) := by decide +kernel
theorem d_X12_merges_64 : decode cX12_merges 64 = .ok (.if_icmp .eq 18, 3) := by decide +kernel
theorem d_X12_merges_67 : decode cX12_merges 67 = .ok (.aload_n 0, 1) := by decide +kernel
theorem d_X12_merges_68 : decode cX12_merges 68 = .ok (.getfield 30, 3) := by decide +kernel
theorem d_X12_merges_71 : decode cX12_merges 71 = .ok (.bipush 54, 2) := by decide +kernel
theorem d_X12_merges_73 : decode cX12_merges 73 = .ok (.iload 6, 2) := by decide +kernel
theorem d_X12_merges_75 : decode cX12_merges 75 = .ok (.iadd, 1) := by decide +kernel
theorem d_X12_merges_76 : decode cX12_merges 76 = .ok (.iaload, 1) := by decide +kernel
theorem d_X12_merges_77 : decode cX12_merges 77 = .ok (.iload 4, 2) := by decide +kernel
theorem d_X12_merges_79 : decode cX12_merges 79 = .ok (.if_icmp .ne 15, 3) := by decide +kernel
theorem d_X12_merges_82 : decode cX12_merges 82 = .ok (.aload_n 0, 1) := by decide +kernel
theorem d_X12_merges_83 : decode cX12_merges 83 = .ok (.getfield 30, 3) := by decide +kernel
theorem d_X12_merges_86 : decode cX12_merges 86 = .ok (.bipush 54, 2) := by decide +kernel
theorem d_X12_merges_88 : decode cX12_merges 88 = .ok (.iload 6, 2) := by decide +kernel
theorem d_X12_merges_90 : decode cX12_merges 90 = .ok (.iadd, 1) := by decide +kernel
theorem d_X12_merges_91 : decode cX12_merges 91 = .ok (.iload 5, 2) := by decide +kernel
theorem d_X12_merges_93 : decode cX12_merges 93 = .ok (.iastore, 1) := by decide +kernel
theorem d_X12_merges_94 : decode cX12_merges 94 = .ok (.iinc 6 1, 3) := by decide +kernel
theorem d_X12_merges_97 : decode cX12_merges 97 = .ok (.goto (-51), 3) := by decide +kernel
theorem d_X12_merges_100 : decode cX12_merges 100 = .ok (.aload_n 0, 1) := by decide +kernel
theorem d_X12_merges_101 : decode cX12_merges 101 = .ok (.invokevirtual 325, 3) := by decide +kernel
theorem d_X12_merges_104 : decode cX12_merges 104 = .ok (.iconst 0, 1) := by decide +kernel
theorem d_X12_merges_105 : decode cX12_merges 105 = .ok (.ireturn, 1) := by decide +kernel
def k_X12_merges_41 (P : xP) (C46 : xK) : xK := x_istore 5 (x_push (.int 2) (x_istore 6 (C46)))
set_option maxRecDepth 20000 in
theorem t_X12_merges_41 {p : Program} {l : Launch} {e : Env} {s : State} {m : MethodId} {args : Array Value} {below : List Frame} {meth : Method} {c : Code} {g : xG} (X : xX p s m args c meth cX12_merges RX12 7 g) (hr : meth.sig.returnType = (some .int)) {P : xP} {C46 : xK} (h46 : xAt p l e { frames := 1, cells := 0, slots := 0, locals := 20 } s m args below meth c g 7 xFT xN 0 0 (MQ below (xQc g xFT xN P) args s 0 0 (xFr g)) C46 46) : xAt p l e { frames := 1, cells := 0, slots := 0, locals := 20 } s m args below meth c g 7 xFT xN 0 0 (MQ below (xQc g xFT xN P) args s 0 0 (xFr g)) (k_X12_merges_41 P C46) 41 := by
  unfold k_X12_merges_41
  refine r_istore (pc := 41) X d_X12_merges_41 (by decide +kernel) ?_
  refine r_iconst (pc := 43) X d_X12_merges_43 (by decide +kernel) ?_
  refine r_istore (pc := 44) X d_X12_merges_44 (by decide +kernel) ?_
  exact h46
def k_X12_merges_0 (P : xP) (C46 : xK) : xK := x_aload 0 (y_getF 180 182 (x_push (.int 54) (x_iload 1 (x_iadd (y_iald 182 232 (x_istore 3 (x_aload 0 (y_getF 180 182 (x_push (.int 54) (x_iload 2 (x_iadd (y_iald 182 232 (x_istore 4 (x_iload 3 (x_iload 4 (x_icmp_ne (x_iload 3 (x_iload 4 (x_icmp_ge (x_iload 4 ((k_X12_merges_41 P C46))) (x_iload 3 ((k_X12_merges_41 P C46)))))) (x_push (.int 1) (x_iret P))))))))))))))))))
set_option maxRecDepth 20000 in
theorem t_X12_merges_0 {p : Program} {l : Launch} {e : Env} {s : State} {m : MethodId} {args : Array Value} {below : List Frame} {meth : Method} {c : Code} {g : xG} (X : xX p s m args c meth cX12_merges RX12 7 g) (hr : meth.sig.returnType = (some .int)) {P : xP} {C46 : xK} (h46 : xAt p l e { frames := 1, cells := 0, slots := 0, locals := 20 } s m args below meth c g 7 xFT xN 0 0 (MQ below (xQc g xFT xN P) args s 0 0 (xFr g)) C46 46) : xAt p l e { frames := 1, cells := 0, slots := 0, locals := 20 } s m args below meth c g 7 xFT xN 0 0 (MQ below (xQc g xFT xN P) args s 0 0 (xFr g)) (k_X12_merges_0 P C46) 0 := by
  unfold k_X12_merges_0
  refine r_aload_n (pc := 0) X d_X12_merges_0 fn0 ?_
  refine s_getF (pc := 1) (ci := 12) (k := 5) X xok12 (by decide +kernel) ob_180 trivial ly_180_5 (by decide +kernel) fl_RX12_30 d_X12_merges_1 ?_
  refine r_bipush (pc := 4) X d_X12_merges_4 (by decide +kernel) ?_
  refine r_iload_n (pc := 6) X d_X12_merges_6 fn1 ?_
  refine r_iadd (pc := 7) X d_X12_merges_7 ?_
  refine s_iald (pc := 8) X tn_182 ln_182 d_X12_merges_8 ?_
  refine r_istore_n (pc := 9) X d_X12_merges_9 fn3 (by decide +kernel) ?_
  refine r_aload_n (pc := 10) X d_X12_merges_10 fn0 ?_
  refine s_getF (pc := 11) (ci := 12) (k := 5) X xok12 (by decide +kernel) ob_180 trivial ly_180_5 (by decide +kernel) fl_RX12_30 d_X12_merges_11 ?_
  refine r_bipush (pc := 14) X d_X12_merges_14 (by decide +kernel) ?_
  refine r_iload_n (pc := 16) X d_X12_merges_16 fn2 ?_
  refine r_iadd (pc := 17) X d_X12_merges_17 ?_
  refine s_iald (pc := 18) X tn_182 ln_182 d_X12_merges_18 ?_
  refine r_istore (pc := 19) X d_X12_merges_19 (by decide +kernel) ?_
  refine r_iload_n (pc := 21) X d_X12_merges_21 fn3 ?_
  refine r_iload (pc := 22) X d_X12_merges_22 ?_
  refine r_icmp_ne (pc := 24) (tgt := 29) X d_X12_merges_24 (by decide +kernel) ?_ ?_
  · refine r_iload_n (pc := 29) X d_X12_merges_29 fn3 ?_
    refine r_iload (pc := 30) X d_X12_merges_30 ?_
    refine r_icmp_ge (pc := 32) (tgt := 39) X d_X12_merges_32 (by decide +kernel) ?_ ?_
    · refine r_iload (pc := 39) X d_X12_merges_39 ?_
      exact t_X12_merges_41 X hr h46
    · refine r_iload_n (pc := 35) X d_X12_merges_35 fn3 ?_
      refine r_goto (pc := 36) (tgt := 41) X d_X12_merges_36 (by decide +kernel) ?_
      exact t_X12_merges_41 X hr h46
  · refine r_iconst (pc := 27) X d_X12_merges_27 (by decide +kernel) ?_
    exact r_iret (pc := 28) X hr d_X12_merges_28
def k_X12_merges_94 (P : xP) (C46 : xK) : xK := x_iinc 6 1 (C46)
set_option maxRecDepth 20000 in
theorem t_X12_merges_94 {p : Program} {l : Launch} {e : Env} {s : State} {m : MethodId} {args : Array Value} {below : List Frame} {meth : Method} {c : Code} {g : xG} (X : xX p s m args c meth cX12_merges RX12 7 g) (hr : meth.sig.returnType = (some .int)) {P : xP} {C46 : xK} (h46 : xAt p l e { frames := 1, cells := 0, slots := 0, locals := 20 } s m args below meth c g 7 xFT xN 0 0 (MQ below (xQc g xFT xN P) args s 0 0 (xFr g)) C46 46) : xAt p l e { frames := 1, cells := 0, slots := 0, locals := 20 } s m args below meth c g 7 xFT xN 0 0 (MQ below (xQc g xFT xN P) args s 0 0 (xFr g)) (k_X12_merges_94 P C46) 94 := by
  unfold k_X12_merges_94
  refine r_iinc (pc := 94) X d_X12_merges_94 (by decide +kernel) (by decide +kernel) ?_
  refine r_goto (pc := 97) (tgt := 46) X d_X12_merges_97 (by decide +kernel) ?_
  exact h46
def k_X12_merges_82 (P : xP) (C46 : xK) : xK := x_aload 0 (y_getF 180 182 (x_push (.int 54) (x_iload 6 (x_iadd (x_iload 5 (y_iast 182 232 ((k_X12_merges_94 P C46))))))))
set_option maxRecDepth 20000 in
theorem t_X12_merges_82 {p : Program} {l : Launch} {e : Env} {s : State} {m : MethodId} {args : Array Value} {below : List Frame} {meth : Method} {c : Code} {g : xG} (X : xX p s m args c meth cX12_merges RX12 7 g) (hr : meth.sig.returnType = (some .int)) {P : xP} {C46 : xK} (h46 : xAt p l e { frames := 1, cells := 0, slots := 0, locals := 20 } s m args below meth c g 7 xFT xN 0 0 (MQ below (xQc g xFT xN P) args s 0 0 (xFr g)) C46 46) : xAt p l e { frames := 1, cells := 0, slots := 0, locals := 20 } s m args below meth c g 7 xFT xN 0 0 (MQ below (xQc g xFT xN P) args s 0 0 (xFr g)) (k_X12_merges_82 P C46) 82 := by
  unfold k_X12_merges_82
  refine r_aload_n (pc := 82) X d_X12_merges_82 fn0 ?_
  refine s_getF (pc := 83) (ci := 12) (k := 5) X xok12 (by decide +kernel) ob_180 trivial ly_180_5 (by decide +kernel) fl_RX12_30 d_X12_merges_83 ?_
  refine r_bipush (pc := 86) X d_X12_merges_86 (by decide +kernel) ?_
  refine r_iload (pc := 88) X d_X12_merges_88 ?_
  refine r_iadd (pc := 90) X d_X12_merges_90 ?_
  refine r_iload (pc := 91) X d_X12_merges_91 ?_
  refine s_iast (pc := 93) X tn_182 ln_182 d_X12_merges_93 ?_
  exact t_X12_merges_94 X hr h46
def k_X12_merges_46 (P : xP) (C46 : xK) : xK := x_iload 6 (x_push (.int 42) (x_icmp_ge (x_aload 0 (y_cv0 180 (w_R f_X12_other) (x_push (.int 0) (x_iret P)))) (x_aload 0 (y_getF 180 182 (x_push (.int 54) (x_iload 6 (x_iadd (y_iald 182 232 (x_iload 3 (x_icmp_eq ((k_X12_merges_82 P C46)) (x_aload 0 (y_getF 180 182 (x_push (.int 54) (x_iload 6 (x_iadd (y_iald 182 232 (x_iload 4 (x_icmp_ne ((k_X12_merges_94 P C46)) ((k_X12_merges_82 P C46))))))))))))))))))))
set_option maxRecDepth 20000 in
theorem t_X12_merges_46 {p : Program} {l : Launch} {e : Env} {s : State} {m : MethodId} {args : Array Value} {below : List Frame} {meth : Method} {c : Code} {g : xG} (X : xX p s m args c meth cX12_merges RX12 7 g) (hr : meth.sig.returnType = (some .int)) {P : xP} {C46 : xK} (h46 : xAt p l e { frames := 1, cells := 0, slots := 0, locals := 20 } s m args below meth c g 7 xFT xN 0 0 (MQ below (xQc g xFT xN P) args s 0 0 (xFr g)) C46 46) : xAt p l e { frames := 1, cells := 0, slots := 0, locals := 20 } s m args below meth c g 7 xFT xN 0 0 (MQ below (xQc g xFT xN P) args s 0 0 (xFr g)) (k_X12_merges_46 P C46) 46 := by
  unfold k_X12_merges_46
  refine r_iload (pc := 46) X d_X12_merges_46 ?_
  refine r_bipush (pc := 48) X d_X12_merges_48 (by decide +kernel) ?_
  refine r_icmp_ge (pc := 50) (tgt := 100) X d_X12_merges_50 (by decide +kernel) ?_ ?_
  · refine r_aload_n (pc := 100) X d_X12_merges_100 fn0 ?_
    refine s_cv0 (pc := 101) (ci := 12) X xok12 (by decide +kernel) ob_180 rfl (con_X12_other l) mf_X12_other ml_RX12_325 (by decide +kernel) (by decide +kernel) d_X12_merges_101 ?_
    refine r_iconst (pc := 104) X d_X12_merges_104 (by decide +kernel) ?_
    exact r_iret (pc := 105) X hr d_X12_merges_105
  · refine r_aload_n (pc := 53) X d_X12_merges_53 fn0 ?_
    refine s_getF (pc := 54) (ci := 12) (k := 5) X xok12 (by decide +kernel) ob_180 trivial ly_180_5 (by decide +kernel) fl_RX12_30 d_X12_merges_54 ?_
    refine r_bipush (pc := 57) X d_X12_merges_57 (by decide +kernel) ?_
    refine r_iload (pc := 59) X d_X12_merges_59 ?_
    refine r_iadd (pc := 61) X d_X12_merges_61 ?_
    refine s_iald (pc := 62) X tn_182 ln_182 d_X12_merges_62 ?_
    refine r_iload_n (pc := 63) X d_X12_merges_63 fn3 ?_
    refine r_icmp_eq (pc := 64) (tgt := 82) X d_X12_merges_64 (by decide +kernel) ?_ ?_
    · exact t_X12_merges_82 X hr h46
    · refine r_aload_n (pc := 67) X d_X12_merges_67 fn0 ?_
      refine s_getF (pc := 68) (ci := 12) (k := 5) X xok12 (by decide +kernel) ob_180 trivial ly_180_5 (by decide +kernel) fl_RX12_30 d_X12_merges_68 ?_
      refine r_bipush (pc := 71) X d_X12_merges_71 (by decide +kernel) ?_
      refine r_iload (pc := 73) X d_X12_merges_73 ?_
      refine r_iadd (pc := 75) X d_X12_merges_75 ?_
      refine s_iald (pc := 76) X tn_182 ln_182 d_X12_merges_76 ?_
      refine r_iload (pc := 77) X d_X12_merges_77 ?_
      refine r_icmp_ne (pc := 79) (tgt := 94) X d_X12_merges_79 (by decide +kernel) ?_ ?_
      · exact t_X12_merges_94 X hr h46
      · exact t_X12_merges_82 X hr h46
set_option maxRecDepth 20000 in
theorem m_X12_merges {l : Launch} {f : Nat → Int32 → Int32 → xH → xP → Prop}  {I46 : Nat → Int32 → Int32 → xH → xP → xM → xK}
    (v0 : ∀ (a0 : Nat) (a1 : Int32) (a2 : Int32) (A : xH) (P : xP), f a0 a1 a2 A P → k_X12_merges_0 P (xE (I46 a0 a1 a2 A P)) [some (.ref a0), some (.int a1), some (.int a2), none, none, none, none] [] A)
    (v46 : ∀ (a0 : Nat) (a1 : Int32) (a2 : Int32) (A : xH) (P : xP), f a0 a1 a2 A P → ∀ (μ : xM) (L : xL) (st : List Value) (B : xH), I46 a0 a1 a2 A P μ L st B → k_X12_merges_46 P (xB (I46 a0 a1 a2 A P) μ) L st B) : xCon l yX12_merges cX12_merges 7 (some .int) 1 20 xN xN 0 xFT xFT (w_RII f) := by
  refine xc_RII (plainFor_of_name pn_RX12) (by decide +kernel) (fun p e s m args below meth c g a0 a1 a2 A P h X hr _ => ?_)
  have h46 := x_loop1 (p := p) (l := l) (e := e) (R := { frames := 1, cells := 0, slots := 0, locals := 20 }) (s := s) (m := m) (args := args) (below := below) (meth := meth) (c := c) (g := g) (nL := 7) (F := xFT) (n := xN) (cells := 0) (slots := 0) (Q := MQ below (xQc g xFT xN P) args s 0 0 (xFr g)) (I := I46 a0 a1 a2 A P) (pc1 := 46) (fun μ i46 => xAt_mono (t_X12_merges_46 (P := P) X hr i46) (v46 a0 a1 a2 A P h μ))
  exact ⟨_, v0 a0 a1 a2 A P h, t_X12_merges_0 X hr h46⟩
theorem d_X12_drops_0 : decode cX12_drops 0 = .ok (.iload_n 1, 1) := by decide +kernel
theorem d_X12_drops_1 : decode cX12_drops 1 = .ok (.istore_n 2, 1) := by decide +kernel
theorem d_X12_drops_2 : decode cX12_drops 2 = .ok (.iload_n 2, 1) := by decide +kernel
theorem d_X12_drops_3 : decode cX12_drops 3 = .ok (.aload_n 0, 1) := by decide +kernel
theorem d_X12_drops_4 : decode cX12_drops 4 = .ok (.getfield 30, 3) := by decide +kernel
theorem d_X12_drops_7 : decode cX12_drops 7 = .ok (.iconst 2, 1) := by decide +kernel
theorem d_X12_drops_8 : decode cX12_drops 8 = .ok (.iaload, 1) := by decide +kernel
theorem d_X12_drops_9 : decode cX12_drops 9 = .ok (.iconst 1, 1) := by decide +kernel
theorem d_X12_drops_10 : decode cX12_drops 10 = .ok (.isub, 1) := by decide +kernel
theorem d_X12_drops_11 : decode cX12_drops 11 = .ok (.if_icmp .ge 48, 3) := by decide +kernel
theorem d_X12_drops_14 : decode cX12_drops 14 = .ok (.iconst 0, 1) := by decide +kernel
theorem d_X12_drops_15 : decode cX12_drops 15 = .ok (.istore_n 3, 1) := by decide +kernel
theorem d_X12_drops_16 : decode cX12_drops 16 = .ok (.iload_n 3, 1) := by decide +kernel
theorem d_X12_drops_17 : decode cX12_drops 17 = .ok (.iconst 5, 1) := by decide +kernel
theorem d_X12_drops_18 : decode cX12_drops 18 = .ok (.if_icmp .ge 35, 3) := by decide +kernel
theorem d_X12_drops_21 : decode cX12_drops 21 = .ok (.aload_n 0, 1) := by decide +kernel
theorem d_X12_drops_22 : decode cX12_drops 22 = .ok (.getfield 30, 3) := by decide +kernel
theorem d_X12_drops_25 : decode cX12_drops 25 = .ok (.iconst 4, 1) := by decide +kernel
theorem d_X12_drops_26 : decode cX12_drops 26 = .ok (.iconst 5, 1) := by decide +kernel
theorem d_X12_drops_27 : decode cX12_drops 27 = .ok (.iload_n 2, 1) := by decide +kernel
theorem d_X12_drops_28 : decode cX12_drops 28 = .ok (.imul, 1) := by decide +kernel
theorem d_X12_drops_29 : decode cX12_drops 29 = .ok (.iadd, 1) := by decide +kernel
theorem d_X12_drops_30 : decode cX12_drops 30 = .ok (.iload_n 3, 1) := by decide +kernel
theorem d_X12_drops_31 : decode cX12_drops 31 = .ok (.iadd, 1) := by decide +kernel
theorem d_X12_drops_32 : decode cX12_drops 32 = .ok (.aload_n 0, 1) := by decide +kernel
theorem d_X12_drops_33 : decode cX12_drops 33 = .ok (.getfield 30, 3) := by decide +kernel
theorem d_X12_drops_36 : decode cX12_drops 36 = .ok (.iconst 4, 1) := by decide +kernel
theorem d_X12_drops_37 : decode cX12_drops 37 = .ok (.iconst 5, 1) := by decide +kernel
theorem d_X12_drops_38 : decode cX12_drops 38 = .ok (.iload_n 2, 1) := by decide +kernel
theorem d_X12_drops_39 : decode cX12_drops 39 = .ok (.imul, 1) := by decide +kernel
theorem d_X12_drops_40 : decode cX12_drops 40 = .ok (.iadd, 1) := by decide +kernel
theorem d_X12_drops_41 : decode cX12_drops 41 = .ok (.iconst 5, 1) := by decide +kernel
theorem d_X12_drops_42 : decode cX12_drops 42 = .ok (.iadd, 1) := by decide +kernel
theorem d_X12_drops_43 : decode cX12_drops 43 = .ok (.iload_n 3, 1) := by decide +kernel
theorem d_X12_drops_44 : decode cX12_drops 44 = .ok (.iadd, 1) := by decide +kernel
theorem d_X12_drops_45 : decode cX12_drops 45 = .ok (.iaload, 1) := by decide +kernel
theorem d_X12_drops_46 : decode cX12_drops 46 = .ok (.iastore, 1) := by decide +kernel
theorem d_X12_drops_47 : decode cX12_drops 47 = .ok (.iinc 3 1, 3) := by decide +kernel
theorem d_X12_drops_50 : decode cX12_drops 50 = .ok (.goto (-34), 3) := by decide +kernel
theorem d_X12_drops_53 : decode cX12_drops 53 = .ok (.iinc 2 1, 3) := by decide +kernel
theorem d_X12_drops_56 : decode cX12_drops 56 = .ok (.goto (-54), 3) := by decide +kernel
theorem d_X12_drops_59 : decode cX12_drops 59 = .ok (.aload_n 0, 1) := by decide +kernel
theorem d_X12_drops_60 : decode cX12_drops 60 = .ok (.getfield 30, 3) := by decide +kernel
theorem d_X12_drops_63 : decode cX12_drops 63 = .ok (.iconst 2, 1) := by decide +kernel
theorem d_X12_drops_64 : decode cX12_drops 64 = .ok (.dup2, 1) := by decide +kernel
theorem d_X12_drops_65 : decode cX12_drops 65 = .ok (.iaload, 1) := by decide +kernel
theorem d_X12_drops_66 : decode cX12_drops 66 = .ok (.iconst 1, 1) := by decide +kernel
theorem d_X12_drops_67 : decode cX12_drops 67 = .ok (.isub, 1) := by decide +kernel
theorem d_X12_drops_68 : decode cX12_drops 68 = .ok (.iastore, 1) := by decide +kernel
theorem d_X12_drops_69 : decode cX12_drops 69 = .ok (.iconst 0, 1) := by decide +kernel
theorem d_X12_drops_70 : decode cX12_drops 70 = .ok (.istore_n 2, 1) := by decide +kernel
theorem d_X12_drops_71 : decode cX12_drops 71 = .ok (.iload_n 2, 1) := by decide +kernel
theorem d_X12_drops_72 : decode cX12_drops 72 = .ok (.iconst 5, 1) := by decide +kernel
theorem d_X12_drops_73 : decode cX12_drops 73 = .ok (.if_icmp .ge 27, 3) := by decide +kernel
theorem d_X12_drops_76 : decode cX12_drops 76 = .ok (.aload_n 0, 1) := by decide +kernel
theorem d_X12_drops_77 : decode cX12_drops 77 = .ok (.getfield 30, 3) := by decide +kernel
theorem d_X12_drops_80 : decode cX12_drops 80 = .ok (.iconst 4, 1) := by decide +kernel
theorem d_X12_drops_81 : decode cX12_drops 81 = .ok (.iconst 5, 1) := by decide +kernel
theorem d_X12_drops_82 : decode cX12_drops 82 = .ok (.aload_n 0, 1) := by decide +kernel
theorem d_X12_drops_83 : decode cX12_drops 83 = .ok (.getfield 30, 3) := by decide +kernel
theorem d_X12_drops_86 : decode cX12_drops 86 = .ok (.iconst 2, 1) := by decide +kernel
theorem d_X12_drops_87 : decode cX12_drops 87 = .ok (.iaload, 1) := by decide +kernel
theorem d_X12_drops_88 : decode cX12_drops 88 = .ok (.imul, 1) := by decide +kernel
theorem d_X12_drops_89 : decode cX12_drops 89 = .ok (.iadd, 1) := by decide +kernel
theorem d_X12_drops_90 : decode cX12_drops 90 = .ok (.iload_n 2, 1) := by decide +kernel
theorem d_X12_drops_91 : decode cX12_drops 91 = .ok (.iadd, 1) := by decide +kernel
theorem d_X12_drops_92 : decode cX12_drops 92 = .ok (.iconst 0, 1) := by decide +kernel
theorem d_X12_drops_93 : decode cX12_drops 93 = .ok (.iastore, 1) := by decide +kernel
theorem d_X12_drops_94 : decode cX12_drops 94 = .ok (.iinc 2 1, 3) := by decide +kernel
theorem d_X12_drops_97 : decode cX12_drops 97 = .ok (.goto (-26), 3) := by decide +kernel
theorem d_X12_drops_100 : decode cX12_drops 100 = .ok (.aload_n 0, 1) := by decide +kernel
theorem d_X12_drops_101 : decode cX12_drops 101 = .ok (.invokevirtual 306, 3) := by decide +kernel
theorem d_X12_drops_104 : decode cX12_drops 104 = .ok (.return_, 1) := by decide +kernel
def k_X12_drops_0 (P : xP) (C2 : xK) : xK := x_iload 1 (x_istore 2 (C2))
set_option maxRecDepth 20000 in
theorem t_X12_drops_0 {p : Program} {l : Launch} {e : Env} {s : State} {m : MethodId} {args : Array Value} {below : List Frame} {meth : Method} {c : Code} {g : xG} (X : xX p s m args c meth cX12_drops RX12 4 g) (hr : meth.sig.returnType = none) {P : xP} {C2 : xK} (h2 : xAt p l e { frames := 2, cells := 0, slots := 0, locals := 41 } s m args below meth c g 4 xFT xN 0 0 (MQ below (xQc g xFT xN P) args s 0 0 (xFr g)) C2 2) : xAt p l e { frames := 2, cells := 0, slots := 0, locals := 41 } s m args below meth c g 4 xFT xN 0 0 (MQ below (xQc g xFT xN P) args s 0 0 (xFr g)) (k_X12_drops_0 P C2) 0 := by
  unfold k_X12_drops_0
  refine r_iload_n (pc := 0) X d_X12_drops_0 fn1 ?_
  refine r_istore_n (pc := 1) X d_X12_drops_1 fn2 (by decide +kernel) ?_
  exact h2
def k_X12_drops_2 (P : xP) (C16 : xK) (C71 : xK) : xK := x_iload 2 (x_aload 0 (y_getF 180 182 (x_push (.int 2) (y_iald 182 232 (x_push (.int 1) (x_isub (x_icmp_ge (x_aload 0 (y_getF 180 182 (x_push (.int 2) (x_dup2 (y_iald 182 232 (x_push (.int 1) (x_isub (y_iast 182 232 (x_push (.int 0) (x_istore 2 (C71))))))))))) (x_push (.int 0) (x_istore 3 (C16))))))))))
set_option maxRecDepth 20000 in
theorem t_X12_drops_2 {p : Program} {l : Launch} {e : Env} {s : State} {m : MethodId} {args : Array Value} {below : List Frame} {meth : Method} {c : Code} {g : xG} (X : xX p s m args c meth cX12_drops RX12 4 g) (hr : meth.sig.returnType = none) {P : xP} {C16 : xK} {C71 : xK} (h16 : xAt p l e { frames := 2, cells := 0, slots := 0, locals := 41 } s m args below meth c g 4 xFT xN 0 0 (MQ below (xQc g xFT xN P) args s 0 0 (xFr g)) C16 16) (h71 : xAt p l e { frames := 2, cells := 0, slots := 0, locals := 41 } s m args below meth c g 4 xFT xN 0 0 (MQ below (xQc g xFT xN P) args s 0 0 (xFr g)) C71 71) : xAt p l e { frames := 2, cells := 0, slots := 0, locals := 41 } s m args below meth c g 4 xFT xN 0 0 (MQ below (xQc g xFT xN P) args s 0 0 (xFr g)) (k_X12_drops_2 P C16 C71) 2 := by
  unfold k_X12_drops_2
  refine r_iload_n (pc := 2) X d_X12_drops_2 fn2 ?_
  refine r_aload_n (pc := 3) X d_X12_drops_3 fn0 ?_
  refine s_getF (pc := 4) (ci := 12) (k := 5) X xok12 (by decide +kernel) ob_180 trivial ly_180_5 (by decide +kernel) fl_RX12_30 d_X12_drops_4 ?_
  refine r_iconst (pc := 7) X d_X12_drops_7 (by decide +kernel) ?_
  refine s_iald (pc := 8) X tn_182 ln_182 d_X12_drops_8 ?_
  refine r_iconst (pc := 9) X d_X12_drops_9 (by decide +kernel) ?_
  refine r_isub (pc := 10) X d_X12_drops_10 ?_
  refine r_icmp_ge (pc := 11) (tgt := 59) X d_X12_drops_11 (by decide +kernel) ?_ ?_
  · refine r_aload_n (pc := 59) X d_X12_drops_59 fn0 ?_
    refine s_getF (pc := 60) (ci := 12) (k := 5) X xok12 (by decide +kernel) ob_180 trivial ly_180_5 (by decide +kernel) fl_RX12_30 d_X12_drops_60 ?_
    refine r_iconst (pc := 63) X d_X12_drops_63 (by decide +kernel) ?_
    refine r_dup2 (pc := 64) X d_X12_drops_64 ?_
    refine s_iald (pc := 65) X tn_182 ln_182 d_X12_drops_65 ?_
    refine r_iconst (pc := 66) X d_X12_drops_66 (by decide +kernel) ?_
    refine r_isub (pc := 67) X d_X12_drops_67 ?_
    refine s_iast (pc := 68) X tn_182 ln_182 d_X12_drops_68 ?_
    refine r_iconst (pc := 69) X d_X12_drops_69 (by decide +kernel) ?_
    refine r_istore_n (pc := 70) X d_X12_drops_70 fn2 (by decide +kernel) ?_
    exact h71
  · refine r_iconst (pc := 14) X d_X12_drops_14 (by decide +kernel) ?_
    refine r_istore_n (pc := 15) X d_X12_drops_15 fn3 (by decide +kernel) ?_
    exact h16
def k_X12_drops_16 (P : xP) (C2 : xK) (C16 : xK) : xK := x_iload 3 (x_push (.int 5) (x_icmp_ge (x_iinc 2 1 (C2)) (x_aload 0 (y_getF 180 182 (x_push (.int 4) (x_push (.int 5) (x_iload 2 (x_imul (x_iadd (x_iload 3 (x_iadd (x_aload 0 (y_getF 180 182 (x_push (.int 4) (x_push (.int 5) (x_iload 2 (x_imul (x_iadd (x_push (.int 5) (x_iadd (x_iload 3 (x_iadd (y_iald 182 232 (y_iast 182 232 (x_iinc 3 1 (C16))))))))))))))))))))))))))
set_option maxRecDepth 20000 in
theorem t_X12_drops_16 {p : Program} {l : Launch} {e : Env} {s : State} {m : MethodId} {args : Array Value} {below : List Frame} {meth : Method} {c : Code} {g : xG} (X : xX p s m args c meth cX12_drops RX12 4 g) (hr : meth.sig.returnType = none) {P : xP} {C2 : xK} {C16 : xK} (h2 : xAt p l e { frames := 2, cells := 0, slots := 0, locals := 41 } s m args below meth c g 4 xFT xN 0 0 (MQ below (xQc g xFT xN P) args s 0 0 (xFr g)) C2 2) (h16 : xAt p l e { frames := 2, cells := 0, slots := 0, locals := 41 } s m args below meth c g 4 xFT xN 0 0 (MQ below (xQc g xFT xN P) args s 0 0 (xFr g)) C16 16) : xAt p l e { frames := 2, cells := 0, slots := 0, locals := 41 } s m args below meth c g 4 xFT xN 0 0 (MQ below (xQc g xFT xN P) args s 0 0 (xFr g)) (k_X12_drops_16 P C2 C16) 16 := by
  unfold k_X12_drops_16
  refine r_iload_n (pc := 16) X d_X12_drops_16 fn3 ?_
  refine r_iconst (pc := 17) X d_X12_drops_17 (by decide +kernel) ?_
  refine r_icmp_ge (pc := 18) (tgt := 53) X d_X12_drops_18 (by decide +kernel) ?_ ?_
  · refine r_iinc (pc := 53) X d_X12_drops_53 (by decide +kernel) (by decide +kernel) ?_
    refine r_goto (pc := 56) (tgt := 2) X d_X12_drops_56 (by decide +kernel) ?_
    exact h2
  · refine r_aload_n (pc := 21) X d_X12_drops_21 fn0 ?_
    refine s_getF (pc := 22) (ci := 12) (k := 5) X xok12 (by decide +kernel) ob_180 trivial ly_180_5 (by decide +kernel) fl_RX12_30 d_X12_drops_22 ?_
    refine r_iconst (pc := 25) X d_X12_drops_25 (by decide +kernel) ?_
    refine r_iconst (pc := 26) X d_X12_drops_26 (by decide +kernel) ?_
    refine r_iload_n (pc := 27) X d_X12_drops_27 fn2 ?_
    refine r_imul (pc := 28) X d_X12_drops_28 ?_
    refine r_iadd (pc := 29) X d_X12_drops_29 ?_
    refine r_iload_n (pc := 30) X d_X12_drops_30 fn3 ?_
    refine r_iadd (pc := 31) X d_X12_drops_31 ?_
    refine r_aload_n (pc := 32) X d_X12_drops_32 fn0 ?_
    refine s_getF (pc := 33) (ci := 12) (k := 5) X xok12 (by decide +kernel) ob_180 trivial ly_180_5 (by decide +kernel) fl_RX12_30 d_X12_drops_33 ?_
    refine r_iconst (pc := 36) X d_X12_drops_36 (by decide +kernel) ?_
    refine r_iconst (pc := 37) X d_X12_drops_37 (by decide +kernel) ?_
    refine r_iload_n (pc := 38) X d_X12_drops_38 fn2 ?_
    refine r_imul (pc := 39) X d_X12_drops_39 ?_
    refine r_iadd (pc := 40) X d_X12_drops_40 ?_
    refine r_iconst (pc := 41) X d_X12_drops_41 (by decide +kernel) ?_
    refine r_iadd (pc := 42) X d_X12_drops_42 ?_
    refine r_iload_n (pc := 43) X d_X12_drops_43 fn3 ?_
    refine r_iadd (pc := 44) X d_X12_drops_44 ?_
    refine s_iald (pc := 45) X tn_182 ln_182 d_X12_drops_45 ?_
    refine s_iast (pc := 46) X tn_182 ln_182 d_X12_drops_46 ?_
    refine r_iinc (pc := 47) X d_X12_drops_47 (by decide +kernel) (by decide +kernel) ?_
    refine r_goto (pc := 50) (tgt := 16) X d_X12_drops_50 (by decide +kernel) ?_
    exact h16
def k_X12_drops_71 (P : xP) (C71 : xK) : xK := x_iload 2 (x_push (.int 5) (x_icmp_ge (x_aload 0 (y_cv0 180 (w_R f_X12_alone) (x_vret P))) (x_aload 0 (y_getF 180 182 (x_push (.int 4) (x_push (.int 5) (x_aload 0 (y_getF 180 182 (x_push (.int 2) (y_iald 182 232 (x_imul (x_iadd (x_iload 2 (x_iadd (x_push (.int 0) (y_iast 182 232 (x_iinc 2 1 (C71))))))))))))))))))
set_option maxRecDepth 20000 in
theorem t_X12_drops_71 {p : Program} {l : Launch} {e : Env} {s : State} {m : MethodId} {args : Array Value} {below : List Frame} {meth : Method} {c : Code} {g : xG} (X : xX p s m args c meth cX12_drops RX12 4 g) (hr : meth.sig.returnType = none) {P : xP} {C71 : xK} (h71 : xAt p l e { frames := 2, cells := 0, slots := 0, locals := 41 } s m args below meth c g 4 xFT xN 0 0 (MQ below (xQc g xFT xN P) args s 0 0 (xFr g)) C71 71) : xAt p l e { frames := 2, cells := 0, slots := 0, locals := 41 } s m args below meth c g 4 xFT xN 0 0 (MQ below (xQc g xFT xN P) args s 0 0 (xFr g)) (k_X12_drops_71 P C71) 71 := by
  unfold k_X12_drops_71
  refine r_iload_n (pc := 71) X d_X12_drops_71 fn2 ?_
  refine r_iconst (pc := 72) X d_X12_drops_72 (by decide +kernel) ?_
  refine r_icmp_ge (pc := 73) (tgt := 100) X d_X12_drops_73 (by decide +kernel) ?_ ?_
  · refine r_aload_n (pc := 100) X d_X12_drops_100 fn0 ?_
    refine s_cv0 (pc := 101) (ci := 12) X xok12 (by decide +kernel) ob_180 rfl (con_X12_alone l) mf_X12_alone ml_RX12_306 (by decide +kernel) (by decide +kernel) d_X12_drops_101 ?_
    exact r_vret (pc := 104) X hr d_X12_drops_104
  · refine r_aload_n (pc := 76) X d_X12_drops_76 fn0 ?_
    refine s_getF (pc := 77) (ci := 12) (k := 5) X xok12 (by decide +kernel) ob_180 trivial ly_180_5 (by decide +kernel) fl_RX12_30 d_X12_drops_77 ?_
    refine r_iconst (pc := 80) X d_X12_drops_80 (by decide +kernel) ?_
    refine r_iconst (pc := 81) X d_X12_drops_81 (by decide +kernel) ?_
    refine r_aload_n (pc := 82) X d_X12_drops_82 fn0 ?_
    refine s_getF (pc := 83) (ci := 12) (k := 5) X xok12 (by decide +kernel) ob_180 trivial ly_180_5 (by decide +kernel) fl_RX12_30 d_X12_drops_83 ?_
    refine r_iconst (pc := 86) X d_X12_drops_86 (by decide +kernel) ?_
    refine s_iald (pc := 87) X tn_182 ln_182 d_X12_drops_87 ?_
    refine r_imul (pc := 88) X d_X12_drops_88 ?_
    refine r_iadd (pc := 89) X d_X12_drops_89 ?_
    refine r_iload_n (pc := 90) X d_X12_drops_90 fn2 ?_
    refine r_iadd (pc := 91) X d_X12_drops_91 ?_
    refine r_iconst (pc := 92) X d_X12_drops_92 (by decide +kernel) ?_
    refine s_iast (pc := 93) X tn_182 ln_182 d_X12_drops_93 ?_
    refine r_iinc (pc := 94) X d_X12_drops_94 (by decide +kernel) (by decide +kernel) ?_
    refine r_goto (pc := 97) (tgt := 71) X d_X12_drops_97 (by decide +kernel) ?_
    exact h71
set_option maxRecDepth 20000 in
theorem m_X12_drops {l : Launch} {f : Nat → Int32 → xH → xP → Prop}  {I2 : Nat → Int32 → xH → xP → xM → xK} {I16 : Nat → Int32 → xH → xP → xM → xK} {I71 : Nat → Int32 → xH → xP → xM → xK}
    (v0 : ∀ (a0 : Nat) (a1 : Int32) (A : xH) (P : xP), f a0 a1 A P → k_X12_drops_0 P (xE (I2 a0 a1 A P)) [some (.ref a0), some (.int a1), none, none] [] A)
    (v2 : ∀ (a0 : Nat) (a1 : Int32) (A : xH) (P : xP), f a0 a1 A P → ∀ (μ : xM) (L : xL) (st : List Value) (B : xH), I2 a0 a1 A P μ L st B → k_X12_drops_2 P (xB (I16 a0 a1 A P) μ) (xE (I71 a0 a1 A P)) L st B)
    (v16 : ∀ (a0 : Nat) (a1 : Int32) (A : xH) (P : xP), f a0 a1 A P → ∀ (μ : xM) (L : xL) (st : List Value) (B : xH), I16 a0 a1 A P μ L st B → k_X12_drops_16 P (xB (I2 a0 a1 A P) μ) (xB (I16 a0 a1 A P) μ) L st B)
    (v71 : ∀ (a0 : Nat) (a1 : Int32) (A : xH) (P : xP), f a0 a1 A P → ∀ (μ : xM) (L : xL) (st : List Value) (B : xH), I71 a0 a1 A P μ L st B → k_X12_drops_71 P (xB (I71 a0 a1 A P) μ) L st B) : xCon l yX12_drops cX12_drops 4 none 2 41 xN xN 0 xFT xFT (w_RI f) := by
  refine xc_RI (plainFor_of_name pn_RX12) (by decide +kernel) (fun p e s m args below meth c g a0 a1 A P h X hr _ => ?_)
  have h71 := x_loop1 (p := p) (l := l) (e := e) (R := { frames := 2, cells := 0, slots := 0, locals := 41 }) (s := s) (m := m) (args := args) (below := below) (meth := meth) (c := c) (g := g) (nL := 4) (F := xFT) (n := xN) (cells := 0) (slots := 0) (Q := MQ below (xQc g xFT xN P) args s 0 0 (xFr g)) (I := I71 a0 a1 A P) (pc1 := 71) (fun μ i71 => xAt_mono (t_X12_drops_71 (P := P) X hr i71) (v71 a0 a1 A P h μ))
  obtain ⟨h2, h16⟩ := x_loop2 (p := p) (l := l) (e := e) (R := { frames := 2, cells := 0, slots := 0, locals := 41 }) (s := s) (m := m) (args := args) (below := below) (meth := meth) (c := c) (g := g) (nL := 4) (F := xFT) (n := xN) (cells := 0) (slots := 0) (Q := MQ below (xQc g xFT xN P) args s 0 0 (xFr g)) (I1 := I2 a0 a1 A P) (I2 := I16 a0 a1 A P) (pc1 := 2) (pc2 := 16) (fun μ i2 i16 => xAt_mono (t_X12_drops_2 (P := P) X hr i16 h71) (v2 a0 a1 A P h μ)) (fun μ i2 i16 => xAt_mono (t_X12_drops_16 (P := P) X hr i2 i16) (v16 a0 a1 A P h μ))
  exact ⟨_, v0 a0 a1 A P h, t_X12_drops_0 X hr h2⟩
theorem d_X12_adds_0 : decode cX12_adds 0 = .ok (.aload_n 0, 1) := by decide +kernel
theorem d_X12_adds_1 : decode cX12_adds 1 = .ok (.getfield 30, 3) := by decide +kernel
theorem d_X12_adds_4 : decode cX12_adds 4 = .ok (.iconst 2, 1) := by decide +kernel
theorem d_X12_adds_5 : decode cX12_adds 5 = .ok (.iaload, 1) := by decide +kernel
theorem d_X12_adds_6 : decode cX12_adds 6 = .ok (.bipush 10, 2) := by decide +kernel
theorem d_X12_adds_8 : decode cX12_adds 8 = .ok (.if_icmp .ne 5, 3) := by decide +kernel
theorem d_X12_adds_11 : decode cX12_adds 11 = .ok (.iconst 1, 1) := by decide +kernel
theorem d_X12_adds_12 : decode cX12_adds 12 = .ok (.ireturn, 1) := by decide +kernel
theorem d_X12_adds_13 : decode cX12_adds 13 = .ok (.iconst 0, 1) := by decide +kernel
theorem d_X12_adds_14 : decode cX12_adds 14 = .ok (.istore_n 3, 1) := by decide +kernel
theorem d_X12_adds_15 : decode cX12_adds 15 = .ok (.iload_n 3, 1) := by decide +kernel
theorem d_X12_adds_16 : decode cX12_adds 16 = .ok (.iconst 5, 1) := by decide +kernel
theorem d_X12_adds_17 : decode cX12_adds 17 = .ok (.if_icmp .ge 31, 3) := by decide +kernel
theorem d_X12_adds_20 : decode cX12_adds 20 = .ok (.aload_n 0, 1) := by decide +kernel
theorem d_X12_adds_21 : decode cX12_adds 21 = .ok (.getfield 30, 3) := by decide +kernel
theorem d_X12_adds_24 : decode cX12_adds 24 = .ok (.iconst 4, 1) := by decide +kernel
theorem d_X12_adds_25 : decode cX12_adds 25 = .ok (.iconst 5, 1) := by decide +kernel
theorem d_X12_adds_26 : decode cX12_adds 26 = .ok (.aload_n 0, 1) := by decide +kernel
theorem d_X12_adds_27 : decode cX12_adds 27 = .ok (.getfield 30, 3) := by decide +kernel
theorem d_X12_adds_30 : decode cX12_adds 30 = .ok (.iconst 2, 1) := by decide +kernel
theorem d_X12_adds_31 : decode cX12_adds 31 = .ok (.iaload, 1) := by decide +kernel
theorem d_X12_adds_32 : decode cX12_adds 32 = .ok (.imul, 1) := by decide +kernel
theorem d_X12_adds_33 : decode cX12_adds 33 = .ok (.iadd, 1) := by decide +kernel
theorem d_X12_adds_34 : decode cX12_adds 34 = .ok (.iload_n 3, 1) := by decide +kernel
theorem d_X12_adds_35 : decode cX12_adds 35 = .ok (.iadd, 1) := by decide +kernel
theorem d_X12_adds_36 : decode cX12_adds 36 = .ok (.aload_n 1, 1) := by decide +kernel
theorem d_X12_adds_37 : decode cX12_adds 37 = .ok (.iload_n 2, 1) := by decide +kernel
theorem d_X12_adds_38 : decode cX12_adds 38 = .ok (.iload_n 3, 1) := by decide +kernel
theorem d_X12_adds_39 : decode cX12_adds 39 = .ok (.iadd, 1) := by decide +kernel
theorem d_X12_adds_40 : decode cX12_adds 40 = .ok (.iaload, 1) := by decide +kernel
theorem d_X12_adds_41 : decode cX12_adds 41 = .ok (.iastore, 1) := by decide +kernel
theorem d_X12_adds_42 : decode cX12_adds 42 = .ok (.iinc 3 1, 3) := by decide +kernel
theorem d_X12_adds_45 : decode cX12_adds 45 = .ok (.goto (-30), 3) := by decide +kernel
theorem d_X12_adds_48 : decode cX12_adds 48 = .ok (.aload_n 0, 1) := by decide +kernel
theorem d_X12_adds_49 : decode cX12_adds 49 = .ok (.getfield 30, 3) := by decide +kernel
theorem d_X12_adds_52 : decode cX12_adds 52 = .ok (.iconst 2, 1) := by decide +kernel
theorem d_X12_adds_53 : decode cX12_adds 53 = .ok (.dup2, 1) := by decide +kernel
theorem d_X12_adds_54 : decode cX12_adds 54 = .ok (.iaload, 1) := by decide +kernel
theorem d_X12_adds_55 : decode cX12_adds 55 = .ok (.iconst 1, 1) := by decide +kernel
theorem d_X12_adds_56 : decode cX12_adds 56 = .ok (.iadd, 1) := by decide +kernel
theorem d_X12_adds_57 : decode cX12_adds 57 = .ok (.iastore, 1) := by decide +kernel
theorem d_X12_adds_58 : decode cX12_adds 58 = .ok (.aload_n 0, 1) := by decide +kernel
theorem d_X12_adds_59 : decode cX12_adds 59 = .ok (.invokevirtual 306, 3) := by decide +kernel
theorem d_X12_adds_62 : decode cX12_adds 62 = .ok (.iconst 0, 1) := by decide +kernel
theorem d_X12_adds_63 : decode cX12_adds 63 = .ok (.ireturn, 1) := by decide +kernel
def k_X12_adds_0 (P : xP) (C15 : xK) : xK := x_aload 0 (y_getF 180 182 (x_push (.int 2) (y_iald 182 232 (x_push (.int 10) (x_icmp_ne (x_push (.int 0) (x_istore 3 (C15))) (x_push (.int 1) (x_iret P)))))))
set_option maxRecDepth 20000 in
theorem t_X12_adds_0 {p : Program} {l : Launch} {e : Env} {s : State} {m : MethodId} {args : Array Value} {below : List Frame} {meth : Method} {c : Code} {g : xG} (X : xX p s m args c meth cX12_adds RX12 4 g) (hr : meth.sig.returnType = (some .int)) {P : xP} {C15 : xK} (h15 : xAt p l e { frames := 2, cells := 0, slots := 0, locals := 41 } s m args below meth c g 4 xFT xN 0 0 (MQ below (xQc g xFT xN P) args s 0 0 (xFr g)) C15 15) : xAt p l e { frames := 2, cells := 0, slots := 0, locals := 41 } s m args below meth c g 4 xFT xN 0 0 (MQ below (xQc g xFT xN P) args s 0 0 (xFr g)) (k_X12_adds_0 P C15) 0 := by
  unfold k_X12_adds_0
  refine r_aload_n (pc := 0) X d_X12_adds_0 fn0 ?_
  refine s_getF (pc := 1) (ci := 12) (k := 5) X xok12 (by decide +kernel) ob_180 trivial ly_180_5 (by decide +kernel) fl_RX12_30 d_X12_adds_1 ?_
  refine r_iconst (pc := 4) X d_X12_adds_4 (by decide +kernel) ?_
  refine s_iald (pc := 5) X tn_182 ln_182 d_X12_adds_5 ?_
  refine r_bipush (pc := 6) X d_X12_adds_6 (by decide +kernel) ?_
  refine r_icmp_ne (pc := 8) (tgt := 13) X d_X12_adds_8 (by decide +kernel) ?_ ?_
  · refine r_iconst (pc := 13) X d_X12_adds_13 (by decide +kernel) ?_
    refine r_istore_n (pc := 14) X d_X12_adds_14 fn3 (by decide +kernel) ?_
    exact h15
  · refine r_iconst (pc := 11) X d_X12_adds_11 (by decide +kernel) ?_
    exact r_iret (pc := 12) X hr d_X12_adds_12
def k_X12_adds_15 (P : xP) (C15 : xK) : xK := x_iload 3 (x_push (.int 5) (x_icmp_ge (x_aload 0 (y_getF 180 182 (x_push (.int 2) (x_dup2 (y_iald 182 232 (x_push (.int 1) (x_iadd (y_iast 182 232 (x_aload 0 (y_cv0 180 (w_R f_X12_alone) (x_push (.int 0) (x_iret P)))))))))))) (x_aload 0 (y_getF 180 182 (x_push (.int 4) (x_push (.int 5) (x_aload 0 (y_getF 180 182 (x_push (.int 2) (y_iald 182 232 (x_imul (x_iadd (x_iload 3 (x_iadd (x_aload 1 (x_iload 2 (x_iload 3 (x_iadd (x_iald xN (y_iast 182 232 (x_iinc 3 1 (C15))))))))))))))))))))))
set_option maxRecDepth 20000 in
theorem t_X12_adds_15 {p : Program} {l : Launch} {e : Env} {s : State} {m : MethodId} {args : Array Value} {below : List Frame} {meth : Method} {c : Code} {g : xG} (X : xX p s m args c meth cX12_adds RX12 4 g) (hr : meth.sig.returnType = (some .int)) {P : xP} {C15 : xK} (h15 : xAt p l e { frames := 2, cells := 0, slots := 0, locals := 41 } s m args below meth c g 4 xFT xN 0 0 (MQ below (xQc g xFT xN P) args s 0 0 (xFr g)) C15 15) : xAt p l e { frames := 2, cells := 0, slots := 0, locals := 41 } s m args below meth c g 4 xFT xN 0 0 (MQ below (xQc g xFT xN P) args s 0 0 (xFr g)) (k_X12_adds_15 P C15) 15 := by
  unfold k_X12_adds_15
  refine r_iload_n (pc := 15) X d_X12_adds_15 fn3 ?_
  refine r_iconst (pc := 16) X d_X12_adds_16 (by decide +kernel) ?_
  refine r_icmp_ge (pc := 17) (tgt := 48) X d_X12_adds_17 (by decide +kernel) ?_ ?_
  · refine r_aload_n (pc := 48) X d_X12_adds_48 fn0 ?_
    refine s_getF (pc := 49) (ci := 12) (k := 5) X xok12 (by decide +kernel) ob_180 trivial ly_180_5 (by decide +kernel) fl_RX12_30 d_X12_adds_49 ?_
    refine r_iconst (pc := 52) X d_X12_adds_52 (by decide +kernel) ?_
    refine r_dup2 (pc := 53) X d_X12_adds_53 ?_
    refine s_iald (pc := 54) X tn_182 ln_182 d_X12_adds_54 ?_
    refine r_iconst (pc := 55) X d_X12_adds_55 (by decide +kernel) ?_
    refine r_iadd (pc := 56) X d_X12_adds_56 ?_
    refine s_iast (pc := 57) X tn_182 ln_182 d_X12_adds_57 ?_
    refine r_aload_n (pc := 58) X d_X12_adds_58 fn0 ?_
    refine s_cv0 (pc := 59) (ci := 12) X xok12 (by decide +kernel) ob_180 rfl (con_X12_alone l) mf_X12_alone ml_RX12_306 (by decide +kernel) (by decide +kernel) d_X12_adds_59 ?_
    refine r_iconst (pc := 62) X d_X12_adds_62 (by decide +kernel) ?_
    exact r_iret (pc := 63) X hr d_X12_adds_63
  · refine r_aload_n (pc := 20) X d_X12_adds_20 fn0 ?_
    refine s_getF (pc := 21) (ci := 12) (k := 5) X xok12 (by decide +kernel) ob_180 trivial ly_180_5 (by decide +kernel) fl_RX12_30 d_X12_adds_21 ?_
    refine r_iconst (pc := 24) X d_X12_adds_24 (by decide +kernel) ?_
    refine r_iconst (pc := 25) X d_X12_adds_25 (by decide +kernel) ?_
    refine r_aload_n (pc := 26) X d_X12_adds_26 fn0 ?_
    refine s_getF (pc := 27) (ci := 12) (k := 5) X xok12 (by decide +kernel) ob_180 trivial ly_180_5 (by decide +kernel) fl_RX12_30 d_X12_adds_27 ?_
    refine r_iconst (pc := 30) X d_X12_adds_30 (by decide +kernel) ?_
    refine s_iald (pc := 31) X tn_182 ln_182 d_X12_adds_31 ?_
    refine r_imul (pc := 32) X d_X12_adds_32 ?_
    refine r_iadd (pc := 33) X d_X12_adds_33 ?_
    refine r_iload_n (pc := 34) X d_X12_adds_34 fn3 ?_
    refine r_iadd (pc := 35) X d_X12_adds_35 ?_
    refine r_aload_n (pc := 36) X d_X12_adds_36 fn1 ?_
    refine r_iload_n (pc := 37) X d_X12_adds_37 fn2 ?_
    refine r_iload_n (pc := 38) X d_X12_adds_38 fn3 ?_
    refine r_iadd (pc := 39) X d_X12_adds_39 ?_
    refine r_iald (pc := 40) X d_X12_adds_40 ?_
    refine s_iast (pc := 41) X tn_182 ln_182 d_X12_adds_41 ?_
    refine r_iinc (pc := 42) X d_X12_adds_42 (by decide +kernel) (by decide +kernel) ?_
    refine r_goto (pc := 45) (tgt := 15) X d_X12_adds_45 (by decide +kernel) ?_
    exact h15
set_option maxRecDepth 20000 in
theorem m_X12_adds {l : Launch} {f : Nat → Nat → Int32 → xH → xP → Prop}  {I15 : Nat → Nat → Int32 → xH → xP → xM → xK}
    (v0 : ∀ (a0 : Nat) (a1 : Nat) (a2 : Int32) (A : xH) (P : xP), f a0 a1 a2 A P → k_X12_adds_0 P (xE (I15 a0 a1 a2 A P)) [some (.ref a0), some (.ref a1), some (.int a2), none] [] A)
    (v15 : ∀ (a0 : Nat) (a1 : Nat) (a2 : Int32) (A : xH) (P : xP), f a0 a1 a2 A P → ∀ (μ : xM) (L : xL) (st : List Value) (B : xH), I15 a0 a1 a2 A P μ L st B → k_X12_adds_15 P (xB (I15 a0 a1 a2 A P) μ) L st B) : xCon l yX12_adds cX12_adds 4 (some .int) 2 41 xN xN 0 xFT xFT (w_RRI f) := by
  refine xc_RRI (plainFor_of_name pn_RX12) (by decide +kernel) (fun p e s m args below meth c g a0 a1 a2 A P h X hr _ => ?_)
  have h15 := x_loop1 (p := p) (l := l) (e := e) (R := { frames := 2, cells := 0, slots := 0, locals := 41 }) (s := s) (m := m) (args := args) (below := below) (meth := meth) (c := c) (g := g) (nL := 4) (F := xFT) (n := xN) (cells := 0) (slots := 0) (Q := MQ below (xQc g xFT xN P) args s 0 0 (xFr g)) (I := I15 a0 a1 a2 A P) (pc1 := 15) (fun μ i15 => xAt_mono (t_X12_adds_15 (P := P) X hr i15) (v15 a0 a1 a2 A P h μ))
  exact ⟨_, v0 a0 a1 a2 A P h, t_X12_adds_0 X hr h15⟩
theorem d_X12_brings_0 : decode cX12_brings 0 = .ok (.iconst 0, 1) := by decide +kernel
theorem d_X12_brings_1 : decode cX12_brings 1 = .ok (.istore_n 3, 1) := by decide +kernel
theorem d_X12_brings_2 : decode cX12_brings 2 = .ok (.iload_n 3, 1) := by decide +kernel
theorem d_X12_brings_3 : decode cX12_brings 3 = .ok (.bipush 94, 2) := by decide +kernel
theorem d_X12_brings_5 : decode cX12_brings 5 = .ok (.if_icmp .ge 22, 3) := by decide +kernel
theorem d_X12_brings_8 : decode cX12_brings 8 = .ok (.aload_n 0, 1) := by decide +kernel
theorem d_X12_brings_9 : decode cX12_brings 9 = .ok (.getfield 30, 3) := by decide +kernel
theorem d_X12_brings_12 : decode cX12_brings 12 = .ok (.iconst 2, 1) := by decide +kernel
theorem d_X12_brings_13 : decode cX12_brings 13 = .ok (.iload_n 3, 1) := by decide +kernel
theorem d_X12_brings_14 : decode cX12_brings 14 = .ok (.iadd, 1) := by decide +kernel
theorem d_X12_brings_15 : decode cX12_brings 15 = .ok (.aload_n 1, 1) := by decide +kernel
theorem d_X12_brings_16 : decode cX12_brings 16 = .ok (.iload_n 2, 1) := by decide +kernel
theorem d_X12_brings_17 : decode cX12_brings 17 = .ok (.iload_n 3, 1) := by decide +kernel
theorem d_X12_brings_18 : decode cX12_brings 18 = .ok (.iadd, 1) := by decide +kernel
theorem d_X12_brings_19 : decode cX12_brings 19 = .ok (.iaload, 1) := by decide +kernel
theorem d_X12_brings_20 : decode cX12_brings 20 = .ok (.iastore, 1) := by decide +kernel
theorem d_X12_brings_21 : decode cX12_brings 21 = .ok (.iinc 3 1, 3) := by decide +kernel
theorem d_X12_brings_24 : decode cX12_brings 24 = .ok (.goto (-22), 3) := by decide +kernel
theorem d_X12_brings_27 : decode cX12_brings 27 = .ok (.aload_n 0, 1) := by decide +kernel
theorem d_X12_brings_28 : decode cX12_brings 28 = .ok (.invokevirtual 325, 3) := by decide +kernel
theorem d_X12_brings_31 : decode cX12_brings 31 = .ok (.return_, 1) := by decide +kernel
def k_X12_brings_0 (P : xP) (C2 : xK) : xK := x_push (.int 0) (x_istore 3 (C2))
set_option maxRecDepth 20000 in
theorem t_X12_brings_0 {p : Program} {l : Launch} {e : Env} {s : State} {m : MethodId} {args : Array Value} {below : List Frame} {meth : Method} {c : Code} {g : xG} (X : xX p s m args c meth cX12_brings RX12 4 g) (hr : meth.sig.returnType = none) {P : xP} {C2 : xK} (h2 : xAt p l e { frames := 1, cells := 0, slots := 0, locals := 20 } s m args below meth c g 4 xFT xN 0 0 (MQ below (xQc g xFT xN P) args s 0 0 (xFr g)) C2 2) : xAt p l e { frames := 1, cells := 0, slots := 0, locals := 20 } s m args below meth c g 4 xFT xN 0 0 (MQ below (xQc g xFT xN P) args s 0 0 (xFr g)) (k_X12_brings_0 P C2) 0 := by
  unfold k_X12_brings_0
  refine r_iconst (pc := 0) X d_X12_brings_0 (by decide +kernel) ?_
  refine r_istore_n (pc := 1) X d_X12_brings_1 fn3 (by decide +kernel) ?_
  exact h2
def k_X12_brings_2 (P : xP) (C2 : xK) : xK := x_iload 3 (x_push (.int 94) (x_icmp_ge (x_aload 0 (y_cv0 180 (w_R f_X12_other) (x_vret P))) (x_aload 0 (y_getF 180 182 (x_push (.int 2) (x_iload 3 (x_iadd (x_aload 1 (x_iload 2 (x_iload 3 (x_iadd (x_iald xN (y_iast 182 232 (x_iinc 3 1 (C2)))))))))))))))
set_option maxRecDepth 20000 in
theorem t_X12_brings_2 {p : Program} {l : Launch} {e : Env} {s : State} {m : MethodId} {args : Array Value} {below : List Frame} {meth : Method} {c : Code} {g : xG} (X : xX p s m args c meth cX12_brings RX12 4 g) (hr : meth.sig.returnType = none) {P : xP} {C2 : xK} (h2 : xAt p l e { frames := 1, cells := 0, slots := 0, locals := 20 } s m args below meth c g 4 xFT xN 0 0 (MQ below (xQc g xFT xN P) args s 0 0 (xFr g)) C2 2) : xAt p l e { frames := 1, cells := 0, slots := 0, locals := 20 } s m args below meth c g 4 xFT xN 0 0 (MQ below (xQc g xFT xN P) args s 0 0 (xFr g)) (k_X12_brings_2 P C2) 2 := by
  unfold k_X12_brings_2
  refine r_iload_n (pc := 2) X d_X12_brings_2 fn3 ?_
  refine r_bipush (pc := 3) X d_X12_brings_3 (by decide +kernel) ?_
  refine r_icmp_ge (pc := 5) (tgt := 27) X d_X12_brings_5 (by decide +kernel) ?_ ?_
  · refine r_aload_n (pc := 27) X d_X12_brings_27 fn0 ?_
    refine s_cv0 (pc := 28) (ci := 12) X xok12 (by decide +kernel) ob_180 rfl (con_X12_other l) mf_X12_other ml_RX12_325 (by decide +kernel) (by decide +kernel) d_X12_brings_28 ?_
    exact r_vret (pc := 31) X hr d_X12_brings_31
  · refine r_aload_n (pc := 8) X d_X12_brings_8 fn0 ?_
    refine s_getF (pc := 9) (ci := 12) (k := 5) X xok12 (by decide +kernel) ob_180 trivial ly_180_5 (by decide +kernel) fl_RX12_30 d_X12_brings_9 ?_
    refine r_iconst (pc := 12) X d_X12_brings_12 (by decide +kernel) ?_
    refine r_iload_n (pc := 13) X d_X12_brings_13 fn3 ?_
    refine r_iadd (pc := 14) X d_X12_brings_14 ?_
    refine r_aload_n (pc := 15) X d_X12_brings_15 fn1 ?_
    refine r_iload_n (pc := 16) X d_X12_brings_16 fn2 ?_
    refine r_iload_n (pc := 17) X d_X12_brings_17 fn3 ?_
    refine r_iadd (pc := 18) X d_X12_brings_18 ?_
    refine r_iald (pc := 19) X d_X12_brings_19 ?_
    refine s_iast (pc := 20) X tn_182 ln_182 d_X12_brings_20 ?_
    refine r_iinc (pc := 21) X d_X12_brings_21 (by decide +kernel) (by decide +kernel) ?_
    refine r_goto (pc := 24) (tgt := 2) X d_X12_brings_24 (by decide +kernel) ?_
    exact h2
set_option maxRecDepth 20000 in
theorem m_X12_brings {l : Launch} {f : Nat → Nat → Int32 → xH → xP → Prop}  {I2 : Nat → Nat → Int32 → xH → xP → xM → xK}
    (v0 : ∀ (a0 : Nat) (a1 : Nat) (a2 : Int32) (A : xH) (P : xP), f a0 a1 a2 A P → k_X12_brings_0 P (xE (I2 a0 a1 a2 A P)) [some (.ref a0), some (.ref a1), some (.int a2), none] [] A)
    (v2 : ∀ (a0 : Nat) (a1 : Nat) (a2 : Int32) (A : xH) (P : xP), f a0 a1 a2 A P → ∀ (μ : xM) (L : xL) (st : List Value) (B : xH), I2 a0 a1 a2 A P μ L st B → k_X12_brings_2 P (xB (I2 a0 a1 a2 A P) μ) L st B) : xCon l yX12_brings cX12_brings 4 none 1 20 xN xN 0 xFT xFT (w_RRI f) := by
  refine xc_RRI (plainFor_of_name pn_RX12) (by decide +kernel) (fun p e s m args below meth c g a0 a1 a2 A P h X hr _ => ?_)
  have h2 := x_loop1 (p := p) (l := l) (e := e) (R := { frames := 1, cells := 0, slots := 0, locals := 20 }) (s := s) (m := m) (args := args) (below := below) (meth := meth) (c := c) (g := g) (nL := 4) (F := xFT) (n := xN) (cells := 0) (slots := 0) (Q := MQ below (xQc g xFT xN P) args s 0 0 (xFr g)) (I := I2 a0 a1 a2 A P) (pc1 := 2) (fun μ i2 => xAt_mono (t_X12_brings_2 (P := P) X hr i2) (v2 a0 a1 a2 A P h μ))
  exact ⟨_, v0 a0 a1 a2 A P h, t_X12_brings_0 X hr h2⟩
/-- all alone, all old -/
def alo (A : xH) : xH := oth (xsA A 182 (fun k => if 54 ≤ k ∧ k < 96 then nI (k - 54) else xi A 182 k))
theorem alone_E {A : xH} {P : xP} (h : P none (alo A)) : f_X12_alone 180 A P := by
  refine ⟨rfl, fun B ⟨o1, o2, o3, o4, o5, o6, o7⟩ h1 h2 => ?_⟩
  have : B = alo A := by
    have e1 : ∀ c k, xi B c k = xi (alo A) c k := by
      intro c k
      have z := @oth_0 (xsA A 182 (fun k => if 54 ≤ k ∧ k < 96 then nI (k - 54) else xi A 182 k))
      by_cases c0 : c = 180
      · subst c0
        by_cases k0 : k < 25 ∨ 28 < k
        · unfold alo
          rw [o3 k k0, oth_i (by omega), sA_ne (by omega)]
        · rcases (show k = 25 ∨ k = 26 ∨ k = 27 ∨ k = 28 by omega) with rfl | rfl | rfl | rfl
          · exact o4.trans z.1.symm
          · exact o5.trans z.2.1.symm
          · exact o6.trans z.2.2.1.symm
          · exact o7.trans z.2.2.2.symm
      · unfold alo
        rw [oth_i (by omega)]
        by_cases c2 : c = 182
        · subst c2
          rw [sA_eq]
          by_cases k0 : 54 ≤ k ∧ k < 96
          · rw [if_pos k0, ← h1 (k - 54) (by omega), show 54 + (k - 54) = k by omega]
          · rw [if_neg k0, h2 k (by omega)]
        · rw [sA_ne c2]
          exact congrFun (o1 c c0 c2) k
    exact Prod.ext (funext fun c => funext fun k => e1 c k) o2
  rw [this]; exact h
/-- two classes are one -/
def mgF (A : xH) (i j : Nat) (z : Nat) : Nat → Int32 := fun k => if 56 ≤ k ∧ k < z ∧ (xi A 182 k = xi A 182 (54 + i) ∨ xi A 182 k = xi A 182 (54 + j)) then (if xi A 182 (54 + i) < xi A 182 (54 + j) then xi A 182 (54 + i) else xi A 182 (54 + j)) else xi A 182 k
def f_X12_merges (q : Nat) (x y : Int32) (A : xH) (P : xP) : Prop := q = 180 ∧ ∃ i j, i < 42 ∧ j < 42 ∧ x = nI i ∧ y = nI j ∧ (xi A 182 (54 + i) = xi A 182 (54 + j) → P (some (.int 1)) A) ∧ (xi A 182 (54 + i) ≠ xi A 182 (54 + j) → P (some (.int 0)) (oth (xsA A 182 (mgF A i j 96))))
def mg46 (A : xH) (P : xP) : xM → xK := fun μ L st B => ∃ i j z, i < 42 ∧ j < 42 ∧ P (some (.int 0)) (oth (xsA A 182 (mgF A i j 96))) ∧ 2 ≤ z ∧ z ≤ 42 ∧ B = xsA A 182 (mgF A i j (54 + z)) ∧ st = [] ∧ L = [some (.ref 180), some (.int (nI i)), some (.int (nI j)), some (.int (xi A 182 (54 + i))), some (.int (xi A 182 (54 + j))), some (.int (if xi A 182 (54 + i) < xi A 182 (54 + j) then xi A 182 (54 + i) else xi A 182 (54 + j))), some (.int (nI z))] ∧ μ = (42 - z, 0, 0)
set_option maxRecDepth 20000 in
theorem con_X12_merges (l : Launch) : xCon l yX12_merges cX12_merges 7 (some .int) 1 20 xN xN 0 xFT xFT (w_RII f_X12_merges) := by
  refine m_X12_merges (I46 := fun q x y A P => mg46 A P) ?_ ?_
  · rintro q x y A P ⟨rfl, i, j, hi, hj, rfl, rfl, h1, h2⟩
    have e0 : A = xsA A 182 (mgF A i j (54 + 2)) := (xsA_self fun k => by unfold mgF; rw [if_neg (by omega)]).symm
    simp (disch := omega) only [k_X12_merges_0, k_X12_merges_46, k_X12_merges_41, k_X12_merges_82, k_X12_merges_94, w_R, x_aload, x_iadd, x_icmp_eq, x_icmp_ge, x_icmp_ne, x_iinc, x_iload, x_iret, x_istore, x_push, y_cv0, y_getF, y_iald, y_iast, xFT, xbool0, xbool1, Nat.reduceAdd, Nat.zero_add, xgl_0, xgl_s, xgl_n, xst_0, xst_1n, xst_1i, xst_1r, xst_1l, xst_s, set_0, set_s, true_and, and_true, xres, xcat_nil, xcat_i, xcat_r, xcat_l, Nat.add_zero, xble0, xble1, xble2, xble3, xble4, xble5, xble6, xble7, xble8, pk_mul, nI_add, nI_1, nI_leI, nI_ltI, nI_eq, n_in, n_cl, z_eq, z_lt, z_le, z_gt, z_ge, z_qe, o_eq, o_lt, o_le, o_gt, o_ge, vp0, vp1, cl0, cl1, n_sub, n_sub1, n_pm1, n_a0, n_0a, ofn, lN0, Nat.reduceLT, Nat.reduceLeDiff, Nat.reduceMul, Nat.reduceSub, Nat.reduceEqDiff, ne_eq, true_implies, false_implies, not_true_eq_false, not_false_eq_true, and_self, and_true, true_and, and_false, false_and, implies_true, if_true, if_false, i00, i10, i01, i11, ob_0, ob_1, tn_2, ln_2, ob_3, tn_4, ln_4, ob_5, tn_6, ln_6, tn_7, ln_7, ob_8, tn_9, ln_9, tn_10, ln_10, tn_11, ln_11, tn_12, ln_12, tn_13, ln_13, tn_14, ln_14, tn_15, ln_15, tn_16, ln_16, tn_17, ln_17, ob_18, tn_19, ln_19, tn_20, ln_20, tn_21, ln_21, tn_22, ln_22, tn_23, ln_23, tn_24, ln_24, tn_25, ln_25, tn_26, ln_26, tn_27, ln_27, ob_28, tn_29, ln_29, tn_30, ln_30, ob_31, tn_32, ln_32, tn_33, ln_33, ob_34, ob_35, tn_36, ln_36, tn_37, ln_37, tn_38, ln_38, ob_39, tn_40, ln_40, tn_41, ln_41, tn_42, ln_42, tn_43, ln_43, tn_44, ln_44, tn_45, ln_45, tn_46, ln_46, tn_47, ln_47, tn_48, ln_48, tn_49, ln_49, tn_50, ln_50, tn_51, ln_51, ob_52, tn_53, ln_53, tn_54, ln_54, tn_55, ln_55, tn_56, ln_56, ob_57, tn_58, ln_58, tn_59, ln_59, tn_60, ln_60, tn_61, ln_61, tn_62, ln_62, tn_63, ln_63, tn_64, ln_64, tn_65, ln_65, ob_66, tn_67, ln_67, tn_68, ln_68, tn_69, ln_69, tn_70, ln_70, tn_71, ln_71, tn_72, ln_72, tn_73, ln_73, ob_74, tn_75, ln_75, tn_76, ln_76, tn_77, ln_77, tn_78, ln_78, tn_79, ln_79, tn_80, ln_80, tn_81, ln_81, tn_82, ln_82, tn_83, ln_83, ob_84, tn_85, ln_85, tn_86, ln_86, tn_87, ln_87, tn_88, ln_88, tn_89, ln_89, tn_90, ln_90, tn_91, ln_91, tn_92, ln_92, tn_93, ln_93, ob_94, tn_95, ln_95, tn_96, ln_96, tn_97, ln_97, tn_98, ln_98, tn_99, ln_99, tn_100, ln_100, tn_101, ln_101, tn_102, ln_102, tn_103, ln_103, ob_104, tn_105, ln_105, tn_106, ln_106, tn_107, ln_107, tn_108, ln_108, tn_109, ln_109, tn_110, ln_110, tn_111, ln_111, tn_112, ln_112, tn_113, ln_113, ob_114, tn_115, ln_115, tn_116, ln_116, tn_117, ln_117, tn_118, ln_118, tn_119, ln_119, tn_120, ln_120, tn_121, ln_121, tn_122, ln_122, tn_123, ln_123, ob_124, tn_125, ln_125, tn_126, ln_126, tn_127, ln_127, tn_128, ln_128, tn_129, ln_129, tn_130, ln_130, tn_131, ln_131, tn_132, ln_132, tn_133, ln_133, ob_134, tn_135, ln_135, tn_136, ln_136, tn_137, ln_137, tn_138, ln_138, tn_139, ln_139, tn_140, ln_140, tn_141, ln_141, tn_142, ln_142, tn_143, ln_143, ob_144, tn_145, ln_145, tn_146, ln_146, tn_147, ln_147, tn_148, ln_148, tn_149, ln_149, tn_150, ln_150, tn_151, ln_151, tn_152, ln_152, tn_153, ln_153, ob_154, tn_155, ln_155, tn_156, ln_156, tn_157, ln_157, tn_158, ln_158, tn_159, ln_159, tn_160, ln_160, tn_161, ln_161, tn_162, ln_162, tn_163, ln_163, ob_164, tn_165, ln_165, tn_166, ln_166, ob_167, tn_168, ln_168, tn_169, ln_169, tn_170, ln_170, tn_171, ln_171, tn_172, ln_172, tn_173, ln_173, tn_174, ln_174, tn_175, ln_175, tn_176, ln_176, ob_177, tn_178, ln_178, tn_179, ln_179, ob_180, tn_181, ln_181, tn_182, ln_182, tn_183, ln_183, tn_184, ln_184, tn_185, ln_185, tn_186, ln_186, tn_187, ln_187, tn_188, ln_188, tn_189, ln_189, tn_190, ln_190, tn_191, ln_191, tn_192, ln_192, tn_193, ln_193, tn_194, ln_194, tn_195, ln_195, tn_196, ln_196, tn_197, ln_197, tn_198, ln_198, tn_199, ln_199, tn_200, ln_200, tn_201, ln_201, tn_202, ln_202, tn_203, ln_203, tn_204, ln_204, tn_205, ln_205, tn_206, ln_206, tn_207, ln_207, tn_208, ln_208, tn_209, ln_209, tn_210, ln_210, tn_211, ln_211, tn_212, ln_212, tn_213, ln_213, tn_214, ln_214, tn_215, ln_215, tn_216, ln_216, tn_217, ln_217, tn_218, ln_218, tn_219, ln_219, tn_220, ln_220, tn_221, ln_221, tn_222, ln_222, tn_223, ln_223, tn_224, ln_224, tn_225, ln_225, tn_226, ln_226, tn_227, ln_227, tn_228, ln_228, tn_229, ln_229, tn_230, ln_230, lx2, lx3, lx4, lx5, lx6, lx7, lx8, lx9, lx10, lx14, lx15, lx16, lx18, lx20, lx24, lx25, lx27, lx32, lx36, lx40, lx41, lx42, lx43, lx45, lx48, lx52, lx54, lx56, lx57, lx58, lx60, lx61, lx62, lx63, lx64, lx66, lx69, lx73, lx80, lx81, lx84, lx85, lx87, lx94, lx96, lx97, lx120, lx128, lx135, lx160, lx162, lx163, lx165, lx200, lx232, lx242, lx243, lx255, lx256, lx320, lx325, lx400, lx405, lx464, lx512, lx600, lx640, lx752, lx900, lx940, lx1000, lx1024, lx1764, lx3360, lx3840, lx5000, lx6400, lx9050, lx9998, lx9999, lx10000, lx25600, lx76800, lx99999]
    (repeat' (first | intro _ | with_reducible apply And.intro)) <;> try omega
    · rename_i a b
      exact xE0 (40, 0, 0) ⟨i, j, 2, hi, hj, h2 a, by omega, by omega, e0, rfl, by rw [if_neg (Int32.not_lt.mpr b)], rfl⟩
    · rename_i a b
      exact xE0 (40, 0, 0) ⟨i, j, 2, hi, hj, h2 a, by omega, by omega, e0, rfl, by rw [if_pos (Int32.not_le.mp b)], rfl⟩
    · rename_i a
      exact h1 a
  · rintro q x y A P - μ L st B ⟨i, j, z, hi, hj, hP, hz, hz2, rfl, rfl, rfl, rfl⟩
    have e1 : xi (xsA A 182 (mgF A i j (54 + z))) 182 (54 + z) = xi A 182 (54 + z) := by rw [sA_eq]; unfold mgF; rw [if_neg (by omega)]
    simp (disch := omega) only [k_X12_merges_0, k_X12_merges_46, k_X12_merges_41, k_X12_merges_82, k_X12_merges_94, w_R, x_aload, x_iadd, x_icmp_eq, x_icmp_ge, x_icmp_ne, x_iinc, x_iload, x_iret, x_istore, x_push, y_cv0, y_getF, y_iald, y_iast, xFT, xbool0, xbool1, Nat.reduceAdd, Nat.zero_add, xgl_0, xgl_s, xgl_n, xst_0, xst_1n, xst_1i, xst_1r, xst_1l, xst_s, set_0, set_s, true_and, and_true, xres, xcat_nil, xcat_i, xcat_r, xcat_l, Nat.add_zero, xble0, xble1, xble2, xble3, xble4, xble5, xble6, xble7, xble8, pk_mul, nI_add, nI_1, nI_leI, nI_ltI, nI_eq, n_in, n_cl, z_eq, z_lt, z_le, z_gt, z_ge, z_qe, o_eq, o_lt, o_le, o_gt, o_ge, vp0, vp1, cl0, cl1, n_sub, n_sub1, n_pm1, n_a0, n_0a, ofn, lN0, Nat.reduceLT, Nat.reduceLeDiff, Nat.reduceMul, Nat.reduceSub, Nat.reduceEqDiff, ne_eq, true_implies, false_implies, not_true_eq_false, not_false_eq_true, and_self, and_true, true_and, and_false, false_and, implies_true, if_true, if_false, i00, i10, i01, i11, ob_0, ob_1, tn_2, ln_2, ob_3, tn_4, ln_4, ob_5, tn_6, ln_6, tn_7, ln_7, ob_8, tn_9, ln_9, tn_10, ln_10, tn_11, ln_11, tn_12, ln_12, tn_13, ln_13, tn_14, ln_14, tn_15, ln_15, tn_16, ln_16, tn_17, ln_17, ob_18, tn_19, ln_19, tn_20, ln_20, tn_21, ln_21, tn_22, ln_22, tn_23, ln_23, tn_24, ln_24, tn_25, ln_25, tn_26, ln_26, tn_27, ln_27, ob_28, tn_29, ln_29, tn_30, ln_30, ob_31, tn_32, ln_32, tn_33, ln_33, ob_34, ob_35, tn_36, ln_36, tn_37, ln_37, tn_38, ln_38, ob_39, tn_40, ln_40, tn_41, ln_41, tn_42, ln_42, tn_43, ln_43, tn_44, ln_44, tn_45, ln_45, tn_46, ln_46, tn_47, ln_47, tn_48, ln_48, tn_49, ln_49, tn_50, ln_50, tn_51, ln_51, ob_52, tn_53, ln_53, tn_54, ln_54, tn_55, ln_55, tn_56, ln_56, ob_57, tn_58, ln_58, tn_59, ln_59, tn_60, ln_60, tn_61, ln_61, tn_62, ln_62, tn_63, ln_63, tn_64, ln_64, tn_65, ln_65, ob_66, tn_67, ln_67, tn_68, ln_68, tn_69, ln_69, tn_70, ln_70, tn_71, ln_71, tn_72, ln_72, tn_73, ln_73, ob_74, tn_75, ln_75, tn_76, ln_76, tn_77, ln_77, tn_78, ln_78, tn_79, ln_79, tn_80, ln_80, tn_81, ln_81, tn_82, ln_82, tn_83, ln_83, ob_84, tn_85, ln_85, tn_86, ln_86, tn_87, ln_87, tn_88, ln_88, tn_89, ln_89, tn_90, ln_90, tn_91, ln_91, tn_92, ln_92, tn_93, ln_93, ob_94, tn_95, ln_95, tn_96, ln_96, tn_97, ln_97, tn_98, ln_98, tn_99, ln_99, tn_100, ln_100, tn_101, ln_101, tn_102, ln_102, tn_103, ln_103, ob_104, tn_105, ln_105, tn_106, ln_106, tn_107, ln_107, tn_108, ln_108, tn_109, ln_109, tn_110, ln_110, tn_111, ln_111, tn_112, ln_112, tn_113, ln_113, ob_114, tn_115, ln_115, tn_116, ln_116, tn_117, ln_117, tn_118, ln_118, tn_119, ln_119, tn_120, ln_120, tn_121, ln_121, tn_122, ln_122, tn_123, ln_123, ob_124, tn_125, ln_125, tn_126, ln_126, tn_127, ln_127, tn_128, ln_128, tn_129, ln_129, tn_130, ln_130, tn_131, ln_131, tn_132, ln_132, tn_133, ln_133, ob_134, tn_135, ln_135, tn_136, ln_136, tn_137, ln_137, tn_138, ln_138, tn_139, ln_139, tn_140, ln_140, tn_141, ln_141, tn_142, ln_142, tn_143, ln_143, ob_144, tn_145, ln_145, tn_146, ln_146, tn_147, ln_147, tn_148, ln_148, tn_149, ln_149, tn_150, ln_150, tn_151, ln_151, tn_152, ln_152, tn_153, ln_153, ob_154, tn_155, ln_155, tn_156, ln_156, tn_157, ln_157, tn_158, ln_158, tn_159, ln_159, tn_160, ln_160, tn_161, ln_161, tn_162, ln_162, tn_163, ln_163, ob_164, tn_165, ln_165, tn_166, ln_166, ob_167, tn_168, ln_168, tn_169, ln_169, tn_170, ln_170, tn_171, ln_171, tn_172, ln_172, tn_173, ln_173, tn_174, ln_174, tn_175, ln_175, tn_176, ln_176, ob_177, tn_178, ln_178, tn_179, ln_179, ob_180, tn_181, ln_181, tn_182, ln_182, tn_183, ln_183, tn_184, ln_184, tn_185, ln_185, tn_186, ln_186, tn_187, ln_187, tn_188, ln_188, tn_189, ln_189, tn_190, ln_190, tn_191, ln_191, tn_192, ln_192, tn_193, ln_193, tn_194, ln_194, tn_195, ln_195, tn_196, ln_196, tn_197, ln_197, tn_198, ln_198, tn_199, ln_199, tn_200, ln_200, tn_201, ln_201, tn_202, ln_202, tn_203, ln_203, tn_204, ln_204, tn_205, ln_205, tn_206, ln_206, tn_207, ln_207, tn_208, ln_208, tn_209, ln_209, tn_210, ln_210, tn_211, ln_211, tn_212, ln_212, tn_213, ln_213, tn_214, ln_214, tn_215, ln_215, tn_216, ln_216, tn_217, ln_217, tn_218, ln_218, tn_219, ln_219, tn_220, ln_220, tn_221, ln_221, tn_222, ln_222, tn_223, ln_223, tn_224, ln_224, tn_225, ln_225, tn_226, ln_226, tn_227, ln_227, tn_228, ln_228, tn_229, ln_229, tn_230, ln_230, lx2, lx3, lx4, lx5, lx6, lx7, lx8, lx9, lx10, lx14, lx15, lx16, lx18, lx20, lx24, lx25, lx27, lx32, lx36, lx40, lx41, lx42, lx43, lx45, lx48, lx52, lx54, lx56, lx57, lx58, lx60, lx61, lx62, lx63, lx64, lx66, lx69, lx73, lx80, lx81, lx84, lx85, lx87, lx94, lx96, lx97, lx120, lx128, lx135, lx160, lx162, lx163, lx165, lx200, lx232, lx242, lx243, lx255, lx256, lx320, lx325, lx400, lx405, lx464, lx512, lx600, lx640, lx752, lx900, lx940, lx1000, lx1024, lx1764, lx3360, lx3840, lx5000, lx6400, lx9050, lx9998, lx9999, lx10000, lx25600, lx76800, lx99999, e1, other_E, xsi_sA]
    have k1 : (xi A 182 (54 + z) = xi A 182 (54 + i) ∨ xi A 182 (54 + z) = xi A 182 (54 + j)) → ¬ 42 ≤ z → xB (mg46 A P) (42 - z, 0, 0) [some (.ref 180), some (.int (nI i)), some (.int (nI j)), some (.int (xi A 182 (54 + i))), some (.int (xi A 182 (54 + j))), some (.int (if xi A 182 (54 + i) < xi A 182 (54 + j) then xi A 182 (54 + i) else xi A 182 (54 + j))), some (.int (nI (z + 1)))] [] (xsA A 182 (fun k => if k = 54 + z then (if xi A 182 (54 + i) < xi A 182 (54 + j) then xi A 182 (54 + i) else xi A 182 (54 + j)) else mgF A i j (54 + z) k)) := fun h h4 =>
      xB1 (b := 42 - (z + 1)) (by omega) ⟨i, j, z + 1, hi, hj, hP, by omega, by omega, xsA_congr fun k => by
        unfold mgF
        by_cases e : k = 54 + z
        · subst e
          rw [if_pos (show 54 + z = 54 + z from rfl), if_pos (show 56 ≤ 54 + z ∧ 54 + z < 54 + (z + 1) ∧ (xi A 182 (54 + z) = xi A 182 (54 + i) ∨ xi A 182 (54 + z) = xi A 182 (54 + j)) from ⟨by omega, by omega, h⟩)]
        · rw [if_neg e]
          by_cases e2 : k < 54 + z
          · simp only [e2, show k < 54 + (z + 1) by omega]
          · simp only [e2, show ¬ k < 54 + (z + 1) by omega, and_false, false_and], rfl, rfl, rfl⟩
    (repeat' (first | intro _ | with_reducible apply And.intro)) <;> try omega
    · have : z = 42 := by omega
      subst this; exact hP
    · rename_i a b
      exact k1 (Or.inl b) a
    · rename_i a b c
      refine xB1 (b := 42 - (z + 1)) (by omega) ⟨i, j, z + 1, hi, hj, hP, by omega, by omega, xsA_congr fun k => ?_, rfl, rfl, rfl⟩
      unfold mgF
      by_cases e : k = 54 + z
      · subst e; rw [if_neg (by omega), if_neg (fun q => by rcases q.2.2 with q | q; exact b q; exact c q)]
      · by_cases e2 : k < 54 + z
        · simp only [e2, show k < 54 + (z + 1) by omega]
        · simp only [e2, show ¬ k < 54 + (z + 1) by omega, and_false, false_and]
    · rename_i a b c
      exact k1 (Or.inr c) a
/-- a row brought back -/
def brF (A : xH) (c o z : Nat) : Nat → Int32 := fun k => if 2 ≤ k ∧ k < z then xi A c (o + (k - 2)) else xi A 182 k
def f_X12_brings (q c : Nat) (x : Int32) (A : xH) (P : xP) : Prop := q = 180 ∧ ∃ o, x = nI o ∧ ((c = 207 ∧ o + 94 ≤ 752) ∨ (c = 209 ∧ o = 0)) ∧ P none (oth (xsA A 182 (brF A c o 96)))
def br2 (c : Nat) (A : xH) (P : xP) : xM → xK := fun μ L st B => ∃ o z, ((c = 207 ∧ o + 94 ≤ 752) ∨ (c = 209 ∧ o = 0)) ∧ P none (oth (xsA A 182 (brF A c o 96))) ∧ z ≤ 94 ∧ B = xsA A 182 (brF A c o (2 + z)) ∧ st = [] ∧ L = [some (.ref 180), some (.ref c), some (.int (nI o)), some (.int (nI z))] ∧ μ = (94 - z, 0, 0)
set_option maxRecDepth 20000 in
theorem con_X12_brings (l : Launch) : xCon l yX12_brings cX12_brings 4 none 1 20 xN xN 0 xFT xFT (w_RRI f_X12_brings) := by
  refine m_X12_brings (I2 := fun q c x A P => br2 c A P) ?_ ?_
  · rintro q c x A P ⟨rfl, o, rfl, hc, hP⟩
    simp (disch := omega) only [k_X12_brings_0, k_X12_brings_2, w_R, x_aload, x_iadd, x_iald, x_icmp_ge, x_iinc, x_iload, x_istore, x_push, x_vret, y_cv0, y_getF, y_iast, xFT, xbool0, xbool1, Nat.reduceAdd, Nat.zero_add, xgl_0, xgl_s, xgl_n, xst_0, xst_1n, xst_1i, xst_1r, xst_1l, xst_s, set_0, set_s, true_and, and_true, xres, xcat_nil, xcat_i, xcat_r, xcat_l, Nat.add_zero, xble0, xble1, xble2, xble3, xble4, xble5, xble6, xble7, xble8, pk_mul, nI_add, nI_1, nI_leI, nI_ltI, nI_eq, n_in, n_cl, z_eq, z_lt, z_le, z_gt, z_ge, z_qe, o_eq, o_lt, o_le, o_gt, o_ge, vp0, vp1, cl0, cl1, n_sub, n_sub1, n_pm1, n_a0, n_0a, ofn, lN0, Nat.reduceLT, Nat.reduceLeDiff, Nat.reduceMul, Nat.reduceSub, Nat.reduceEqDiff, ne_eq, true_implies, false_implies, not_true_eq_false, not_false_eq_true, and_self, and_true, true_and, and_false, false_and, implies_true, if_true, if_false, i00, i10, i01, i11, ob_0, ob_1, tn_2, ln_2, ob_3, tn_4, ln_4, ob_5, tn_6, ln_6, tn_7, ln_7, ob_8, tn_9, ln_9, tn_10, ln_10, tn_11, ln_11, tn_12, ln_12, tn_13, ln_13, tn_14, ln_14, tn_15, ln_15, tn_16, ln_16, tn_17, ln_17, ob_18, tn_19, ln_19, tn_20, ln_20, tn_21, ln_21, tn_22, ln_22, tn_23, ln_23, tn_24, ln_24, tn_25, ln_25, tn_26, ln_26, tn_27, ln_27, ob_28, tn_29, ln_29, tn_30, ln_30, ob_31, tn_32, ln_32, tn_33, ln_33, ob_34, ob_35, tn_36, ln_36, tn_37, ln_37, tn_38, ln_38, ob_39, tn_40, ln_40, tn_41, ln_41, tn_42, ln_42, tn_43, ln_43, tn_44, ln_44, tn_45, ln_45, tn_46, ln_46, tn_47, ln_47, tn_48, ln_48, tn_49, ln_49, tn_50, ln_50, tn_51, ln_51, ob_52, tn_53, ln_53, tn_54, ln_54, tn_55, ln_55, tn_56, ln_56, ob_57, tn_58, ln_58, tn_59, ln_59, tn_60, ln_60, tn_61, ln_61, tn_62, ln_62, tn_63, ln_63, tn_64, ln_64, tn_65, ln_65, ob_66, tn_67, ln_67, tn_68, ln_68, tn_69, ln_69, tn_70, ln_70, tn_71, ln_71, tn_72, ln_72, tn_73, ln_73, ob_74, tn_75, ln_75, tn_76, ln_76, tn_77, ln_77, tn_78, ln_78, tn_79, ln_79, tn_80, ln_80, tn_81, ln_81, tn_82, ln_82, tn_83, ln_83, ob_84, tn_85, ln_85, tn_86, ln_86, tn_87, ln_87, tn_88, ln_88, tn_89, ln_89, tn_90, ln_90, tn_91, ln_91, tn_92, ln_92, tn_93, ln_93, ob_94, tn_95, ln_95, tn_96, ln_96, tn_97, ln_97, tn_98, ln_98, tn_99, ln_99, tn_100, ln_100, tn_101, ln_101, tn_102, ln_102, tn_103, ln_103, ob_104, tn_105, ln_105, tn_106, ln_106, tn_107, ln_107, tn_108, ln_108, tn_109, ln_109, tn_110, ln_110, tn_111, ln_111, tn_112, ln_112, tn_113, ln_113, ob_114, tn_115, ln_115, tn_116, ln_116, tn_117, ln_117, tn_118, ln_118, tn_119, ln_119, tn_120, ln_120, tn_121, ln_121, tn_122, ln_122, tn_123, ln_123, ob_124, tn_125, ln_125, tn_126, ln_126, tn_127, ln_127, tn_128, ln_128, tn_129, ln_129, tn_130, ln_130, tn_131, ln_131, tn_132, ln_132, tn_133, ln_133, ob_134, tn_135, ln_135, tn_136, ln_136, tn_137, ln_137, tn_138, ln_138, tn_139, ln_139, tn_140, ln_140, tn_141, ln_141, tn_142, ln_142, tn_143, ln_143, ob_144, tn_145, ln_145, tn_146, ln_146, tn_147, ln_147, tn_148, ln_148, tn_149, ln_149, tn_150, ln_150, tn_151, ln_151, tn_152, ln_152, tn_153, ln_153, ob_154, tn_155, ln_155, tn_156, ln_156, tn_157, ln_157, tn_158, ln_158, tn_159, ln_159, tn_160, ln_160, tn_161, ln_161, tn_162, ln_162, tn_163, ln_163, ob_164, tn_165, ln_165, tn_166, ln_166, ob_167, tn_168, ln_168, tn_169, ln_169, tn_170, ln_170, tn_171, ln_171, tn_172, ln_172, tn_173, ln_173, tn_174, ln_174, tn_175, ln_175, tn_176, ln_176, ob_177, tn_178, ln_178, tn_179, ln_179, ob_180, tn_181, ln_181, tn_182, ln_182, tn_183, ln_183, tn_184, ln_184, tn_185, ln_185, tn_186, ln_186, tn_187, ln_187, tn_188, ln_188, tn_189, ln_189, tn_190, ln_190, tn_191, ln_191, tn_192, ln_192, tn_193, ln_193, tn_194, ln_194, tn_195, ln_195, tn_196, ln_196, tn_197, ln_197, tn_198, ln_198, tn_199, ln_199, tn_200, ln_200, tn_201, ln_201, tn_202, ln_202, tn_203, ln_203, tn_204, ln_204, tn_205, ln_205, tn_206, ln_206, tn_207, ln_207, tn_208, ln_208, tn_209, ln_209, tn_210, ln_210, tn_211, ln_211, tn_212, ln_212, tn_213, ln_213, tn_214, ln_214, tn_215, ln_215, tn_216, ln_216, tn_217, ln_217, tn_218, ln_218, tn_219, ln_219, tn_220, ln_220, tn_221, ln_221, tn_222, ln_222, tn_223, ln_223, tn_224, ln_224, tn_225, ln_225, tn_226, ln_226, tn_227, ln_227, tn_228, ln_228, tn_229, ln_229, tn_230, ln_230, lx2, lx3, lx4, lx5, lx6, lx7, lx8, lx9, lx10, lx14, lx15, lx16, lx18, lx20, lx24, lx25, lx27, lx32, lx36, lx40, lx41, lx42, lx43, lx45, lx48, lx52, lx54, lx56, lx57, lx58, lx60, lx61, lx62, lx63, lx64, lx66, lx69, lx73, lx80, lx81, lx84, lx85, lx87, lx94, lx96, lx97, lx120, lx128, lx135, lx160, lx162, lx163, lx165, lx200, lx232, lx242, lx243, lx255, lx256, lx320, lx325, lx400, lx405, lx464, lx512, lx600, lx640, lx752, lx900, lx940, lx1000, lx1024, lx1764, lx3360, lx3840, lx5000, lx6400, lx9050, lx9998, lx9999, lx10000, lx25600, lx76800, lx99999]
    exact xE0 (94, 0, 0) ⟨o, 0, hc, hP, by omega, (xsA_self fun k => by unfold brF; rw [if_neg (by omega)]).symm, rfl, rfl, rfl⟩
  · rintro q c x A P - μ L st B ⟨o, z, hc, hP, hz, rfl, rfl, rfl, rfl⟩
    have ht : xtn xN c = 1 ∧ o + 94 ≤ (xsh c).2 ∧ (xsh c).2 ≤ 752 := by rcases hc with ⟨rfl, h⟩ | ⟨rfl, rfl⟩; exact ⟨by decide +kernel, h, by decide +kernel⟩; exact ⟨by decide +kernel, by decide +kernel, by decide +kernel⟩
    simp (disch := omega) only [k_X12_brings_0, k_X12_brings_2, w_R, x_aload, x_iadd, x_iald, x_icmp_ge, x_iinc, x_iload, x_istore, x_push, x_vret, y_cv0, y_getF, y_iast, xFT, xbool0, xbool1, Nat.reduceAdd, Nat.zero_add, xgl_0, xgl_s, xgl_n, xst_0, xst_1n, xst_1i, xst_1r, xst_1l, xst_s, set_0, set_s, true_and, and_true, xres, xcat_nil, xcat_i, xcat_r, xcat_l, Nat.add_zero, xble0, xble1, xble2, xble3, xble4, xble5, xble6, xble7, xble8, pk_mul, nI_add, nI_1, nI_leI, nI_ltI, nI_eq, n_in, n_cl, z_eq, z_lt, z_le, z_gt, z_ge, z_qe, o_eq, o_lt, o_le, o_gt, o_ge, vp0, vp1, cl0, cl1, n_sub, n_sub1, n_pm1, n_a0, n_0a, ofn, lN0, Nat.reduceLT, Nat.reduceLeDiff, Nat.reduceMul, Nat.reduceSub, Nat.reduceEqDiff, ne_eq, true_implies, false_implies, not_true_eq_false, not_false_eq_true, and_self, and_true, true_and, and_false, false_and, implies_true, if_true, if_false, i00, i10, i01, i11, ob_0, ob_1, tn_2, ln_2, ob_3, tn_4, ln_4, ob_5, tn_6, ln_6, tn_7, ln_7, ob_8, tn_9, ln_9, tn_10, ln_10, tn_11, ln_11, tn_12, ln_12, tn_13, ln_13, tn_14, ln_14, tn_15, ln_15, tn_16, ln_16, tn_17, ln_17, ob_18, tn_19, ln_19, tn_20, ln_20, tn_21, ln_21, tn_22, ln_22, tn_23, ln_23, tn_24, ln_24, tn_25, ln_25, tn_26, ln_26, tn_27, ln_27, ob_28, tn_29, ln_29, tn_30, ln_30, ob_31, tn_32, ln_32, tn_33, ln_33, ob_34, ob_35, tn_36, ln_36, tn_37, ln_37, tn_38, ln_38, ob_39, tn_40, ln_40, tn_41, ln_41, tn_42, ln_42, tn_43, ln_43, tn_44, ln_44, tn_45, ln_45, tn_46, ln_46, tn_47, ln_47, tn_48, ln_48, tn_49, ln_49, tn_50, ln_50, tn_51, ln_51, ob_52, tn_53, ln_53, tn_54, ln_54, tn_55, ln_55, tn_56, ln_56, ob_57, tn_58, ln_58, tn_59, ln_59, tn_60, ln_60, tn_61, ln_61, tn_62, ln_62, tn_63, ln_63, tn_64, ln_64, tn_65, ln_65, ob_66, tn_67, ln_67, tn_68, ln_68, tn_69, ln_69, tn_70, ln_70, tn_71, ln_71, tn_72, ln_72, tn_73, ln_73, ob_74, tn_75, ln_75, tn_76, ln_76, tn_77, ln_77, tn_78, ln_78, tn_79, ln_79, tn_80, ln_80, tn_81, ln_81, tn_82, ln_82, tn_83, ln_83, ob_84, tn_85, ln_85, tn_86, ln_86, tn_87, ln_87, tn_88, ln_88, tn_89, ln_89, tn_90, ln_90, tn_91, ln_91, tn_92, ln_92, tn_93, ln_93, ob_94, tn_95, ln_95, tn_96, ln_96, tn_97, ln_97, tn_98, ln_98, tn_99, ln_99, tn_100, ln_100, tn_101, ln_101, tn_102, ln_102, tn_103, ln_103, ob_104, tn_105, ln_105, tn_106, ln_106, tn_107, ln_107, tn_108, ln_108, tn_109, ln_109, tn_110, ln_110, tn_111, ln_111, tn_112, ln_112, tn_113, ln_113, ob_114, tn_115, ln_115, tn_116, ln_116, tn_117, ln_117, tn_118, ln_118, tn_119, ln_119, tn_120, ln_120, tn_121, ln_121, tn_122, ln_122, tn_123, ln_123, ob_124, tn_125, ln_125, tn_126, ln_126, tn_127, ln_127, tn_128, ln_128, tn_129, ln_129, tn_130, ln_130, tn_131, ln_131, tn_132, ln_132, tn_133, ln_133, ob_134, tn_135, ln_135, tn_136, ln_136, tn_137, ln_137, tn_138, ln_138, tn_139, ln_139, tn_140, ln_140, tn_141, ln_141, tn_142, ln_142, tn_143, ln_143, ob_144, tn_145, ln_145, tn_146, ln_146, tn_147, ln_147, tn_148, ln_148, tn_149, ln_149, tn_150, ln_150, tn_151, ln_151, tn_152, ln_152, tn_153, ln_153, ob_154, tn_155, ln_155, tn_156, ln_156, tn_157, ln_157, tn_158, ln_158, tn_159, ln_159, tn_160, ln_160, tn_161, ln_161, tn_162, ln_162, tn_163, ln_163, ob_164, tn_165, ln_165, tn_166, ln_166, ob_167, tn_168, ln_168, tn_169, ln_169, tn_170, ln_170, tn_171, ln_171, tn_172, ln_172, tn_173, ln_173, tn_174, ln_174, tn_175, ln_175, tn_176, ln_176, ob_177, tn_178, ln_178, tn_179, ln_179, ob_180, tn_181, ln_181, tn_182, ln_182, tn_183, ln_183, tn_184, ln_184, tn_185, ln_185, tn_186, ln_186, tn_187, ln_187, tn_188, ln_188, tn_189, ln_189, tn_190, ln_190, tn_191, ln_191, tn_192, ln_192, tn_193, ln_193, tn_194, ln_194, tn_195, ln_195, tn_196, ln_196, tn_197, ln_197, tn_198, ln_198, tn_199, ln_199, tn_200, ln_200, tn_201, ln_201, tn_202, ln_202, tn_203, ln_203, tn_204, ln_204, tn_205, ln_205, tn_206, ln_206, tn_207, ln_207, tn_208, ln_208, tn_209, ln_209, tn_210, ln_210, tn_211, ln_211, tn_212, ln_212, tn_213, ln_213, tn_214, ln_214, tn_215, ln_215, tn_216, ln_216, tn_217, ln_217, tn_218, ln_218, tn_219, ln_219, tn_220, ln_220, tn_221, ln_221, tn_222, ln_222, tn_223, ln_223, tn_224, ln_224, tn_225, ln_225, tn_226, ln_226, tn_227, ln_227, tn_228, ln_228, tn_229, ln_229, tn_230, ln_230, lx2, lx3, lx4, lx5, lx6, lx7, lx8, lx9, lx10, lx14, lx15, lx16, lx18, lx20, lx24, lx25, lx27, lx32, lx36, lx40, lx41, lx42, lx43, lx45, lx48, lx52, lx54, lx56, lx57, lx58, lx60, lx61, lx62, lx63, lx64, lx66, lx69, lx73, lx80, lx81, lx84, lx85, lx87, lx94, lx96, lx97, lx120, lx128, lx135, lx160, lx162, lx163, lx165, lx200, lx232, lx242, lx243, lx255, lx256, lx320, lx325, lx400, lx405, lx464, lx512, lx600, lx640, lx752, lx900, lx940, lx1000, lx1024, lx1764, lx3360, lx3840, lx5000, lx6400, lx9050, lx9998, lx9999, lx10000, lx25600, lx76800, lx99999, si_ne, si_eq, sl_ne, sl_eq, xl_si, xi_sl, sA_ne, sA_eq, xl_sA, other_E, xsi_sA, ht.1]
    (repeat' (first | intro _ | with_reducible apply And.intro)) <;> try omega
    · have : z = 94 := by omega
      subst this; exact hP
    · refine xB1 (b := 94 - (z + 1)) (by omega) ⟨o, z + 1, hc, hP, by omega, xsA_congr fun j => ?_, rfl, rfl, rfl⟩
      unfold brF
      (repeat' split) <;> first | rfl | omega | (exfalso; omega) | (congr 1; omega) | (congr 2; omega)
/-- a rule dropped -/
def dp1 (A : xH) (r z : Nat) : Nat → Int32 := fun m => if 4 + 5 * r ≤ m ∧ m < z then xi A 182 (m + 5) else xi A 182 m
def dp2 (A : xH) (R r z : Nat) : Nat → Int32 := fun m => if 4 + 5 * (R - 1) ≤ m ∧ m < 4 + 5 * (R - 1) + z then 0 else if m = 2 then nI (R - 1) else dp1 A r (4 + 5 * (R - 1)) m
def f_X12_drops (q : Nat) (x : Int32) (A : xH) (P : xP) : Prop := q = 180 ∧ ∃ R r, x = nI r ∧ xi A 182 2 = nI R ∧ r < R ∧ R ≤ 10 ∧ P none (alo (xsA A 182 (dp2 A R r 5)))
def drI (A : xH) (P : xP) (R r : Nat) : Prop := xi A 182 2 = nI R ∧ r < R ∧ R ≤ 10 ∧ P none (alo (xsA A 182 (dp2 A R r 5)))
def dr2 (A : xH) (P : xP) : xM → xK := fun μ L st B => ∃ R r k o, drI A P R r ∧ r ≤ k ∧ k ≤ R - 1 ∧ B = xsA A 182 (dp1 A r (4 + 5 * k)) ∧ st = [] ∧ L = [some (.ref 180), some (.int (nI r)), some (.int (nI k)), o] ∧ μ = (20 - k, 9, 0)
def dr16 (A : xH) (P : xP) : xM → xK := fun μ L st B => ∃ R r k i, drI A P R r ∧ r ≤ k ∧ k < R - 1 ∧ i ≤ 5 ∧ B = xsA A 182 (dp1 A r (4 + 5 * k + i)) ∧ st = [] ∧ L = [some (.ref 180), some (.int (nI r)), some (.int (nI k)), some (.int (nI i))] ∧ μ = (20 - k, 5 - i, 0)
def dr71 (A : xH) (P : xP) : xM → xK := fun μ L st B => ∃ R r i o, drI A P R r ∧ i ≤ 5 ∧ B = xsA A 182 (dp2 A R r i) ∧ st = [] ∧ L = [some (.ref 180), some (.int (nI r)), some (.int (nI i)), o] ∧ μ = (5 - i, 0, 0)
set_option maxRecDepth 20000 in
theorem con_X12_drops (l : Launch) : xCon l yX12_drops cX12_drops 4 none 2 41 xN xN 0 xFT xFT (w_RI f_X12_drops) := by
  refine m_X12_drops (I2 := fun q x A P => dr2 A P) (I16 := fun q x A P => dr16 A P) (I71 := fun q x A P => dr71 A P) ?_ ?_ ?_ ?_
  · rintro q x A P ⟨rfl, R, r, rfl, h2, hr, hR, hP⟩
    simp (disch := omega) only [k_X12_drops_0, k_X12_drops_2, k_X12_drops_16, k_X12_drops_71, w_R, x_aload, x_dup2, x_iadd, x_icmp_ge, x_iinc, x_iload, x_imul, x_istore, x_isub, x_push, x_vret, y_cv0, y_getF, y_iald, y_iast, xFT, xbool0, xbool1, Nat.reduceAdd, Nat.zero_add, xgl_0, xgl_s, xgl_n, xst_0, xst_1n, xst_1i, xst_1r, xst_1l, xst_s, set_0, set_s, true_and, and_true, xres, xcat_nil, xcat_i, xcat_r, xcat_l, Nat.add_zero, xble0, xble1, xble2, xble3, xble4, xble5, xble6, xble7, xble8, pk_mul, nI_add, nI_1, nI_leI, nI_ltI, nI_eq, n_in, n_cl, z_eq, z_lt, z_le, z_gt, z_ge, z_qe, o_eq, o_lt, o_le, o_gt, o_ge, vp0, vp1, cl0, cl1, n_sub, n_sub1, n_pm1, n_a0, n_0a, ofn, lN0, Nat.reduceLT, Nat.reduceLeDiff, Nat.reduceMul, Nat.reduceSub, Nat.reduceEqDiff, ne_eq, true_implies, false_implies, not_true_eq_false, not_false_eq_true, and_self, and_true, true_and, and_false, false_and, implies_true, if_true, if_false, i00, i10, i01, i11, ob_0, ob_1, tn_2, ln_2, ob_3, tn_4, ln_4, ob_5, tn_6, ln_6, tn_7, ln_7, ob_8, tn_9, ln_9, tn_10, ln_10, tn_11, ln_11, tn_12, ln_12, tn_13, ln_13, tn_14, ln_14, tn_15, ln_15, tn_16, ln_16, tn_17, ln_17, ob_18, tn_19, ln_19, tn_20, ln_20, tn_21, ln_21, tn_22, ln_22, tn_23, ln_23, tn_24, ln_24, tn_25, ln_25, tn_26, ln_26, tn_27, ln_27, ob_28, tn_29, ln_29, tn_30, ln_30, ob_31, tn_32, ln_32, tn_33, ln_33, ob_34, ob_35, tn_36, ln_36, tn_37, ln_37, tn_38, ln_38, ob_39, tn_40, ln_40, tn_41, ln_41, tn_42, ln_42, tn_43, ln_43, tn_44, ln_44, tn_45, ln_45, tn_46, ln_46, tn_47, ln_47, tn_48, ln_48, tn_49, ln_49, tn_50, ln_50, tn_51, ln_51, ob_52, tn_53, ln_53, tn_54, ln_54, tn_55, ln_55, tn_56, ln_56, ob_57, tn_58, ln_58, tn_59, ln_59, tn_60, ln_60, tn_61, ln_61, tn_62, ln_62, tn_63, ln_63, tn_64, ln_64, tn_65, ln_65, ob_66, tn_67, ln_67, tn_68, ln_68, tn_69, ln_69, tn_70, ln_70, tn_71, ln_71, tn_72, ln_72, tn_73, ln_73, ob_74, tn_75, ln_75, tn_76, ln_76, tn_77, ln_77, tn_78, ln_78, tn_79, ln_79, tn_80, ln_80, tn_81, ln_81, tn_82, ln_82, tn_83, ln_83, ob_84, tn_85, ln_85, tn_86, ln_86, tn_87, ln_87, tn_88, ln_88, tn_89, ln_89, tn_90, ln_90, tn_91, ln_91, tn_92, ln_92, tn_93, ln_93, ob_94, tn_95, ln_95, tn_96, ln_96, tn_97, ln_97, tn_98, ln_98, tn_99, ln_99, tn_100, ln_100, tn_101, ln_101, tn_102, ln_102, tn_103, ln_103, ob_104, tn_105, ln_105, tn_106, ln_106, tn_107, ln_107, tn_108, ln_108, tn_109, ln_109, tn_110, ln_110, tn_111, ln_111, tn_112, ln_112, tn_113, ln_113, ob_114, tn_115, ln_115, tn_116, ln_116, tn_117, ln_117, tn_118, ln_118, tn_119, ln_119, tn_120, ln_120, tn_121, ln_121, tn_122, ln_122, tn_123, ln_123, ob_124, tn_125, ln_125, tn_126, ln_126, tn_127, ln_127, tn_128, ln_128, tn_129, ln_129, tn_130, ln_130, tn_131, ln_131, tn_132, ln_132, tn_133, ln_133, ob_134, tn_135, ln_135, tn_136, ln_136, tn_137, ln_137, tn_138, ln_138, tn_139, ln_139, tn_140, ln_140, tn_141, ln_141, tn_142, ln_142, tn_143, ln_143, ob_144, tn_145, ln_145, tn_146, ln_146, tn_147, ln_147, tn_148, ln_148, tn_149, ln_149, tn_150, ln_150, tn_151, ln_151, tn_152, ln_152, tn_153, ln_153, ob_154, tn_155, ln_155, tn_156, ln_156, tn_157, ln_157, tn_158, ln_158, tn_159, ln_159, tn_160, ln_160, tn_161, ln_161, tn_162, ln_162, tn_163, ln_163, ob_164, tn_165, ln_165, tn_166, ln_166, ob_167, tn_168, ln_168, tn_169, ln_169, tn_170, ln_170, tn_171, ln_171, tn_172, ln_172, tn_173, ln_173, tn_174, ln_174, tn_175, ln_175, tn_176, ln_176, ob_177, tn_178, ln_178, tn_179, ln_179, ob_180, tn_181, ln_181, tn_182, ln_182, tn_183, ln_183, tn_184, ln_184, tn_185, ln_185, tn_186, ln_186, tn_187, ln_187, tn_188, ln_188, tn_189, ln_189, tn_190, ln_190, tn_191, ln_191, tn_192, ln_192, tn_193, ln_193, tn_194, ln_194, tn_195, ln_195, tn_196, ln_196, tn_197, ln_197, tn_198, ln_198, tn_199, ln_199, tn_200, ln_200, tn_201, ln_201, tn_202, ln_202, tn_203, ln_203, tn_204, ln_204, tn_205, ln_205, tn_206, ln_206, tn_207, ln_207, tn_208, ln_208, tn_209, ln_209, tn_210, ln_210, tn_211, ln_211, tn_212, ln_212, tn_213, ln_213, tn_214, ln_214, tn_215, ln_215, tn_216, ln_216, tn_217, ln_217, tn_218, ln_218, tn_219, ln_219, tn_220, ln_220, tn_221, ln_221, tn_222, ln_222, tn_223, ln_223, tn_224, ln_224, tn_225, ln_225, tn_226, ln_226, tn_227, ln_227, tn_228, ln_228, tn_229, ln_229, tn_230, ln_230, lx2, lx3, lx4, lx5, lx6, lx7, lx8, lx9, lx10, lx14, lx15, lx16, lx18, lx20, lx24, lx25, lx27, lx32, lx36, lx40, lx41, lx42, lx43, lx45, lx48, lx52, lx54, lx56, lx57, lx58, lx60, lx61, lx62, lx63, lx64, lx66, lx69, lx73, lx80, lx81, lx84, lx85, lx87, lx94, lx96, lx97, lx120, lx128, lx135, lx160, lx162, lx163, lx165, lx200, lx232, lx242, lx243, lx255, lx256, lx320, lx325, lx400, lx405, lx464, lx512, lx600, lx640, lx752, lx900, lx940, lx1000, lx1024, lx1764, lx3360, lx3840, lx5000, lx6400, lx9050, lx9998, lx9999, lx10000, lx25600, lx76800, lx99999]
    exact xE0 (20 - r, 9, 0) ⟨R, r, r, none, ⟨h2, hr, hR, hP⟩, Nat.le_refl _, by omega, (xsA_self fun k => by unfold dp1; rw [if_neg (by omega)]).symm, rfl, rfl, rfl⟩
  · rintro q x A P - μ L st B ⟨R, r, k, o, ⟨h2, hr, hR, hP⟩, hk, hk2, rfl, rfl, rfl, rfl⟩
    have e2 : dp1 A r (4 + 5 * k) 2 = nI R := by unfold dp1; rw [if_neg (by omega)]; exact h2
    simp (disch := omega) only [k_X12_drops_0, k_X12_drops_2, k_X12_drops_16, k_X12_drops_71, w_R, x_aload, x_dup2, x_iadd, x_icmp_ge, x_iinc, x_iload, x_imul, x_istore, x_isub, x_push, x_vret, y_cv0, y_getF, y_iald, y_iast, xFT, xbool0, xbool1, Nat.reduceAdd, Nat.zero_add, xgl_0, xgl_s, xgl_n, xst_0, xst_1n, xst_1i, xst_1r, xst_1l, xst_s, set_0, set_s, true_and, and_true, xres, xcat_nil, xcat_i, xcat_r, xcat_l, Nat.add_zero, xble0, xble1, xble2, xble3, xble4, xble5, xble6, xble7, xble8, pk_mul, nI_add, nI_1, nI_leI, nI_ltI, nI_eq, n_in, n_cl, z_eq, z_lt, z_le, z_gt, z_ge, z_qe, o_eq, o_lt, o_le, o_gt, o_ge, vp0, vp1, cl0, cl1, n_sub, n_sub1, n_pm1, n_a0, n_0a, ofn, lN0, Nat.reduceLT, Nat.reduceLeDiff, Nat.reduceMul, Nat.reduceSub, Nat.reduceEqDiff, ne_eq, true_implies, false_implies, not_true_eq_false, not_false_eq_true, and_self, and_true, true_and, and_false, false_and, implies_true, if_true, if_false, i00, i10, i01, i11, ob_0, ob_1, tn_2, ln_2, ob_3, tn_4, ln_4, ob_5, tn_6, ln_6, tn_7, ln_7, ob_8, tn_9, ln_9, tn_10, ln_10, tn_11, ln_11, tn_12, ln_12, tn_13, ln_13, tn_14, ln_14, tn_15, ln_15, tn_16, ln_16, tn_17, ln_17, ob_18, tn_19, ln_19, tn_20, ln_20, tn_21, ln_21, tn_22, ln_22, tn_23, ln_23, tn_24, ln_24, tn_25, ln_25, tn_26, ln_26, tn_27, ln_27, ob_28, tn_29, ln_29, tn_30, ln_30, ob_31, tn_32, ln_32, tn_33, ln_33, ob_34, ob_35, tn_36, ln_36, tn_37, ln_37, tn_38, ln_38, ob_39, tn_40, ln_40, tn_41, ln_41, tn_42, ln_42, tn_43, ln_43, tn_44, ln_44, tn_45, ln_45, tn_46, ln_46, tn_47, ln_47, tn_48, ln_48, tn_49, ln_49, tn_50, ln_50, tn_51, ln_51, ob_52, tn_53, ln_53, tn_54, ln_54, tn_55, ln_55, tn_56, ln_56, ob_57, tn_58, ln_58, tn_59, ln_59, tn_60, ln_60, tn_61, ln_61, tn_62, ln_62, tn_63, ln_63, tn_64, ln_64, tn_65, ln_65, ob_66, tn_67, ln_67, tn_68, ln_68, tn_69, ln_69, tn_70, ln_70, tn_71, ln_71, tn_72, ln_72, tn_73, ln_73, ob_74, tn_75, ln_75, tn_76, ln_76, tn_77, ln_77, tn_78, ln_78, tn_79, ln_79, tn_80, ln_80, tn_81, ln_81, tn_82, ln_82, tn_83, ln_83, ob_84, tn_85, ln_85, tn_86, ln_86, tn_87, ln_87, tn_88, ln_88, tn_89, ln_89, tn_90, ln_90, tn_91, ln_91, tn_92, ln_92, tn_93, ln_93, ob_94, tn_95, ln_95, tn_96, ln_96, tn_97, ln_97, tn_98, ln_98, tn_99, ln_99, tn_100, ln_100, tn_101, ln_101, tn_102, ln_102, tn_103, ln_103, ob_104, tn_105, ln_105, tn_106, ln_106, tn_107, ln_107, tn_108, ln_108, tn_109, ln_109, tn_110, ln_110, tn_111, ln_111, tn_112, ln_112, tn_113, ln_113, ob_114, tn_115, ln_115, tn_116, ln_116, tn_117, ln_117, tn_118, ln_118, tn_119, ln_119, tn_120, ln_120, tn_121, ln_121, tn_122, ln_122, tn_123, ln_123, ob_124, tn_125, ln_125, tn_126, ln_126, tn_127, ln_127, tn_128, ln_128, tn_129, ln_129, tn_130, ln_130, tn_131, ln_131, tn_132, ln_132, tn_133, ln_133, ob_134, tn_135, ln_135, tn_136, ln_136, tn_137, ln_137, tn_138, ln_138, tn_139, ln_139, tn_140, ln_140, tn_141, ln_141, tn_142, ln_142, tn_143, ln_143, ob_144, tn_145, ln_145, tn_146, ln_146, tn_147, ln_147, tn_148, ln_148, tn_149, ln_149, tn_150, ln_150, tn_151, ln_151, tn_152, ln_152, tn_153, ln_153, ob_154, tn_155, ln_155, tn_156, ln_156, tn_157, ln_157, tn_158, ln_158, tn_159, ln_159, tn_160, ln_160, tn_161, ln_161, tn_162, ln_162, tn_163, ln_163, ob_164, tn_165, ln_165, tn_166, ln_166, ob_167, tn_168, ln_168, tn_169, ln_169, tn_170, ln_170, tn_171, ln_171, tn_172, ln_172, tn_173, ln_173, tn_174, ln_174, tn_175, ln_175, tn_176, ln_176, ob_177, tn_178, ln_178, tn_179, ln_179, ob_180, tn_181, ln_181, tn_182, ln_182, tn_183, ln_183, tn_184, ln_184, tn_185, ln_185, tn_186, ln_186, tn_187, ln_187, tn_188, ln_188, tn_189, ln_189, tn_190, ln_190, tn_191, ln_191, tn_192, ln_192, tn_193, ln_193, tn_194, ln_194, tn_195, ln_195, tn_196, ln_196, tn_197, ln_197, tn_198, ln_198, tn_199, ln_199, tn_200, ln_200, tn_201, ln_201, tn_202, ln_202, tn_203, ln_203, tn_204, ln_204, tn_205, ln_205, tn_206, ln_206, tn_207, ln_207, tn_208, ln_208, tn_209, ln_209, tn_210, ln_210, tn_211, ln_211, tn_212, ln_212, tn_213, ln_213, tn_214, ln_214, tn_215, ln_215, tn_216, ln_216, tn_217, ln_217, tn_218, ln_218, tn_219, ln_219, tn_220, ln_220, tn_221, ln_221, tn_222, ln_222, tn_223, ln_223, tn_224, ln_224, tn_225, ln_225, tn_226, ln_226, tn_227, ln_227, tn_228, ln_228, tn_229, ln_229, tn_230, ln_230, lx2, lx3, lx4, lx5, lx6, lx7, lx8, lx9, lx10, lx14, lx15, lx16, lx18, lx20, lx24, lx25, lx27, lx32, lx36, lx40, lx41, lx42, lx43, lx45, lx48, lx52, lx54, lx56, lx57, lx58, lx60, lx61, lx62, lx63, lx64, lx66, lx69, lx73, lx80, lx81, lx84, lx85, lx87, lx94, lx96, lx97, lx120, lx128, lx135, lx160, lx162, lx163, lx165, lx200, lx232, lx242, lx243, lx255, lx256, lx320, lx325, lx400, lx405, lx464, lx512, lx600, lx640, lx752, lx900, lx940, lx1000, lx1024, lx1764, lx3360, lx3840, lx5000, lx6400, lx9050, lx9998, lx9999, lx10000, lx25600, lx76800, lx99999, si_ne, si_eq, sl_ne, sl_eq, xl_si, xi_sl, sA_ne, sA_eq, xl_sA, xsi_sA, e2]
    (repeat' (first | intro _ | with_reducible apply And.intro)) <;> try omega
    · refine xE0 (5, 0, 0) ⟨R, r, 0, o, ⟨h2, hr, hR, hP⟩, by omega, xsA_congr fun m => ?_, rfl, rfl, rfl⟩
      have : k = R - 1 := by omega
      subst this
      unfold dp2
      (repeat' split) <;> first | rfl | omega | (exfalso; omega) | (congr 1; omega) | (congr 2; omega)
    · exact xB2 (c := 5) (by omega) ⟨R, r, k, 0, ⟨h2, hr, hR, hP⟩, hk, by omega, by omega, rfl, rfl, rfl, rfl⟩
  · rintro q x A P - μ L st B ⟨R, r, k, i, ⟨h2, hr, hR, hP⟩, hk, hk2, hi, rfl, rfl, rfl, rfl⟩
    simp (disch := omega) only [k_X12_drops_0, k_X12_drops_2, k_X12_drops_16, k_X12_drops_71, w_R, x_aload, x_dup2, x_iadd, x_icmp_ge, x_iinc, x_iload, x_imul, x_istore, x_isub, x_push, x_vret, y_cv0, y_getF, y_iald, y_iast, xFT, xbool0, xbool1, Nat.reduceAdd, Nat.zero_add, xgl_0, xgl_s, xgl_n, xst_0, xst_1n, xst_1i, xst_1r, xst_1l, xst_s, set_0, set_s, true_and, and_true, xres, xcat_nil, xcat_i, xcat_r, xcat_l, Nat.add_zero, xble0, xble1, xble2, xble3, xble4, xble5, xble6, xble7, xble8, pk_mul, nI_add, nI_1, nI_leI, nI_ltI, nI_eq, n_in, n_cl, z_eq, z_lt, z_le, z_gt, z_ge, z_qe, o_eq, o_lt, o_le, o_gt, o_ge, vp0, vp1, cl0, cl1, n_sub, n_sub1, n_pm1, n_a0, n_0a, ofn, lN0, Nat.reduceLT, Nat.reduceLeDiff, Nat.reduceMul, Nat.reduceSub, Nat.reduceEqDiff, ne_eq, true_implies, false_implies, not_true_eq_false, not_false_eq_true, and_self, and_true, true_and, and_false, false_and, implies_true, if_true, if_false, i00, i10, i01, i11, ob_0, ob_1, tn_2, ln_2, ob_3, tn_4, ln_4, ob_5, tn_6, ln_6, tn_7, ln_7, ob_8, tn_9, ln_9, tn_10, ln_10, tn_11, ln_11, tn_12, ln_12, tn_13, ln_13, tn_14, ln_14, tn_15, ln_15, tn_16, ln_16, tn_17, ln_17, ob_18, tn_19, ln_19, tn_20, ln_20, tn_21, ln_21, tn_22, ln_22, tn_23, ln_23, tn_24, ln_24, tn_25, ln_25, tn_26, ln_26, tn_27, ln_27, ob_28, tn_29, ln_29, tn_30, ln_30, ob_31, tn_32, ln_32, tn_33, ln_33, ob_34, ob_35, tn_36, ln_36, tn_37, ln_37, tn_38, ln_38, ob_39, tn_40, ln_40, tn_41, ln_41, tn_42, ln_42, tn_43, ln_43, tn_44, ln_44, tn_45, ln_45, tn_46, ln_46, tn_47, ln_47, tn_48, ln_48, tn_49, ln_49, tn_50, ln_50, tn_51, ln_51, ob_52, tn_53, ln_53, tn_54, ln_54, tn_55, ln_55, tn_56, ln_56, ob_57, tn_58, ln_58, tn_59, ln_59, tn_60, ln_60, tn_61, ln_61, tn_62, ln_62, tn_63, ln_63, tn_64, ln_64, tn_65, ln_65, ob_66, tn_67, ln_67, tn_68, ln_68, tn_69, ln_69, tn_70, ln_70, tn_71, ln_71, tn_72, ln_72, tn_73, ln_73, ob_74, tn_75, ln_75, tn_76, ln_76, tn_77, ln_77, tn_78, ln_78, tn_79, ln_79, tn_80, ln_80, tn_81, ln_81, tn_82, ln_82, tn_83, ln_83, ob_84, tn_85, ln_85, tn_86, ln_86, tn_87, ln_87, tn_88, ln_88, tn_89, ln_89, tn_90, ln_90, tn_91, ln_91, tn_92, ln_92, tn_93, ln_93, ob_94, tn_95, ln_95, tn_96, ln_96, tn_97, ln_97, tn_98, ln_98, tn_99, ln_99, tn_100, ln_100, tn_101, ln_101, tn_102, ln_102, tn_103, ln_103, ob_104, tn_105, ln_105, tn_106, ln_106, tn_107, ln_107, tn_108, ln_108, tn_109, ln_109, tn_110, ln_110, tn_111, ln_111, tn_112, ln_112, tn_113, ln_113, ob_114, tn_115, ln_115, tn_116, ln_116, tn_117, ln_117, tn_118, ln_118, tn_119, ln_119, tn_120, ln_120, tn_121, ln_121, tn_122, ln_122, tn_123, ln_123, ob_124, tn_125, ln_125, tn_126, ln_126, tn_127, ln_127, tn_128, ln_128, tn_129, ln_129, tn_130, ln_130, tn_131, ln_131, tn_132, ln_132, tn_133, ln_133, ob_134, tn_135, ln_135, tn_136, ln_136, tn_137, ln_137, tn_138, ln_138, tn_139, ln_139, tn_140, ln_140, tn_141, ln_141, tn_142, ln_142, tn_143, ln_143, ob_144, tn_145, ln_145, tn_146, ln_146, tn_147, ln_147, tn_148, ln_148, tn_149, ln_149, tn_150, ln_150, tn_151, ln_151, tn_152, ln_152, tn_153, ln_153, ob_154, tn_155, ln_155, tn_156, ln_156, tn_157, ln_157, tn_158, ln_158, tn_159, ln_159, tn_160, ln_160, tn_161, ln_161, tn_162, ln_162, tn_163, ln_163, ob_164, tn_165, ln_165, tn_166, ln_166, ob_167, tn_168, ln_168, tn_169, ln_169, tn_170, ln_170, tn_171, ln_171, tn_172, ln_172, tn_173, ln_173, tn_174, ln_174, tn_175, ln_175, tn_176, ln_176, ob_177, tn_178, ln_178, tn_179, ln_179, ob_180, tn_181, ln_181, tn_182, ln_182, tn_183, ln_183, tn_184, ln_184, tn_185, ln_185, tn_186, ln_186, tn_187, ln_187, tn_188, ln_188, tn_189, ln_189, tn_190, ln_190, tn_191, ln_191, tn_192, ln_192, tn_193, ln_193, tn_194, ln_194, tn_195, ln_195, tn_196, ln_196, tn_197, ln_197, tn_198, ln_198, tn_199, ln_199, tn_200, ln_200, tn_201, ln_201, tn_202, ln_202, tn_203, ln_203, tn_204, ln_204, tn_205, ln_205, tn_206, ln_206, tn_207, ln_207, tn_208, ln_208, tn_209, ln_209, tn_210, ln_210, tn_211, ln_211, tn_212, ln_212, tn_213, ln_213, tn_214, ln_214, tn_215, ln_215, tn_216, ln_216, tn_217, ln_217, tn_218, ln_218, tn_219, ln_219, tn_220, ln_220, tn_221, ln_221, tn_222, ln_222, tn_223, ln_223, tn_224, ln_224, tn_225, ln_225, tn_226, ln_226, tn_227, ln_227, tn_228, ln_228, tn_229, ln_229, tn_230, ln_230, lx2, lx3, lx4, lx5, lx6, lx7, lx8, lx9, lx10, lx14, lx15, lx16, lx18, lx20, lx24, lx25, lx27, lx32, lx36, lx40, lx41, lx42, lx43, lx45, lx48, lx52, lx54, lx56, lx57, lx58, lx60, lx61, lx62, lx63, lx64, lx66, lx69, lx73, lx80, lx81, lx84, lx85, lx87, lx94, lx96, lx97, lx120, lx128, lx135, lx160, lx162, lx163, lx165, lx200, lx232, lx242, lx243, lx255, lx256, lx320, lx325, lx400, lx405, lx464, lx512, lx600, lx640, lx752, lx900, lx940, lx1000, lx1024, lx1764, lx3360, lx3840, lx5000, lx6400, lx9050, lx9998, lx9999, lx10000, lx25600, lx76800, lx99999, si_ne, si_eq, sl_ne, sl_eq, xl_si, xi_sl, sA_ne, sA_eq, xl_sA, xsi_sA]
    (repeat' (first | intro _ | with_reducible apply And.intro)) <;> try omega
    · exact xB1 (b := 20 - (k + 1)) (by omega) ⟨R, r, k + 1, _, ⟨h2, hr, hR, hP⟩, by omega, by omega, by rw [show 4 + 5 * k + i = 4 + 5 * (k + 1) by omega], rfl, rfl, rfl⟩
    · refine xB2 (c := 5 - (i + 1)) (by omega) ⟨R, r, k, i + 1, ⟨h2, hr, hR, hP⟩, hk, by omega, by omega, xsA_congr fun m => ?_, rfl, rfl, rfl⟩
      unfold dp1
      (repeat' split) <;> first | rfl | omega | (exfalso; omega) | (congr 1; omega) | (congr 2; omega)
  · rintro q x A P - μ L st B ⟨R, r, i, o, ⟨h2, hr, hR, hP⟩, hi, rfl, rfl, rfl, rfl⟩
    have e2 : dp2 A R r i 2 = nI (R - 1) := by unfold dp2; rw [if_neg (by omega), if_pos rfl]
    simp (disch := omega) only [k_X12_drops_0, k_X12_drops_2, k_X12_drops_16, k_X12_drops_71, w_R, x_aload, x_dup2, x_iadd, x_icmp_ge, x_iinc, x_iload, x_imul, x_istore, x_isub, x_push, x_vret, y_cv0, y_getF, y_iald, y_iast, xFT, xbool0, xbool1, Nat.reduceAdd, Nat.zero_add, xgl_0, xgl_s, xgl_n, xst_0, xst_1n, xst_1i, xst_1r, xst_1l, xst_s, set_0, set_s, true_and, and_true, xres, xcat_nil, xcat_i, xcat_r, xcat_l, Nat.add_zero, xble0, xble1, xble2, xble3, xble4, xble5, xble6, xble7, xble8, pk_mul, nI_add, nI_1, nI_leI, nI_ltI, nI_eq, n_in, n_cl, z_eq, z_lt, z_le, z_gt, z_ge, z_qe, o_eq, o_lt, o_le, o_gt, o_ge, vp0, vp1, cl0, cl1, n_sub, n_sub1, n_pm1, n_a0, n_0a, ofn, lN0, Nat.reduceLT, Nat.reduceLeDiff, Nat.reduceMul, Nat.reduceSub, Nat.reduceEqDiff, ne_eq, true_implies, false_implies, not_true_eq_false, not_false_eq_true, and_self, and_true, true_and, and_false, false_and, implies_true, if_true, if_false, i00, i10, i01, i11, ob_0, ob_1, tn_2, ln_2, ob_3, tn_4, ln_4, ob_5, tn_6, ln_6, tn_7, ln_7, ob_8, tn_9, ln_9, tn_10, ln_10, tn_11, ln_11, tn_12, ln_12, tn_13, ln_13, tn_14, ln_14, tn_15, ln_15, tn_16, ln_16, tn_17, ln_17, ob_18, tn_19, ln_19, tn_20, ln_20, tn_21, ln_21, tn_22, ln_22, tn_23, ln_23, tn_24, ln_24, tn_25, ln_25, tn_26, ln_26, tn_27, ln_27, ob_28, tn_29, ln_29, tn_30, ln_30, ob_31, tn_32, ln_32, tn_33, ln_33, ob_34, ob_35, tn_36, ln_36, tn_37, ln_37, tn_38, ln_38, ob_39, tn_40, ln_40, tn_41, ln_41, tn_42, ln_42, tn_43, ln_43, tn_44, ln_44, tn_45, ln_45, tn_46, ln_46, tn_47, ln_47, tn_48, ln_48, tn_49, ln_49, tn_50, ln_50, tn_51, ln_51, ob_52, tn_53, ln_53, tn_54, ln_54, tn_55, ln_55, tn_56, ln_56, ob_57, tn_58, ln_58, tn_59, ln_59, tn_60, ln_60, tn_61, ln_61, tn_62, ln_62, tn_63, ln_63, tn_64, ln_64, tn_65, ln_65, ob_66, tn_67, ln_67, tn_68, ln_68, tn_69, ln_69, tn_70, ln_70, tn_71, ln_71, tn_72, ln_72, tn_73, ln_73, ob_74, tn_75, ln_75, tn_76, ln_76, tn_77, ln_77, tn_78, ln_78, tn_79, ln_79, tn_80, ln_80, tn_81, ln_81, tn_82, ln_82, tn_83, ln_83, ob_84, tn_85, ln_85, tn_86, ln_86, tn_87, ln_87, tn_88, ln_88, tn_89, ln_89, tn_90, ln_90, tn_91, ln_91, tn_92, ln_92, tn_93, ln_93, ob_94, tn_95, ln_95, tn_96, ln_96, tn_97, ln_97, tn_98, ln_98, tn_99, ln_99, tn_100, ln_100, tn_101, ln_101, tn_102, ln_102, tn_103, ln_103, ob_104, tn_105, ln_105, tn_106, ln_106, tn_107, ln_107, tn_108, ln_108, tn_109, ln_109, tn_110, ln_110, tn_111, ln_111, tn_112, ln_112, tn_113, ln_113, ob_114, tn_115, ln_115, tn_116, ln_116, tn_117, ln_117, tn_118, ln_118, tn_119, ln_119, tn_120, ln_120, tn_121, ln_121, tn_122, ln_122, tn_123, ln_123, ob_124, tn_125, ln_125, tn_126, ln_126, tn_127, ln_127, tn_128, ln_128, tn_129, ln_129, tn_130, ln_130, tn_131, ln_131, tn_132, ln_132, tn_133, ln_133, ob_134, tn_135, ln_135, tn_136, ln_136, tn_137, ln_137, tn_138, ln_138, tn_139, ln_139, tn_140, ln_140, tn_141, ln_141, tn_142, ln_142, tn_143, ln_143, ob_144, tn_145, ln_145, tn_146, ln_146, tn_147, ln_147, tn_148, ln_148, tn_149, ln_149, tn_150, ln_150, tn_151, ln_151, tn_152, ln_152, tn_153, ln_153, ob_154, tn_155, ln_155, tn_156, ln_156, tn_157, ln_157, tn_158, ln_158, tn_159, ln_159, tn_160, ln_160, tn_161, ln_161, tn_162, ln_162, tn_163, ln_163, ob_164, tn_165, ln_165, tn_166, ln_166, ob_167, tn_168, ln_168, tn_169, ln_169, tn_170, ln_170, tn_171, ln_171, tn_172, ln_172, tn_173, ln_173, tn_174, ln_174, tn_175, ln_175, tn_176, ln_176, ob_177, tn_178, ln_178, tn_179, ln_179, ob_180, tn_181, ln_181, tn_182, ln_182, tn_183, ln_183, tn_184, ln_184, tn_185, ln_185, tn_186, ln_186, tn_187, ln_187, tn_188, ln_188, tn_189, ln_189, tn_190, ln_190, tn_191, ln_191, tn_192, ln_192, tn_193, ln_193, tn_194, ln_194, tn_195, ln_195, tn_196, ln_196, tn_197, ln_197, tn_198, ln_198, tn_199, ln_199, tn_200, ln_200, tn_201, ln_201, tn_202, ln_202, tn_203, ln_203, tn_204, ln_204, tn_205, ln_205, tn_206, ln_206, tn_207, ln_207, tn_208, ln_208, tn_209, ln_209, tn_210, ln_210, tn_211, ln_211, tn_212, ln_212, tn_213, ln_213, tn_214, ln_214, tn_215, ln_215, tn_216, ln_216, tn_217, ln_217, tn_218, ln_218, tn_219, ln_219, tn_220, ln_220, tn_221, ln_221, tn_222, ln_222, tn_223, ln_223, tn_224, ln_224, tn_225, ln_225, tn_226, ln_226, tn_227, ln_227, tn_228, ln_228, tn_229, ln_229, tn_230, ln_230, lx2, lx3, lx4, lx5, lx6, lx7, lx8, lx9, lx10, lx14, lx15, lx16, lx18, lx20, lx24, lx25, lx27, lx32, lx36, lx40, lx41, lx42, lx43, lx45, lx48, lx52, lx54, lx56, lx57, lx58, lx60, lx61, lx62, lx63, lx64, lx66, lx69, lx73, lx80, lx81, lx84, lx85, lx87, lx94, lx96, lx97, lx120, lx128, lx135, lx160, lx162, lx163, lx165, lx200, lx232, lx242, lx243, lx255, lx256, lx320, lx325, lx400, lx405, lx464, lx512, lx600, lx640, lx752, lx900, lx940, lx1000, lx1024, lx1764, lx3360, lx3840, lx5000, lx6400, lx9050, lx9998, lx9999, lx10000, lx25600, lx76800, lx99999, si_ne, si_eq, sl_ne, sl_eq, xl_si, xi_sl, sA_ne, sA_eq, xl_sA, xsi_sA, e2]
    (repeat' (first | intro _ | with_reducible apply And.intro)) <;> try omega
    · have : i = 5 := by omega
      subst this
      exact alone_E hP
    · refine xB1 (b := 5 - (i + 1)) (by omega) ⟨R, r, i + 1, o, ⟨h2, hr, hR, hP⟩, by omega, xsA_congr fun m => ?_, rfl, rfl, rfl⟩
      unfold dp2
      (repeat' split) <;> first | rfl | omega | (exfalso; omega) | (congr 1; omega) | (congr 2; omega)
/-- a rule added -/
def ad1 (A : xH) (c o R z : Nat) : Nat → Int32 := fun m => if 4 + 5 * R ≤ m ∧ m < 4 + 5 * R + z then xi A c (o + (m - (4 + 5 * R))) else xi A 182 m
def ad2 (A : xH) (c o R : Nat) : Nat → Int32 := fun m => if m = 2 then nI (R + 1) else ad1 A c o R 5 m
def f_X12_adds (q c : Nat) (x : Int32) (A : xH) (P : xP) : Prop := q = 180 ∧ ∃ R o, x = nI o ∧ ((c = 206 ∧ o = 0) ∨ (c = 185 ∧ o + 5 ≤ 246)) ∧ xi A 182 2 = nI R ∧ R ≤ 10 ∧ (R = 10 → P (some (.int 1)) A) ∧ (R < 10 → P (some (.int 0)) (alo (xsA A 182 (ad2 A c o R))))
def ads (c : Nat) (A : xH) (P : xP) : xM → xK := fun μ L st B => ∃ R o i, ((c = 206 ∧ o = 0) ∨ (c = 185 ∧ o + 5 ≤ 246)) ∧ xi A 182 2 = nI R ∧ R < 10 ∧ P (some (.int 0)) (alo (xsA A 182 (ad2 A c o R))) ∧ i ≤ 5 ∧ B = xsA A 182 (ad1 A c o R i) ∧ st = [] ∧ L = [some (.ref 180), some (.ref c), some (.int (nI o)), some (.int (nI i))] ∧ μ = (5 - i, 0, 0)
set_option maxRecDepth 20000 in
theorem con_X12_adds (l : Launch) : xCon l yX12_adds cX12_adds 4 (some .int) 2 41 xN xN 0 xFT xFT (w_RRI f_X12_adds) := by
  refine m_X12_adds (I15 := fun q c x A P => ads c A P) ?_ ?_
  · rintro q c x A P ⟨rfl, R, o, rfl, hc, h2, hR, h1, hP⟩
    simp (disch := omega) only [k_X12_adds_0, k_X12_adds_15, w_R, x_aload, x_dup2, x_iadd, x_iald, x_icmp_ge, x_icmp_ne, x_iinc, x_iload, x_imul, x_iret, x_istore, x_push, y_cv0, y_getF, y_iald, y_iast, xFT, xbool0, xbool1, Nat.reduceAdd, Nat.zero_add, xgl_0, xgl_s, xgl_n, xst_0, xst_1n, xst_1i, xst_1r, xst_1l, xst_s, set_0, set_s, true_and, and_true, xres, xcat_nil, xcat_i, xcat_r, xcat_l, Nat.add_zero, xble0, xble1, xble2, xble3, xble4, xble5, xble6, xble7, xble8, pk_mul, nI_add, nI_1, nI_leI, nI_ltI, nI_eq, n_in, n_cl, z_eq, z_lt, z_le, z_gt, z_ge, z_qe, o_eq, o_lt, o_le, o_gt, o_ge, vp0, vp1, cl0, cl1, n_sub, n_sub1, n_pm1, n_a0, n_0a, ofn, lN0, Nat.reduceLT, Nat.reduceLeDiff, Nat.reduceMul, Nat.reduceSub, Nat.reduceEqDiff, ne_eq, true_implies, false_implies, not_true_eq_false, not_false_eq_true, and_self, and_true, true_and, and_false, false_and, implies_true, if_true, if_false, i00, i10, i01, i11, ob_0, ob_1, tn_2, ln_2, ob_3, tn_4, ln_4, ob_5, tn_6, ln_6, tn_7, ln_7, ob_8, tn_9, ln_9, tn_10, ln_10, tn_11, ln_11, tn_12, ln_12, tn_13, ln_13, tn_14, ln_14, tn_15, ln_15, tn_16, ln_16, tn_17, ln_17, ob_18, tn_19, ln_19, tn_20, ln_20, tn_21, ln_21, tn_22, ln_22, tn_23, ln_23, tn_24, ln_24, tn_25, ln_25, tn_26, ln_26, tn_27, ln_27, ob_28, tn_29, ln_29, tn_30, ln_30, ob_31, tn_32, ln_32, tn_33, ln_33, ob_34, ob_35, tn_36, ln_36, tn_37, ln_37, tn_38, ln_38, ob_39, tn_40, ln_40, tn_41, ln_41, tn_42, ln_42, tn_43, ln_43, tn_44, ln_44, tn_45, ln_45, tn_46, ln_46, tn_47, ln_47, tn_48, ln_48, tn_49, ln_49, tn_50, ln_50, tn_51, ln_51, ob_52, tn_53, ln_53, tn_54, ln_54, tn_55, ln_55, tn_56, ln_56, ob_57, tn_58, ln_58, tn_59, ln_59, tn_60, ln_60, tn_61, ln_61, tn_62, ln_62, tn_63, ln_63, tn_64, ln_64, tn_65, ln_65, ob_66, tn_67, ln_67, tn_68, ln_68, tn_69, ln_69, tn_70, ln_70, tn_71, ln_71, tn_72, ln_72, tn_73, ln_73, ob_74, tn_75, ln_75, tn_76, ln_76, tn_77, ln_77, tn_78, ln_78, tn_79, ln_79, tn_80, ln_80, tn_81, ln_81, tn_82, ln_82, tn_83, ln_83, ob_84, tn_85, ln_85, tn_86, ln_86, tn_87, ln_87, tn_88, ln_88, tn_89, ln_89, tn_90, ln_90, tn_91, ln_91, tn_92, ln_92, tn_93, ln_93, ob_94, tn_95, ln_95, tn_96, ln_96, tn_97, ln_97, tn_98, ln_98, tn_99, ln_99, tn_100, ln_100, tn_101, ln_101, tn_102, ln_102, tn_103, ln_103, ob_104, tn_105, ln_105, tn_106, ln_106, tn_107, ln_107, tn_108, ln_108, tn_109, ln_109, tn_110, ln_110, tn_111, ln_111, tn_112, ln_112, tn_113, ln_113, ob_114, tn_115, ln_115, tn_116, ln_116, tn_117, ln_117, tn_118, ln_118, tn_119, ln_119, tn_120, ln_120, tn_121, ln_121, tn_122, ln_122, tn_123, ln_123, ob_124, tn_125, ln_125, tn_126, ln_126, tn_127, ln_127, tn_128, ln_128, tn_129, ln_129, tn_130, ln_130, tn_131, ln_131, tn_132, ln_132, tn_133, ln_133, ob_134, tn_135, ln_135, tn_136, ln_136, tn_137, ln_137, tn_138, ln_138, tn_139, ln_139, tn_140, ln_140, tn_141, ln_141, tn_142, ln_142, tn_143, ln_143, ob_144, tn_145, ln_145, tn_146, ln_146, tn_147, ln_147, tn_148, ln_148, tn_149, ln_149, tn_150, ln_150, tn_151, ln_151, tn_152, ln_152, tn_153, ln_153, ob_154, tn_155, ln_155, tn_156, ln_156, tn_157, ln_157, tn_158, ln_158, tn_159, ln_159, tn_160, ln_160, tn_161, ln_161, tn_162, ln_162, tn_163, ln_163, ob_164, tn_165, ln_165, tn_166, ln_166, ob_167, tn_168, ln_168, tn_169, ln_169, tn_170, ln_170, tn_171, ln_171, tn_172, ln_172, tn_173, ln_173, tn_174, ln_174, tn_175, ln_175, tn_176, ln_176, ob_177, tn_178, ln_178, tn_179, ln_179, ob_180, tn_181, ln_181, tn_182, ln_182, tn_183, ln_183, tn_184, ln_184, tn_185, ln_185, tn_186, ln_186, tn_187, ln_187, tn_188, ln_188, tn_189, ln_189, tn_190, ln_190, tn_191, ln_191, tn_192, ln_192, tn_193, ln_193, tn_194, ln_194, tn_195, ln_195, tn_196, ln_196, tn_197, ln_197, tn_198, ln_198, tn_199, ln_199, tn_200, ln_200, tn_201, ln_201, tn_202, ln_202, tn_203, ln_203, tn_204, ln_204, tn_205, ln_205, tn_206, ln_206, tn_207, ln_207, tn_208, ln_208, tn_209, ln_209, tn_210, ln_210, tn_211, ln_211, tn_212, ln_212, tn_213, ln_213, tn_214, ln_214, tn_215, ln_215, tn_216, ln_216, tn_217, ln_217, tn_218, ln_218, tn_219, ln_219, tn_220, ln_220, tn_221, ln_221, tn_222, ln_222, tn_223, ln_223, tn_224, ln_224, tn_225, ln_225, tn_226, ln_226, tn_227, ln_227, tn_228, ln_228, tn_229, ln_229, tn_230, ln_230, lx2, lx3, lx4, lx5, lx6, lx7, lx8, lx9, lx10, lx14, lx15, lx16, lx18, lx20, lx24, lx25, lx27, lx32, lx36, lx40, lx41, lx42, lx43, lx45, lx48, lx52, lx54, lx56, lx57, lx58, lx60, lx61, lx62, lx63, lx64, lx66, lx69, lx73, lx80, lx81, lx84, lx85, lx87, lx94, lx96, lx97, lx120, lx128, lx135, lx160, lx162, lx163, lx165, lx200, lx232, lx242, lx243, lx255, lx256, lx320, lx325, lx400, lx405, lx464, lx512, lx600, lx640, lx752, lx900, lx940, lx1000, lx1024, lx1764, lx3360, lx3840, lx5000, lx6400, lx9050, lx9998, lx9999, lx10000, lx25600, lx76800, lx99999, h2]
    (repeat' (first | intro _ | with_reducible apply And.intro)) <;> try omega
    · exact xE0 (5, 0, 0) ⟨R, o, 0, hc, h2, by omega, hP (by omega), by omega, (xsA_self fun k => by unfold ad1; rw [if_neg (by omega)]).symm, rfl, rfl, rfl⟩
    · exact h1 (by omega)
  · rintro q c x A P - μ L st B ⟨R, o, i, hc, h2, hR, hP, hi, rfl, rfl, rfl, rfl⟩
    have ht : xtn xN c = 1 ∧ o + 5 ≤ (xsh c).2 ∧ (xsh c).2 ≤ 752 := by rcases hc with ⟨rfl, rfl⟩ | ⟨rfl, h⟩; exact ⟨by decide +kernel, by decide +kernel, by decide +kernel⟩; exact ⟨by decide +kernel, h, by decide +kernel⟩
    have e2 : ad1 A c o R i 2 = nI R := by unfold ad1; rw [if_neg (by omega)]; exact h2
    simp (disch := omega) only [k_X12_adds_0, k_X12_adds_15, w_R, x_aload, x_dup2, x_iadd, x_iald, x_icmp_ge, x_icmp_ne, x_iinc, x_iload, x_imul, x_iret, x_istore, x_push, y_cv0, y_getF, y_iald, y_iast, xFT, xbool0, xbool1, Nat.reduceAdd, Nat.zero_add, xgl_0, xgl_s, xgl_n, xst_0, xst_1n, xst_1i, xst_1r, xst_1l, xst_s, set_0, set_s, true_and, and_true, xres, xcat_nil, xcat_i, xcat_r, xcat_l, Nat.add_zero, xble0, xble1, xble2, xble3, xble4, xble5, xble6, xble7, xble8, pk_mul, nI_add, nI_1, nI_leI, nI_ltI, nI_eq, n_in, n_cl, z_eq, z_lt, z_le, z_gt, z_ge, z_qe, o_eq, o_lt, o_le, o_gt, o_ge, vp0, vp1, cl0, cl1, n_sub, n_sub1, n_pm1, n_a0, n_0a, ofn, lN0, Nat.reduceLT, Nat.reduceLeDiff, Nat.reduceMul, Nat.reduceSub, Nat.reduceEqDiff, ne_eq, true_implies, false_implies, not_true_eq_false, not_false_eq_true, and_self, and_true, true_and, and_false, false_and, implies_true, if_true, if_false, i00, i10, i01, i11, ob_0, ob_1, tn_2, ln_2, ob_3, tn_4, ln_4, ob_5, tn_6, ln_6, tn_7, ln_7, ob_8, tn_9, ln_9, tn_10, ln_10, tn_11, ln_11, tn_12, ln_12, tn_13, ln_13, tn_14, ln_14, tn_15, ln_15, tn_16, ln_16, tn_17, ln_17, ob_18, tn_19, ln_19, tn_20, ln_20, tn_21, ln_21, tn_22, ln_22, tn_23, ln_23, tn_24, ln_24, tn_25, ln_25, tn_26, ln_26, tn_27, ln_27, ob_28, tn_29, ln_29, tn_30, ln_30, ob_31, tn_32, ln_32, tn_33, ln_33, ob_34, ob_35, tn_36, ln_36, tn_37, ln_37, tn_38, ln_38, ob_39, tn_40, ln_40, tn_41, ln_41, tn_42, ln_42, tn_43, ln_43, tn_44, ln_44, tn_45, ln_45, tn_46, ln_46, tn_47, ln_47, tn_48, ln_48, tn_49, ln_49, tn_50, ln_50, tn_51, ln_51, ob_52, tn_53, ln_53, tn_54, ln_54, tn_55, ln_55, tn_56, ln_56, ob_57, tn_58, ln_58, tn_59, ln_59, tn_60, ln_60, tn_61, ln_61, tn_62, ln_62, tn_63, ln_63, tn_64, ln_64, tn_65, ln_65, ob_66, tn_67, ln_67, tn_68, ln_68, tn_69, ln_69, tn_70, ln_70, tn_71, ln_71, tn_72, ln_72, tn_73, ln_73, ob_74, tn_75, ln_75, tn_76, ln_76, tn_77, ln_77, tn_78, ln_78, tn_79, ln_79, tn_80, ln_80, tn_81, ln_81, tn_82, ln_82, tn_83, ln_83, ob_84, tn_85, ln_85, tn_86, ln_86, tn_87, ln_87, tn_88, ln_88, tn_89, ln_89, tn_90, ln_90, tn_91, ln_91, tn_92, ln_92, tn_93, ln_93, ob_94, tn_95, ln_95, tn_96, ln_96, tn_97, ln_97, tn_98, ln_98, tn_99, ln_99, tn_100, ln_100, tn_101, ln_101, tn_102, ln_102, tn_103, ln_103, ob_104, tn_105, ln_105, tn_106, ln_106, tn_107, ln_107, tn_108, ln_108, tn_109, ln_109, tn_110, ln_110, tn_111, ln_111, tn_112, ln_112, tn_113, ln_113, ob_114, tn_115, ln_115, tn_116, ln_116, tn_117, ln_117, tn_118, ln_118, tn_119, ln_119, tn_120, ln_120, tn_121, ln_121, tn_122, ln_122, tn_123, ln_123, ob_124, tn_125, ln_125, tn_126, ln_126, tn_127, ln_127, tn_128, ln_128, tn_129, ln_129, tn_130, ln_130, tn_131, ln_131, tn_132, ln_132, tn_133, ln_133, ob_134, tn_135, ln_135, tn_136, ln_136, tn_137, ln_137, tn_138, ln_138, tn_139, ln_139, tn_140, ln_140, tn_141, ln_141, tn_142, ln_142, tn_143, ln_143, ob_144, tn_145, ln_145, tn_146, ln_146, tn_147, ln_147, tn_148, ln_148, tn_149, ln_149, tn_150, ln_150, tn_151, ln_151, tn_152, ln_152, tn_153, ln_153, ob_154, tn_155, ln_155, tn_156, ln_156, tn_157, ln_157, tn_158, ln_158, tn_159, ln_159, tn_160, ln_160, tn_161, ln_161, tn_162, ln_162, tn_163, ln_163, ob_164, tn_165, ln_165, tn_166, ln_166, ob_167, tn_168, ln_168, tn_169, ln_169, tn_170, ln_170, tn_171, ln_171, tn_172, ln_172, tn_173, ln_173, tn_174, ln_174, tn_175, ln_175, tn_176, ln_176, ob_177, tn_178, ln_178, tn_179, ln_179, ob_180, tn_181, ln_181, tn_182, ln_182, tn_183, ln_183, tn_184, ln_184, tn_185, ln_185, tn_186, ln_186, tn_187, ln_187, tn_188, ln_188, tn_189, ln_189, tn_190, ln_190, tn_191, ln_191, tn_192, ln_192, tn_193, ln_193, tn_194, ln_194, tn_195, ln_195, tn_196, ln_196, tn_197, ln_197, tn_198, ln_198, tn_199, ln_199, tn_200, ln_200, tn_201, ln_201, tn_202, ln_202, tn_203, ln_203, tn_204, ln_204, tn_205, ln_205, tn_206, ln_206, tn_207, ln_207, tn_208, ln_208, tn_209, ln_209, tn_210, ln_210, tn_211, ln_211, tn_212, ln_212, tn_213, ln_213, tn_214, ln_214, tn_215, ln_215, tn_216, ln_216, tn_217, ln_217, tn_218, ln_218, tn_219, ln_219, tn_220, ln_220, tn_221, ln_221, tn_222, ln_222, tn_223, ln_223, tn_224, ln_224, tn_225, ln_225, tn_226, ln_226, tn_227, ln_227, tn_228, ln_228, tn_229, ln_229, tn_230, ln_230, lx2, lx3, lx4, lx5, lx6, lx7, lx8, lx9, lx10, lx14, lx15, lx16, lx18, lx20, lx24, lx25, lx27, lx32, lx36, lx40, lx41, lx42, lx43, lx45, lx48, lx52, lx54, lx56, lx57, lx58, lx60, lx61, lx62, lx63, lx64, lx66, lx69, lx73, lx80, lx81, lx84, lx85, lx87, lx94, lx96, lx97, lx120, lx128, lx135, lx160, lx162, lx163, lx165, lx200, lx232, lx242, lx243, lx255, lx256, lx320, lx325, lx400, lx405, lx464, lx512, lx600, lx640, lx752, lx900, lx940, lx1000, lx1024, lx1764, lx3360, lx3840, lx5000, lx6400, lx9050, lx9998, lx9999, lx10000, lx25600, lx76800, lx99999, si_ne, si_eq, sl_ne, sl_eq, xl_si, xi_sl, sA_ne, sA_eq, xl_sA, xsi_sA, ht.1, e2]
    (repeat' (first | intro _ | with_reducible apply And.intro)) <;> try omega
    · have : i = 5 := by omega
      subst this
      exact alone_E hP
    · refine xB1 (b := 5 - (i + 1)) (by omega) ⟨R, o, i + 1, hc, h2, hR, hP, by omega, xsA_congr fun m => ?_, rfl, rfl, rfl⟩
      unfold ad1
      (repeat' split) <;> first | rfl | omega | (exfalso; omega) | (congr 1; omega) | (congr 2; omega)

