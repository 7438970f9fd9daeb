/-! ===== draws ===== -/
theorem d_X2_draw_0 : decode cX2_draw 0 = .ok (.aload_n 0, 1) := by decide +kernel
theorem d_X2_draw_1 : decode cX2_draw 1 = .ok (.aload_n 0, 1) := by decide +kernel
theorem d_X2_draw_2 : decode cX2_draw 2 = .ok (.getfield 9, 3) := by decide +kernel
theorem d_X2_draw_5 : decode cX2_draw 5 = .ok (.ldc 19, 2) := by decide +kernel
theorem d_X2_draw_7 : decode cX2_draw 7 = .ok (.imul, 1) := by decide +kernel
theorem d_X2_draw_8 : decode cX2_draw 8 = .ok (.sipush 12345, 3) := by decide +kernel
theorem d_X2_draw_11 : decode cX2_draw 11 = .ok (.iadd, 1) := by decide +kernel
theorem d_X2_draw_12 : decode cX2_draw 12 = .ok (.putfield 9, 3) := by decide +kernel
theorem d_X2_draw_15 : decode cX2_draw 15 = .ok (.iload_n 1, 1) := by decide +kernel
theorem d_X2_draw_16 : decode cX2_draw 16 = .ok (.ifCond .le 15, 3) := by decide +kernel
theorem d_X2_draw_19 : decode cX2_draw 19 = .ok (.aload_n 0, 1) := by decide +kernel
theorem d_X2_draw_20 : decode cX2_draw 20 = .ok (.getfield 9, 3) := by decide +kernel
theorem d_X2_draw_23 : decode cX2_draw 23 = .ok (.bipush 8, 2) := by decide +kernel
theorem d_X2_draw_25 : decode cX2_draw 25 = .ok (.iushr, 1) := by decide +kernel
theorem d_X2_draw_26 : decode cX2_draw 26 = .ok (.iload_n 1, 1) := by decide +kernel
theorem d_X2_draw_27 : decode cX2_draw 27 = .ok (.irem, 1) := by decide +kernel
theorem d_X2_draw_28 : decode cX2_draw 28 = .ok (.goto 4, 3) := by decide +kernel
theorem d_X2_draw_31 : decode cX2_draw 31 = .ok (.iconst 0, 1) := by decide +kernel
theorem d_X2_draw_32 : decode cX2_draw 32 = .ok (.ireturn, 1) := by decide +kernel
def k_X2_draw_32 (P : xP) : xK := x_iret P
set_option maxRecDepth 20000 in
theorem t_X2_draw_32 {p : Program} {l : Launch} {e : Env} {s : State} {m : MethodId} {args : Array Value} {below : List Frame} {meth : Method} {c : Code} {g : xG} (X : xX p s m args c meth cX2_draw RX2 2 g) (hr : meth.sig.returnType = (some .int)) {P : xP} : xAt p l e { frames := 0, cells := 0, slots := 0, locals := 0 } s m args below meth c g 2 xFT xN 0 0 (MQ below (xQc g xFT xN P) args s 0 0 (xFr g)) (k_X2_draw_32 P) 32 := by
  unfold k_X2_draw_32
  exact r_iret (pc := 32) X hr d_X2_draw_32
def k_X2_draw_0 (P : xP) : xK := x_aload 0 (x_aload 0 (y_getI 34 0 (x_push (.int 1103515245) (x_imul (x_push (.int 12345) (x_iadd (y_putI 34 0 (x_iload 1 (x_if_le (x_push (.int 0) ((k_X2_draw_32 P))) (x_aload 0 (y_getI 34 0 (x_push (.int 8) (x_iushr (x_iload 1 (x_irem ((k_X2_draw_32 P)))))))))))))))))
set_option maxRecDepth 20000 in
theorem t_X2_draw_0 {p : Program} {l : Launch} {e : Env} {s : State} {m : MethodId} {args : Array Value} {below : List Frame} {meth : Method} {c : Code} {g : xG} (X : xX p s m args c meth cX2_draw RX2 2 g) (hr : meth.sig.returnType = (some .int)) {P : xP} : xAt p l e { frames := 0, cells := 0, slots := 0, locals := 0 } s m args below meth c g 2 xFT xN 0 0 (MQ below (xQc g xFT xN P) args s 0 0 (xFr g)) (k_X2_draw_0 P) 0 := by
  unfold k_X2_draw_0
  refine r_aload_n (pc := 0) X d_X2_draw_0 fn0 ?_
  refine r_aload_n (pc := 1) X d_X2_draw_1 fn0 ?_
  refine s_getI (pc := 2) (ci := 2) X xok2 (by decide +kernel) ob_34 (by decide +kernel) fl_RX2_9 d_X2_draw_2 ?_
  refine r_ldc (pc := 5) X cw_RX2_19 d_X2_draw_5 ?_
  refine r_imul (pc := 7) X d_X2_draw_7 ?_
  refine r_sipush (pc := 8) X d_X2_draw_8 (by decide +kernel) ?_
  refine r_iadd (pc := 11) X d_X2_draw_11 ?_
  refine s_putI (pc := 12) (ci := 2) X xok2 (by decide +kernel) ob_34 (by decide +kernel) (by decide +kernel) (by decide +kernel) fl_RX2_9 d_X2_draw_12 ?_
  refine r_iload_n (pc := 15) X d_X2_draw_15 fn1 ?_
  refine r_if_le (pc := 16) (tgt := 31) X d_X2_draw_16 (by decide +kernel) ?_ ?_
  · refine r_iconst (pc := 31) X d_X2_draw_31 (by decide +kernel) ?_
    exact t_X2_draw_32 X hr
  · refine r_aload_n (pc := 19) X d_X2_draw_19 fn0 ?_
    refine s_getI (pc := 20) (ci := 2) X xok2 (by decide +kernel) ob_34 (by decide +kernel) fl_RX2_9 d_X2_draw_20 ?_
    refine r_bipush (pc := 23) X d_X2_draw_23 (by decide +kernel) ?_
    refine r_iushr (pc := 25) X d_X2_draw_25 ?_
    refine r_iload_n (pc := 26) X d_X2_draw_26 fn1 ?_
    refine r_irem (pc := 27) X d_X2_draw_27 ?_
    refine r_goto (pc := 28) (tgt := 32) X d_X2_draw_28 (by decide +kernel) ?_
    exact t_X2_draw_32 X hr
def f_X2_draw (a0 : Nat) (a1 : Int32) (A : xH) (P : xP) : Prop := k_X2_draw_0 P [some (.ref a0), some (.int a1)] [] A
set_option maxRecDepth 20000 in
theorem con_X2_draw (l : Launch) : xCon l yX2_draw cX2_draw 2 (some .int) 0 0 xN xN 0 xFT xFT (w_RI f_X2_draw) :=
  xc_RI (plainFor_of_name pn_RX2) (by decide +kernel) (fun p e s m args below meth c g a0 a1 A P h X hr _ => ⟨_, h, t_X2_draw_0 X hr⟩)
theorem d_X2_symbol_0 : decode cX2_symbol 0 = .ok (.aload_n 0, 1) := by decide +kernel
theorem d_X2_symbol_1 : decode cX2_symbol 1 = .ok (.aload_n 1, 1) := by decide +kernel
theorem d_X2_symbol_2 : decode cX2_symbol 2 = .ok (.getfield 42, 3) := by decide +kernel
theorem d_X2_symbol_5 : decode cX2_symbol 5 = .ok (.aload_n 1, 1) := by decide +kernel
theorem d_X2_symbol_6 : decode cX2_symbol 6 = .ok (.getfield 55, 3) := by decide +kernel
theorem d_X2_symbol_9 : decode cX2_symbol 9 = .ok (.iadd, 1) := by decide +kernel
theorem d_X2_symbol_10 : decode cX2_symbol 10 = .ok (.invokevirtual 20, 3) := by decide +kernel
theorem d_X2_symbol_13 : decode cX2_symbol 13 = .ok (.istore_n 2, 1) := by decide +kernel
theorem d_X2_symbol_14 : decode cX2_symbol 14 = .ok (.iload_n 2, 1) := by decide +kernel
theorem d_X2_symbol_15 : decode cX2_symbol 15 = .ok (.aload_n 1, 1) := by decide +kernel
theorem d_X2_symbol_16 : decode cX2_symbol 16 = .ok (.getfield 42, 3) := by decide +kernel
theorem d_X2_symbol_19 : decode cX2_symbol 19 = .ok (.if_icmp .ge 10, 3) := by decide +kernel
theorem d_X2_symbol_22 : decode cX2_symbol 22 = .ok (.bipush 8, 2) := by decide +kernel
theorem d_X2_symbol_24 : decode cX2_symbol 24 = .ok (.iload_n 2, 1) := by decide +kernel
theorem d_X2_symbol_25 : decode cX2_symbol 25 = .ok (.iadd, 1) := by decide +kernel
theorem d_X2_symbol_26 : decode cX2_symbol 26 = .ok (.goto 9, 3) := by decide +kernel
theorem d_X2_symbol_29 : decode cX2_symbol 29 = .ok (.iload_n 2, 1) := by decide +kernel
theorem d_X2_symbol_30 : decode cX2_symbol 30 = .ok (.aload_n 1, 1) := by decide +kernel
theorem d_X2_symbol_31 : decode cX2_symbol 31 = .ok (.getfield 42, 3) := by decide +kernel
theorem d_X2_symbol_34 : decode cX2_symbol 34 = .ok (.isub, 1) := by decide +kernel
theorem d_X2_symbol_35 : decode cX2_symbol 35 = .ok (.ireturn, 1) := by decide +kernel
def k_X2_symbol_35 (P : xP) : xK := x_iret P
set_option maxRecDepth 20000 in
theorem t_X2_symbol_35 {p : Program} {l : Launch} {e : Env} {s : State} {m : MethodId} {args : Array Value} {below : List Frame} {meth : Method} {c : Code} {g : xG} (X : xX p s m args c meth cX2_symbol RX2 3 g) (hr : meth.sig.returnType = (some .int)) {P : xP} : xAt p l e { frames := 1, cells := 0, slots := 0, locals := 21 } s m args below meth c g 3 xFT xN 0 0 (MQ below (xQc g xFT xN P) args s 0 0 (xFr g)) (k_X2_symbol_35 P) 35 := by
  unfold k_X2_symbol_35
  exact r_iret (pc := 35) X hr d_X2_symbol_35
def k_X2_symbol_0 (P : xP) : xK := x_aload 0 (x_aload 1 (x_getI xN 4 1 (x_aload 1 (x_getI xN 4 0 (x_iadd (y_cv1 34 (w_RI f_X2_draw) (x_istore 2 (x_iload 2 (x_aload 1 (x_getI xN 4 1 (x_icmp_ge (x_iload 2 (x_aload 1 (x_getI xN 4 1 (x_isub ((k_X2_symbol_35 P)))))) (x_push (.int 8) (x_iload 2 (x_iadd ((k_X2_symbol_35 P))))))))))))))))
set_option maxRecDepth 20000 in
theorem t_X2_symbol_0 {p : Program} {l : Launch} {e : Env} {s : State} {m : MethodId} {args : Array Value} {below : List Frame} {meth : Method} {c : Code} {g : xG} (X : xX p s m args c meth cX2_symbol RX2 3 g) (hr : meth.sig.returnType = (some .int)) {P : xP} : xAt p l e { frames := 1, cells := 0, slots := 0, locals := 21 } s m args below meth c g 3 xFT xN 0 0 (MQ below (xQc g xFT xN P) args s 0 0 (xFr g)) (k_X2_symbol_0 P) 0 := by
  unfold k_X2_symbol_0
  refine r_aload_n (pc := 0) X d_X2_symbol_0 fn0 ?_
  refine r_aload_n (pc := 1) X d_X2_symbol_1 fn1 ?_
  refine r_getI (pc := 2) X xok4 (by decide +kernel) (by decide +kernel) fl_RX2_42 d_X2_symbol_2 ?_
  refine r_aload_n (pc := 5) X d_X2_symbol_5 fn1 ?_
  refine r_getI (pc := 6) X xok4 (by decide +kernel) (by decide +kernel) fl_RX2_55 d_X2_symbol_6 ?_
  refine r_iadd (pc := 9) X d_X2_symbol_9 ?_
  refine s_cv1 (pc := 10) (ci := 2) X xok2 (by decide +kernel) ob_34 rfl (con_X2_draw l) mf_X2_draw ml_RX2_20 (by decide +kernel) (by decide +kernel) d_X2_symbol_10 ?_
  refine r_istore_n (pc := 13) X d_X2_symbol_13 fn2 (by decide +kernel) ?_
  refine r_iload_n (pc := 14) X d_X2_symbol_14 fn2 ?_
  refine r_aload_n (pc := 15) X d_X2_symbol_15 fn1 ?_
  refine r_getI (pc := 16) X xok4 (by decide +kernel) (by decide +kernel) fl_RX2_42 d_X2_symbol_16 ?_
  refine r_icmp_ge (pc := 19) (tgt := 29) X d_X2_symbol_19 (by decide +kernel) ?_ ?_
  · refine r_iload_n (pc := 29) X d_X2_symbol_29 fn2 ?_
    refine r_aload_n (pc := 30) X d_X2_symbol_30 fn1 ?_
    refine r_getI (pc := 31) X xok4 (by decide +kernel) (by decide +kernel) fl_RX2_42 d_X2_symbol_31 ?_
    refine r_isub (pc := 34) X d_X2_symbol_34 ?_
    exact t_X2_symbol_35 X hr
  · refine r_bipush (pc := 22) X d_X2_symbol_22 (by decide +kernel) ?_
    refine r_iload_n (pc := 24) X d_X2_symbol_24 fn2 ?_
    refine r_iadd (pc := 25) X d_X2_symbol_25 ?_
    refine r_goto (pc := 26) (tgt := 35) X d_X2_symbol_26 (by decide +kernel) ?_
    exact t_X2_symbol_35 X hr
def f_X2_symbol (a0 : Nat) (a1 : Nat) (A : xH) (P : xP) : Prop := k_X2_symbol_0 P [some (.ref a0), some (.ref a1), none] [] A
set_option maxRecDepth 20000 in
theorem con_X2_symbol (l : Launch) : xCon l yX2_symbol cX2_symbol 3 (some .int) 1 21 xN xN 0 xFT xFT (w_RR f_X2_symbol) :=
  xc_RR (plainFor_of_name pn_RX2) (by decide +kernel) (fun p e s m args below meth c g a0 a1 A P h X hr _ => ⟨_, h, t_X2_symbol_0 X hr⟩)
theorem d_X2_addition_0 : decode cX2_addition 0 = .ok (.aload_n 0, 1) := by decide +kernel
theorem d_X2_addition_1 : decode cX2_addition 1 = .ok (.aload_n 1, 1) := by decide +kernel
theorem d_X2_addition_2 : decode cX2_addition 2 = .ok (.getfield 42, 3) := by decide +kernel
theorem d_X2_addition_5 : decode cX2_addition 5 = .ok (.invokevirtual 20, 3) := by decide +kernel
theorem d_X2_addition_8 : decode cX2_addition 8 = .ok (.istore_n 2, 1) := by decide +kernel
theorem d_X2_addition_9 : decode cX2_addition 9 = .ok (.aload_n 0, 1) := by decide +kernel
theorem d_X2_addition_10 : decode cX2_addition 10 = .ok (.iconst 4, 1) := by decide +kernel
theorem d_X2_addition_11 : decode cX2_addition 11 = .ok (.invokevirtual 20, 3) := by decide +kernel
theorem d_X2_addition_14 : decode cX2_addition 14 = .ok (.istore_n 3, 1) := by decide +kernel
theorem d_X2_addition_15 : decode cX2_addition 15 = .ok (.iload_n 3, 1) := by decide +kernel
theorem d_X2_addition_16 : decode cX2_addition 16 = .ok (.ifCond .le 11, 3) := by decide +kernel
theorem d_X2_addition_19 : decode cX2_addition 19 = .ok (.aload_n 0, 1) := by decide +kernel
theorem d_X2_addition_20 : decode cX2_addition 20 = .ok (.aload_n 1, 1) := by decide +kernel
theorem d_X2_addition_21 : decode cX2_addition 21 = .ok (.invokevirtual 48, 3) := by decide +kernel
theorem d_X2_addition_24 : decode cX2_addition 24 = .ok (.goto 4, 3) := by decide +kernel
theorem d_X2_addition_27 : decode cX2_addition 27 = .ok (.iconst (-1), 1) := by decide +kernel
theorem d_X2_addition_28 : decode cX2_addition 28 = .ok (.istore 4, 2) := by decide +kernel
theorem d_X2_addition_30 : decode cX2_addition 30 = .ok (.iload_n 3, 1) := by decide +kernel
theorem d_X2_addition_31 : decode cX2_addition 31 = .ok (.iconst 1, 1) := by decide +kernel
theorem d_X2_addition_32 : decode cX2_addition 32 = .ok (.if_icmp .le 11, 3) := by decide +kernel
theorem d_X2_addition_35 : decode cX2_addition 35 = .ok (.aload_n 0, 1) := by decide +kernel
theorem d_X2_addition_36 : decode cX2_addition 36 = .ok (.aload_n 1, 1) := by decide +kernel
theorem d_X2_addition_37 : decode cX2_addition 37 = .ok (.invokevirtual 48, 3) := by decide +kernel
theorem d_X2_addition_40 : decode cX2_addition 40 = .ok (.goto 4, 3) := by decide +kernel
theorem d_X2_addition_43 : decode cX2_addition 43 = .ok (.iconst (-1), 1) := by decide +kernel
theorem d_X2_addition_44 : decode cX2_addition 44 = .ok (.istore 5, 2) := by decide +kernel
theorem d_X2_addition_46 : decode cX2_addition 46 = .ok (.iload_n 3, 1) := by decide +kernel
theorem d_X2_addition_47 : decode cX2_addition 47 = .ok (.iconst 2, 1) := by decide +kernel
theorem d_X2_addition_48 : decode cX2_addition 48 = .ok (.if_icmp .le 11, 3) := by decide +kernel
theorem d_X2_addition_51 : decode cX2_addition 51 = .ok (.aload_n 0, 1) := by decide +kernel
theorem d_X2_addition_52 : decode cX2_addition 52 = .ok (.aload_n 1, 1) := by decide +kernel
theorem d_X2_addition_53 : decode cX2_addition 53 = .ok (.invokevirtual 48, 3) := by decide +kernel
theorem d_X2_addition_56 : decode cX2_addition 56 = .ok (.goto 4, 3) := by decide +kernel
theorem d_X2_addition_59 : decode cX2_addition 59 = .ok (.iconst (-1), 1) := by decide +kernel
theorem d_X2_addition_60 : decode cX2_addition 60 = .ok (.istore 6, 2) := by decide +kernel
theorem d_X2_addition_62 : decode cX2_addition 62 = .ok (.aload_n 1, 1) := by decide +kernel
theorem d_X2_addition_63 : decode cX2_addition 63 = .ok (.iload_n 2, 1) := by decide +kernel
theorem d_X2_addition_64 : decode cX2_addition 64 = .ok (.iload_n 3, 1) := by decide +kernel
theorem d_X2_addition_65 : decode cX2_addition 65 = .ok (.iload 4, 2) := by decide +kernel
theorem d_X2_addition_67 : decode cX2_addition 67 = .ok (.iload 5, 2) := by decide +kernel
theorem d_X2_addition_69 : decode cX2_addition 69 = .ok (.iload 6, 2) := by decide +kernel
theorem d_X2_addition_71 : decode cX2_addition 71 = .ok (.invokevirtual 51, 3) := by decide +kernel
theorem d_X2_addition_74 : decode cX2_addition 74 = .ok (.ireturn, 1) := by decide +kernel
def k_X2_addition_60 (P : xP) : xK := x_istore 6 (x_aload 1 (x_iload 2 (x_iload 3 (x_iload 4 (x_iload 5 (x_iload 6 (x_cv5 xN 4 (w_RIIIII f_X4_appendRule) (x_iret P))))))))
set_option maxRecDepth 20000 in
theorem t_X2_addition_60 {p : Program} {l : Launch} {e : Env} {s : State} {m : MethodId} {args : Array Value} {below : List Frame} {meth : Method} {c : Code} {g : xG} (X : xX p s m args c meth cX2_addition RX2 7 g) (hr : meth.sig.returnType = (some .int)) {P : xP} : xAt p l e { frames := 2, cells := 0, slots := 0, locals := 47 } s m args below meth c g 7 xFT xN 0 0 (MQ below (xQc g xFT xN P) args s 0 0 (xFr g)) (k_X2_addition_60 P) 60 := by
  unfold k_X2_addition_60
  refine r_istore (pc := 60) X d_X2_addition_60 (by decide +kernel) ?_
  refine r_aload_n (pc := 62) X d_X2_addition_62 fn1 ?_
  refine r_iload_n (pc := 63) X d_X2_addition_63 fn2 ?_
  refine r_iload_n (pc := 64) X d_X2_addition_64 fn3 ?_
  refine r_iload (pc := 65) X d_X2_addition_65 ?_
  refine r_iload (pc := 67) X d_X2_addition_67 ?_
  refine r_iload (pc := 69) X d_X2_addition_69 ?_
  refine r_cv5 (pc := 71) X xok4 (by decide +kernel) rfl (con_X4_appendRule l) mf_X4_appendRule ml_RX2_51 (by decide +kernel) (by decide +kernel) d_X2_addition_71 ?_
  exact r_iret (pc := 74) X hr d_X2_addition_74
def k_X2_addition_44 (P : xP) : xK := x_istore 5 (x_iload 3 (x_push (.int 2) (x_icmp_le (x_push (.int (-1)) ((k_X2_addition_60 P))) (x_aload 0 (x_aload 1 (y_cv1 34 (w_RR f_X2_symbol) ((k_X2_addition_60 P))))))))
set_option maxRecDepth 20000 in
theorem t_X2_addition_44 {p : Program} {l : Launch} {e : Env} {s : State} {m : MethodId} {args : Array Value} {below : List Frame} {meth : Method} {c : Code} {g : xG} (X : xX p s m args c meth cX2_addition RX2 7 g) (hr : meth.sig.returnType = (some .int)) {P : xP} : xAt p l e { frames := 2, cells := 0, slots := 0, locals := 47 } s m args below meth c g 7 xFT xN 0 0 (MQ below (xQc g xFT xN P) args s 0 0 (xFr g)) (k_X2_addition_44 P) 44 := by
  unfold k_X2_addition_44
  refine r_istore (pc := 44) X d_X2_addition_44 (by decide +kernel) ?_
  refine r_iload_n (pc := 46) X d_X2_addition_46 fn3 ?_
  refine r_iconst (pc := 47) X d_X2_addition_47 (by decide +kernel) ?_
  refine r_icmp_le (pc := 48) (tgt := 59) X d_X2_addition_48 (by decide +kernel) ?_ ?_
  · refine r_iconst (pc := 59) X d_X2_addition_59 (by decide +kernel) ?_
    exact t_X2_addition_60 X hr
  · refine r_aload_n (pc := 51) X d_X2_addition_51 fn0 ?_
    refine r_aload_n (pc := 52) X d_X2_addition_52 fn1 ?_
    refine s_cv1 (pc := 53) (ci := 2) X xok2 (by decide +kernel) ob_34 rfl (con_X2_symbol l) mf_X2_symbol ml_RX2_48 (by decide +kernel) (by decide +kernel) d_X2_addition_53 ?_
    refine r_goto (pc := 56) (tgt := 60) X d_X2_addition_56 (by decide +kernel) ?_
    exact t_X2_addition_60 X hr
def k_X2_addition_28 (P : xP) : xK := x_istore 4 (x_iload 3 (x_push (.int 1) (x_icmp_le (x_push (.int (-1)) ((k_X2_addition_44 P))) (x_aload 0 (x_aload 1 (y_cv1 34 (w_RR f_X2_symbol) ((k_X2_addition_44 P))))))))
set_option maxRecDepth 20000 in
theorem t_X2_addition_28 {p : Program} {l : Launch} {e : Env} {s : State} {m : MethodId} {args : Array Value} {below : List Frame} {meth : Method} {c : Code} {g : xG} (X : xX p s m args c meth cX2_addition RX2 7 g) (hr : meth.sig.returnType = (some .int)) {P : xP} : xAt p l e { frames := 2, cells := 0, slots := 0, locals := 47 } s m args below meth c g 7 xFT xN 0 0 (MQ below (xQc g xFT xN P) args s 0 0 (xFr g)) (k_X2_addition_28 P) 28 := by
  unfold k_X2_addition_28
  refine r_istore (pc := 28) X d_X2_addition_28 (by decide +kernel) ?_
  refine r_iload_n (pc := 30) X d_X2_addition_30 fn3 ?_
  refine r_iconst (pc := 31) X d_X2_addition_31 (by decide +kernel) ?_
  refine r_icmp_le (pc := 32) (tgt := 43) X d_X2_addition_32 (by decide +kernel) ?_ ?_
  · refine r_iconst (pc := 43) X d_X2_addition_43 (by decide +kernel) ?_
    exact t_X2_addition_44 X hr
  · refine r_aload_n (pc := 35) X d_X2_addition_35 fn0 ?_
    refine r_aload_n (pc := 36) X d_X2_addition_36 fn1 ?_
    refine s_cv1 (pc := 37) (ci := 2) X xok2 (by decide +kernel) ob_34 rfl (con_X2_symbol l) mf_X2_symbol ml_RX2_48 (by decide +kernel) (by decide +kernel) d_X2_addition_37 ?_
    refine r_goto (pc := 40) (tgt := 44) X d_X2_addition_40 (by decide +kernel) ?_
    exact t_X2_addition_44 X hr
def k_X2_addition_0 (P : xP) : xK := x_aload 0 (x_aload 1 (x_getI xN 4 1 (y_cv1 34 (w_RI f_X2_draw) (x_istore 2 (x_aload 0 (x_push (.int 4) (y_cv1 34 (w_RI f_X2_draw) (x_istore 3 (x_iload 3 (x_if_le (x_push (.int (-1)) ((k_X2_addition_28 P))) (x_aload 0 (x_aload 1 (y_cv1 34 (w_RR f_X2_symbol) ((k_X2_addition_28 P)))))))))))))))
set_option maxRecDepth 20000 in
theorem t_X2_addition_0 {p : Program} {l : Launch} {e : Env} {s : State} {m : MethodId} {args : Array Value} {below : List Frame} {meth : Method} {c : Code} {g : xG} (X : xX p s m args c meth cX2_addition RX2 7 g) (hr : meth.sig.returnType = (some .int)) {P : xP} : xAt p l e { frames := 2, cells := 0, slots := 0, locals := 47 } s m args below meth c g 7 xFT xN 0 0 (MQ below (xQc g xFT xN P) args s 0 0 (xFr g)) (k_X2_addition_0 P) 0 := by
  unfold k_X2_addition_0
  refine r_aload_n (pc := 0) X d_X2_addition_0 fn0 ?_
  refine r_aload_n (pc := 1) X d_X2_addition_1 fn1 ?_
  refine r_getI (pc := 2) X xok4 (by decide +kernel) (by decide +kernel) fl_RX2_42 d_X2_addition_2 ?_
  refine s_cv1 (pc := 5) (ci := 2) X xok2 (by decide +kernel) ob_34 rfl (con_X2_draw l) mf_X2_draw ml_RX2_20 (by decide +kernel) (by decide +kernel) d_X2_addition_5 ?_
  refine r_istore_n (pc := 8) X d_X2_addition_8 fn2 (by decide +kernel) ?_
  refine r_aload_n (pc := 9) X d_X2_addition_9 fn0 ?_
  refine r_iconst (pc := 10) X d_X2_addition_10 (by decide +kernel) ?_
  refine s_cv1 (pc := 11) (ci := 2) X xok2 (by decide +kernel) ob_34 rfl (con_X2_draw l) mf_X2_draw ml_RX2_20 (by decide +kernel) (by decide +kernel) d_X2_addition_11 ?_
  refine r_istore_n (pc := 14) X d_X2_addition_14 fn3 (by decide +kernel) ?_
  refine r_iload_n (pc := 15) X d_X2_addition_15 fn3 ?_
  refine r_if_le (pc := 16) (tgt := 27) X d_X2_addition_16 (by decide +kernel) ?_ ?_
  · refine r_iconst (pc := 27) X d_X2_addition_27 (by decide +kernel) ?_
    exact t_X2_addition_28 X hr
  · refine r_aload_n (pc := 19) X d_X2_addition_19 fn0 ?_
    refine r_aload_n (pc := 20) X d_X2_addition_20 fn1 ?_
    refine s_cv1 (pc := 21) (ci := 2) X xok2 (by decide +kernel) ob_34 rfl (con_X2_symbol l) mf_X2_symbol ml_RX2_48 (by decide +kernel) (by decide +kernel) d_X2_addition_21 ?_
    refine r_goto (pc := 24) (tgt := 28) X d_X2_addition_24 (by decide +kernel) ?_
    exact t_X2_addition_28 X hr
def f_X2_addition (a0 : Nat) (a1 : Nat) (A : xH) (P : xP) : Prop := k_X2_addition_0 P [some (.ref a0), some (.ref a1), none, none, none, none, none] [] A
set_option maxRecDepth 20000 in
theorem con_X2_addition (l : Launch) : xCon l yX2_addition cX2_addition 7 (some .int) 2 47 xN xN 0 xFT xFT (w_RR f_X2_addition) :=
  xc_RR (plainFor_of_name pn_RX2) (by decide +kernel) (fun p e s m args below meth c g a0 a1 A P h X hr _ => ⟨_, h, t_X2_addition_0 X hr⟩)
theorem d_X2_deed_0 : decode cX2_deed 0 = .ok (.aload_n 0, 1) := by decide +kernel
theorem d_X2_deed_1 : decode cX2_deed 1 = .ok (.bipush 6, 2) := by decide +kernel
theorem d_X2_deed_3 : decode cX2_deed 3 = .ok (.invokevirtual 20, 3) := by decide +kernel
theorem d_X2_deed_6 : decode cX2_deed 6 = .ok (.istore_n 2, 1) := by decide +kernel
theorem d_X2_deed_7 : decode cX2_deed 7 = .ok (.iload_n 2, 1) := by decide +kernel
theorem d_X2_deed_8 : decode cX2_deed 8 = .ok (.iconst 2, 1) := by decide +kernel
theorem d_X2_deed_9 : decode cX2_deed 9 = .ok (.if_icmp .gt 48, 3) := by decide +kernel
theorem d_X2_deed_12 : decode cX2_deed 12 = .ok (.aload_n 1, 1) := by decide +kernel
theorem d_X2_deed_13 : decode cX2_deed 13 = .ok (.getfield 24, 3) := by decide +kernel
theorem d_X2_deed_16 : decode cX2_deed 16 = .ok (.iconst 2, 1) := by decide +kernel
theorem d_X2_deed_17 : decode cX2_deed 17 = .ok (.if_icmp .gt 5, 3) := by decide +kernel
theorem d_X2_deed_20 : decode cX2_deed 20 = .ok (.iconst (-1), 1) := by decide +kernel
theorem d_X2_deed_21 : decode cX2_deed 21 = .ok (.ireturn, 1) := by decide +kernel
theorem d_X2_deed_22 : decode cX2_deed 22 = .ok (.iconst 2, 1) := by decide +kernel
theorem d_X2_deed_23 : decode cX2_deed 23 = .ok (.aload_n 0, 1) := by decide +kernel
theorem d_X2_deed_24 : decode cX2_deed 24 = .ok (.aload_n 1, 1) := by decide +kernel
theorem d_X2_deed_25 : decode cX2_deed 25 = .ok (.getfield 24, 3) := by decide +kernel
theorem d_X2_deed_28 : decode cX2_deed 28 = .ok (.iconst 2, 1) := by decide +kernel
theorem d_X2_deed_29 : decode cX2_deed 29 = .ok (.isub, 1) := by decide +kernel
theorem d_X2_deed_30 : decode cX2_deed 30 = .ok (.invokevirtual 20, 3) := by decide +kernel
theorem d_X2_deed_33 : decode cX2_deed 33 = .ok (.iadd, 1) := by decide +kernel
theorem d_X2_deed_34 : decode cX2_deed 34 = .ok (.istore_n 3, 1) := by decide +kernel
theorem d_X2_deed_35 : decode cX2_deed 35 = .ok (.iconst 2, 1) := by decide +kernel
theorem d_X2_deed_36 : decode cX2_deed 36 = .ok (.aload_n 0, 1) := by decide +kernel
theorem d_X2_deed_37 : decode cX2_deed 37 = .ok (.aload_n 1, 1) := by decide +kernel
theorem d_X2_deed_38 : decode cX2_deed 38 = .ok (.getfield 24, 3) := by decide +kernel
theorem d_X2_deed_41 : decode cX2_deed 41 = .ok (.iconst 2, 1) := by decide +kernel
theorem d_X2_deed_42 : decode cX2_deed 42 = .ok (.isub, 1) := by decide +kernel
theorem d_X2_deed_43 : decode cX2_deed 43 = .ok (.invokevirtual 20, 3) := by decide +kernel
theorem d_X2_deed_46 : decode cX2_deed 46 = .ok (.iadd, 1) := by decide +kernel
theorem d_X2_deed_47 : decode cX2_deed 47 = .ok (.istore 4, 2) := by decide +kernel
theorem d_X2_deed_49 : decode cX2_deed 49 = .ok (.aload_n 1, 1) := by decide +kernel
theorem d_X2_deed_50 : decode cX2_deed 50 = .ok (.iload_n 3, 1) := by decide +kernel
theorem d_X2_deed_51 : decode cX2_deed 51 = .ok (.iload 4, 2) := by decide +kernel
theorem d_X2_deed_53 : decode cX2_deed 53 = .ok (.invokevirtual 29, 3) := by decide +kernel
theorem d_X2_deed_56 : decode cX2_deed 56 = .ok (.ireturn, 1) := by decide +kernel
theorem d_X2_deed_57 : decode cX2_deed 57 = .ok (.iload_n 2, 1) := by decide +kernel
theorem d_X2_deed_58 : decode cX2_deed 58 = .ok (.iconst 3, 1) := by decide +kernel
theorem d_X2_deed_59 : decode cX2_deed 59 = .ok (.if_icmp .ne 13, 3) := by decide +kernel
theorem d_X2_deed_62 : decode cX2_deed 62 = .ok (.aload_n 1, 1) := by decide +kernel
theorem d_X2_deed_63 : decode cX2_deed 63 = .ok (.aload_n 0, 1) := by decide +kernel
theorem d_X2_deed_64 : decode cX2_deed 64 = .ok (.iconst 2, 1) := by decide +kernel
theorem d_X2_deed_65 : decode cX2_deed 65 = .ok (.invokevirtual 20, 3) := by decide +kernel
theorem d_X2_deed_68 : decode cX2_deed 68 = .ok (.invokevirtual 33, 3) := by decide +kernel
theorem d_X2_deed_71 : decode cX2_deed 71 = .ok (.ireturn, 1) := by decide +kernel
theorem d_X2_deed_72 : decode cX2_deed 72 = .ok (.iload_n 2, 1) := by decide +kernel
theorem d_X2_deed_73 : decode cX2_deed 73 = .ok (.iconst 4, 1) := by decide +kernel
theorem d_X2_deed_74 : decode cX2_deed 74 = .ok (.if_icmp .ne 27, 3) := by decide +kernel
theorem d_X2_deed_77 : decode cX2_deed 77 = .ok (.aload_n 1, 1) := by decide +kernel
theorem d_X2_deed_78 : decode cX2_deed 78 = .ok (.getfield 36, 3) := by decide +kernel
theorem d_X2_deed_81 : decode cX2_deed 81 = .ok (.ifCond .le 18, 3) := by decide +kernel
theorem d_X2_deed_84 : decode cX2_deed 84 = .ok (.aload_n 1, 1) := by decide +kernel
theorem d_X2_deed_85 : decode cX2_deed 85 = .ok (.aload_n 0, 1) := by decide +kernel
theorem d_X2_deed_86 : decode cX2_deed 86 = .ok (.aload_n 1, 1) := by decide +kernel
theorem d_X2_deed_87 : decode cX2_deed 87 = .ok (.getfield 36, 3) := by decide +kernel
theorem d_X2_deed_90 : decode cX2_deed 90 = .ok (.invokevirtual 20, 3) := by decide +kernel
theorem d_X2_deed_93 : decode cX2_deed 93 = .ok (.invokevirtual 39, 3) := by decide +kernel
theorem d_X2_deed_96 : decode cX2_deed 96 = .ok (.goto 4, 3) := by decide +kernel
theorem d_X2_deed_99 : decode cX2_deed 99 = .ok (.iconst (-1), 1) := by decide +kernel
theorem d_X2_deed_100 : decode cX2_deed 100 = .ok (.ireturn, 1) := by decide +kernel
theorem d_X2_deed_101 : decode cX2_deed 101 = .ok (.aload_n 1, 1) := by decide +kernel
theorem d_X2_deed_102 : decode cX2_deed 102 = .ok (.getfield 42, 3) := by decide +kernel
theorem d_X2_deed_105 : decode cX2_deed 105 = .ok (.ifCond .le 11, 3) := by decide +kernel
theorem d_X2_deed_108 : decode cX2_deed 108 = .ok (.aload_n 0, 1) := by decide +kernel
theorem d_X2_deed_109 : decode cX2_deed 109 = .ok (.aload_n 1, 1) := by decide +kernel
theorem d_X2_deed_110 : decode cX2_deed 110 = .ok (.invokevirtual 45, 3) := by decide +kernel
theorem d_X2_deed_113 : decode cX2_deed 113 = .ok (.goto 4, 3) := by decide +kernel
theorem d_X2_deed_116 : decode cX2_deed 116 = .ok (.iconst (-1), 1) := by decide +kernel
theorem d_X2_deed_117 : decode cX2_deed 117 = .ok (.ireturn, 1) := by decide +kernel
def k_X2_deed_117 (P : xP) : xK := x_iret P
set_option maxRecDepth 20000 in
theorem t_X2_deed_117 {p : Program} {l : Launch} {e : Env} {s : State} {m : MethodId} {args : Array Value} {below : List Frame} {meth : Method} {c : Code} {g : xG} (X : xX p s m args c meth cX2_deed RX2 5 g) (hr : meth.sig.returnType = (some .int)) {P : xP} : xAt p l e { frames := 3, cells := 0, slots := 0, locals := 73 } s m args below meth c g 5 xFT xN 0 0 (MQ below (xQc g xFT xN P) args s 0 0 (xFr g)) (k_X2_deed_117 P) 117 := by
  unfold k_X2_deed_117
  exact r_iret (pc := 117) X hr d_X2_deed_117
def k_X2_deed_100 (P : xP) : xK := x_iret P
set_option maxRecDepth 20000 in
theorem t_X2_deed_100 {p : Program} {l : Launch} {e : Env} {s : State} {m : MethodId} {args : Array Value} {below : List Frame} {meth : Method} {c : Code} {g : xG} (X : xX p s m args c meth cX2_deed RX2 5 g) (hr : meth.sig.returnType = (some .int)) {P : xP} : xAt p l e { frames := 3, cells := 0, slots := 0, locals := 73 } s m args below meth c g 5 xFT xN 0 0 (MQ below (xQc g xFT xN P) args s 0 0 (xFr g)) (k_X2_deed_100 P) 100 := by
  unfold k_X2_deed_100
  exact r_iret (pc := 100) X hr d_X2_deed_100
def k_X2_deed_0 (P : xP) : xK := x_aload 0 (x_push (.int 6) (y_cv1 34 (w_RI f_X2_draw) (x_istore 2 (x_iload 2 (x_push (.int 2) (x_icmp_gt (x_iload 2 (x_push (.int 3) (x_icmp_ne (x_iload 2 (x_push (.int 4) (x_icmp_ne (x_aload 1 (x_getI xN 4 1 (x_if_le (x_push (.int (-1)) ((k_X2_deed_117 P))) (x_aload 0 (x_aload 1 (y_cv1 34 (w_RR f_X2_addition) ((k_X2_deed_117 P)))))))) (x_aload 1 (x_getI xN 4 2 (x_if_le (x_push (.int (-1)) ((k_X2_deed_100 P))) (x_aload 1 (x_aload 0 (x_aload 1 (x_getI xN 4 2 (y_cv1 34 (w_RI f_X2_draw) (x_cv1 xN 4 (w_RI f_X4_removeRule) ((k_X2_deed_100 P)))))))))))))) (x_aload 1 (x_aload 0 (x_push (.int 2) (y_cv1 34 (w_RI f_X2_draw) (x_cv1 xN 4 (w_RI f_X4_deepen) (x_iret P))))))))) (x_aload 1 (x_getI xN 4 3 (x_push (.int 2) (x_icmp_gt (x_push (.int 2) (x_aload 0 (x_aload 1 (x_getI xN 4 3 (x_push (.int 2) (x_isub (y_cv1 34 (w_RI f_X2_draw) (x_iadd (x_istore 3 (x_push (.int 2) (x_aload 0 (x_aload 1 (x_getI xN 4 3 (x_push (.int 2) (x_isub (y_cv1 34 (w_RI f_X2_draw) (x_iadd (x_istore 4 (x_aload 1 (x_iload 3 (x_iload 4 (x_cv2 xN 4 (w_RII f_X4_unite) (x_iret P))))))))))))))))))))))) (x_push (.int (-1)) (x_iret P))))))))))))
set_option maxRecDepth 20000 in
theorem t_X2_deed_0 {p : Program} {l : Launch} {e : Env} {s : State} {m : MethodId} {args : Array Value} {below : List Frame} {meth : Method} {c : Code} {g : xG} (X : xX p s m args c meth cX2_deed RX2 5 g) (hr : meth.sig.returnType = (some .int)) {P : xP} : xAt p l e { frames := 3, cells := 0, slots := 0, locals := 73 } s m args below meth c g 5 xFT xN 0 0 (MQ below (xQc g xFT xN P) args s 0 0 (xFr g)) (k_X2_deed_0 P) 0 := by
  unfold k_X2_deed_0
  refine r_aload_n (pc := 0) X d_X2_deed_0 fn0 ?_
  refine r_bipush (pc := 1) X d_X2_deed_1 (by decide +kernel) ?_
  refine s_cv1 (pc := 3) (ci := 2) X xok2 (by decide +kernel) ob_34 rfl (con_X2_draw l) mf_X2_draw ml_RX2_20 (by decide +kernel) (by decide +kernel) d_X2_deed_3 ?_
  refine r_istore_n (pc := 6) X d_X2_deed_6 fn2 (by decide +kernel) ?_
  refine r_iload_n (pc := 7) X d_X2_deed_7 fn2 ?_
  refine r_iconst (pc := 8) X d_X2_deed_8 (by decide +kernel) ?_
  refine r_icmp_gt (pc := 9) (tgt := 57) X d_X2_deed_9 (by decide +kernel) ?_ ?_
  · refine r_iload_n (pc := 57) X d_X2_deed_57 fn2 ?_
    refine r_iconst (pc := 58) X d_X2_deed_58 (by decide +kernel) ?_
    refine r_icmp_ne (pc := 59) (tgt := 72) X d_X2_deed_59 (by decide +kernel) ?_ ?_
    · refine r_iload_n (pc := 72) X d_X2_deed_72 fn2 ?_
      refine r_iconst (pc := 73) X d_X2_deed_73 (by decide +kernel) ?_
      refine r_icmp_ne (pc := 74) (tgt := 101) X d_X2_deed_74 (by decide +kernel) ?_ ?_
      · refine r_aload_n (pc := 101) X d_X2_deed_101 fn1 ?_
        refine r_getI (pc := 102) X xok4 (by decide +kernel) (by decide +kernel) fl_RX2_42 d_X2_deed_102 ?_
        refine r_if_le (pc := 105) (tgt := 116) X d_X2_deed_105 (by decide +kernel) ?_ ?_
        · refine r_iconst (pc := 116) X d_X2_deed_116 (by decide +kernel) ?_
          exact t_X2_deed_117 X hr
        · refine r_aload_n (pc := 108) X d_X2_deed_108 fn0 ?_
          refine r_aload_n (pc := 109) X d_X2_deed_109 fn1 ?_
          refine s_cv1 (pc := 110) (ci := 2) X xok2 (by decide +kernel) ob_34 rfl (con_X2_addition l) mf_X2_addition ml_RX2_45 (by decide +kernel) (by decide +kernel) d_X2_deed_110 ?_
          refine r_goto (pc := 113) (tgt := 117) X d_X2_deed_113 (by decide +kernel) ?_
          exact t_X2_deed_117 X hr
      · refine r_aload_n (pc := 77) X d_X2_deed_77 fn1 ?_
        refine r_getI (pc := 78) X xok4 (by decide +kernel) (by decide +kernel) fl_RX2_36 d_X2_deed_78 ?_
        refine r_if_le (pc := 81) (tgt := 99) X d_X2_deed_81 (by decide +kernel) ?_ ?_
        · refine r_iconst (pc := 99) X d_X2_deed_99 (by decide +kernel) ?_
          exact t_X2_deed_100 X hr
        · refine r_aload_n (pc := 84) X d_X2_deed_84 fn1 ?_
          refine r_aload_n (pc := 85) X d_X2_deed_85 fn0 ?_
          refine r_aload_n (pc := 86) X d_X2_deed_86 fn1 ?_
          refine r_getI (pc := 87) X xok4 (by decide +kernel) (by decide +kernel) fl_RX2_36 d_X2_deed_87 ?_
          refine s_cv1 (pc := 90) (ci := 2) X xok2 (by decide +kernel) ob_34 rfl (con_X2_draw l) mf_X2_draw ml_RX2_20 (by decide +kernel) (by decide +kernel) d_X2_deed_90 ?_
          refine r_cv1 (pc := 93) X xok4 (by decide +kernel) rfl (con_X4_removeRule l) mf_X4_removeRule ml_RX2_39 (by decide +kernel) (by decide +kernel) d_X2_deed_93 ?_
          refine r_goto (pc := 96) (tgt := 100) X d_X2_deed_96 (by decide +kernel) ?_
          exact t_X2_deed_100 X hr
    · refine r_aload_n (pc := 62) X d_X2_deed_62 fn1 ?_
      refine r_aload_n (pc := 63) X d_X2_deed_63 fn0 ?_
      refine r_iconst (pc := 64) X d_X2_deed_64 (by decide +kernel) ?_
      refine s_cv1 (pc := 65) (ci := 2) X xok2 (by decide +kernel) ob_34 rfl (con_X2_draw l) mf_X2_draw ml_RX2_20 (by decide +kernel) (by decide +kernel) d_X2_deed_65 ?_
      refine r_cv1 (pc := 68) X xok4 (by decide +kernel) rfl (con_X4_deepen l) mf_X4_deepen ml_RX2_33 (by decide +kernel) (by decide +kernel) d_X2_deed_68 ?_
      exact r_iret (pc := 71) X hr d_X2_deed_71
  · refine r_aload_n (pc := 12) X d_X2_deed_12 fn1 ?_
    refine r_getI (pc := 13) X xok4 (by decide +kernel) (by decide +kernel) fl_RX2_24 d_X2_deed_13 ?_
    refine r_iconst (pc := 16) X d_X2_deed_16 (by decide +kernel) ?_
    refine r_icmp_gt (pc := 17) (tgt := 22) X d_X2_deed_17 (by decide +kernel) ?_ ?_
    · refine r_iconst (pc := 22) X d_X2_deed_22 (by decide +kernel) ?_
      refine r_aload_n (pc := 23) X d_X2_deed_23 fn0 ?_
      refine r_aload_n (pc := 24) X d_X2_deed_24 fn1 ?_
      refine r_getI (pc := 25) X xok4 (by decide +kernel) (by decide +kernel) fl_RX2_24 d_X2_deed_25 ?_
      refine r_iconst (pc := 28) X d_X2_deed_28 (by decide +kernel) ?_
      refine r_isub (pc := 29) X d_X2_deed_29 ?_
      refine s_cv1 (pc := 30) (ci := 2) X xok2 (by decide +kernel) ob_34 rfl (con_X2_draw l) mf_X2_draw ml_RX2_20 (by decide +kernel) (by decide +kernel) d_X2_deed_30 ?_
      refine r_iadd (pc := 33) X d_X2_deed_33 ?_
      refine r_istore_n (pc := 34) X d_X2_deed_34 fn3 (by decide +kernel) ?_
      refine r_iconst (pc := 35) X d_X2_deed_35 (by decide +kernel) ?_
      refine r_aload_n (pc := 36) X d_X2_deed_36 fn0 ?_
      refine r_aload_n (pc := 37) X d_X2_deed_37 fn1 ?_
      refine r_getI (pc := 38) X xok4 (by decide +kernel) (by decide +kernel) fl_RX2_24 d_X2_deed_38 ?_
      refine r_iconst (pc := 41) X d_X2_deed_41 (by decide +kernel) ?_
      refine r_isub (pc := 42) X d_X2_deed_42 ?_
      refine s_cv1 (pc := 43) (ci := 2) X xok2 (by decide +kernel) ob_34 rfl (con_X2_draw l) mf_X2_draw ml_RX2_20 (by decide +kernel) (by decide +kernel) d_X2_deed_43 ?_
      refine r_iadd (pc := 46) X d_X2_deed_46 ?_
      refine r_istore (pc := 47) X d_X2_deed_47 (by decide +kernel) ?_
      refine r_aload_n (pc := 49) X d_X2_deed_49 fn1 ?_
      refine r_iload_n (pc := 50) X d_X2_deed_50 fn3 ?_
      refine r_iload (pc := 51) X d_X2_deed_51 ?_
      refine r_cv2 (pc := 53) X xok4 (by decide +kernel) rfl (con_X4_unite l) mf_X4_unite ml_RX2_29 (by decide +kernel) (by decide +kernel) d_X2_deed_53 ?_
      exact r_iret (pc := 56) X hr d_X2_deed_56
    · refine r_iconst (pc := 20) X d_X2_deed_20 (by decide +kernel) ?_
      exact r_iret (pc := 21) X hr d_X2_deed_21
def f_X2_deed (a0 : Nat) (a1 : Nat) (A : xH) (P : xP) : Prop := k_X2_deed_0 P [some (.ref a0), some (.ref a1), none, none, none] [] A
set_option maxRecDepth 20000 in
theorem con_X2_deed (l : Launch) : xCon l yX2_deed cX2_deed 5 (some .int) 3 73 xN xN 0 xFT xFT (w_RR f_X2_deed) :=
  xc_RR (plainFor_of_name pn_RX2) (by decide +kernel) (fun p e s m args below meth c g a0 a1 A P h X hr _ => ⟨_, h, t_X2_deed_0 X hr⟩)
theorem d_X2_deeds_0 : decode cX2_deeds 0 = .ok (.aload_n 0, 1) := by decide +kernel
theorem d_X2_deeds_1 : decode cX2_deeds 1 = .ok (.iload_n 3, 1) := by decide +kernel
theorem d_X2_deeds_2 : decode cX2_deeds 2 = .ok (.putfield 9, 3) := by decide +kernel
theorem d_X2_deeds_5 : decode cX2_deeds 5 = .ok (.iconst 0, 1) := by decide +kernel
theorem d_X2_deeds_6 : decode cX2_deeds 6 = .ok (.istore 4, 2) := by decide +kernel
theorem d_X2_deeds_8 : decode cX2_deeds 8 = .ok (.iconst 0, 1) := by decide +kernel
theorem d_X2_deeds_9 : decode cX2_deeds 9 = .ok (.istore 5, 2) := by decide +kernel
theorem d_X2_deeds_11 : decode cX2_deeds 11 = .ok (.iload 5, 2) := by decide +kernel
theorem d_X2_deeds_13 : decode cX2_deeds 13 = .ok (.iload_n 2, 1) := by decide +kernel
theorem d_X2_deeds_14 : decode cX2_deeds 14 = .ok (.if_icmp .ge 27, 3) := by decide +kernel
theorem d_X2_deeds_17 : decode cX2_deeds 17 = .ok (.iload 4, 2) := by decide +kernel
theorem d_X2_deeds_19 : decode cX2_deeds 19 = .ok (.aload_n 0, 1) := by decide +kernel
theorem d_X2_deeds_20 : decode cX2_deeds 20 = .ok (.aload_n 1, 1) := by decide +kernel
theorem d_X2_deeds_21 : decode cX2_deeds 21 = .ok (.invokevirtual 15, 3) := by decide +kernel
theorem d_X2_deeds_24 : decode cX2_deeds 24 = .ok (.ifCond .ne 7, 3) := by decide +kernel
theorem d_X2_deeds_27 : decode cX2_deeds 27 = .ok (.iconst 1, 1) := by decide +kernel
theorem d_X2_deeds_28 : decode cX2_deeds 28 = .ok (.goto 4, 3) := by decide +kernel
theorem d_X2_deeds_31 : decode cX2_deeds 31 = .ok (.iconst 0, 1) := by decide +kernel
theorem d_X2_deeds_32 : decode cX2_deeds 32 = .ok (.iadd, 1) := by decide +kernel
theorem d_X2_deeds_33 : decode cX2_deeds 33 = .ok (.istore 4, 2) := by decide +kernel
theorem d_X2_deeds_35 : decode cX2_deeds 35 = .ok (.iinc 5 1, 3) := by decide +kernel
theorem d_X2_deeds_38 : decode cX2_deeds 38 = .ok (.goto (-27), 3) := by decide +kernel
theorem d_X2_deeds_41 : decode cX2_deeds 41 = .ok (.iload 4, 2) := by decide +kernel
theorem d_X2_deeds_43 : decode cX2_deeds 43 = .ok (.ireturn, 1) := by decide +kernel
def k_X2_deeds_0 (P : xP) (C11 : xK) : xK := x_aload 0 (x_iload 3 (y_putI 34 0 (x_push (.int 0) (x_istore 4 (x_push (.int 0) (x_istore 5 (C11)))))))
set_option maxRecDepth 20000 in
theorem t_X2_deeds_0 {p : Program} {l : Launch} {e : Env} {s : State} {m : MethodId} {args : Array Value} {below : List Frame} {meth : Method} {c : Code} {g : xG} (X : xX p s m args c meth cX2_deeds RX2 6 g) (hr : meth.sig.returnType = (some .int)) {P : xP} {C11 : xK} (h11 : xAt p l e { frames := 4, cells := 0, slots := 0, locals := 97 } s m args below meth c g 6 xFT xN 0 0 (MQ below (xQc g xFT xN P) args s 0 0 (xFr g)) C11 11) : xAt p l e { frames := 4, cells := 0, slots := 0, locals := 97 } s m args below meth c g 6 xFT xN 0 0 (MQ below (xQc g xFT xN P) args s 0 0 (xFr g)) (k_X2_deeds_0 P C11) 0 := by
  unfold k_X2_deeds_0
  refine r_aload_n (pc := 0) X d_X2_deeds_0 fn0 ?_
  refine r_iload_n (pc := 1) X d_X2_deeds_1 fn3 ?_
  refine s_putI (pc := 2) (ci := 2) X xok2 (by decide +kernel) ob_34 (by decide +kernel) (by decide +kernel) (by decide +kernel) fl_RX2_9 d_X2_deeds_2 ?_
  refine r_iconst (pc := 5) X d_X2_deeds_5 (by decide +kernel) ?_
  refine r_istore (pc := 6) X d_X2_deeds_6 (by decide +kernel) ?_
  refine r_iconst (pc := 8) X d_X2_deeds_8 (by decide +kernel) ?_
  refine r_istore (pc := 9) X d_X2_deeds_9 (by decide +kernel) ?_
  exact h11
def k_X2_deeds_32 (P : xP) (C11 : xK) : xK := x_iadd (x_istore 4 (x_iinc 5 1 (C11)))
set_option maxRecDepth 20000 in
theorem t_X2_deeds_32 {p : Program} {l : Launch} {e : Env} {s : State} {m : MethodId} {args : Array Value} {below : List Frame} {meth : Method} {c : Code} {g : xG} (X : xX p s m args c meth cX2_deeds RX2 6 g) (hr : meth.sig.returnType = (some .int)) {P : xP} {C11 : xK} (h11 : xAt p l e { frames := 4, cells := 0, slots := 0, locals := 97 } s m args below meth c g 6 xFT xN 0 0 (MQ below (xQc g xFT xN P) args s 0 0 (xFr g)) C11 11) : xAt p l e { frames := 4, cells := 0, slots := 0, locals := 97 } s m args below meth c g 6 xFT xN 0 0 (MQ below (xQc g xFT xN P) args s 0 0 (xFr g)) (k_X2_deeds_32 P C11) 32 := by
  unfold k_X2_deeds_32
  refine r_iadd (pc := 32) X d_X2_deeds_32 ?_
  refine r_istore (pc := 33) X d_X2_deeds_33 (by decide +kernel) ?_
  refine r_iinc (pc := 35) X d_X2_deeds_35 (by decide +kernel) (by decide +kernel) ?_
  refine r_goto (pc := 38) (tgt := 11) X d_X2_deeds_38 (by decide +kernel) ?_
  exact h11
def k_X2_deeds_11 (P : xP) (C11 : xK) : xK := x_iload 5 (x_iload 2 (x_icmp_ge (x_iload 4 (x_iret P)) (x_iload 4 (x_aload 0 (x_aload 1 (y_cv1 34 (w_RR f_X2_deed) (x_if_ne (x_push (.int 0) ((k_X2_deeds_32 P C11))) (x_push (.int 1) ((k_X2_deeds_32 P C11))))))))))
set_option maxRecDepth 20000 in
theorem t_X2_deeds_11 {p : Program} {l : Launch} {e : Env} {s : State} {m : MethodId} {args : Array Value} {below : List Frame} {meth : Method} {c : Code} {g : xG} (X : xX p s m args c meth cX2_deeds RX2 6 g) (hr : meth.sig.returnType = (some .int)) {P : xP} {C11 : xK} (h11 : xAt p l e { frames := 4, cells := 0, slots := 0, locals := 97 } s m args below meth c g 6 xFT xN 0 0 (MQ below (xQc g xFT xN P) args s 0 0 (xFr g)) C11 11) : xAt p l e { frames := 4, cells := 0, slots := 0, locals := 97 } s m args below meth c g 6 xFT xN 0 0 (MQ below (xQc g xFT xN P) args s 0 0 (xFr g)) (k_X2_deeds_11 P C11) 11 := by
  unfold k_X2_deeds_11
  refine r_iload (pc := 11) X d_X2_deeds_11 ?_
  refine r_iload_n (pc := 13) X d_X2_deeds_13 fn2 ?_
  refine r_icmp_ge (pc := 14) (tgt := 41) X d_X2_deeds_14 (by decide +kernel) ?_ ?_
  · refine r_iload (pc := 41) X d_X2_deeds_41 ?_
    exact r_iret (pc := 43) X hr d_X2_deeds_43
  · refine r_iload (pc := 17) X d_X2_deeds_17 ?_
    refine r_aload_n (pc := 19) X d_X2_deeds_19 fn0 ?_
    refine r_aload_n (pc := 20) X d_X2_deeds_20 fn1 ?_
    refine s_cv1 (pc := 21) (ci := 2) X xok2 (by decide +kernel) ob_34 rfl (con_X2_deed l) mf_X2_deed ml_RX2_15 (by decide +kernel) (by decide +kernel) d_X2_deeds_21 ?_
    refine r_if_ne (pc := 24) (tgt := 31) X d_X2_deeds_24 (by decide +kernel) ?_ ?_
    · refine r_iconst (pc := 31) X d_X2_deeds_31 (by decide +kernel) ?_
      exact t_X2_deeds_32 X hr h11
    · refine r_iconst (pc := 27) X d_X2_deeds_27 (by decide +kernel) ?_
      refine r_goto (pc := 28) (tgt := 32) X d_X2_deeds_28 (by decide +kernel) ?_
      exact t_X2_deeds_32 X hr h11
set_option maxRecDepth 20000 in
theorem m_X2_deeds {l : Launch} {f : Nat → Nat → Int32 → Int32 → xH → xP → Prop}  {I11 : Nat → Nat → Int32 → Int32 → xH → xP → xM → xK}
    (v0 : ∀ (a0 : Nat) (a1 : Nat) (a2 : Int32) (a3 : Int32) (A : xH) (P : xP), f a0 a1 a2 a3 A P → k_X2_deeds_0 P (xE (I11 a0 a1 a2 a3 A P)) [some (.ref a0), some (.ref a1), some (.int a2), some (.int a3), none, none] [] A)
    (v11 : ∀ (a0 : Nat) (a1 : Nat) (a2 : Int32) (a3 : Int32) (A : xH) (P : xP), f a0 a1 a2 a3 A P → ∀ (μ : xM) (L : xL) (st : List Value) (B : xH), I11 a0 a1 a2 a3 A P μ L st B → k_X2_deeds_11 P (xB (I11 a0 a1 a2 a3 A P) μ) L st B) : xCon l yX2_deeds cX2_deeds 6 (some .int) 4 97 xN xN 0 xFT xFT (w_RRII f) := by
  refine xc_RRII (plainFor_of_name pn_RX2) (by decide +kernel) (fun p e s m args below meth c g a0 a1 a2 a3 A P h X hr _ => ?_)
  have h11 := x_loop1 (p := p) (l := l) (e := e) (R := { frames := 4, cells := 0, slots := 0, locals := 97 }) (s := s) (m := m) (args := args) (below := below) (meth := meth) (c := c) (g := g) (nL := 6) (F := xFT) (n := xN) (cells := 0) (slots := 0) (Q := MQ below (xQc g xFT xN P) args s 0 0 (xFr g)) (I := I11 a0 a1 a2 a3 A P) (pc1 := 11) (fun μ i11 => xAt_mono (t_X2_deeds_11 (P := P) X hr i11) (v11 a0 a1 a2 a3 A P h μ))
  exact ⟨_, v0 a0 a1 a2 a3 A P h, t_X2_deeds_0 X hr h11⟩
theorem d_X12_draw_0 : decode cX12_draw 0 = .ok (.aload_n 0, 1) := by decide +kernel
theorem d_X12_draw_1 : decode cX12_draw 1 = .ok (.aload_n 0, 1) := by decide +kernel
theorem d_X12_draw_2 : decode cX12_draw 2 = .ok (.getfield 575, 3) := by decide +kernel
theorem d_X12_draw_5 : decode cX12_draw 5 = .ok (.ldc_w 578, 3) := by decide +kernel
theorem d_X12_draw_8 : decode cX12_draw 8 = .ok (.imul, 1) := by decide +kernel
theorem d_X12_draw_9 : decode cX12_draw 9 = .ok (.sipush 12345, 3) := by decide +kernel
theorem d_X12_draw_12 : decode cX12_draw 12 = .ok (.iadd, 1) := by decide +kernel
theorem d_X12_draw_13 : decode cX12_draw 13 = .ok (.putfield 575, 3) := by decide +kernel
theorem d_X12_draw_16 : decode cX12_draw 16 = .ok (.aload_n 0, 1) := by decide +kernel
theorem d_X12_draw_17 : decode cX12_draw 17 = .ok (.getfield 575, 3) := by decide +kernel
theorem d_X12_draw_20 : decode cX12_draw 20 = .ok (.bipush 8, 2) := by decide +kernel
theorem d_X12_draw_22 : decode cX12_draw 22 = .ok (.iushr, 1) := by decide +kernel
theorem d_X12_draw_23 : decode cX12_draw 23 = .ok (.iload_n 1, 1) := by decide +kernel
theorem d_X12_draw_24 : decode cX12_draw 24 = .ok (.irem, 1) := by decide +kernel
theorem d_X12_draw_25 : decode cX12_draw 25 = .ok (.ireturn, 1) := by decide +kernel
def k_X12_draw_0 (P : xP) : xK := x_aload 0 (x_aload 0 (y_getI 180 78 (x_push (.int 1103515245) (x_imul (x_push (.int 12345) (x_iadd (y_putI 180 78 (x_aload 0 (y_getI 180 78 (x_push (.int 8) (x_iushr (x_iload 1 (x_irem (x_iret P))))))))))))))
set_option maxRecDepth 20000 in
theorem t_X12_draw_0 {p : Program} {l : Launch} {e : Env} {s : State} {m : MethodId} {args : Array Value} {below : List Frame} {meth : Method} {c : Code} {g : xG} (X : xX p s m args c meth cX12_draw RX12 2 g) (hr : meth.sig.returnType = (some .int)) {P : xP} : xAt p l e { frames := 0, cells := 0, slots := 0, locals := 0 } s m args below meth c g 2 xFT xN 0 0 (MQ below (xQc g xFT xN P) args s 0 0 (xFr g)) (k_X12_draw_0 P) 0 := by
  unfold k_X12_draw_0
  refine r_aload_n (pc := 0) X d_X12_draw_0 fn0 ?_
  refine r_aload_n (pc := 1) X d_X12_draw_1 fn0 ?_
  refine s_getI (pc := 2) (ci := 12) X xok12 (by decide +kernel) ob_180 (by decide +kernel) fl_RX12_575 d_X12_draw_2 ?_
  refine r_ldcw (pc := 5) X cw_RX12_578 d_X12_draw_5 ?_
  refine r_imul (pc := 8) X d_X12_draw_8 ?_
  refine r_sipush (pc := 9) X d_X12_draw_9 (by decide +kernel) ?_
  refine r_iadd (pc := 12) X d_X12_draw_12 ?_
  refine s_putI (pc := 13) (ci := 12) X xok12 (by decide +kernel) ob_180 (by decide +kernel) (by decide +kernel) (by decide +kernel) fl_RX12_575 d_X12_draw_13 ?_
  refine r_aload_n (pc := 16) X d_X12_draw_16 fn0 ?_
  refine s_getI (pc := 17) (ci := 12) X xok12 (by decide +kernel) ob_180 (by decide +kernel) fl_RX12_575 d_X12_draw_17 ?_
  refine r_bipush (pc := 20) X d_X12_draw_20 (by decide +kernel) ?_
  refine r_iushr (pc := 22) X d_X12_draw_22 ?_
  refine r_iload_n (pc := 23) X d_X12_draw_23 fn1 ?_
  refine r_irem (pc := 24) X d_X12_draw_24 ?_
  exact r_iret (pc := 25) X hr d_X12_draw_25
def f_X12_draw (a0 : Nat) (a1 : Int32) (A : xH) (P : xP) : Prop := k_X12_draw_0 P [some (.ref a0), some (.int a1)] [] A
set_option maxRecDepth 20000 in
theorem con_X12_draw (l : Launch) : xCon l yX12_draw cX12_draw 2 (some .int) 0 0 xN xN 0 xFT xFT (w_RI f_X12_draw) :=
  xc_RI (plainFor_of_name pn_RX12) (by decide +kernel) (fun p e s m args below meth c g a0 a1 A P h X hr _ => ⟨_, h, t_X12_draw_0 X hr⟩)
theorem isM_fr {S : Nat → Nat → Prop} {A B : xH} {b : Nat} {v : xV} (h : isM A b v) (hf : fr S A B) (hs : ∀ c k, S c k → c < b ∨ b + 9 < c) : isM B b v := by
  have ei : ∀ c k, b ≤ c → c ≤ b + 9 → xi B c k = xi A c k := fun c k h1 h2 => fr_i hf (fun q => by have := hs c k q; omega)
  have el : ∀ c k, b ≤ c → c ≤ b + 9 → xl B c k = xl A c k := fun c k h1 h2 => fr_l hf (fun q => by have := hs c k q; omega)
  obtain ⟨⟨g1, g2, g3, g4, g5, g6⟩, h2, ⟨i1, i2, i3, i4⟩, h4⟩ := h
  refine ⟨⟨g1, g2, ?_, ?_, ?_, ?_⟩, h2, ⟨?_, ?_, ?_, ?_⟩, ?_⟩
  · simp only [ei b _ (Nat.le_refl _) (by omega)]; exact g3
  · intro j hj; rw [el _ _ (by omega) (by omega)]; exact g4 j hj
  · intro j hj; rw [el _ _ (by omega) (by omega)]; exact g5 j hj
  · intro r hr
    simp only [ei (b + 3) _ (by omega) (by omega), ei (b + 4) _ (by omega) (by omega), ei (b + 6) _ (by omega) (by omega)]; exact g6 r hr
  · rw [ei _ _ (by omega) (by omega)]; exact i1
  · intro r hr; rw [ei _ _ (by omega) (by omega)]; exact i2 r hr
  · simp only [ei (b + 7) _ (by omega) (by omega), ei (b + 8) _ (by omega) (by omega)]; exact i3
  · intro r hr d hd
    simp only [ei (b + 7) _ (by omega) (by omega), ei (b + 8) _ (by omega) (by omega)]; exact i4 r hr d hd
  · intro j hj; rw [ei _ _ (by omega) (by omega)]; exact h4 j hj
def nxt0 (x : Int32) : Int32 := x * 1103515245 + 12345
def drw0 (x : Int32) (n : Nat) : Nat := x.toBitVec.toNat / 256 % n
theorem nxt_ex : ∃ f : Int32 → Int32, f = nxt0 := ⟨_, rfl⟩
theorem drw_ex : ∃ f : Int32 → Nat → Nat, f = drw0 := ⟨_, rfl⟩
/-- the same, not to be opened -/
noncomputable def nxt : Int32 → Int32 := Classical.choose nxt_ex
noncomputable def drw : Int32 → Nat → Nat := Classical.choose drw_ex
theorem nxt_e (x : Int32) : nxt x = x * 1103515245 + 12345 := congrFun (Classical.choose_spec nxt_ex) x
theorem drw_e (x : Int32) (n : Nat) : drw x n = x.toBitVec.toNat / 256 % n := congrFun (congrFun (Classical.choose_spec drw_ex) x) n
def nit (nx : Int32 → Int32) (x : Int32) : Nat → Int32
  | 0 => x
  | k + 1 => nx (nit nx x k)
theorem drw_lt {x : Int32} {n : Nat} (h : 0 < n) : drw x n < n := by rw [drw_e]; exact Nat.mod_lt _ h
theorem ush_8 (x : Int32) : xius x 8 = nI (x.toBitVec.toNat / 256) := by
  apply Int32.toBitVec_inj.mp
  apply BitVec.eq_of_toNat_eq
  unfold xius
  rw [pk_ushr x 8 8 (by decide +kernel)]
  have h := x.toBitVec.isLt
  show _ = (BitVec.ofNat 32 (x.toBitVec.toNat / 256)).toNat
  rw [BitVec.toNat_ofNat, Nat.mod_eq_of_lt (by omega)]
theorem drw_rem {x : Int32} {n : Nat} (h0 : 0 < n) (hn : n < 100) : xius x (nI 8) - xius x (nI 8) / nI n * nI n = nI (drw x n) := by
  rw [show nI 8 = 8 from rfl]
  have h := x.toBitVec.isLt
  rw [ush_8, pk_rem (by omega) h0 (by omega), drw_e]
theorem n_ne0 {n : Nat} (h0 : 0 < n) (hn : n < 2 ^ 31) : (nI n = 0) = False := by simp [nI_ne0 h0 hn]
theorem draw_C {A : xH} {P : xP} {n : Nat} (h0 : 0 < n) (hn : n < 100) : f_X2_draw 34 (nI n) A P = P (some (.int (nI (drw (nxt (xi A 34 0)) n)))) (xsi A 34 0 (nxt (xi A 34 0))) := by
  unfold f_X2_draw
  simp (disch := omega) only [k_X2_draw_0, k_X2_draw_32, x_aload, x_iadd, x_if_le, x_iload, x_imul, x_irem, x_iret, x_iushr, x_push, y_getI, y_putI, xFT, xbool0, xbool1, Nat.reduceAdd, Nat.zero_add, xgl_0, xgl_s, xgl_n, xst_0, xst_1n, xst_1i, xst_1r, xst_1l, xst_s, set_0, set_s, true_and, and_true, xres, xcat_nil, xcat_i, xcat_r, xcat_l, Nat.add_zero, xble0, xble1, xble2, xble3, xble4, xble5, xble6, xble7, xble8, pk_mul, nI_add, nI_1, nI_leI, nI_ltI, nI_eq, n_in, n_cl, z_eq, z_lt, z_le, z_gt, z_ge, z_qe, o_eq, o_lt, o_le, o_gt, o_ge, vp0, vp1, cl0, cl1, n_sub, n_sub1, n_pm1, n_a0, n_0a, ofn, lN0, Nat.reduceLT, Nat.reduceLeDiff, Nat.reduceMul, Nat.reduceSub, Nat.reduceEqDiff, ne_eq, true_implies, false_implies, not_true_eq_false, not_false_eq_true, and_self, and_true, true_and, and_false, false_and, implies_true, if_true, if_false, i00, i10, i01, i11, ob_0, ob_1, tn_2, ln_2, ob_3, tn_4, ln_4, ob_5, tn_6, ln_6, tn_7, ln_7, ob_8, tn_9, ln_9, tn_10, ln_10, tn_11, ln_11, tn_12, ln_12, tn_13, ln_13, tn_14, ln_14, tn_15, ln_15, tn_16, ln_16, tn_17, ln_17, ob_18, tn_19, ln_19, tn_20, ln_20, tn_21, ln_21, tn_22, ln_22, tn_23, ln_23, tn_24, ln_24, tn_25, ln_25, tn_26, ln_26, tn_27, ln_27, ob_28, tn_29, ln_29, tn_30, ln_30, ob_31, tn_32, ln_32, tn_33, ln_33, ob_34, ob_35, tn_36, ln_36, tn_37, ln_37, tn_38, ln_38, ob_39, tn_40, ln_40, tn_41, ln_41, tn_42, ln_42, tn_43, ln_43, tn_44, ln_44, tn_45, ln_45, tn_46, ln_46, tn_47, ln_47, tn_48, ln_48, tn_49, ln_49, tn_50, ln_50, tn_51, ln_51, ob_52, tn_53, ln_53, tn_54, ln_54, tn_55, ln_55, tn_56, ln_56, ob_57, tn_58, ln_58, tn_59, ln_59, tn_60, ln_60, tn_61, ln_61, tn_62, ln_62, tn_63, ln_63, tn_64, ln_64, tn_65, ln_65, ob_66, tn_67, ln_67, tn_68, ln_68, tn_69, ln_69, tn_70, ln_70, tn_71, ln_71, tn_72, ln_72, tn_73, ln_73, ob_74, tn_75, ln_75, tn_76, ln_76, tn_77, ln_77, tn_78, ln_78, tn_79, ln_79, tn_80, ln_80, tn_81, ln_81, tn_82, ln_82, tn_83, ln_83, ob_84, tn_85, ln_85, tn_86, ln_86, tn_87, ln_87, tn_88, ln_88, tn_89, ln_89, tn_90, ln_90, tn_91, ln_91, tn_92, ln_92, tn_93, ln_93, ob_94, tn_95, ln_95, tn_96, ln_96, tn_97, ln_97, tn_98, ln_98, tn_99, ln_99, tn_100, ln_100, tn_101, ln_101, tn_102, ln_102, tn_103, ln_103, ob_104, tn_105, ln_105, tn_106, ln_106, tn_107, ln_107, tn_108, ln_108, tn_109, ln_109, tn_110, ln_110, tn_111, ln_111, tn_112, ln_112, tn_113, ln_113, ob_114, tn_115, ln_115, tn_116, ln_116, tn_117, ln_117, tn_118, ln_118, tn_119, ln_119, tn_120, ln_120, tn_121, ln_121, tn_122, ln_122, tn_123, ln_123, ob_124, tn_125, ln_125, tn_126, ln_126, tn_127, ln_127, tn_128, ln_128, tn_129, ln_129, tn_130, ln_130, tn_131, ln_131, tn_132, ln_132, tn_133, ln_133, ob_134, tn_135, ln_135, tn_136, ln_136, tn_137, ln_137, tn_138, ln_138, tn_139, ln_139, tn_140, ln_140, tn_141, ln_141, tn_142, ln_142, tn_143, ln_143, ob_144, tn_145, ln_145, tn_146, ln_146, tn_147, ln_147, tn_148, ln_148, tn_149, ln_149, tn_150, ln_150, tn_151, ln_151, tn_152, ln_152, tn_153, ln_153, ob_154, tn_155, ln_155, tn_156, ln_156, tn_157, ln_157, tn_158, ln_158, tn_159, ln_159, tn_160, ln_160, tn_161, ln_161, tn_162, ln_162, tn_163, ln_163, ob_164, tn_165, ln_165, tn_166, ln_166, ob_167, tn_168, ln_168, tn_169, ln_169, tn_170, ln_170, tn_171, ln_171, tn_172, ln_172, tn_173, ln_173, tn_174, ln_174, tn_175, ln_175, tn_176, ln_176, ob_177, tn_178, ln_178, tn_179, ln_179, ob_180, tn_181, ln_181, tn_182, ln_182, tn_183, ln_183, tn_184, ln_184, tn_185, ln_185, tn_186, ln_186, tn_187, ln_187, tn_188, ln_188, tn_189, ln_189, tn_190, ln_190, tn_191, ln_191, tn_192, ln_192, tn_193, ln_193, tn_194, ln_194, tn_195, ln_195, tn_196, ln_196, tn_197, ln_197, tn_198, ln_198, tn_199, ln_199, tn_200, ln_200, tn_201, ln_201, tn_202, ln_202, tn_203, ln_203, tn_204, ln_204, tn_205, ln_205, tn_206, ln_206, tn_207, ln_207, tn_208, ln_208, tn_209, ln_209, tn_210, ln_210, tn_211, ln_211, tn_212, ln_212, tn_213, ln_213, tn_214, ln_214, tn_215, ln_215, tn_216, ln_216, tn_217, ln_217, tn_218, ln_218, tn_219, ln_219, tn_220, ln_220, tn_221, ln_221, tn_222, ln_222, tn_223, ln_223, tn_224, ln_224, tn_225, ln_225, tn_226, ln_226, tn_227, ln_227, tn_228, ln_228, tn_229, ln_229, tn_230, ln_230, lx2, lx3, lx4, lx5, lx6, lx7, lx8, lx9, lx10, lx14, lx15, lx16, lx18, lx20, lx24, lx25, lx27, lx32, lx36, lx40, lx41, lx42, lx43, lx45, lx48, lx52, lx54, lx56, lx57, lx58, lx60, lx61, lx62, lx63, lx64, lx66, lx69, lx73, lx80, lx81, lx84, lx85, lx87, lx94, lx96, lx97, lx120, lx128, lx135, lx160, lx162, lx163, lx165, lx200, lx232, lx242, lx243, lx255, lx256, lx320, lx325, lx400, lx405, lx464, lx512, lx600, lx640, lx752, lx900, lx940, lx1000, lx1024, lx1764, lx3360, lx3840, lx5000, lx6400, lx9050, lx9998, lx9999, lx10000, lx25600, lx76800, lx99999, si_ne, si_eq, sl_ne, sl_eq, xl_si, xi_sl, sA_ne, sA_eq, xl_sA, ← nxt_e, show ¬ n = 0 by omega, drw_rem h0 hn]
theorem draw_U {A : xH} {P : xP} {n : Nat} (h0 : 0 < n) (hn : n < 100) : f_X12_draw 180 (nI n) A P = P (some (.int (nI (drw (nxt (xi A 180 78)) n)))) (xsi A 180 78 (nxt (xi A 180 78))) := by
  unfold f_X12_draw
  simp (disch := omega) only [k_X12_draw_0, x_aload, x_iadd, x_iload, x_imul, x_irem, x_iret, x_iushr, x_push, y_getI, y_putI, xFT, xbool0, xbool1, Nat.reduceAdd, Nat.zero_add, xgl_0, xgl_s, xgl_n, xst_0, xst_1n, xst_1i, xst_1r, xst_1l, xst_s, set_0, set_s, true_and, and_true, xres, xcat_nil, xcat_i, xcat_r, xcat_l, Nat.add_zero, xble0, xble1, xble2, xble3, xble4, xble5, xble6, xble7, xble8, pk_mul, nI_add, nI_1, nI_leI, nI_ltI, nI_eq, n_in, n_cl, z_eq, z_lt, z_le, z_gt, z_ge, z_qe, o_eq, o_lt, o_le, o_gt, o_ge, vp0, vp1, cl0, cl1, n_sub, n_sub1, n_pm1, n_a0, n_0a, ofn, lN0, Nat.reduceLT, Nat.reduceLeDiff, Nat.reduceMul, Nat.reduceSub, Nat.reduceEqDiff, ne_eq, true_implies, false_implies, not_true_eq_false, not_false_eq_true, and_self, and_true, true_and, and_false, false_and, implies_true, if_true, if_false, i00, i10, i01, i11, ob_0, ob_1, tn_2, ln_2, ob_3, tn_4, ln_4, ob_5, tn_6, ln_6, tn_7, ln_7, ob_8, tn_9, ln_9, tn_10, ln_10, tn_11, ln_11, tn_12, ln_12, tn_13, ln_13, tn_14, ln_14, tn_15, ln_15, tn_16, ln_16, tn_17, ln_17, ob_18, tn_19, ln_19, tn_20, ln_20, tn_21, ln_21, tn_22, ln_22, tn_23, ln_23, tn_24, ln_24, tn_25, ln_25, tn_26, ln_26, tn_27, ln_27, ob_28, tn_29, ln_29, tn_30, ln_30, ob_31, tn_32, ln_32, tn_33, ln_33, ob_34, ob_35, tn_36, ln_36, tn_37, ln_37, tn_38, ln_38, ob_39, tn_40, ln_40, tn_41, ln_41, tn_42, ln_42, tn_43, ln_43, tn_44, ln_44, tn_45, ln_45, tn_46, ln_46, tn_47, ln_47, tn_48, ln_48, tn_49, ln_49, tn_50, ln_50, tn_51, ln_51, ob_52, tn_53, ln_53, tn_54, ln_54, tn_55, ln_55, tn_56, ln_56, ob_57, tn_58, ln_58, tn_59, ln_59, tn_60, ln_60, tn_61, ln_61, tn_62, ln_62, tn_63, ln_63, tn_64, ln_64, tn_65, ln_65, ob_66, tn_67, ln_67, tn_68, ln_68, tn_69, ln_69, tn_70, ln_70, tn_71, ln_71, tn_72, ln_72, tn_73, ln_73, ob_74, tn_75, ln_75, tn_76, ln_76, tn_77, ln_77, tn_78, ln_78, tn_79, ln_79, tn_80, ln_80, tn_81, ln_81, tn_82, ln_82, tn_83, ln_83, ob_84, tn_85, ln_85, tn_86, ln_86, tn_87, ln_87, tn_88, ln_88, tn_89, ln_89, tn_90, ln_90, tn_91, ln_91, tn_92, ln_92, tn_93, ln_93, ob_94, tn_95, ln_95, tn_96, ln_96, tn_97, ln_97, tn_98, ln_98, tn_99, ln_99, tn_100, ln_100, tn_101, ln_101, tn_102, ln_102, tn_103, ln_103, ob_104, tn_105, ln_105, tn_106, ln_106, tn_107, ln_107, tn_108, ln_108, tn_109, ln_109, tn_110, ln_110, tn_111, ln_111, tn_112, ln_112, tn_113, ln_113, ob_114, tn_115, ln_115, tn_116, ln_116, tn_117, ln_117, tn_118, ln_118, tn_119, ln_119, tn_120, ln_120, tn_121, ln_121, tn_122, ln_122, tn_123, ln_123, ob_124, tn_125, ln_125, tn_126, ln_126, tn_127, ln_127, tn_128, ln_128, tn_129, ln_129, tn_130, ln_130, tn_131, ln_131, tn_132, ln_132, tn_133, ln_133, ob_134, tn_135, ln_135, tn_136, ln_136, tn_137, ln_137, tn_138, ln_138, tn_139, ln_139, tn_140, ln_140, tn_141, ln_141, tn_142, ln_142, tn_143, ln_143, ob_144, tn_145, ln_145, tn_146, ln_146, tn_147, ln_147, tn_148, ln_148, tn_149, ln_149, tn_150, ln_150, tn_151, ln_151, tn_152, ln_152, tn_153, ln_153, ob_154, tn_155, ln_155, tn_156, ln_156, tn_157, ln_157, tn_158, ln_158, tn_159, ln_159, tn_160, ln_160, tn_161, ln_161, tn_162, ln_162, tn_163, ln_163, ob_164, tn_165, ln_165, tn_166, ln_166, ob_167, tn_168, ln_168, tn_169, ln_169, tn_170, ln_170, tn_171, ln_171, tn_172, ln_172, tn_173, ln_173, tn_174, ln_174, tn_175, ln_175, tn_176, ln_176, ob_177, tn_178, ln_178, tn_179, ln_179, ob_180, tn_181, ln_181, tn_182, ln_182, tn_183, ln_183, tn_184, ln_184, tn_185, ln_185, tn_186, ln_186, tn_187, ln_187, tn_188, ln_188, tn_189, ln_189, tn_190, ln_190, tn_191, ln_191, tn_192, ln_192, tn_193, ln_193, tn_194, ln_194, tn_195, ln_195, tn_196, ln_196, tn_197, ln_197, tn_198, ln_198, tn_199, ln_199, tn_200, ln_200, tn_201, ln_201, tn_202, ln_202, tn_203, ln_203, tn_204, ln_204, tn_205, ln_205, tn_206, ln_206, tn_207, ln_207, tn_208, ln_208, tn_209, ln_209, tn_210, ln_210, tn_211, ln_211, tn_212, ln_212, tn_213, ln_213, tn_214, ln_214, tn_215, ln_215, tn_216, ln_216, tn_217, ln_217, tn_218, ln_218, tn_219, ln_219, tn_220, ln_220, tn_221, ln_221, tn_222, ln_222, tn_223, ln_223, tn_224, ln_224, tn_225, ln_225, tn_226, ln_226, tn_227, ln_227, tn_228, ln_228, tn_229, ln_229, tn_230, ln_230, lx2, lx3, lx4, lx5, lx6, lx7, lx8, lx9, lx10, lx14, lx15, lx16, lx18, lx20, lx24, lx25, lx27, lx32, lx36, lx40, lx41, lx42, lx43, lx45, lx48, lx52, lx54, lx56, lx57, lx58, lx60, lx61, lx62, lx63, lx64, lx66, lx69, lx73, lx80, lx81, lx84, lx85, lx87, lx94, lx96, lx97, lx120, lx128, lx135, lx160, lx162, lx163, lx165, lx200, lx232, lx242, lx243, lx255, lx256, lx320, lx325, lx400, lx405, lx464, lx512, lx600, lx640, lx752, lx900, lx940, lx1000, lx1024, lx1764, lx3360, lx3840, lx5000, lx6400, lx9050, lx9998, lx9999, lx10000, lx25600, lx76800, lx99999, si_ne, si_eq, sl_ne, sl_eq, xl_si, xi_sl, sA_ne, sA_eq, xl_sA, ← nxt_e, show ¬ n = 0 by omega, drw_rem h0 hn]
def smv (v : xV) (s : Nat) : Nat := if s < vK v then 8 + s else s - vK v
/-- the t-th symbol drawn -/
def sdr (nx : Int32 → Int32) (dr : Int32 → Nat → Nat) (v : xV) (x : Int32) (t : Nat) : Nat := smv v (dr (nit nx x (3 + t)) (vK v + vS v))
def vaddD (nx : Int32 → Int32) (dr : Int32 → Nat → Nat) (v : xV) (x : Int32) : xV := vadd v (dr (nit nx x 1) (vK v)) (dr (nit nx x 2) 4) (if 0 < dr (nit nx x 2) 4 then sdr nx dr v x 0 else 0) (if 1 < dr (nit nx x 2) 4 then sdr nx dr v x 1 else 0) (if 2 < dr (nit nx x 2) 4 then sdr nx dr v x 2 else 0)
/-- a deed drawn: what is so then, the seed, whether it was done; x: the seed behind its first draw -/
def deedX (nx : Int32 → Int32) (dr : Int32 → Nat → Nat) (v : xV) (x : Int32) : xV × Int32 × Bool :=
  if dr x 6 < 3 then (if vN v = 2 then (v, x, false) else if vcl v (2 + dr (nit nx x 1) (vN v - 2)) = vcl v (2 + dr (nit nx x 2) (vN v - 2)) then (v, nit nx x 2, false) else (vunite v (2 + dr (nit nx x 1) (vN v - 2)) (2 + dr (nit nx x 2) (vN v - 2)), nit nx x 2, true))
  else if dr x 6 = 3 then (if dr (nit nx x 1) 2 = vD v then (v, nit nx x 1, false) else (vdeep v (dr (nit nx x 1) 2), nit nx x 1, true))
  else if dr x 6 = 4 then (if vR v = 0 then (v, x, false) else (vdrop v (dr (nit nx x 1) (vR v)), nit nx x 1, true))
  else if vK v = 0 then (v, x, false) else if vR v = 10 then (v, nit nx x (2 + dr (nit nx x 2) 4), false) else (vaddD nx dr v x, nit nx x (2 + dr (nit nx x 2) 4), true)
def deedV (nx : Int32 → Int32) (dr : Int32 → Nat → Nat) (v : xV) (x : Int32) : xV × Int32 × Bool := deedX nx dr v (nx x)
def dsV (nx : Int32 → Int32) (dr : Int32 → Nat → Nat) (v : xV) (x : Int32) : Nat → xV × Int32 × Nat
  | 0 => (v, x, 0)
  | n + 1 => ((deedV nx dr (dsV nx dr v x n).1 (dsV nx dr v x n).2.1).1, (deedV nx dr (dsV nx dr v x n).1 (dsV nx dr v x n).2.1).2.1, (dsV nx dr v x n).2.2 + if (deedV nx dr (dsV nx dr v x n).1 (dsV nx dr v x n).2.1).2.2 then 1 else 0)
theorem smv_ok {v : xV} {s : Nat} (h : s < vK v + vS v) : smv v s < vS v ∨ (8 ≤ smv v s ∧ smv v s < 8 + vK v) := by
  unfold smv; split <;> omega
theorem sdr_ok {nx : Int32 → Int32} {dr : Int32 → Nat → Nat} (hd : ∀ x n, 0 < n → dr x n < n) {v : xV} {x : Int32} {t : Nat} (h : 0 < vK v) : sdr nx dr v x t < vS v ∨ (8 ≤ sdr nx dr v x t ∧ sdr nx dr v x t < 8 + vK v) := smv_ok (hd _ _ (by omega))
theorem deed_wf {nx : Int32 → Int32} {dr : Int32 → Nat → Nat} (hd : ∀ x n, 0 < n → dr x n < n) {v : xV} {x : Int32} (h : wf v) : wf (deedV nx dr v x).1 ∧ sameN v (deedV nx dr v x).1 := by
  have hN := vN_ge v
  unfold deedV deedX
  split
  · split
    · exact ⟨h, sameN_rf⟩
    · split
      · exact ⟨h, sameN_rf⟩
      · rename_i a b
        have h1 := hd (nit nx (nx x) 1) (vN v - 2) (by omega)
        have h2 := hd (nit nx (nx x) 2) (vN v - 2) (by omega)
        exact ⟨wf_unite h (by omega) (by omega) (by omega) (by omega) b, ⟨rfl, rfl, rfl, rfl⟩⟩
  · split
    · have h1 := hd (nit nx (nx x) 1) (2) (by omega)
      split
      · exact ⟨h, sameN_rf⟩
      · exact ⟨wf_deep h (by omega), ⟨rfl, rfl, rfl, rfl⟩⟩
    · split
      · split
        · exact ⟨h, sameN_rf⟩
        · exact ⟨wf_drop h (hd _ _ (by omega)), ⟨rfl, rfl, rfl, rfl⟩⟩
      · split
        · exact ⟨h, sameN_rf⟩
        · split
          · exact ⟨h, sameN_rf⟩
          · rename_i a b
            have h3 := h.1.2.2.1
            have h4 := hd (nit nx (nx x) 2) (4) (by omega)
            refine ⟨wf_add h (hd _ _ (by omega)) (by omega) (by omega) fun t ht => ?_, ⟨rfl, rfl, rfl, rfl⟩⟩
            have s0 := sdr_ok (nx := nx) hd (v := v) (x := nx x) (t := 0) (by omega)
            have s1 := sdr_ok (nx := nx) hd (v := v) (x := nx x) (t := 1) (by omega)
            have s2 := sdr_ok (nx := nx) hd (v := v) (x := nx x) (t := 2) (by omega)
            rcases (show t = 0 ∨ t = 1 ∨ t = 2 by omega) with rfl | rfl | rfl
            · simp only [if_pos ht]; exact s0
            · simp only [if_pos ht]; exact s1
            · simp only [if_pos ht]; exact s2
theorem ds_wf {nx : Int32 → Int32} {dr : Int32 → Nat → Nat} (hd : ∀ x n, 0 < n → dr x n < n) {v : xV} {x : Int32} (h : wf v) : ∀ n, wf (dsV nx dr v x n).1 ∧ sameN v (dsV nx dr v x n).1
  | 0 => ⟨h, sameN_rf⟩
  | n + 1 => by
    have h1 := ds_wf (nx := nx) hd (x := x) h n
    have h2 := deed_wf (nx := nx) hd (x := (dsV nx dr v x n).2.1) h1.1
    exact ⟨h2.1, sameN_tr h1.2 h2.2⟩
/-! the class's -/
theorem isM_wf {A : xH} {b : Nat} {v : xV} (h : isM A b v) : wf v := ⟨h.1.2.1, h.2.1⟩
def SD (m c k : Nat) : Prop := (c = 34 ∧ k = 0) ∨ (m ≤ c ∧ c ≤ m + 9)
theorem isM_34 {A : xH} {m : Nat} {v : xV} {x : Int32} (h : isM A m v) (hm : m = 8 ∨ m = 18) : isM (xsi A 34 0 x) m v := isM_fr h (fr_si (S := fun c _ => c = 34) fr_rf rfl) (fun c k q => by rcases hm with rfl | rfl <;> omega)
theorem symbol_C {A : xH} {P : xP} {m : Nat} {v : xV} (h : isM A m v) (hm : m = 8 ∨ m = 18) (h0 : 0 < vK v) : f_X2_symbol 34 m A P = P (some (.int (nI (smv v (drw (nxt (xi A 34 0)) (vK v + vS v)))))) (xsi A 34 0 (nxt (xi A 34 0))) := by
  have hK := h.1.2.1.2.1
  have hS := h.1.2.1.1
  obtain ⟨⟨⟨m1, -⟩, -, ⟨e0, e1, -, -⟩, -⟩, -⟩ := h
  have e3 : xi (xsi A 34 0 (nxt (xi A 34 0))) m 1 = nI (vK v) := by rw [si_ne (by omega)]; exact e1
  have hd := drw_lt (x := nxt (xi A 34 0)) (n := vK v + vS v) (by omega)
  unfold f_X2_symbol
  simp (disch := omega) only [k_X2_symbol_0, k_X2_symbol_35, w_RI, x_aload, x_getI, x_iadd, x_icmp_ge, x_iload, x_iret, x_istore, x_isub, x_push, y_cv1, xFT, xbool0, xbool1, Nat.reduceAdd, Nat.zero_add, xgl_0, xgl_s, xgl_n, xst_0, xst_1n, xst_1i, xst_1r, xst_1l, xst_s, set_0, set_s, true_and, and_true, xres, xcat_nil, xcat_i, xcat_r, xcat_l, Nat.add_zero, xble0, xble1, xble2, xble3, xble4, xble5, xble6, xble7, xble8, pk_mul, nI_add, nI_1, nI_leI, nI_ltI, nI_eq, n_in, n_cl, z_eq, z_lt, z_le, z_gt, z_ge, z_qe, o_eq, o_lt, o_le, o_gt, o_ge, vp0, vp1, cl0, cl1, n_sub, n_sub1, n_pm1, n_a0, n_0a, ofn, lN0, Nat.reduceLT, Nat.reduceLeDiff, Nat.reduceMul, Nat.reduceSub, Nat.reduceEqDiff, ne_eq, true_implies, false_implies, not_true_eq_false, not_false_eq_true, and_self, and_true, true_and, and_false, false_and, implies_true, if_true, if_false, i00, i10, i01, i11, ob_0, ob_1, tn_2, ln_2, ob_3, tn_4, ln_4, ob_5, tn_6, ln_6, tn_7, ln_7, ob_8, tn_9, ln_9, tn_10, ln_10, tn_11, ln_11, tn_12, ln_12, tn_13, ln_13, tn_14, ln_14, tn_15, ln_15, tn_16, ln_16, tn_17, ln_17, ob_18, tn_19, ln_19, tn_20, ln_20, tn_21, ln_21, tn_22, ln_22, tn_23, ln_23, tn_24, ln_24, tn_25, ln_25, tn_26, ln_26, tn_27, ln_27, ob_28, tn_29, ln_29, tn_30, ln_30, ob_31, tn_32, ln_32, tn_33, ln_33, ob_34, ob_35, tn_36, ln_36, tn_37, ln_37, tn_38, ln_38, ob_39, tn_40, ln_40, tn_41, ln_41, tn_42, ln_42, tn_43, ln_43, tn_44, ln_44, tn_45, ln_45, tn_46, ln_46, tn_47, ln_47, tn_48, ln_48, tn_49, ln_49, tn_50, ln_50, tn_51, ln_51, ob_52, tn_53, ln_53, tn_54, ln_54, tn_55, ln_55, tn_56, ln_56, ob_57, tn_58, ln_58, tn_59, ln_59, tn_60, ln_60, tn_61, ln_61, tn_62, ln_62, tn_63, ln_63, tn_64, ln_64, tn_65, ln_65, ob_66, tn_67, ln_67, tn_68, ln_68, tn_69, ln_69, tn_70, ln_70, tn_71, ln_71, tn_72, ln_72, tn_73, ln_73, ob_74, tn_75, ln_75, tn_76, ln_76, tn_77, ln_77, tn_78, ln_78, tn_79, ln_79, tn_80, ln_80, tn_81, ln_81, tn_82, ln_82, tn_83, ln_83, ob_84, tn_85, ln_85, tn_86, ln_86, tn_87, ln_87, tn_88, ln_88, tn_89, ln_89, tn_90, ln_90, tn_91, ln_91, tn_92, ln_92, tn_93, ln_93, ob_94, tn_95, ln_95, tn_96, ln_96, tn_97, ln_97, tn_98, ln_98, tn_99, ln_99, tn_100, ln_100, tn_101, ln_101, tn_102, ln_102, tn_103, ln_103, ob_104, tn_105, ln_105, tn_106, ln_106, tn_107, ln_107, tn_108, ln_108, tn_109, ln_109, tn_110, ln_110, tn_111, ln_111, tn_112, ln_112, tn_113, ln_113, ob_114, tn_115, ln_115, tn_116, ln_116, tn_117, ln_117, tn_118, ln_118, tn_119, ln_119, tn_120, ln_120, tn_121, ln_121, tn_122, ln_122, tn_123, ln_123, ob_124, tn_125, ln_125, tn_126, ln_126, tn_127, ln_127, tn_128, ln_128, tn_129, ln_129, tn_130, ln_130, tn_131, ln_131, tn_132, ln_132, tn_133, ln_133, ob_134, tn_135, ln_135, tn_136, ln_136, tn_137, ln_137, tn_138, ln_138, tn_139, ln_139, tn_140, ln_140, tn_141, ln_141, tn_142, ln_142, tn_143, ln_143, ob_144, tn_145, ln_145, tn_146, ln_146, tn_147, ln_147, tn_148, ln_148, tn_149, ln_149, tn_150, ln_150, tn_151, ln_151, tn_152, ln_152, tn_153, ln_153, ob_154, tn_155, ln_155, tn_156, ln_156, tn_157, ln_157, tn_158, ln_158, tn_159, ln_159, tn_160, ln_160, tn_161, ln_161, tn_162, ln_162, tn_163, ln_163, ob_164, tn_165, ln_165, tn_166, ln_166, ob_167, tn_168, ln_168, tn_169, ln_169, tn_170, ln_170, tn_171, ln_171, tn_172, ln_172, tn_173, ln_173, tn_174, ln_174, tn_175, ln_175, tn_176, ln_176, ob_177, tn_178, ln_178, tn_179, ln_179, ob_180, tn_181, ln_181, tn_182, ln_182, tn_183, ln_183, tn_184, ln_184, tn_185, ln_185, tn_186, ln_186, tn_187, ln_187, tn_188, ln_188, tn_189, ln_189, tn_190, ln_190, tn_191, ln_191, tn_192, ln_192, tn_193, ln_193, tn_194, ln_194, tn_195, ln_195, tn_196, ln_196, tn_197, ln_197, tn_198, ln_198, tn_199, ln_199, tn_200, ln_200, tn_201, ln_201, tn_202, ln_202, tn_203, ln_203, tn_204, ln_204, tn_205, ln_205, tn_206, ln_206, tn_207, ln_207, tn_208, ln_208, tn_209, ln_209, tn_210, ln_210, tn_211, ln_211, tn_212, ln_212, tn_213, ln_213, tn_214, ln_214, tn_215, ln_215, tn_216, ln_216, tn_217, ln_217, tn_218, ln_218, tn_219, ln_219, tn_220, ln_220, tn_221, ln_221, tn_222, ln_222, tn_223, ln_223, tn_224, ln_224, tn_225, ln_225, tn_226, ln_226, tn_227, ln_227, tn_228, ln_228, tn_229, ln_229, tn_230, ln_230, lx2, lx3, lx4, lx5, lx6, lx7, lx8, lx9, lx10, lx14, lx15, lx16, lx18, lx20, lx24, lx25, lx27, lx32, lx36, lx40, lx41, lx42, lx43, lx45, lx48, lx52, lx54, lx56, lx57, lx58, lx60, lx61, lx62, lx63, lx64, lx66, lx69, lx73, lx80, lx81, lx84, lx85, lx87, lx94, lx96, lx97, lx120, lx128, lx135, lx160, lx162, lx163, lx165, lx200, lx232, lx242, lx243, lx255, lx256, lx320, lx325, lx400, lx405, lx464, lx512, lx600, lx640, lx752, lx900, lx940, lx1000, lx1024, lx1764, lx3360, lx3840, lx5000, lx6400, lx9050, lx9998, lx9999, lx10000, lx25600, lx76800, lx99999, m1, e0, e1, Nat.add_comm (vS v), draw_C, e3]
  unfold smv
  by_cases c : drw (nxt (xi A 34 0)) (vK v + vS v) < vK v
  · simp only [c, Nat.not_le.mpr c, if_true, false_implies, true_and, not_false_eq_true, true_implies]
  · rw [n_sub (by omega)]
    simp only [c, Nat.not_lt.mp c, if_false, false_implies, and_true, not_true_eq_false, true_implies]

