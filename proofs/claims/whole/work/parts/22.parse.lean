theorem d_X5_fail_0 : decode cX5_fail 0 = .ok (.aload_n 0, 1) := by decide +kernel
theorem d_X5_fail_1 : decode cX5_fail 1 = .ok (.iload_n 1, 1) := by decide +kernel
theorem d_X5_fail_2 : decode cX5_fail 2 = .ok (.putfield 26, 3) := by decide +kernel
theorem d_X5_fail_5 : decode cX5_fail 5 = .ok (.aload_n 0, 1) := by decide +kernel
theorem d_X5_fail_6 : decode cX5_fail 6 = .ok (.aload_n 0, 1) := by decide +kernel
theorem d_X5_fail_7 : decode cX5_fail 7 = .ok (.getfield 22, 3) := by decide +kernel
theorem d_X5_fail_10 : decode cX5_fail 10 = .ok (.getfield 30, 3) := by decide +kernel
theorem d_X5_fail_13 : decode cX5_fail 13 = .ok (.putfield 35, 3) := by decide +kernel
theorem d_X5_fail_16 : decode cX5_fail 16 = .ok (.iconst 0, 1) := by decide +kernel
theorem d_X5_fail_17 : decode cX5_fail 17 = .ok (.ireturn, 1) := by decide +kernel
def k_X5_fail_0 (P : xP) : xK := x_aload 0 (x_iload 1 (y_putI 3 3 (x_aload 0 (x_aload 0 (y_getF 3 1 (y_getI 1 5 (y_putI 3 4 (x_push (.int 0) (x_zret P)))))))))
set_option maxRecDepth 20000 in
theorem t_X5_fail_0 {p : Program} {l : Launch} {e : Env} {s : State} {m : MethodId} {args : Array Value} {below : List Frame} {meth : Method} {c : Code} {g : xG} (X : xX p s m args c meth cX5_fail RX5 2 g) (hr : meth.sig.returnType = (some .boolean)) {P : xP} : xAt p l e { frames := 0, cells := 0, slots := 0, locals := 0 } s m args below meth c g 2 xFT xN 0 0 (MQ below (xQc g xFT xN P) args s 0 0 (xFr g)) (k_X5_fail_0 P) 0 := by
  unfold k_X5_fail_0
  refine r_aload_n (pc := 0) X d_X5_fail_0 fn0 ?_
  refine r_iload_n (pc := 1) X d_X5_fail_1 fn1 ?_
  refine s_putI (pc := 2) (ci := 5) X xok5 (by decide +kernel) ob_3 (by decide +kernel) (by decide +kernel) (by decide +kernel) fl_RX5_26 d_X5_fail_2 ?_
  refine r_aload_n (pc := 5) X d_X5_fail_5 fn0 ?_
  refine r_aload_n (pc := 6) X d_X5_fail_6 fn0 ?_
  refine s_getF (pc := 7) (ci := 5) (k := 0) X xok5 (by decide +kernel) ob_3 trivial ly_3_0 (by decide +kernel) fl_RX5_22 d_X5_fail_7 ?_
  refine s_getI (pc := 10) (ci := 9) X xok9 (by decide +kernel) ob_1 (by decide +kernel) fl_RX5_30 d_X5_fail_10 ?_
  refine s_putI (pc := 13) (ci := 5) X xok5 (by decide +kernel) ob_3 (by decide +kernel) (by decide +kernel) (by decide +kernel) fl_RX5_35 d_X5_fail_13 ?_
  refine r_iconst (pc := 16) X d_X5_fail_16 (by decide +kernel) ?_
  exact r_zret (pc := 17) X hr d_X5_fail_17
def f_X5_fail (a0 : Nat) (a1 : Int32) (A : xH) (P : xP) : Prop := k_X5_fail_0 P [some (.ref a0), some (.int a1)] [] A
set_option maxRecDepth 20000 in
theorem con_X5_fail (l : Launch) : xCon l yX5_fail cX5_fail 2 (some .boolean) 0 0 xN xN 0 xFT xFT (w_RI f_X5_fail) :=
  xc_RI (plainFor_of_name pn_RX5) (by decide +kernel) (fun p e s m args below meth c g a0 a1 A P h X hr _ => ⟨_, h, t_X5_fail_0 X hr⟩)
theorem d_X5_begin_0 : decode cX5_begin 0 = .ok (.aload_n 0, 1) := by decide +kernel
theorem d_X5_begin_1 : decode cX5_begin 1 = .ok (.iconst 0, 1) := by decide +kernel
theorem d_X5_begin_2 : decode cX5_begin 2 = .ok (.putfield 26, 3) := by decide +kernel
theorem d_X5_begin_5 : decode cX5_begin 5 = .ok (.aload_n 0, 1) := by decide +kernel
theorem d_X5_begin_6 : decode cX5_begin 6 = .ok (.iconst 0, 1) := by decide +kernel
theorem d_X5_begin_7 : decode cX5_begin 7 = .ok (.putfield 35, 3) := by decide +kernel
theorem d_X5_begin_10 : decode cX5_begin 10 = .ok (.aload_n 0, 1) := by decide +kernel
theorem d_X5_begin_11 : decode cX5_begin 11 = .ok (.getfield 22, 3) := by decide +kernel
theorem d_X5_begin_14 : decode cX5_begin 14 = .ok (.iload_n 1, 1) := by decide +kernel
theorem d_X5_begin_15 : decode cX5_begin 15 = .ok (.invokevirtual 38, 3) := by decide +kernel
theorem d_X5_begin_18 : decode cX5_begin 18 = .ok (.return_, 1) := by decide +kernel
def k_X5_begin_0 (P : xP) : xK := x_aload 0 (x_push (.int 0) (y_putI 3 3 (x_aload 0 (x_push (.int 0) (y_putI 3 4 (x_aload 0 (y_getF 3 1 (x_iload 1 (y_cv1 1 (w_RI f_X9_open) (x_vret P))))))))))
set_option maxRecDepth 20000 in
theorem t_X5_begin_0 {p : Program} {l : Launch} {e : Env} {s : State} {m : MethodId} {args : Array Value} {below : List Frame} {meth : Method} {c : Code} {g : xG} (X : xX p s m args c meth cX5_begin RX5 2 g) (hr : meth.sig.returnType = none) {P : xP} : xAt p l e { frames := 3, cells := 0, slots := 0, locals := 70 } s m args below meth c g 2 xFT xN 0 0 (MQ below (xQc g xFT xN P) args s 0 0 (xFr g)) (k_X5_begin_0 P) 0 := by
  unfold k_X5_begin_0
  refine r_aload_n (pc := 0) X d_X5_begin_0 fn0 ?_
  refine r_iconst (pc := 1) X d_X5_begin_1 (by decide +kernel) ?_
  refine s_putI (pc := 2) (ci := 5) X xok5 (by decide +kernel) ob_3 (by decide +kernel) (by decide +kernel) (by decide +kernel) fl_RX5_26 d_X5_begin_2 ?_
  refine r_aload_n (pc := 5) X d_X5_begin_5 fn0 ?_
  refine r_iconst (pc := 6) X d_X5_begin_6 (by decide +kernel) ?_
  refine s_putI (pc := 7) (ci := 5) X xok5 (by decide +kernel) ob_3 (by decide +kernel) (by decide +kernel) (by decide +kernel) fl_RX5_35 d_X5_begin_7 ?_
  refine r_aload_n (pc := 10) X d_X5_begin_10 fn0 ?_
  refine s_getF (pc := 11) (ci := 5) (k := 0) X xok5 (by decide +kernel) ob_3 trivial ly_3_0 (by decide +kernel) fl_RX5_22 d_X5_begin_11 ?_
  refine r_iload_n (pc := 14) X d_X5_begin_14 fn1 ?_
  refine s_cv1 (pc := 15) (ci := 9) X xok9 (by decide +kernel) ob_1 rfl (con_X9_open l) mf_X9_open ml_RX5_38 (by decide +kernel) (by decide +kernel) d_X5_begin_15 ?_
  exact r_vret (pc := 18) X hr d_X5_begin_18
def f_X5_begin (a0 : Nat) (a1 : Int32) (A : xH) (P : xP) : Prop := k_X5_begin_0 P [some (.ref a0), some (.int a1)] [] A
set_option maxRecDepth 20000 in
theorem con_X5_begin (l : Launch) : xCon l yX5_begin cX5_begin 2 none 3 70 xN xN 0 xFT xFT (w_RI f_X5_begin) :=
  xc_RI (plainFor_of_name pn_RX5) (by decide +kernel) (fun p e s m args below meth c g a0 a1 A P h X hr _ => ⟨_, h, t_X5_begin_0 X hr⟩)
theorem d_X5_lineEnds_0 : decode cX5_lineEnds 0 = .ok (.aload_n 0, 1) := by decide +kernel
theorem d_X5_lineEnds_1 : decode cX5_lineEnds 1 = .ok (.getfield 22, 3) := by decide +kernel
theorem d_X5_lineEnds_4 : decode cX5_lineEnds 4 = .ok (.bipush 59, 2) := by decide +kernel
theorem d_X5_lineEnds_6 : decode cX5_lineEnds 6 = .ok (.invokevirtual 113, 3) := by decide +kernel
theorem d_X5_lineEnds_9 : decode cX5_lineEnds 9 = .ok (.ifCond .ne 9, 3) := by decide +kernel
theorem d_X5_lineEnds_12 : decode cX5_lineEnds 12 = .ok (.aload_n 0, 1) := by decide +kernel
theorem d_X5_lineEnds_13 : decode cX5_lineEnds 13 = .ok (.iconst 1, 1) := by decide +kernel
theorem d_X5_lineEnds_14 : decode cX5_lineEnds 14 = .ok (.invokevirtual 63, 3) := by decide +kernel
theorem d_X5_lineEnds_17 : decode cX5_lineEnds 17 = .ok (.ireturn, 1) := by decide +kernel
theorem d_X5_lineEnds_18 : decode cX5_lineEnds 18 = .ok (.aload_n 0, 1) := by decide +kernel
theorem d_X5_lineEnds_19 : decode cX5_lineEnds 19 = .ok (.getfield 22, 3) := by decide +kernel
theorem d_X5_lineEnds_22 : decode cX5_lineEnds 22 = .ok (.invokevirtual 88, 3) := by decide +kernel
theorem d_X5_lineEnds_25 : decode cX5_lineEnds 25 = .ok (.iconst 1, 1) := by decide +kernel
theorem d_X5_lineEnds_26 : decode cX5_lineEnds 26 = .ok (.ireturn, 1) := by decide +kernel
def k_X5_lineEnds_0 (P : xP) : xK := x_aload 0 (y_getF 3 1 (x_push (.int 59) (y_cv1 1 (w_RI f_X9_isMark) (x_if_ne (x_aload 0 (y_getF 3 1 (y_cv0 1 (w_R f_X9_advance) (x_push (.int 1) (x_zret P))))) (x_aload 0 (x_push (.int 1) (y_cv1 3 (w_RI f_X5_fail) (x_zret P))))))))
set_option maxRecDepth 20000 in
theorem t_X5_lineEnds_0 {p : Program} {l : Launch} {e : Env} {s : State} {m : MethodId} {args : Array Value} {below : List Frame} {meth : Method} {c : Code} {g : xG} (X : xX p s m args c meth cX5_lineEnds RX5 1 g) (hr : meth.sig.returnType = (some .boolean)) {P : xP} : xAt p l e { frames := 2, cells := 0, slots := 0, locals := 49 } s m args below meth c g 1 xFT xN 0 0 (MQ below (xQc g xFT xN P) args s 0 0 (xFr g)) (k_X5_lineEnds_0 P) 0 := by
  unfold k_X5_lineEnds_0
  refine r_aload_n (pc := 0) X d_X5_lineEnds_0 fn0 ?_
  refine s_getF (pc := 1) (ci := 5) (k := 0) X xok5 (by decide +kernel) ob_3 trivial ly_3_0 (by decide +kernel) fl_RX5_22 d_X5_lineEnds_1 ?_
  refine r_bipush (pc := 4) X d_X5_lineEnds_4 (by decide +kernel) ?_
  refine s_cv1 (pc := 6) (ci := 9) X xok9 (by decide +kernel) ob_1 rfl (con_X9_isMark l) mf_X9_isMark ml_RX5_113 (by decide +kernel) (by decide +kernel) d_X5_lineEnds_6 ?_
  refine r_if_ne (pc := 9) (tgt := 18) X d_X5_lineEnds_9 (by decide +kernel) ?_ ?_
  · refine r_aload_n (pc := 18) X d_X5_lineEnds_18 fn0 ?_
    refine s_getF (pc := 19) (ci := 5) (k := 0) X xok5 (by decide +kernel) ob_3 trivial ly_3_0 (by decide +kernel) fl_RX5_22 d_X5_lineEnds_19 ?_
    refine s_cv0 (pc := 22) (ci := 9) X xok9 (by decide +kernel) ob_1 rfl (con_X9_advance l) mf_X9_advance ml_RX5_88 (by decide +kernel) (by decide +kernel) d_X5_lineEnds_22 ?_
    refine r_iconst (pc := 25) X d_X5_lineEnds_25 (by decide +kernel) ?_
    exact r_zret (pc := 26) X hr d_X5_lineEnds_26
  · refine r_aload_n (pc := 12) X d_X5_lineEnds_12 fn0 ?_
    refine r_iconst (pc := 13) X d_X5_lineEnds_13 (by decide +kernel) ?_
    refine s_cv1 (pc := 14) (ci := 5) X xok5 (by decide +kernel) ob_3 rfl (con_X5_fail l) mf_X5_fail ml_RX5_63 (by decide +kernel) (by decide +kernel) d_X5_lineEnds_14 ?_
    exact r_zret (pc := 17) X hr d_X5_lineEnds_17
def f_X5_lineEnds (a0 : Nat) (A : xH) (P : xP) : Prop := k_X5_lineEnds_0 P [some (.ref a0)] [] A
set_option maxRecDepth 20000 in
theorem con_X5_lineEnds (l : Launch) : xCon l yX5_lineEnds cX5_lineEnds 1 (some .boolean) 2 49 xN xN 0 xFT xFT (w_R f_X5_lineEnds) :=
  xc_R (plainFor_of_name pn_RX5) (by decide +kernel) (fun p e s m args below meth c g a0 A P h X hr _ => ⟨_, h, t_X5_lineEnds_0 X hr⟩)
theorem d_X5_knownName_0 : decode cX5_knownName 0 = .ok (.aload_n 0, 1) := by decide +kernel
theorem d_X5_knownName_1 : decode cX5_knownName 1 = .ok (.getfield 22, 3) := by decide +kernel
theorem d_X5_knownName_4 : decode cX5_knownName 4 = .ok (.invokevirtual 91, 3) := by decide +kernel
theorem d_X5_knownName_7 : decode cX5_knownName 7 = .ok (.ifCond .ne 11, 3) := by decide +kernel
theorem d_X5_knownName_10 : decode cX5_knownName 10 = .ok (.aload_n 0, 1) := by decide +kernel
theorem d_X5_knownName_11 : decode cX5_knownName 11 = .ok (.iconst 1, 1) := by decide +kernel
theorem d_X5_knownName_12 : decode cX5_knownName 12 = .ok (.invokevirtual 63, 3) := by decide +kernel
theorem d_X5_knownName_15 : decode cX5_knownName 15 = .ok (.pop, 1) := by decide +kernel
theorem d_X5_knownName_16 : decode cX5_knownName 16 = .ok (.iconst (-1), 1) := by decide +kernel
theorem d_X5_knownName_17 : decode cX5_knownName 17 = .ok (.ireturn, 1) := by decide +kernel
theorem d_X5_knownName_18 : decode cX5_knownName 18 = .ok (.aload_n 1, 1) := by decide +kernel
theorem d_X5_knownName_19 : decode cX5_knownName 19 = .ok (.aload_n 0, 1) := by decide +kernel
theorem d_X5_knownName_20 : decode cX5_knownName 20 = .ok (.getfield 22, 3) := by decide +kernel
theorem d_X5_knownName_23 : decode cX5_knownName 23 = .ok (.getfield 95, 3) := by decide +kernel
theorem d_X5_knownName_26 : decode cX5_knownName 26 = .ok (.invokevirtual 99, 3) := by decide +kernel
theorem d_X5_knownName_29 : decode cX5_knownName 29 = .ok (.istore_n 2, 1) := by decide +kernel
theorem d_X5_knownName_30 : decode cX5_knownName 30 = .ok (.iload_n 2, 1) := by decide +kernel
theorem d_X5_knownName_31 : decode cX5_knownName 31 = .ok (.iconst (-1), 1) := by decide +kernel
theorem d_X5_knownName_32 : decode cX5_knownName 32 = .ok (.if_icmp .ne 9, 3) := by decide +kernel
theorem d_X5_knownName_35 : decode cX5_knownName 35 = .ok (.aload_n 0, 1) := by decide +kernel
theorem d_X5_knownName_36 : decode cX5_knownName 36 = .ok (.iconst 3, 1) := by decide +kernel
theorem d_X5_knownName_37 : decode cX5_knownName 37 = .ok (.invokevirtual 63, 3) := by decide +kernel
theorem d_X5_knownName_40 : decode cX5_knownName 40 = .ok (.pop, 1) := by decide +kernel
theorem d_X5_knownName_41 : decode cX5_knownName 41 = .ok (.iload_n 2, 1) := by decide +kernel
theorem d_X5_knownName_42 : decode cX5_knownName 42 = .ok (.ireturn, 1) := by decide +kernel
def k_X5_knownName_41 (P : xP) : xK := x_iload 2 (x_iret P)
set_option maxRecDepth 20000 in
theorem t_X5_knownName_41 {p : Program} {l : Launch} {e : Env} {s : State} {m : MethodId} {args : Array Value} {below : List Frame} {meth : Method} {c : Code} {g : xG} (X : xX p s m args c meth cX5_knownName RX5 3 g) (hr : meth.sig.returnType = (some .int)) {P : xP} : xAt p l e { frames := 1, cells := 0, slots := 0, locals := 23 } s m args below meth c g 3 xFT xN 0 0 (MQ below (xQc g xFT xN P) args s 0 0 (xFr g)) (k_X5_knownName_41 P) 41 := by
  unfold k_X5_knownName_41
  refine r_iload_n (pc := 41) X d_X5_knownName_41 fn2 ?_
  exact r_iret (pc := 42) X hr d_X5_knownName_42
def k_X5_knownName_0 (P : xP) : xK := x_aload 0 (y_getF 3 1 (y_cv0 1 (w_R f_X9_isName) (x_if_ne (x_aload 1 (x_aload 0 (y_getF 3 1 (y_getJ 1 6 (x_cv1 xN 4 (w_RJ f_X4_find) (x_istore 2 (x_iload 2 (x_push (.int (-1)) (x_icmp_ne ((k_X5_knownName_41 P)) (x_aload 0 (x_push (.int 3) (y_cv1 3 (w_RI f_X5_fail) (x_pop ((k_X5_knownName_41 P))))))))))))))) (x_aload 0 (x_push (.int 1) (y_cv1 3 (w_RI f_X5_fail) (x_pop (x_push (.int (-1)) (x_iret P)))))))))
set_option maxRecDepth 20000 in
theorem t_X5_knownName_0 {p : Program} {l : Launch} {e : Env} {s : State} {m : MethodId} {args : Array Value} {below : List Frame} {meth : Method} {c : Code} {g : xG} (X : xX p s m args c meth cX5_knownName RX5 3 g) (hr : meth.sig.returnType = (some .int)) {P : xP} : xAt p l e { frames := 1, cells := 0, slots := 0, locals := 23 } s m args below meth c g 3 xFT xN 0 0 (MQ below (xQc g xFT xN P) args s 0 0 (xFr g)) (k_X5_knownName_0 P) 0 := by
  unfold k_X5_knownName_0
  refine r_aload_n (pc := 0) X d_X5_knownName_0 fn0 ?_
  refine s_getF (pc := 1) (ci := 5) (k := 0) X xok5 (by decide +kernel) ob_3 trivial ly_3_0 (by decide +kernel) fl_RX5_22 d_X5_knownName_1 ?_
  refine s_cv0 (pc := 4) (ci := 9) X xok9 (by decide +kernel) ob_1 rfl (con_X9_isName l) mf_X9_isName ml_RX5_91 (by decide +kernel) (by decide +kernel) d_X5_knownName_4 ?_
  refine r_if_ne (pc := 7) (tgt := 18) X d_X5_knownName_7 (by decide +kernel) ?_ ?_
  · refine r_aload_n (pc := 18) X d_X5_knownName_18 fn1 ?_
    refine r_aload_n (pc := 19) X d_X5_knownName_19 fn0 ?_
    refine s_getF (pc := 20) (ci := 5) (k := 0) X xok5 (by decide +kernel) ob_3 trivial ly_3_0 (by decide +kernel) fl_RX5_22 d_X5_knownName_20 ?_
    refine s_getJ (pc := 23) (ci := 9) X xok9 (by decide +kernel) ob_1 (by decide +kernel) fl_RX5_95 d_X5_knownName_23 ?_
    refine r_cv1 (pc := 26) X xok4 (by decide +kernel) rfl (con_X4_find l) mf_X4_find ml_RX5_99 (by decide +kernel) (by decide +kernel) d_X5_knownName_26 ?_
    refine r_istore_n (pc := 29) X d_X5_knownName_29 fn2 (by decide +kernel) ?_
    refine r_iload_n (pc := 30) X d_X5_knownName_30 fn2 ?_
    refine r_iconst (pc := 31) X d_X5_knownName_31 (by decide +kernel) ?_
    refine r_icmp_ne (pc := 32) (tgt := 41) X d_X5_knownName_32 (by decide +kernel) ?_ ?_
    · exact t_X5_knownName_41 X hr
    · refine r_aload_n (pc := 35) X d_X5_knownName_35 fn0 ?_
      refine r_iconst (pc := 36) X d_X5_knownName_36 (by decide +kernel) ?_
      refine s_cv1 (pc := 37) (ci := 5) X xok5 (by decide +kernel) ob_3 rfl (con_X5_fail l) mf_X5_fail ml_RX5_63 (by decide +kernel) (by decide +kernel) d_X5_knownName_37 ?_
      refine r_pop (pc := 40) X d_X5_knownName_40 ?_
      exact t_X5_knownName_41 X hr
  · refine r_aload_n (pc := 10) X d_X5_knownName_10 fn0 ?_
    refine r_iconst (pc := 11) X d_X5_knownName_11 (by decide +kernel) ?_
    refine s_cv1 (pc := 12) (ci := 5) X xok5 (by decide +kernel) ob_3 rfl (con_X5_fail l) mf_X5_fail ml_RX5_63 (by decide +kernel) (by decide +kernel) d_X5_knownName_12 ?_
    refine r_pop (pc := 15) X d_X5_knownName_15 ?_
    refine r_iconst (pc := 16) X d_X5_knownName_16 (by decide +kernel) ?_
    exact r_iret (pc := 17) X hr d_X5_knownName_17
def f_X5_knownName (a0 : Nat) (a1 : Nat) (A : xH) (P : xP) : Prop := k_X5_knownName_0 P [some (.ref a0), some (.ref a1), none] [] A
set_option maxRecDepth 20000 in
theorem con_X5_knownName (l : Launch) : xCon l yX5_knownName cX5_knownName 3 (some .int) 1 23 xN xN 0 xFT xFT (w_RR f_X5_knownName) :=
  xc_RR (plainFor_of_name pn_RX5) (by decide +kernel) (fun p e s m args below meth c g a0 a1 A P h X hr _ => ⟨_, h, t_X5_knownName_0 X hr⟩)
theorem d_X12_bad_0 : decode cX12_bad 0 = .ok (.aload_n 0, 1) := by decide +kernel
theorem d_X12_bad_1 : decode cX12_bad 1 = .ok (.iload_n 1, 1) := by decide +kernel
theorem d_X12_bad_2 : decode cX12_bad 2 = .ok (.putfield 249, 3) := by decide +kernel
theorem d_X12_bad_5 : decode cX12_bad 5 = .ok (.aload_n 0, 1) := by decide +kernel
theorem d_X12_bad_6 : decode cX12_bad 6 = .ok (.aload_n 0, 1) := by decide +kernel
theorem d_X12_bad_7 : decode cX12_bad 7 = .ok (.getfield 226, 3) := by decide +kernel
theorem d_X12_bad_10 : decode cX12_bad 10 = .ok (.putfield 252, 3) := by decide +kernel
theorem d_X12_bad_13 : decode cX12_bad 13 = .ok (.iconst 0, 1) := by decide +kernel
theorem d_X12_bad_14 : decode cX12_bad 14 = .ok (.ireturn, 1) := by decide +kernel
def k_X12_bad_0 (P : xP) : xK := x_aload 0 (x_iload 1 (y_putI 180 15 (x_aload 0 (x_aload 0 (y_getI 180 12 (y_putI 180 16 (x_push (.int 0) (x_zret P))))))))
set_option maxRecDepth 20000 in
theorem t_X12_bad_0 {p : Program} {l : Launch} {e : Env} {s : State} {m : MethodId} {args : Array Value} {below : List Frame} {meth : Method} {c : Code} {g : xG} (X : xX p s m args c meth cX12_bad RX12 2 g) (hr : meth.sig.returnType = (some .boolean)) {P : xP} : xAt p l e { frames := 0, cells := 0, slots := 0, locals := 0 } s m args below meth c g 2 xFT xN 0 0 (MQ below (xQc g xFT xN P) args s 0 0 (xFr g)) (k_X12_bad_0 P) 0 := by
  unfold k_X12_bad_0
  refine r_aload_n (pc := 0) X d_X12_bad_0 fn0 ?_
  refine r_iload_n (pc := 1) X d_X12_bad_1 fn1 ?_
  refine s_putI (pc := 2) (ci := 12) X xok12 (by decide +kernel) ob_180 (by decide +kernel) (by decide +kernel) (by decide +kernel) fl_RX12_249 d_X12_bad_2 ?_
  refine r_aload_n (pc := 5) X d_X12_bad_5 fn0 ?_
  refine r_aload_n (pc := 6) X d_X12_bad_6 fn0 ?_
  refine s_getI (pc := 7) (ci := 12) X xok12 (by decide +kernel) ob_180 (by decide +kernel) fl_RX12_226 d_X12_bad_7 ?_
  refine s_putI (pc := 10) (ci := 12) X xok12 (by decide +kernel) ob_180 (by decide +kernel) (by decide +kernel) (by decide +kernel) fl_RX12_252 d_X12_bad_10 ?_
  refine r_iconst (pc := 13) X d_X12_bad_13 (by decide +kernel) ?_
  exact r_zret (pc := 14) X hr d_X12_bad_14
def f_X12_bad (a0 : Nat) (a1 : Int32) (A : xH) (P : xP) : Prop := k_X12_bad_0 P [some (.ref a0), some (.int a1)] [] A
set_option maxRecDepth 20000 in
theorem con_X12_bad (l : Launch) : xCon l yX12_bad cX12_bad 2 (some .boolean) 0 0 xN xN 0 xFT xFT (w_RI f_X12_bad) :=
  xc_RI (plainFor_of_name pn_RX12) (by decide +kernel) (fun p e s m args below meth c g a0 a1 A P h X hr _ => ⟨_, h, t_X12_bad_0 X hr⟩)
theorem d_X12_isSign_0 : decode cX12_isSign 0 = .ok (.aload_n 0, 1) := by decide +kernel
theorem d_X12_isSign_1 : decode cX12_isSign 1 = .ok (.getfield 232, 3) := by decide +kernel
theorem d_X12_isSign_4 : decode cX12_isSign 4 = .ok (.iconst 3, 1) := by decide +kernel
theorem d_X12_isSign_5 : decode cX12_isSign 5 = .ok (.if_icmp .ne 15, 3) := by decide +kernel
theorem d_X12_isSign_8 : decode cX12_isSign 8 = .ok (.aload_n 0, 1) := by decide +kernel
theorem d_X12_isSign_9 : decode cX12_isSign 9 = .ok (.getfield 242, 3) := by decide +kernel
theorem d_X12_isSign_12 : decode cX12_isSign 12 = .ok (.iload_n 1, 1) := by decide +kernel
theorem d_X12_isSign_13 : decode cX12_isSign 13 = .ok (.if_icmp .ne 7, 3) := by decide +kernel
theorem d_X12_isSign_16 : decode cX12_isSign 16 = .ok (.iconst 1, 1) := by decide +kernel
theorem d_X12_isSign_17 : decode cX12_isSign 17 = .ok (.goto 4, 3) := by decide +kernel
theorem d_X12_isSign_20 : decode cX12_isSign 20 = .ok (.iconst 0, 1) := by decide +kernel
theorem d_X12_isSign_21 : decode cX12_isSign 21 = .ok (.ireturn, 1) := by decide +kernel
def k_X12_isSign_21 (P : xP) : xK := x_zret P
set_option maxRecDepth 20000 in
theorem t_X12_isSign_21 {p : Program} {l : Launch} {e : Env} {s : State} {m : MethodId} {args : Array Value} {below : List Frame} {meth : Method} {c : Code} {g : xG} (X : xX p s m args c meth cX12_isSign RX12 2 g) (hr : meth.sig.returnType = (some .boolean)) {P : xP} : xAt p l e { frames := 0, cells := 0, slots := 0, locals := 0 } s m args below meth c g 2 xFT xN 0 0 (MQ below (xQc g xFT xN P) args s 0 0 (xFr g)) (k_X12_isSign_21 P) 21 := by
  unfold k_X12_isSign_21
  exact r_zret (pc := 21) X hr d_X12_isSign_21
def k_X12_isSign_20 (P : xP) : xK := x_push (.int 0) ((k_X12_isSign_21 P))
set_option maxRecDepth 20000 in
theorem t_X12_isSign_20 {p : Program} {l : Launch} {e : Env} {s : State} {m : MethodId} {args : Array Value} {below : List Frame} {meth : Method} {c : Code} {g : xG} (X : xX p s m args c meth cX12_isSign RX12 2 g) (hr : meth.sig.returnType = (some .boolean)) {P : xP} : xAt p l e { frames := 0, cells := 0, slots := 0, locals := 0 } s m args below meth c g 2 xFT xN 0 0 (MQ below (xQc g xFT xN P) args s 0 0 (xFr g)) (k_X12_isSign_20 P) 20 := by
  unfold k_X12_isSign_20
  refine r_iconst (pc := 20) X d_X12_isSign_20 (by decide +kernel) ?_
  exact t_X12_isSign_21 X hr
def k_X12_isSign_0 (P : xP) : xK := x_aload 0 (y_getI 180 11 (x_push (.int 3) (x_icmp_ne ((k_X12_isSign_20 P)) (x_aload 0 (y_getI 180 14 (x_iload 1 (x_icmp_ne ((k_X12_isSign_20 P)) (x_push (.int 1) ((k_X12_isSign_21 P))))))))))
set_option maxRecDepth 20000 in
theorem t_X12_isSign_0 {p : Program} {l : Launch} {e : Env} {s : State} {m : MethodId} {args : Array Value} {below : List Frame} {meth : Method} {c : Code} {g : xG} (X : xX p s m args c meth cX12_isSign RX12 2 g) (hr : meth.sig.returnType = (some .boolean)) {P : xP} : xAt p l e { frames := 0, cells := 0, slots := 0, locals := 0 } s m args below meth c g 2 xFT xN 0 0 (MQ below (xQc g xFT xN P) args s 0 0 (xFr g)) (k_X12_isSign_0 P) 0 := by
  unfold k_X12_isSign_0
  refine r_aload_n (pc := 0) X d_X12_isSign_0 fn0 ?_
  refine s_getI (pc := 1) (ci := 12) X xok12 (by decide +kernel) ob_180 (by decide +kernel) fl_RX12_232 d_X12_isSign_1 ?_
  refine r_iconst (pc := 4) X d_X12_isSign_4 (by decide +kernel) ?_
  refine r_icmp_ne (pc := 5) (tgt := 20) X d_X12_isSign_5 (by decide +kernel) ?_ ?_
  · exact t_X12_isSign_20 X hr
  · refine r_aload_n (pc := 8) X d_X12_isSign_8 fn0 ?_
    refine s_getI (pc := 9) (ci := 12) X xok12 (by decide +kernel) ob_180 (by decide +kernel) fl_RX12_242 d_X12_isSign_9 ?_
    refine r_iload_n (pc := 12) X d_X12_isSign_12 fn1 ?_
    refine r_icmp_ne (pc := 13) (tgt := 20) X d_X12_isSign_13 (by decide +kernel) ?_ ?_
    · exact t_X12_isSign_20 X hr
    · refine r_iconst (pc := 16) X d_X12_isSign_16 (by decide +kernel) ?_
      refine r_goto (pc := 17) (tgt := 21) X d_X12_isSign_17 (by decide +kernel) ?_
      exact t_X12_isSign_21 X hr
def f_X12_isSign (a0 : Nat) (a1 : Int32) (A : xH) (P : xP) : Prop := k_X12_isSign_0 P [some (.ref a0), some (.int a1)] [] A
set_option maxRecDepth 20000 in
theorem con_X12_isSign (l : Launch) : xCon l yX12_isSign cX12_isSign 2 (some .boolean) 0 0 xN xN 0 xFT xFT (w_RI f_X12_isSign) :=
  xc_RI (plainFor_of_name pn_RX12) (by decide +kernel) (fun p e s m args below meth c g a0 a1 A P h X hr _ => ⟨_, h, t_X12_isSign_0 X hr⟩)
theorem d_X12_isWord_0 : decode cX12_isWord 0 = .ok (.aload_n 0, 1) := by decide +kernel
theorem d_X12_isWord_1 : decode cX12_isWord 1 = .ok (.getfield 232, 3) := by decide +kernel
theorem d_X12_isWord_4 : decode cX12_isWord 4 = .ok (.iconst 1, 1) := by decide +kernel
theorem d_X12_isWord_5 : decode cX12_isWord 5 = .ok (.if_icmp .ne 16, 3) := by decide +kernel
theorem d_X12_isWord_8 : decode cX12_isWord 8 = .ok (.aload_n 0, 1) := by decide +kernel
theorem d_X12_isWord_9 : decode cX12_isWord 9 = .ok (.getfield 245, 3) := by decide +kernel
theorem d_X12_isWord_12 : decode cX12_isWord 12 = .ok (.lload_n 1, 1) := by decide +kernel
theorem d_X12_isWord_13 : decode cX12_isWord 13 = .ok (.lcmp, 1) := by decide +kernel
theorem d_X12_isWord_14 : decode cX12_isWord 14 = .ok (.ifCond .ne 7, 3) := by decide +kernel
theorem d_X12_isWord_17 : decode cX12_isWord 17 = .ok (.iconst 1, 1) := by decide +kernel
theorem d_X12_isWord_18 : decode cX12_isWord 18 = .ok (.goto 4, 3) := by decide +kernel
theorem d_X12_isWord_21 : decode cX12_isWord 21 = .ok (.iconst 0, 1) := by decide +kernel
theorem d_X12_isWord_22 : decode cX12_isWord 22 = .ok (.ireturn, 1) := by decide +kernel
def k_X12_isWord_22 (P : xP) : xK := x_zret P
set_option maxRecDepth 20000 in
theorem t_X12_isWord_22 {p : Program} {l : Launch} {e : Env} {s : State} {m : MethodId} {args : Array Value} {below : List Frame} {meth : Method} {c : Code} {g : xG} (X : xX p s m args c meth cX12_isWord RX12 3 g) (hr : meth.sig.returnType = (some .boolean)) {P : xP} : xAt p l e { frames := 0, cells := 0, slots := 0, locals := 0 } s m args below meth c g 3 xFT xN 0 0 (MQ below (xQc g xFT xN P) args s 0 0 (xFr g)) (k_X12_isWord_22 P) 22 := by
  unfold k_X12_isWord_22
  exact r_zret (pc := 22) X hr d_X12_isWord_22
def k_X12_isWord_21 (P : xP) : xK := x_push (.int 0) ((k_X12_isWord_22 P))
set_option maxRecDepth 20000 in
theorem t_X12_isWord_21 {p : Program} {l : Launch} {e : Env} {s : State} {m : MethodId} {args : Array Value} {below : List Frame} {meth : Method} {c : Code} {g : xG} (X : xX p s m args c meth cX12_isWord RX12 3 g) (hr : meth.sig.returnType = (some .boolean)) {P : xP} : xAt p l e { frames := 0, cells := 0, slots := 0, locals := 0 } s m args below meth c g 3 xFT xN 0 0 (MQ below (xQc g xFT xN P) args s 0 0 (xFr g)) (k_X12_isWord_21 P) 21 := by
  unfold k_X12_isWord_21
  refine r_iconst (pc := 21) X d_X12_isWord_21 (by decide +kernel) ?_
  exact t_X12_isWord_22 X hr
def k_X12_isWord_0 (P : xP) : xK := x_aload 0 (y_getI 180 11 (x_push (.int 1) (x_icmp_ne ((k_X12_isWord_21 P)) (x_aload 0 (y_getJ 180 17 (x_lload 1 (x_lcmp (x_if_ne ((k_X12_isWord_21 P)) (x_push (.int 1) ((k_X12_isWord_22 P)))))))))))
set_option maxRecDepth 20000 in
theorem t_X12_isWord_0 {p : Program} {l : Launch} {e : Env} {s : State} {m : MethodId} {args : Array Value} {below : List Frame} {meth : Method} {c : Code} {g : xG} (X : xX p s m args c meth cX12_isWord RX12 3 g) (hr : meth.sig.returnType = (some .boolean)) {P : xP} : xAt p l e { frames := 0, cells := 0, slots := 0, locals := 0 } s m args below meth c g 3 xFT xN 0 0 (MQ below (xQc g xFT xN P) args s 0 0 (xFr g)) (k_X12_isWord_0 P) 0 := by
  unfold k_X12_isWord_0
  refine r_aload_n (pc := 0) X d_X12_isWord_0 fn0 ?_
  refine s_getI (pc := 1) (ci := 12) X xok12 (by decide +kernel) ob_180 (by decide +kernel) fl_RX12_232 d_X12_isWord_1 ?_
  refine r_iconst (pc := 4) X d_X12_isWord_4 (by decide +kernel) ?_
  refine r_icmp_ne (pc := 5) (tgt := 21) X d_X12_isWord_5 (by decide +kernel) ?_ ?_
  · exact t_X12_isWord_21 X hr
  · refine r_aload_n (pc := 8) X d_X12_isWord_8 fn0 ?_
    refine s_getJ (pc := 9) (ci := 12) X xok12 (by decide +kernel) ob_180 (by decide +kernel) fl_RX12_245 d_X12_isWord_9 ?_
    refine r_lload_n (pc := 12) X d_X12_isWord_12 fn1 ?_
    refine r_lcmp (pc := 13) X d_X12_isWord_13 ?_
    refine r_if_ne (pc := 14) (tgt := 21) X d_X12_isWord_14 (by decide +kernel) ?_ ?_
    · exact t_X12_isWord_21 X hr
    · refine r_iconst (pc := 17) X d_X12_isWord_17 (by decide +kernel) ?_
      refine r_goto (pc := 18) (tgt := 22) X d_X12_isWord_18 (by decide +kernel) ?_
      exact t_X12_isWord_22 X hr
def f_X12_isWord (a0 : Nat) (a1 : Int64) (A : xH) (P : xP) : Prop := k_X12_isWord_0 P [some (.ref a0), some (.long a1), none] [] A
set_option maxRecDepth 20000 in
theorem con_X12_isWord (l : Launch) : xCon l yX12_isWord cX12_isWord 3 (some .boolean) 0 0 xN xN 0 xFT xFT (w_RJ f_X12_isWord) :=
  xc_RJ (plainFor_of_name pn_RX12) (by decide +kernel) (fun p e s m args below meth c g a0 a1 A P h X hr _ => ⟨_, h, t_X12_isWord_0 X hr⟩)
theorem d_X12_looksAt_0 : decode cX12_looksAt 0 = .ok (.aload_n 0, 1) := by decide +kernel
theorem d_X12_looksAt_1 : decode cX12_looksAt 1 = .ok (.invokevirtual 271, 3) := by decide +kernel
theorem d_X12_looksAt_4 : decode cX12_looksAt 4 = .ok (.ifCond .ne 9, 3) := by decide +kernel
theorem d_X12_looksAt_7 : decode cX12_looksAt 7 = .ok (.aload_n 0, 1) := by decide +kernel
theorem d_X12_looksAt_8 : decode cX12_looksAt 8 = .ok (.iconst 1, 1) := by decide +kernel
theorem d_X12_looksAt_9 : decode cX12_looksAt 9 = .ok (.invokevirtual 258, 3) := by decide +kernel
theorem d_X12_looksAt_12 : decode cX12_looksAt 12 = .ok (.ireturn, 1) := by decide +kernel
theorem d_X12_looksAt_13 : decode cX12_looksAt 13 = .ok (.aload_n 0, 1) := by decide +kernel
theorem d_X12_looksAt_14 : decode cX12_looksAt 14 = .ok (.iload_n 1, 1) := by decide +kernel
theorem d_X12_looksAt_15 : decode cX12_looksAt 15 = .ok (.iconst 4, 1) := by decide +kernel
theorem d_X12_looksAt_16 : decode cX12_looksAt 16 = .ok (.iadd, 1) := by decide +kernel
theorem d_X12_looksAt_17 : decode cX12_looksAt 17 = .ok (.iload_n 3, 1) := by decide +kernel
theorem d_X12_looksAt_18 : decode cX12_looksAt 18 = .ok (.invokevirtual 275, 3) := by decide +kernel
theorem d_X12_looksAt_21 : decode cX12_looksAt 21 = .ok (.istore 5, 2) := by decide +kernel
theorem d_X12_looksAt_23 : decode cX12_looksAt 23 = .ok (.aload_n 0, 1) := by decide +kernel
theorem d_X12_looksAt_24 : decode cX12_looksAt 24 = .ok (.iload 5, 2) := by decide +kernel
theorem d_X12_looksAt_26 : decode cX12_looksAt 26 = .ok (.ifCond .lt 11, 3) := by decide +kernel
theorem d_X12_looksAt_29 : decode cX12_looksAt 29 = .ok (.bipush 8, 2) := by decide +kernel
theorem d_X12_looksAt_31 : decode cX12_looksAt 31 = .ok (.iload 5, 2) := by decide +kernel
theorem d_X12_looksAt_33 : decode cX12_looksAt 33 = .ok (.iadd, 1) := by decide +kernel
theorem d_X12_looksAt_34 : decode cX12_looksAt 34 = .ok (.goto 18, 3) := by decide +kernel
theorem d_X12_looksAt_37 : decode cX12_looksAt 37 = .ok (.iload 4, 2) := by decide +kernel
theorem d_X12_looksAt_39 : decode cX12_looksAt 39 = .ok (.ifCond .eq 7, 3) := by decide +kernel
theorem d_X12_looksAt_42 : decode cX12_looksAt 42 = .ok (.iconst (-1), 1) := by decide +kernel
theorem d_X12_looksAt_43 : decode cX12_looksAt 43 = .ok (.goto 9, 3) := by decide +kernel
theorem d_X12_looksAt_46 : decode cX12_looksAt 46 = .ok (.aload_n 0, 1) := by decide +kernel
theorem d_X12_looksAt_47 : decode cX12_looksAt 47 = .ok (.iload_n 1, 1) := by decide +kernel
theorem d_X12_looksAt_48 : decode cX12_looksAt 48 = .ok (.iload_n 2, 1) := by decide +kernel
theorem d_X12_looksAt_49 : decode cX12_looksAt 49 = .ok (.invokevirtual 275, 3) := by decide +kernel
theorem d_X12_looksAt_52 : decode cX12_looksAt 52 = .ok (.putfield 268, 3) := by decide +kernel
theorem d_X12_looksAt_55 : decode cX12_looksAt 55 = .ok (.aload_n 0, 1) := by decide +kernel
theorem d_X12_looksAt_56 : decode cX12_looksAt 56 = .ok (.getfield 268, 3) := by decide +kernel
theorem d_X12_looksAt_59 : decode cX12_looksAt 59 = .ok (.ifCond .ge 11, 3) := by decide +kernel
theorem d_X12_looksAt_62 : decode cX12_looksAt 62 = .ok (.aload_n 0, 1) := by decide +kernel
theorem d_X12_looksAt_63 : decode cX12_looksAt 63 = .ok (.iconst 3, 1) := by decide +kernel
theorem d_X12_looksAt_64 : decode cX12_looksAt 64 = .ok (.invokevirtual 258, 3) := by decide +kernel
theorem d_X12_looksAt_67 : decode cX12_looksAt 67 = .ok (.ifCond .eq 7, 3) := by decide +kernel
theorem d_X12_looksAt_70 : decode cX12_looksAt 70 = .ok (.iconst 1, 1) := by decide +kernel
theorem d_X12_looksAt_71 : decode cX12_looksAt 71 = .ok (.goto 4, 3) := by decide +kernel
theorem d_X12_looksAt_74 : decode cX12_looksAt 74 = .ok (.iconst 0, 1) := by decide +kernel
theorem d_X12_looksAt_75 : decode cX12_looksAt 75 = .ok (.ireturn, 1) := by decide +kernel
def k_X12_looksAt_75 (P : xP) : xK := x_zret P
set_option maxRecDepth 20000 in
theorem t_X12_looksAt_75 {p : Program} {l : Launch} {e : Env} {s : State} {m : MethodId} {args : Array Value} {below : List Frame} {meth : Method} {c : Code} {g : xG} (X : xX p s m args c meth cX12_looksAt RX12 6 g) (hr : meth.sig.returnType = (some .boolean)) {P : xP} : xAt p l e { frames := 1, cells := 0, slots := 0, locals := 23 } s m args below meth c g 6 xFT xN 0 0 (MQ below (xQc g xFT xN P) args s 0 0 (xFr g)) (k_X12_looksAt_75 P) 75 := by
  unfold k_X12_looksAt_75
  exact r_zret (pc := 75) X hr d_X12_looksAt_75
def k_X12_looksAt_70 (P : xP) : xK := x_push (.int 1) ((k_X12_looksAt_75 P))
set_option maxRecDepth 20000 in
theorem t_X12_looksAt_70 {p : Program} {l : Launch} {e : Env} {s : State} {m : MethodId} {args : Array Value} {below : List Frame} {meth : Method} {c : Code} {g : xG} (X : xX p s m args c meth cX12_looksAt RX12 6 g) (hr : meth.sig.returnType = (some .boolean)) {P : xP} : xAt p l e { frames := 1, cells := 0, slots := 0, locals := 23 } s m args below meth c g 6 xFT xN 0 0 (MQ below (xQc g xFT xN P) args s 0 0 (xFr g)) (k_X12_looksAt_70 P) 70 := by
  unfold k_X12_looksAt_70
  refine r_iconst (pc := 70) X d_X12_looksAt_70 (by decide +kernel) ?_
  refine r_goto (pc := 71) (tgt := 75) X d_X12_looksAt_71 (by decide +kernel) ?_
  exact t_X12_looksAt_75 X hr
def k_X12_looksAt_52 (P : xP) : xK := x_putI xN 12 18 (x_aload 0 (y_getI 180 18 (x_if_ge ((k_X12_looksAt_70 P)) (x_aload 0 (x_push (.int 3) (y_cv1 180 (w_RI f_X12_bad) (x_if_eq (x_push (.int 0) ((k_X12_looksAt_75 P))) ((k_X12_looksAt_70 P)))))))))
set_option maxRecDepth 20000 in
theorem t_X12_looksAt_52 {p : Program} {l : Launch} {e : Env} {s : State} {m : MethodId} {args : Array Value} {below : List Frame} {meth : Method} {c : Code} {g : xG} (X : xX p s m args c meth cX12_looksAt RX12 6 g) (hr : meth.sig.returnType = (some .boolean)) {P : xP} : xAt p l e { frames := 1, cells := 0, slots := 0, locals := 23 } s m args below meth c g 6 xFT xN 0 0 (MQ below (xQc g xFT xN P) args s 0 0 (xFr g)) (k_X12_looksAt_52 P) 52 := by
  unfold k_X12_looksAt_52
  refine r_putI (pc := 52) X xok12 (by decide +kernel) (by decide +kernel) (by decide +kernel) (by decide +kernel) fl_RX12_268 d_X12_looksAt_52 ?_
  refine r_aload_n (pc := 55) X d_X12_looksAt_55 fn0 ?_
  refine s_getI (pc := 56) (ci := 12) X xok12 (by decide +kernel) ob_180 (by decide +kernel) fl_RX12_268 d_X12_looksAt_56 ?_
  refine r_if_ge (pc := 59) (tgt := 70) X d_X12_looksAt_59 (by decide +kernel) ?_ ?_
  · exact t_X12_looksAt_70 X hr
  · refine r_aload_n (pc := 62) X d_X12_looksAt_62 fn0 ?_
    refine r_iconst (pc := 63) X d_X12_looksAt_63 (by decide +kernel) ?_
    refine s_cv1 (pc := 64) (ci := 12) X xok12 (by decide +kernel) ob_180 rfl (con_X12_bad l) mf_X12_bad ml_RX12_258 (by decide +kernel) (by decide +kernel) d_X12_looksAt_64 ?_
    refine r_if_eq (pc := 67) (tgt := 74) X d_X12_looksAt_67 (by decide +kernel) ?_ ?_
    · refine r_iconst (pc := 74) X d_X12_looksAt_74 (by decide +kernel) ?_
      exact t_X12_looksAt_75 X hr
    · exact t_X12_looksAt_70 X hr
def k_X12_looksAt_0 (P : xP) : xK := x_aload 0 (y_cv0 180 (w_R f_X12_isName) (x_if_ne (x_aload 0 (x_iload 1 (x_push (.int 4) (x_iadd (x_iload 3 (y_cv2 180 (w_RII f_X12_seek) (x_istore 5 (x_aload 0 (x_iload 5 (x_if_lt (x_iload 4 (x_if_eq (x_aload 0 (x_iload 1 (x_iload 2 (y_cv2 180 (w_RII f_X12_seek) ((k_X12_looksAt_52 P)))))) (x_push (.int (-1)) ((k_X12_looksAt_52 P))))) (x_push (.int 8) (x_iload 5 (x_iadd ((k_X12_looksAt_52 P))))))))))))))) (x_aload 0 (x_push (.int 1) (y_cv1 180 (w_RI f_X12_bad) (x_zret P))))))
set_option maxRecDepth 20000 in
theorem t_X12_looksAt_0 {p : Program} {l : Launch} {e : Env} {s : State} {m : MethodId} {args : Array Value} {below : List Frame} {meth : Method} {c : Code} {g : xG} (X : xX p s m args c meth cX12_looksAt RX12 6 g) (hr : meth.sig.returnType = (some .boolean)) {P : xP} : xAt p l e { frames := 1, cells := 0, slots := 0, locals := 23 } s m args below meth c g 6 xFT xN 0 0 (MQ below (xQc g xFT xN P) args s 0 0 (xFr g)) (k_X12_looksAt_0 P) 0 := by
  unfold k_X12_looksAt_0
  refine r_aload_n (pc := 0) X d_X12_looksAt_0 fn0 ?_
  refine s_cv0 (pc := 1) (ci := 12) X xok12 (by decide +kernel) ob_180 rfl (con_X12_isName l) mf_X12_isName ml_RX12_271 (by decide +kernel) (by decide +kernel) d_X12_looksAt_1 ?_
  refine r_if_ne (pc := 4) (tgt := 13) X d_X12_looksAt_4 (by decide +kernel) ?_ ?_
  · refine r_aload_n (pc := 13) X d_X12_looksAt_13 fn0 ?_
    refine r_iload_n (pc := 14) X d_X12_looksAt_14 fn1 ?_
    refine r_iconst (pc := 15) X d_X12_looksAt_15 (by decide +kernel) ?_
    refine r_iadd (pc := 16) X d_X12_looksAt_16 ?_
    refine r_iload_n (pc := 17) X d_X12_looksAt_17 fn3 ?_
    refine s_cv2 (pc := 18) (ci := 12) X xok12 (by decide +kernel) ob_180 rfl (con_X12_seek l) mf_X12_seek ml_RX12_275 (by decide +kernel) (by decide +kernel) d_X12_looksAt_18 ?_
    refine r_istore (pc := 21) X d_X12_looksAt_21 (by decide +kernel) ?_
    refine r_aload_n (pc := 23) X d_X12_looksAt_23 fn0 ?_
    refine r_iload (pc := 24) X d_X12_looksAt_24 ?_
    refine r_if_lt (pc := 26) (tgt := 37) X d_X12_looksAt_26 (by decide +kernel) ?_ ?_
    · refine r_iload (pc := 37) X d_X12_looksAt_37 ?_
      refine r_if_eq (pc := 39) (tgt := 46) X d_X12_looksAt_39 (by decide +kernel) ?_ ?_
      · refine r_aload_n (pc := 46) X d_X12_looksAt_46 fn0 ?_
        refine r_iload_n (pc := 47) X d_X12_looksAt_47 fn1 ?_
        refine r_iload_n (pc := 48) X d_X12_looksAt_48 fn2 ?_
        refine s_cv2 (pc := 49) (ci := 12) X xok12 (by decide +kernel) ob_180 rfl (con_X12_seek l) mf_X12_seek ml_RX12_275 (by decide +kernel) (by decide +kernel) d_X12_looksAt_49 ?_
        exact t_X12_looksAt_52 X hr
      · refine r_iconst (pc := 42) X d_X12_looksAt_42 (by decide +kernel) ?_
        refine r_goto (pc := 43) (tgt := 52) X d_X12_looksAt_43 (by decide +kernel) ?_
        exact t_X12_looksAt_52 X hr
    · refine r_bipush (pc := 29) X d_X12_looksAt_29 (by decide +kernel) ?_
      refine r_iload (pc := 31) X d_X12_looksAt_31 ?_
      refine r_iadd (pc := 33) X d_X12_looksAt_33 ?_
      refine r_goto (pc := 34) (tgt := 52) X d_X12_looksAt_34 (by decide +kernel) ?_
      exact t_X12_looksAt_52 X hr
  · refine r_aload_n (pc := 7) X d_X12_looksAt_7 fn0 ?_
    refine r_iconst (pc := 8) X d_X12_looksAt_8 (by decide +kernel) ?_
    refine s_cv1 (pc := 9) (ci := 12) X xok12 (by decide +kernel) ob_180 rfl (con_X12_bad l) mf_X12_bad ml_RX12_258 (by decide +kernel) (by decide +kernel) d_X12_looksAt_9 ?_
    exact r_zret (pc := 12) X hr d_X12_looksAt_12
def f_X12_looksAt (a0 : Nat) (a1 : Int32) (a2 : Int32) (a3 : Int32) (a4 : Int32) (A : xH) (P : xP) : Prop := k_X12_looksAt_0 P [some (.ref a0), some (.int a1), some (.int a2), some (.int a3), some (.int a4), none] [] A
set_option maxRecDepth 20000 in
theorem con_X12_looksAt (l : Launch) : xCon l yX12_looksAt cX12_looksAt 6 (some .boolean) 1 23 xN xN 0 xFT xFT (w_RIIII f_X12_looksAt) :=
  xc_RIIII (plainFor_of_name pn_RX12) (by decide +kernel) (fun p e s m args below meth c g a0 a1 a2 a3 a4 A P h X hr _ => ⟨_, h, t_X12_looksAt_0 X hr⟩)
theorem bI_d1 {p : Prop} [Decidable p] (h : p) : bI (decide p) = 1 := by rw [decide_eq_true h]; rfl
theorem bI_d0 {p : Prop} [Decidable p] (h : ¬ p) : bI (decide p) = 0 := by rw [decide_eq_false h]; rfl
theorem bI_dt {p : Prop} [Decidable p] : (bI (decide p) = 0) = ¬ p := by
  by_cases h : p
  · rw [bI_d1 h]; simp [h]
  · rw [bI_d0 h]; simp [h]
theorem sgo_ge (t : Nat → Bool) (n : Nat) : ∀ k p, p ≤ sgo t n k p
  | 0, p => Nat.le_refl _
  | k + 1, p => by
    simp only [sgo]
    split
    · have := sgo_ge t n k (p + 1); omega
    · omega
theorem sgo_le (t : Nat → Bool) (n : Nat) : ∀ k p, p ≤ n → sgo t n k p ≤ n
  | 0, p, h => h
  | k + 1, p, h => by
    simp only [sgo]
    split
    · rename_i q
      simp only [Bool.and_eq_true, decide_eq_true_eq] at q
      exact sgo_le t n k (p + 1) q.1
    · exact h
theorem sgo_le2 (t : Nat → Bool) (n m : Nat) : ∀ k p, p ≤ m → n ≤ m → sgo t n k p ≤ m
  | 0, p, h, _ => h
  | k + 1, p, h, h2 => by
    simp only [sgo]
    split
    · rename_i q
      simp only [Bool.and_eq_true, decide_eq_true_eq] at q
      exact sgo_le2 t n m k (p + 1) (by omega) h2
    · exact h
theorem skp_ge (t : Nat → Bool) (n p : Nat) : p ≤ skp t n p := sgo_ge t n _ p
theorem skp_le (t : Nat → Bool) {n p : Nat} (h : p ≤ n) : skp t n p ≤ n := sgo_le t n _ p h
theorem skp_gt {t : Nat → Bool} {n p : Nat} (h : p < n) (h2 : t p = true) : p < skp t n p := by
  unfold skp
  rw [show n - p = (n - p - 1) + 1 by omega]
  simp only [sgo]
  rw [if_pos (by simp [h, h2])]
  have := sgo_ge t n (n - p - 1) (p + 1)
  omega
theorem tk_next {f : Nat → Nat} {n lim p : Nat} (h : p ≤ n) : (tk f n lim p).2.2.1 ≤ n ∧ p ≤ (tk f n lim p).2.2.1 ∧ ((tk f n lim p).1 ≠ 0 → (tk f n lim p).1 ≠ 4 → p < (tk f n lim p).2.2.1) := by
  have h1 := skp_ge (fun i => bl (f i)) (min n lim) p
  have h2 : skp (fun i => bl (f i)) (min n lim) p ≤ n := sgo_le2 _ _ _ _ _ h (Nat.min_le_left _ _)
  unfold tk
  by_cases a : min n lim ≤ skp (fun i => bl (f i)) (min n lim) p
  · rw [if_pos a]
    refine ⟨h2, h1, fun q1 q2 => ?_⟩
    revert q1 q2
    show (if lim < n then 4 else 0) ≠ 0 → (if lim < n then 4 else 0) ≠ 4 → _
    split <;> omega
  · rw [if_neg a]
    have h3 : skp (fun i => bl (f i)) (min n lim) p < n := by omega
    by_cases b : (sm (f (skp (fun i => bl (f i)) (min n lim) p)) || dg (f (skp (fun i => bl (f i)) (min n lim) p))) = true
    · rw [if_pos b]
      have h4 := skp_gt (t := fun i => sm (f i) || dg (f i)) h3 b
      have h5 := skp_le (fun i => sm (f i) || dg (f i)) (Nat.le_of_lt h3)
      exact ⟨h5, by show p ≤ skp _ _ _; omega, fun _ _ => by show p < skp _ _ _; omega⟩
    · rw [if_neg b]
      exact ⟨h3, by show p ≤ _ + 1; omega, fun _ _ => by show p < _ + 1; omega⟩
theorem tk_v3 {f : Nat → Nat} {n lim p : Nat} (h : p ≤ n) (hb : ∀ j, j < n → f j < 256) (ht : (tk f n lim p).1 = 3) : (tk f n lim p).2.2.2 < 256 := by
  have h2 : skp (fun i => bl (f i)) (min n lim) p ≤ n := sgo_le2 _ _ _ _ _ h (Nat.min_le_left _ _)
  revert ht
  unfold tk
  by_cases a : min n lim ≤ skp (fun i => bl (f i)) (min n lim) p
  · rw [if_pos a]
    intro _
    show 0 < 256
    omega
  · rw [if_neg a]
    by_cases b : (sm (f (skp (fun i => bl (f i)) (min n lim) p)) || dg (f (skp (fun i => bl (f i)) (min n lim) p))) = true
    · rw [if_pos b]
      intro q
      exfalso
      revert q
      dsimp only
      cases sm (f (skp (fun i => bl (f i)) (min n lim) p)) <;> simp <;> split <;> omega
    · rw [if_neg b]
      intro _
      exact hb _ (by omega)
/-- what the next token is -/
def isMk (t : Nat × Nat × Nat × Nat) (c : Nat) : Bool := decide (t.1 = 3 ∧ t.2.2.2 = c)
def isWd (t : Nat × Nat × Nat × Nat) (w : Int64) : Bool := decide (t.1 = 1 ∧ lN t.2.2.2 = w)
def isNa (t : Nat × Nat × Nat × Nat) : Bool := decide (t.1 = 1) && nres (lN t.2.2.2) 16
def okT (t : Nat × Nat × Nat × Nat) : Prop := t.1 ≤ 4 ∧ (t.1 = 3 → t.2.2.2 < 256)
theorem tk_ok {f : Nat → Nat} {n lim p : Nat} (h : p ≤ n) (hb : ∀ j, j < n → f j < 256) : okT (tk f n lim p) := by
  refine ⟨?_, tk_v3 h hb⟩
  unfold tk
  dsimp only
  repeat' split
  all_goals simp
theorem mark_T {A : xH} {P : xP} {t : Nat × Nat × Nat × Nat} {c : Nat} (h : tkT A t) (ho : okT t) (hc : c < 2 ^ 31) : f_X9_isMark 1 (nI c) A P = P (some (.int (bI (isMk t c)))) A := by
  obtain ⟨h1, h2, h3, h4⟩ := h
  obtain ⟨o1, o2⟩ := ho
  unfold f_X9_isMark isMk
  simp only [k_X9_isMark_0, k_X9_isMark_22, k_X9_isMark_23, x_aload, x_i2l, x_icmp_ne, x_if_ne, x_iload, x_lcmp, x_push, x_zret, y_getI, y_getJ, xFT, xbool0, xbool1, Nat.reduceAdd, Nat.zero_add, xgl_0, xgl_s, xgl_n, xst_0, xst_1n, xst_1i, xst_1r, xst_1l, xst_s, set_0, set_s, true_and, and_true, xres, xcat_nil, xcat_i, xcat_r, xcat_l, Nat.add_zero, xble0, xble1, xble2, xble3, xble4, xble5, xble6, xble7, xble8, h1, nI_l (n := c) hc, lcmp0, ne_eq, show (3 : Int32) = nI 3 from rfl, nI_eq (a := t.1) (b := 3) (by omega) (by omega)]
  by_cases e : t.1 = 3
  · have h5 := o2 e
    rw [h4 (by omega), lN_eq (by omega) hc]
    by_cases e2 : t.2.2.2 = c
    · rw [bI_d1 ⟨e, e2⟩]; simp [e, e2]
    · rw [bI_d0 (fun q => e2 q.2)]; simp [e, e2]
  · rw [bI_d0 (fun q => e q.1)]; simp [e]
theorem word_T {A : xH} {P : xP} {t : Nat × Nat × Nat × Nat} {w : Int64} (h : tkT A t) (ho : okT t) : f_X9_isWord 1 w A P = P (some (.int (bI (isWd t w)))) A := by
  obtain ⟨h1, h2, h3, h4⟩ := h
  obtain ⟨o1, o2⟩ := ho
  unfold f_X9_isWord isWd
  simp only [k_X9_isWord_0, k_X9_isWord_21, k_X9_isWord_22, x_aload, x_icmp_ne, x_if_ne, x_lcmp, x_lload, x_push, x_zret, y_getI, y_getJ, xFT, xbool0, xbool1, Nat.reduceAdd, Nat.zero_add, xgl_0, xgl_s, xgl_n, xst_0, xst_1n, xst_1i, xst_1r, xst_1l, xst_s, set_0, set_s, true_and, and_true, xres, xcat_nil, xcat_i, xcat_r, xcat_l, Nat.add_zero, xble0, xble1, xble2, xble3, xble4, xble5, xble6, xble7, xble8, h1, lcmp0, ne_eq, show (1 : Int32) = nI 1 from rfl, nI_eq (a := t.1) (b := 1) (by omega) (by omega)]
  by_cases e : t.1 = 1
  · rw [h4 (by omega)]
    by_cases e2 : lN t.2.2.2 = w
    · rw [bI_d1 ⟨e, e2⟩]; simp [e, e2, show nI 1 = (1 : Int32) from rfl, xbool1]
    · rw [bI_d0 (fun q => e2 q.2)]; simp [e, e2]
  · rw [bI_d0 (fun q => e q.1)]; simp [e]
theorem sign_U {A : xH} {P : xP} {t : Nat × Nat × Nat × Nat} {c : Nat} (h : tkU A t) (ho : okT t) (hc : c < 2 ^ 31) : f_X12_isSign 180 (nI c) A P = P (some (.int (bI (isMk t c)))) A := by
  obtain ⟨h1, h2, h3, h4, h5⟩ := h
  obtain ⟨o1, o2⟩ := ho
  unfold f_X12_isSign isMk
  simp only [k_X12_isSign_0, k_X12_isSign_20, k_X12_isSign_21, x_aload, x_icmp_ne, x_iload, x_push, x_zret, y_getI, xFT, xbool0, xbool1, Nat.reduceAdd, Nat.zero_add, xgl_0, xgl_s, xgl_n, xst_0, xst_1n, xst_1i, xst_1r, xst_1l, xst_s, set_0, set_s, true_and, and_true, xres, xcat_nil, xcat_i, xcat_r, xcat_l, Nat.add_zero, xble0, xble1, xble2, xble3, xble4, xble5, xble6, xble7, xble8, h1, ne_eq, show (3 : Int32) = nI 3 from rfl, nI_eq (a := t.1) (b := 3) (by omega) (by omega)]
  by_cases e : t.1 = 3
  · have h6 := o2 e
    rw [h5 (by omega), nI_eq (by omega) hc]
    by_cases e2 : t.2.2.2 = c
    · rw [bI_d1 ⟨e, e2⟩]; simp [e, e2, show nI 1 = (1 : Int32) from rfl, xbool1]
    · rw [bI_d0 (fun q => e2 q.2)]; simp [e, e2]
  · rw [bI_d0 (fun q => e q.1)]; simp [e]
theorem word_U {A : xH} {P : xP} {t : Nat × Nat × Nat × Nat} {w : Int64} (h : tkU A t) (ho : okT t) : f_X12_isWord 180 w A P = P (some (.int (bI (isWd t w)))) A := by
  obtain ⟨h1, h2, h3, h4, h5⟩ := h
  obtain ⟨o1, o2⟩ := ho
  unfold f_X12_isWord isWd
  simp only [k_X12_isWord_0, k_X12_isWord_21, k_X12_isWord_22, x_aload, x_icmp_ne, x_if_ne, x_lcmp, x_lload, x_push, x_zret, y_getI, y_getJ, xFT, xbool0, xbool1, Nat.reduceAdd, Nat.zero_add, xgl_0, xgl_s, xgl_n, xst_0, xst_1n, xst_1i, xst_1r, xst_1l, xst_s, set_0, set_s, true_and, and_true, xres, xcat_nil, xcat_i, xcat_r, xcat_l, Nat.add_zero, xble0, xble1, xble2, xble3, xble4, xble5, xble6, xble7, xble8, h1, lcmp0, ne_eq, show (1 : Int32) = nI 1 from rfl, nI_eq (a := t.1) (b := 1) (by omega) (by omega)]
  by_cases e : t.1 = 1
  · rw [h4 e]
    by_cases e2 : lN t.2.2.2 = w
    · rw [bI_d1 ⟨e, e2⟩]; simp [e, e2, show nI 1 = (1 : Int32) from rfl, xbool1]
    · rw [bI_d0 (fun q => e2 q.2)]; simp [e, e2]
  · rw [bI_d0 (fun q => e q.1)]; simp [e]
theorem name_T {A : xH} {t : Nat × Nat × Nat × Nat} (h : tkT A t) (ho : okT t) : isNm (xi A 1 4) (xl A 1 6) = isNa t := by
  obtain ⟨h1, h2, h3, h4⟩ := h
  unfold isNm isNa
  rw [h1, show (1 : Int32) = nI 1 from rfl]
  have := ho.1
  by_cases e : t.1 = 1
  · rw [h4 (by omega), e]; rfl
  · rw [decide_eq_false e, decide_eq_false (fun q => e ((nI_eq (by omega) (by omega)).mp q))]; rfl
theorem name_U {A : xH} {t : Nat × Nat × Nat × Nat} (h : tkU A t) (ho : okT t) : isNm (xi A 180 11) (xl A 180 17) = isNa t := by
  obtain ⟨h1, h2, h3, h4, h5⟩ := h
  unfold isNm isNa
  rw [h1, show (1 : Int32) = nI 1 from rfl]
  have := ho.1
  by_cases e : t.1 = 1
  · rw [h4 e, e]; rfl
  · rw [decide_eq_false e, decide_eq_false (fun q => e ((nI_eq (by omega) (by omega)).mp q))]; rfl
/-- a FAULT of the class, of the reference -/
def fltT (A : xH) (e d : Nat) : xH := xsi (xsi A 3 3 (nI e)) 3 4 (nI d)
def fltU (A : xH) (e d : Nat) : xH := xsi (xsi A 180 15 (nI e)) 180 16 (nI d)
theorem fail_T {A : xH} {P : xP} {t : Nat × Nat × Nat × Nat} {e : Nat} (h : tkT A t) : f_X5_fail 3 (nI e) A P = P (some (.int 0)) (fltT A e t.2.1) := by
  unfold f_X5_fail fltT
  simp only [k_X5_fail_0, x_aload, x_iload, x_push, x_zret, y_getF, y_getI, y_putI, xFT, xbool0, xbool1, Nat.reduceAdd, Nat.zero_add, xgl_0, xgl_s, xgl_n, xst_0, xst_1n, xst_1i, xst_1r, xst_1l, xst_s, set_0, set_s, true_and, and_true, xres, xcat_nil, xcat_i, xcat_r, xcat_l, Nat.add_zero, xble0, xble1, xble2, xble3, xble4, xble5, xble6, xble7, xble8, xi_si, h.2.1, show ¬ (1 : Nat) = 3 by omega, false_and, if_false]
theorem bad_U {A : xH} {P : xP} {t : Nat × Nat × Nat × Nat} {e : Nat} (h : tkU A t) : f_X12_bad 180 (nI e) A P = P (some (.int 0)) (fltU A e t.2.1) := by
  unfold f_X12_bad fltU
  simp only [k_X12_bad_0, x_aload, x_iload, x_push, x_zret, y_getI, y_putI, xFT, xbool0, xbool1, Nat.reduceAdd, Nat.zero_add, xgl_0, xgl_s, xgl_n, xst_0, xst_1n, xst_1i, xst_1r, xst_1l, xst_s, set_0, set_s, true_and, and_true, xres, xcat_nil, xcat_i, xcat_r, xcat_l, Nat.add_zero, xble0, xble1, xble2, xble3, xble4, xble5, xble6, xble7, xble8, xi_si, h.2.1, show ¬ (12 : Nat) = 15 by omega, and_false, if_false]

