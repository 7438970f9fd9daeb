/-! ===== a BOOK, as both read it ===== -/
theorem d_X5_number_0 : decode cX5_number 0 = .ok (.aload_n 0, 1) := by decide +kernel
theorem d_X5_number_1 : decode cX5_number 1 = .ok (.getfield 22, 3) := by decide +kernel
theorem d_X5_number_4 : decode cX5_number 4 = .ok (.getfield 45, 3) := by decide +kernel
theorem d_X5_number_7 : decode cX5_number 7 = .ok (.iconst 2, 1) := by decide +kernel
theorem d_X5_number_8 : decode cX5_number 8 = .ok (.if_icmp .eq 9, 3) := by decide +kernel
theorem d_X5_number_11 : decode cX5_number 11 = .ok (.aload_n 0, 1) := by decide +kernel
theorem d_X5_number_12 : decode cX5_number 12 = .ok (.iconst 1, 1) := by decide +kernel
theorem d_X5_number_13 : decode cX5_number 13 = .ok (.invokevirtual 63, 3) := by decide +kernel
theorem d_X5_number_16 : decode cX5_number 16 = .ok (.ireturn, 1) := by decide +kernel
theorem d_X5_number_17 : decode cX5_number 17 = .ok (.aload_n 0, 1) := by decide +kernel
theorem d_X5_number_18 : decode cX5_number 18 = .ok (.getfield 22, 3) := by decide +kernel
theorem d_X5_number_21 : decode cX5_number 21 = .ok (.getfield 95, 3) := by decide +kernel
theorem d_X5_number_24 : decode cX5_number 24 = .ok (.iload_n 2, 1) := by decide +kernel
theorem d_X5_number_25 : decode cX5_number 25 = .ok (.i2l, 1) := by decide +kernel
theorem d_X5_number_26 : decode cX5_number 26 = .ok (.lcmp, 1) := by decide +kernel
theorem d_X5_number_27 : decode cX5_number 27 = .ok (.ifCond .lt 16, 3) := by decide +kernel
theorem d_X5_number_30 : decode cX5_number 30 = .ok (.aload_n 0, 1) := by decide +kernel
theorem d_X5_number_31 : decode cX5_number 31 = .ok (.getfield 22, 3) := by decide +kernel
theorem d_X5_number_34 : decode cX5_number 34 = .ok (.getfield 95, 3) := by decide +kernel
theorem d_X5_number_37 : decode cX5_number 37 = .ok (.iload_n 3, 1) := by decide +kernel
theorem d_X5_number_38 : decode cX5_number 38 = .ok (.i2l, 1) := by decide +kernel
theorem d_X5_number_39 : decode cX5_number 39 = .ok (.lcmp, 1) := by decide +kernel
theorem d_X5_number_40 : decode cX5_number 40 = .ok (.ifCond .le 9, 3) := by decide +kernel
theorem d_X5_number_43 : decode cX5_number 43 = .ok (.aload_n 0, 1) := by decide +kernel
theorem d_X5_number_44 : decode cX5_number 44 = .ok (.iconst 2, 1) := by decide +kernel
theorem d_X5_number_45 : decode cX5_number 45 = .ok (.invokevirtual 63, 3) := by decide +kernel
theorem d_X5_number_48 : decode cX5_number 48 = .ok (.ireturn, 1) := by decide +kernel
theorem d_X5_number_49 : decode cX5_number 49 = .ok (.iload_n 1, 1) := by decide +kernel
theorem d_X5_number_50 : decode cX5_number 50 = .ok (.ifCond .lt 26, 3) := by decide +kernel
theorem d_X5_number_53 : decode cX5_number 53 = .ok (.iload_n 1, 1) := by decide +kernel
theorem d_X5_number_54 : decode cX5_number 54 = .ok (.aload_n 0, 1) := by decide +kernel
theorem d_X5_number_55 : decode cX5_number 55 = .ok (.getfield 9, 3) := by decide +kernel
theorem d_X5_number_58 : decode cX5_number 58 = .ok (.arraylength, 1) := by decide +kernel
theorem d_X5_number_59 : decode cX5_number 59 = .ok (.if_icmp .ge 17, 3) := by decide +kernel
theorem d_X5_number_62 : decode cX5_number 62 = .ok (.aload_n 0, 1) := by decide +kernel
theorem d_X5_number_63 : decode cX5_number 63 = .ok (.getfield 9, 3) := by decide +kernel
theorem d_X5_number_66 : decode cX5_number 66 = .ok (.iload_n 1, 1) := by decide +kernel
theorem d_X5_number_67 : decode cX5_number 67 = .ok (.aload_n 0, 1) := by decide +kernel
theorem d_X5_number_68 : decode cX5_number 68 = .ok (.getfield 22, 3) := by decide +kernel
theorem d_X5_number_71 : decode cX5_number 71 = .ok (.getfield 95, 3) := by decide +kernel
theorem d_X5_number_74 : decode cX5_number 74 = .ok (.l2i, 1) := by decide +kernel
theorem d_X5_number_75 : decode cX5_number 75 = .ok (.iastore, 1) := by decide +kernel
theorem d_X5_number_76 : decode cX5_number 76 = .ok (.aload_n 0, 1) := by decide +kernel
theorem d_X5_number_77 : decode cX5_number 77 = .ok (.getfield 22, 3) := by decide +kernel
theorem d_X5_number_80 : decode cX5_number 80 = .ok (.invokevirtual 88, 3) := by decide +kernel
theorem d_X5_number_83 : decode cX5_number 83 = .ok (.iconst 1, 1) := by decide +kernel
theorem d_X5_number_84 : decode cX5_number 84 = .ok (.ireturn, 1) := by decide +kernel
def k_X5_number_43 (P : xP) : xK := x_aload 0 (x_push (.int 2) (y_cv1 3 (w_RI f_X5_fail) (x_zret P)))
set_option maxRecDepth 20000 in
theorem t_X5_number_43 {p : Program} {l : Launch} {e : Env} {s : State} {m : MethodId} {args : Array Value} {below : List Frame} {meth : Method} {c : Code} {g : xG} (X : xX p s m args c meth cX5_number RX5 4 g) (hr : meth.sig.returnType = (some .boolean)) {P : xP} : xAt p l e { frames := 2, cells := 0, slots := 0, locals := 49 } s m args below meth c g 4 xFT xN 0 0 (MQ below (xQc g xFT xN P) args s 0 0 (xFr g)) (k_X5_number_43 P) 43 := by
  unfold k_X5_number_43
  refine r_aload_n (pc := 43) X d_X5_number_43 fn0 ?_
  refine r_iconst (pc := 44) X d_X5_number_44 (by decide +kernel) ?_
  refine s_cv1 (pc := 45) (ci := 5) X xok5 (by decide +kernel) ob_3 rfl (con_X5_fail l) mf_X5_fail ml_RX5_63 (by decide +kernel) (by decide +kernel) d_X5_number_45 ?_
  exact r_zret (pc := 48) X hr d_X5_number_48
def k_X5_number_76 (P : xP) : xK := x_aload 0 (y_getF 3 1 (y_cv0 1 (w_R f_X9_advance) (x_push (.int 1) (x_zret P))))
set_option maxRecDepth 20000 in
theorem t_X5_number_76 {p : Program} {l : Launch} {e : Env} {s : State} {m : MethodId} {args : Array Value} {below : List Frame} {meth : Method} {c : Code} {g : xG} (X : xX p s m args c meth cX5_number RX5 4 g) (hr : meth.sig.returnType = (some .boolean)) {P : xP} : xAt p l e { frames := 2, cells := 0, slots := 0, locals := 49 } s m args below meth c g 4 xFT xN 0 0 (MQ below (xQc g xFT xN P) args s 0 0 (xFr g)) (k_X5_number_76 P) 76 := by
  unfold k_X5_number_76
  refine r_aload_n (pc := 76) X d_X5_number_76 fn0 ?_
  refine s_getF (pc := 77) (ci := 5) (k := 0) X xok5 (by decide +kernel) ob_3 trivial ly_3_0 (by decide +kernel) fl_RX5_22 d_X5_number_77 ?_
  refine s_cv0 (pc := 80) (ci := 9) X xok9 (by decide +kernel) ob_1 rfl (con_X9_advance l) mf_X9_advance ml_RX5_88 (by decide +kernel) (by decide +kernel) d_X5_number_80 ?_
  refine r_iconst (pc := 83) X d_X5_number_83 (by decide +kernel) ?_
  exact r_zret (pc := 84) X hr d_X5_number_84
def k_X5_number_0 (P : xP) : xK := x_aload 0 (y_getF 3 1 (y_getI 1 4 (x_push (.int 2) (x_icmp_eq (x_aload 0 (y_getF 3 1 (y_getJ 1 6 (x_iload 2 (x_i2l (x_lcmp (x_if_lt ((k_X5_number_43 P)) (x_aload 0 (y_getF 3 1 (y_getJ 1 6 (x_iload 3 (x_i2l (x_lcmp (x_if_le (x_iload 1 (x_if_lt ((k_X5_number_76 P)) (x_iload 1 (x_aload 0 (y_getF 3 4 (y_alen 4 5 (x_icmp_ge ((k_X5_number_76 P)) (x_aload 0 (y_getF 3 4 (x_iload 1 (x_aload 0 (y_getF 3 1 (y_getJ 1 6 (x_l2i (y_iast 4 5 ((k_X5_number_76 P))))))))))))))))) ((k_X5_number_43 P)))))))))))))))) (x_aload 0 (x_push (.int 1) (y_cv1 3 (w_RI f_X5_fail) (x_zret P))))))))
set_option maxRecDepth 20000 in
theorem t_X5_number_0 {p : Program} {l : Launch} {e : Env} {s : State} {m : MethodId} {args : Array Value} {below : List Frame} {meth : Method} {c : Code} {g : xG} (X : xX p s m args c meth cX5_number RX5 4 g) (hr : meth.sig.returnType = (some .boolean)) {P : xP} : xAt p l e { frames := 2, cells := 0, slots := 0, locals := 49 } s m args below meth c g 4 xFT xN 0 0 (MQ below (xQc g xFT xN P) args s 0 0 (xFr g)) (k_X5_number_0 P) 0 := by
  unfold k_X5_number_0
  refine r_aload_n (pc := 0) X d_X5_number_0 fn0 ?_
  refine s_getF (pc := 1) (ci := 5) (k := 0) X xok5 (by decide +kernel) ob_3 trivial ly_3_0 (by decide +kernel) fl_RX5_22 d_X5_number_1 ?_
  refine s_getI (pc := 4) (ci := 9) X xok9 (by decide +kernel) ob_1 (by decide +kernel) fl_RX5_45 d_X5_number_4 ?_
  refine r_iconst (pc := 7) X d_X5_number_7 (by decide +kernel) ?_
  refine r_icmp_eq (pc := 8) (tgt := 17) X d_X5_number_8 (by decide +kernel) ?_ ?_
  · refine r_aload_n (pc := 17) X d_X5_number_17 fn0 ?_
    refine s_getF (pc := 18) (ci := 5) (k := 0) X xok5 (by decide +kernel) ob_3 trivial ly_3_0 (by decide +kernel) fl_RX5_22 d_X5_number_18 ?_
    refine s_getJ (pc := 21) (ci := 9) X xok9 (by decide +kernel) ob_1 (by decide +kernel) fl_RX5_95 d_X5_number_21 ?_
    refine r_iload_n (pc := 24) X d_X5_number_24 fn2 ?_
    refine r_i2l (pc := 25) X d_X5_number_25 ?_
    refine r_lcmp (pc := 26) X d_X5_number_26 ?_
    refine r_if_lt (pc := 27) (tgt := 43) X d_X5_number_27 (by decide +kernel) ?_ ?_
    · exact t_X5_number_43 X hr
    · refine r_aload_n (pc := 30) X d_X5_number_30 fn0 ?_
      refine s_getF (pc := 31) (ci := 5) (k := 0) X xok5 (by decide +kernel) ob_3 trivial ly_3_0 (by decide +kernel) fl_RX5_22 d_X5_number_31 ?_
      refine s_getJ (pc := 34) (ci := 9) X xok9 (by decide +kernel) ob_1 (by decide +kernel) fl_RX5_95 d_X5_number_34 ?_
      refine r_iload_n (pc := 37) X d_X5_number_37 fn3 ?_
      refine r_i2l (pc := 38) X d_X5_number_38 ?_
      refine r_lcmp (pc := 39) X d_X5_number_39 ?_
      refine r_if_le (pc := 40) (tgt := 49) X d_X5_number_40 (by decide +kernel) ?_ ?_
      · refine r_iload_n (pc := 49) X d_X5_number_49 fn1 ?_
        refine r_if_lt (pc := 50) (tgt := 76) X d_X5_number_50 (by decide +kernel) ?_ ?_
        · exact t_X5_number_76 X hr
        · refine r_iload_n (pc := 53) X d_X5_number_53 fn1 ?_
          refine r_aload_n (pc := 54) X d_X5_number_54 fn0 ?_
          refine s_getF (pc := 55) (ci := 5) (k := 1) X xok5 (by decide +kernel) ob_3 trivial ly_3_1 (by decide +kernel) fl_RX5_9 d_X5_number_55 ?_
          refine s_alen (pc := 58) (q := 4) X (by rw [tn_4]; decide +kernel) ln_4 d_X5_number_58 ?_
          refine r_icmp_ge (pc := 59) (tgt := 76) X d_X5_number_59 (by decide +kernel) ?_ ?_
          · exact t_X5_number_76 X hr
          · refine r_aload_n (pc := 62) X d_X5_number_62 fn0 ?_
            refine s_getF (pc := 63) (ci := 5) (k := 1) X xok5 (by decide +kernel) ob_3 trivial ly_3_1 (by decide +kernel) fl_RX5_9 d_X5_number_63 ?_
            refine r_iload_n (pc := 66) X d_X5_number_66 fn1 ?_
            refine r_aload_n (pc := 67) X d_X5_number_67 fn0 ?_
            refine s_getF (pc := 68) (ci := 5) (k := 0) X xok5 (by decide +kernel) ob_3 trivial ly_3_0 (by decide +kernel) fl_RX5_22 d_X5_number_68 ?_
            refine s_getJ (pc := 71) (ci := 9) X xok9 (by decide +kernel) ob_1 (by decide +kernel) fl_RX5_95 d_X5_number_71 ?_
            refine r_l2i (pc := 74) X d_X5_number_74 ?_
            refine s_iast (pc := 75) X tn_4 ln_4 d_X5_number_75 ?_
            exact t_X5_number_76 X hr
      · exact t_X5_number_43 X hr
  · refine r_aload_n (pc := 11) X d_X5_number_11 fn0 ?_
    refine r_iconst (pc := 12) X d_X5_number_12 (by decide +kernel) ?_
    refine s_cv1 (pc := 13) (ci := 5) X xok5 (by decide +kernel) ob_3 rfl (con_X5_fail l) mf_X5_fail ml_RX5_63 (by decide +kernel) (by decide +kernel) d_X5_number_13 ?_
    exact r_zret (pc := 16) X hr d_X5_number_16
def f_X5_number (a0 : Nat) (a1 : Int32) (a2 : Int32) (a3 : Int32) (A : xH) (P : xP) : Prop := k_X5_number_0 P [some (.ref a0), some (.int a1), some (.int a2), some (.int a3)] [] A
set_option maxRecDepth 20000 in
theorem con_X5_number (l : Launch) : xCon l yX5_number cX5_number 4 (some .boolean) 2 49 xN xN 0 xFT xFT (w_RIII f_X5_number) :=
  xc_RIII (plainFor_of_name pn_RX5) (by decide +kernel) (fun p e s m args below meth c g a0 a1 a2 a3 A P h X hr _ => ⟨_, h, t_X5_number_0 X hr⟩)
theorem d_X0_put_0 : decode cX0_put 0 = .ok (.aload_n 0, 1) := by decide +kernel
theorem d_X0_put_1 : decode cX0_put 1 = .ok (.getfield 18, 3) := by decide +kernel
theorem d_X0_put_4 : decode cX0_put 4 = .ok (.aload_n 0, 1) := by decide +kernel
theorem d_X0_put_5 : decode cX0_put 5 = .ok (.getfield 9, 3) := by decide +kernel
theorem d_X0_put_8 : decode cX0_put 8 = .ok (.arraylength, 1) := by decide +kernel
theorem d_X0_put_9 : decode cX0_put 9 = .ok (.if_icmp .ge 58, 3) := by decide +kernel
theorem d_X0_put_12 : decode cX0_put 12 = .ok (.aload_n 0, 1) := by decide +kernel
theorem d_X0_put_13 : decode cX0_put 13 = .ok (.getfield 9, 3) := by decide +kernel
theorem d_X0_put_16 : decode cX0_put 16 = .ok (.aload_n 0, 1) := by decide +kernel
theorem d_X0_put_17 : decode cX0_put 17 = .ok (.getfield 18, 3) := by decide +kernel
theorem d_X0_put_20 : decode cX0_put 20 = .ok (.iload_n 1, 1) := by decide +kernel
theorem d_X0_put_21 : decode cX0_put 21 = .ok (.iastore, 1) := by decide +kernel
theorem d_X0_put_22 : decode cX0_put 22 = .ok (.iconst 0, 1) := by decide +kernel
theorem d_X0_put_23 : decode cX0_put 23 = .ok (.istore_n 3, 1) := by decide +kernel
theorem d_X0_put_24 : decode cX0_put 24 = .ok (.iload_n 3, 1) := by decide +kernel
theorem d_X0_put_25 : decode cX0_put 25 = .ok (.iconst 5, 1) := by decide +kernel
theorem d_X0_put_26 : decode cX0_put 26 = .ok (.if_icmp .ge 31, 3) := by decide +kernel
theorem d_X0_put_29 : decode cX0_put 29 = .ok (.iload_n 3, 1) := by decide +kernel
theorem d_X0_put_30 : decode cX0_put 30 = .ok (.aload_n 2, 1) := by decide +kernel
theorem d_X0_put_31 : decode cX0_put 31 = .ok (.arraylength, 1) := by decide +kernel
theorem d_X0_put_32 : decode cX0_put 32 = .ok (.if_icmp .ge 25, 3) := by decide +kernel
theorem d_X0_put_35 : decode cX0_put 35 = .ok (.aload_n 0, 1) := by decide +kernel
theorem d_X0_put_36 : decode cX0_put 36 = .ok (.getfield 15, 3) := by decide +kernel
theorem d_X0_put_39 : decode cX0_put 39 = .ok (.aload_n 0, 1) := by decide +kernel
theorem d_X0_put_40 : decode cX0_put 40 = .ok (.getfield 18, 3) := by decide +kernel
theorem d_X0_put_43 : decode cX0_put 43 = .ok (.iconst 5, 1) := by decide +kernel
theorem d_X0_put_44 : decode cX0_put 44 = .ok (.imul, 1) := by decide +kernel
theorem d_X0_put_45 : decode cX0_put 45 = .ok (.iload_n 3, 1) := by decide +kernel
theorem d_X0_put_46 : decode cX0_put 46 = .ok (.iadd, 1) := by decide +kernel
theorem d_X0_put_47 : decode cX0_put 47 = .ok (.aload_n 2, 1) := by decide +kernel
theorem d_X0_put_48 : decode cX0_put 48 = .ok (.iload_n 3, 1) := by decide +kernel
theorem d_X0_put_49 : decode cX0_put 49 = .ok (.iaload, 1) := by decide +kernel
theorem d_X0_put_50 : decode cX0_put 50 = .ok (.iastore, 1) := by decide +kernel
theorem d_X0_put_51 : decode cX0_put 51 = .ok (.iinc 3 1, 3) := by decide +kernel
theorem d_X0_put_54 : decode cX0_put 54 = .ok (.goto (-30), 3) := by decide +kernel
theorem d_X0_put_57 : decode cX0_put 57 = .ok (.aload_n 0, 1) := by decide +kernel
theorem d_X0_put_58 : decode cX0_put 58 = .ok (.dup, 1) := by decide +kernel
theorem d_X0_put_59 : decode cX0_put 59 = .ok (.getfield 18, 3) := by decide +kernel
theorem d_X0_put_62 : decode cX0_put 62 = .ok (.iconst 1, 1) := by decide +kernel
theorem d_X0_put_63 : decode cX0_put 63 = .ok (.iadd, 1) := by decide +kernel
theorem d_X0_put_64 : decode cX0_put 64 = .ok (.putfield 18, 3) := by decide +kernel
theorem d_X0_put_67 : decode cX0_put 67 = .ok (.return_, 1) := by decide +kernel
def k_X0_put_67 (P : xP) : xK := x_vret P
set_option maxRecDepth 20000 in
theorem t_X0_put_67 {p : Program} {l : Launch} {e : Env} {s : State} {m : MethodId} {args : Array Value} {below : List Frame} {meth : Method} {c : Code} {g : xG} (X : xX p s m args c meth cX0_put RX0 4 g) (hr : meth.sig.returnType = none) {P : xP} : xAt p l e { frames := 0, cells := 0, slots := 0, locals := 0 } s m args below meth c g 4 xFT xN 0 0 (MQ below (xQc g xFT xN P) args s 0 0 (xFr g)) (k_X0_put_67 P) 67 := by
  unfold k_X0_put_67
  exact r_vret (pc := 67) X hr d_X0_put_67
def k_X0_put_0 (P : xP) (C24 : xK) : xK := x_aload 0 (y_getI 31 2 (x_aload 0 (y_getF 31 32 (y_alen 32 40 (x_icmp_ge ((k_X0_put_67 P)) (x_aload 0 (y_getF 31 32 (x_aload 0 (y_getI 31 2 (x_iload 1 (y_iast 32 40 (x_push (.int 0) (x_istore 3 (C24))))))))))))))
set_option maxRecDepth 20000 in
theorem t_X0_put_0 {p : Program} {l : Launch} {e : Env} {s : State} {m : MethodId} {args : Array Value} {below : List Frame} {meth : Method} {c : Code} {g : xG} (X : xX p s m args c meth cX0_put RX0 4 g) (hr : meth.sig.returnType = none) {P : xP} {C24 : xK} (h24 : xAt p l e { frames := 0, cells := 0, slots := 0, locals := 0 } s m args below meth c g 4 xFT xN 0 0 (MQ below (xQc g xFT xN P) args s 0 0 (xFr g)) C24 24) : xAt p l e { frames := 0, cells := 0, slots := 0, locals := 0 } s m args below meth c g 4 xFT xN 0 0 (MQ below (xQc g xFT xN P) args s 0 0 (xFr g)) (k_X0_put_0 P C24) 0 := by
  unfold k_X0_put_0
  refine r_aload_n (pc := 0) X d_X0_put_0 fn0 ?_
  refine s_getI (pc := 1) (ci := 0) X xok0 (by decide +kernel) ob_31 (by decide +kernel) fl_RX0_18 d_X0_put_1 ?_
  refine r_aload_n (pc := 4) X d_X0_put_4 fn0 ?_
  refine s_getF (pc := 5) (ci := 0) (k := 0) X xok0 (by decide +kernel) ob_31 trivial ly_31_0 (by decide +kernel) fl_RX0_9 d_X0_put_5 ?_
  refine s_alen (pc := 8) (q := 32) X (by rw [tn_32]; decide +kernel) ln_32 d_X0_put_8 ?_
  refine r_icmp_ge (pc := 9) (tgt := 67) X d_X0_put_9 (by decide +kernel) ?_ ?_
  · exact t_X0_put_67 X hr
  · refine r_aload_n (pc := 12) X d_X0_put_12 fn0 ?_
    refine s_getF (pc := 13) (ci := 0) (k := 0) X xok0 (by decide +kernel) ob_31 trivial ly_31_0 (by decide +kernel) fl_RX0_9 d_X0_put_13 ?_
    refine r_aload_n (pc := 16) X d_X0_put_16 fn0 ?_
    refine s_getI (pc := 17) (ci := 0) X xok0 (by decide +kernel) ob_31 (by decide +kernel) fl_RX0_18 d_X0_put_17 ?_
    refine r_iload_n (pc := 20) X d_X0_put_20 fn1 ?_
    refine s_iast (pc := 21) X tn_32 ln_32 d_X0_put_21 ?_
    refine r_iconst (pc := 22) X d_X0_put_22 (by decide +kernel) ?_
    refine r_istore_n (pc := 23) X d_X0_put_23 fn3 (by decide +kernel) ?_
    exact h24
def k_X0_put_57 (P : xP) : xK := x_aload 0 (x_dup (y_getI 31 2 (x_push (.int 1) (x_iadd (y_putI 31 2 ((k_X0_put_67 P)))))))
set_option maxRecDepth 20000 in
theorem t_X0_put_57 {p : Program} {l : Launch} {e : Env} {s : State} {m : MethodId} {args : Array Value} {below : List Frame} {meth : Method} {c : Code} {g : xG} (X : xX p s m args c meth cX0_put RX0 4 g) (hr : meth.sig.returnType = none) {P : xP} : xAt p l e { frames := 0, cells := 0, slots := 0, locals := 0 } s m args below meth c g 4 xFT xN 0 0 (MQ below (xQc g xFT xN P) args s 0 0 (xFr g)) (k_X0_put_57 P) 57 := by
  unfold k_X0_put_57
  refine r_aload_n (pc := 57) X d_X0_put_57 fn0 ?_
  refine r_dup (pc := 58) X d_X0_put_58 ?_
  refine s_getI (pc := 59) (ci := 0) X xok0 (by decide +kernel) ob_31 (by decide +kernel) fl_RX0_18 d_X0_put_59 ?_
  refine r_iconst (pc := 62) X d_X0_put_62 (by decide +kernel) ?_
  refine r_iadd (pc := 63) X d_X0_put_63 ?_
  refine s_putI (pc := 64) (ci := 0) X xok0 (by decide +kernel) ob_31 (by decide +kernel) (by decide +kernel) (by decide +kernel) fl_RX0_18 d_X0_put_64 ?_
  exact t_X0_put_67 X hr
def k_X0_put_24 (P : xP) (C24 : xK) : xK := x_iload 3 (x_push (.int 5) (x_icmp_ge ((k_X0_put_57 P)) (x_iload 3 (x_aload 2 (x_alen xN (x_icmp_ge ((k_X0_put_57 P)) (x_aload 0 (y_getF 31 33 (x_aload 0 (y_getI 31 2 (x_push (.int 5) (x_imul (x_iload 3 (x_iadd (x_aload 2 (x_iload 3 (x_iald xN (y_iast 33 200 (x_iinc 3 1 (C24))))))))))))))))))))
set_option maxRecDepth 20000 in
theorem t_X0_put_24 {p : Program} {l : Launch} {e : Env} {s : State} {m : MethodId} {args : Array Value} {below : List Frame} {meth : Method} {c : Code} {g : xG} (X : xX p s m args c meth cX0_put RX0 4 g) (hr : meth.sig.returnType = none) {P : xP} {C24 : xK} (h24 : xAt p l e { frames := 0, cells := 0, slots := 0, locals := 0 } s m args below meth c g 4 xFT xN 0 0 (MQ below (xQc g xFT xN P) args s 0 0 (xFr g)) C24 24) : xAt p l e { frames := 0, cells := 0, slots := 0, locals := 0 } s m args below meth c g 4 xFT xN 0 0 (MQ below (xQc g xFT xN P) args s 0 0 (xFr g)) (k_X0_put_24 P C24) 24 := by
  unfold k_X0_put_24
  refine r_iload_n (pc := 24) X d_X0_put_24 fn3 ?_
  refine r_iconst (pc := 25) X d_X0_put_25 (by decide +kernel) ?_
  refine r_icmp_ge (pc := 26) (tgt := 57) X d_X0_put_26 (by decide +kernel) ?_ ?_
  · exact t_X0_put_57 X hr
  · refine r_iload_n (pc := 29) X d_X0_put_29 fn3 ?_
    refine r_aload_n (pc := 30) X d_X0_put_30 fn2 ?_
    refine r_alen (pc := 31) X d_X0_put_31 ?_
    refine r_icmp_ge (pc := 32) (tgt := 57) X d_X0_put_32 (by decide +kernel) ?_ ?_
    · exact t_X0_put_57 X hr
    · refine r_aload_n (pc := 35) X d_X0_put_35 fn0 ?_
      refine s_getF (pc := 36) (ci := 0) (k := 1) X xok0 (by decide +kernel) ob_31 trivial ly_31_1 (by decide +kernel) fl_RX0_15 d_X0_put_36 ?_
      refine r_aload_n (pc := 39) X d_X0_put_39 fn0 ?_
      refine s_getI (pc := 40) (ci := 0) X xok0 (by decide +kernel) ob_31 (by decide +kernel) fl_RX0_18 d_X0_put_40 ?_
      refine r_iconst (pc := 43) X d_X0_put_43 (by decide +kernel) ?_
      refine r_imul (pc := 44) X d_X0_put_44 ?_
      refine r_iload_n (pc := 45) X d_X0_put_45 fn3 ?_
      refine r_iadd (pc := 46) X d_X0_put_46 ?_
      refine r_aload_n (pc := 47) X d_X0_put_47 fn2 ?_
      refine r_iload_n (pc := 48) X d_X0_put_48 fn3 ?_
      refine r_iald (pc := 49) X d_X0_put_49 ?_
      refine s_iast (pc := 50) X tn_33 ln_33 d_X0_put_50 ?_
      refine r_iinc (pc := 51) X d_X0_put_51 (by decide +kernel) (by decide +kernel) ?_
      refine r_goto (pc := 54) (tgt := 24) X d_X0_put_54 (by decide +kernel) ?_
      exact h24
set_option maxRecDepth 20000 in
theorem m_X0_put {l : Launch} {f : Nat → Int32 → Nat → xH → xP → Prop}  {I24 : Nat → Int32 → Nat → xH → xP → xM → xK}
    (v0 : ∀ (a0 : Nat) (a1 : Int32) (a2 : Nat) (A : xH) (P : xP), f a0 a1 a2 A P → k_X0_put_0 P (xE (I24 a0 a1 a2 A P)) [some (.ref a0), some (.int a1), some (.ref a2), none] [] A)
    (v24 : ∀ (a0 : Nat) (a1 : Int32) (a2 : Nat) (A : xH) (P : xP), f a0 a1 a2 A P → ∀ (μ : xM) (L : xL) (st : List Value) (B : xH), I24 a0 a1 a2 A P μ L st B → k_X0_put_24 P (xB (I24 a0 a1 a2 A P) μ) L st B) : xCon l yX0_put cX0_put 4 none 0 0 xN xN 0 xFT xFT (w_RIR f) := by
  refine xc_RIR (plainFor_of_name pn_RX0) (by decide +kernel) (fun p e s m args below meth c g a0 a1 a2 A P h X hr _ => ?_)
  have h24 := x_loop1 (p := p) (l := l) (e := e) (R := { frames := 0, cells := 0, slots := 0, locals := 0 }) (s := s) (m := m) (args := args) (below := below) (meth := meth) (c := c) (g := g) (nL := 4) (F := xFT) (n := xN) (cells := 0) (slots := 0) (Q := MQ below (xQc g xFT xN P) args s 0 0 (xFr g)) (I := I24 a0 a1 a2 A P) (pc1 := 24) (fun μ i24 => xAt_mono (t_X0_put_24 (P := P) X hr i24) (v24 a0 a1 a2 A P h μ))
  exact ⟨_, v0 a0 a1 a2 A P h, t_X0_put_0 X hr h24⟩
theorem sgo_in {t : Nat → Bool} {n : Nat} : ∀ k p i, p ≤ i → i < sgo t n k p → t i = true
  | 0, p, i, h, h2 => by simp only [sgo] at h2; omega
  | k + 1, p, i, h, h2 => by
    simp only [sgo] at h2
    split at h2
    · rename_i q
      simp only [Bool.and_eq_true, decide_eq_true_eq] at q
      rcases Nat.lt_or_ge p i with h3 | h3
      · exact sgo_in k (p + 1) i h3 h2
      · rw [show i = p by omega]; exact q.2
    · omega
theorem dv_lt {f : Nat → Nat} {s : Nat} : ∀ i, (∀ j, j < i → f (s + j) ≤ 57) → dv f s i < 10 ^ i
  | 0, _ => by simp [dv]
  | i + 1, h => by
    have h1 := dv_lt i (fun j hj => h j (by omega))
    have h2 := h i (by omega)
    simp only [dv, Nat.pow_succ]
    omega
theorem pu_in {f : Nat → Nat} {s : Nat} : ∀ i j, j < i → pu f s i = true → sm (f (s + j)) = sm (f s)
  | 0, j, h, _ => by omega
  | i + 1, j, h, h2 => by
    simp only [pu, Bool.and_eq_true, beq_iff_eq] at h2
    rcases Nat.lt_or_ge j i with h3 | h3
    · exact pu_in i j h3 h2.1
    · rw [show j = i by omega]; exact h2.2
theorem tk_v2 {f : Nat → Nat} {n lim p : Nat} (ht : (tk f n lim p).1 = 2) : (tk f n lim p).2.2.2 < 1000 := by
  revert ht
  unfold tk
  by_cases a : min n lim ≤ skp (fun i => bl (f i)) (min n lim) p
  · rw [if_pos a]
    intro q; exfalso; revert q
    show (if lim < n then 4 else 0) = 2 → False
    split <;> omega
  · rw [if_neg a]
    by_cases b : (sm (f (skp (fun i => bl (f i)) (min n lim) p)) || dg (f (skp (fun i => bl (f i)) (min n lim) p))) = true
    · rw [if_pos b]
      dsimp only
      intro q
      cases hs : sm (f (skp (fun i => bl (f i)) (min n lim) p))
      · rw [hs] at q
        simp only [Bool.false_eq_true, if_false] at q ⊢
        split at q
        · rename_i w
          simp only [Bool.and_eq_true, decide_eq_true_eq] at w
          have h1 : dv f (skp (fun i => bl (f i)) (min n lim) p) (skp (fun i => sm (f i) || dg (f i)) n (skp (fun i => bl (f i)) (min n lim) p) - skp (fun i => bl (f i)) (min n lim) p) < 10 ^ (skp (fun i => sm (f i) || dg (f i)) n (skp (fun i => bl (f i)) (min n lim) p) - skp (fun i => bl (f i)) (min n lim) p) := by
            refine dv_lt _ fun j hj => ?_
            have h2 := sgo_in (t := fun i => sm (f i) || dg (f i)) (n := n) (n - skp (fun i => bl (f i)) (min n lim) p) (skp (fun i => bl (f i)) (min n lim) p) (skp (fun i => bl (f i)) (min n lim) p + j) (by omega) (by unfold skp at hj ⊢; omega)
            have h3 := pu_in _ j hj w.1
            rw [hs] at h3
            simp only [h3, Bool.false_or, dg, Bool.and_eq_true, decide_eq_true_eq] at h2
            exact h2.2
          have h4 : 10 ^ (skp (fun i => sm (f i) || dg (f i)) n (skp (fun i => bl (f i)) (min n lim) p) - skp (fun i => bl (f i)) (min n lim) p) ≤ 10 ^ 3 := Nat.pow_le_pow_right (by omega) w.2
          omega
        · omega
      · rw [hs] at q
        simp only [if_true] at q
        split at q <;> omega
    · rw [if_neg b]
      intro q; exfalso; revert q
      dsimp only
      split <;> omega
theorem lc_lt {a b : Nat} (ha : a < 2 ^ 31) (hb : b < 2 ^ 31) : lg_cmp (lN a) (lN b) < 0 ↔ a < b := by
  unfold lg_cmp
  simp only [gt_iff_lt, lN_lt hb ha, lN_eq ha hb]
  split
  · constructor
    · intro h; exact absurd h (by decide)
    · omega
  · split
    · constructor
      · intro h; exact absurd h (by decide)
      · omega
    · constructor
      · omega
      · intro _; decide
theorem lc_le {a b : Nat} (ha : a < 2 ^ 31) (hb : b < 2 ^ 31) : lg_cmp (lN a) (lN b) ≤ 0 ↔ a ≤ b := by
  unfold lg_cmp
  simp only [gt_iff_lt, lN_lt hb ha, lN_eq ha hb]
  split
  · constructor
    · intro h; exact absurd h (by decide)
    · omega
  · split
    · constructor
      · omega
      · intro _; decide
    · constructor
      · omega
      · intro _; decide
/-- a number of a text -/
def nbr (f : Nat → Nat) (n lim p lo hi : Nat) : (Nat × Nat) ⊕ (Nat × Nat) :=
  if (tk f n lim p).1 ≠ 2 then .inl (1, (tk f n lim p).2.1) else if (tk f n lim p).2.2.2 < lo ∨ hi < (tk f n lim p).2.2.2 then .inl (2, (tk f n lim p).2.1) else .inr ((tk f n lim p).2.2.2, (tk f n lim p).2.2.1)
theorem nbr_ok {f : Nat → Nat} {n lim p lo hi x z : Nat} (h : nbr f n lim p lo hi = .inr (x, z)) : lo ≤ x ∧ x ≤ hi ∧ z = (tk f n lim p).2.2.1 := by
  unfold nbr at h
  split at h
  · cases h
  · split at h
    · cases h
    · simp only [Sum.inr.injEq, Prod.mk.injEq] at h
      omega
theorem number_T {A : xH} {P : xP} {f : Nat → Nat} {n lim p k lo hi : Nat} (h : cT A f n lim p) (hk : k < 5) (hl : lo < 1000) (hh : hi < 1000)
    (h1 : ∀ e d, nbr f n lim p lo hi = .inl (e, d) → P (some (.int 0)) (fltT A e d))
    (h2 : ∀ x z, nbr f n lim p lo hi = .inr (x, z) → ∀ B, pS A B → aS (xsi A 4 k (nI x)) B → cT B f n lim z → P (some (.int 1)) B) : f_X5_number 3 (nI k) (nI lo) (nI hi) A P := by
  have ho := cT_ok h
  have ht := h.2.2.2.2
  unfold f_X5_number
  unfold nbr at h1 h2
  have h4 := ho.1
  by_cases c : (tk f n lim p).1 = 2
  · have e6 := ht.2.2.2 (by rw [c]; decide)
    have hv := tk_v2 c
    simp (disch := omega) only [k_X5_number_0, k_X5_number_43, k_X5_number_76, w_R, w_RI, x_aload, x_i2l, x_icmp_eq, x_icmp_ge, x_if_le, x_if_lt, x_iload, x_l2i, x_lcmp, x_push, x_zret, y_alen, y_cv0, y_cv1, y_getF, y_getI, y_getJ, y_iast, xFT, xbool0, xbool1, Nat.reduceAdd, Nat.zero_add, xgl_0, xgl_s, xgl_n, xst_0, xst_1n, xst_1i, xst_1r, xst_1l, xst_s, set_0, set_s, true_and, and_true, xres, xcat_nil, xcat_i, xcat_r, xcat_l, Nat.add_zero, xble0, xble1, xble2, xble3, xble4, xble5, xble6, xble7, xble8, pk_mul, nI_add, nI_1, nI_leI, nI_ltI, nI_eq, n_in, n_cl, z_eq, z_lt, z_le, z_gt, z_ge, z_qe, o_eq, o_lt, o_le, o_gt, o_ge, vp0, vp1, cl0, cl1, n_sub, n_sub1, n_pm1, n_a0, n_0a, ofn, lN0, Nat.reduceLT, Nat.reduceLeDiff, Nat.reduceMul, Nat.reduceSub, Nat.reduceEqDiff, ne_eq, true_implies, false_implies, not_true_eq_false, not_false_eq_true, and_self, and_true, true_and, and_false, false_and, implies_true, if_true, if_false, i00, i10, i01, i11, ob_0, ob_1, tn_2, ln_2, ob_3, tn_4, ln_4, ob_5, tn_6, ln_6, tn_7, ln_7, ob_8, tn_9, ln_9, tn_10, ln_10, tn_11, ln_11, tn_12, ln_12, tn_13, ln_13, tn_14, ln_14, tn_15, ln_15, tn_16, ln_16, tn_17, ln_17, ob_18, tn_19, ln_19, tn_20, ln_20, tn_21, ln_21, tn_22, ln_22, tn_23, ln_23, tn_24, ln_24, tn_25, ln_25, tn_26, ln_26, tn_27, ln_27, ob_28, tn_29, ln_29, tn_30, ln_30, ob_31, tn_32, ln_32, tn_33, ln_33, ob_34, ob_35, tn_36, ln_36, tn_37, ln_37, tn_38, ln_38, ob_39, tn_40, ln_40, tn_41, ln_41, tn_42, ln_42, tn_43, ln_43, tn_44, ln_44, tn_45, ln_45, tn_46, ln_46, tn_47, ln_47, tn_48, ln_48, tn_49, ln_49, tn_50, ln_50, tn_51, ln_51, ob_52, tn_53, ln_53, tn_54, ln_54, tn_55, ln_55, tn_56, ln_56, ob_57, tn_58, ln_58, tn_59, ln_59, tn_60, ln_60, tn_61, ln_61, tn_62, ln_62, tn_63, ln_63, tn_64, ln_64, tn_65, ln_65, ob_66, tn_67, ln_67, tn_68, ln_68, tn_69, ln_69, tn_70, ln_70, tn_71, ln_71, tn_72, ln_72, tn_73, ln_73, ob_74, tn_75, ln_75, tn_76, ln_76, tn_77, ln_77, tn_78, ln_78, tn_79, ln_79, tn_80, ln_80, tn_81, ln_81, tn_82, ln_82, tn_83, ln_83, ob_84, tn_85, ln_85, tn_86, ln_86, tn_87, ln_87, tn_88, ln_88, tn_89, ln_89, tn_90, ln_90, tn_91, ln_91, tn_92, ln_92, tn_93, ln_93, ob_94, tn_95, ln_95, tn_96, ln_96, tn_97, ln_97, tn_98, ln_98, tn_99, ln_99, tn_100, ln_100, tn_101, ln_101, tn_102, ln_102, tn_103, ln_103, ob_104, tn_105, ln_105, tn_106, ln_106, tn_107, ln_107, tn_108, ln_108, tn_109, ln_109, tn_110, ln_110, tn_111, ln_111, tn_112, ln_112, tn_113, ln_113, ob_114, tn_115, ln_115, tn_116, ln_116, tn_117, ln_117, tn_118, ln_118, tn_119, ln_119, tn_120, ln_120, tn_121, ln_121, tn_122, ln_122, tn_123, ln_123, ob_124, tn_125, ln_125, tn_126, ln_126, tn_127, ln_127, tn_128, ln_128, tn_129, ln_129, tn_130, ln_130, tn_131, ln_131, tn_132, ln_132, tn_133, ln_133, ob_134, tn_135, ln_135, tn_136, ln_136, tn_137, ln_137, tn_138, ln_138, tn_139, ln_139, tn_140, ln_140, tn_141, ln_141, tn_142, ln_142, tn_143, ln_143, ob_144, tn_145, ln_145, tn_146, ln_146, tn_147, ln_147, tn_148, ln_148, tn_149, ln_149, tn_150, ln_150, tn_151, ln_151, tn_152, ln_152, tn_153, ln_153, ob_154, tn_155, ln_155, tn_156, ln_156, tn_157, ln_157, tn_158, ln_158, tn_159, ln_159, tn_160, ln_160, tn_161, ln_161, tn_162, ln_162, tn_163, ln_163, ob_164, tn_165, ln_165, tn_166, ln_166, ob_167, tn_168, ln_168, tn_169, ln_169, tn_170, ln_170, tn_171, ln_171, tn_172, ln_172, tn_173, ln_173, tn_174, ln_174, tn_175, ln_175, tn_176, ln_176, ob_177, tn_178, ln_178, tn_179, ln_179, ob_180, tn_181, ln_181, tn_182, ln_182, tn_183, ln_183, tn_184, ln_184, tn_185, ln_185, tn_186, ln_186, tn_187, ln_187, tn_188, ln_188, tn_189, ln_189, tn_190, ln_190, tn_191, ln_191, tn_192, ln_192, tn_193, ln_193, tn_194, ln_194, tn_195, ln_195, tn_196, ln_196, tn_197, ln_197, tn_198, ln_198, tn_199, ln_199, tn_200, ln_200, tn_201, ln_201, tn_202, ln_202, tn_203, ln_203, tn_204, ln_204, tn_205, ln_205, tn_206, ln_206, tn_207, ln_207, tn_208, ln_208, tn_209, ln_209, tn_210, ln_210, tn_211, ln_211, tn_212, ln_212, tn_213, ln_213, tn_214, ln_214, tn_215, ln_215, tn_216, ln_216, tn_217, ln_217, tn_218, ln_218, tn_219, ln_219, tn_220, ln_220, tn_221, ln_221, tn_222, ln_222, tn_223, ln_223, tn_224, ln_224, tn_225, ln_225, tn_226, ln_226, tn_227, ln_227, tn_228, ln_228, tn_229, ln_229, tn_230, ln_230, lx2, lx3, lx4, lx5, lx6, lx7, lx8, lx9, lx10, lx14, lx15, lx16, lx18, lx20, lx24, lx25, lx27, lx32, lx36, lx40, lx41, lx42, lx43, lx45, lx48, lx52, lx54, lx56, lx57, lx58, lx60, lx61, lx62, lx63, lx64, lx66, lx69, lx73, lx80, lx81, lx84, lx85, lx87, lx94, lx96, lx97, lx120, lx128, lx135, lx160, lx162, lx163, lx165, lx200, lx232, lx242, lx243, lx255, lx256, lx320, lx325, lx400, lx405, lx464, lx512, lx600, lx640, lx752, lx900, lx940, lx1000, lx1024, lx1764, lx3360, lx3840, lx5000, lx6400, lx9050, lx9998, lx9999, lx10000, lx25600, lx76800, lx99999, ht.1, e6, c, nI_l, lc_lt, lc_le, fail_T ht, lN_i]
    rw [if_neg (by omega)] at h1 h2
    refine ⟨fun a => ?_, fun a => ⟨fun b => ⟨fun d => absurd d (by omega), fun d => ?_⟩, fun b => ?_⟩⟩
    · rw [if_pos (by omega)] at h1
      exact h1 _ _ rfl
    · rw [if_neg (by omega)] at h2
      refine ⟨hk, adv_T (cT_si h (c := 4) (by omega)) fun B hp ha hc => ?_⟩
      simp (disch := omega) only [k_X5_number_0, k_X5_number_43, k_X5_number_76, w_R, w_RI, x_aload, x_i2l, x_icmp_eq, x_icmp_ge, x_if_le, x_if_lt, x_iload, x_l2i, x_lcmp, x_push, x_zret, y_alen, y_cv0, y_cv1, y_getF, y_getI, y_getJ, y_iast, xFT, xbool0, xbool1, Nat.reduceAdd, Nat.zero_add, xgl_0, xgl_s, xgl_n, xst_0, xst_1n, xst_1i, xst_1r, xst_1l, xst_s, set_0, set_s, true_and, and_true, xres, xcat_nil, xcat_i, xcat_r, xcat_l, Nat.add_zero, xble0, xble1, xble2, xble3, xble4, xble5, xble6, xble7, xble8, pk_mul, nI_add, nI_1, nI_leI, nI_ltI, nI_eq, n_in, n_cl, z_eq, z_lt, z_le, z_gt, z_ge, z_qe, o_eq, o_lt, o_le, o_gt, o_ge, vp0, vp1, cl0, cl1, n_sub, n_sub1, n_pm1, n_a0, n_0a, ofn, lN0, Nat.reduceLT, Nat.reduceLeDiff, Nat.reduceMul, Nat.reduceSub, Nat.reduceEqDiff, ne_eq, true_implies, false_implies, not_true_eq_false, not_false_eq_true, and_self, and_true, true_and, and_false, false_and, implies_true, if_true, if_false, i00, i10, i01, i11, ob_0, ob_1, tn_2, ln_2, ob_3, tn_4, ln_4, ob_5, tn_6, ln_6, tn_7, ln_7, ob_8, tn_9, ln_9, tn_10, ln_10, tn_11, ln_11, tn_12, ln_12, tn_13, ln_13, tn_14, ln_14, tn_15, ln_15, tn_16, ln_16, tn_17, ln_17, ob_18, tn_19, ln_19, tn_20, ln_20, tn_21, ln_21, tn_22, ln_22, tn_23, ln_23, tn_24, ln_24, tn_25, ln_25, tn_26, ln_26, tn_27, ln_27, ob_28, tn_29, ln_29, tn_30, ln_30, ob_31, tn_32, ln_32, tn_33, ln_33, ob_34, ob_35, tn_36, ln_36, tn_37, ln_37, tn_38, ln_38, ob_39, tn_40, ln_40, tn_41, ln_41, tn_42, ln_42, tn_43, ln_43, tn_44, ln_44, tn_45, ln_45, tn_46, ln_46, tn_47, ln_47, tn_48, ln_48, tn_49, ln_49, tn_50, ln_50, tn_51, ln_51, ob_52, tn_53, ln_53, tn_54, ln_54, tn_55, ln_55, tn_56, ln_56, ob_57, tn_58, ln_58, tn_59, ln_59, tn_60, ln_60, tn_61, ln_61, tn_62, ln_62, tn_63, ln_63, tn_64, ln_64, tn_65, ln_65, ob_66, tn_67, ln_67, tn_68, ln_68, tn_69, ln_69, tn_70, ln_70, tn_71, ln_71, tn_72, ln_72, tn_73, ln_73, ob_74, tn_75, ln_75, tn_76, ln_76, tn_77, ln_77, tn_78, ln_78, tn_79, ln_79, tn_80, ln_80, tn_81, ln_81, tn_82, ln_82, tn_83, ln_83, ob_84, tn_85, ln_85, tn_86, ln_86, tn_87, ln_87, tn_88, ln_88, tn_89, ln_89, tn_90, ln_90, tn_91, ln_91, tn_92, ln_92, tn_93, ln_93, ob_94, tn_95, ln_95, tn_96, ln_96, tn_97, ln_97, tn_98, ln_98, tn_99, ln_99, tn_100, ln_100, tn_101, ln_101, tn_102, ln_102, tn_103, ln_103, ob_104, tn_105, ln_105, tn_106, ln_106, tn_107, ln_107, tn_108, ln_108, tn_109, ln_109, tn_110, ln_110, tn_111, ln_111, tn_112, ln_112, tn_113, ln_113, ob_114, tn_115, ln_115, tn_116, ln_116, tn_117, ln_117, tn_118, ln_118, tn_119, ln_119, tn_120, ln_120, tn_121, ln_121, tn_122, ln_122, tn_123, ln_123, ob_124, tn_125, ln_125, tn_126, ln_126, tn_127, ln_127, tn_128, ln_128, tn_129, ln_129, tn_130, ln_130, tn_131, ln_131, tn_132, ln_132, tn_133, ln_133, ob_134, tn_135, ln_135, tn_136, ln_136, tn_137, ln_137, tn_138, ln_138, tn_139, ln_139, tn_140, ln_140, tn_141, ln_141, tn_142, ln_142, tn_143, ln_143, ob_144, tn_145, ln_145, tn_146, ln_146, tn_147, ln_147, tn_148, ln_148, tn_149, ln_149, tn_150, ln_150, tn_151, ln_151, tn_152, ln_152, tn_153, ln_153, ob_154, tn_155, ln_155, tn_156, ln_156, tn_157, ln_157, tn_158, ln_158, tn_159, ln_159, tn_160, ln_160, tn_161, ln_161, tn_162, ln_162, tn_163, ln_163, ob_164, tn_165, ln_165, tn_166, ln_166, ob_167, tn_168, ln_168, tn_169, ln_169, tn_170, ln_170, tn_171, ln_171, tn_172, ln_172, tn_173, ln_173, tn_174, ln_174, tn_175, ln_175, tn_176, ln_176, ob_177, tn_178, ln_178, tn_179, ln_179, ob_180, tn_181, ln_181, tn_182, ln_182, tn_183, ln_183, tn_184, ln_184, tn_185, ln_185, tn_186, ln_186, tn_187, ln_187, tn_188, ln_188, tn_189, ln_189, tn_190, ln_190, tn_191, ln_191, tn_192, ln_192, tn_193, ln_193, tn_194, ln_194, tn_195, ln_195, tn_196, ln_196, tn_197, ln_197, tn_198, ln_198, tn_199, ln_199, tn_200, ln_200, tn_201, ln_201, tn_202, ln_202, tn_203, ln_203, tn_204, ln_204, tn_205, ln_205, tn_206, ln_206, tn_207, ln_207, tn_208, ln_208, tn_209, ln_209, tn_210, ln_210, tn_211, ln_211, tn_212, ln_212, tn_213, ln_213, tn_214, ln_214, tn_215, ln_215, tn_216, ln_216, tn_217, ln_217, tn_218, ln_218, tn_219, ln_219, tn_220, ln_220, tn_221, ln_221, tn_222, ln_222, tn_223, ln_223, tn_224, ln_224, tn_225, ln_225, tn_226, ln_226, tn_227, ln_227, tn_228, ln_228, tn_229, ln_229, tn_230, ln_230, lx2, lx3, lx4, lx5, lx6, lx7, lx8, lx9, lx10, lx14, lx15, lx16, lx18, lx20, lx24, lx25, lx27, lx32, lx36, lx40, lx41, lx42, lx43, lx45, lx48, lx52, lx54, lx56, lx57, lx58, lx60, lx61, lx62, lx63, lx64, lx66, lx69, lx73, lx80, lx81, lx84, lx85, lx87, lx94, lx96, lx97, lx120, lx128, lx135, lx160, lx162, lx163, lx165, lx200, lx232, lx242, lx243, lx255, lx256, lx320, lx325, lx400, lx405, lx464, lx512, lx600, lx640, lx752, lx900, lx940, lx1000, lx1024, lx1764, lx3360, lx3840, lx5000, lx6400, lx9050, lx9998, lx9999, lx10000, lx25600, lx76800, lx99999]
      refine h2 _ _ rfl B (pS_tr ⟨xoff_si xoff_rf (by omega) (by omega), fun j => by rw [si_ne (by omega)], fun j _ _ _ => by rw [si_ne (by omega)]⟩ hp) ha hc
    · rw [if_pos (by omega)] at h1
      exact h1 _ _ rfl
  · simp (disch := omega) only [k_X5_number_0, k_X5_number_43, k_X5_number_76, w_R, w_RI, x_aload, x_i2l, x_icmp_eq, x_icmp_ge, x_if_le, x_if_lt, x_iload, x_l2i, x_lcmp, x_push, x_zret, y_alen, y_cv0, y_cv1, y_getF, y_getI, y_getJ, y_iast, xFT, xbool0, xbool1, Nat.reduceAdd, Nat.zero_add, xgl_0, xgl_s, xgl_n, xst_0, xst_1n, xst_1i, xst_1r, xst_1l, xst_s, set_0, set_s, true_and, and_true, xres, xcat_nil, xcat_i, xcat_r, xcat_l, Nat.add_zero, xble0, xble1, xble2, xble3, xble4, xble5, xble6, xble7, xble8, pk_mul, nI_add, nI_1, nI_leI, nI_ltI, nI_eq, n_in, n_cl, z_eq, z_lt, z_le, z_gt, z_ge, z_qe, o_eq, o_lt, o_le, o_gt, o_ge, vp0, vp1, cl0, cl1, n_sub, n_sub1, n_pm1, n_a0, n_0a, ofn, lN0, Nat.reduceLT, Nat.reduceLeDiff, Nat.reduceMul, Nat.reduceSub, Nat.reduceEqDiff, ne_eq, true_implies, false_implies, not_true_eq_false, not_false_eq_true, and_self, and_true, true_and, and_false, false_and, implies_true, if_true, if_false, i00, i10, i01, i11, ob_0, ob_1, tn_2, ln_2, ob_3, tn_4, ln_4, ob_5, tn_6, ln_6, tn_7, ln_7, ob_8, tn_9, ln_9, tn_10, ln_10, tn_11, ln_11, tn_12, ln_12, tn_13, ln_13, tn_14, ln_14, tn_15, ln_15, tn_16, ln_16, tn_17, ln_17, ob_18, tn_19, ln_19, tn_20, ln_20, tn_21, ln_21, tn_22, ln_22, tn_23, ln_23, tn_24, ln_24, tn_25, ln_25, tn_26, ln_26, tn_27, ln_27, ob_28, tn_29, ln_29, tn_30, ln_30, ob_31, tn_32, ln_32, tn_33, ln_33, ob_34, ob_35, tn_36, ln_36, tn_37, ln_37, tn_38, ln_38, ob_39, tn_40, ln_40, tn_41, ln_41, tn_42, ln_42, tn_43, ln_43, tn_44, ln_44, tn_45, ln_45, tn_46, ln_46, tn_47, ln_47, tn_48, ln_48, tn_49, ln_49, tn_50, ln_50, tn_51, ln_51, ob_52, tn_53, ln_53, tn_54, ln_54, tn_55, ln_55, tn_56, ln_56, ob_57, tn_58, ln_58, tn_59, ln_59, tn_60, ln_60, tn_61, ln_61, tn_62, ln_62, tn_63, ln_63, tn_64, ln_64, tn_65, ln_65, ob_66, tn_67, ln_67, tn_68, ln_68, tn_69, ln_69, tn_70, ln_70, tn_71, ln_71, tn_72, ln_72, tn_73, ln_73, ob_74, tn_75, ln_75, tn_76, ln_76, tn_77, ln_77, tn_78, ln_78, tn_79, ln_79, tn_80, ln_80, tn_81, ln_81, tn_82, ln_82, tn_83, ln_83, ob_84, tn_85, ln_85, tn_86, ln_86, tn_87, ln_87, tn_88, ln_88, tn_89, ln_89, tn_90, ln_90, tn_91, ln_91, tn_92, ln_92, tn_93, ln_93, ob_94, tn_95, ln_95, tn_96, ln_96, tn_97, ln_97, tn_98, ln_98, tn_99, ln_99, tn_100, ln_100, tn_101, ln_101, tn_102, ln_102, tn_103, ln_103, ob_104, tn_105, ln_105, tn_106, ln_106, tn_107, ln_107, tn_108, ln_108, tn_109, ln_109, tn_110, ln_110, tn_111, ln_111, tn_112, ln_112, tn_113, ln_113, ob_114, tn_115, ln_115, tn_116, ln_116, tn_117, ln_117, tn_118, ln_118, tn_119, ln_119, tn_120, ln_120, tn_121, ln_121, tn_122, ln_122, tn_123, ln_123, ob_124, tn_125, ln_125, tn_126, ln_126, tn_127, ln_127, tn_128, ln_128, tn_129, ln_129, tn_130, ln_130, tn_131, ln_131, tn_132, ln_132, tn_133, ln_133, ob_134, tn_135, ln_135, tn_136, ln_136, tn_137, ln_137, tn_138, ln_138, tn_139, ln_139, tn_140, ln_140, tn_141, ln_141, tn_142, ln_142, tn_143, ln_143, ob_144, tn_145, ln_145, tn_146, ln_146, tn_147, ln_147, tn_148, ln_148, tn_149, ln_149, tn_150, ln_150, tn_151, ln_151, tn_152, ln_152, tn_153, ln_153, ob_154, tn_155, ln_155, tn_156, ln_156, tn_157, ln_157, tn_158, ln_158, tn_159, ln_159, tn_160, ln_160, tn_161, ln_161, tn_162, ln_162, tn_163, ln_163, ob_164, tn_165, ln_165, tn_166, ln_166, ob_167, tn_168, ln_168, tn_169, ln_169, tn_170, ln_170, tn_171, ln_171, tn_172, ln_172, tn_173, ln_173, tn_174, ln_174, tn_175, ln_175, tn_176, ln_176, ob_177, tn_178, ln_178, tn_179, ln_179, ob_180, tn_181, ln_181, tn_182, ln_182, tn_183, ln_183, tn_184, ln_184, tn_185, ln_185, tn_186, ln_186, tn_187, ln_187, tn_188, ln_188, tn_189, ln_189, tn_190, ln_190, tn_191, ln_191, tn_192, ln_192, tn_193, ln_193, tn_194, ln_194, tn_195, ln_195, tn_196, ln_196, tn_197, ln_197, tn_198, ln_198, tn_199, ln_199, tn_200, ln_200, tn_201, ln_201, tn_202, ln_202, tn_203, ln_203, tn_204, ln_204, tn_205, ln_205, tn_206, ln_206, tn_207, ln_207, tn_208, ln_208, tn_209, ln_209, tn_210, ln_210, tn_211, ln_211, tn_212, ln_212, tn_213, ln_213, tn_214, ln_214, tn_215, ln_215, tn_216, ln_216, tn_217, ln_217, tn_218, ln_218, tn_219, ln_219, tn_220, ln_220, tn_221, ln_221, tn_222, ln_222, tn_223, ln_223, tn_224, ln_224, tn_225, ln_225, tn_226, ln_226, tn_227, ln_227, tn_228, ln_228, tn_229, ln_229, tn_230, ln_230, lx2, lx3, lx4, lx5, lx6, lx7, lx8, lx9, lx10, lx14, lx15, lx16, lx18, lx20, lx24, lx25, lx27, lx32, lx36, lx40, lx41, lx42, lx43, lx45, lx48, lx52, lx54, lx56, lx57, lx58, lx60, lx61, lx62, lx63, lx64, lx66, lx69, lx73, lx80, lx81, lx84, lx85, lx87, lx94, lx96, lx97, lx120, lx128, lx135, lx160, lx162, lx163, lx165, lx200, lx232, lx242, lx243, lx255, lx256, lx320, lx325, lx400, lx405, lx464, lx512, lx600, lx640, lx752, lx900, lx940, lx1000, lx1024, lx1764, lx3360, lx3840, lx5000, lx6400, lx9050, lx9998, lx9999, lx10000, lx25600, lx76800, lx99999, ht.1, c, fail_L 1 ht]
    rw [if_pos c] at h1
    exact h1 _ _ rfl
/-- a LINE: what it does (0 a rule added, 1 one dropped, 2 items merged, 3 the depth), its numbers, a rule's symbols -/
abbrev xBL : Type := Nat × Nat × Nat × List Nat
def WDP : Int64 := 1685221232
def WMG : Int64 := 469853431653
def WDE : Int64 := 431198598248
/-- a LINE up to its mark -/
def bln (v : xV) (f : Nat → Nat) (n p c : Nat) : (Nat × Nat) ⊕ (xBL × Nat) :=
  if isWd (tk f n 400 p) WRU = false ∧ isWd (tk f n 400 p) WDP = false ∧ isWd (tk f n 400 p) WMG = false ∧ isWd (tk f n 400 p) WDE = false then .inl (1, (tk f n 400 p).2.1)
  else if c = 40 then .inl (4, (tk f n 400 p).2.1)
  else if isWd (tk f n 400 p) WRU then (match rln v f n 400 p with
    | .inl e => .inl e
    | .inr ((k, l), z) => .inr ((0, k, 0, l), z))
  else if isWd (tk f n 400 p) WDP then (match nbr f n 400 (tk f n 400 p).2.2.1 0 9 with
    | .inl e => .inl e
    | .inr (a, z) => .inr ((1, a, 0, []), z))
  else if isWd (tk f n 400 p) WMG then (match nbr f n 400 (tk f n 400 p).2.2.1 2 41 with
    | .inl e => .inl e
    | .inr (a, z) => match nbr f n 400 z 2 41 with
      | .inl e => .inl e
      | .inr (b, y) => .inr ((2, a, b, []), y))
  else match nbr f n 400 (tk f n 400 p).2.2.1 0 1 with
    | .inl e => .inl e
    | .inr (a, z) => .inr ((3, a, 0, []), z)
/-- .. with it -/
def blm (v : xV) (f : Nat → Nat) (n p c : Nat) : (Nat × Nat) ⊕ (xBL × Nat) := match bln v f n p c with
  | .inl e => .inl e
  | .inr (x, z) => if isMk (tk f n 400 z) 59 = false then .inl (1, (tk f n 400 z).2.1) else .inr (x, (tk f n 400 z).2.2.1)
/-- the whole text: fuel, place, how many, which -/
def bkp (v : xV) (f : Nat → Nat) (n : Nat) : Nat → Nat → Nat → (Nat → xBL) → (Nat × Nat) ⊕ (Nat × (Nat → xBL))
  | 0, _, _, _ => .inl (0, 0)
  | g + 1, p, c, b => if (tk f n 400 p).1 = 0 then .inr (c, b) else match blm v f n p c with
    | .inl e => .inl e
    | .inr (x, z) => bkp v f n g z (c + 1) (fun i => if i = c then x else b i)
theorem bkp_s {v : xV} {f : Nat → Nat} {n g p c : Nat} {b : Nat → xBL} : bkp v f n (g + 1) p c b = if (tk f n 400 p).1 = 0 then .inr (c, b) else match blm v f n p c with
    | .inl e => .inl e
    | .inr (x, z) => bkp v f n g z (c + 1) (fun i => if i = c then x else b i) := rfl
/-- the class's line -/
def lnC (A : xH) (i : Nat) (x : xBL) : Prop := x.1 ≤ 3 ∧ xi A 32 i = nI (if x.1 = 0 then 0 else if x.1 = 1 then 20 else if x.1 = 2 then 10 else 30) ∧ (x.1 = 0 → rowIs A 33 (5 * i) x.2.1 x.2.2.2) ∧ (x.1 ≠ 0 → xi A 33 (5 * i) = nI x.2.1) ∧ (x.1 = 2 → xi A 33 (5 * i + 1) = nI x.2.2.1)
/-- a row put -/
def pb (A : xH) (s z : Nat) : Nat → Int32 := fun j => if 5 * s ≤ j ∧ j < 5 * s + z then xi A 4 (j - 5 * s) else xi A 33 j
def f_X0_put (q : Nat) (x : Int32) (c : Nat) (A : xH) (P : xP) : Prop := q = 31 ∧ c = 4 ∧ ∃ s, xi A 31 2 = nI s ∧ s < 40 ∧ P none (xsi (xsA (xsi A 32 s x) 33 (pb A s 5)) 31 2 (nI (s + 1)))
def pbI (x : Int32) (A : xH) (P : xP) : xM → xK := fun μ L st B => ∃ s z, xi A 31 2 = nI s ∧ s < 40 ∧ P none (xsi (xsA (xsi A 32 s x) 33 (pb A s 5)) 31 2 (nI (s + 1))) ∧ z ≤ 5 ∧ B = xsA (xsi A 32 s x) 33 (pb A s z) ∧ st = [] ∧ L = [some (.ref 31), some (.int x), some (.ref 4), some (.int (nI z))] ∧ μ = (5 - z, 0, 0)
set_option maxRecDepth 20000 in
theorem con_X0_put (l : Launch) : xCon l yX0_put cX0_put 4 none 0 0 xN xN 0 xFT xFT (w_RIR f_X0_put) := by
  refine m_X0_put (I24 := fun q x c A P => pbI x A P) ?_ ?_
  · rintro q x c A P ⟨rfl, rfl, s, hs, h40, hP⟩
    simp (disch := omega) only [k_X0_put_0, k_X0_put_24, k_X0_put_57, k_X0_put_67, x_alen, x_aload, x_dup, x_iadd, x_iald, x_icmp_ge, x_iinc, x_iload, x_imul, x_istore, x_push, x_vret, y_alen, y_getF, y_getI, y_iast, y_putI, xFT, xbool0, xbool1, Nat.reduceAdd, Nat.zero_add, xgl_0, xgl_s, xgl_n, xst_0, xst_1n, xst_1i, xst_1r, xst_1l, xst_s, set_0, set_s, true_and, and_true, xres, xcat_nil, xcat_i, xcat_r, xcat_l, Nat.add_zero, xble0, xble1, xble2, xble3, xble4, xble5, xble6, xble7, xble8, pk_mul, nI_add, nI_1, nI_leI, nI_ltI, nI_eq, n_in, n_cl, z_eq, z_lt, z_le, z_gt, z_ge, z_qe, o_eq, o_lt, o_le, o_gt, o_ge, vp0, vp1, cl0, cl1, n_sub, n_sub1, n_pm1, n_a0, n_0a, ofn, lN0, Nat.reduceLT, Nat.reduceLeDiff, Nat.reduceMul, Nat.reduceSub, Nat.reduceEqDiff, ne_eq, true_implies, false_implies, not_true_eq_false, not_false_eq_true, and_self, and_true, true_and, and_false, false_and, implies_true, if_true, if_false, i00, i10, i01, i11, ob_0, ob_1, tn_2, ln_2, ob_3, tn_4, ln_4, ob_5, tn_6, ln_6, tn_7, ln_7, ob_8, tn_9, ln_9, tn_10, ln_10, tn_11, ln_11, tn_12, ln_12, tn_13, ln_13, tn_14, ln_14, tn_15, ln_15, tn_16, ln_16, tn_17, ln_17, ob_18, tn_19, ln_19, tn_20, ln_20, tn_21, ln_21, tn_22, ln_22, tn_23, ln_23, tn_24, ln_24, tn_25, ln_25, tn_26, ln_26, tn_27, ln_27, ob_28, tn_29, ln_29, tn_30, ln_30, ob_31, tn_32, ln_32, tn_33, ln_33, ob_34, ob_35, tn_36, ln_36, tn_37, ln_37, tn_38, ln_38, ob_39, tn_40, ln_40, tn_41, ln_41, tn_42, ln_42, tn_43, ln_43, tn_44, ln_44, tn_45, ln_45, tn_46, ln_46, tn_47, ln_47, tn_48, ln_48, tn_49, ln_49, tn_50, ln_50, tn_51, ln_51, ob_52, tn_53, ln_53, tn_54, ln_54, tn_55, ln_55, tn_56, ln_56, ob_57, tn_58, ln_58, tn_59, ln_59, tn_60, ln_60, tn_61, ln_61, tn_62, ln_62, tn_63, ln_63, tn_64, ln_64, tn_65, ln_65, ob_66, tn_67, ln_67, tn_68, ln_68, tn_69, ln_69, tn_70, ln_70, tn_71, ln_71, tn_72, ln_72, tn_73, ln_73, ob_74, tn_75, ln_75, tn_76, ln_76, tn_77, ln_77, tn_78, ln_78, tn_79, ln_79, tn_80, ln_80, tn_81, ln_81, tn_82, ln_82, tn_83, ln_83, ob_84, tn_85, ln_85, tn_86, ln_86, tn_87, ln_87, tn_88, ln_88, tn_89, ln_89, tn_90, ln_90, tn_91, ln_91, tn_92, ln_92, tn_93, ln_93, ob_94, tn_95, ln_95, tn_96, ln_96, tn_97, ln_97, tn_98, ln_98, tn_99, ln_99, tn_100, ln_100, tn_101, ln_101, tn_102, ln_102, tn_103, ln_103, ob_104, tn_105, ln_105, tn_106, ln_106, tn_107, ln_107, tn_108, ln_108, tn_109, ln_109, tn_110, ln_110, tn_111, ln_111, tn_112, ln_112, tn_113, ln_113, ob_114, tn_115, ln_115, tn_116, ln_116, tn_117, ln_117, tn_118, ln_118, tn_119, ln_119, tn_120, ln_120, tn_121, ln_121, tn_122, ln_122, tn_123, ln_123, ob_124, tn_125, ln_125, tn_126, ln_126, tn_127, ln_127, tn_128, ln_128, tn_129, ln_129, tn_130, ln_130, tn_131, ln_131, tn_132, ln_132, tn_133, ln_133, ob_134, tn_135, ln_135, tn_136, ln_136, tn_137, ln_137, tn_138, ln_138, tn_139, ln_139, tn_140, ln_140, tn_141, ln_141, tn_142, ln_142, tn_143, ln_143, ob_144, tn_145, ln_145, tn_146, ln_146, tn_147, ln_147, tn_148, ln_148, tn_149, ln_149, tn_150, ln_150, tn_151, ln_151, tn_152, ln_152, tn_153, ln_153, ob_154, tn_155, ln_155, tn_156, ln_156, tn_157, ln_157, tn_158, ln_158, tn_159, ln_159, tn_160, ln_160, tn_161, ln_161, tn_162, ln_162, tn_163, ln_163, ob_164, tn_165, ln_165, tn_166, ln_166, ob_167, tn_168, ln_168, tn_169, ln_169, tn_170, ln_170, tn_171, ln_171, tn_172, ln_172, tn_173, ln_173, tn_174, ln_174, tn_175, ln_175, tn_176, ln_176, ob_177, tn_178, ln_178, tn_179, ln_179, ob_180, tn_181, ln_181, tn_182, ln_182, tn_183, ln_183, tn_184, ln_184, tn_185, ln_185, tn_186, ln_186, tn_187, ln_187, tn_188, ln_188, tn_189, ln_189, tn_190, ln_190, tn_191, ln_191, tn_192, ln_192, tn_193, ln_193, tn_194, ln_194, tn_195, ln_195, tn_196, ln_196, tn_197, ln_197, tn_198, ln_198, tn_199, ln_199, tn_200, ln_200, tn_201, ln_201, tn_202, ln_202, tn_203, ln_203, tn_204, ln_204, tn_205, ln_205, tn_206, ln_206, tn_207, ln_207, tn_208, ln_208, tn_209, ln_209, tn_210, ln_210, tn_211, ln_211, tn_212, ln_212, tn_213, ln_213, tn_214, ln_214, tn_215, ln_215, tn_216, ln_216, tn_217, ln_217, tn_218, ln_218, tn_219, ln_219, tn_220, ln_220, tn_221, ln_221, tn_222, ln_222, tn_223, ln_223, tn_224, ln_224, tn_225, ln_225, tn_226, ln_226, tn_227, ln_227, tn_228, ln_228, tn_229, ln_229, tn_230, ln_230, lx2, lx3, lx4, lx5, lx6, lx7, lx8, lx9, lx10, lx14, lx15, lx16, lx18, lx20, lx24, lx25, lx27, lx32, lx36, lx40, lx41, lx42, lx43, lx45, lx48, lx52, lx54, lx56, lx57, lx58, lx60, lx61, lx62, lx63, lx64, lx66, lx69, lx73, lx80, lx81, lx84, lx85, lx87, lx94, lx96, lx97, lx120, lx128, lx135, lx160, lx162, lx163, lx165, lx200, lx232, lx242, lx243, lx255, lx256, lx320, lx325, lx400, lx405, lx464, lx512, lx600, lx640, lx752, lx900, lx940, lx1000, lx1024, lx1764, lx3360, lx3840, lx5000, lx6400, lx9050, lx9998, lx9999, lx10000, lx25600, lx76800, lx99999, si_ne, si_eq, sl_ne, sl_eq, xl_si, xi_sl, sA_ne, sA_eq, xl_sA, hs]
    refine ⟨fun a => absurd a (by omega), fun a => ⟨by omega, ?_⟩⟩
    exact xE0 (5, 0, 0) ⟨s, 0, hs, h40, hP, by omega, (xsA_self fun j => by unfold pb; rw [if_neg (by omega), si_ne (by omega)]).symm, rfl, rfl, rfl⟩
  · rintro q x c A P - μ L st B ⟨s, z, hs, h40, hP, hz, rfl, rfl, rfl, rfl⟩
    have e2 : xi (xsA (xsi A 32 s x) 33 (pb A s z)) 31 2 = nI s := by rw [sA_ne (by omega), si_ne (by omega)]; exact hs
    simp (disch := omega) only [k_X0_put_0, k_X0_put_24, k_X0_put_57, k_X0_put_67, x_alen, x_aload, x_dup, x_iadd, x_iald, x_icmp_ge, x_iinc, x_iload, x_imul, x_istore, x_push, x_vret, y_alen, y_getF, y_getI, y_iast, y_putI, xFT, xbool0, xbool1, Nat.reduceAdd, Nat.zero_add, xgl_0, xgl_s, xgl_n, xst_0, xst_1n, xst_1i, xst_1r, xst_1l, xst_s, set_0, set_s, true_and, and_true, xres, xcat_nil, xcat_i, xcat_r, xcat_l, Nat.add_zero, xble0, xble1, xble2, xble3, xble4, xble5, xble6, xble7, xble8, pk_mul, nI_add, nI_1, nI_leI, nI_ltI, nI_eq, n_in, n_cl, z_eq, z_lt, z_le, z_gt, z_ge, z_qe, o_eq, o_lt, o_le, o_gt, o_ge, vp0, vp1, cl0, cl1, n_sub, n_sub1, n_pm1, n_a0, n_0a, ofn, lN0, Nat.reduceLT, Nat.reduceLeDiff, Nat.reduceMul, Nat.reduceSub, Nat.reduceEqDiff, ne_eq, true_implies, false_implies, not_true_eq_false, not_false_eq_true, and_self, and_true, true_and, and_false, false_and, implies_true, if_true, if_false, i00, i10, i01, i11, ob_0, ob_1, tn_2, ln_2, ob_3, tn_4, ln_4, ob_5, tn_6, ln_6, tn_7, ln_7, ob_8, tn_9, ln_9, tn_10, ln_10, tn_11, ln_11, tn_12, ln_12, tn_13, ln_13, tn_14, ln_14, tn_15, ln_15, tn_16, ln_16, tn_17, ln_17, ob_18, tn_19, ln_19, tn_20, ln_20, tn_21, ln_21, tn_22, ln_22, tn_23, ln_23, tn_24, ln_24, tn_25, ln_25, tn_26, ln_26, tn_27, ln_27, ob_28, tn_29, ln_29, tn_30, ln_30, ob_31, tn_32, ln_32, tn_33, ln_33, ob_34, ob_35, tn_36, ln_36, tn_37, ln_37, tn_38, ln_38, ob_39, tn_40, ln_40, tn_41, ln_41, tn_42, ln_42, tn_43, ln_43, tn_44, ln_44, tn_45, ln_45, tn_46, ln_46, tn_47, ln_47, tn_48, ln_48, tn_49, ln_49, tn_50, ln_50, tn_51, ln_51, ob_52, tn_53, ln_53, tn_54, ln_54, tn_55, ln_55, tn_56, ln_56, ob_57, tn_58, ln_58, tn_59, ln_59, tn_60, ln_60, tn_61, ln_61, tn_62, ln_62, tn_63, ln_63, tn_64, ln_64, tn_65, ln_65, ob_66, tn_67, ln_67, tn_68, ln_68, tn_69, ln_69, tn_70, ln_70, tn_71, ln_71, tn_72, ln_72, tn_73, ln_73, ob_74, tn_75, ln_75, tn_76, ln_76, tn_77, ln_77, tn_78, ln_78, tn_79, ln_79, tn_80, ln_80, tn_81, ln_81, tn_82, ln_82, tn_83, ln_83, ob_84, tn_85, ln_85, tn_86, ln_86, tn_87, ln_87, tn_88, ln_88, tn_89, ln_89, tn_90, ln_90, tn_91, ln_91, tn_92, ln_92, tn_93, ln_93, ob_94, tn_95, ln_95, tn_96, ln_96, tn_97, ln_97, tn_98, ln_98, tn_99, ln_99, tn_100, ln_100, tn_101, ln_101, tn_102, ln_102, tn_103, ln_103, ob_104, tn_105, ln_105, tn_106, ln_106, tn_107, ln_107, tn_108, ln_108, tn_109, ln_109, tn_110, ln_110, tn_111, ln_111, tn_112, ln_112, tn_113, ln_113, ob_114, tn_115, ln_115, tn_116, ln_116, tn_117, ln_117, tn_118, ln_118, tn_119, ln_119, tn_120, ln_120, tn_121, ln_121, tn_122, ln_122, tn_123, ln_123, ob_124, tn_125, ln_125, tn_126, ln_126, tn_127, ln_127, tn_128, ln_128, tn_129, ln_129, tn_130, ln_130, tn_131, ln_131, tn_132, ln_132, tn_133, ln_133, ob_134, tn_135, ln_135, tn_136, ln_136, tn_137, ln_137, tn_138, ln_138, tn_139, ln_139, tn_140, ln_140, tn_141, ln_141, tn_142, ln_142, tn_143, ln_143, ob_144, tn_145, ln_145, tn_146, ln_146, tn_147, ln_147, tn_148, ln_148, tn_149, ln_149, tn_150, ln_150, tn_151, ln_151, tn_152, ln_152, tn_153, ln_153, ob_154, tn_155, ln_155, tn_156, ln_156, tn_157, ln_157, tn_158, ln_158, tn_159, ln_159, tn_160, ln_160, tn_161, ln_161, tn_162, ln_162, tn_163, ln_163, ob_164, tn_165, ln_165, tn_166, ln_166, ob_167, tn_168, ln_168, tn_169, ln_169, tn_170, ln_170, tn_171, ln_171, tn_172, ln_172, tn_173, ln_173, tn_174, ln_174, tn_175, ln_175, tn_176, ln_176, ob_177, tn_178, ln_178, tn_179, ln_179, ob_180, tn_181, ln_181, tn_182, ln_182, tn_183, ln_183, tn_184, ln_184, tn_185, ln_185, tn_186, ln_186, tn_187, ln_187, tn_188, ln_188, tn_189, ln_189, tn_190, ln_190, tn_191, ln_191, tn_192, ln_192, tn_193, ln_193, tn_194, ln_194, tn_195, ln_195, tn_196, ln_196, tn_197, ln_197, tn_198, ln_198, tn_199, ln_199, tn_200, ln_200, tn_201, ln_201, tn_202, ln_202, tn_203, ln_203, tn_204, ln_204, tn_205, ln_205, tn_206, ln_206, tn_207, ln_207, tn_208, ln_208, tn_209, ln_209, tn_210, ln_210, tn_211, ln_211, tn_212, ln_212, tn_213, ln_213, tn_214, ln_214, tn_215, ln_215, tn_216, ln_216, tn_217, ln_217, tn_218, ln_218, tn_219, ln_219, tn_220, ln_220, tn_221, ln_221, tn_222, ln_222, tn_223, ln_223, tn_224, ln_224, tn_225, ln_225, tn_226, ln_226, tn_227, ln_227, tn_228, ln_228, tn_229, ln_229, tn_230, ln_230, lx2, lx3, lx4, lx5, lx6, lx7, lx8, lx9, lx10, lx14, lx15, lx16, lx18, lx20, lx24, lx25, lx27, lx32, lx36, lx40, lx41, lx42, lx43, lx45, lx48, lx52, lx54, lx56, lx57, lx58, lx60, lx61, lx62, lx63, lx64, lx66, lx69, lx73, lx80, lx81, lx84, lx85, lx87, lx94, lx96, lx97, lx120, lx128, lx135, lx160, lx162, lx163, lx165, lx200, lx232, lx242, lx243, lx255, lx256, lx320, lx325, lx400, lx405, lx464, lx512, lx600, lx640, lx752, lx900, lx940, lx1000, lx1024, lx1764, lx3360, lx3840, lx5000, lx6400, lx9050, lx9998, lx9999, lx10000, lx25600, lx76800, lx99999, si_ne, si_eq, sl_ne, sl_eq, xl_si, xi_sl, sA_ne, sA_eq, xl_sA, e2, xsi_sA]
    (repeat' (first | intro _ | with_reducible apply And.intro)) <;> try omega
    · have : z = 5 := by omega
      subst this; exact hP
    · refine xB1 (b := 5 - (z + 1)) (by omega) ⟨s, z + 1, hs, h40, hP, by omega, xsA_congr fun j => ?_, rfl, rfl, rfl⟩
      unfold pb
      (repeat' split) <;> first | rfl | omega | (exfalso; omega) | (congr 1; omega) | (congr 2; omega)

