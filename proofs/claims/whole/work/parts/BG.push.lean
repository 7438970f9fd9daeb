/-! ===== the class's push, pop, overFor ===== -/
theorem d_X6_push_0 : decode cX6_push 0 = .ok (.aload_n 0, 1) := by decide +kernel
theorem d_X6_push_1 : decode cX6_push 1 = .ok (.getfield 29, 3) := by decide +kernel
theorem d_X6_push_4 : decode cX6_push 4 = .ok (.iconst 5, 1) := by decide +kernel
theorem d_X6_push_5 : decode cX6_push 5 = .ok (.imul, 1) := by decide +kernel
theorem d_X6_push_6 : decode cX6_push 6 = .ok (.istore 6, 2) := by decide +kernel
theorem d_X6_push_8 : decode cX6_push 8 = .ok (.iload_n 1, 1) := by decide +kernel
theorem d_X6_push_9 : decode cX6_push 9 = .ok (.bipush 8, 2) := by decide +kernel
theorem d_X6_push_11 : decode cX6_push 11 = .ok (.if_icmp .lt 78, 3) := by decide +kernel
theorem d_X6_push_14 : decode cX6_push 14 = .ok (.iload 6, 2) := by decide +kernel
theorem d_X6_push_16 : decode cX6_push 16 = .ok (.iconst 5, 1) := by decide +kernel
theorem d_X6_push_17 : decode cX6_push 17 = .ok (.iadd, 1) := by decide +kernel
theorem d_X6_push_18 : decode cX6_push 18 = .ok (.aload_n 0, 1) := by decide +kernel
theorem d_X6_push_19 : decode cX6_push 19 = .ok (.getfield 18, 3) := by decide +kernel
theorem d_X6_push_22 : decode cX6_push 22 = .ok (.arraylength, 1) := by decide +kernel
theorem d_X6_push_23 : decode cX6_push 23 = .ok (.if_icmp .gt 66, 3) := by decide +kernel
theorem d_X6_push_26 : decode cX6_push 26 = .ok (.aload_n 0, 1) := by decide +kernel
theorem d_X6_push_27 : decode cX6_push 27 = .ok (.getfield 18, 3) := by decide +kernel
theorem d_X6_push_30 : decode cX6_push 30 = .ok (.iload 6, 2) := by decide +kernel
theorem d_X6_push_32 : decode cX6_push 32 = .ok (.iload_n 1, 1) := by decide +kernel
theorem d_X6_push_33 : decode cX6_push 33 = .ok (.bipush 8, 2) := by decide +kernel
theorem d_X6_push_35 : decode cX6_push 35 = .ok (.isub, 1) := by decide +kernel
theorem d_X6_push_36 : decode cX6_push 36 = .ok (.iastore, 1) := by decide +kernel
theorem d_X6_push_37 : decode cX6_push 37 = .ok (.aload_n 0, 1) := by decide +kernel
theorem d_X6_push_38 : decode cX6_push 38 = .ok (.getfield 18, 3) := by decide +kernel
theorem d_X6_push_41 : decode cX6_push 41 = .ok (.iload 6, 2) := by decide +kernel
theorem d_X6_push_43 : decode cX6_push 43 = .ok (.iconst 1, 1) := by decide +kernel
theorem d_X6_push_44 : decode cX6_push 44 = .ok (.iadd, 1) := by decide +kernel
theorem d_X6_push_45 : decode cX6_push 45 = .ok (.iload_n 2, 1) := by decide +kernel
theorem d_X6_push_46 : decode cX6_push 46 = .ok (.iastore, 1) := by decide +kernel
theorem d_X6_push_47 : decode cX6_push 47 = .ok (.aload_n 0, 1) := by decide +kernel
theorem d_X6_push_48 : decode cX6_push 48 = .ok (.getfield 18, 3) := by decide +kernel
theorem d_X6_push_51 : decode cX6_push 51 = .ok (.iload 6, 2) := by decide +kernel
theorem d_X6_push_53 : decode cX6_push 53 = .ok (.iconst 2, 1) := by decide +kernel
theorem d_X6_push_54 : decode cX6_push 54 = .ok (.iadd, 1) := by decide +kernel
theorem d_X6_push_55 : decode cX6_push 55 = .ok (.iload_n 3, 1) := by decide +kernel
theorem d_X6_push_56 : decode cX6_push 56 = .ok (.iastore, 1) := by decide +kernel
theorem d_X6_push_57 : decode cX6_push 57 = .ok (.aload_n 0, 1) := by decide +kernel
theorem d_X6_push_58 : decode cX6_push 58 = .ok (.getfield 18, 3) := by decide +kernel
theorem d_X6_push_61 : decode cX6_push 61 = .ok (.iload 6, 2) := by decide +kernel
theorem d_X6_push_63 : decode cX6_push 63 = .ok (.iconst 3, 1) := by decide +kernel
theorem d_X6_push_64 : decode cX6_push 64 = .ok (.iadd, 1) := by decide +kernel
theorem d_X6_push_65 : decode cX6_push 65 = .ok (.iload 4, 2) := by decide +kernel
theorem d_X6_push_67 : decode cX6_push 67 = .ok (.iastore, 1) := by decide +kernel
theorem d_X6_push_68 : decode cX6_push 68 = .ok (.aload_n 0, 1) := by decide +kernel
theorem d_X6_push_69 : decode cX6_push 69 = .ok (.getfield 18, 3) := by decide +kernel
theorem d_X6_push_72 : decode cX6_push 72 = .ok (.iload 6, 2) := by decide +kernel
theorem d_X6_push_74 : decode cX6_push 74 = .ok (.iconst 4, 1) := by decide +kernel
theorem d_X6_push_75 : decode cX6_push 75 = .ok (.iadd, 1) := by decide +kernel
theorem d_X6_push_76 : decode cX6_push 76 = .ok (.iload 5, 2) := by decide +kernel
theorem d_X6_push_78 : decode cX6_push 78 = .ok (.iastore, 1) := by decide +kernel
theorem d_X6_push_79 : decode cX6_push 79 = .ok (.aload_n 0, 1) := by decide +kernel
theorem d_X6_push_80 : decode cX6_push 80 = .ok (.dup, 1) := by decide +kernel
theorem d_X6_push_81 : decode cX6_push 81 = .ok (.getfield 29, 3) := by decide +kernel
theorem d_X6_push_84 : decode cX6_push 84 = .ok (.iconst 1, 1) := by decide +kernel
theorem d_X6_push_85 : decode cX6_push 85 = .ok (.iadd, 1) := by decide +kernel
theorem d_X6_push_86 : decode cX6_push 86 = .ok (.putfield 29, 3) := by decide +kernel
theorem d_X6_push_89 : decode cX6_push 89 = .ok (.return_, 1) := by decide +kernel
def k_X6_push_89 (P : xP) : xK := x_vret P
set_option maxRecDepth 20000 in
theorem t_X6_push_89 {p : Program} {l : Launch} {e : Env} {s : State} {m : MethodId} {args : Array Value} {below : List Frame} {meth : Method} {c : Code} {g : xG} (X : xX p s m args c meth cX6_push RX6 7 g) (hr : meth.sig.returnType = none) {P : xP} : xAt p l e { frames := 0, cells := 0, slots := 0, locals := 0 } s m args below meth c g 7 xFT xN 0 0 (MQ below (xQc g xFT xN P) args s 0 0 (xFr g)) (k_X6_push_89 P) 89 := by
  unfold k_X6_push_89
  exact r_vret (pc := 89) X hr d_X6_push_89
def k_X6_push_0 (P : xP) : xK := x_aload 0 (y_getI 66 6 (x_push (.int 5) (x_imul (x_istore 6 (x_iload 1 (x_push (.int 8) (x_icmp_lt ((k_X6_push_89 P)) (x_iload 6 (x_push (.int 5) (x_iadd (x_aload 0 (y_getF 66 69 (y_alen 69 3020 (x_icmp_gt ((k_X6_push_89 P)) (x_aload 0 (y_getF 66 69 (x_iload 6 (x_iload 1 (x_push (.int 8) (x_isub (y_iast 69 3020 (x_aload 0 (y_getF 66 69 (x_iload 6 (x_push (.int 1) (x_iadd (x_iload 2 (y_iast 69 3020 (x_aload 0 (y_getF 66 69 (x_iload 6 (x_push (.int 2) (x_iadd (x_iload 3 (y_iast 69 3020 (x_aload 0 (y_getF 66 69 (x_iload 6 (x_push (.int 3) (x_iadd (x_iload 4 (y_iast 69 3020 (x_aload 0 (y_getF 66 69 (x_iload 6 (x_push (.int 4) (x_iadd (x_iload 5 (y_iast 69 3020 (x_aload 0 (x_dup (y_getI 66 6 (x_push (.int 1) (x_iadd (y_putI 66 6 ((k_X6_push_89 P)))))))))))))))))))))))))))))))))))))))))))))))))))))))))
set_option maxRecDepth 20000 in
theorem t_X6_push_0 {p : Program} {l : Launch} {e : Env} {s : State} {m : MethodId} {args : Array Value} {below : List Frame} {meth : Method} {c : Code} {g : xG} (X : xX p s m args c meth cX6_push RX6 7 g) (hr : meth.sig.returnType = none) {P : xP} : xAt p l e { frames := 0, cells := 0, slots := 0, locals := 0 } s m args below meth c g 7 xFT xN 0 0 (MQ below (xQc g xFT xN P) args s 0 0 (xFr g)) (k_X6_push_0 P) 0 := by
  unfold k_X6_push_0
  refine r_aload_n (pc := 0) X d_X6_push_0 fn0 ?_
  refine s_getI (pc := 1) (ci := 6) X xok6 (by decide +kernel) ob_66 (by decide +kernel) fl_RX6_29 d_X6_push_1 ?_
  refine r_iconst (pc := 4) X d_X6_push_4 (by decide +kernel) ?_
  refine r_imul (pc := 5) X d_X6_push_5 ?_
  refine r_istore (pc := 6) X d_X6_push_6 (by decide +kernel) ?_
  refine r_iload_n (pc := 8) X d_X6_push_8 fn1 ?_
  refine r_bipush (pc := 9) X d_X6_push_9 (by decide +kernel) ?_
  refine r_icmp_lt (pc := 11) (tgt := 89) X d_X6_push_11 (by decide +kernel) ?_ ?_
  · exact t_X6_push_89 X hr
  · refine r_iload (pc := 14) X d_X6_push_14 ?_
    refine r_iconst (pc := 16) X d_X6_push_16 (by decide +kernel) ?_
    refine r_iadd (pc := 17) X d_X6_push_17 ?_
    refine r_aload_n (pc := 18) X d_X6_push_18 fn0 ?_
    refine s_getF (pc := 19) (ci := 6) (k := 5) X xok6 (by decide +kernel) ob_66 trivial ly_66_5 (by decide +kernel) fl_RX6_18 d_X6_push_19 ?_
    refine s_alen (pc := 22) (q := 69) X (by rw [tn_69]; decide +kernel) ln_69 d_X6_push_22 ?_
    refine r_icmp_gt (pc := 23) (tgt := 89) X d_X6_push_23 (by decide +kernel) ?_ ?_
    · exact t_X6_push_89 X hr
    · refine r_aload_n (pc := 26) X d_X6_push_26 fn0 ?_
      refine s_getF (pc := 27) (ci := 6) (k := 5) X xok6 (by decide +kernel) ob_66 trivial ly_66_5 (by decide +kernel) fl_RX6_18 d_X6_push_27 ?_
      refine r_iload (pc := 30) X d_X6_push_30 ?_
      refine r_iload_n (pc := 32) X d_X6_push_32 fn1 ?_
      refine r_bipush (pc := 33) X d_X6_push_33 (by decide +kernel) ?_
      refine r_isub (pc := 35) X d_X6_push_35 ?_
      refine s_iast (pc := 36) X tn_69 ln_69 d_X6_push_36 ?_
      refine r_aload_n (pc := 37) X d_X6_push_37 fn0 ?_
      refine s_getF (pc := 38) (ci := 6) (k := 5) X xok6 (by decide +kernel) ob_66 trivial ly_66_5 (by decide +kernel) fl_RX6_18 d_X6_push_38 ?_
      refine r_iload (pc := 41) X d_X6_push_41 ?_
      refine r_iconst (pc := 43) X d_X6_push_43 (by decide +kernel) ?_
      refine r_iadd (pc := 44) X d_X6_push_44 ?_
      refine r_iload_n (pc := 45) X d_X6_push_45 fn2 ?_
      refine s_iast (pc := 46) X tn_69 ln_69 d_X6_push_46 ?_
      refine r_aload_n (pc := 47) X d_X6_push_47 fn0 ?_
      refine s_getF (pc := 48) (ci := 6) (k := 5) X xok6 (by decide +kernel) ob_66 trivial ly_66_5 (by decide +kernel) fl_RX6_18 d_X6_push_48 ?_
      refine r_iload (pc := 51) X d_X6_push_51 ?_
      refine r_iconst (pc := 53) X d_X6_push_53 (by decide +kernel) ?_
      refine r_iadd (pc := 54) X d_X6_push_54 ?_
      refine r_iload_n (pc := 55) X d_X6_push_55 fn3 ?_
      refine s_iast (pc := 56) X tn_69 ln_69 d_X6_push_56 ?_
      refine r_aload_n (pc := 57) X d_X6_push_57 fn0 ?_
      refine s_getF (pc := 58) (ci := 6) (k := 5) X xok6 (by decide +kernel) ob_66 trivial ly_66_5 (by decide +kernel) fl_RX6_18 d_X6_push_58 ?_
      refine r_iload (pc := 61) X d_X6_push_61 ?_
      refine r_iconst (pc := 63) X d_X6_push_63 (by decide +kernel) ?_
      refine r_iadd (pc := 64) X d_X6_push_64 ?_
      refine r_iload (pc := 65) X d_X6_push_65 ?_
      refine s_iast (pc := 67) X tn_69 ln_69 d_X6_push_67 ?_
      refine r_aload_n (pc := 68) X d_X6_push_68 fn0 ?_
      refine s_getF (pc := 69) (ci := 6) (k := 5) X xok6 (by decide +kernel) ob_66 trivial ly_66_5 (by decide +kernel) fl_RX6_18 d_X6_push_69 ?_
      refine r_iload (pc := 72) X d_X6_push_72 ?_
      refine r_iconst (pc := 74) X d_X6_push_74 (by decide +kernel) ?_
      refine r_iadd (pc := 75) X d_X6_push_75 ?_
      refine r_iload (pc := 76) X d_X6_push_76 ?_
      refine s_iast (pc := 78) X tn_69 ln_69 d_X6_push_78 ?_
      refine r_aload_n (pc := 79) X d_X6_push_79 fn0 ?_
      refine r_dup (pc := 80) X d_X6_push_80 ?_
      refine s_getI (pc := 81) (ci := 6) X xok6 (by decide +kernel) ob_66 (by decide +kernel) fl_RX6_29 d_X6_push_81 ?_
      refine r_iconst (pc := 84) X d_X6_push_84 (by decide +kernel) ?_
      refine r_iadd (pc := 85) X d_X6_push_85 ?_
      refine s_putI (pc := 86) (ci := 6) X xok6 (by decide +kernel) ob_66 (by decide +kernel) (by decide +kernel) (by decide +kernel) fl_RX6_29 d_X6_push_86 ?_
      exact t_X6_push_89 X hr
def f_X6_push (a0 : Nat) (a1 : Int32) (a2 : Int32) (a3 : Int32) (a4 : Int32) (a5 : Int32) (A : xH) (P : xP) : Prop := k_X6_push_0 P [some (.ref a0), some (.int a1), some (.int a2), some (.int a3), some (.int a4), some (.int a5), none] [] A
set_option maxRecDepth 20000 in
theorem con_X6_push (l : Launch) : xCon l yX6_push cX6_push 7 none 0 0 xN xN 0 xFT xFT (w_RIIIII f_X6_push) :=
  xc_RIIIII (plainFor_of_name pn_RX6) (by decide +kernel) (fun p e s m args below meth c g a0 a1 a2 a3 a4 a5 A P h X hr _ => ⟨_, h, t_X6_push_0 X hr⟩)
theorem d_X6_pop_0 : decode cX6_pop 0 = .ok (.aload_n 0, 1) := by decide +kernel
theorem d_X6_pop_1 : decode cX6_pop 1 = .ok (.dup, 1) := by decide +kernel
theorem d_X6_pop_2 : decode cX6_pop 2 = .ok (.getfield 29, 3) := by decide +kernel
theorem d_X6_pop_5 : decode cX6_pop 5 = .ok (.iconst 1, 1) := by decide +kernel
theorem d_X6_pop_6 : decode cX6_pop 6 = .ok (.isub, 1) := by decide +kernel
theorem d_X6_pop_7 : decode cX6_pop 7 = .ok (.putfield 29, 3) := by decide +kernel
theorem d_X6_pop_10 : decode cX6_pop 10 = .ok (.aload_n 0, 1) := by decide +kernel
theorem d_X6_pop_11 : decode cX6_pop 11 = .ok (.getfield 29, 3) := by decide +kernel
theorem d_X6_pop_14 : decode cX6_pop 14 = .ok (.iconst 5, 1) := by decide +kernel
theorem d_X6_pop_15 : decode cX6_pop 15 = .ok (.imul, 1) := by decide +kernel
theorem d_X6_pop_16 : decode cX6_pop 16 = .ok (.istore_n 1, 1) := by decide +kernel
theorem d_X6_pop_17 : decode cX6_pop 17 = .ok (.aload_n 0, 1) := by decide +kernel
theorem d_X6_pop_18 : decode cX6_pop 18 = .ok (.aload_n 0, 1) := by decide +kernel
theorem d_X6_pop_19 : decode cX6_pop 19 = .ok (.getfield 18, 3) := by decide +kernel
theorem d_X6_pop_22 : decode cX6_pop 22 = .ok (.iload_n 1, 1) := by decide +kernel
theorem d_X6_pop_23 : decode cX6_pop 23 = .ok (.iaload, 1) := by decide +kernel
theorem d_X6_pop_24 : decode cX6_pop 24 = .ok (.putfield 51, 3) := by decide +kernel
theorem d_X6_pop_27 : decode cX6_pop 27 = .ok (.aload_n 0, 1) := by decide +kernel
theorem d_X6_pop_28 : decode cX6_pop 28 = .ok (.aload_n 0, 1) := by decide +kernel
theorem d_X6_pop_29 : decode cX6_pop 29 = .ok (.getfield 18, 3) := by decide +kernel
theorem d_X6_pop_32 : decode cX6_pop 32 = .ok (.iload_n 1, 1) := by decide +kernel
theorem d_X6_pop_33 : decode cX6_pop 33 = .ok (.iconst 1, 1) := by decide +kernel
theorem d_X6_pop_34 : decode cX6_pop 34 = .ok (.iadd, 1) := by decide +kernel
theorem d_X6_pop_35 : decode cX6_pop 35 = .ok (.iaload, 1) := by decide +kernel
theorem d_X6_pop_36 : decode cX6_pop 36 = .ok (.putfield 54, 3) := by decide +kernel
theorem d_X6_pop_39 : decode cX6_pop 39 = .ok (.aload_n 0, 1) := by decide +kernel
theorem d_X6_pop_40 : decode cX6_pop 40 = .ok (.aload_n 0, 1) := by decide +kernel
theorem d_X6_pop_41 : decode cX6_pop 41 = .ok (.getfield 18, 3) := by decide +kernel
theorem d_X6_pop_44 : decode cX6_pop 44 = .ok (.iload_n 1, 1) := by decide +kernel
theorem d_X6_pop_45 : decode cX6_pop 45 = .ok (.iconst 2, 1) := by decide +kernel
theorem d_X6_pop_46 : decode cX6_pop 46 = .ok (.iadd, 1) := by decide +kernel
theorem d_X6_pop_47 : decode cX6_pop 47 = .ok (.iaload, 1) := by decide +kernel
theorem d_X6_pop_48 : decode cX6_pop 48 = .ok (.putfield 57, 3) := by decide +kernel
theorem d_X6_pop_51 : decode cX6_pop 51 = .ok (.aload_n 0, 1) := by decide +kernel
theorem d_X6_pop_52 : decode cX6_pop 52 = .ok (.aload_n 0, 1) := by decide +kernel
theorem d_X6_pop_53 : decode cX6_pop 53 = .ok (.getfield 18, 3) := by decide +kernel
theorem d_X6_pop_56 : decode cX6_pop 56 = .ok (.iload_n 1, 1) := by decide +kernel
theorem d_X6_pop_57 : decode cX6_pop 57 = .ok (.iconst 3, 1) := by decide +kernel
theorem d_X6_pop_58 : decode cX6_pop 58 = .ok (.iadd, 1) := by decide +kernel
theorem d_X6_pop_59 : decode cX6_pop 59 = .ok (.iaload, 1) := by decide +kernel
theorem d_X6_pop_60 : decode cX6_pop 60 = .ok (.getstatic 60, 3) := by decide +kernel
theorem d_X6_pop_63 : decode cX6_pop 63 = .ok (.aload_n 0, 1) := by decide +kernel
theorem d_X6_pop_64 : decode cX6_pop 64 = .ok (.getfield 51, 3) := by decide +kernel
theorem d_X6_pop_67 : decode cX6_pop 67 = .ok (.iaload, 1) := by decide +kernel
theorem d_X6_pop_68 : decode cX6_pop 68 = .ok (.iadd, 1) := by decide +kernel
theorem d_X6_pop_69 : decode cX6_pop 69 = .ok (.putfield 63, 3) := by decide +kernel
theorem d_X6_pop_72 : decode cX6_pop 72 = .ok (.aload_n 0, 1) := by decide +kernel
theorem d_X6_pop_73 : decode cX6_pop 73 = .ok (.aload_n 0, 1) := by decide +kernel
theorem d_X6_pop_74 : decode cX6_pop 74 = .ok (.getfield 18, 3) := by decide +kernel
theorem d_X6_pop_77 : decode cX6_pop 77 = .ok (.iload_n 1, 1) := by decide +kernel
theorem d_X6_pop_78 : decode cX6_pop 78 = .ok (.iconst 4, 1) := by decide +kernel
theorem d_X6_pop_79 : decode cX6_pop 79 = .ok (.iadd, 1) := by decide +kernel
theorem d_X6_pop_80 : decode cX6_pop 80 = .ok (.iaload, 1) := by decide +kernel
theorem d_X6_pop_81 : decode cX6_pop 81 = .ok (.putfield 66, 3) := by decide +kernel
theorem d_X6_pop_84 : decode cX6_pop 84 = .ok (.return_, 1) := by decide +kernel
def k_X6_pop_0 (P : xP) : xK := x_aload 0 (x_dup (y_getI 66 6 (x_push (.int 1) (x_isub (y_putI 66 6 (x_aload 0 (y_getI 66 6 (x_push (.int 5) (x_imul (x_istore 1 (x_aload 0 (x_aload 0 (y_getF 66 69 (x_iload 1 (y_iald 69 3020 (y_putI 66 7 (x_aload 0 (x_aload 0 (y_getF 66 69 (x_iload 1 (x_push (.int 1) (x_iadd (y_iald 69 3020 (y_putI 66 8 (x_aload 0 (x_aload 0 (y_getF 66 69 (x_iload 1 (x_push (.int 2) (x_iadd (y_iald 69 3020 (y_putI 66 9 (x_aload 0 (x_aload 0 (y_getF 66 69 (x_iload 1 (x_push (.int 3) (x_iadd (y_iald 69 3020 (x_gets 1001 (x_aload 0 (y_getI 66 7 (x_ialdS (x_iadd (y_putI 66 10 (x_aload 0 (x_aload 0 (y_getF 66 69 (x_iload 1 (x_push (.int 4) (x_iadd (y_iald 69 3020 (y_putI 66 11 (x_vret P))))))))))))))))))))))))))))))))))))))))))))))))))))))
set_option maxRecDepth 20000 in
theorem t_X6_pop_0 {p : Program} {l : Launch} {e : Env} {s : State} {m : MethodId} {args : Array Value} {below : List Frame} {meth : Method} {c : Code} {g : xG} (X : xX p s m args c meth cX6_pop RX6 2 g) (hr : meth.sig.returnType = none) {P : xP} : xAt p l e { frames := 0, cells := 0, slots := 0, locals := 0 } s m args below meth c g 2 xFT xN 0 0 (MQ below (xQc g xFT xN P) args s 0 0 (xFr g)) (k_X6_pop_0 P) 0 := by
  unfold k_X6_pop_0
  refine r_aload_n (pc := 0) X d_X6_pop_0 fn0 ?_
  refine r_dup (pc := 1) X d_X6_pop_1 ?_
  refine s_getI (pc := 2) (ci := 6) X xok6 (by decide +kernel) ob_66 (by decide +kernel) fl_RX6_29 d_X6_pop_2 ?_
  refine r_iconst (pc := 5) X d_X6_pop_5 (by decide +kernel) ?_
  refine r_isub (pc := 6) X d_X6_pop_6 ?_
  refine s_putI (pc := 7) (ci := 6) X xok6 (by decide +kernel) ob_66 (by decide +kernel) (by decide +kernel) (by decide +kernel) fl_RX6_29 d_X6_pop_7 ?_
  refine r_aload_n (pc := 10) X d_X6_pop_10 fn0 ?_
  refine s_getI (pc := 11) (ci := 6) X xok6 (by decide +kernel) ob_66 (by decide +kernel) fl_RX6_29 d_X6_pop_11 ?_
  refine r_iconst (pc := 14) X d_X6_pop_14 (by decide +kernel) ?_
  refine r_imul (pc := 15) X d_X6_pop_15 ?_
  refine r_istore_n (pc := 16) X d_X6_pop_16 fn1 (by decide +kernel) ?_
  refine r_aload_n (pc := 17) X d_X6_pop_17 fn0 ?_
  refine r_aload_n (pc := 18) X d_X6_pop_18 fn0 ?_
  refine s_getF (pc := 19) (ci := 6) (k := 5) X xok6 (by decide +kernel) ob_66 trivial ly_66_5 (by decide +kernel) fl_RX6_18 d_X6_pop_19 ?_
  refine r_iload_n (pc := 22) X d_X6_pop_22 fn1 ?_
  refine s_iald (pc := 23) X tn_69 ln_69 d_X6_pop_23 ?_
  refine s_putI (pc := 24) (ci := 6) X xok6 (by decide +kernel) ob_66 (by decide +kernel) (by decide +kernel) (by decide +kernel) fl_RX6_51 d_X6_pop_24 ?_
  refine r_aload_n (pc := 27) X d_X6_pop_27 fn0 ?_
  refine r_aload_n (pc := 28) X d_X6_pop_28 fn0 ?_
  refine s_getF (pc := 29) (ci := 6) (k := 5) X xok6 (by decide +kernel) ob_66 trivial ly_66_5 (by decide +kernel) fl_RX6_18 d_X6_pop_29 ?_
  refine r_iload_n (pc := 32) X d_X6_pop_32 fn1 ?_
  refine r_iconst (pc := 33) X d_X6_pop_33 (by decide +kernel) ?_
  refine r_iadd (pc := 34) X d_X6_pop_34 ?_
  refine s_iald (pc := 35) X tn_69 ln_69 d_X6_pop_35 ?_
  refine s_putI (pc := 36) (ci := 6) X xok6 (by decide +kernel) ob_66 (by decide +kernel) (by decide +kernel) (by decide +kernel) fl_RX6_54 d_X6_pop_36 ?_
  refine r_aload_n (pc := 39) X d_X6_pop_39 fn0 ?_
  refine r_aload_n (pc := 40) X d_X6_pop_40 fn0 ?_
  refine s_getF (pc := 41) (ci := 6) (k := 5) X xok6 (by decide +kernel) ob_66 trivial ly_66_5 (by decide +kernel) fl_RX6_18 d_X6_pop_41 ?_
  refine r_iload_n (pc := 44) X d_X6_pop_44 fn1 ?_
  refine r_iconst (pc := 45) X d_X6_pop_45 (by decide +kernel) ?_
  refine r_iadd (pc := 46) X d_X6_pop_46 ?_
  refine s_iald (pc := 47) X tn_69 ln_69 d_X6_pop_47 ?_
  refine s_putI (pc := 48) (ci := 6) X xok6 (by decide +kernel) ob_66 (by decide +kernel) (by decide +kernel) (by decide +kernel) fl_RX6_57 d_X6_pop_48 ?_
  refine r_aload_n (pc := 51) X d_X6_pop_51 fn0 ?_
  refine r_aload_n (pc := 52) X d_X6_pop_52 fn0 ?_
  refine s_getF (pc := 53) (ci := 6) (k := 5) X xok6 (by decide +kernel) ob_66 trivial ly_66_5 (by decide +kernel) fl_RX6_18 d_X6_pop_53 ?_
  refine r_iload_n (pc := 56) X d_X6_pop_56 fn1 ?_
  refine r_iconst (pc := 57) X d_X6_pop_57 (by decide +kernel) ?_
  refine r_iadd (pc := 58) X d_X6_pop_58 ?_
  refine s_iald (pc := 59) X tn_69 ln_69 d_X6_pop_59 ?_
  refine r_getsP (pc := 60) (host := "TwinTrees") X (by decide +kernel) d_X6_pop_60 ?_
  refine r_aload_n (pc := 63) X d_X6_pop_63 fn0 ?_
  refine s_getI (pc := 64) (ci := 6) X xok6 (by decide +kernel) ob_66 (by decide +kernel) fl_RX6_51 d_X6_pop_64 ?_
  refine r_ialdS (pc := 67) X d_X6_pop_67 ?_
  refine r_iadd (pc := 68) X d_X6_pop_68 ?_
  refine s_putI (pc := 69) (ci := 6) X xok6 (by decide +kernel) ob_66 (by decide +kernel) (by decide +kernel) (by decide +kernel) fl_RX6_63 d_X6_pop_69 ?_
  refine r_aload_n (pc := 72) X d_X6_pop_72 fn0 ?_
  refine r_aload_n (pc := 73) X d_X6_pop_73 fn0 ?_
  refine s_getF (pc := 74) (ci := 6) (k := 5) X xok6 (by decide +kernel) ob_66 trivial ly_66_5 (by decide +kernel) fl_RX6_18 d_X6_pop_74 ?_
  refine r_iload_n (pc := 77) X d_X6_pop_77 fn1 ?_
  refine r_iconst (pc := 78) X d_X6_pop_78 (by decide +kernel) ?_
  refine r_iadd (pc := 79) X d_X6_pop_79 ?_
  refine s_iald (pc := 80) X tn_69 ln_69 d_X6_pop_80 ?_
  refine s_putI (pc := 81) (ci := 6) X xok6 (by decide +kernel) ob_66 (by decide +kernel) (by decide +kernel) (by decide +kernel) fl_RX6_66 d_X6_pop_81 ?_
  exact r_vret (pc := 84) X hr d_X6_pop_84
def f_X6_pop (a0 : Nat) (A : xH) (P : xP) : Prop := k_X6_pop_0 P [some (.ref a0), none] [] A
set_option maxRecDepth 20000 in
theorem con_X6_pop (l : Launch) : xCon l yX6_pop cX6_pop 2 none 0 0 xN xN 0 xFT xFT (w_R f_X6_pop) :=
  xc_R (plainFor_of_name pn_RX6) (by decide +kernel) (fun p e s m args below meth c g a0 A P h X hr _ => ⟨_, h, t_X6_pop_0 X hr⟩)
theorem d_X6_overFor_0 : decode cX6_overFor 0 = .ok (.iload_n 1, 1) := by decide +kernel
theorem d_X6_overFor_1 : decode cX6_overFor 1 = .ok (.aload_n 0, 1) := by decide +kernel
theorem d_X6_overFor_2 : decode cX6_overFor 2 = .ok (.getfield 54, 3) := by decide +kernel
theorem d_X6_overFor_5 : decode cX6_overFor 5 = .ok (.if_icmp .ne 18, 3) := by decide +kernel
theorem d_X6_overFor_8 : decode cX6_overFor 8 = .ok (.iload_n 2, 1) := by decide +kernel
theorem d_X6_overFor_9 : decode cX6_overFor 9 = .ok (.aload_n 0, 1) := by decide +kernel
theorem d_X6_overFor_10 : decode cX6_overFor 10 = .ok (.getfield 57, 3) := by decide +kernel
theorem d_X6_overFor_13 : decode cX6_overFor 13 = .ok (.if_icmp .ne 10, 3) := by decide +kernel
theorem d_X6_overFor_16 : decode cX6_overFor 16 = .ok (.aload_n 0, 1) := by decide +kernel
theorem d_X6_overFor_17 : decode cX6_overFor 17 = .ok (.getfield 63, 3) := by decide +kernel
theorem d_X6_overFor_20 : decode cX6_overFor 20 = .ok (.goto 4, 3) := by decide +kernel
theorem d_X6_overFor_23 : decode cX6_overFor 23 = .ok (.iconst 0, 1) := by decide +kernel
theorem d_X6_overFor_24 : decode cX6_overFor 24 = .ok (.ireturn, 1) := by decide +kernel
def k_X6_overFor_24 (P : xP) : xK := x_iret P
set_option maxRecDepth 20000 in
theorem t_X6_overFor_24 {p : Program} {l : Launch} {e : Env} {s : State} {m : MethodId} {args : Array Value} {below : List Frame} {meth : Method} {c : Code} {g : xG} (X : xX p s m args c meth cX6_overFor RX6 3 g) (hr : meth.sig.returnType = (some .int)) {P : xP} : xAt p l e { frames := 0, cells := 0, slots := 0, locals := 0 } s m args below meth c g 3 xFT xN 0 0 (MQ below (xQc g xFT xN P) args s 0 0 (xFr g)) (k_X6_overFor_24 P) 24 := by
  unfold k_X6_overFor_24
  exact r_iret (pc := 24) X hr d_X6_overFor_24
def k_X6_overFor_23 (P : xP) : xK := x_push (.int 0) ((k_X6_overFor_24 P))
set_option maxRecDepth 20000 in
theorem t_X6_overFor_23 {p : Program} {l : Launch} {e : Env} {s : State} {m : MethodId} {args : Array Value} {below : List Frame} {meth : Method} {c : Code} {g : xG} (X : xX p s m args c meth cX6_overFor RX6 3 g) (hr : meth.sig.returnType = (some .int)) {P : xP} : xAt p l e { frames := 0, cells := 0, slots := 0, locals := 0 } s m args below meth c g 3 xFT xN 0 0 (MQ below (xQc g xFT xN P) args s 0 0 (xFr g)) (k_X6_overFor_23 P) 23 := by
  unfold k_X6_overFor_23
  refine r_iconst (pc := 23) X d_X6_overFor_23 (by decide +kernel) ?_
  exact t_X6_overFor_24 X hr
def k_X6_overFor_0 (P : xP) : xK := x_iload 1 (x_aload 0 (y_getI 66 8 (x_icmp_ne ((k_X6_overFor_23 P)) (x_iload 2 (x_aload 0 (y_getI 66 9 (x_icmp_ne ((k_X6_overFor_23 P)) (x_aload 0 (y_getI 66 10 ((k_X6_overFor_24 P)))))))))))
set_option maxRecDepth 20000 in
theorem t_X6_overFor_0 {p : Program} {l : Launch} {e : Env} {s : State} {m : MethodId} {args : Array Value} {below : List Frame} {meth : Method} {c : Code} {g : xG} (X : xX p s m args c meth cX6_overFor RX6 3 g) (hr : meth.sig.returnType = (some .int)) {P : xP} : xAt p l e { frames := 0, cells := 0, slots := 0, locals := 0 } s m args below meth c g 3 xFT xN 0 0 (MQ below (xQc g xFT xN P) args s 0 0 (xFr g)) (k_X6_overFor_0 P) 0 := by
  unfold k_X6_overFor_0
  refine r_iload_n (pc := 0) X d_X6_overFor_0 fn1 ?_
  refine r_aload_n (pc := 1) X d_X6_overFor_1 fn0 ?_
  refine s_getI (pc := 2) (ci := 6) X xok6 (by decide +kernel) ob_66 (by decide +kernel) fl_RX6_54 d_X6_overFor_2 ?_
  refine r_icmp_ne (pc := 5) (tgt := 23) X d_X6_overFor_5 (by decide +kernel) ?_ ?_
  · exact t_X6_overFor_23 X hr
  · refine r_iload_n (pc := 8) X d_X6_overFor_8 fn2 ?_
    refine r_aload_n (pc := 9) X d_X6_overFor_9 fn0 ?_
    refine s_getI (pc := 10) (ci := 6) X xok6 (by decide +kernel) ob_66 (by decide +kernel) fl_RX6_57 d_X6_overFor_10 ?_
    refine r_icmp_ne (pc := 13) (tgt := 23) X d_X6_overFor_13 (by decide +kernel) ?_ ?_
    · exact t_X6_overFor_23 X hr
    · refine r_aload_n (pc := 16) X d_X6_overFor_16 fn0 ?_
      refine s_getI (pc := 17) (ci := 6) X xok6 (by decide +kernel) ob_66 (by decide +kernel) fl_RX6_63 d_X6_overFor_17 ?_
      refine r_goto (pc := 20) (tgt := 24) X d_X6_overFor_20 (by decide +kernel) ?_
      exact t_X6_overFor_24 X hr
def f_X6_overFor (a0 : Nat) (a1 : Int32) (a2 : Int32) (A : xH) (P : xP) : Prop := k_X6_overFor_0 P [some (.ref a0), some (.int a1), some (.int a2)] [] A
set_option maxRecDepth 20000 in
theorem con_X6_overFor (l : Launch) : xCon l yX6_overFor cX6_overFor 3 (some .int) 0 0 xN xN 0 xFT xFT (w_RII f_X6_overFor) :=
  xc_RII (plainFor_of_name pn_RX6) (by decide +kernel) (fun p e s m args below meth c g a0 a1 a2 A P h X hr _ => ⟨_, h, t_X6_overFor_0 X hr⟩)
def SPh (len c k : Nat) : Prop := (c = 69 ∧ 5 * len ≤ k ∧ k < 5 * len + 5) ∨ (c = 66 ∧ k = 6)
theorem push_no {A : xH} {P : xP} {code x y z w : Int32} {len : Nat} (h6 : xi A 66 6 = nI len) (hl : len ≤ 604) (hc : code < nI 8) (hP : P none A) : f_X6_push 66 code x y z w A P := by
  unfold f_X6_push
  simp (disch := omega) only [k_X6_push_0, x_aload, x_dup, x_iadd, x_icmp_gt, x_icmp_lt, x_iload, x_imul, x_istore, x_isub, x_push, x_vret, y_alen, y_getF, y_getI, y_iast, y_putI, xFT, xbool0, xbool1, Nat.reduceAdd, Nat.zero_add, xgl_0, xgl_s, xgl_n, xst_0, xst_1n, xst_1i, xst_1r, xst_1l, xst_s, set_0, set_s, true_and, and_true, xres, xcat_nil, xcat_i, xcat_r, xcat_l, Nat.add_zero, xble0, xble1, xble2, xble3, xble4, xble5, xble6, xble7, xble8, pk_mul, nI_add, nI_1, nI_leI, nI_ltI, nI_eq, n_in, n_cl, z_eq, z_lt, z_le, z_gt, z_ge, z_qe, o_eq, o_lt, o_le, o_gt, o_ge, vp0, vp1, cl0, cl1, n_sub, n_sub1, n_pm1, n_a0, n_0a, ofn, lN0, Nat.reduceLT, Nat.reduceLeDiff, Nat.reduceMul, Nat.reduceSub, Nat.reduceEqDiff, ne_eq, true_implies, false_implies, not_true_eq_false, not_false_eq_true, and_self, and_true, true_and, and_false, false_and, implies_true, if_true, if_false, i00, i10, i01, i11, ob_0, ob_1, tn_2, ln_2, ob_3, tn_4, ln_4, ob_5, tn_6, ln_6, tn_7, ln_7, ob_8, tn_9, ln_9, tn_10, ln_10, tn_11, ln_11, tn_12, ln_12, tn_13, ln_13, tn_14, ln_14, tn_15, ln_15, tn_16, ln_16, tn_17, ln_17, ob_18, tn_19, ln_19, tn_20, ln_20, tn_21, ln_21, tn_22, ln_22, tn_23, ln_23, tn_24, ln_24, tn_25, ln_25, tn_26, ln_26, tn_27, ln_27, ob_28, tn_29, ln_29, tn_30, ln_30, ob_31, tn_32, ln_32, tn_33, ln_33, ob_34, ob_35, tn_36, ln_36, tn_37, ln_37, tn_38, ln_38, ob_39, tn_40, ln_40, tn_41, ln_41, tn_42, ln_42, tn_43, ln_43, tn_44, ln_44, tn_45, ln_45, tn_46, ln_46, tn_47, ln_47, tn_48, ln_48, tn_49, ln_49, tn_50, ln_50, tn_51, ln_51, ob_52, tn_53, ln_53, tn_54, ln_54, tn_55, ln_55, tn_56, ln_56, ob_57, tn_58, ln_58, tn_59, ln_59, tn_60, ln_60, tn_61, ln_61, tn_62, ln_62, tn_63, ln_63, tn_64, ln_64, tn_65, ln_65, ob_66, tn_67, ln_67, tn_68, ln_68, tn_69, ln_69, tn_70, ln_70, tn_71, ln_71, tn_72, ln_72, tn_73, ln_73, ob_74, tn_75, ln_75, tn_76, ln_76, tn_77, ln_77, tn_78, ln_78, tn_79, ln_79, tn_80, ln_80, tn_81, ln_81, tn_82, ln_82, tn_83, ln_83, ob_84, tn_85, ln_85, tn_86, ln_86, tn_87, ln_87, tn_88, ln_88, tn_89, ln_89, tn_90, ln_90, tn_91, ln_91, tn_92, ln_92, tn_93, ln_93, ob_94, tn_95, ln_95, tn_96, ln_96, tn_97, ln_97, tn_98, ln_98, tn_99, ln_99, tn_100, ln_100, tn_101, ln_101, tn_102, ln_102, tn_103, ln_103, ob_104, tn_105, ln_105, tn_106, ln_106, tn_107, ln_107, tn_108, ln_108, tn_109, ln_109, tn_110, ln_110, tn_111, ln_111, tn_112, ln_112, tn_113, ln_113, ob_114, tn_115, ln_115, tn_116, ln_116, tn_117, ln_117, tn_118, ln_118, tn_119, ln_119, tn_120, ln_120, tn_121, ln_121, tn_122, ln_122, tn_123, ln_123, ob_124, tn_125, ln_125, tn_126, ln_126, tn_127, ln_127, tn_128, ln_128, tn_129, ln_129, tn_130, ln_130, tn_131, ln_131, tn_132, ln_132, tn_133, ln_133, ob_134, tn_135, ln_135, tn_136, ln_136, tn_137, ln_137, tn_138, ln_138, tn_139, ln_139, tn_140, ln_140, tn_141, ln_141, tn_142, ln_142, tn_143, ln_143, ob_144, tn_145, ln_145, tn_146, ln_146, tn_147, ln_147, tn_148, ln_148, tn_149, ln_149, tn_150, ln_150, tn_151, ln_151, tn_152, ln_152, tn_153, ln_153, ob_154, tn_155, ln_155, tn_156, ln_156, tn_157, ln_157, tn_158, ln_158, tn_159, ln_159, tn_160, ln_160, tn_161, ln_161, tn_162, ln_162, tn_163, ln_163, ob_164, tn_165, ln_165, tn_166, ln_166, ob_167, tn_168, ln_168, tn_169, ln_169, tn_170, ln_170, tn_171, ln_171, tn_172, ln_172, tn_173, ln_173, tn_174, ln_174, tn_175, ln_175, tn_176, ln_176, ob_177, tn_178, ln_178, tn_179, ln_179, ob_180, tn_181, ln_181, tn_182, ln_182, tn_183, ln_183, tn_184, ln_184, tn_185, ln_185, tn_186, ln_186, tn_187, ln_187, tn_188, ln_188, tn_189, ln_189, tn_190, ln_190, tn_191, ln_191, tn_192, ln_192, tn_193, ln_193, tn_194, ln_194, tn_195, ln_195, tn_196, ln_196, tn_197, ln_197, tn_198, ln_198, tn_199, ln_199, tn_200, ln_200, tn_201, ln_201, tn_202, ln_202, tn_203, ln_203, tn_204, ln_204, tn_205, ln_205, tn_206, ln_206, tn_207, ln_207, tn_208, ln_208, tn_209, ln_209, tn_210, ln_210, tn_211, ln_211, tn_212, ln_212, tn_213, ln_213, tn_214, ln_214, tn_215, ln_215, tn_216, ln_216, tn_217, ln_217, tn_218, ln_218, tn_219, ln_219, tn_220, ln_220, tn_221, ln_221, tn_222, ln_222, tn_223, ln_223, tn_224, ln_224, tn_225, ln_225, tn_226, ln_226, tn_227, ln_227, tn_228, ln_228, tn_229, ln_229, tn_230, ln_230, lx2, lx3, lx4, lx5, lx6, lx7, lx8, lx9, lx10, lx14, lx15, lx16, lx18, lx20, lx24, lx25, lx27, lx32, lx36, lx40, lx41, lx42, lx43, lx45, lx48, lx52, lx54, lx56, lx57, lx58, lx60, lx61, lx62, lx63, lx64, lx66, lx69, lx73, lx80, lx81, lx84, lx85, lx87, lx94, lx96, lx97, lx120, lx128, lx135, lx160, lx162, lx163, lx165, lx200, lx232, lx242, lx243, lx255, lx256, lx320, lx325, lx400, lx405, lx464, lx512, lx600, lx640, lx752, lx900, lx940, lx1000, lx1024, lx1764, lx3360, lx3840, lx5000, lx6400, lx9050, lx9998, lx9999, lx10000, lx25600, lx76800, lx99999, h6]
  refine ⟨fun _ => ?_, fun q => absurd hc q⟩
  simp (disch := omega) only [k_X6_push_0, k_X6_push_89, x_aload, x_dup, x_iadd, x_icmp_gt, x_icmp_lt, x_iload, x_imul, x_istore, x_isub, x_push, x_vret, y_alen, y_getF, y_getI, y_iast, y_putI, xFT, xbool0, xbool1, Nat.reduceAdd, Nat.zero_add, xgl_0, xgl_s, xgl_n, xst_0, xst_1n, xst_1i, xst_1r, xst_1l, xst_s, set_0, set_s, true_and, and_true, xres, xcat_nil, xcat_i, xcat_r, xcat_l, Nat.add_zero, xble0, xble1, xble2, xble3, xble4, xble5, xble6, xble7, xble8, pk_mul, nI_add, nI_1, nI_leI, nI_ltI, nI_eq, n_in, n_cl, z_eq, z_lt, z_le, z_gt, z_ge, z_qe, o_eq, o_lt, o_le, o_gt, o_ge, vp0, vp1, cl0, cl1, n_sub, n_sub1, n_pm1, n_a0, n_0a, ofn, lN0, Nat.reduceLT, Nat.reduceLeDiff, Nat.reduceMul, Nat.reduceSub, Nat.reduceEqDiff, ne_eq, true_implies, false_implies, not_true_eq_false, not_false_eq_true, and_self, and_true, true_and, and_false, false_and, implies_true, if_true, if_false, i00, i10, i01, i11, ob_0, ob_1, tn_2, ln_2, ob_3, tn_4, ln_4, ob_5, tn_6, ln_6, tn_7, ln_7, ob_8, tn_9, ln_9, tn_10, ln_10, tn_11, ln_11, tn_12, ln_12, tn_13, ln_13, tn_14, ln_14, tn_15, ln_15, tn_16, ln_16, tn_17, ln_17, ob_18, tn_19, ln_19, tn_20, ln_20, tn_21, ln_21, tn_22, ln_22, tn_23, ln_23, tn_24, ln_24, tn_25, ln_25, tn_26, ln_26, tn_27, ln_27, ob_28, tn_29, ln_29, tn_30, ln_30, ob_31, tn_32, ln_32, tn_33, ln_33, ob_34, ob_35, tn_36, ln_36, tn_37, ln_37, tn_38, ln_38, ob_39, tn_40, ln_40, tn_41, ln_41, tn_42, ln_42, tn_43, ln_43, tn_44, ln_44, tn_45, ln_45, tn_46, ln_46, tn_47, ln_47, tn_48, ln_48, tn_49, ln_49, tn_50, ln_50, tn_51, ln_51, ob_52, tn_53, ln_53, tn_54, ln_54, tn_55, ln_55, tn_56, ln_56, ob_57, tn_58, ln_58, tn_59, ln_59, tn_60, ln_60, tn_61, ln_61, tn_62, ln_62, tn_63, ln_63, tn_64, ln_64, tn_65, ln_65, ob_66, tn_67, ln_67, tn_68, ln_68, tn_69, ln_69, tn_70, ln_70, tn_71, ln_71, tn_72, ln_72, tn_73, ln_73, ob_74, tn_75, ln_75, tn_76, ln_76, tn_77, ln_77, tn_78, ln_78, tn_79, ln_79, tn_80, ln_80, tn_81, ln_81, tn_82, ln_82, tn_83, ln_83, ob_84, tn_85, ln_85, tn_86, ln_86, tn_87, ln_87, tn_88, ln_88, tn_89, ln_89, tn_90, ln_90, tn_91, ln_91, tn_92, ln_92, tn_93, ln_93, ob_94, tn_95, ln_95, tn_96, ln_96, tn_97, ln_97, tn_98, ln_98, tn_99, ln_99, tn_100, ln_100, tn_101, ln_101, tn_102, ln_102, tn_103, ln_103, ob_104, tn_105, ln_105, tn_106, ln_106, tn_107, ln_107, tn_108, ln_108, tn_109, ln_109, tn_110, ln_110, tn_111, ln_111, tn_112, ln_112, tn_113, ln_113, ob_114, tn_115, ln_115, tn_116, ln_116, tn_117, ln_117, tn_118, ln_118, tn_119, ln_119, tn_120, ln_120, tn_121, ln_121, tn_122, ln_122, tn_123, ln_123, ob_124, tn_125, ln_125, tn_126, ln_126, tn_127, ln_127, tn_128, ln_128, tn_129, ln_129, tn_130, ln_130, tn_131, ln_131, tn_132, ln_132, tn_133, ln_133, ob_134, tn_135, ln_135, tn_136, ln_136, tn_137, ln_137, tn_138, ln_138, tn_139, ln_139, tn_140, ln_140, tn_141, ln_141, tn_142, ln_142, tn_143, ln_143, ob_144, tn_145, ln_145, tn_146, ln_146, tn_147, ln_147, tn_148, ln_148, tn_149, ln_149, tn_150, ln_150, tn_151, ln_151, tn_152, ln_152, tn_153, ln_153, ob_154, tn_155, ln_155, tn_156, ln_156, tn_157, ln_157, tn_158, ln_158, tn_159, ln_159, tn_160, ln_160, tn_161, ln_161, tn_162, ln_162, tn_163, ln_163, ob_164, tn_165, ln_165, tn_166, ln_166, ob_167, tn_168, ln_168, tn_169, ln_169, tn_170, ln_170, tn_171, ln_171, tn_172, ln_172, tn_173, ln_173, tn_174, ln_174, tn_175, ln_175, tn_176, ln_176, ob_177, tn_178, ln_178, tn_179, ln_179, ob_180, tn_181, ln_181, tn_182, ln_182, tn_183, ln_183, tn_184, ln_184, tn_185, ln_185, tn_186, ln_186, tn_187, ln_187, tn_188, ln_188, tn_189, ln_189, tn_190, ln_190, tn_191, ln_191, tn_192, ln_192, tn_193, ln_193, tn_194, ln_194, tn_195, ln_195, tn_196, ln_196, tn_197, ln_197, tn_198, ln_198, tn_199, ln_199, tn_200, ln_200, tn_201, ln_201, tn_202, ln_202, tn_203, ln_203, tn_204, ln_204, tn_205, ln_205, tn_206, ln_206, tn_207, ln_207, tn_208, ln_208, tn_209, ln_209, tn_210, ln_210, tn_211, ln_211, tn_212, ln_212, tn_213, ln_213, tn_214, ln_214, tn_215, ln_215, tn_216, ln_216, tn_217, ln_217, tn_218, ln_218, tn_219, ln_219, tn_220, ln_220, tn_221, ln_221, tn_222, ln_222, tn_223, ln_223, tn_224, ln_224, tn_225, ln_225, tn_226, ln_226, tn_227, ln_227, tn_228, ln_228, tn_229, ln_229, tn_230, ln_230, lx2, lx3, lx4, lx5, lx6, lx7, lx8, lx9, lx10, lx14, lx15, lx16, lx18, lx20, lx24, lx25, lx27, lx32, lx36, lx40, lx41, lx42, lx43, lx45, lx48, lx52, lx54, lx56, lx57, lx58, lx60, lx61, lx62, lx63, lx64, lx66, lx69, lx73, lx80, lx81, lx84, lx85, lx87, lx94, lx96, lx97, lx120, lx128, lx135, lx160, lx162, lx163, lx165, lx200, lx232, lx242, lx243, lx255, lx256, lx320, lx325, lx400, lx405, lx464, lx512, lx600, lx640, lx752, lx900, lx940, lx1000, lx1024, lx1764, lx3360, lx3840, lx5000, lx6400, lx9050, lx9998, lx9999, lx10000, lx25600, lx76800, lx99999]
  exact hP
theorem push_C {A : xH} {P : xP} {c i j v a len : Nat} (h6 : xi A 66 6 = nI len) (hl : len ≤ 603) (hc : 8 ≤ c) (hc2 : c < 1000) (hP : ∀ B, fr (SPh len) A B → ndA 69 B len (c - 8, i, j, v, a) → xi B 66 6 = nI (len + 1) → P none B) : f_X6_push 66 (nI c) (nI i) (nI j) (nI v) (nI a) A P := by
  unfold f_X6_push
  simp (disch := omega) only [k_X6_push_0, x_aload, x_dup, x_iadd, x_icmp_gt, x_icmp_lt, x_iload, x_imul, x_istore, x_isub, x_push, x_vret, y_alen, y_getF, y_getI, y_iast, y_putI, xFT, xbool0, xbool1, Nat.reduceAdd, Nat.zero_add, xgl_0, xgl_s, xgl_n, xst_0, xst_1n, xst_1i, xst_1r, xst_1l, xst_s, set_0, set_s, true_and, and_true, xres, xcat_nil, xcat_i, xcat_r, xcat_l, Nat.add_zero, xble0, xble1, xble2, xble3, xble4, xble5, xble6, xble7, xble8, pk_mul, nI_add, nI_1, nI_leI, nI_ltI, nI_eq, n_in, n_cl, z_eq, z_lt, z_le, z_gt, z_ge, z_qe, o_eq, o_lt, o_le, o_gt, o_ge, vp0, vp1, cl0, cl1, n_sub, n_sub1, n_pm1, n_a0, n_0a, ofn, lN0, Nat.reduceLT, Nat.reduceLeDiff, Nat.reduceMul, Nat.reduceSub, Nat.reduceEqDiff, ne_eq, true_implies, false_implies, not_true_eq_false, not_false_eq_true, and_self, and_true, true_and, and_false, false_and, implies_true, if_true, if_false, i00, i10, i01, i11, ob_0, ob_1, tn_2, ln_2, ob_3, tn_4, ln_4, ob_5, tn_6, ln_6, tn_7, ln_7, ob_8, tn_9, ln_9, tn_10, ln_10, tn_11, ln_11, tn_12, ln_12, tn_13, ln_13, tn_14, ln_14, tn_15, ln_15, tn_16, ln_16, tn_17, ln_17, ob_18, tn_19, ln_19, tn_20, ln_20, tn_21, ln_21, tn_22, ln_22, tn_23, ln_23, tn_24, ln_24, tn_25, ln_25, tn_26, ln_26, tn_27, ln_27, ob_28, tn_29, ln_29, tn_30, ln_30, ob_31, tn_32, ln_32, tn_33, ln_33, ob_34, ob_35, tn_36, ln_36, tn_37, ln_37, tn_38, ln_38, ob_39, tn_40, ln_40, tn_41, ln_41, tn_42, ln_42, tn_43, ln_43, tn_44, ln_44, tn_45, ln_45, tn_46, ln_46, tn_47, ln_47, tn_48, ln_48, tn_49, ln_49, tn_50, ln_50, tn_51, ln_51, ob_52, tn_53, ln_53, tn_54, ln_54, tn_55, ln_55, tn_56, ln_56, ob_57, tn_58, ln_58, tn_59, ln_59, tn_60, ln_60, tn_61, ln_61, tn_62, ln_62, tn_63, ln_63, tn_64, ln_64, tn_65, ln_65, ob_66, tn_67, ln_67, tn_68, ln_68, tn_69, ln_69, tn_70, ln_70, tn_71, ln_71, tn_72, ln_72, tn_73, ln_73, ob_74, tn_75, ln_75, tn_76, ln_76, tn_77, ln_77, tn_78, ln_78, tn_79, ln_79, tn_80, ln_80, tn_81, ln_81, tn_82, ln_82, tn_83, ln_83, ob_84, tn_85, ln_85, tn_86, ln_86, tn_87, ln_87, tn_88, ln_88, tn_89, ln_89, tn_90, ln_90, tn_91, ln_91, tn_92, ln_92, tn_93, ln_93, ob_94, tn_95, ln_95, tn_96, ln_96, tn_97, ln_97, tn_98, ln_98, tn_99, ln_99, tn_100, ln_100, tn_101, ln_101, tn_102, ln_102, tn_103, ln_103, ob_104, tn_105, ln_105, tn_106, ln_106, tn_107, ln_107, tn_108, ln_108, tn_109, ln_109, tn_110, ln_110, tn_111, ln_111, tn_112, ln_112, tn_113, ln_113, ob_114, tn_115, ln_115, tn_116, ln_116, tn_117, ln_117, tn_118, ln_118, tn_119, ln_119, tn_120, ln_120, tn_121, ln_121, tn_122, ln_122, tn_123, ln_123, ob_124, tn_125, ln_125, tn_126, ln_126, tn_127, ln_127, tn_128, ln_128, tn_129, ln_129, tn_130, ln_130, tn_131, ln_131, tn_132, ln_132, tn_133, ln_133, ob_134, tn_135, ln_135, tn_136, ln_136, tn_137, ln_137, tn_138, ln_138, tn_139, ln_139, tn_140, ln_140, tn_141, ln_141, tn_142, ln_142, tn_143, ln_143, ob_144, tn_145, ln_145, tn_146, ln_146, tn_147, ln_147, tn_148, ln_148, tn_149, ln_149, tn_150, ln_150, tn_151, ln_151, tn_152, ln_152, tn_153, ln_153, ob_154, tn_155, ln_155, tn_156, ln_156, tn_157, ln_157, tn_158, ln_158, tn_159, ln_159, tn_160, ln_160, tn_161, ln_161, tn_162, ln_162, tn_163, ln_163, ob_164, tn_165, ln_165, tn_166, ln_166, ob_167, tn_168, ln_168, tn_169, ln_169, tn_170, ln_170, tn_171, ln_171, tn_172, ln_172, tn_173, ln_173, tn_174, ln_174, tn_175, ln_175, tn_176, ln_176, ob_177, tn_178, ln_178, tn_179, ln_179, ob_180, tn_181, ln_181, tn_182, ln_182, tn_183, ln_183, tn_184, ln_184, tn_185, ln_185, tn_186, ln_186, tn_187, ln_187, tn_188, ln_188, tn_189, ln_189, tn_190, ln_190, tn_191, ln_191, tn_192, ln_192, tn_193, ln_193, tn_194, ln_194, tn_195, ln_195, tn_196, ln_196, tn_197, ln_197, tn_198, ln_198, tn_199, ln_199, tn_200, ln_200, tn_201, ln_201, tn_202, ln_202, tn_203, ln_203, tn_204, ln_204, tn_205, ln_205, tn_206, ln_206, tn_207, ln_207, tn_208, ln_208, tn_209, ln_209, tn_210, ln_210, tn_211, ln_211, tn_212, ln_212, tn_213, ln_213, tn_214, ln_214, tn_215, ln_215, tn_216, ln_216, tn_217, ln_217, tn_218, ln_218, tn_219, ln_219, tn_220, ln_220, tn_221, ln_221, tn_222, ln_222, tn_223, ln_223, tn_224, ln_224, tn_225, ln_225, tn_226, ln_226, tn_227, ln_227, tn_228, ln_228, tn_229, ln_229, tn_230, ln_230, lx2, lx3, lx4, lx5, lx6, lx7, lx8, lx9, lx10, lx14, lx15, lx16, lx18, lx20, lx24, lx25, lx27, lx32, lx36, lx40, lx41, lx42, lx43, lx45, lx48, lx52, lx54, lx56, lx57, lx58, lx60, lx61, lx62, lx63, lx64, lx66, lx69, lx73, lx80, lx81, lx84, lx85, lx87, lx94, lx96, lx97, lx120, lx128, lx135, lx160, lx162, lx163, lx165, lx200, lx232, lx242, lx243, lx255, lx256, lx320, lx325, lx400, lx405, lx464, lx512, lx600, lx640, lx752, lx900, lx940, lx1000, lx1024, lx1764, lx3360, lx3840, lx5000, lx6400, lx9050, lx9998, lx9999, lx10000, lx25600, lx76800, lx99999, h6]
  refine ⟨fun q => absurd q (by omega), fun _ => ⟨fun q => absurd q (by omega), fun _ => ?_⟩⟩
  simp (disch := omega) only [k_X6_push_0, k_X6_push_89, x_aload, x_dup, x_iadd, x_icmp_gt, x_icmp_lt, x_iload, x_imul, x_istore, x_isub, x_push, x_vret, y_alen, y_getF, y_getI, y_iast, y_putI, xFT, xbool0, xbool1, Nat.reduceAdd, Nat.zero_add, xgl_0, xgl_s, xgl_n, xst_0, xst_1n, xst_1i, xst_1r, xst_1l, xst_s, set_0, set_s, true_and, and_true, xres, xcat_nil, xcat_i, xcat_r, xcat_l, Nat.add_zero, xble0, xble1, xble2, xble3, xble4, xble5, xble6, xble7, xble8, pk_mul, nI_add, nI_1, nI_leI, nI_ltI, nI_eq, n_in, n_cl, z_eq, z_lt, z_le, z_gt, z_ge, z_qe, o_eq, o_lt, o_le, o_gt, o_ge, vp0, vp1, cl0, cl1, n_sub, n_sub1, n_pm1, n_a0, n_0a, ofn, lN0, Nat.reduceLT, Nat.reduceLeDiff, Nat.reduceMul, Nat.reduceSub, Nat.reduceEqDiff, ne_eq, true_implies, false_implies, not_true_eq_false, not_false_eq_true, and_self, and_true, true_and, and_false, false_and, implies_true, if_true, if_false, i00, i10, i01, i11, ob_0, ob_1, tn_2, ln_2, ob_3, tn_4, ln_4, ob_5, tn_6, ln_6, tn_7, ln_7, ob_8, tn_9, ln_9, tn_10, ln_10, tn_11, ln_11, tn_12, ln_12, tn_13, ln_13, tn_14, ln_14, tn_15, ln_15, tn_16, ln_16, tn_17, ln_17, ob_18, tn_19, ln_19, tn_20, ln_20, tn_21, ln_21, tn_22, ln_22, tn_23, ln_23, tn_24, ln_24, tn_25, ln_25, tn_26, ln_26, tn_27, ln_27, ob_28, tn_29, ln_29, tn_30, ln_30, ob_31, tn_32, ln_32, tn_33, ln_33, ob_34, ob_35, tn_36, ln_36, tn_37, ln_37, tn_38, ln_38, ob_39, tn_40, ln_40, tn_41, ln_41, tn_42, ln_42, tn_43, ln_43, tn_44, ln_44, tn_45, ln_45, tn_46, ln_46, tn_47, ln_47, tn_48, ln_48, tn_49, ln_49, tn_50, ln_50, tn_51, ln_51, ob_52, tn_53, ln_53, tn_54, ln_54, tn_55, ln_55, tn_56, ln_56, ob_57, tn_58, ln_58, tn_59, ln_59, tn_60, ln_60, tn_61, ln_61, tn_62, ln_62, tn_63, ln_63, tn_64, ln_64, tn_65, ln_65, ob_66, tn_67, ln_67, tn_68, ln_68, tn_69, ln_69, tn_70, ln_70, tn_71, ln_71, tn_72, ln_72, tn_73, ln_73, ob_74, tn_75, ln_75, tn_76, ln_76, tn_77, ln_77, tn_78, ln_78, tn_79, ln_79, tn_80, ln_80, tn_81, ln_81, tn_82, ln_82, tn_83, ln_83, ob_84, tn_85, ln_85, tn_86, ln_86, tn_87, ln_87, tn_88, ln_88, tn_89, ln_89, tn_90, ln_90, tn_91, ln_91, tn_92, ln_92, tn_93, ln_93, ob_94, tn_95, ln_95, tn_96, ln_96, tn_97, ln_97, tn_98, ln_98, tn_99, ln_99, tn_100, ln_100, tn_101, ln_101, tn_102, ln_102, tn_103, ln_103, ob_104, tn_105, ln_105, tn_106, ln_106, tn_107, ln_107, tn_108, ln_108, tn_109, ln_109, tn_110, ln_110, tn_111, ln_111, tn_112, ln_112, tn_113, ln_113, ob_114, tn_115, ln_115, tn_116, ln_116, tn_117, ln_117, tn_118, ln_118, tn_119, ln_119, tn_120, ln_120, tn_121, ln_121, tn_122, ln_122, tn_123, ln_123, ob_124, tn_125, ln_125, tn_126, ln_126, tn_127, ln_127, tn_128, ln_128, tn_129, ln_129, tn_130, ln_130, tn_131, ln_131, tn_132, ln_132, tn_133, ln_133, ob_134, tn_135, ln_135, tn_136, ln_136, tn_137, ln_137, tn_138, ln_138, tn_139, ln_139, tn_140, ln_140, tn_141, ln_141, tn_142, ln_142, tn_143, ln_143, ob_144, tn_145, ln_145, tn_146, ln_146, tn_147, ln_147, tn_148, ln_148, tn_149, ln_149, tn_150, ln_150, tn_151, ln_151, tn_152, ln_152, tn_153, ln_153, ob_154, tn_155, ln_155, tn_156, ln_156, tn_157, ln_157, tn_158, ln_158, tn_159, ln_159, tn_160, ln_160, tn_161, ln_161, tn_162, ln_162, tn_163, ln_163, ob_164, tn_165, ln_165, tn_166, ln_166, ob_167, tn_168, ln_168, tn_169, ln_169, tn_170, ln_170, tn_171, ln_171, tn_172, ln_172, tn_173, ln_173, tn_174, ln_174, tn_175, ln_175, tn_176, ln_176, ob_177, tn_178, ln_178, tn_179, ln_179, ob_180, tn_181, ln_181, tn_182, ln_182, tn_183, ln_183, tn_184, ln_184, tn_185, ln_185, tn_186, ln_186, tn_187, ln_187, tn_188, ln_188, tn_189, ln_189, tn_190, ln_190, tn_191, ln_191, tn_192, ln_192, tn_193, ln_193, tn_194, ln_194, tn_195, ln_195, tn_196, ln_196, tn_197, ln_197, tn_198, ln_198, tn_199, ln_199, tn_200, ln_200, tn_201, ln_201, tn_202, ln_202, tn_203, ln_203, tn_204, ln_204, tn_205, ln_205, tn_206, ln_206, tn_207, ln_207, tn_208, ln_208, tn_209, ln_209, tn_210, ln_210, tn_211, ln_211, tn_212, ln_212, tn_213, ln_213, tn_214, ln_214, tn_215, ln_215, tn_216, ln_216, tn_217, ln_217, tn_218, ln_218, tn_219, ln_219, tn_220, ln_220, tn_221, ln_221, tn_222, ln_222, tn_223, ln_223, tn_224, ln_224, tn_225, ln_225, tn_226, ln_226, tn_227, ln_227, tn_228, ln_228, tn_229, ln_229, tn_230, ln_230, lx2, lx3, lx4, lx5, lx6, lx7, lx8, lx9, lx10, lx14, lx15, lx16, lx18, lx20, lx24, lx25, lx27, lx32, lx36, lx40, lx41, lx42, lx43, lx45, lx48, lx52, lx54, lx56, lx57, lx58, lx60, lx61, lx62, lx63, lx64, lx66, lx69, lx73, lx80, lx81, lx84, lx85, lx87, lx94, lx96, lx97, lx120, lx128, lx135, lx160, lx162, lx163, lx165, lx200, lx232, lx242, lx243, lx255, lx256, lx320, lx325, lx400, lx405, lx464, lx512, lx600, lx640, lx752, lx900, lx940, lx1000, lx1024, lx1764, lx3360, lx3840, lx5000, lx6400, lx9050, lx9998, lx9999, lx10000, lx25600, lx76800, lx99999, h6, si_ne, si_eq, sl_ne, sl_eq, xl_si, xi_sl, sA_ne, sA_eq, xl_sA]
  refine ⟨by omega, by omega, by omega, by omega, by omega, hP _ ?_ ?_ si_eq⟩
  · refine fr_si (fr_si (fr_si (fr_si (fr_si (fr_si fr_rf ?_) ?_) ?_) ?_) ?_) ?_ <;> (unfold SPh; omega)
  · unfold ndA
    rw [Nat.mul_comm 5 len]
    simp (disch := omega) only [si_ne, si_eq, sl_ne, sl_eq, xl_si, xi_sl, sA_ne, sA_eq, xl_sA, and_self]
/-- what the class's push does with a rule's symbol -/
theorem pushR {A : xH} {P : xP} {g : xV} {r t x y v a : Nat} {st : List nD} (hw : wfg g) (hr : r < vR g) (h6 : xi A 66 6 = nI st.length) (hl : st.length ≤ 603) (hs : stA 69 A st) (hP : ∀ B, fr (SPh st.length) A B → stA 69 B (k1C (vrs g r) (vsy g r) t x y v a ++ st) → xi B 66 6 = nI (k1C (vrs g r) (vsy g r) t x y v a ++ st).length → P none B) : f_X6_push 66 (rsA g r t) (nI x) (nI y) (nI v) (nI a) A P := by
  have h4 := hw.1
  have h5 := hw.2.1
  by_cases q : t < vrs g r
  · have hsy := (hw.2.2.2.2 r hr).2.2 t q
    rw [show rsA g r t = nI (vsy g r t) from if_pos q]
    by_cases c8 : vsy g r t < 8
    · have e : k1C (vrs g r) (vsy g r) t x y v a = [] := if_neg (by omega)
      rw [e] at hP
      exact push_no h6 (by omega) ((nI_ltI (by omega) (by omega)).mpr c8) (hP A fr_rf hs h6)
    · have e : k1C (vrs g r) (vsy g r) t x y v a = [(vsy g r t - 8, x, y, v, a)] := if_pos ⟨q, by omega⟩
      rw [e] at hP
      exact push_C h6 hl (by omega) (by omega) fun B hB hn h6' => hP B hB (stA_push (st := st) hs (fun k hk => fr_i hB (by unfold SPh; omega)) hn) h6'
  · have e : k1C (vrs g r) (vsy g r) t x y v a = [] := if_neg (by omega)
    rw [e] at hP
    rw [show rsA g r t = -1 from if_neg q]
    exact push_no h6 (by omega) (by decide) (hP A fr_rf hs h6)
def SPo (c k : Nat) : Prop := c = 66 ∧ 6 ≤ k ∧ k ≤ 11
theorem pop_C {A : xH} {P : xP} {d : nD} {len : Nat} (h6 : xi A 66 6 = nI (len + 1)) (hl : len ≤ 603) (hd : ndA 69 A len d) (h1 : d.1 < 5) (h4 : d.2.2.2.1 < 243) (hP : ∀ B, fr SPo A B → xi B 66 6 = nI len → xi B 66 7 = nI d.1 → xi B 66 8 = nI d.2.1 → xi B 66 9 = nI d.2.2.1 → xi B 66 10 = nI (d.2.2.2.1 + p3 d.1) → xi B 66 11 = nI d.2.2.2.2 → P none B) : f_X6_pop 66 A P := by
  obtain ⟨d1, d2, d3, d4, d5⟩ := hd
  rw [Nat.mul_comm] at d1 d2 d3 d4 d5
  have h3 := p3_5 h1
  unfold f_X6_pop
  simp (disch := omega) only [k_X6_pop_0, x_aload, x_dup, x_gets, x_iadd, x_ialdS, x_iload, x_imul, x_istore, x_isub, x_push, x_vret, y_getF, y_getI, y_iald, y_putI, xFT, xbool0, xbool1, Nat.reduceAdd, Nat.zero_add, xgl_0, xgl_s, xgl_n, xst_0, xst_1n, xst_1i, xst_1r, xst_1l, xst_s, set_0, set_s, true_and, and_true, xres, xcat_nil, xcat_i, xcat_r, xcat_l, Nat.add_zero, xble0, xble1, xble2, xble3, xble4, xble5, xble6, xble7, xble8, pk_mul, nI_add, nI_1, nI_leI, nI_ltI, nI_eq, n_in, n_cl, z_eq, z_lt, z_le, z_gt, z_ge, z_qe, o_eq, o_lt, o_le, o_gt, o_ge, vp0, vp1, cl0, cl1, n_sub, n_sub1, n_pm1, n_a0, n_0a, ofn, lN0, Nat.reduceLT, Nat.reduceLeDiff, Nat.reduceMul, Nat.reduceSub, Nat.reduceEqDiff, ne_eq, true_implies, false_implies, not_true_eq_false, not_false_eq_true, and_self, and_true, true_and, and_false, false_and, implies_true, if_true, if_false, i00, i10, i01, i11, ob_0, ob_1, tn_2, ln_2, ob_3, tn_4, ln_4, ob_5, tn_6, ln_6, tn_7, ln_7, ob_8, tn_9, ln_9, tn_10, ln_10, tn_11, ln_11, tn_12, ln_12, tn_13, ln_13, tn_14, ln_14, tn_15, ln_15, tn_16, ln_16, tn_17, ln_17, ob_18, tn_19, ln_19, tn_20, ln_20, tn_21, ln_21, tn_22, ln_22, tn_23, ln_23, tn_24, ln_24, tn_25, ln_25, tn_26, ln_26, tn_27, ln_27, ob_28, tn_29, ln_29, tn_30, ln_30, ob_31, tn_32, ln_32, tn_33, ln_33, ob_34, ob_35, tn_36, ln_36, tn_37, ln_37, tn_38, ln_38, ob_39, tn_40, ln_40, tn_41, ln_41, tn_42, ln_42, tn_43, ln_43, tn_44, ln_44, tn_45, ln_45, tn_46, ln_46, tn_47, ln_47, tn_48, ln_48, tn_49, ln_49, tn_50, ln_50, tn_51, ln_51, ob_52, tn_53, ln_53, tn_54, ln_54, tn_55, ln_55, tn_56, ln_56, ob_57, tn_58, ln_58, tn_59, ln_59, tn_60, ln_60, tn_61, ln_61, tn_62, ln_62, tn_63, ln_63, tn_64, ln_64, tn_65, ln_65, ob_66, tn_67, ln_67, tn_68, ln_68, tn_69, ln_69, tn_70, ln_70, tn_71, ln_71, tn_72, ln_72, tn_73, ln_73, ob_74, tn_75, ln_75, tn_76, ln_76, tn_77, ln_77, tn_78, ln_78, tn_79, ln_79, tn_80, ln_80, tn_81, ln_81, tn_82, ln_82, tn_83, ln_83, ob_84, tn_85, ln_85, tn_86, ln_86, tn_87, ln_87, tn_88, ln_88, tn_89, ln_89, tn_90, ln_90, tn_91, ln_91, tn_92, ln_92, tn_93, ln_93, ob_94, tn_95, ln_95, tn_96, ln_96, tn_97, ln_97, tn_98, ln_98, tn_99, ln_99, tn_100, ln_100, tn_101, ln_101, tn_102, ln_102, tn_103, ln_103, ob_104, tn_105, ln_105, tn_106, ln_106, tn_107, ln_107, tn_108, ln_108, tn_109, ln_109, tn_110, ln_110, tn_111, ln_111, tn_112, ln_112, tn_113, ln_113, ob_114, tn_115, ln_115, tn_116, ln_116, tn_117, ln_117, tn_118, ln_118, tn_119, ln_119, tn_120, ln_120, tn_121, ln_121, tn_122, ln_122, tn_123, ln_123, ob_124, tn_125, ln_125, tn_126, ln_126, tn_127, ln_127, tn_128, ln_128, tn_129, ln_129, tn_130, ln_130, tn_131, ln_131, tn_132, ln_132, tn_133, ln_133, ob_134, tn_135, ln_135, tn_136, ln_136, tn_137, ln_137, tn_138, ln_138, tn_139, ln_139, tn_140, ln_140, tn_141, ln_141, tn_142, ln_142, tn_143, ln_143, ob_144, tn_145, ln_145, tn_146, ln_146, tn_147, ln_147, tn_148, ln_148, tn_149, ln_149, tn_150, ln_150, tn_151, ln_151, tn_152, ln_152, tn_153, ln_153, ob_154, tn_155, ln_155, tn_156, ln_156, tn_157, ln_157, tn_158, ln_158, tn_159, ln_159, tn_160, ln_160, tn_161, ln_161, tn_162, ln_162, tn_163, ln_163, ob_164, tn_165, ln_165, tn_166, ln_166, ob_167, tn_168, ln_168, tn_169, ln_169, tn_170, ln_170, tn_171, ln_171, tn_172, ln_172, tn_173, ln_173, tn_174, ln_174, tn_175, ln_175, tn_176, ln_176, ob_177, tn_178, ln_178, tn_179, ln_179, ob_180, tn_181, ln_181, tn_182, ln_182, tn_183, ln_183, tn_184, ln_184, tn_185, ln_185, tn_186, ln_186, tn_187, ln_187, tn_188, ln_188, tn_189, ln_189, tn_190, ln_190, tn_191, ln_191, tn_192, ln_192, tn_193, ln_193, tn_194, ln_194, tn_195, ln_195, tn_196, ln_196, tn_197, ln_197, tn_198, ln_198, tn_199, ln_199, tn_200, ln_200, tn_201, ln_201, tn_202, ln_202, tn_203, ln_203, tn_204, ln_204, tn_205, ln_205, tn_206, ln_206, tn_207, ln_207, tn_208, ln_208, tn_209, ln_209, tn_210, ln_210, tn_211, ln_211, tn_212, ln_212, tn_213, ln_213, tn_214, ln_214, tn_215, ln_215, tn_216, ln_216, tn_217, ln_217, tn_218, ln_218, tn_219, ln_219, tn_220, ln_220, tn_221, ln_221, tn_222, ln_222, tn_223, ln_223, tn_224, ln_224, tn_225, ln_225, tn_226, ln_226, tn_227, ln_227, tn_228, ln_228, tn_229, ln_229, tn_230, ln_230, lx2, lx3, lx4, lx5, lx6, lx7, lx8, lx9, lx10, lx14, lx15, lx16, lx18, lx20, lx24, lx25, lx27, lx32, lx36, lx40, lx41, lx42, lx43, lx45, lx48, lx52, lx54, lx56, lx57, lx58, lx60, lx61, lx62, lx63, lx64, lx66, lx69, lx73, lx80, lx81, lx84, lx85, lx87, lx94, lx96, lx97, lx120, lx128, lx135, lx160, lx162, lx163, lx165, lx200, lx232, lx242, lx243, lx255, lx256, lx320, lx325, lx400, lx405, lx464, lx512, lx600, lx640, lx752, lx900, lx940, lx1000, lx1024, lx1764, lx3360, lx3840, lx5000, lx6400, lx9050, lx9998, lx9999, lx10000, lx25600, lx76800, lx99999, si_ne, si_eq, sl_ne, sl_eq, xl_si, xi_sl, sA_ne, sA_eq, xl_sA, h6, d1, d2, d3, d4, d5, Nat.add_sub_cancel, pow_p3]
  refine ⟨by omega, by omega, by omega, by omega, by omega, by omega, hP _ ?_ ?_ ?_ ?_ ?_ ?_ ?_⟩
  · refine fr_si (fr_si (fr_si (fr_si (fr_si (fr_si fr_rf ?_) ?_) ?_) ?_) ?_) ?_ <;> (unfold SPo; omega)
  all_goals simp (disch := omega) only [si_ne, si_eq, sl_ne, sl_eq, xl_si, xi_sl, sA_ne, sA_eq, xl_sA]
theorem over_C {A : xH} {P : xP} {x y i j v : Nat} (h8 : xi A 66 8 = nI i) (h9 : xi A 66 9 = nI j) (h10 : xi A 66 10 = nI v) (hx : x < 100) (hy : y < 100) (hi : i < 100) (hj : j < 100) (hP : P (some (.int (nI (if x = i ∧ y = j then v else 0)))) A) : f_X6_overFor 66 (nI x) (nI y) A P := by
  unfold f_X6_overFor
  simp (disch := omega) only [k_X6_overFor_0, k_X6_overFor_23, k_X6_overFor_24, x_aload, x_icmp_ne, x_iload, x_iret, x_push, y_getI, xFT, xbool0, xbool1, Nat.reduceAdd, Nat.zero_add, xgl_0, xgl_s, xgl_n, xst_0, xst_1n, xst_1i, xst_1r, xst_1l, xst_s, set_0, set_s, true_and, and_true, xres, xcat_nil, xcat_i, xcat_r, xcat_l, Nat.add_zero, xble0, xble1, xble2, xble3, xble4, xble5, xble6, xble7, xble8, pk_mul, nI_add, nI_1, nI_leI, nI_ltI, nI_eq, n_in, n_cl, z_eq, z_lt, z_le, z_gt, z_ge, z_qe, o_eq, o_lt, o_le, o_gt, o_ge, vp0, vp1, cl0, cl1, n_sub, n_sub1, n_pm1, n_a0, n_0a, ofn, lN0, Nat.reduceLT, Nat.reduceLeDiff, Nat.reduceMul, Nat.reduceSub, Nat.reduceEqDiff, ne_eq, true_implies, false_implies, not_true_eq_false, not_false_eq_true, and_self, and_true, true_and, and_false, false_and, implies_true, if_true, if_false, i00, i10, i01, i11, ob_0, ob_1, tn_2, ln_2, ob_3, tn_4, ln_4, ob_5, tn_6, ln_6, tn_7, ln_7, ob_8, tn_9, ln_9, tn_10, ln_10, tn_11, ln_11, tn_12, ln_12, tn_13, ln_13, tn_14, ln_14, tn_15, ln_15, tn_16, ln_16, tn_17, ln_17, ob_18, tn_19, ln_19, tn_20, ln_20, tn_21, ln_21, tn_22, ln_22, tn_23, ln_23, tn_24, ln_24, tn_25, ln_25, tn_26, ln_26, tn_27, ln_27, ob_28, tn_29, ln_29, tn_30, ln_30, ob_31, tn_32, ln_32, tn_33, ln_33, ob_34, ob_35, tn_36, ln_36, tn_37, ln_37, tn_38, ln_38, ob_39, tn_40, ln_40, tn_41, ln_41, tn_42, ln_42, tn_43, ln_43, tn_44, ln_44, tn_45, ln_45, tn_46, ln_46, tn_47, ln_47, tn_48, ln_48, tn_49, ln_49, tn_50, ln_50, tn_51, ln_51, ob_52, tn_53, ln_53, tn_54, ln_54, tn_55, ln_55, tn_56, ln_56, ob_57, tn_58, ln_58, tn_59, ln_59, tn_60, ln_60, tn_61, ln_61, tn_62, ln_62, tn_63, ln_63, tn_64, ln_64, tn_65, ln_65, ob_66, tn_67, ln_67, tn_68, ln_68, tn_69, ln_69, tn_70, ln_70, tn_71, ln_71, tn_72, ln_72, tn_73, ln_73, ob_74, tn_75, ln_75, tn_76, ln_76, tn_77, ln_77, tn_78, ln_78, tn_79, ln_79, tn_80, ln_80, tn_81, ln_81, tn_82, ln_82, tn_83, ln_83, ob_84, tn_85, ln_85, tn_86, ln_86, tn_87, ln_87, tn_88, ln_88, tn_89, ln_89, tn_90, ln_90, tn_91, ln_91, tn_92, ln_92, tn_93, ln_93, ob_94, tn_95, ln_95, tn_96, ln_96, tn_97, ln_97, tn_98, ln_98, tn_99, ln_99, tn_100, ln_100, tn_101, ln_101, tn_102, ln_102, tn_103, ln_103, ob_104, tn_105, ln_105, tn_106, ln_106, tn_107, ln_107, tn_108, ln_108, tn_109, ln_109, tn_110, ln_110, tn_111, ln_111, tn_112, ln_112, tn_113, ln_113, ob_114, tn_115, ln_115, tn_116, ln_116, tn_117, ln_117, tn_118, ln_118, tn_119, ln_119, tn_120, ln_120, tn_121, ln_121, tn_122, ln_122, tn_123, ln_123, ob_124, tn_125, ln_125, tn_126, ln_126, tn_127, ln_127, tn_128, ln_128, tn_129, ln_129, tn_130, ln_130, tn_131, ln_131, tn_132, ln_132, tn_133, ln_133, ob_134, tn_135, ln_135, tn_136, ln_136, tn_137, ln_137, tn_138, ln_138, tn_139, ln_139, tn_140, ln_140, tn_141, ln_141, tn_142, ln_142, tn_143, ln_143, ob_144, tn_145, ln_145, tn_146, ln_146, tn_147, ln_147, tn_148, ln_148, tn_149, ln_149, tn_150, ln_150, tn_151, ln_151, tn_152, ln_152, tn_153, ln_153, ob_154, tn_155, ln_155, tn_156, ln_156, tn_157, ln_157, tn_158, ln_158, tn_159, ln_159, tn_160, ln_160, tn_161, ln_161, tn_162, ln_162, tn_163, ln_163, ob_164, tn_165, ln_165, tn_166, ln_166, ob_167, tn_168, ln_168, tn_169, ln_169, tn_170, ln_170, tn_171, ln_171, tn_172, ln_172, tn_173, ln_173, tn_174, ln_174, tn_175, ln_175, tn_176, ln_176, ob_177, tn_178, ln_178, tn_179, ln_179, ob_180, tn_181, ln_181, tn_182, ln_182, tn_183, ln_183, tn_184, ln_184, tn_185, ln_185, tn_186, ln_186, tn_187, ln_187, tn_188, ln_188, tn_189, ln_189, tn_190, ln_190, tn_191, ln_191, tn_192, ln_192, tn_193, ln_193, tn_194, ln_194, tn_195, ln_195, tn_196, ln_196, tn_197, ln_197, tn_198, ln_198, tn_199, ln_199, tn_200, ln_200, tn_201, ln_201, tn_202, ln_202, tn_203, ln_203, tn_204, ln_204, tn_205, ln_205, tn_206, ln_206, tn_207, ln_207, tn_208, ln_208, tn_209, ln_209, tn_210, ln_210, tn_211, ln_211, tn_212, ln_212, tn_213, ln_213, tn_214, ln_214, tn_215, ln_215, tn_216, ln_216, tn_217, ln_217, tn_218, ln_218, tn_219, ln_219, tn_220, ln_220, tn_221, ln_221, tn_222, ln_222, tn_223, ln_223, tn_224, ln_224, tn_225, ln_225, tn_226, ln_226, tn_227, ln_227, tn_228, ln_228, tn_229, ln_229, tn_230, ln_230, lx2, lx3, lx4, lx5, lx6, lx7, lx8, lx9, lx10, lx14, lx15, lx16, lx18, lx20, lx24, lx25, lx27, lx32, lx36, lx40, lx41, lx42, lx43, lx45, lx48, lx52, lx54, lx56, lx57, lx58, lx60, lx61, lx62, lx63, lx64, lx66, lx69, lx73, lx80, lx81, lx84, lx85, lx87, lx94, lx96, lx97, lx120, lx128, lx135, lx160, lx162, lx163, lx165, lx200, lx232, lx242, lx243, lx255, lx256, lx320, lx325, lx400, lx405, lx464, lx512, lx600, lx640, lx752, lx900, lx940, lx1000, lx1024, lx1764, lx3360, lx3840, lx5000, lx6400, lx9050, lx9998, lx9999, lx10000, lx25600, lx76800, lx99999, h8, h9, h10]
  refine ⟨fun q => ?_, fun q => ⟨fun q2 => ?_, fun q2 => ?_⟩⟩
  · rw [if_neg fun w => q w.1] at hP; exact hP
  · rw [if_neg fun w => q2 w.2] at hP; exact hP
  · rw [if_pos ⟨q, q2⟩] at hP; exact hP

