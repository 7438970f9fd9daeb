/-! ===== a BOOK judged ===== -/
theorem d_X0_live_0 : decode cX0_live 0 = .ok (.iload_n 2, 1) := by decide +kernel
theorem d_X0_live_1 : decode cX0_live 1 = .ok (.iconst 5, 1) := by decide +kernel
theorem d_X0_live_2 : decode cX0_live 2 = .ok (.imul, 1) := by decide +kernel
theorem d_X0_live_3 : decode cX0_live 3 = .ok (.istore_n 3, 1) := by decide +kernel
theorem d_X0_live_4 : decode cX0_live 4 = .ok (.aload_n 0, 1) := by decide +kernel
theorem d_X0_live_5 : decode cX0_live 5 = .ok (.getfield 9, 3) := by decide +kernel
theorem d_X0_live_8 : decode cX0_live 8 = .ok (.iload_n 2, 1) := by decide +kernel
theorem d_X0_live_9 : decode cX0_live 9 = .ok (.iaload, 1) := by decide +kernel
theorem d_X0_live_10 : decode cX0_live 10 = .ok (.ifCond .ne 46, 3) := by decide +kernel
theorem d_X0_live_13 : decode cX0_live 13 = .ok (.aload_n 1, 1) := by decide +kernel
theorem d_X0_live_14 : decode cX0_live 14 = .ok (.aload_n 0, 1) := by decide +kernel
theorem d_X0_live_15 : decode cX0_live 15 = .ok (.getfield 15, 3) := by decide +kernel
theorem d_X0_live_18 : decode cX0_live 18 = .ok (.iload_n 3, 1) := by decide +kernel
theorem d_X0_live_19 : decode cX0_live 19 = .ok (.iaload, 1) := by decide +kernel
theorem d_X0_live_20 : decode cX0_live 20 = .ok (.aload_n 0, 1) := by decide +kernel
theorem d_X0_live_21 : decode cX0_live 21 = .ok (.getfield 15, 3) := by decide +kernel
theorem d_X0_live_24 : decode cX0_live 24 = .ok (.iload_n 3, 1) := by decide +kernel
theorem d_X0_live_25 : decode cX0_live 25 = .ok (.iconst 1, 1) := by decide +kernel
theorem d_X0_live_26 : decode cX0_live 26 = .ok (.iadd, 1) := by decide +kernel
theorem d_X0_live_27 : decode cX0_live 27 = .ok (.iaload, 1) := by decide +kernel
theorem d_X0_live_28 : decode cX0_live 28 = .ok (.aload_n 0, 1) := by decide +kernel
theorem d_X0_live_29 : decode cX0_live 29 = .ok (.getfield 15, 3) := by decide +kernel
theorem d_X0_live_32 : decode cX0_live 32 = .ok (.iload_n 3, 1) := by decide +kernel
theorem d_X0_live_33 : decode cX0_live 33 = .ok (.iconst 2, 1) := by decide +kernel
theorem d_X0_live_34 : decode cX0_live 34 = .ok (.iadd, 1) := by decide +kernel
theorem d_X0_live_35 : decode cX0_live 35 = .ok (.iaload, 1) := by decide +kernel
theorem d_X0_live_36 : decode cX0_live 36 = .ok (.aload_n 0, 1) := by decide +kernel
theorem d_X0_live_37 : decode cX0_live 37 = .ok (.getfield 15, 3) := by decide +kernel
theorem d_X0_live_40 : decode cX0_live 40 = .ok (.iload_n 3, 1) := by decide +kernel
theorem d_X0_live_41 : decode cX0_live 41 = .ok (.iconst 3, 1) := by decide +kernel
theorem d_X0_live_42 : decode cX0_live 42 = .ok (.iadd, 1) := by decide +kernel
theorem d_X0_live_43 : decode cX0_live 43 = .ok (.iaload, 1) := by decide +kernel
theorem d_X0_live_44 : decode cX0_live 44 = .ok (.aload_n 0, 1) := by decide +kernel
theorem d_X0_live_45 : decode cX0_live 45 = .ok (.getfield 15, 3) := by decide +kernel
theorem d_X0_live_48 : decode cX0_live 48 = .ok (.iload_n 3, 1) := by decide +kernel
theorem d_X0_live_49 : decode cX0_live 49 = .ok (.iconst 4, 1) := by decide +kernel
theorem d_X0_live_50 : decode cX0_live 50 = .ok (.iadd, 1) := by decide +kernel
theorem d_X0_live_51 : decode cX0_live 51 = .ok (.iaload, 1) := by decide +kernel
theorem d_X0_live_52 : decode cX0_live 52 = .ok (.invokevirtual 51, 3) := by decide +kernel
theorem d_X0_live_55 : decode cX0_live 55 = .ok (.ireturn, 1) := by decide +kernel
theorem d_X0_live_56 : decode cX0_live 56 = .ok (.aload_n 0, 1) := by decide +kernel
theorem d_X0_live_57 : decode cX0_live 57 = .ok (.getfield 9, 3) := by decide +kernel
theorem d_X0_live_60 : decode cX0_live 60 = .ok (.iload_n 2, 1) := by decide +kernel
theorem d_X0_live_61 : decode cX0_live 61 = .ok (.iaload, 1) := by decide +kernel
theorem d_X0_live_62 : decode cX0_live 62 = .ok (.bipush 10, 2) := by decide +kernel
theorem d_X0_live_64 : decode cX0_live 64 = .ok (.if_icmp .ne 22, 3) := by decide +kernel
theorem d_X0_live_67 : decode cX0_live 67 = .ok (.aload_n 1, 1) := by decide +kernel
theorem d_X0_live_68 : decode cX0_live 68 = .ok (.aload_n 0, 1) := by decide +kernel
theorem d_X0_live_69 : decode cX0_live 69 = .ok (.getfield 15, 3) := by decide +kernel
theorem d_X0_live_72 : decode cX0_live 72 = .ok (.iload_n 3, 1) := by decide +kernel
theorem d_X0_live_73 : decode cX0_live 73 = .ok (.iaload, 1) := by decide +kernel
theorem d_X0_live_74 : decode cX0_live 74 = .ok (.aload_n 0, 1) := by decide +kernel
theorem d_X0_live_75 : decode cX0_live 75 = .ok (.getfield 15, 3) := by decide +kernel
theorem d_X0_live_78 : decode cX0_live 78 = .ok (.iload_n 3, 1) := by decide +kernel
theorem d_X0_live_79 : decode cX0_live 79 = .ok (.iconst 1, 1) := by decide +kernel
theorem d_X0_live_80 : decode cX0_live 80 = .ok (.iadd, 1) := by decide +kernel
theorem d_X0_live_81 : decode cX0_live 81 = .ok (.iaload, 1) := by decide +kernel
theorem d_X0_live_82 : decode cX0_live 82 = .ok (.invokevirtual 55, 3) := by decide +kernel
theorem d_X0_live_85 : decode cX0_live 85 = .ok (.ireturn, 1) := by decide +kernel
theorem d_X0_live_86 : decode cX0_live 86 = .ok (.aload_n 0, 1) := by decide +kernel
theorem d_X0_live_87 : decode cX0_live 87 = .ok (.getfield 9, 3) := by decide +kernel
theorem d_X0_live_90 : decode cX0_live 90 = .ok (.iload_n 2, 1) := by decide +kernel
theorem d_X0_live_91 : decode cX0_live 91 = .ok (.iaload, 1) := by decide +kernel
theorem d_X0_live_92 : decode cX0_live 92 = .ok (.bipush 20, 2) := by decide +kernel
theorem d_X0_live_94 : decode cX0_live 94 = .ok (.if_icmp .ne 16, 3) := by decide +kernel
theorem d_X0_live_97 : decode cX0_live 97 = .ok (.aload_n 1, 1) := by decide +kernel
theorem d_X0_live_98 : decode cX0_live 98 = .ok (.aload_n 0, 1) := by decide +kernel
theorem d_X0_live_99 : decode cX0_live 99 = .ok (.getfield 15, 3) := by decide +kernel
theorem d_X0_live_102 : decode cX0_live 102 = .ok (.iload_n 3, 1) := by decide +kernel
theorem d_X0_live_103 : decode cX0_live 103 = .ok (.iaload, 1) := by decide +kernel
theorem d_X0_live_104 : decode cX0_live 104 = .ok (.invokevirtual 59, 3) := by decide +kernel
theorem d_X0_live_107 : decode cX0_live 107 = .ok (.goto 13, 3) := by decide +kernel
theorem d_X0_live_110 : decode cX0_live 110 = .ok (.aload_n 1, 1) := by decide +kernel
theorem d_X0_live_111 : decode cX0_live 111 = .ok (.aload_n 0, 1) := by decide +kernel
theorem d_X0_live_112 : decode cX0_live 112 = .ok (.getfield 15, 3) := by decide +kernel
theorem d_X0_live_115 : decode cX0_live 115 = .ok (.iload_n 3, 1) := by decide +kernel
theorem d_X0_live_116 : decode cX0_live 116 = .ok (.iaload, 1) := by decide +kernel
theorem d_X0_live_117 : decode cX0_live 117 = .ok (.invokevirtual 63, 3) := by decide +kernel
theorem d_X0_live_120 : decode cX0_live 120 = .ok (.ireturn, 1) := by decide +kernel
def k_X0_live_120 (P : xP) : xK := x_iret P
set_option maxRecDepth 20000 in
theorem t_X0_live_120 {p : Program} {l : Launch} {e : Env} {s : State} {m : MethodId} {args : Array Value} {below : List Frame} {meth : Method} {c : Code} {g : xG} (X : xX p s m args c meth cX0_live RX0 4 g) (hr : meth.sig.returnType = (some .int)) {P : xP} : xAt p l e { frames := 2, cells := 0, slots := 0, locals := 47 } s m args below meth c g 4 xFT xN 0 0 (MQ below (xQc g xFT xN P) args s 0 0 (xFr g)) (k_X0_live_120 P) 120 := by
  unfold k_X0_live_120
  exact r_iret (pc := 120) X hr d_X0_live_120
def k_X0_live_0 (P : xP) : xK := x_iload 2 (x_push (.int 5) (x_imul (x_istore 3 (x_aload 0 (y_getF 31 32 (x_iload 2 (y_iald 32 40 (x_if_ne (x_aload 0 (y_getF 31 32 (x_iload 2 (y_iald 32 40 (x_push (.int 10) (x_icmp_ne (x_aload 0 (y_getF 31 32 (x_iload 2 (y_iald 32 40 (x_push (.int 20) (x_icmp_ne (x_aload 1 (x_aload 0 (y_getF 31 33 (x_iload 3 (y_iald 33 200 (x_cv1 xN 4 (w_RI f_X4_deepen) ((k_X0_live_120 P)))))))) (x_aload 1 (x_aload 0 (y_getF 31 33 (x_iload 3 (y_iald 33 200 (x_cv1 xN 4 (w_RI f_X4_removeRule) ((k_X0_live_120 P)))))))))))))) (x_aload 1 (x_aload 0 (y_getF 31 33 (x_iload 3 (y_iald 33 200 (x_aload 0 (y_getF 31 33 (x_iload 3 (x_push (.int 1) (x_iadd (y_iald 33 200 (x_cv2 xN 4 (w_RII f_X4_unite) (x_iret P))))))))))))))))))) (x_aload 1 (x_aload 0 (y_getF 31 33 (x_iload 3 (y_iald 33 200 (x_aload 0 (y_getF 31 33 (x_iload 3 (x_push (.int 1) (x_iadd (y_iald 33 200 (x_aload 0 (y_getF 31 33 (x_iload 3 (x_push (.int 2) (x_iadd (y_iald 33 200 (x_aload 0 (y_getF 31 33 (x_iload 3 (x_push (.int 3) (x_iadd (y_iald 33 200 (x_aload 0 (y_getF 31 33 (x_iload 3 (x_push (.int 4) (x_iadd (y_iald 33 200 (x_cv5 xN 4 (w_RIIIII f_X4_appendRule) (x_iret P)))))))))))))))))))))))))))))))))))))))
set_option maxRecDepth 20000 in
theorem t_X0_live_0 {p : Program} {l : Launch} {e : Env} {s : State} {m : MethodId} {args : Array Value} {below : List Frame} {meth : Method} {c : Code} {g : xG} (X : xX p s m args c meth cX0_live RX0 4 g) (hr : meth.sig.returnType = (some .int)) {P : xP} : xAt p l e { frames := 2, cells := 0, slots := 0, locals := 47 } s m args below meth c g 4 xFT xN 0 0 (MQ below (xQc g xFT xN P) args s 0 0 (xFr g)) (k_X0_live_0 P) 0 := by
  unfold k_X0_live_0
  refine r_iload_n (pc := 0) X d_X0_live_0 fn2 ?_
  refine r_iconst (pc := 1) X d_X0_live_1 (by decide +kernel) ?_
  refine r_imul (pc := 2) X d_X0_live_2 ?_
  refine r_istore_n (pc := 3) X d_X0_live_3 fn3 (by decide +kernel) ?_
  refine r_aload_n (pc := 4) X d_X0_live_4 fn0 ?_
  refine s_getF (pc := 5) (ci := 0) (k := 0) X xok0 (by decide +kernel) ob_31 trivial ly_31_0 (by decide +kernel) fl_RX0_9 d_X0_live_5 ?_
  refine r_iload_n (pc := 8) X d_X0_live_8 fn2 ?_
  refine s_iald (pc := 9) X tn_32 ln_32 d_X0_live_9 ?_
  refine r_if_ne (pc := 10) (tgt := 56) X d_X0_live_10 (by decide +kernel) ?_ ?_
  · refine r_aload_n (pc := 56) X d_X0_live_56 fn0 ?_
    refine s_getF (pc := 57) (ci := 0) (k := 0) X xok0 (by decide +kernel) ob_31 trivial ly_31_0 (by decide +kernel) fl_RX0_9 d_X0_live_57 ?_
    refine r_iload_n (pc := 60) X d_X0_live_60 fn2 ?_
    refine s_iald (pc := 61) X tn_32 ln_32 d_X0_live_61 ?_
    refine r_bipush (pc := 62) X d_X0_live_62 (by decide +kernel) ?_
    refine r_icmp_ne (pc := 64) (tgt := 86) X d_X0_live_64 (by decide +kernel) ?_ ?_
    · refine r_aload_n (pc := 86) X d_X0_live_86 fn0 ?_
      refine s_getF (pc := 87) (ci := 0) (k := 0) X xok0 (by decide +kernel) ob_31 trivial ly_31_0 (by decide +kernel) fl_RX0_9 d_X0_live_87 ?_
      refine r_iload_n (pc := 90) X d_X0_live_90 fn2 ?_
      refine s_iald (pc := 91) X tn_32 ln_32 d_X0_live_91 ?_
      refine r_bipush (pc := 92) X d_X0_live_92 (by decide +kernel) ?_
      refine r_icmp_ne (pc := 94) (tgt := 110) X d_X0_live_94 (by decide +kernel) ?_ ?_
      · refine r_aload_n (pc := 110) X d_X0_live_110 fn1 ?_
        refine r_aload_n (pc := 111) X d_X0_live_111 fn0 ?_
        refine s_getF (pc := 112) (ci := 0) (k := 1) X xok0 (by decide +kernel) ob_31 trivial ly_31_1 (by decide +kernel) fl_RX0_15 d_X0_live_112 ?_
        refine r_iload_n (pc := 115) X d_X0_live_115 fn3 ?_
        refine s_iald (pc := 116) X tn_33 ln_33 d_X0_live_116 ?_
        refine r_cv1 (pc := 117) X xok4 (by decide +kernel) rfl (con_X4_deepen l) mf_X4_deepen ml_RX0_63 (by decide +kernel) (by decide +kernel) d_X0_live_117 ?_
        exact t_X0_live_120 X hr
      · refine r_aload_n (pc := 97) X d_X0_live_97 fn1 ?_
        refine r_aload_n (pc := 98) X d_X0_live_98 fn0 ?_
        refine s_getF (pc := 99) (ci := 0) (k := 1) X xok0 (by decide +kernel) ob_31 trivial ly_31_1 (by decide +kernel) fl_RX0_15 d_X0_live_99 ?_
        refine r_iload_n (pc := 102) X d_X0_live_102 fn3 ?_
        refine s_iald (pc := 103) X tn_33 ln_33 d_X0_live_103 ?_
        refine r_cv1 (pc := 104) X xok4 (by decide +kernel) rfl (con_X4_removeRule l) mf_X4_removeRule ml_RX0_59 (by decide +kernel) (by decide +kernel) d_X0_live_104 ?_
        refine r_goto (pc := 107) (tgt := 120) X d_X0_live_107 (by decide +kernel) ?_
        exact t_X0_live_120 X hr
    · refine r_aload_n (pc := 67) X d_X0_live_67 fn1 ?_
      refine r_aload_n (pc := 68) X d_X0_live_68 fn0 ?_
      refine s_getF (pc := 69) (ci := 0) (k := 1) X xok0 (by decide +kernel) ob_31 trivial ly_31_1 (by decide +kernel) fl_RX0_15 d_X0_live_69 ?_
      refine r_iload_n (pc := 72) X d_X0_live_72 fn3 ?_
      refine s_iald (pc := 73) X tn_33 ln_33 d_X0_live_73 ?_
      refine r_aload_n (pc := 74) X d_X0_live_74 fn0 ?_
      refine s_getF (pc := 75) (ci := 0) (k := 1) X xok0 (by decide +kernel) ob_31 trivial ly_31_1 (by decide +kernel) fl_RX0_15 d_X0_live_75 ?_
      refine r_iload_n (pc := 78) X d_X0_live_78 fn3 ?_
      refine r_iconst (pc := 79) X d_X0_live_79 (by decide +kernel) ?_
      refine r_iadd (pc := 80) X d_X0_live_80 ?_
      refine s_iald (pc := 81) X tn_33 ln_33 d_X0_live_81 ?_
      refine r_cv2 (pc := 82) X xok4 (by decide +kernel) rfl (con_X4_unite l) mf_X4_unite ml_RX0_55 (by decide +kernel) (by decide +kernel) d_X0_live_82 ?_
      exact r_iret (pc := 85) X hr d_X0_live_85
  · refine r_aload_n (pc := 13) X d_X0_live_13 fn1 ?_
    refine r_aload_n (pc := 14) X d_X0_live_14 fn0 ?_
    refine s_getF (pc := 15) (ci := 0) (k := 1) X xok0 (by decide +kernel) ob_31 trivial ly_31_1 (by decide +kernel) fl_RX0_15 d_X0_live_15 ?_
    refine r_iload_n (pc := 18) X d_X0_live_18 fn3 ?_
    refine s_iald (pc := 19) X tn_33 ln_33 d_X0_live_19 ?_
    refine r_aload_n (pc := 20) X d_X0_live_20 fn0 ?_
    refine s_getF (pc := 21) (ci := 0) (k := 1) X xok0 (by decide +kernel) ob_31 trivial ly_31_1 (by decide +kernel) fl_RX0_15 d_X0_live_21 ?_
    refine r_iload_n (pc := 24) X d_X0_live_24 fn3 ?_
    refine r_iconst (pc := 25) X d_X0_live_25 (by decide +kernel) ?_
    refine r_iadd (pc := 26) X d_X0_live_26 ?_
    refine s_iald (pc := 27) X tn_33 ln_33 d_X0_live_27 ?_
    refine r_aload_n (pc := 28) X d_X0_live_28 fn0 ?_
    refine s_getF (pc := 29) (ci := 0) (k := 1) X xok0 (by decide +kernel) ob_31 trivial ly_31_1 (by decide +kernel) fl_RX0_15 d_X0_live_29 ?_
    refine r_iload_n (pc := 32) X d_X0_live_32 fn3 ?_
    refine r_iconst (pc := 33) X d_X0_live_33 (by decide +kernel) ?_
    refine r_iadd (pc := 34) X d_X0_live_34 ?_
    refine s_iald (pc := 35) X tn_33 ln_33 d_X0_live_35 ?_
    refine r_aload_n (pc := 36) X d_X0_live_36 fn0 ?_
    refine s_getF (pc := 37) (ci := 0) (k := 1) X xok0 (by decide +kernel) ob_31 trivial ly_31_1 (by decide +kernel) fl_RX0_15 d_X0_live_37 ?_
    refine r_iload_n (pc := 40) X d_X0_live_40 fn3 ?_
    refine r_iconst (pc := 41) X d_X0_live_41 (by decide +kernel) ?_
    refine r_iadd (pc := 42) X d_X0_live_42 ?_
    refine s_iald (pc := 43) X tn_33 ln_33 d_X0_live_43 ?_
    refine r_aload_n (pc := 44) X d_X0_live_44 fn0 ?_
    refine s_getF (pc := 45) (ci := 0) (k := 1) X xok0 (by decide +kernel) ob_31 trivial ly_31_1 (by decide +kernel) fl_RX0_15 d_X0_live_45 ?_
    refine r_iload_n (pc := 48) X d_X0_live_48 fn3 ?_
    refine r_iconst (pc := 49) X d_X0_live_49 (by decide +kernel) ?_
    refine r_iadd (pc := 50) X d_X0_live_50 ?_
    refine s_iald (pc := 51) X tn_33 ln_33 d_X0_live_51 ?_
    refine r_cv5 (pc := 52) X xok4 (by decide +kernel) rfl (con_X4_appendRule l) mf_X4_appendRule ml_RX0_51 (by decide +kernel) (by decide +kernel) d_X0_live_52 ?_
    exact r_iret (pc := 55) X hr d_X0_live_55
def f_X0_live (a0 : Nat) (a1 : Nat) (a2 : Int32) (A : xH) (P : xP) : Prop := k_X0_live_0 P [some (.ref a0), some (.ref a1), some (.int a2), none] [] A
set_option maxRecDepth 20000 in
theorem con_X0_live (l : Launch) : xCon l yX0_live cX0_live 4 (some .int) 2 47 xN xN 0 xFT xFT (w_RRI f_X0_live) :=
  xc_RRI (plainFor_of_name pn_RX0) (by decide +kernel) (fun p e s m args below meth c g a0 a1 a2 A P h X hr _ => ⟨_, h, t_X0_live_0 X hr⟩)
theorem lx30b : (30 : Int32) = nI 30 := rfl
theorem lx19 : (19 : Int32) = nI 19 := rfl
theorem lx29 : (29 : Int32) = nI 29 := rfl
theorem lx11 : (11 : Int32) = nI 11 := rfl
theorem lx31 : (31 : Int32) = nI 31 := rfl
def vaddB (v : xV) (k : Nat) (l : List Nat) : xV := vadd v k l.length (l.getD 0 0) (l.getD 1 0) (l.getD 2 0)
def okL (v : xV) (x : xBL) : Prop := x.1 ≤ 3 ∧ (x.1 = 0 → x.2.1 < vK v ∧ x.2.2.2.length ≤ 3 ∧ ∀ y, y ∈ x.2.2.2 → y < vS v ∨ (8 ≤ y ∧ y < 8 + vK v)) ∧ (x.1 = 1 → x.2.1 ≤ 9) ∧ (x.1 = 2 → 2 ≤ x.2.1 ∧ x.2.1 ≤ 41 ∧ 2 ≤ x.2.2.1 ∧ x.2.2.1 ≤ 41) ∧ (x.1 = 3 → x.2.1 ≤ 1)
theorem okL_same {v w : xV} {x : xBL} (h : okL v x) (hn : sameN v w) : okL w x := by
  obtain ⟨h1, h2, h3⟩ := h
  exact ⟨h1, fun q => by rw [hn.1, hn.2.1]; exact h2 q, h3⟩
/-- a LINE lived: what is so then, why it is WRONG -/
def doL (v : xV) (x : xBL) : xV × Nat :=
  if x.1 = 0 then (if vR v = 10 then (v, 1) else (vaddB v x.2.1 x.2.2.2, 0))
  else if x.1 = 1 then (if x.2.1 < vR v then (vdrop v x.2.1, 0) else (v, 29))
  else if x.1 = 2 then (if x.2.1 < vN v ∧ x.2.2.1 < vN v then (if vcl v x.2.1 = vcl v x.2.2.1 then (v, 11) else (vunite v x.2.1 x.2.2.1, 0)) else (v, 19))
  else (if x.2.1 = vD v then (v, 31) else (vdeep v x.2.1, 0))
def jd (v : xV) (b : Nat → xBL) : Nat → xV × Nat × Nat
  | 0 => (v, 0, 0)
  | i + 1 => if (jd v b i).2.2 = 0 then ((doL (jd v b i).1 (b i)).1, (if (doL (jd v b i).1 (b i)).2 = 0 then (jd v b i).2.1 + 1 else (jd v b i).2.1), (doL (jd v b i).1 (b i)).2) else jd v b i
theorem getD_ok {l : List Nat} {v : xV} (h : ∀ y, y ∈ l → y < vS v ∨ (8 ≤ y ∧ y < 8 + vK v)) {t : Nat} (ht : t < l.length) : l.getD t 0 < vS v ∨ (8 ≤ l.getD t 0 ∧ l.getD t 0 < 8 + vK v) := by
  have : l.getD t 0 = l[t] := by rw [List.getD_eq_getElem?_getD, List.getElem?_eq_getElem ht]; rfl
  rw [this]
  exact h _ (List.getElem_mem ht)
theorem do_wf {v : xV} {x : xBL} (h : wf v) (hx : okL v x) : wf (doL v x).1 ∧ sameN v (doL v x).1 := by
  obtain ⟨x1, x2, x3, x4, x5⟩ := hx
  have h10 := h.1.2.2.1
  unfold doL
  split
  · rename_i q
    obtain ⟨a1, a2, a3⟩ := x2 q
    split
    · exact ⟨h, sameN_rf⟩
    · refine ⟨wf_add h a1 a2 (by omega) fun t ht => ?_, ⟨rfl, rfl, rfl, rfl⟩⟩
      have e : (if t = 0 then x.2.2.2.getD 0 0 else if t = 1 then x.2.2.2.getD 1 0 else x.2.2.2.getD 2 0) = x.2.2.2.getD t 0 := by
        rcases (show t = 0 ∨ t = 1 ∨ t = 2 by omega) with rfl | rfl | rfl <;> rfl
      rw [e]
      exact getD_ok a3 ht
  · split
    · split
      · rename_i q
        exact ⟨wf_drop h q, ⟨rfl, rfl, rfl, rfl⟩⟩
      · exact ⟨h, sameN_rf⟩
    · split
      · rename_i q
        have := x4 q
        split
        · rename_i q2
          split
          · exact ⟨h, sameN_rf⟩
          · rename_i q3
            exact ⟨wf_unite h (by omega) q2.1 (by omega) q2.2 q3, ⟨rfl, rfl, rfl, rfl⟩⟩
        · exact ⟨h, sameN_rf⟩
      · split
        · exact ⟨h, sameN_rf⟩
        · exact ⟨wf_deep h (x5 (by omega)), ⟨rfl, rfl, rfl, rfl⟩⟩
theorem jd_wf {v : xV} {b : Nat → xBL} (h : wf v) : ∀ i, (∀ k, k < i → okL v (b k)) → wf (jd v b i).1 ∧ sameN v (jd v b i).1
  | 0, _ => ⟨h, sameN_rf⟩
  | i + 1, hb => by
    have h1 := jd_wf h i (fun k hk => hb k (by omega))
    simp only [jd]
    split
    · have h2 := do_wf h1.1 (okL_same (hb i (by omega)) h1.2)
      exact ⟨h2.1, sameN_tr h1.2 h2.2⟩
    · exact h1
theorem jd_le (v : xV) (b : Nat → xBL) : ∀ i, (jd v b i).2.1 ≤ i
  | 0 => Nat.le_refl _
  | i + 1 => by
    have := jd_le v b i
    simp only [jd]
    split
    · dsimp only; split <;> omega
    · omega
theorem jd_eq (v : xV) (b : Nat → xBL) : ∀ i, (jd v b i).2.2 = 0 → (jd v b i).2.1 = i
  | 0, _ => rfl
  | i + 1, h => by
    simp only [jd] at h ⊢
    split at h
    · rename_i q
      rw [if_pos q]
      dsimp only at h ⊢
      rw [if_pos h, jd_eq v b i q]
    · rename_i q
      exact absurd h q
theorem jd_st {v : xV} {b : Nat → xBL} {i : Nat} (h : (jd v b i).2.2 ≠ 0) : ∀ k, i ≤ k → jd v b k = jd v b i := by
  intro k hk
  induction k with
  | zero => rw [show i = 0 by omega]
  | succ k ih =>
    rcases Nat.lt_or_ge k i with q | q
    · rw [show i = k + 1 by omega]
    · have := ih q
      simp only [jd]
      rw [this, if_neg h]
theorem do_31 (v : xV) (x : xBL) : (doL v x).2 ≤ 31 := by
  unfold doL
  repeat' split
  all_goals (dsimp only; omega)
theorem bln_ok {v : xV} {f : Nat → Nat} {n p c z : Nat} {x : xBL} (h1 : vS v ≤ 4) (h2 : vK v ≤ 5) (h : bln v f n p c = .inr (x, z)) : okL v x := by
  unfold bln at h
  split at h
  · cases h
  · split at h
    · cases h
    · split at h
      · split at h
        · cases h
        · rename_i k l y hr
          simp only [Sum.inr.injEq, Prod.mk.injEq] at h
          obtain ⟨rfl, -⟩ := h
          have := rln_ok3 h1 h2 hr
          exact ⟨Nat.zero_le _, fun _ => ⟨this.1, this.2.2.1, this.2.1⟩, fun q => (by cases q), fun q => (by cases q), fun q => (by cases q)⟩
      · split at h
        · split at h
          · cases h
          · rename_i a y hr
            simp only [Sum.inr.injEq, Prod.mk.injEq] at h
            obtain ⟨rfl, -⟩ := h
            have := nbr_ok hr
            exact ⟨by show (1 : Nat) ≤ 3; omega, fun q => (by cases q), fun _ => this.2.1, fun q => (by cases q), fun q => (by cases q)⟩
        · split at h
          · split at h
            · cases h
            · rename_i a y hr
              split at h
              · cases h
              · rename_i a2 y2 hr2
                simp only [Sum.inr.injEq, Prod.mk.injEq] at h
                obtain ⟨rfl, -⟩ := h
                have := nbr_ok hr
                have := nbr_ok hr2
                exact ⟨by show (2 : Nat) ≤ 3; omega, fun q => (by cases q), fun q => (by cases q), fun _ => ⟨by show 2 ≤ a; omega, by show a ≤ 41; omega, by show 2 ≤ a2; omega, by show a2 ≤ 41; omega⟩, fun q => (by cases q)⟩
          · split at h
            · cases h
            · rename_i a y hr
              simp only [Sum.inr.injEq, Prod.mk.injEq] at h
              obtain ⟨rfl, -⟩ := h
              have := nbr_ok hr
              exact ⟨by show (3 : Nat) ≤ 3; omega, fun q => (by cases q), fun q => (by cases q), fun q => (by cases q), fun _ => this.2.1⟩
theorem blm_ok {v : xV} {f : Nat → Nat} {n p c z : Nat} {x : xBL} (h1 : vS v ≤ 4) (h2 : vK v ≤ 5) (h : blm v f n p c = .inr (x, z)) : okL v x := by
  unfold blm at h
  split at h
  · cases h
  · rename_i y w hr
    split at h
    · cases h
    · simp only [Sum.inr.injEq, Prod.mk.injEq] at h
      obtain ⟨rfl, -⟩ := h
      exact bln_ok h1 h2 hr
theorem bkp_ok {v : xV} {f : Nat → Nat} {n : Nat} (h1 : vS v ≤ 4) (h2 : vK v ≤ 5) : ∀ g p c b c2 b2, bkp v f n g p c b = .inr (c2, b2) → (∀ i, i < c → okL v (b i)) → ∀ i, i < c2 → okL v (b2 i)
  | 0, _, _, _, _, _, h, _ => by cases h
  | g + 1, p, c, b, c2, b2, h, hb => by
    rw [bkp_s] at h
    split at h
    · simp only [Sum.inr.injEq, Prod.mk.injEq] at h
      obtain ⟨rfl, rfl⟩ := h
      exact hb
    · split at h
      · cases h
      · rename_i x z hr
        refine bkp_ok h1 h2 g z (c + 1) _ c2 b2 h fun i hi => ?_
        by_cases q : i = c
        · rw [if_pos q]; exact blm_ok h1 h2 hr
        · rw [if_neg q]; exact hb i (by omega)
/-! the class's -/
theorem rowIs_t {A : xH} {c o k : Nat} {l : List Nat} (h : rowIs A c o k l) {t : Nat} (ht : t < 3) : xi A c (o + 2 + t) = if t < l.length then nI (l.getD t 0) else -1 := by
  rw [h.2.2 t ht]
  by_cases q : t < l.length
  · rw [dif_pos q, if_pos q, List.getD_eq_getElem?_getD, List.getElem?_eq_getElem q]; rfl
  · rw [dif_neg q, if_neg q]
theorem live_C {A : xH} {P : xP} {v : xV} {n : Nat} {x : xBL} (hM : isM A 18 v) (hn : n < 40) (hx : lnC A n x) (ho : okL v x)
    (h0 : (doL v x).2 = 0 → ∀ B, xoff A B 18 27 → isM B 18 (doL v x).1 → P (some (.int 0)) B)
    (h1 : ∀ y : Int32, y ≠ 0 → (doL v x).2 ≠ 0 → (doL v x).1 = v → nI (doL v x).2 = xi A 32 n + (if y = 1 then 1 else 9) → P (some (.int y)) A) : f_X0_live 31 18 (nI n) A P := by
  obtain ⟨l1, l2, l3, l4, l5⟩ := hx
  obtain ⟨o1, o2, o3, o4, o5⟩ := ho
  have m1 := hM.1.1.1
  have hR := hM.1.2.1.2.2.1
  have hK := hM.1.2.1.2.1
  have hS := hM.1.2.1.1
  have hN := isM_N hM
  unfold f_X0_live
  have comm : nI n * nI 5 = nI (5 * n) := by rw [pk_mul, Nat.mul_comm]
  rcases (show x.1 = 0 ∨ x.1 = 1 ∨ x.1 = 2 ∨ x.1 = 3 by omega) with q | q | q | q
  · obtain ⟨r1, r2, -⟩ := l3 q
    have rt := fun t ht => rowIs_t (l3 q) (t := t) ht
    obtain ⟨p1, p2, p3⟩ := o2 q
    have d0 : doL v x = if vR v = 10 then (v, 1) else (vaddB v x.2.1 x.2.2.2, 0) := by unfold doL; rw [if_pos q]
    rw [if_pos q] at l2
    simp (disch := omega) only [k_X0_live_0, k_X0_live_120, w_RI, w_RII, w_RIIIII, x_aload, x_cv1, x_cv2, x_cv5, x_iadd, x_icmp_ne, x_if_ne, x_iload, x_imul, x_iret, x_istore, x_push, y_getF, y_iald, xFT, xbool0, xbool1, Nat.reduceAdd, Nat.zero_add, xgl_0, xgl_s, xgl_n, xst_0, xst_1n, xst_1i, xst_1r, xst_1l, xst_s, set_0, set_s, true_and, and_true, xres, xcat_nil, xcat_i, xcat_r, xcat_l, Nat.add_zero, xble0, xble1, xble2, xble3, xble4, xble5, xble6, xble7, xble8, comm, pk_mul, nI_add, nI_1, nI_leI, nI_ltI, nI_eq, n_in, n_cl, z_eq, z_lt, z_le, z_gt, z_ge, z_qe, o_eq, o_lt, o_le, o_gt, o_ge, vp0, vp1, cl0, cl1, n_sub, n_sub1, n_pm1, n_a0, n_0a, ofn, lN0, Nat.reduceLT, Nat.reduceLeDiff, Nat.reduceMul, Nat.reduceSub, Nat.reduceEqDiff, ne_eq, true_implies, false_implies, not_true_eq_false, not_false_eq_true, and_self, and_true, true_and, and_false, false_and, implies_true, if_true, if_false, i00, i10, i01, i11, ob_0, ob_1, tn_2, ln_2, ob_3, tn_4, ln_4, ob_5, tn_6, ln_6, tn_7, ln_7, ob_8, tn_9, ln_9, tn_10, ln_10, tn_11, ln_11, tn_12, ln_12, tn_13, ln_13, tn_14, ln_14, tn_15, ln_15, tn_16, ln_16, tn_17, ln_17, ob_18, tn_19, ln_19, tn_20, ln_20, tn_21, ln_21, tn_22, ln_22, tn_23, ln_23, tn_24, ln_24, tn_25, ln_25, tn_26, ln_26, tn_27, ln_27, ob_28, tn_29, ln_29, tn_30, ln_30, ob_31, tn_32, ln_32, tn_33, ln_33, ob_34, ob_35, tn_36, ln_36, tn_37, ln_37, tn_38, ln_38, ob_39, tn_40, ln_40, tn_41, ln_41, tn_42, ln_42, tn_43, ln_43, tn_44, ln_44, tn_45, ln_45, tn_46, ln_46, tn_47, ln_47, tn_48, ln_48, tn_49, ln_49, tn_50, ln_50, tn_51, ln_51, ob_52, tn_53, ln_53, tn_54, ln_54, tn_55, ln_55, tn_56, ln_56, ob_57, tn_58, ln_58, tn_59, ln_59, tn_60, ln_60, tn_61, ln_61, tn_62, ln_62, tn_63, ln_63, tn_64, ln_64, tn_65, ln_65, ob_66, tn_67, ln_67, tn_68, ln_68, tn_69, ln_69, tn_70, ln_70, tn_71, ln_71, tn_72, ln_72, tn_73, ln_73, ob_74, tn_75, ln_75, tn_76, ln_76, tn_77, ln_77, tn_78, ln_78, tn_79, ln_79, tn_80, ln_80, tn_81, ln_81, tn_82, ln_82, tn_83, ln_83, ob_84, tn_85, ln_85, tn_86, ln_86, tn_87, ln_87, tn_88, ln_88, tn_89, ln_89, tn_90, ln_90, tn_91, ln_91, tn_92, ln_92, tn_93, ln_93, ob_94, tn_95, ln_95, tn_96, ln_96, tn_97, ln_97, tn_98, ln_98, tn_99, ln_99, tn_100, ln_100, tn_101, ln_101, tn_102, ln_102, tn_103, ln_103, ob_104, tn_105, ln_105, tn_106, ln_106, tn_107, ln_107, tn_108, ln_108, tn_109, ln_109, tn_110, ln_110, tn_111, ln_111, tn_112, ln_112, tn_113, ln_113, ob_114, tn_115, ln_115, tn_116, ln_116, tn_117, ln_117, tn_118, ln_118, tn_119, ln_119, tn_120, ln_120, tn_121, ln_121, tn_122, ln_122, tn_123, ln_123, ob_124, tn_125, ln_125, tn_126, ln_126, tn_127, ln_127, tn_128, ln_128, tn_129, ln_129, tn_130, ln_130, tn_131, ln_131, tn_132, ln_132, tn_133, ln_133, ob_134, tn_135, ln_135, tn_136, ln_136, tn_137, ln_137, tn_138, ln_138, tn_139, ln_139, tn_140, ln_140, tn_141, ln_141, tn_142, ln_142, tn_143, ln_143, ob_144, tn_145, ln_145, tn_146, ln_146, tn_147, ln_147, tn_148, ln_148, tn_149, ln_149, tn_150, ln_150, tn_151, ln_151, tn_152, ln_152, tn_153, ln_153, ob_154, tn_155, ln_155, tn_156, ln_156, tn_157, ln_157, tn_158, ln_158, tn_159, ln_159, tn_160, ln_160, tn_161, ln_161, tn_162, ln_162, tn_163, ln_163, ob_164, tn_165, ln_165, tn_166, ln_166, ob_167, tn_168, ln_168, tn_169, ln_169, tn_170, ln_170, tn_171, ln_171, tn_172, ln_172, tn_173, ln_173, tn_174, ln_174, tn_175, ln_175, tn_176, ln_176, ob_177, tn_178, ln_178, tn_179, ln_179, ob_180, tn_181, ln_181, tn_182, ln_182, tn_183, ln_183, tn_184, ln_184, tn_185, ln_185, tn_186, ln_186, tn_187, ln_187, tn_188, ln_188, tn_189, ln_189, tn_190, ln_190, tn_191, ln_191, tn_192, ln_192, tn_193, ln_193, tn_194, ln_194, tn_195, ln_195, tn_196, ln_196, tn_197, ln_197, tn_198, ln_198, tn_199, ln_199, tn_200, ln_200, tn_201, ln_201, tn_202, ln_202, tn_203, ln_203, tn_204, ln_204, tn_205, ln_205, tn_206, ln_206, tn_207, ln_207, tn_208, ln_208, tn_209, ln_209, tn_210, ln_210, tn_211, ln_211, tn_212, ln_212, tn_213, ln_213, tn_214, ln_214, tn_215, ln_215, tn_216, ln_216, tn_217, ln_217, tn_218, ln_218, tn_219, ln_219, tn_220, ln_220, tn_221, ln_221, tn_222, ln_222, tn_223, ln_223, tn_224, ln_224, tn_225, ln_225, tn_226, ln_226, tn_227, ln_227, tn_228, ln_228, tn_229, ln_229, tn_230, ln_230, lx2, lx3, lx4, lx5, lx6, lx7, lx8, lx9, lx10, lx14, lx15, lx16, lx18, lx20, lx24, lx25, lx27, lx32, lx36, lx40, lx41, lx42, lx43, lx45, lx48, lx52, lx54, lx56, lx57, lx58, lx60, lx61, lx62, lx63, lx64, lx66, lx69, lx73, lx80, lx81, lx84, lx85, lx87, lx94, lx96, lx97, lx120, lx128, lx135, lx160, lx162, lx163, lx165, lx200, lx232, lx242, lx243, lx255, lx256, lx320, lx325, lx400, lx405, lx464, lx512, lx600, lx640, lx752, lx900, lx940, lx1000, lx1024, lx1764, lx3360, lx3840, lx5000, lx6400, lx9050, lx9998, lx9999, lx10000, lx25600, lx76800, lx99999, hn, l2, m1, show 5 * n < 200 by omega, show 5 * n + 1 < 200 by omega, show 5 * n + 2 < 200 by omega, show 5 * n + 3 < 200 by omega, show 5 * n + 4 < 200 by omega]
    have a0 := rt 0 (by omega)
    have a1 := rt 1 (by omega)
    have a2 := rt 2 (by omega)
    rw [show 5 * n + 2 + 0 = 5 * n + 2 by omega] at a0
    rw [show 5 * n + 2 + 1 = 5 * n + 3 by omega] at a1
    rw [show 5 * n + 2 + 2 = 5 * n + 4 by omega] at a2
    rw [r1, r2, a0, a1, a2]
    have sy : ∀ t, symN (if t < x.2.2.2.length then nI (x.2.2.2.getD t 0) else -1) = x.2.2.2.getD t 0 := fun t => by
      by_cases w : t < x.2.2.2.length
      · have := getD_ok (v := v) p3 w
        rw [if_pos w, symN_n (by omega)]
      · rw [if_neg w, symN_m, List.getD_eq_getElem?_getD, List.getElem?_eq_none (by omega)]; rfl
    refine ⟨v, hM, fun _ => ⟨fun h10 => ?_, fun h10 B hB hf => ?_⟩, fun hno => absurd ⟨⟨_, rfl, p1⟩, ⟨_, rfl, p2, fun w => ?_, fun w => ?_, fun w => ?_⟩⟩ hno⟩
    · rw [if_pos h10] at d0
      exact h1 1 (by decide) (by rw [d0]; show (1 : Nat) ≠ 0; omega) (by rw [d0]) (by rw [d0, l2, if_pos rfl]; rfl)
    · rw [if_neg (by omega)] at d0
      refine h0 (by rw [d0]) B hf ?_
      rw [d0]
      rw [symN_n (by omega), symN_n (by omega), sy 0, sy 1, sy 2] at hB
      exact hB
    · rw [if_pos w]; exact symI_n (getD_ok p3 w)
    · rw [if_pos w]; exact symI_n (getD_ok p3 w)
    · rw [if_pos w]; exact symI_n (getD_ok p3 w)
  · have r1 := l4 (by omega)
    have p1 := o3 q
    have d0 : doL v x = if x.2.1 < vR v then (vdrop v x.2.1, 0) else (v, 29) := by unfold doL; rw [if_neg (by omega), if_pos q]
    rw [if_neg (by omega), if_pos q] at l2
    simp (disch := omega) only [k_X0_live_0, k_X0_live_120, w_RI, w_RII, w_RIIIII, x_aload, x_cv1, x_cv2, x_cv5, x_iadd, x_icmp_ne, x_if_ne, x_iload, x_imul, x_iret, x_istore, x_push, y_getF, y_iald, xFT, xbool0, xbool1, Nat.reduceAdd, Nat.zero_add, xgl_0, xgl_s, xgl_n, xst_0, xst_1n, xst_1i, xst_1r, xst_1l, xst_s, set_0, set_s, true_and, and_true, xres, xcat_nil, xcat_i, xcat_r, xcat_l, Nat.add_zero, xble0, xble1, xble2, xble3, xble4, xble5, xble6, xble7, xble8, comm, pk_mul, nI_add, nI_1, nI_leI, nI_ltI, nI_eq, n_in, n_cl, z_eq, z_lt, z_le, z_gt, z_ge, z_qe, o_eq, o_lt, o_le, o_gt, o_ge, vp0, vp1, cl0, cl1, n_sub, n_sub1, n_pm1, n_a0, n_0a, ofn, lN0, Nat.reduceLT, Nat.reduceLeDiff, Nat.reduceMul, Nat.reduceSub, Nat.reduceEqDiff, ne_eq, true_implies, false_implies, not_true_eq_false, not_false_eq_true, and_self, and_true, true_and, and_false, false_and, implies_true, if_true, if_false, i00, i10, i01, i11, ob_0, ob_1, tn_2, ln_2, ob_3, tn_4, ln_4, ob_5, tn_6, ln_6, tn_7, ln_7, ob_8, tn_9, ln_9, tn_10, ln_10, tn_11, ln_11, tn_12, ln_12, tn_13, ln_13, tn_14, ln_14, tn_15, ln_15, tn_16, ln_16, tn_17, ln_17, ob_18, tn_19, ln_19, tn_20, ln_20, tn_21, ln_21, tn_22, ln_22, tn_23, ln_23, tn_24, ln_24, tn_25, ln_25, tn_26, ln_26, tn_27, ln_27, ob_28, tn_29, ln_29, tn_30, ln_30, ob_31, tn_32, ln_32, tn_33, ln_33, ob_34, ob_35, tn_36, ln_36, tn_37, ln_37, tn_38, ln_38, ob_39, tn_40, ln_40, tn_41, ln_41, tn_42, ln_42, tn_43, ln_43, tn_44, ln_44, tn_45, ln_45, tn_46, ln_46, tn_47, ln_47, tn_48, ln_48, tn_49, ln_49, tn_50, ln_50, tn_51, ln_51, ob_52, tn_53, ln_53, tn_54, ln_54, tn_55, ln_55, tn_56, ln_56, ob_57, tn_58, ln_58, tn_59, ln_59, tn_60, ln_60, tn_61, ln_61, tn_62, ln_62, tn_63, ln_63, tn_64, ln_64, tn_65, ln_65, ob_66, tn_67, ln_67, tn_68, ln_68, tn_69, ln_69, tn_70, ln_70, tn_71, ln_71, tn_72, ln_72, tn_73, ln_73, ob_74, tn_75, ln_75, tn_76, ln_76, tn_77, ln_77, tn_78, ln_78, tn_79, ln_79, tn_80, ln_80, tn_81, ln_81, tn_82, ln_82, tn_83, ln_83, ob_84, tn_85, ln_85, tn_86, ln_86, tn_87, ln_87, tn_88, ln_88, tn_89, ln_89, tn_90, ln_90, tn_91, ln_91, tn_92, ln_92, tn_93, ln_93, ob_94, tn_95, ln_95, tn_96, ln_96, tn_97, ln_97, tn_98, ln_98, tn_99, ln_99, tn_100, ln_100, tn_101, ln_101, tn_102, ln_102, tn_103, ln_103, ob_104, tn_105, ln_105, tn_106, ln_106, tn_107, ln_107, tn_108, ln_108, tn_109, ln_109, tn_110, ln_110, tn_111, ln_111, tn_112, ln_112, tn_113, ln_113, ob_114, tn_115, ln_115, tn_116, ln_116, tn_117, ln_117, tn_118, ln_118, tn_119, ln_119, tn_120, ln_120, tn_121, ln_121, tn_122, ln_122, tn_123, ln_123, ob_124, tn_125, ln_125, tn_126, ln_126, tn_127, ln_127, tn_128, ln_128, tn_129, ln_129, tn_130, ln_130, tn_131, ln_131, tn_132, ln_132, tn_133, ln_133, ob_134, tn_135, ln_135, tn_136, ln_136, tn_137, ln_137, tn_138, ln_138, tn_139, ln_139, tn_140, ln_140, tn_141, ln_141, tn_142, ln_142, tn_143, ln_143, ob_144, tn_145, ln_145, tn_146, ln_146, tn_147, ln_147, tn_148, ln_148, tn_149, ln_149, tn_150, ln_150, tn_151, ln_151, tn_152, ln_152, tn_153, ln_153, ob_154, tn_155, ln_155, tn_156, ln_156, tn_157, ln_157, tn_158, ln_158, tn_159, ln_159, tn_160, ln_160, tn_161, ln_161, tn_162, ln_162, tn_163, ln_163, ob_164, tn_165, ln_165, tn_166, ln_166, ob_167, tn_168, ln_168, tn_169, ln_169, tn_170, ln_170, tn_171, ln_171, tn_172, ln_172, tn_173, ln_173, tn_174, ln_174, tn_175, ln_175, tn_176, ln_176, ob_177, tn_178, ln_178, tn_179, ln_179, ob_180, tn_181, ln_181, tn_182, ln_182, tn_183, ln_183, tn_184, ln_184, tn_185, ln_185, tn_186, ln_186, tn_187, ln_187, tn_188, ln_188, tn_189, ln_189, tn_190, ln_190, tn_191, ln_191, tn_192, ln_192, tn_193, ln_193, tn_194, ln_194, tn_195, ln_195, tn_196, ln_196, tn_197, ln_197, tn_198, ln_198, tn_199, ln_199, tn_200, ln_200, tn_201, ln_201, tn_202, ln_202, tn_203, ln_203, tn_204, ln_204, tn_205, ln_205, tn_206, ln_206, tn_207, ln_207, tn_208, ln_208, tn_209, ln_209, tn_210, ln_210, tn_211, ln_211, tn_212, ln_212, tn_213, ln_213, tn_214, ln_214, tn_215, ln_215, tn_216, ln_216, tn_217, ln_217, tn_218, ln_218, tn_219, ln_219, tn_220, ln_220, tn_221, ln_221, tn_222, ln_222, tn_223, ln_223, tn_224, ln_224, tn_225, ln_225, tn_226, ln_226, tn_227, ln_227, tn_228, ln_228, tn_229, ln_229, tn_230, ln_230, lx2, lx3, lx4, lx5, lx6, lx7, lx8, lx9, lx10, lx14, lx15, lx16, lx18, lx20, lx24, lx25, lx27, lx32, lx36, lx40, lx41, lx42, lx43, lx45, lx48, lx52, lx54, lx56, lx57, lx58, lx60, lx61, lx62, lx63, lx64, lx66, lx69, lx73, lx80, lx81, lx84, lx85, lx87, lx94, lx96, lx97, lx120, lx128, lx135, lx160, lx162, lx163, lx165, lx200, lx232, lx242, lx243, lx255, lx256, lx320, lx325, lx400, lx405, lx464, lx512, lx600, lx640, lx752, lx900, lx940, lx1000, lx1024, lx1764, lx3360, lx3840, lx5000, lx6400, lx9050, lx9998, lx9999, lx10000, lx25600, lx76800, lx99999, hn, l2, m1, r1, show 5 * n < 200 by omega]
    refine ⟨v, hM, fun r hr hr2 B hB hf => ?_, fun hno => ?_⟩
    · have : r = x.2.1 := ((nI_eq (by omega) (by omega)).mp hr).symm
      subst this
      rw [if_pos hr2] at d0
      exact h0 (by rw [d0]) B hf (by rw [d0]; exact hB)
    · have : ¬ x.2.1 < vR v := fun w => hno ⟨_, rfl, w⟩
      rw [if_neg this] at d0
      exact h1 (-1) (by decide) (by rw [d0]; show (29 : Nat) ≠ 0; omega) (by rw [d0]) (by rw [d0, l2, if_neg (by decide)]; rfl)
  · have r1 := l4 (by omega)
    have r2 := l5 q
    have p1 := o4 q
    have d0 : doL v x = if x.2.1 < vN v ∧ x.2.2.1 < vN v then (if vcl v x.2.1 = vcl v x.2.2.1 then (v, 11) else (vunite v x.2.1 x.2.2.1, 0)) else (v, 19) := by unfold doL; rw [if_neg (by omega), if_neg (by omega), if_pos q]
    rw [if_neg (by omega), if_neg (by omega), if_pos q] at l2
    simp (disch := omega) only [k_X0_live_0, k_X0_live_120, w_RI, w_RII, w_RIIIII, x_aload, x_cv1, x_cv2, x_cv5, x_iadd, x_icmp_ne, x_if_ne, x_iload, x_imul, x_iret, x_istore, x_push, y_getF, y_iald, xFT, xbool0, xbool1, Nat.reduceAdd, Nat.zero_add, xgl_0, xgl_s, xgl_n, xst_0, xst_1n, xst_1i, xst_1r, xst_1l, xst_s, set_0, set_s, true_and, and_true, xres, xcat_nil, xcat_i, xcat_r, xcat_l, Nat.add_zero, xble0, xble1, xble2, xble3, xble4, xble5, xble6, xble7, xble8, comm, pk_mul, nI_add, nI_1, nI_leI, nI_ltI, nI_eq, n_in, n_cl, z_eq, z_lt, z_le, z_gt, z_ge, z_qe, o_eq, o_lt, o_le, o_gt, o_ge, vp0, vp1, cl0, cl1, n_sub, n_sub1, n_pm1, n_a0, n_0a, ofn, lN0, Nat.reduceLT, Nat.reduceLeDiff, Nat.reduceMul, Nat.reduceSub, Nat.reduceEqDiff, ne_eq, true_implies, false_implies, not_true_eq_false, not_false_eq_true, and_self, and_true, true_and, and_false, false_and, implies_true, if_true, if_false, i00, i10, i01, i11, ob_0, ob_1, tn_2, ln_2, ob_3, tn_4, ln_4, ob_5, tn_6, ln_6, tn_7, ln_7, ob_8, tn_9, ln_9, tn_10, ln_10, tn_11, ln_11, tn_12, ln_12, tn_13, ln_13, tn_14, ln_14, tn_15, ln_15, tn_16, ln_16, tn_17, ln_17, ob_18, tn_19, ln_19, tn_20, ln_20, tn_21, ln_21, tn_22, ln_22, tn_23, ln_23, tn_24, ln_24, tn_25, ln_25, tn_26, ln_26, tn_27, ln_27, ob_28, tn_29, ln_29, tn_30, ln_30, ob_31, tn_32, ln_32, tn_33, ln_33, ob_34, ob_35, tn_36, ln_36, tn_37, ln_37, tn_38, ln_38, ob_39, tn_40, ln_40, tn_41, ln_41, tn_42, ln_42, tn_43, ln_43, tn_44, ln_44, tn_45, ln_45, tn_46, ln_46, tn_47, ln_47, tn_48, ln_48, tn_49, ln_49, tn_50, ln_50, tn_51, ln_51, ob_52, tn_53, ln_53, tn_54, ln_54, tn_55, ln_55, tn_56, ln_56, ob_57, tn_58, ln_58, tn_59, ln_59, tn_60, ln_60, tn_61, ln_61, tn_62, ln_62, tn_63, ln_63, tn_64, ln_64, tn_65, ln_65, ob_66, tn_67, ln_67, tn_68, ln_68, tn_69, ln_69, tn_70, ln_70, tn_71, ln_71, tn_72, ln_72, tn_73, ln_73, ob_74, tn_75, ln_75, tn_76, ln_76, tn_77, ln_77, tn_78, ln_78, tn_79, ln_79, tn_80, ln_80, tn_81, ln_81, tn_82, ln_82, tn_83, ln_83, ob_84, tn_85, ln_85, tn_86, ln_86, tn_87, ln_87, tn_88, ln_88, tn_89, ln_89, tn_90, ln_90, tn_91, ln_91, tn_92, ln_92, tn_93, ln_93, ob_94, tn_95, ln_95, tn_96, ln_96, tn_97, ln_97, tn_98, ln_98, tn_99, ln_99, tn_100, ln_100, tn_101, ln_101, tn_102, ln_102, tn_103, ln_103, ob_104, tn_105, ln_105, tn_106, ln_106, tn_107, ln_107, tn_108, ln_108, tn_109, ln_109, tn_110, ln_110, tn_111, ln_111, tn_112, ln_112, tn_113, ln_113, ob_114, tn_115, ln_115, tn_116, ln_116, tn_117, ln_117, tn_118, ln_118, tn_119, ln_119, tn_120, ln_120, tn_121, ln_121, tn_122, ln_122, tn_123, ln_123, ob_124, tn_125, ln_125, tn_126, ln_126, tn_127, ln_127, tn_128, ln_128, tn_129, ln_129, tn_130, ln_130, tn_131, ln_131, tn_132, ln_132, tn_133, ln_133, ob_134, tn_135, ln_135, tn_136, ln_136, tn_137, ln_137, tn_138, ln_138, tn_139, ln_139, tn_140, ln_140, tn_141, ln_141, tn_142, ln_142, tn_143, ln_143, ob_144, tn_145, ln_145, tn_146, ln_146, tn_147, ln_147, tn_148, ln_148, tn_149, ln_149, tn_150, ln_150, tn_151, ln_151, tn_152, ln_152, tn_153, ln_153, ob_154, tn_155, ln_155, tn_156, ln_156, tn_157, ln_157, tn_158, ln_158, tn_159, ln_159, tn_160, ln_160, tn_161, ln_161, tn_162, ln_162, tn_163, ln_163, ob_164, tn_165, ln_165, tn_166, ln_166, ob_167, tn_168, ln_168, tn_169, ln_169, tn_170, ln_170, tn_171, ln_171, tn_172, ln_172, tn_173, ln_173, tn_174, ln_174, tn_175, ln_175, tn_176, ln_176, ob_177, tn_178, ln_178, tn_179, ln_179, ob_180, tn_181, ln_181, tn_182, ln_182, tn_183, ln_183, tn_184, ln_184, tn_185, ln_185, tn_186, ln_186, tn_187, ln_187, tn_188, ln_188, tn_189, ln_189, tn_190, ln_190, tn_191, ln_191, tn_192, ln_192, tn_193, ln_193, tn_194, ln_194, tn_195, ln_195, tn_196, ln_196, tn_197, ln_197, tn_198, ln_198, tn_199, ln_199, tn_200, ln_200, tn_201, ln_201, tn_202, ln_202, tn_203, ln_203, tn_204, ln_204, tn_205, ln_205, tn_206, ln_206, tn_207, ln_207, tn_208, ln_208, tn_209, ln_209, tn_210, ln_210, tn_211, ln_211, tn_212, ln_212, tn_213, ln_213, tn_214, ln_214, tn_215, ln_215, tn_216, ln_216, tn_217, ln_217, tn_218, ln_218, tn_219, ln_219, tn_220, ln_220, tn_221, ln_221, tn_222, ln_222, tn_223, ln_223, tn_224, ln_224, tn_225, ln_225, tn_226, ln_226, tn_227, ln_227, tn_228, ln_228, tn_229, ln_229, tn_230, ln_230, lx2, lx3, lx4, lx5, lx6, lx7, lx8, lx9, lx10, lx14, lx15, lx16, lx18, lx20, lx24, lx25, lx27, lx32, lx36, lx40, lx41, lx42, lx43, lx45, lx48, lx52, lx54, lx56, lx57, lx58, lx60, lx61, lx62, lx63, lx64, lx66, lx69, lx73, lx80, lx81, lx84, lx85, lx87, lx94, lx96, lx97, lx120, lx128, lx135, lx160, lx162, lx163, lx165, lx200, lx232, lx242, lx243, lx255, lx256, lx320, lx325, lx400, lx405, lx464, lx512, lx600, lx640, lx752, lx900, lx940, lx1000, lx1024, lx1764, lx3360, lx3840, lx5000, lx6400, lx9050, lx9998, lx9999, lx10000, lx25600, lx76800, lx99999, hn, l2, m1, r1, r2, show 5 * n < 200 by omega, show 5 * n + 1 < 200 by omega]
    refine ⟨v, hM, fun i j hi hj i1 i2 j1 j2 => ⟨fun e => ?_, fun e B hB hf => ?_⟩, fun hno => ?_⟩
    · have : i = x.2.1 := ((nI_eq (by omega) (by omega)).mp hi).symm
      subst this
      have : j = x.2.2.1 := ((nI_eq (by omega) (by omega)).mp hj).symm
      subst this
      rw [if_pos ⟨i2, j2⟩, if_pos e] at d0
      exact h1 1 (by decide) (by rw [d0]; show (11 : Nat) ≠ 0; omega) (by rw [d0]) (by rw [d0, l2, if_pos rfl]; rfl)
    · have : i = x.2.1 := ((nI_eq (by omega) (by omega)).mp hi).symm
      subst this
      have : j = x.2.2.1 := ((nI_eq (by omega) (by omega)).mp hj).symm
      subst this
      rw [if_pos ⟨i2, j2⟩, if_neg e] at d0
      exact h0 (by rw [d0]) B hf (by rw [d0]; exact hB)
    · have : ¬ (x.2.1 < vN v ∧ x.2.2.1 < vN v) := fun w => hno ⟨_, _, rfl, rfl, p1.1, w.1, p1.2.2.1, w.2⟩
      rw [if_neg this] at d0
      exact h1 (-1) (by decide) (by rw [d0]; show (19 : Nat) ≠ 0; omega) (by rw [d0]) (by rw [d0, l2, if_neg (by decide)]; rfl)
  · have r1 := l4 (by omega)
    have p1 := o5 q
    have d0 : doL v x = if x.2.1 = vD v then (v, 31) else (vdeep v x.2.1, 0) := by unfold doL; rw [if_neg (by omega), if_neg (by omega), if_neg (by omega)]
    rw [if_neg (by omega), if_neg (by omega), if_neg (by omega)] at l2
    simp (disch := omega) only [k_X0_live_0, k_X0_live_120, w_RI, w_RII, w_RIIIII, x_aload, x_cv1, x_cv2, x_cv5, x_iadd, x_icmp_ne, x_if_ne, x_iload, x_imul, x_iret, x_istore, x_push, y_getF, y_iald, xFT, xbool0, xbool1, Nat.reduceAdd, Nat.zero_add, xgl_0, xgl_s, xgl_n, xst_0, xst_1n, xst_1i, xst_1r, xst_1l, xst_s, set_0, set_s, true_and, and_true, xres, xcat_nil, xcat_i, xcat_r, xcat_l, Nat.add_zero, xble0, xble1, xble2, xble3, xble4, xble5, xble6, xble7, xble8, comm, pk_mul, nI_add, nI_1, nI_leI, nI_ltI, nI_eq, n_in, n_cl, z_eq, z_lt, z_le, z_gt, z_ge, z_qe, o_eq, o_lt, o_le, o_gt, o_ge, vp0, vp1, cl0, cl1, n_sub, n_sub1, n_pm1, n_a0, n_0a, ofn, lN0, Nat.reduceLT, Nat.reduceLeDiff, Nat.reduceMul, Nat.reduceSub, Nat.reduceEqDiff, ne_eq, true_implies, false_implies, not_true_eq_false, not_false_eq_true, and_self, and_true, true_and, and_false, false_and, implies_true, if_true, if_false, i00, i10, i01, i11, ob_0, ob_1, tn_2, ln_2, ob_3, tn_4, ln_4, ob_5, tn_6, ln_6, tn_7, ln_7, ob_8, tn_9, ln_9, tn_10, ln_10, tn_11, ln_11, tn_12, ln_12, tn_13, ln_13, tn_14, ln_14, tn_15, ln_15, tn_16, ln_16, tn_17, ln_17, ob_18, tn_19, ln_19, tn_20, ln_20, tn_21, ln_21, tn_22, ln_22, tn_23, ln_23, tn_24, ln_24, tn_25, ln_25, tn_26, ln_26, tn_27, ln_27, ob_28, tn_29, ln_29, tn_30, ln_30, ob_31, tn_32, ln_32, tn_33, ln_33, ob_34, ob_35, tn_36, ln_36, tn_37, ln_37, tn_38, ln_38, ob_39, tn_40, ln_40, tn_41, ln_41, tn_42, ln_42, tn_43, ln_43, tn_44, ln_44, tn_45, ln_45, tn_46, ln_46, tn_47, ln_47, tn_48, ln_48, tn_49, ln_49, tn_50, ln_50, tn_51, ln_51, ob_52, tn_53, ln_53, tn_54, ln_54, tn_55, ln_55, tn_56, ln_56, ob_57, tn_58, ln_58, tn_59, ln_59, tn_60, ln_60, tn_61, ln_61, tn_62, ln_62, tn_63, ln_63, tn_64, ln_64, tn_65, ln_65, ob_66, tn_67, ln_67, tn_68, ln_68, tn_69, ln_69, tn_70, ln_70, tn_71, ln_71, tn_72, ln_72, tn_73, ln_73, ob_74, tn_75, ln_75, tn_76, ln_76, tn_77, ln_77, tn_78, ln_78, tn_79, ln_79, tn_80, ln_80, tn_81, ln_81, tn_82, ln_82, tn_83, ln_83, ob_84, tn_85, ln_85, tn_86, ln_86, tn_87, ln_87, tn_88, ln_88, tn_89, ln_89, tn_90, ln_90, tn_91, ln_91, tn_92, ln_92, tn_93, ln_93, ob_94, tn_95, ln_95, tn_96, ln_96, tn_97, ln_97, tn_98, ln_98, tn_99, ln_99, tn_100, ln_100, tn_101, ln_101, tn_102, ln_102, tn_103, ln_103, ob_104, tn_105, ln_105, tn_106, ln_106, tn_107, ln_107, tn_108, ln_108, tn_109, ln_109, tn_110, ln_110, tn_111, ln_111, tn_112, ln_112, tn_113, ln_113, ob_114, tn_115, ln_115, tn_116, ln_116, tn_117, ln_117, tn_118, ln_118, tn_119, ln_119, tn_120, ln_120, tn_121, ln_121, tn_122, ln_122, tn_123, ln_123, ob_124, tn_125, ln_125, tn_126, ln_126, tn_127, ln_127, tn_128, ln_128, tn_129, ln_129, tn_130, ln_130, tn_131, ln_131, tn_132, ln_132, tn_133, ln_133, ob_134, tn_135, ln_135, tn_136, ln_136, tn_137, ln_137, tn_138, ln_138, tn_139, ln_139, tn_140, ln_140, tn_141, ln_141, tn_142, ln_142, tn_143, ln_143, ob_144, tn_145, ln_145, tn_146, ln_146, tn_147, ln_147, tn_148, ln_148, tn_149, ln_149, tn_150, ln_150, tn_151, ln_151, tn_152, ln_152, tn_153, ln_153, ob_154, tn_155, ln_155, tn_156, ln_156, tn_157, ln_157, tn_158, ln_158, tn_159, ln_159, tn_160, ln_160, tn_161, ln_161, tn_162, ln_162, tn_163, ln_163, ob_164, tn_165, ln_165, tn_166, ln_166, ob_167, tn_168, ln_168, tn_169, ln_169, tn_170, ln_170, tn_171, ln_171, tn_172, ln_172, tn_173, ln_173, tn_174, ln_174, tn_175, ln_175, tn_176, ln_176, ob_177, tn_178, ln_178, tn_179, ln_179, ob_180, tn_181, ln_181, tn_182, ln_182, tn_183, ln_183, tn_184, ln_184, tn_185, ln_185, tn_186, ln_186, tn_187, ln_187, tn_188, ln_188, tn_189, ln_189, tn_190, ln_190, tn_191, ln_191, tn_192, ln_192, tn_193, ln_193, tn_194, ln_194, tn_195, ln_195, tn_196, ln_196, tn_197, ln_197, tn_198, ln_198, tn_199, ln_199, tn_200, ln_200, tn_201, ln_201, tn_202, ln_202, tn_203, ln_203, tn_204, ln_204, tn_205, ln_205, tn_206, ln_206, tn_207, ln_207, tn_208, ln_208, tn_209, ln_209, tn_210, ln_210, tn_211, ln_211, tn_212, ln_212, tn_213, ln_213, tn_214, ln_214, tn_215, ln_215, tn_216, ln_216, tn_217, ln_217, tn_218, ln_218, tn_219, ln_219, tn_220, ln_220, tn_221, ln_221, tn_222, ln_222, tn_223, ln_223, tn_224, ln_224, tn_225, ln_225, tn_226, ln_226, tn_227, ln_227, tn_228, ln_228, tn_229, ln_229, tn_230, ln_230, lx2, lx3, lx4, lx5, lx6, lx7, lx8, lx9, lx10, lx14, lx15, lx16, lx18, lx20, lx24, lx25, lx27, lx32, lx36, lx40, lx41, lx42, lx43, lx45, lx48, lx52, lx54, lx56, lx57, lx58, lx60, lx61, lx62, lx63, lx64, lx66, lx69, lx73, lx80, lx81, lx84, lx85, lx87, lx94, lx96, lx97, lx120, lx128, lx135, lx160, lx162, lx163, lx165, lx200, lx232, lx242, lx243, lx255, lx256, lx320, lx325, lx400, lx405, lx464, lx512, lx600, lx640, lx752, lx900, lx940, lx1000, lx1024, lx1764, lx3360, lx3840, lx5000, lx6400, lx9050, lx9998, lx9999, lx10000, lx25600, lx76800, lx99999, hn, l2, m1, r1, show 5 * n < 200 by omega]
    refine ⟨v, hM, fun k hk hk1 => ⟨fun e => ?_, fun e B hB hf => ?_⟩, fun hno => absurd ⟨_, rfl, p1⟩ hno⟩
    · have : k = x.2.1 := ((nI_eq (by omega) (by omega)).mp hk).symm
      subst this
      rw [if_pos e] at d0
      exact h1 1 (by decide) (by rw [d0]; show (31 : Nat) ≠ 0; omega) (by rw [d0]) (by rw [d0, l2, if_pos rfl]; rfl)
    · have : k = x.2.1 := ((nI_eq (by omega) (by omega)).mp hk).symm
      subst this
      rw [if_neg e] at d0
      exact h0 (by rw [d0]) B hf (by rw [d0]; exact hB)

