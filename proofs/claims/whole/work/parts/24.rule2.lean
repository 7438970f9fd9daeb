theorem d_X12_readRule_0 : decode cX12_readRule 0 = .ok (.aload_n 0, 1) := by decide +kernel
theorem d_X12_readRule_1 : decode cX12_readRule 1 = .ok (.invokevirtual 261, 3) := by decide +kernel
theorem d_X12_readRule_4 : decode cX12_readRule 4 = .ok (.aload_n 0, 1) := by decide +kernel
theorem d_X12_readRule_5 : decode cX12_readRule 5 = .ok (.iload_n 3, 1) := by decide +kernel
theorem d_X12_readRule_6 : decode cX12_readRule 6 = .ok (.iload 4, 2) := by decide +kernel
theorem d_X12_readRule_8 : decode cX12_readRule 8 = .ok (.iload 5, 2) := by decide +kernel
theorem d_X12_readRule_10 : decode cX12_readRule 10 = .ok (.iconst 1, 1) := by decide +kernel
theorem d_X12_readRule_11 : decode cX12_readRule 11 = .ok (.invokevirtual 279, 3) := by decide +kernel
theorem d_X12_readRule_14 : decode cX12_readRule 14 = .ok (.ifCond .ne 5, 3) := by decide +kernel
theorem d_X12_readRule_17 : decode cX12_readRule 17 = .ok (.iconst 0, 1) := by decide +kernel
theorem d_X12_readRule_18 : decode cX12_readRule 18 = .ok (.ireturn, 1) := by decide +kernel
theorem d_X12_readRule_19 : decode cX12_readRule 19 = .ok (.aload_n 1, 1) := by decide +kernel
theorem d_X12_readRule_20 : decode cX12_readRule 20 = .ok (.iload_n 2, 1) := by decide +kernel
theorem d_X12_readRule_21 : decode cX12_readRule 21 = .ok (.aload_n 0, 1) := by decide +kernel
theorem d_X12_readRule_22 : decode cX12_readRule 22 = .ok (.getfield 268, 3) := by decide +kernel
theorem d_X12_readRule_25 : decode cX12_readRule 25 = .ok (.bipush 8, 2) := by decide +kernel
theorem d_X12_readRule_27 : decode cX12_readRule 27 = .ok (.isub, 1) := by decide +kernel
theorem d_X12_readRule_28 : decode cX12_readRule 28 = .ok (.iastore, 1) := by decide +kernel
theorem d_X12_readRule_29 : decode cX12_readRule 29 = .ok (.aload_n 1, 1) := by decide +kernel
theorem d_X12_readRule_30 : decode cX12_readRule 30 = .ok (.iload_n 2, 1) := by decide +kernel
theorem d_X12_readRule_31 : decode cX12_readRule 31 = .ok (.iconst 1, 1) := by decide +kernel
theorem d_X12_readRule_32 : decode cX12_readRule 32 = .ok (.iadd, 1) := by decide +kernel
theorem d_X12_readRule_33 : decode cX12_readRule 33 = .ok (.iconst 0, 1) := by decide +kernel
theorem d_X12_readRule_34 : decode cX12_readRule 34 = .ok (.iastore, 1) := by decide +kernel
theorem d_X12_readRule_35 : decode cX12_readRule 35 = .ok (.iconst 2, 1) := by decide +kernel
theorem d_X12_readRule_36 : decode cX12_readRule 36 = .ok (.istore 6, 2) := by decide +kernel
theorem d_X12_readRule_38 : decode cX12_readRule 38 = .ok (.iload 6, 2) := by decide +kernel
theorem d_X12_readRule_40 : decode cX12_readRule 40 = .ok (.iconst 5, 1) := by decide +kernel
theorem d_X12_readRule_41 : decode cX12_readRule 41 = .ok (.if_icmp .ge 16, 3) := by decide +kernel
theorem d_X12_readRule_44 : decode cX12_readRule 44 = .ok (.aload_n 1, 1) := by decide +kernel
theorem d_X12_readRule_45 : decode cX12_readRule 45 = .ok (.iload_n 2, 1) := by decide +kernel
theorem d_X12_readRule_46 : decode cX12_readRule 46 = .ok (.iload 6, 2) := by decide +kernel
theorem d_X12_readRule_48 : decode cX12_readRule 48 = .ok (.iadd, 1) := by decide +kernel
theorem d_X12_readRule_49 : decode cX12_readRule 49 = .ok (.iconst (-1), 1) := by decide +kernel
theorem d_X12_readRule_50 : decode cX12_readRule 50 = .ok (.iastore, 1) := by decide +kernel
theorem d_X12_readRule_51 : decode cX12_readRule 51 = .ok (.iinc 6 1, 3) := by decide +kernel
theorem d_X12_readRule_54 : decode cX12_readRule 54 = .ok (.goto (-16), 3) := by decide +kernel
theorem d_X12_readRule_57 : decode cX12_readRule 57 = .ok (.aload_n 0, 1) := by decide +kernel
theorem d_X12_readRule_58 : decode cX12_readRule 58 = .ok (.invokevirtual 261, 3) := by decide +kernel
theorem d_X12_readRule_61 : decode cX12_readRule 61 = .ok (.aload_n 0, 1) := by decide +kernel
theorem d_X12_readRule_62 : decode cX12_readRule 62 = .ok (.bipush 59, 2) := by decide +kernel
theorem d_X12_readRule_64 : decode cX12_readRule 64 = .ok (.invokevirtual 255, 3) := by decide +kernel
theorem d_X12_readRule_67 : decode cX12_readRule 67 = .ok (.ifCond .ne 64, 3) := by decide +kernel
theorem d_X12_readRule_70 : decode cX12_readRule 70 = .ok (.aload_n 0, 1) := by decide +kernel
theorem d_X12_readRule_71 : decode cX12_readRule 71 = .ok (.iload_n 3, 1) := by decide +kernel
theorem d_X12_readRule_72 : decode cX12_readRule 72 = .ok (.iload 4, 2) := by decide +kernel
theorem d_X12_readRule_74 : decode cX12_readRule 74 = .ok (.iload 5, 2) := by decide +kernel
theorem d_X12_readRule_76 : decode cX12_readRule 76 = .ok (.iconst 0, 1) := by decide +kernel
theorem d_X12_readRule_77 : decode cX12_readRule 77 = .ok (.invokevirtual 279, 3) := by decide +kernel
theorem d_X12_readRule_80 : decode cX12_readRule 80 = .ok (.ifCond .ne 5, 3) := by decide +kernel
theorem d_X12_readRule_83 : decode cX12_readRule 83 = .ok (.iconst 0, 1) := by decide +kernel
theorem d_X12_readRule_84 : decode cX12_readRule 84 = .ok (.ireturn, 1) := by decide +kernel
theorem d_X12_readRule_85 : decode cX12_readRule 85 = .ok (.aload_n 1, 1) := by decide +kernel
theorem d_X12_readRule_86 : decode cX12_readRule 86 = .ok (.iload_n 2, 1) := by decide +kernel
theorem d_X12_readRule_87 : decode cX12_readRule 87 = .ok (.iconst 1, 1) := by decide +kernel
theorem d_X12_readRule_88 : decode cX12_readRule 88 = .ok (.iadd, 1) := by decide +kernel
theorem d_X12_readRule_89 : decode cX12_readRule 89 = .ok (.iaload, 1) := by decide +kernel
theorem d_X12_readRule_90 : decode cX12_readRule 90 = .ok (.iconst 3, 1) := by decide +kernel
theorem d_X12_readRule_91 : decode cX12_readRule 91 = .ok (.if_icmp .ne 9, 3) := by decide +kernel
theorem d_X12_readRule_94 : decode cX12_readRule 94 = .ok (.aload_n 0, 1) := by decide +kernel
theorem d_X12_readRule_95 : decode cX12_readRule 95 = .ok (.iconst 4, 1) := by decide +kernel
theorem d_X12_readRule_96 : decode cX12_readRule 96 = .ok (.invokevirtual 258, 3) := by decide +kernel
theorem d_X12_readRule_99 : decode cX12_readRule 99 = .ok (.ireturn, 1) := by decide +kernel
theorem d_X12_readRule_100 : decode cX12_readRule 100 = .ok (.aload_n 1, 1) := by decide +kernel
theorem d_X12_readRule_101 : decode cX12_readRule 101 = .ok (.iload_n 2, 1) := by decide +kernel
theorem d_X12_readRule_102 : decode cX12_readRule 102 = .ok (.iconst 2, 1) := by decide +kernel
theorem d_X12_readRule_103 : decode cX12_readRule 103 = .ok (.iadd, 1) := by decide +kernel
theorem d_X12_readRule_104 : decode cX12_readRule 104 = .ok (.aload_n 1, 1) := by decide +kernel
theorem d_X12_readRule_105 : decode cX12_readRule 105 = .ok (.iload_n 2, 1) := by decide +kernel
theorem d_X12_readRule_106 : decode cX12_readRule 106 = .ok (.iconst 1, 1) := by decide +kernel
theorem d_X12_readRule_107 : decode cX12_readRule 107 = .ok (.iadd, 1) := by decide +kernel
theorem d_X12_readRule_108 : decode cX12_readRule 108 = .ok (.iaload, 1) := by decide +kernel
theorem d_X12_readRule_109 : decode cX12_readRule 109 = .ok (.iadd, 1) := by decide +kernel
theorem d_X12_readRule_110 : decode cX12_readRule 110 = .ok (.aload_n 0, 1) := by decide +kernel
theorem d_X12_readRule_111 : decode cX12_readRule 111 = .ok (.getfield 268, 3) := by decide +kernel
theorem d_X12_readRule_114 : decode cX12_readRule 114 = .ok (.iastore, 1) := by decide +kernel
theorem d_X12_readRule_115 : decode cX12_readRule 115 = .ok (.aload_n 1, 1) := by decide +kernel
theorem d_X12_readRule_116 : decode cX12_readRule 116 = .ok (.iload_n 2, 1) := by decide +kernel
theorem d_X12_readRule_117 : decode cX12_readRule 117 = .ok (.iconst 1, 1) := by decide +kernel
theorem d_X12_readRule_118 : decode cX12_readRule 118 = .ok (.iadd, 1) := by decide +kernel
theorem d_X12_readRule_119 : decode cX12_readRule 119 = .ok (.dup2, 1) := by decide +kernel
theorem d_X12_readRule_120 : decode cX12_readRule 120 = .ok (.iaload, 1) := by decide +kernel
theorem d_X12_readRule_121 : decode cX12_readRule 121 = .ok (.iconst 1, 1) := by decide +kernel
theorem d_X12_readRule_122 : decode cX12_readRule 122 = .ok (.iadd, 1) := by decide +kernel
theorem d_X12_readRule_123 : decode cX12_readRule 123 = .ok (.iastore, 1) := by decide +kernel
theorem d_X12_readRule_124 : decode cX12_readRule 124 = .ok (.aload_n 0, 1) := by decide +kernel
theorem d_X12_readRule_125 : decode cX12_readRule 125 = .ok (.invokevirtual 261, 3) := by decide +kernel
theorem d_X12_readRule_128 : decode cX12_readRule 128 = .ok (.goto (-67), 3) := by decide +kernel
theorem d_X12_readRule_131 : decode cX12_readRule 131 = .ok (.iconst 1, 1) := by decide +kernel
theorem d_X12_readRule_132 : decode cX12_readRule 132 = .ok (.ireturn, 1) := by decide +kernel
def k_X12_readRule_0 (P : xP) (C38 : xK) : xK := x_aload 0 (y_cv0 180 (w_R f_X12_next) (x_aload 0 (x_iload 3 (x_iload 4 (x_iload 5 (x_push (.int 1) (y_cv4 180 (w_RIIII f_X12_looksAt) (x_if_ne (x_aload 1 (x_iload 2 (x_aload 0 (y_getI 180 18 (x_push (.int 8) (x_isub (x_iast xN (x_aload 1 (x_iload 2 (x_push (.int 1) (x_iadd (x_push (.int 0) (x_iast xN (x_push (.int 2) (x_istore 6 (C38)))))))))))))))) (x_push (.int 0) (x_zret P))))))))))
set_option maxRecDepth 20000 in
theorem t_X12_readRule_0 {p : Program} {l : Launch} {e : Env} {s : State} {m : MethodId} {args : Array Value} {below : List Frame} {meth : Method} {c : Code} {g : xG} (X : xX p s m args c meth cX12_readRule RX12 7 g) (hr : meth.sig.returnType = (some .boolean)) {P : xP} {C38 : xK} (h38 : xAt p l e { frames := 2, cells := 0, slots := 0, locals := 48 } s m args below meth c g 7 xFT xN 0 0 (MQ below (xQc g xFT xN P) args s 0 0 (xFr g)) C38 38) : xAt p l e { frames := 2, cells := 0, slots := 0, locals := 48 } s m args below meth c g 7 xFT xN 0 0 (MQ below (xQc g xFT xN P) args s 0 0 (xFr g)) (k_X12_readRule_0 P C38) 0 := by
  unfold k_X12_readRule_0
  refine r_aload_n (pc := 0) X d_X12_readRule_0 fn0 ?_
  refine s_cv0 (pc := 1) (ci := 12) X xok12 (by decide +kernel) ob_180 rfl (con_X12_next l) mf_X12_next ml_RX12_261 (by decide +kernel) (by decide +kernel) d_X12_readRule_1 ?_
  refine r_aload_n (pc := 4) X d_X12_readRule_4 fn0 ?_
  refine r_iload_n (pc := 5) X d_X12_readRule_5 fn3 ?_
  refine r_iload (pc := 6) X d_X12_readRule_6 ?_
  refine r_iload (pc := 8) X d_X12_readRule_8 ?_
  refine r_iconst (pc := 10) X d_X12_readRule_10 (by decide +kernel) ?_
  refine s_cv4 (pc := 11) (ci := 12) X xok12 (by decide +kernel) ob_180 rfl (con_X12_looksAt l) mf_X12_looksAt ml_RX12_279 (by decide +kernel) (by decide +kernel) d_X12_readRule_11 ?_
  refine r_if_ne (pc := 14) (tgt := 19) X d_X12_readRule_14 (by decide +kernel) ?_ ?_
  · refine r_aload_n (pc := 19) X d_X12_readRule_19 fn1 ?_
    refine r_iload_n (pc := 20) X d_X12_readRule_20 fn2 ?_
    refine r_aload_n (pc := 21) X d_X12_readRule_21 fn0 ?_
    refine s_getI (pc := 22) (ci := 12) X xok12 (by decide +kernel) ob_180 (by decide +kernel) fl_RX12_268 d_X12_readRule_22 ?_
    refine r_bipush (pc := 25) X d_X12_readRule_25 (by decide +kernel) ?_
    refine r_isub (pc := 27) X d_X12_readRule_27 ?_
    refine r_iast (pc := 28) X d_X12_readRule_28 ?_
    refine r_aload_n (pc := 29) X d_X12_readRule_29 fn1 ?_
    refine r_iload_n (pc := 30) X d_X12_readRule_30 fn2 ?_
    refine r_iconst (pc := 31) X d_X12_readRule_31 (by decide +kernel) ?_
    refine r_iadd (pc := 32) X d_X12_readRule_32 ?_
    refine r_iconst (pc := 33) X d_X12_readRule_33 (by decide +kernel) ?_
    refine r_iast (pc := 34) X d_X12_readRule_34 ?_
    refine r_iconst (pc := 35) X d_X12_readRule_35 (by decide +kernel) ?_
    refine r_istore (pc := 36) X d_X12_readRule_36 (by decide +kernel) ?_
    exact h38
  · refine r_iconst (pc := 17) X d_X12_readRule_17 (by decide +kernel) ?_
    exact r_zret (pc := 18) X hr d_X12_readRule_18
def k_X12_readRule_38 (P : xP) (C38 : xK) (C61 : xK) : xK := x_iload 6 (x_push (.int 5) (x_icmp_ge (x_aload 0 (y_cv0 180 (w_R f_X12_next) (C61))) (x_aload 1 (x_iload 2 (x_iload 6 (x_iadd (x_push (.int (-1)) (x_iast xN (x_iinc 6 1 (C38))))))))))
set_option maxRecDepth 20000 in
theorem t_X12_readRule_38 {p : Program} {l : Launch} {e : Env} {s : State} {m : MethodId} {args : Array Value} {below : List Frame} {meth : Method} {c : Code} {g : xG} (X : xX p s m args c meth cX12_readRule RX12 7 g) (hr : meth.sig.returnType = (some .boolean)) {P : xP} {C38 : xK} {C61 : xK} (h38 : xAt p l e { frames := 2, cells := 0, slots := 0, locals := 48 } s m args below meth c g 7 xFT xN 0 0 (MQ below (xQc g xFT xN P) args s 0 0 (xFr g)) C38 38) (h61 : xAt p l e { frames := 2, cells := 0, slots := 0, locals := 48 } s m args below meth c g 7 xFT xN 0 0 (MQ below (xQc g xFT xN P) args s 0 0 (xFr g)) C61 61) : xAt p l e { frames := 2, cells := 0, slots := 0, locals := 48 } s m args below meth c g 7 xFT xN 0 0 (MQ below (xQc g xFT xN P) args s 0 0 (xFr g)) (k_X12_readRule_38 P C38 C61) 38 := by
  unfold k_X12_readRule_38
  refine r_iload (pc := 38) X d_X12_readRule_38 ?_
  refine r_iconst (pc := 40) X d_X12_readRule_40 (by decide +kernel) ?_
  refine r_icmp_ge (pc := 41) (tgt := 57) X d_X12_readRule_41 (by decide +kernel) ?_ ?_
  · refine r_aload_n (pc := 57) X d_X12_readRule_57 fn0 ?_
    refine s_cv0 (pc := 58) (ci := 12) X xok12 (by decide +kernel) ob_180 rfl (con_X12_next l) mf_X12_next ml_RX12_261 (by decide +kernel) (by decide +kernel) d_X12_readRule_58 ?_
    exact h61
  · refine r_aload_n (pc := 44) X d_X12_readRule_44 fn1 ?_
    refine r_iload_n (pc := 45) X d_X12_readRule_45 fn2 ?_
    refine r_iload (pc := 46) X d_X12_readRule_46 ?_
    refine r_iadd (pc := 48) X d_X12_readRule_48 ?_
    refine r_iconst (pc := 49) X d_X12_readRule_49 (by decide +kernel) ?_
    refine r_iast (pc := 50) X d_X12_readRule_50 ?_
    refine r_iinc (pc := 51) X d_X12_readRule_51 (by decide +kernel) (by decide +kernel) ?_
    refine r_goto (pc := 54) (tgt := 38) X d_X12_readRule_54 (by decide +kernel) ?_
    exact h38
def k_X12_readRule_61 (P : xP) (C61 : xK) : xK := x_aload 0 (x_push (.int 59) (y_cv1 180 (w_RI f_X12_isSign) (x_if_ne (x_push (.int 1) (x_zret P)) (x_aload 0 (x_iload 3 (x_iload 4 (x_iload 5 (x_push (.int 0) (y_cv4 180 (w_RIIII f_X12_looksAt) (x_if_ne (x_aload 1 (x_iload 2 (x_push (.int 1) (x_iadd (x_iald xN (x_push (.int 3) (x_icmp_ne (x_aload 1 (x_iload 2 (x_push (.int 2) (x_iadd (x_aload 1 (x_iload 2 (x_push (.int 1) (x_iadd (x_iald xN (x_iadd (x_aload 0 (y_getI 180 18 (x_iast xN (x_aload 1 (x_iload 2 (x_push (.int 1) (x_iadd (x_dup2 (x_iald xN (x_push (.int 1) (x_iadd (x_iast xN (x_aload 0 (y_cv0 180 (w_R f_X12_next) (C61))))))))))))))))))))))))) (x_aload 0 (x_push (.int 4) (y_cv1 180 (w_RI f_X12_bad) (x_zret P))))))))))) (x_push (.int 0) (x_zret P))))))))))))
set_option maxRecDepth 20000 in
theorem t_X12_readRule_61 {p : Program} {l : Launch} {e : Env} {s : State} {m : MethodId} {args : Array Value} {below : List Frame} {meth : Method} {c : Code} {g : xG} (X : xX p s m args c meth cX12_readRule RX12 7 g) (hr : meth.sig.returnType = (some .boolean)) {P : xP} {C61 : xK} (h61 : xAt p l e { frames := 2, cells := 0, slots := 0, locals := 48 } s m args below meth c g 7 xFT xN 0 0 (MQ below (xQc g xFT xN P) args s 0 0 (xFr g)) C61 61) : xAt p l e { frames := 2, cells := 0, slots := 0, locals := 48 } s m args below meth c g 7 xFT xN 0 0 (MQ below (xQc g xFT xN P) args s 0 0 (xFr g)) (k_X12_readRule_61 P C61) 61 := by
  unfold k_X12_readRule_61
  refine r_aload_n (pc := 61) X d_X12_readRule_61 fn0 ?_
  refine r_bipush (pc := 62) X d_X12_readRule_62 (by decide +kernel) ?_
  refine s_cv1 (pc := 64) (ci := 12) X xok12 (by decide +kernel) ob_180 rfl (con_X12_isSign l) mf_X12_isSign ml_RX12_255 (by decide +kernel) (by decide +kernel) d_X12_readRule_64 ?_
  refine r_if_ne (pc := 67) (tgt := 131) X d_X12_readRule_67 (by decide +kernel) ?_ ?_
  · refine r_iconst (pc := 131) X d_X12_readRule_131 (by decide +kernel) ?_
    exact r_zret (pc := 132) X hr d_X12_readRule_132
  · refine r_aload_n (pc := 70) X d_X12_readRule_70 fn0 ?_
    refine r_iload_n (pc := 71) X d_X12_readRule_71 fn3 ?_
    refine r_iload (pc := 72) X d_X12_readRule_72 ?_
    refine r_iload (pc := 74) X d_X12_readRule_74 ?_
    refine r_iconst (pc := 76) X d_X12_readRule_76 (by decide +kernel) ?_
    refine s_cv4 (pc := 77) (ci := 12) X xok12 (by decide +kernel) ob_180 rfl (con_X12_looksAt l) mf_X12_looksAt ml_RX12_279 (by decide +kernel) (by decide +kernel) d_X12_readRule_77 ?_
    refine r_if_ne (pc := 80) (tgt := 85) X d_X12_readRule_80 (by decide +kernel) ?_ ?_
    · refine r_aload_n (pc := 85) X d_X12_readRule_85 fn1 ?_
      refine r_iload_n (pc := 86) X d_X12_readRule_86 fn2 ?_
      refine r_iconst (pc := 87) X d_X12_readRule_87 (by decide +kernel) ?_
      refine r_iadd (pc := 88) X d_X12_readRule_88 ?_
      refine r_iald (pc := 89) X d_X12_readRule_89 ?_
      refine r_iconst (pc := 90) X d_X12_readRule_90 (by decide +kernel) ?_
      refine r_icmp_ne (pc := 91) (tgt := 100) X d_X12_readRule_91 (by decide +kernel) ?_ ?_
      · refine r_aload_n (pc := 100) X d_X12_readRule_100 fn1 ?_
        refine r_iload_n (pc := 101) X d_X12_readRule_101 fn2 ?_
        refine r_iconst (pc := 102) X d_X12_readRule_102 (by decide +kernel) ?_
        refine r_iadd (pc := 103) X d_X12_readRule_103 ?_
        refine r_aload_n (pc := 104) X d_X12_readRule_104 fn1 ?_
        refine r_iload_n (pc := 105) X d_X12_readRule_105 fn2 ?_
        refine r_iconst (pc := 106) X d_X12_readRule_106 (by decide +kernel) ?_
        refine r_iadd (pc := 107) X d_X12_readRule_107 ?_
        refine r_iald (pc := 108) X d_X12_readRule_108 ?_
        refine r_iadd (pc := 109) X d_X12_readRule_109 ?_
        refine r_aload_n (pc := 110) X d_X12_readRule_110 fn0 ?_
        refine s_getI (pc := 111) (ci := 12) X xok12 (by decide +kernel) ob_180 (by decide +kernel) fl_RX12_268 d_X12_readRule_111 ?_
        refine r_iast (pc := 114) X d_X12_readRule_114 ?_
        refine r_aload_n (pc := 115) X d_X12_readRule_115 fn1 ?_
        refine r_iload_n (pc := 116) X d_X12_readRule_116 fn2 ?_
        refine r_iconst (pc := 117) X d_X12_readRule_117 (by decide +kernel) ?_
        refine r_iadd (pc := 118) X d_X12_readRule_118 ?_
        refine r_dup2 (pc := 119) X d_X12_readRule_119 ?_
        refine r_iald (pc := 120) X d_X12_readRule_120 ?_
        refine r_iconst (pc := 121) X d_X12_readRule_121 (by decide +kernel) ?_
        refine r_iadd (pc := 122) X d_X12_readRule_122 ?_
        refine r_iast (pc := 123) X d_X12_readRule_123 ?_
        refine r_aload_n (pc := 124) X d_X12_readRule_124 fn0 ?_
        refine s_cv0 (pc := 125) (ci := 12) X xok12 (by decide +kernel) ob_180 rfl (con_X12_next l) mf_X12_next ml_RX12_261 (by decide +kernel) (by decide +kernel) d_X12_readRule_125 ?_
        refine r_goto (pc := 128) (tgt := 61) X d_X12_readRule_128 (by decide +kernel) ?_
        exact h61
      · refine r_aload_n (pc := 94) X d_X12_readRule_94 fn0 ?_
        refine r_iconst (pc := 95) X d_X12_readRule_95 (by decide +kernel) ?_
        refine s_cv1 (pc := 96) (ci := 12) X xok12 (by decide +kernel) ob_180 rfl (con_X12_bad l) mf_X12_bad ml_RX12_258 (by decide +kernel) (by decide +kernel) d_X12_readRule_96 ?_
        exact r_zret (pc := 99) X hr d_X12_readRule_99
    · refine r_iconst (pc := 83) X d_X12_readRule_83 (by decide +kernel) ?_
      exact r_zret (pc := 84) X hr d_X12_readRule_84
set_option maxRecDepth 20000 in
theorem m_X12_readRule {l : Launch} {f : Nat → Nat → Int32 → Int32 → Int32 → Int32 → xH → xP → Prop}  {I38 : Nat → Nat → Int32 → Int32 → Int32 → Int32 → xH → xP → xM → xK} {I61 : Nat → Nat → Int32 → Int32 → Int32 → Int32 → xH → xP → xM → xK}
    (v0 : ∀ (a0 : Nat) (a1 : Nat) (a2 : Int32) (a3 : Int32) (a4 : Int32) (a5 : Int32) (A : xH) (P : xP), f a0 a1 a2 a3 a4 a5 A P → k_X12_readRule_0 P (xE (I38 a0 a1 a2 a3 a4 a5 A P)) [some (.ref a0), some (.ref a1), some (.int a2), some (.int a3), some (.int a4), some (.int a5), none] [] A)
    (v38 : ∀ (a0 : Nat) (a1 : Nat) (a2 : Int32) (a3 : Int32) (a4 : Int32) (a5 : Int32) (A : xH) (P : xP), f a0 a1 a2 a3 a4 a5 A P → ∀ (μ : xM) (L : xL) (st : List Value) (B : xH), I38 a0 a1 a2 a3 a4 a5 A P μ L st B → k_X12_readRule_38 P (xB (I38 a0 a1 a2 a3 a4 a5 A P) μ) (xE (I61 a0 a1 a2 a3 a4 a5 A P)) L st B)
    (v61 : ∀ (a0 : Nat) (a1 : Nat) (a2 : Int32) (a3 : Int32) (a4 : Int32) (a5 : Int32) (A : xH) (P : xP), f a0 a1 a2 a3 a4 a5 A P → ∀ (μ : xM) (L : xL) (st : List Value) (B : xH), I61 a0 a1 a2 a3 a4 a5 A P μ L st B → k_X12_readRule_61 P (xB (I61 a0 a1 a2 a3 a4 a5 A P) μ) L st B) : xCon l yX12_readRule cX12_readRule 7 (some .boolean) 2 48 xN xN 0 xFT xFT (w_RRIIII f) := by
  refine xc_RRIIII (plainFor_of_name pn_RX12) (by decide +kernel) (fun p e s m args below meth c g a0 a1 a2 a3 a4 a5 A P h X hr _ => ?_)
  have h61 := x_loop1 (p := p) (l := l) (e := e) (R := { frames := 2, cells := 0, slots := 0, locals := 48 }) (s := s) (m := m) (args := args) (below := below) (meth := meth) (c := c) (g := g) (nL := 7) (F := xFT) (n := xN) (cells := 0) (slots := 0) (Q := MQ below (xQc g xFT xN P) args s 0 0 (xFr g)) (I := I61 a0 a1 a2 a3 a4 a5 A P) (pc1 := 61) (fun μ i61 => xAt_mono (t_X12_readRule_61 (P := P) X hr i61) (v61 a0 a1 a2 a3 a4 a5 A P h μ))
  have h38 := x_loop1 (p := p) (l := l) (e := e) (R := { frames := 2, cells := 0, slots := 0, locals := 48 }) (s := s) (m := m) (args := args) (below := below) (meth := meth) (c := c) (g := g) (nL := 7) (F := xFT) (n := xN) (cells := 0) (slots := 0) (Q := MQ below (xQc g xFT xN P) args s 0 0 (xFr g)) (I := I38 a0 a1 a2 a3 a4 a5 A P) (pc1 := 38) (fun μ i38 => xAt_mono (t_X12_readRule_38 (P := P) X hr i38 h61) (v38 a0 a1 a2 a3 a4 a5 A P h μ))
  exact ⟨_, v0 a0 a1 a2 a3 a4 a5 A P h, t_X12_readRule_0 X hr h38⟩
/-- the names of the reference from a place on -/
def nmU (A : xH) (r : Nat) (v : xV) : Prop := vS v ≤ 4 ∧ vK v ≤ 5 ∧ (∀ j, j < vS v → xl A 186 (r + j) = vsn v j) ∧ ∀ j, j < vK v → xl A 186 (r + 4 + j) = vkn v j
/-- no name is a sign's and a kind's -/
def dj (v : xV) : Prop := ∀ i j, i < vS v → j < vK v → vsn v i ≠ vkn v j
def resU (A : xH) : Prop := ∀ k, k < 16 → xl A 187 k = xRES k
/-- the reference has read up to the token at p -/
def uT (A : xH) (f : Nat → Nat) (n lim p : Nat) : Prop := isV A f n ∧ xi A 180 4 = nI lim ∧ lim < 2 ^ 31 ∧ p ≤ n ∧ resU A ∧ tkU A (tk f n lim p)
theorem uT_ok {A : xH} {f : Nat → Nat} {n lim p : Nat} (h : uT A f n lim p) : okT (tk f n lim p) := tk_ok h.2.2.2.1 fun j hj => (h.1.2.2 j hj).2
theorem uT_cell {A : xH} {f : Nat → Nat} {n lim p c k : Nat} {x : Int32} (h : uT A f n lim p) (hc : (c ≠ 180 ∧ c ≠ 181) ∨ (c = 180 ∧ (k = 15 ∨ k = 16 ∨ k = 18))) : uT (xsi A c k x) f n lim p := by
  obtain ⟨⟨h1, h2, h3⟩, h4, h5, h6, h7, t1, t2, t3, t4, t5⟩ := h
  refine ⟨⟨?_, h2, fun j hj => ?_⟩, ?_, h5, h6, h7, ?_, ?_, fun q => ?_, t4, fun q => ?_⟩
  · rw [si_ne (by omega)]; exact h1
  · rw [si_ne (by omega)]; exact h3 j hj
  · rw [si_ne (by omega)]; exact h4
  · rw [si_ne (by omega)]; exact t1
  · rw [si_ne (by omega)]; exact t2
  · rw [si_ne (by omega)]; exact t3 q
  · rw [si_ne (by omega)]; exact t5 q
theorem next_U {A : xH} {P : xP} {f : Nat → Nat} {n lim p : Nat} (h : uT A f n lim p) (h4 : (tk f n lim p).1 ≠ 4) (hP : ∀ B, uS A B → uT B f n lim (tk f n lim p).2.2.1 → P none B) : f_X12_next 180 A P := by
  obtain ⟨h1, h4', h5, h6, h7, t1, t2, t3, t4, t5⟩ := h
  have hn := tk_next (f := f) (lim := lim) h6
  exact ⟨rfl, f, n, lim, _, h1, h4', h5, hn.1, t3 h4, fun B hS ht => hP B hS ⟨isV_uS h1 hS, (hS.2.1 4 (by omega) (by omega) (by omega) (by omega) (by omega)).trans h4', h5, hn.1, fun k hk => (xoff_l hS.1 (by omega)).trans (h7 k hk), ht⟩⟩
theorem nmU_off {A B : xH} {r : Nat} {v : xV} (h : nmU A r v) (hB : ∀ k, xl B 186 k = xl A 186 k) : nmU B r v :=
  ⟨h.1, h.2.1, fun j hj => (hB _).trans (h.2.2.1 j hj), fun j hj => (hB _).trans (h.2.2.2 j hj)⟩
theorem idx_lt {f : Nat → Int64} {w : Int64} {n : Nat} (h : idx f w n < n) : f (idx f w n) = w := by
  induction n with
  | zero => omega
  | succ n ih =>
    simp only [idx] at h ⊢
    split
    · rename_i q
      exact ih q
    · split
      · rename_i q q2
        exact q2
      · rename_i q q2
        rw [if_neg q, if_neg q2] at h
        omega
theorem idx_congr {f g : Nat → Int64} {w : Int64} : ∀ n, (∀ j, j < n → f j = g j) → idx f w n = idx g w n
  | 0, _ => rfl
  | n + 1, h => by simp only [idx, idx_congr n (fun j hj => h j (by omega)), h n (by omega)]
theorem lk_52 {A : xH} {P : xP} {f : Nat → Nat} {n lim p : Nat} {L : xL} {g : Int32} (hL : xgl L 0 = some (.ref 180)) (h : uT A f n lim p)
    (h2 : g = -1 → P (some (.int 0)) (fltU (xsi A 180 18 (-1)) 3 (tk f n lim p).2.1)) (h3 : ∀ c, g = nI c → c < 2 ^ 31 → P (some (.int 1)) (xsi A 180 18 (nI c))) (hg : g = -1 ∨ ∃ c, g = nI c ∧ c < 2 ^ 31) :
    k_X12_looksAt_52 P L [.int g, .ref 180] A := by
  have hu := (uT_cell (c := 180) (k := 18) (x := g) h (by omega)).2.2.2.2.2
  simp only [k_X12_looksAt_0, k_X12_looksAt_52, k_X12_looksAt_70, k_X12_looksAt_75, f_X12_isName, f_X12_seek, w_R, w_RI, w_RII, x_aload, x_iadd, x_if_eq, x_if_ge, x_if_lt, x_if_ne, x_iload, x_istore, x_push, x_putI, x_zret, y_cv0, y_cv1, y_cv2, y_getI, xFT, xbool0, xbool1, Nat.reduceAdd, Nat.zero_add, xgl_0, xgl_s, xgl_n, xst_0, xst_1n, xst_1i, xst_1r, xst_1l, xst_s, set_0, set_s, true_and, and_true, xres, xcat_nil, xcat_i, xcat_r, xcat_l, Nat.add_zero, xble0, xble1, xble2, xble3, xble4, xble5, xble6, xble7, xble8, hL, ob_180, si_eq, bad_L 3 hu, i00, not_true_eq_false, true_implies, false_implies]
  rcases hg with rfl | ⟨c, rfl, hc⟩
  · exact ⟨fun q => absurd q (by decide), fun _ => h2 rfl⟩
  · exact ⟨fun _ => h3 c rfl hc, fun q => absurd (nI_pos' hc) q⟩
theorem lk_U {A : xH} {P : xP} {f : Nat → Nat} {n lim p r : Nat} {v : xV} {z : Bool} (h : uT A f n lim p) (hN : nmU A r v) (hr : r ≤ 9) (hd : dj v)
    (h1 : isNa (tk f n lim p) = false → P (some (.int 0)) (fltU A 1 (tk f n lim p).2.1))
    (h2 : isNa (tk f n lim p) = true → (if z then vfind v (lN (tk f n lim p).2.2.2) < 8 else vfind v (lN (tk f n lim p).2.2.2) = -1) → P (some (.int 0)) (fltU (xsi A 180 18 (-1)) 3 (tk f n lim p).2.1))
    (h3 : isNa (tk f n lim p) = true → ¬ (if z then vfind v (lN (tk f n lim p).2.2.2) < 8 else vfind v (lN (tk f n lim p).2.2.2) = -1) → P (some (.int 1)) (xsi A 180 18 (vfind v (lN (tk f n lim p).2.2.2)))) :
    f_X12_looksAt 180 (nI r) (nI (vS v)) (nI (vK v)) (bI z) A P := by
  have ho := uT_ok h
  have hu := h.2.2.2.2.2
  have hres := h.2.2.2.2.1
  unfold f_X12_looksAt
  simp only [k_X12_looksAt_0, k_X12_looksAt_70, k_X12_looksAt_75, f_X12_isName, f_X12_seek, w_R, w_RI, w_RII, x_aload, x_iadd, x_if_eq, x_if_ge, x_if_lt, x_if_ne, x_iload, x_istore, x_push, x_putI, x_zret, y_cv0, y_cv1, y_cv2, y_getI, xFT, xbool0, xbool1, Nat.reduceAdd, Nat.zero_add, xgl_0, xgl_s, xgl_n, xst_0, xst_1n, xst_1i, xst_1r, xst_1l, xst_s, set_0, set_s, true_and, and_true, xres, xcat_nil, xcat_i, xcat_r, xcat_l, Nat.add_zero, xble0, xble1, xble2, xble3, xble4, xble5, xble6, xble7, xble8, f_X12_isName, name_U hu ho, bad_L 1 hu, bI_t, f_X12_seek, ne_eq]
  refine ⟨hres, fun q => ?_, fun q => h1 q⟩
  have hn : isNa (tk f n lim p) = true := by simpa using q
  have hw := hu.2.2.2.1 (na_1 hn)
  obtain ⟨n1, n2, n3, n4⟩ := hN
  refine ⟨r + 4, vK v, by rw [show (4 : Int32) = nI 4 from rfl, nI_add], rfl, by omega, ?_⟩
  have hb := idx_congr (f := fun k => xl A 186 (r + 4 + k)) (g := vkn v) (w := xl A 180 17) (vK v) n4
  have ha := idx_congr (f := fun k => xl A 186 (r + k)) (g := vsn v) (w := xl A 180 17) (vS v) n3
  rw [hb]
  rw [hw] at ha hb ⊢
  generalize hwd : lN (tk f n lim p).2.2.2 = w at *
  have hf : vfind v w = if idx (vsn v) w (vS v) < vS v then nI (idx (vsn v) w (vS v)) else if idx (vkn v) w (vK v) < vK v then nI (8 + idx (vkn v) w (vK v)) else -1 := rfl
  by_cases eb : idx (vkn v) w (vK v) < vK v
  · have ea : ¬ idx (vsn v) w (vS v) < vS v := fun q => hd _ _ q eb ((idx_lt q).trans (idx_lt eb).symm)
    rw [if_neg ea, if_pos eb] at hf
    have hno : ¬ (if z then vfind v w < 8 else vfind v w = -1) := by
      rw [hf]
      cases z
      · exact n_ne1 (by omega)
      · show ¬ nI (8 + idx (vkn v) w (vK v)) < 8
        rw [c_lt 8 (by omega) (by decide)]; omega
    have h4 := h3 hn hno
    rw [hf] at h4
    rw [if_pos eb]
    refine ⟨fun q => absurd q (nI_pos (by omega)), fun _ => lk_52 rfl h (fun q => ?_) (fun c q _ => ?_) (Or.inr ⟨8 + idx (vkn v) w (vK v), by rw [show (8 : Int32) = nI 8 from rfl, nI_add], by omega⟩)⟩
    · rw [show (8 : Int32) = nI 8 from rfl, nI_add] at q
      exact absurd q (n_ne1 (by omega))
    · rw [← q, show (8 : Int32) = nI 8 from rfl, nI_add]
      exact h4
  · rw [if_neg eb] at hf ⊢
    refine ⟨fun _ => ⟨fun q => ⟨r, vS v, rfl, rfl, by omega, ?_⟩, fun q => lk_52 rfl h (fun _ => h2 hn ?_) (fun c q2 hc => absurd q2.symm (n_ne1 hc)) (Or.inl rfl)⟩, fun q => absurd (show (-1 : Int32) < 0 by decide) q⟩
    · subst q
      simp only [Bool.false_eq_true, if_false] at h2 h3
      rw [ha, ← hf]
      refine lk_52 rfl h (fun q2 => h2 hn q2) (fun c q2 hc => ?_) ?_
      · rw [← q2]
        exact h3 hn (fun e => n_ne1 hc (q2.symm.trans e))
      · rw [hf]
        split
        · exact Or.inr ⟨_, rfl, by omega⟩
        · exact Or.inl rfl
    · rw [show z = true by simpa using q, if_pos rfl, hf]
      split
      · rw [c_lt 8 (by omega) (by decide)]; omega
      · decide

