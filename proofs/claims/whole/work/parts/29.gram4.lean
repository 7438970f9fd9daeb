theorem d_X12_readLine_0 : decode cX12_readLine 0 = .ok (.aload_n 0, 1) := by decide +kernel
theorem d_X12_readLine_1 : decode cX12_readLine 1 = .ok (.ldc2_w 190, 3) := by decide +kernel
theorem d_X12_readLine_4 : decode cX12_readLine 4 = .ok (.invokevirtual 283, 3) := by decide +kernel
theorem d_X12_readLine_7 : decode cX12_readLine 7 = .ok (.ifCond .eq 12, 3) := by decide +kernel
theorem d_X12_readLine_10 : decode cX12_readLine 10 = .ok (.aload_n 0, 1) := by decide +kernel
theorem d_X12_readLine_11 : decode cX12_readLine 11 = .ok (.bipush 9, 2) := by decide +kernel
theorem d_X12_readLine_13 : decode cX12_readLine 13 = .ok (.iconst 0, 1) := by decide +kernel
theorem d_X12_readLine_14 : decode cX12_readLine 14 = .ok (.iconst 4, 1) := by decide +kernel
theorem d_X12_readLine_15 : decode cX12_readLine 15 = .ok (.invokevirtual 287, 3) := by decide +kernel
theorem d_X12_readLine_18 : decode cX12_readLine 18 = .ok (.ireturn, 1) := by decide +kernel
theorem d_X12_readLine_19 : decode cX12_readLine 19 = .ok (.aload_n 0, 1) := by decide +kernel
theorem d_X12_readLine_20 : decode cX12_readLine 20 = .ok (.ldc2_w 192, 3) := by decide +kernel
theorem d_X12_readLine_23 : decode cX12_readLine 23 = .ok (.invokevirtual 283, 3) := by decide +kernel
theorem d_X12_readLine_26 : decode cX12_readLine 26 = .ok (.ifCond .eq 12, 3) := by decide +kernel
theorem d_X12_readLine_29 : decode cX12_readLine 29 = .ok (.aload_n 0, 1) := by decide +kernel
theorem d_X12_readLine_30 : decode cX12_readLine 30 = .ok (.bipush 13, 2) := by decide +kernel
theorem d_X12_readLine_32 : decode cX12_readLine 32 = .ok (.iconst 1, 1) := by decide +kernel
theorem d_X12_readLine_33 : decode cX12_readLine 33 = .ok (.iconst 5, 1) := by decide +kernel
theorem d_X12_readLine_34 : decode cX12_readLine 34 = .ok (.invokevirtual 287, 3) := by decide +kernel
theorem d_X12_readLine_37 : decode cX12_readLine 37 = .ok (.ireturn, 1) := by decide +kernel
theorem d_X12_readLine_38 : decode cX12_readLine 38 = .ok (.aload_n 0, 1) := by decide +kernel
theorem d_X12_readLine_39 : decode cX12_readLine 39 = .ok (.ldc2_w 194, 3) := by decide +kernel
theorem d_X12_readLine_42 : decode cX12_readLine 42 = .ok (.invokevirtual 283, 3) := by decide +kernel
theorem d_X12_readLine_45 : decode cX12_readLine 45 = .ok (.ifCond .ne 9, 3) := by decide +kernel
theorem d_X12_readLine_48 : decode cX12_readLine 48 = .ok (.aload_n 0, 1) := by decide +kernel
theorem d_X12_readLine_49 : decode cX12_readLine 49 = .ok (.iconst 1, 1) := by decide +kernel
theorem d_X12_readLine_50 : decode cX12_readLine 50 = .ok (.invokevirtual 258, 3) := by decide +kernel
theorem d_X12_readLine_53 : decode cX12_readLine 53 = .ok (.ireturn, 1) := by decide +kernel
theorem d_X12_readLine_54 : decode cX12_readLine 54 = .ok (.aload_n 0, 1) := by decide +kernel
theorem d_X12_readLine_55 : decode cX12_readLine 55 = .ok (.getfield 34, 3) := by decide +kernel
theorem d_X12_readLine_58 : decode cX12_readLine 58 = .ok (.iconst 2, 1) := by decide +kernel
theorem d_X12_readLine_59 : decode cX12_readLine 59 = .ok (.iaload, 1) := by decide +kernel
theorem d_X12_readLine_60 : decode cX12_readLine 60 = .ok (.bipush 10, 2) := by decide +kernel
theorem d_X12_readLine_62 : decode cX12_readLine 62 = .ok (.if_icmp .ne 9, 3) := by decide +kernel
theorem d_X12_readLine_65 : decode cX12_readLine 65 = .ok (.aload_n 0, 1) := by decide +kernel
theorem d_X12_readLine_66 : decode cX12_readLine 66 = .ok (.iconst 4, 1) := by decide +kernel
theorem d_X12_readLine_67 : decode cX12_readLine 67 = .ok (.invokevirtual 258, 3) := by decide +kernel
theorem d_X12_readLine_70 : decode cX12_readLine 70 = .ok (.ireturn, 1) := by decide +kernel
theorem d_X12_readLine_71 : decode cX12_readLine 71 = .ok (.aload_n 0, 1) := by decide +kernel
theorem d_X12_readLine_72 : decode cX12_readLine 72 = .ok (.aload_n 0, 1) := by decide +kernel
theorem d_X12_readLine_73 : decode cX12_readLine 73 = .ok (.getfield 34, 3) := by decide +kernel
theorem d_X12_readLine_76 : decode cX12_readLine 76 = .ok (.iconst 4, 1) := by decide +kernel
theorem d_X12_readLine_77 : decode cX12_readLine 77 = .ok (.iconst 5, 1) := by decide +kernel
theorem d_X12_readLine_78 : decode cX12_readLine 78 = .ok (.aload_n 0, 1) := by decide +kernel
theorem d_X12_readLine_79 : decode cX12_readLine 79 = .ok (.getfield 34, 3) := by decide +kernel
theorem d_X12_readLine_82 : decode cX12_readLine 82 = .ok (.iconst 2, 1) := by decide +kernel
theorem d_X12_readLine_83 : decode cX12_readLine 83 = .ok (.iaload, 1) := by decide +kernel
theorem d_X12_readLine_84 : decode cX12_readLine 84 = .ok (.imul, 1) := by decide +kernel
theorem d_X12_readLine_85 : decode cX12_readLine 85 = .ok (.iadd, 1) := by decide +kernel
theorem d_X12_readLine_86 : decode cX12_readLine 86 = .ok (.bipush 9, 2) := by decide +kernel
theorem d_X12_readLine_88 : decode cX12_readLine 88 = .ok (.aload_n 0, 1) := by decide +kernel
theorem d_X12_readLine_89 : decode cX12_readLine 89 = .ok (.getfield 34, 3) := by decide +kernel
theorem d_X12_readLine_92 : decode cX12_readLine 92 = .ok (.iconst 0, 1) := by decide +kernel
theorem d_X12_readLine_93 : decode cX12_readLine 93 = .ok (.iaload, 1) := by decide +kernel
theorem d_X12_readLine_94 : decode cX12_readLine 94 = .ok (.aload_n 0, 1) := by decide +kernel
theorem d_X12_readLine_95 : decode cX12_readLine 95 = .ok (.getfield 34, 3) := by decide +kernel
theorem d_X12_readLine_98 : decode cX12_readLine 98 = .ok (.iconst 1, 1) := by decide +kernel
theorem d_X12_readLine_99 : decode cX12_readLine 99 = .ok (.iaload, 1) := by decide +kernel
theorem d_X12_readLine_100 : decode cX12_readLine 100 = .ok (.invokevirtual 290, 3) := by decide +kernel
theorem d_X12_readLine_103 : decode cX12_readLine 103 = .ok (.ifCond .ne 5, 3) := by decide +kernel
theorem d_X12_readLine_106 : decode cX12_readLine 106 = .ok (.iconst 0, 1) := by decide +kernel
theorem d_X12_readLine_107 : decode cX12_readLine 107 = .ok (.ireturn, 1) := by decide +kernel
theorem d_X12_readLine_108 : decode cX12_readLine 108 = .ok (.aload_n 0, 1) := by decide +kernel
theorem d_X12_readLine_109 : decode cX12_readLine 109 = .ok (.getfield 34, 3) := by decide +kernel
theorem d_X12_readLine_112 : decode cX12_readLine 112 = .ok (.iconst 2, 1) := by decide +kernel
theorem d_X12_readLine_113 : decode cX12_readLine 113 = .ok (.dup2, 1) := by decide +kernel
theorem d_X12_readLine_114 : decode cX12_readLine 114 = .ok (.iaload, 1) := by decide +kernel
theorem d_X12_readLine_115 : decode cX12_readLine 115 = .ok (.iconst 1, 1) := by decide +kernel
theorem d_X12_readLine_116 : decode cX12_readLine 116 = .ok (.iadd, 1) := by decide +kernel
theorem d_X12_readLine_117 : decode cX12_readLine 117 = .ok (.iastore, 1) := by decide +kernel
theorem d_X12_readLine_118 : decode cX12_readLine 118 = .ok (.iconst 1, 1) := by decide +kernel
theorem d_X12_readLine_119 : decode cX12_readLine 119 = .ok (.ireturn, 1) := by decide +kernel
def k_X12_readLine_0 (P : xP) : xK := x_aload 0 (x_push (.long 1936287598) (y_cv1 180 (w_RJ f_X12_isWord) (x_if_eq (x_aload 0 (x_push (.long 1802071652) (y_cv1 180 (w_RJ f_X12_isWord) (x_if_eq (x_aload 0 (x_push (.long 1920298085) (y_cv1 180 (w_RJ f_X12_isWord) (x_if_ne (x_aload 0 (y_getF 180 183 (x_push (.int 2) (y_iald 183 54 (x_push (.int 10) (x_icmp_ne (x_aload 0 (x_aload 0 (y_getF 180 183 (x_push (.int 4) (x_push (.int 5) (x_aload 0 (y_getF 180 183 (x_push (.int 2) (y_iald 183 54 (x_imul (x_iadd (x_push (.int 9) (x_aload 0 (y_getF 180 183 (x_push (.int 0) (y_iald 183 54 (x_aload 0 (y_getF 180 183 (x_push (.int 1) (y_iald 183 54 (y_cv5 180 (w_RRIIII f_X12_readRule) (x_if_ne (x_aload 0 (y_getF 180 183 (x_push (.int 2) (x_dup2 (y_iald 183 54 (x_push (.int 1) (x_iadd (y_iast 183 54 (x_push (.int 1) (x_zret P)))))))))) (x_push (.int 0) (x_zret P)))))))))))))))))))))))) (x_aload 0 (x_push (.int 4) (y_cv1 180 (w_RI f_X12_bad) (x_zret P)))))))))) (x_aload 0 (x_push (.int 1) (y_cv1 180 (w_RI f_X12_bad) (x_zret P)))))))) (x_aload 0 (x_push (.int 13) (x_push (.int 1) (x_push (.int 5) (y_cv3 180 (w_RIII f_X12_readName) (x_zret P)))))))))) (x_aload 0 (x_push (.int 9) (x_push (.int 0) (x_push (.int 4) (y_cv3 180 (w_RIII f_X12_readName) (x_zret P)))))))))
set_option maxRecDepth 20000 in
theorem t_X12_readLine_0 {p : Program} {l : Launch} {e : Env} {s : State} {m : MethodId} {args : Array Value} {below : List Frame} {meth : Method} {c : Code} {g : xG} (X : xX p s m args c meth cX12_readLine RX12 1 g) (hr : meth.sig.returnType = (some .boolean)) {P : xP} : xAt p l e { frames := 3, cells := 0, slots := 0, locals := 74 } s m args below meth c g 1 xFT xN 0 0 (MQ below (xQc g xFT xN P) args s 0 0 (xFr g)) (k_X12_readLine_0 P) 0 := by
  unfold k_X12_readLine_0
  refine r_aload_n (pc := 0) X d_X12_readLine_0 fn0 ?_
  refine r_ldc2 (pc := 1) X cw_RX12_190 d_X12_readLine_1 ?_
  refine s_cv1 (pc := 4) (ci := 12) X xok12 (by decide +kernel) ob_180 rfl (con_X12_isWord l) mf_X12_isWord ml_RX12_283 (by decide +kernel) (by decide +kernel) d_X12_readLine_4 ?_
  refine r_if_eq (pc := 7) (tgt := 19) X d_X12_readLine_7 (by decide +kernel) ?_ ?_
  · refine r_aload_n (pc := 19) X d_X12_readLine_19 fn0 ?_
    refine r_ldc2 (pc := 20) X cw_RX12_192 d_X12_readLine_20 ?_
    refine s_cv1 (pc := 23) (ci := 12) X xok12 (by decide +kernel) ob_180 rfl (con_X12_isWord l) mf_X12_isWord ml_RX12_283 (by decide +kernel) (by decide +kernel) d_X12_readLine_23 ?_
    refine r_if_eq (pc := 26) (tgt := 38) X d_X12_readLine_26 (by decide +kernel) ?_ ?_
    · refine r_aload_n (pc := 38) X d_X12_readLine_38 fn0 ?_
      refine r_ldc2 (pc := 39) X cw_RX12_194 d_X12_readLine_39 ?_
      refine s_cv1 (pc := 42) (ci := 12) X xok12 (by decide +kernel) ob_180 rfl (con_X12_isWord l) mf_X12_isWord ml_RX12_283 (by decide +kernel) (by decide +kernel) d_X12_readLine_42 ?_
      refine r_if_ne (pc := 45) (tgt := 54) X d_X12_readLine_45 (by decide +kernel) ?_ ?_
      · refine r_aload_n (pc := 54) X d_X12_readLine_54 fn0 ?_
        refine s_getF (pc := 55) (ci := 12) (k := 6) X xok12 (by decide +kernel) ob_180 trivial ly_180_6 (by decide +kernel) fl_RX12_34 d_X12_readLine_55 ?_
        refine r_iconst (pc := 58) X d_X12_readLine_58 (by decide +kernel) ?_
        refine s_iald (pc := 59) X tn_183 ln_183 d_X12_readLine_59 ?_
        refine r_bipush (pc := 60) X d_X12_readLine_60 (by decide +kernel) ?_
        refine r_icmp_ne (pc := 62) (tgt := 71) X d_X12_readLine_62 (by decide +kernel) ?_ ?_
        · refine r_aload_n (pc := 71) X d_X12_readLine_71 fn0 ?_
          refine r_aload_n (pc := 72) X d_X12_readLine_72 fn0 ?_
          refine s_getF (pc := 73) (ci := 12) (k := 6) X xok12 (by decide +kernel) ob_180 trivial ly_180_6 (by decide +kernel) fl_RX12_34 d_X12_readLine_73 ?_
          refine r_iconst (pc := 76) X d_X12_readLine_76 (by decide +kernel) ?_
          refine r_iconst (pc := 77) X d_X12_readLine_77 (by decide +kernel) ?_
          refine r_aload_n (pc := 78) X d_X12_readLine_78 fn0 ?_
          refine s_getF (pc := 79) (ci := 12) (k := 6) X xok12 (by decide +kernel) ob_180 trivial ly_180_6 (by decide +kernel) fl_RX12_34 d_X12_readLine_79 ?_
          refine r_iconst (pc := 82) X d_X12_readLine_82 (by decide +kernel) ?_
          refine s_iald (pc := 83) X tn_183 ln_183 d_X12_readLine_83 ?_
          refine r_imul (pc := 84) X d_X12_readLine_84 ?_
          refine r_iadd (pc := 85) X d_X12_readLine_85 ?_
          refine r_bipush (pc := 86) X d_X12_readLine_86 (by decide +kernel) ?_
          refine r_aload_n (pc := 88) X d_X12_readLine_88 fn0 ?_
          refine s_getF (pc := 89) (ci := 12) (k := 6) X xok12 (by decide +kernel) ob_180 trivial ly_180_6 (by decide +kernel) fl_RX12_34 d_X12_readLine_89 ?_
          refine r_iconst (pc := 92) X d_X12_readLine_92 (by decide +kernel) ?_
          refine s_iald (pc := 93) X tn_183 ln_183 d_X12_readLine_93 ?_
          refine r_aload_n (pc := 94) X d_X12_readLine_94 fn0 ?_
          refine s_getF (pc := 95) (ci := 12) (k := 6) X xok12 (by decide +kernel) ob_180 trivial ly_180_6 (by decide +kernel) fl_RX12_34 d_X12_readLine_95 ?_
          refine r_iconst (pc := 98) X d_X12_readLine_98 (by decide +kernel) ?_
          refine s_iald (pc := 99) X tn_183 ln_183 d_X12_readLine_99 ?_
          refine s_cv5 (pc := 100) (ci := 12) X xok12 (by decide +kernel) ob_180 rfl (con_X12_readRule l) mf_X12_readRule ml_RX12_290 (by decide +kernel) (by decide +kernel) d_X12_readLine_100 ?_
          refine r_if_ne (pc := 103) (tgt := 108) X d_X12_readLine_103 (by decide +kernel) ?_ ?_
          · refine r_aload_n (pc := 108) X d_X12_readLine_108 fn0 ?_
            refine s_getF (pc := 109) (ci := 12) (k := 6) X xok12 (by decide +kernel) ob_180 trivial ly_180_6 (by decide +kernel) fl_RX12_34 d_X12_readLine_109 ?_
            refine r_iconst (pc := 112) X d_X12_readLine_112 (by decide +kernel) ?_
            refine r_dup2 (pc := 113) X d_X12_readLine_113 ?_
            refine s_iald (pc := 114) X tn_183 ln_183 d_X12_readLine_114 ?_
            refine r_iconst (pc := 115) X d_X12_readLine_115 (by decide +kernel) ?_
            refine r_iadd (pc := 116) X d_X12_readLine_116 ?_
            refine s_iast (pc := 117) X tn_183 ln_183 d_X12_readLine_117 ?_
            refine r_iconst (pc := 118) X d_X12_readLine_118 (by decide +kernel) ?_
            exact r_zret (pc := 119) X hr d_X12_readLine_119
          · refine r_iconst (pc := 106) X d_X12_readLine_106 (by decide +kernel) ?_
            exact r_zret (pc := 107) X hr d_X12_readLine_107
        · refine r_aload_n (pc := 65) X d_X12_readLine_65 fn0 ?_
          refine r_iconst (pc := 66) X d_X12_readLine_66 (by decide +kernel) ?_
          refine s_cv1 (pc := 67) (ci := 12) X xok12 (by decide +kernel) ob_180 rfl (con_X12_bad l) mf_X12_bad ml_RX12_258 (by decide +kernel) (by decide +kernel) d_X12_readLine_67 ?_
          exact r_zret (pc := 70) X hr d_X12_readLine_70
      · refine r_aload_n (pc := 48) X d_X12_readLine_48 fn0 ?_
        refine r_iconst (pc := 49) X d_X12_readLine_49 (by decide +kernel) ?_
        refine s_cv1 (pc := 50) (ci := 12) X xok12 (by decide +kernel) ob_180 rfl (con_X12_bad l) mf_X12_bad ml_RX12_258 (by decide +kernel) (by decide +kernel) d_X12_readLine_50 ?_
        exact r_zret (pc := 53) X hr d_X12_readLine_53
    · refine r_aload_n (pc := 29) X d_X12_readLine_29 fn0 ?_
      refine r_bipush (pc := 30) X d_X12_readLine_30 (by decide +kernel) ?_
      refine r_iconst (pc := 32) X d_X12_readLine_32 (by decide +kernel) ?_
      refine r_iconst (pc := 33) X d_X12_readLine_33 (by decide +kernel) ?_
      refine s_cv3 (pc := 34) (ci := 12) X xok12 (by decide +kernel) ob_180 rfl (con_X12_readName l) mf_X12_readName ml_RX12_287 (by decide +kernel) (by decide +kernel) d_X12_readLine_34 ?_
      exact r_zret (pc := 37) X hr d_X12_readLine_37
  · refine r_aload_n (pc := 10) X d_X12_readLine_10 fn0 ?_
    refine r_bipush (pc := 11) X d_X12_readLine_11 (by decide +kernel) ?_
    refine r_iconst (pc := 13) X d_X12_readLine_13 (by decide +kernel) ?_
    refine r_iconst (pc := 14) X d_X12_readLine_14 (by decide +kernel) ?_
    refine s_cv3 (pc := 15) (ci := 12) X xok12 (by decide +kernel) ob_180 rfl (con_X12_readName l) mf_X12_readName ml_RX12_287 (by decide +kernel) (by decide +kernel) d_X12_readLine_15 ?_
    exact r_zret (pc := 18) X hr d_X12_readLine_18
set_option maxRecDepth 20000 in
theorem m_X12_readLine {l : Launch} {f : Nat → xH → xP → Prop} 
    (v0 : ∀ (a0 : Nat) (A : xH) (P : xP), f a0 A P → k_X12_readLine_0 P [some (.ref a0)] [] A) : xCon l yX12_readLine cX12_readLine 1 (some .boolean) 3 74 xN xN 0 xFT xFT (w_R f) := by
  refine xc_R (plainFor_of_name pn_RX12) (by decide +kernel) (fun p e s m args below meth c g a0 A P h X hr _ => ?_)
  exact ⟨_, v0 a0 A P h, t_X12_readLine_0 X hr⟩
theorem d_X12_sign_0 : decode cX12_sign 0 = .ok (.aload_n 0, 1) := by decide +kernel
theorem d_X12_sign_1 : decode cX12_sign 1 = .ok (.iload_n 1, 1) := by decide +kernel
theorem d_X12_sign_2 : decode cX12_sign 2 = .ok (.invokevirtual 255, 3) := by decide +kernel
theorem d_X12_sign_5 : decode cX12_sign 5 = .ok (.ifCond .ne 9, 3) := by decide +kernel
theorem d_X12_sign_8 : decode cX12_sign 8 = .ok (.aload_n 0, 1) := by decide +kernel
theorem d_X12_sign_9 : decode cX12_sign 9 = .ok (.iconst 1, 1) := by decide +kernel
theorem d_X12_sign_10 : decode cX12_sign 10 = .ok (.invokevirtual 258, 3) := by decide +kernel
theorem d_X12_sign_13 : decode cX12_sign 13 = .ok (.ireturn, 1) := by decide +kernel
theorem d_X12_sign_14 : decode cX12_sign 14 = .ok (.aload_n 0, 1) := by decide +kernel
theorem d_X12_sign_15 : decode cX12_sign 15 = .ok (.invokevirtual 261, 3) := by decide +kernel
theorem d_X12_sign_18 : decode cX12_sign 18 = .ok (.iconst 1, 1) := by decide +kernel
theorem d_X12_sign_19 : decode cX12_sign 19 = .ok (.ireturn, 1) := by decide +kernel
def k_X12_sign_0 (P : xP) : xK := x_aload 0 (x_iload 1 (y_cv1 180 (w_RI f_X12_isSign) (x_if_ne (x_aload 0 (y_cv0 180 (w_R f_X12_next) (x_push (.int 1) (x_zret P)))) (x_aload 0 (x_push (.int 1) (y_cv1 180 (w_RI f_X12_bad) (x_zret P)))))))
set_option maxRecDepth 20000 in
theorem t_X12_sign_0 {p : Program} {l : Launch} {e : Env} {s : State} {m : MethodId} {args : Array Value} {below : List Frame} {meth : Method} {c : Code} {g : xG} (X : xX p s m args c meth cX12_sign RX12 2 g) (hr : meth.sig.returnType = (some .boolean)) {P : xP} : xAt p l e { frames := 2, cells := 0, slots := 0, locals := 43 } s m args below meth c g 2 xFT xN 0 0 (MQ below (xQc g xFT xN P) args s 0 0 (xFr g)) (k_X12_sign_0 P) 0 := by
  unfold k_X12_sign_0
  refine r_aload_n (pc := 0) X d_X12_sign_0 fn0 ?_
  refine r_iload_n (pc := 1) X d_X12_sign_1 fn1 ?_
  refine s_cv1 (pc := 2) (ci := 12) X xok12 (by decide +kernel) ob_180 rfl (con_X12_isSign l) mf_X12_isSign ml_RX12_255 (by decide +kernel) (by decide +kernel) d_X12_sign_2 ?_
  refine r_if_ne (pc := 5) (tgt := 14) X d_X12_sign_5 (by decide +kernel) ?_ ?_
  · refine r_aload_n (pc := 14) X d_X12_sign_14 fn0 ?_
    refine s_cv0 (pc := 15) (ci := 12) X xok12 (by decide +kernel) ob_180 rfl (con_X12_next l) mf_X12_next ml_RX12_261 (by decide +kernel) (by decide +kernel) d_X12_sign_15 ?_
    refine r_iconst (pc := 18) X d_X12_sign_18 (by decide +kernel) ?_
    exact r_zret (pc := 19) X hr d_X12_sign_19
  · refine r_aload_n (pc := 8) X d_X12_sign_8 fn0 ?_
    refine r_iconst (pc := 9) X d_X12_sign_9 (by decide +kernel) ?_
    refine s_cv1 (pc := 10) (ci := 12) X xok12 (by decide +kernel) ob_180 rfl (con_X12_bad l) mf_X12_bad ml_RX12_258 (by decide +kernel) (by decide +kernel) d_X12_sign_10 ?_
    exact r_zret (pc := 13) X hr d_X12_sign_13
def f_X12_sign (a0 : Nat) (a1 : Int32) (A : xH) (P : xP) : Prop := k_X12_sign_0 P [some (.ref a0), some (.int a1)] [] A
set_option maxRecDepth 20000 in
theorem con_X12_sign (l : Launch) : xCon l yX12_sign cX12_sign 2 (some .boolean) 2 43 xN xN 0 xFT xFT (w_RI f_X12_sign) :=
  xc_RI (plainFor_of_name pn_RX12) (by decide +kernel) (fun p e s m args below meth c g a0 a1 A P h X hr _ => ⟨_, h, t_X12_sign_0 X hr⟩)
def lnU (v : xV) (f : Nat → Nat) (n lim p : Nat) : (Nat × Nat) ⊕ (xV × Nat) :=
  if isWd (tk f n lim p) WSI then (if vS v = 4 then .inl (4, (tk f n lim p).2.1) else nlU v f n lim p true)
  else if isWd (tk f n lim p) WKI then (if vK v = 5 then .inl (4, (tk f n lim p).2.1) else nlU v f n lim p false)
  else if isWd (tk f n lim p) WRU = false then .inl (1, (tk f n lim p).2.1)
  else if vR v = 10 then .inl (4, (tk f n lim p).2.1)
  else match rln v f n lim p with
    | .inl e => .inl e
    | .inr ((k, l), z) => .inr (vapp v k l, z)
theorem nln_nlU {v : xV} {f : Nat → Nat} {n lim p : Nat} {s : Bool} : nln v f n lim p s = match nlU v f n lim p s with
    | .inl e => .inl e
    | .inr (v', z) => if isMk (tk f n lim z) 59 = false then .inl (1, (tk f n lim z).2.1) else .inr (v', (tk f n lim z).2.2.1) := by
  unfold nln nlU
  split
  · rfl
  · split <;> rfl
theorem gln_lnU {v : xV} {f : Nat → Nat} {n lim p : Nat} (h1 : vS v ≤ 4) (h2 : vK v ≤ 5) : gln v f n lim p = match lnU v f n lim p with
    | .inl e => .inl e
    | .inr (v', z) => if isMk (tk f n lim z) 59 = false then .inl (1, (tk f n lim z).2.1) else .inr (v', (tk f n lim z).2.2.1) := by
  unfold gln lnU
  by_cases a : isWd (tk f n lim p) WSI = true
  · rw [if_pos a, if_pos a]
    by_cases b : vS v = 4
    · rw [if_pos b, if_pos b]
    · rw [if_neg b, if_neg b]; exact nln_nlU
  · rw [if_neg a, if_neg a]
    by_cases b : isWd (tk f n lim p) WKI = true
    · rw [if_pos b, if_pos b]
      by_cases c : vK v = 5
      · rw [if_pos c, if_pos c]
      · rw [if_neg c, if_neg c]; exact nln_nlU
    · rw [if_neg b, if_neg b]
      by_cases c : isWd (tk f n lim p) WRU = false
      · rw [if_pos c, if_pos c]
      · rw [if_neg c, if_neg c]
        by_cases d : vR v = 10
        · rw [if_pos d, if_pos d]
        · rw [if_neg d, if_neg d]
          cases hr : rln v f n lim p with
          | inl e => rfl
          | inr q =>
            obtain ⟨⟨k, l⟩, z⟩ := q
            have := (rln_ok3 h1 h2 hr).2.2.2
            show _ = if isMk (tk f n lim z) 59 = false then _ else _
            rw [if_neg (by rw [this]; decide)]
theorem isH_rule {A B : xH} {v : xV} {k : Nat} {l : List Nat} (h : isH A v) (hR : vR v ≠ 10) (hq : qS 183 (4 + 5 * vR v) A B) (hro : rowIs B 183 (4 + 5 * vR v) k l) (hl : l.length ≤ 3) : isH (xsi B 183 2 (nI (vR v + 1))) (vapp v k l) := by
  obtain ⟨⟨b0, b1, b2, b3⟩, hN, hR2, hd, hrow⟩ := h
  have e : ∀ j, j < 4 + 5 * vR v → xi B 183 j = xi A 183 j := fun j hj => hq.2.2.2.2 j (by omega)
  refine ⟨⟨?_, ?_, si_eq, ?_⟩, nmU_off hN fun j => (qS_l (c := 186) hq (by omega) (by omega) : xl B 186 j = xl A 186 j), by show vR v + 1 ≤ 10; omega, hd, fun r hr => ?_⟩
  · rw [si_ne (by omega), e _ (by omega)]; exact b0
  · rw [si_ne (by omega), e _ (by omega)]; exact b1
  · rw [si_ne (by omega), e _ (by omega)]; exact b3
  · have hr2 : r < vR v + 1 := hr
    by_cases er : r = vR v
    · subst er
      refine ⟨?_, ?_, fun t ht => ?_⟩
      · rw [si_ne (by omega), hro.1]
        show nI k = nI (if vR v = vR v then k else vrk v (vR v))
        rw [if_pos rfl]
      · rw [si_ne (by omega), hro.2.1]
        show _ = nI (if vR v = vR v then l.length else vrs v (vR v))
        rw [if_pos rfl]
      · rw [si_ne (by omega), hro.2.2 t ht]
        show _ = if t < (if vR v = vR v then l.length else vrs v (vR v)) then nI (if vR v = vR v then (if t = 0 then l.getD 0 0 else if t = 1 then l.getD 1 0 else l.getD 2 0) else vsy v (vR v) t) else -1
        rw [if_pos rfl, if_pos rfl]
        by_cases et : t < l.length
        · rw [dif_pos et, if_pos et]
          congr 1
          have eg : ∀ j, t = j → l[t] = l.getD j 0 := fun j hj => by subst hj; simp [List.getD, List.getElem?_eq_getElem et]
          rcases (show t = 0 ∨ t = 1 ∨ t = 2 by omega) with q | q | q
          · rw [eg 0 q, if_pos q]
          · rw [eg 1 q, if_neg (by omega), if_pos q]
          · rw [eg 2 q, if_neg (by omega), if_neg (by omega)]
        · rw [dif_neg et, if_neg et]
    · have := hrow r (by omega)
      refine ⟨?_, ?_, fun t ht => ?_⟩
      · rw [si_ne (by omega), e _ (by omega), this.1]
        show nI (vrk v r) = nI (if r = vR v then k else vrk v r)
        rw [if_neg er]
      · rw [si_ne (by omega), e _ (by omega), this.2.1]
        show nI (vrs v r) = nI (if r = vR v then l.length else vrs v r)
        rw [if_neg er]
      · rw [si_ne (by omega), e _ (by omega), this.2.2 t ht]
        show _ = if t < (if r = vR v then l.length else vrs v r) then nI (if r = vR v then (if t = 0 then l.getD 0 0 else if t = 1 then l.getD 1 0 else l.getD 2 0) else vsy v r t) else -1
        rw [if_neg er, if_neg er]
theorem wd_1 {t : Nat × Nat × Nat × Nat} {w : Int64} (h : isWd t w = true) : t.1 = 1 := by
  unfold isWd at h
  exact (of_decide_eq_true h).1
def f_X12_readLine (q : Nat) (A : xH) (P : xP) : Prop := q = 180 ∧ ∃ f n lim p v, uT A f n lim p ∧ isH A v ∧ KL1 A P (lnU v f n lim p) ∧ KL2 A P f n lim (lnU v f n lim p)
theorem con_X12_readLine (l : Launch) : xCon l yX12_readLine cX12_readLine 1 (some .boolean) 3 74 xN xN 0 xFT xFT (w_R f_X12_readLine) := by
  refine m_X12_readLine ?_
  rintro q A P ⟨rfl, f, n, lim, p, v, hu, hH, h1, h2⟩
  have hH0 := hH
  obtain ⟨⟨b0, b1, b2, b3⟩, hN, hR, hd, hrow⟩ := hH
  have ht := hu.2.2.2.2.2
  have ho := uT_ok hu
  simp only [k_X12_readLine_0, w_RI, w_RIII, w_RJ, w_RRIIII, x_aload, x_dup2, x_iadd, x_icmp_ne, x_if_eq, x_if_ne, x_imul, x_push, x_zret, y_cv1, y_cv3, y_cv5, y_getF, y_iald, y_iast, xFT, xbool0, xbool1, Nat.reduceAdd, Nat.zero_add, xgl_0, xgl_s, xgl_n, xst_0, xst_1n, xst_1i, xst_1r, xst_1l, xst_s, set_0, set_s, true_and, and_true, xres, xcat_nil, xcat_i, xcat_r, xcat_l, Nat.add_zero, xble0, xble1, xble2, xble3, xble4, xble5, xble6, xble7, xble8, word_U ht ho, bad_L 1 ht, bad_L 4 ht, bI_t, ne_eq, cl0, cl1, show Int32.toNatClampNeg 2 = 2 from rfl, b0, b1, b2, f_X12_readName, show (1936287598 : Int64) = WSI from rfl, show (1802071652 : Int64) = WKI from rfl, show (1920298085 : Int64) = WRU from rfl, c_eq 10 (c := vR v) (by omega) (by decide)]
  refine ⟨fun a => ⟨fun b => ⟨fun c => ⟨vpl (by decide) (by decide), fun d => ⟨vpl (by decide) (by decide), vpl (by decide) (by decide), vpl (by decide) (by decide), ?_⟩, fun d => ?_⟩, fun c => ?_⟩, fun b => ?_⟩, fun a => ?_⟩
  · have hr : lnU v f n lim p = match rln v f n lim p with
        | .inl e => .inl e
        | .inr ((k, l), z) => .inr (vapp v k l, z) := by
      unfold lnU
      rw [if_neg (by rw [a]; decide), if_neg (by rw [b]; decide), if_neg c, if_neg d]
    rw [show (4 : Int32) = nI 4 from rfl, show (5 : Int32) = nI 5 from rfl, pk_mul, nI_add]
    refine ⟨rfl, f, n, lim, p, v, 4 + 5 * vR v, 9, rfl, rfl, rfl, rfl, by omega, Or.inl ⟨rfl, by omega⟩, hu, by rw [wd_1 (by simpa using c)]; decide, hN, hd, fun B e d2 he hq => ?_, fun B k l z he hq hro hm huB => ?_⟩
    · simp only [k_X12_readLine_0, w_RI, w_RIII, w_RJ, w_RRIIII, x_aload, x_dup2, x_iadd, x_icmp_ne, x_if_eq, x_if_ne, x_imul, x_push, x_zret, y_cv1, y_cv3, y_cv5, y_getF, y_iald, y_iast, xFT, xbool0, xbool1, Nat.reduceAdd, Nat.zero_add, xgl_0, xgl_s, xgl_n, xst_0, xst_1n, xst_1i, xst_1r, xst_1l, xst_s, set_0, set_s, true_and, and_true, xres, xcat_nil, xcat_i, xcat_r, xcat_l, Nat.add_zero, xble0, xble1, xble2, xble3, xble4, xble5, xble6, xble7, xble8, i00, not_true_eq_false, false_implies, true_implies]
      rw [he] at hr
      exact h1 B e d2 hr (kS_qS hq)
    · rw [he] at hr
      have g3 := (rln_ok3 hN.1 hN.2.1 he).2.2.1
      have e2 : xi B 183 2 = nI (vR v) := (hq.2.2.2.2 2 (by omega)).trans b2
      simp only [k_X12_readLine_0, w_RI, w_RIII, w_RJ, w_RRIIII, x_aload, x_dup2, x_iadd, x_icmp_ne, x_if_eq, x_if_ne, x_imul, x_push, x_zret, y_cv1, y_cv3, y_cv5, y_getF, y_iald, y_iast, xFT, xbool0, xbool1, Nat.reduceAdd, Nat.zero_add, xgl_0, xgl_s, xgl_n, xst_0, xst_1n, xst_1i, xst_1r, xst_1l, xst_s, set_0, set_s, true_and, and_true, xres, xcat_nil, xcat_i, xcat_r, xcat_l, Nat.add_zero, xble0, xble1, xble2, xble3, xble4, xble5, xble6, xble7, xble8, i10, not_false_eq_true, false_implies, true_implies, e2, nI_1]
      refine ⟨vpl (by decide) (by decide), vpl (by decide) (by decide), ?_⟩
      refine h2 _ _ _ hr (kS_si (kS_qS hq) (by omega)) ?_ (isH_rule hH0 d hq hro g3) (uT_cell huB (by omega))
      rw [si_ne (by omega)]
      exact hq.2.2.1 15 (by omega) (by omega) (by omega) (by omega) (by omega) (by omega)
  · exact h1 A _ _ (by unfold lnU; rw [if_neg (by rw [a]; decide), if_neg (by rw [b]; decide), if_neg c, if_pos d]) kS_rf
  · exact h1 A _ _ (by unfold lnU; rw [if_neg (by rw [a]; decide), if_neg (by rw [b]; decide), if_pos c]) kS_rf
  · have b2' : isWd (tk f n lim p) WKI = true := by simpa using b
    refine ⟨f, n, lim, p, v, false, rfl, rfl, rfl, hu, by rw [wd_1 b2']; decide, hH0, fun q => ?_, fun q => ?_⟩
    · have q2 : vK v = 5 := q
      exact h1 A _ _ (by unfold lnU; rw [if_neg (by rw [a]; decide), if_pos b2', if_pos q2]) kS_rf
    · have q2 : ¬ vK v = 5 := q
      have hr : lnU v f n lim p = nlU v f n lim p false := by unfold lnU; rw [if_neg (by rw [a]; decide), if_pos b2', if_neg q2]
      rw [hr] at h1 h2
      exact ⟨fun B e d he hB => ⟨xbool0, h1 B e d he hB⟩, fun B v' z he hB h15 hv hz => ⟨xbool1, h2 B v' z he hB h15 hv hz⟩⟩
  · have a2 : isWd (tk f n lim p) WSI = true := by simpa using a
    refine ⟨f, n, lim, p, v, true, rfl, rfl, rfl, hu, by rw [wd_1 a2]; decide, hH0, fun q => ?_, fun q => ?_⟩
    · have q2 : vS v = 4 := q
      exact h1 A _ _ (by unfold lnU; rw [if_pos a2, if_pos q2]) kS_rf
    · have q2 : ¬ vS v = 4 := q
      have hr : lnU v f n lim p = nlU v f n lim p true := by unfold lnU; rw [if_pos a2, if_neg q2]
      rw [hr] at h1 h2
      exact ⟨fun B e d he hB => ⟨xbool0, h1 B e d he hB⟩, fun B v' z he hB h15 hv hz => ⟨xbool1, h2 B v' z he hB h15 hv hz⟩⟩

