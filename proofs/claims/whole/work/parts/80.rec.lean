/-! ===== readOne and readCond, over any contracts of theirs ===== -/
theorem d_X5_beginsOne_0 : decode cX5_beginsOne 0 = .ok (.aload_n 0, 1) := by decide +kernel
theorem d_X5_beginsOne_1 : decode cX5_beginsOne 1 = .ok (.getfield 22, 3) := by decide +kernel
theorem d_X5_beginsOne_4 : decode cX5_beginsOne 4 = .ok (.bipush 40, 2) := by decide +kernel
theorem d_X5_beginsOne_6 : decode cX5_beginsOne 6 = .ok (.invokevirtual 113, 3) := by decide +kernel
theorem d_X5_beginsOne_9 : decode cX5_beginsOne 9 = .ok (.ifCond .ne 120, 3) := by decide +kernel
theorem d_X5_beginsOne_12 : decode cX5_beginsOne 12 = .ok (.aload_n 0, 1) := by decide +kernel
theorem d_X5_beginsOne_13 : decode cX5_beginsOne 13 = .ok (.getfield 22, 3) := by decide +kernel
theorem d_X5_beginsOne_16 : decode cX5_beginsOne 16 = .ok (.ldc2_w 167, 3) := by decide +kernel
theorem d_X5_beginsOne_19 : decode cX5_beginsOne 19 = .ok (.invokevirtual 54, 3) := by decide +kernel
theorem d_X5_beginsOne_22 : decode cX5_beginsOne 22 = .ok (.ifCond .ne 107, 3) := by decide +kernel
theorem d_X5_beginsOne_25 : decode cX5_beginsOne 25 = .ok (.aload_n 0, 1) := by decide +kernel
theorem d_X5_beginsOne_26 : decode cX5_beginsOne 26 = .ok (.getfield 22, 3) := by decide +kernel
theorem d_X5_beginsOne_29 : decode cX5_beginsOne 29 = .ok (.ldc2_w 173, 3) := by decide +kernel
theorem d_X5_beginsOne_32 : decode cX5_beginsOne 32 = .ok (.invokevirtual 54, 3) := by decide +kernel
theorem d_X5_beginsOne_35 : decode cX5_beginsOne 35 = .ok (.ifCond .ne 94, 3) := by decide +kernel
theorem d_X5_beginsOne_38 : decode cX5_beginsOne 38 = .ok (.aload_n 0, 1) := by decide +kernel
theorem d_X5_beginsOne_39 : decode cX5_beginsOne 39 = .ok (.getfield 22, 3) := by decide +kernel
theorem d_X5_beginsOne_42 : decode cX5_beginsOne 42 = .ok (.ldc2_w 175, 3) := by decide +kernel
theorem d_X5_beginsOne_45 : decode cX5_beginsOne 45 = .ok (.invokevirtual 54, 3) := by decide +kernel
theorem d_X5_beginsOne_48 : decode cX5_beginsOne 48 = .ok (.ifCond .ne 81, 3) := by decide +kernel
theorem d_X5_beginsOne_51 : decode cX5_beginsOne 51 = .ok (.aload_n 0, 1) := by decide +kernel
theorem d_X5_beginsOne_52 : decode cX5_beginsOne 52 = .ok (.getfield 22, 3) := by decide +kernel
theorem d_X5_beginsOne_55 : decode cX5_beginsOne 55 = .ok (.ldc2_w 177, 3) := by decide +kernel
theorem d_X5_beginsOne_58 : decode cX5_beginsOne 58 = .ok (.invokevirtual 54, 3) := by decide +kernel
theorem d_X5_beginsOne_61 : decode cX5_beginsOne 61 = .ok (.ifCond .ne 68, 3) := by decide +kernel
theorem d_X5_beginsOne_64 : decode cX5_beginsOne 64 = .ok (.aload_n 0, 1) := by decide +kernel
theorem d_X5_beginsOne_65 : decode cX5_beginsOne 65 = .ok (.getfield 22, 3) := by decide +kernel
theorem d_X5_beginsOne_68 : decode cX5_beginsOne 68 = .ok (.ldc2_w 179, 3) := by decide +kernel
theorem d_X5_beginsOne_71 : decode cX5_beginsOne 71 = .ok (.invokevirtual 54, 3) := by decide +kernel
theorem d_X5_beginsOne_74 : decode cX5_beginsOne 74 = .ok (.ifCond .ne 55, 3) := by decide +kernel
theorem d_X5_beginsOne_77 : decode cX5_beginsOne 77 = .ok (.aload_n 0, 1) := by decide +kernel
theorem d_X5_beginsOne_78 : decode cX5_beginsOne 78 = .ok (.getfield 22, 3) := by decide +kernel
theorem d_X5_beginsOne_81 : decode cX5_beginsOne 81 = .ok (.ldc2_w 181, 3) := by decide +kernel
theorem d_X5_beginsOne_84 : decode cX5_beginsOne 84 = .ok (.invokevirtual 54, 3) := by decide +kernel
theorem d_X5_beginsOne_87 : decode cX5_beginsOne 87 = .ok (.ifCond .ne 42, 3) := by decide +kernel
theorem d_X5_beginsOne_90 : decode cX5_beginsOne 90 = .ok (.aload_n 0, 1) := by decide +kernel
theorem d_X5_beginsOne_91 : decode cX5_beginsOne 91 = .ok (.getfield 22, 3) := by decide +kernel
theorem d_X5_beginsOne_94 : decode cX5_beginsOne 94 = .ok (.ldc2_w 76, 3) := by decide +kernel
theorem d_X5_beginsOne_97 : decode cX5_beginsOne 97 = .ok (.invokevirtual 54, 3) := by decide +kernel
theorem d_X5_beginsOne_100 : decode cX5_beginsOne 100 = .ok (.ifCond .ne 29, 3) := by decide +kernel
theorem d_X5_beginsOne_103 : decode cX5_beginsOne 103 = .ok (.aload_n 0, 1) := by decide +kernel
theorem d_X5_beginsOne_104 : decode cX5_beginsOne 104 = .ok (.getfield 22, 3) := by decide +kernel
theorem d_X5_beginsOne_107 : decode cX5_beginsOne 107 = .ok (.ldc2_w 183, 3) := by decide +kernel
theorem d_X5_beginsOne_110 : decode cX5_beginsOne 110 = .ok (.invokevirtual 54, 3) := by decide +kernel
theorem d_X5_beginsOne_113 : decode cX5_beginsOne 113 = .ok (.ifCond .ne 16, 3) := by decide +kernel
theorem d_X5_beginsOne_116 : decode cX5_beginsOne 116 = .ok (.aload_n 0, 1) := by decide +kernel
theorem d_X5_beginsOne_117 : decode cX5_beginsOne 117 = .ok (.getfield 22, 3) := by decide +kernel
theorem d_X5_beginsOne_120 : decode cX5_beginsOne 120 = .ok (.ldc2_w 185, 3) := by decide +kernel
theorem d_X5_beginsOne_123 : decode cX5_beginsOne 123 = .ok (.invokevirtual 54, 3) := by decide +kernel
theorem d_X5_beginsOne_126 : decode cX5_beginsOne 126 = .ok (.ifCond .eq 7, 3) := by decide +kernel
theorem d_X5_beginsOne_129 : decode cX5_beginsOne 129 = .ok (.iconst 1, 1) := by decide +kernel
theorem d_X5_beginsOne_130 : decode cX5_beginsOne 130 = .ok (.goto 4, 3) := by decide +kernel
theorem d_X5_beginsOne_133 : decode cX5_beginsOne 133 = .ok (.iconst 0, 1) := by decide +kernel
theorem d_X5_beginsOne_134 : decode cX5_beginsOne 134 = .ok (.ireturn, 1) := by decide +kernel
def k_X5_beginsOne_134 (P : xP) : xK := x_zret P
set_option maxRecDepth 20000 in
theorem t_X5_beginsOne_134 {p : Program} {l : Launch} {e : Env} {s : State} {m : MethodId} {args : Array Value} {below : List Frame} {meth : Method} {c : Code} {g : xG} (X : xX p s m args c meth cX5_beginsOne RX5 1 g) (hr : meth.sig.returnType = (some .boolean)) {P : xP} : xAt p l e { frames := 1, cells := 0, slots := 0, locals := 22 } s m args below meth c g 1 xFT xN 0 0 (MQ below (xQc g xFT xN P) args s 0 0 (xFr g)) (k_X5_beginsOne_134 P) 134 := by
  unfold k_X5_beginsOne_134
  exact r_zret (pc := 134) X hr d_X5_beginsOne_134
def k_X5_beginsOne_129 (P : xP) : xK := x_push (.int 1) ((k_X5_beginsOne_134 P))
set_option maxRecDepth 20000 in
theorem t_X5_beginsOne_129 {p : Program} {l : Launch} {e : Env} {s : State} {m : MethodId} {args : Array Value} {below : List Frame} {meth : Method} {c : Code} {g : xG} (X : xX p s m args c meth cX5_beginsOne RX5 1 g) (hr : meth.sig.returnType = (some .boolean)) {P : xP} : xAt p l e { frames := 1, cells := 0, slots := 0, locals := 22 } s m args below meth c g 1 xFT xN 0 0 (MQ below (xQc g xFT xN P) args s 0 0 (xFr g)) (k_X5_beginsOne_129 P) 129 := by
  unfold k_X5_beginsOne_129
  refine r_iconst (pc := 129) X d_X5_beginsOne_129 (by decide +kernel) ?_
  refine r_goto (pc := 130) (tgt := 134) X d_X5_beginsOne_130 (by decide +kernel) ?_
  exact t_X5_beginsOne_134 X hr
def k_X5_beginsOne_0 (P : xP) : xK := x_aload 0 (y_getF 3 1 (x_push (.int 40) (y_cv1 1 (w_RI f_X9_isMark) (x_if_ne ((k_X5_beginsOne_129 P)) (x_aload 0 (y_getF 3 1 (x_push (.long 7237492) (y_cv1 1 (w_RJ f_X9_isWord) (x_if_ne ((k_X5_beginsOne_129 P)) (x_aload 0 (y_getF 3 1 (x_push (.long 439855772532) (y_cv1 1 (w_RJ f_X9_isWord) (x_if_ne ((k_X5_beginsOne_129 P)) (x_aload 0 (y_getF 3 1 (x_push (.long 1818325876) (y_cv1 1 (w_RJ f_X9_isWord) (x_if_ne ((k_X5_beginsOne_129 P)) (x_aload 0 (y_getF 3 1 (x_push (.long 418431069797) (y_cv1 1 (w_RJ f_X9_isWord) (x_if_ne ((k_X5_beginsOne_129 P)) (x_aload 0 (y_getF 3 1 (x_push (.long 28518) (y_cv1 1 (w_RJ f_X9_isWord) (x_if_ne ((k_X5_beginsOne_129 P)) (x_aload 0 (y_getF 3 1 (x_push (.long 1852143732) (y_cv1 1 (w_RJ f_X9_isWord) (x_if_ne ((k_X5_beginsOne_129 P)) (x_aload 0 (y_getF 3 1 (x_push (.long 1920298085) (y_cv1 1 (w_RJ f_X9_isWord) (x_if_ne ((k_X5_beginsOne_129 P)) (x_aload 0 (y_getF 3 1 (x_push (.long 6582132) (y_cv1 1 (w_RJ f_X9_isWord) (x_if_ne ((k_X5_beginsOne_129 P)) (x_aload 0 (y_getF 3 1 (x_push (.long 121450625394034) (y_cv1 1 (w_RJ f_X9_isWord) (x_if_eq (x_push (.int 0) ((k_X5_beginsOne_134 P))) ((k_X5_beginsOne_129 P)))))))))))))))))))))))))))))))))))))))))))))))))))
set_option maxRecDepth 20000 in
theorem t_X5_beginsOne_0 {p : Program} {l : Launch} {e : Env} {s : State} {m : MethodId} {args : Array Value} {below : List Frame} {meth : Method} {c : Code} {g : xG} (X : xX p s m args c meth cX5_beginsOne RX5 1 g) (hr : meth.sig.returnType = (some .boolean)) {P : xP} : xAt p l e { frames := 1, cells := 0, slots := 0, locals := 22 } s m args below meth c g 1 xFT xN 0 0 (MQ below (xQc g xFT xN P) args s 0 0 (xFr g)) (k_X5_beginsOne_0 P) 0 := by
  unfold k_X5_beginsOne_0
  refine r_aload_n (pc := 0) X d_X5_beginsOne_0 fn0 ?_
  refine s_getF (pc := 1) (ci := 5) (k := 0) X xok5 (by decide +kernel) ob_3 trivial ly_3_0 (by decide +kernel) fl_RX5_22 d_X5_beginsOne_1 ?_
  refine r_bipush (pc := 4) X d_X5_beginsOne_4 (by decide +kernel) ?_
  refine s_cv1 (pc := 6) (ci := 9) X xok9 (by decide +kernel) ob_1 rfl (con_X9_isMark l) mf_X9_isMark ml_RX5_113 (by decide +kernel) (by decide +kernel) d_X5_beginsOne_6 ?_
  refine r_if_ne (pc := 9) (tgt := 129) X d_X5_beginsOne_9 (by decide +kernel) ?_ ?_
  · exact t_X5_beginsOne_129 X hr
  · refine r_aload_n (pc := 12) X d_X5_beginsOne_12 fn0 ?_
    refine s_getF (pc := 13) (ci := 5) (k := 0) X xok5 (by decide +kernel) ob_3 trivial ly_3_0 (by decide +kernel) fl_RX5_22 d_X5_beginsOne_13 ?_
    refine r_ldc2 (pc := 16) X cw_RX5_167 d_X5_beginsOne_16 ?_
    refine s_cv1 (pc := 19) (ci := 9) X xok9 (by decide +kernel) ob_1 rfl (con_X9_isWord l) mf_X9_isWord ml_RX5_54 (by decide +kernel) (by decide +kernel) d_X5_beginsOne_19 ?_
    refine r_if_ne (pc := 22) (tgt := 129) X d_X5_beginsOne_22 (by decide +kernel) ?_ ?_
    · exact t_X5_beginsOne_129 X hr
    · refine r_aload_n (pc := 25) X d_X5_beginsOne_25 fn0 ?_
      refine s_getF (pc := 26) (ci := 5) (k := 0) X xok5 (by decide +kernel) ob_3 trivial ly_3_0 (by decide +kernel) fl_RX5_22 d_X5_beginsOne_26 ?_
      refine r_ldc2 (pc := 29) X cw_RX5_173 d_X5_beginsOne_29 ?_
      refine s_cv1 (pc := 32) (ci := 9) X xok9 (by decide +kernel) ob_1 rfl (con_X9_isWord l) mf_X9_isWord ml_RX5_54 (by decide +kernel) (by decide +kernel) d_X5_beginsOne_32 ?_
      refine r_if_ne (pc := 35) (tgt := 129) X d_X5_beginsOne_35 (by decide +kernel) ?_ ?_
      · exact t_X5_beginsOne_129 X hr
      · refine r_aload_n (pc := 38) X d_X5_beginsOne_38 fn0 ?_
        refine s_getF (pc := 39) (ci := 5) (k := 0) X xok5 (by decide +kernel) ob_3 trivial ly_3_0 (by decide +kernel) fl_RX5_22 d_X5_beginsOne_39 ?_
        refine r_ldc2 (pc := 42) X cw_RX5_175 d_X5_beginsOne_42 ?_
        refine s_cv1 (pc := 45) (ci := 9) X xok9 (by decide +kernel) ob_1 rfl (con_X9_isWord l) mf_X9_isWord ml_RX5_54 (by decide +kernel) (by decide +kernel) d_X5_beginsOne_45 ?_
        refine r_if_ne (pc := 48) (tgt := 129) X d_X5_beginsOne_48 (by decide +kernel) ?_ ?_
        · exact t_X5_beginsOne_129 X hr
        · refine r_aload_n (pc := 51) X d_X5_beginsOne_51 fn0 ?_
          refine s_getF (pc := 52) (ci := 5) (k := 0) X xok5 (by decide +kernel) ob_3 trivial ly_3_0 (by decide +kernel) fl_RX5_22 d_X5_beginsOne_52 ?_
          refine r_ldc2 (pc := 55) X cw_RX5_177 d_X5_beginsOne_55 ?_
          refine s_cv1 (pc := 58) (ci := 9) X xok9 (by decide +kernel) ob_1 rfl (con_X9_isWord l) mf_X9_isWord ml_RX5_54 (by decide +kernel) (by decide +kernel) d_X5_beginsOne_58 ?_
          refine r_if_ne (pc := 61) (tgt := 129) X d_X5_beginsOne_61 (by decide +kernel) ?_ ?_
          · exact t_X5_beginsOne_129 X hr
          · refine r_aload_n (pc := 64) X d_X5_beginsOne_64 fn0 ?_
            refine s_getF (pc := 65) (ci := 5) (k := 0) X xok5 (by decide +kernel) ob_3 trivial ly_3_0 (by decide +kernel) fl_RX5_22 d_X5_beginsOne_65 ?_
            refine r_ldc2 (pc := 68) X cw_RX5_179 d_X5_beginsOne_68 ?_
            refine s_cv1 (pc := 71) (ci := 9) X xok9 (by decide +kernel) ob_1 rfl (con_X9_isWord l) mf_X9_isWord ml_RX5_54 (by decide +kernel) (by decide +kernel) d_X5_beginsOne_71 ?_
            refine r_if_ne (pc := 74) (tgt := 129) X d_X5_beginsOne_74 (by decide +kernel) ?_ ?_
            · exact t_X5_beginsOne_129 X hr
            · refine r_aload_n (pc := 77) X d_X5_beginsOne_77 fn0 ?_
              refine s_getF (pc := 78) (ci := 5) (k := 0) X xok5 (by decide +kernel) ob_3 trivial ly_3_0 (by decide +kernel) fl_RX5_22 d_X5_beginsOne_78 ?_
              refine r_ldc2 (pc := 81) X cw_RX5_181 d_X5_beginsOne_81 ?_
              refine s_cv1 (pc := 84) (ci := 9) X xok9 (by decide +kernel) ob_1 rfl (con_X9_isWord l) mf_X9_isWord ml_RX5_54 (by decide +kernel) (by decide +kernel) d_X5_beginsOne_84 ?_
              refine r_if_ne (pc := 87) (tgt := 129) X d_X5_beginsOne_87 (by decide +kernel) ?_ ?_
              · exact t_X5_beginsOne_129 X hr
              · refine r_aload_n (pc := 90) X d_X5_beginsOne_90 fn0 ?_
                refine s_getF (pc := 91) (ci := 5) (k := 0) X xok5 (by decide +kernel) ob_3 trivial ly_3_0 (by decide +kernel) fl_RX5_22 d_X5_beginsOne_91 ?_
                refine r_ldc2 (pc := 94) X cw_RX5_76 d_X5_beginsOne_94 ?_
                refine s_cv1 (pc := 97) (ci := 9) X xok9 (by decide +kernel) ob_1 rfl (con_X9_isWord l) mf_X9_isWord ml_RX5_54 (by decide +kernel) (by decide +kernel) d_X5_beginsOne_97 ?_
                refine r_if_ne (pc := 100) (tgt := 129) X d_X5_beginsOne_100 (by decide +kernel) ?_ ?_
                · exact t_X5_beginsOne_129 X hr
                · refine r_aload_n (pc := 103) X d_X5_beginsOne_103 fn0 ?_
                  refine s_getF (pc := 104) (ci := 5) (k := 0) X xok5 (by decide +kernel) ob_3 trivial ly_3_0 (by decide +kernel) fl_RX5_22 d_X5_beginsOne_104 ?_
                  refine r_ldc2 (pc := 107) X cw_RX5_183 d_X5_beginsOne_107 ?_
                  refine s_cv1 (pc := 110) (ci := 9) X xok9 (by decide +kernel) ob_1 rfl (con_X9_isWord l) mf_X9_isWord ml_RX5_54 (by decide +kernel) (by decide +kernel) d_X5_beginsOne_110 ?_
                  refine r_if_ne (pc := 113) (tgt := 129) X d_X5_beginsOne_113 (by decide +kernel) ?_ ?_
                  · exact t_X5_beginsOne_129 X hr
                  · refine r_aload_n (pc := 116) X d_X5_beginsOne_116 fn0 ?_
                    refine s_getF (pc := 117) (ci := 5) (k := 0) X xok5 (by decide +kernel) ob_3 trivial ly_3_0 (by decide +kernel) fl_RX5_22 d_X5_beginsOne_117 ?_
                    refine r_ldc2 (pc := 120) X cw_RX5_185 d_X5_beginsOne_120 ?_
                    refine s_cv1 (pc := 123) (ci := 9) X xok9 (by decide +kernel) ob_1 rfl (con_X9_isWord l) mf_X9_isWord ml_RX5_54 (by decide +kernel) (by decide +kernel) d_X5_beginsOne_123 ?_
                    refine r_if_eq (pc := 126) (tgt := 133) X d_X5_beginsOne_126 (by decide +kernel) ?_ ?_
                    · refine r_iconst (pc := 133) X d_X5_beginsOne_133 (by decide +kernel) ?_
                      exact t_X5_beginsOne_134 X hr
                    · exact t_X5_beginsOne_129 X hr
def f_X5_beginsOne (a0 : Nat) (A : xH) (P : xP) : Prop := k_X5_beginsOne_0 P [some (.ref a0)] [] A
set_option maxRecDepth 20000 in
theorem con_X5_beginsOne (l : Launch) : xCon l yX5_beginsOne cX5_beginsOne 1 (some .boolean) 1 22 xN xN 0 xFT xFT (w_R f_X5_beginsOne) :=
  xc_R (plainFor_of_name pn_RX5) (by decide +kernel) (fun p e s m args below meth c g a0 A P h X hr _ => ⟨_, h, t_X5_beginsOne_0 X hr⟩)
theorem d_X5_readPlain_0 : decode cX5_readPlain 0 = .ok (.lload_n 2, 1) := by decide +kernel
theorem d_X5_readPlain_1 : decode cX5_readPlain 1 = .ok (.ldc2_w 173, 3) := by decide +kernel
theorem d_X5_readPlain_4 : decode cX5_readPlain 4 = .ok (.lcmp, 1) := by decide +kernel
theorem d_X5_readPlain_5 : decode cX5_readPlain 5 = .ok (.ifCond .eq 19, 3) := by decide +kernel
theorem d_X5_readPlain_8 : decode cX5_readPlain 8 = .ok (.lload_n 2, 1) := by decide +kernel
theorem d_X5_readPlain_9 : decode cX5_readPlain 9 = .ok (.ldc2_w 175, 3) := by decide +kernel
theorem d_X5_readPlain_12 : decode cX5_readPlain 12 = .ok (.lcmp, 1) := by decide +kernel
theorem d_X5_readPlain_13 : decode cX5_readPlain 13 = .ok (.ifCond .eq 11, 3) := by decide +kernel
theorem d_X5_readPlain_16 : decode cX5_readPlain 16 = .ok (.lload_n 2, 1) := by decide +kernel
theorem d_X5_readPlain_17 : decode cX5_readPlain 17 = .ok (.ldc2_w 177, 3) := by decide +kernel
theorem d_X5_readPlain_20 : decode cX5_readPlain 20 = .ok (.lcmp, 1) := by decide +kernel
theorem d_X5_readPlain_21 : decode cX5_readPlain 21 = .ok (.ifCond .ne 38, 3) := by decide +kernel
theorem d_X5_readPlain_24 : decode cX5_readPlain 24 = .ok (.aload_n 0, 1) := by decide +kernel
theorem d_X5_readPlain_25 : decode cX5_readPlain 25 = .ok (.getfield 18, 3) := by decide +kernel
theorem d_X5_readPlain_28 : decode cX5_readPlain 28 = .ok (.lload_n 2, 1) := by decide +kernel
theorem d_X5_readPlain_29 : decode cX5_readPlain 29 = .ok (.ldc2_w 173, 3) := by decide +kernel
theorem d_X5_readPlain_32 : decode cX5_readPlain 32 = .ok (.lcmp, 1) := by decide +kernel
theorem d_X5_readPlain_33 : decode cX5_readPlain 33 = .ok (.ifCond .ne 7, 3) := by decide +kernel
theorem d_X5_readPlain_36 : decode cX5_readPlain 36 = .ok (.iconst 0, 1) := by decide +kernel
theorem d_X5_readPlain_37 : decode cX5_readPlain 37 = .ok (.goto 16, 3) := by decide +kernel
theorem d_X5_readPlain_40 : decode cX5_readPlain 40 = .ok (.lload_n 2, 1) := by decide +kernel
theorem d_X5_readPlain_41 : decode cX5_readPlain 41 = .ok (.ldc2_w 175, 3) := by decide +kernel
theorem d_X5_readPlain_44 : decode cX5_readPlain 44 = .ok (.lcmp, 1) := by decide +kernel
theorem d_X5_readPlain_45 : decode cX5_readPlain 45 = .ok (.ifCond .ne 7, 3) := by decide +kernel
theorem d_X5_readPlain_48 : decode cX5_readPlain 48 = .ok (.iconst 1, 1) := by decide +kernel
theorem d_X5_readPlain_49 : decode cX5_readPlain 49 = .ok (.goto 4, 3) := by decide +kernel
theorem d_X5_readPlain_52 : decode cX5_readPlain 52 = .ok (.iconst 2, 1) := by decide +kernel
theorem d_X5_readPlain_53 : decode cX5_readPlain 53 = .ok (.iconst 0, 1) := by decide +kernel
theorem d_X5_readPlain_54 : decode cX5_readPlain 54 = .ok (.invokevirtual 155, 3) := by decide +kernel
theorem d_X5_readPlain_57 : decode cX5_readPlain 57 = .ok (.iconst 1, 1) := by decide +kernel
theorem d_X5_readPlain_58 : decode cX5_readPlain 58 = .ok (.ireturn, 1) := by decide +kernel
theorem d_X5_readPlain_59 : decode cX5_readPlain 59 = .ok (.lload_n 2, 1) := by decide +kernel
theorem d_X5_readPlain_60 : decode cX5_readPlain 60 = .ok (.ldc2_w 179, 3) := by decide +kernel
theorem d_X5_readPlain_63 : decode cX5_readPlain 63 = .ok (.lcmp, 1) := by decide +kernel
theorem d_X5_readPlain_64 : decode cX5_readPlain 64 = .ok (.ifCond .eq 11, 3) := by decide +kernel
theorem d_X5_readPlain_67 : decode cX5_readPlain 67 = .ok (.lload_n 2, 1) := by decide +kernel
theorem d_X5_readPlain_68 : decode cX5_readPlain 68 = .ok (.ldc2_w 181, 3) := by decide +kernel
theorem d_X5_readPlain_71 : decode cX5_readPlain 71 = .ok (.lcmp, 1) := by decide +kernel
theorem d_X5_readPlain_72 : decode cX5_readPlain 72 = .ok (.ifCond .ne 86, 3) := by decide +kernel
theorem d_X5_readPlain_75 : decode cX5_readPlain 75 = .ok (.aload_n 0, 1) := by decide +kernel
theorem d_X5_readPlain_76 : decode cX5_readPlain 76 = .ok (.aload_n 1, 1) := by decide +kernel
theorem d_X5_readPlain_77 : decode cX5_readPlain 77 = .ok (.invokevirtual 116, 3) := by decide +kernel
theorem d_X5_readPlain_80 : decode cX5_readPlain 80 = .ok (.istore 4, 2) := by decide +kernel
theorem d_X5_readPlain_82 : decode cX5_readPlain 82 = .ok (.iload 4, 2) := by decide +kernel
theorem d_X5_readPlain_84 : decode cX5_readPlain 84 = .ok (.iconst (-1), 1) := by decide +kernel
theorem d_X5_readPlain_85 : decode cX5_readPlain 85 = .ok (.if_icmp .ne 5, 3) := by decide +kernel
theorem d_X5_readPlain_88 : decode cX5_readPlain 88 = .ok (.iconst 0, 1) := by decide +kernel
theorem d_X5_readPlain_89 : decode cX5_readPlain 89 = .ok (.ireturn, 1) := by decide +kernel
theorem d_X5_readPlain_90 : decode cX5_readPlain 90 = .ok (.lload_n 2, 1) := by decide +kernel
theorem d_X5_readPlain_91 : decode cX5_readPlain 91 = .ok (.ldc2_w 179, 3) := by decide +kernel
theorem d_X5_readPlain_94 : decode cX5_readPlain 94 = .ok (.lcmp, 1) := by decide +kernel
theorem d_X5_readPlain_95 : decode cX5_readPlain 95 = .ok (.ifCond .ne 16, 3) := by decide +kernel
theorem d_X5_readPlain_98 : decode cX5_readPlain 98 = .ok (.iload 4, 2) := by decide +kernel
theorem d_X5_readPlain_100 : decode cX5_readPlain 100 = .ok (.bipush 8, 2) := by decide +kernel
theorem d_X5_readPlain_102 : decode cX5_readPlain 102 = .ok (.if_icmp .ge 9, 3) := by decide +kernel
theorem d_X5_readPlain_105 : decode cX5_readPlain 105 = .ok (.aload_n 0, 1) := by decide +kernel
theorem d_X5_readPlain_106 : decode cX5_readPlain 106 = .ok (.iconst 3, 1) := by decide +kernel
theorem d_X5_readPlain_107 : decode cX5_readPlain 107 = .ok (.invokevirtual 63, 3) := by decide +kernel
theorem d_X5_readPlain_110 : decode cX5_readPlain 110 = .ok (.ireturn, 1) := by decide +kernel
theorem d_X5_readPlain_111 : decode cX5_readPlain 111 = .ok (.aload_n 0, 1) := by decide +kernel
theorem d_X5_readPlain_112 : decode cX5_readPlain 112 = .ok (.getfield 18, 3) := by decide +kernel
theorem d_X5_readPlain_115 : decode cX5_readPlain 115 = .ok (.lload_n 2, 1) := by decide +kernel
theorem d_X5_readPlain_116 : decode cX5_readPlain 116 = .ok (.ldc2_w 179, 3) := by decide +kernel
theorem d_X5_readPlain_119 : decode cX5_readPlain 119 = .ok (.lcmp, 1) := by decide +kernel
theorem d_X5_readPlain_120 : decode cX5_readPlain 120 = .ok (.ifCond .ne 7, 3) := by decide +kernel
theorem d_X5_readPlain_123 : decode cX5_readPlain 123 = .ok (.iconst 3, 1) := by decide +kernel
theorem d_X5_readPlain_124 : decode cX5_readPlain 124 = .ok (.goto 4, 3) := by decide +kernel
theorem d_X5_readPlain_127 : decode cX5_readPlain 127 = .ok (.iconst 4, 1) := by decide +kernel
theorem d_X5_readPlain_128 : decode cX5_readPlain 128 = .ok (.lload_n 2, 1) := by decide +kernel
theorem d_X5_readPlain_129 : decode cX5_readPlain 129 = .ok (.ldc2_w 179, 3) := by decide +kernel
theorem d_X5_readPlain_132 : decode cX5_readPlain 132 = .ok (.lcmp, 1) := by decide +kernel
theorem d_X5_readPlain_133 : decode cX5_readPlain 133 = .ok (.ifCond .ne 11, 3) := by decide +kernel
theorem d_X5_readPlain_136 : decode cX5_readPlain 136 = .ok (.iload 4, 2) := by decide +kernel
theorem d_X5_readPlain_138 : decode cX5_readPlain 138 = .ok (.bipush 8, 2) := by decide +kernel
theorem d_X5_readPlain_140 : decode cX5_readPlain 140 = .ok (.isub, 1) := by decide +kernel
theorem d_X5_readPlain_141 : decode cX5_readPlain 141 = .ok (.goto 5, 3) := by decide +kernel
theorem d_X5_readPlain_144 : decode cX5_readPlain 144 = .ok (.iload 4, 2) := by decide +kernel
theorem d_X5_readPlain_146 : decode cX5_readPlain 146 = .ok (.invokevirtual 155, 3) := by decide +kernel
theorem d_X5_readPlain_149 : decode cX5_readPlain 149 = .ok (.aload_n 0, 1) := by decide +kernel
theorem d_X5_readPlain_150 : decode cX5_readPlain 150 = .ok (.getfield 22, 3) := by decide +kernel
theorem d_X5_readPlain_153 : decode cX5_readPlain 153 = .ok (.invokevirtual 88, 3) := by decide +kernel
theorem d_X5_readPlain_156 : decode cX5_readPlain 156 = .ok (.iconst 1, 1) := by decide +kernel
theorem d_X5_readPlain_157 : decode cX5_readPlain 157 = .ok (.ireturn, 1) := by decide +kernel
theorem d_X5_readPlain_158 : decode cX5_readPlain 158 = .ok (.aload_n 0, 1) := by decide +kernel
theorem d_X5_readPlain_159 : decode cX5_readPlain 159 = .ok (.getfield 22, 3) := by decide +kernel
theorem d_X5_readPlain_162 : decode cX5_readPlain 162 = .ok (.bipush 60, 2) := by decide +kernel
theorem d_X5_readPlain_164 : decode cX5_readPlain 164 = .ok (.invokevirtual 113, 3) := by decide +kernel
theorem d_X5_readPlain_167 : decode cX5_readPlain 167 = .ok (.ifCond .eq 7, 3) := by decide +kernel
theorem d_X5_readPlain_170 : decode cX5_readPlain 170 = .ok (.iconst 0, 1) := by decide +kernel
theorem d_X5_readPlain_171 : decode cX5_readPlain 171 = .ok (.goto 36, 3) := by decide +kernel
theorem d_X5_readPlain_174 : decode cX5_readPlain 174 = .ok (.aload_n 0, 1) := by decide +kernel
theorem d_X5_readPlain_175 : decode cX5_readPlain 175 = .ok (.getfield 22, 3) := by decide +kernel
theorem d_X5_readPlain_178 : decode cX5_readPlain 178 = .ok (.bipush 61, 2) := by decide +kernel
theorem d_X5_readPlain_180 : decode cX5_readPlain 180 = .ok (.invokevirtual 113, 3) := by decide +kernel
theorem d_X5_readPlain_183 : decode cX5_readPlain 183 = .ok (.ifCond .eq 7, 3) := by decide +kernel
theorem d_X5_readPlain_186 : decode cX5_readPlain 186 = .ok (.iconst 1, 1) := by decide +kernel
theorem d_X5_readPlain_187 : decode cX5_readPlain 187 = .ok (.goto 20, 3) := by decide +kernel
theorem d_X5_readPlain_190 : decode cX5_readPlain 190 = .ok (.aload_n 0, 1) := by decide +kernel
theorem d_X5_readPlain_191 : decode cX5_readPlain 191 = .ok (.getfield 22, 3) := by decide +kernel
theorem d_X5_readPlain_194 : decode cX5_readPlain 194 = .ok (.bipush 62, 2) := by decide +kernel
theorem d_X5_readPlain_196 : decode cX5_readPlain 196 = .ok (.invokevirtual 113, 3) := by decide +kernel
theorem d_X5_readPlain_199 : decode cX5_readPlain 199 = .ok (.ifCond .eq 7, 3) := by decide +kernel
theorem d_X5_readPlain_202 : decode cX5_readPlain 202 = .ok (.iconst 2, 1) := by decide +kernel
theorem d_X5_readPlain_203 : decode cX5_readPlain 203 = .ok (.goto 4, 3) := by decide +kernel
theorem d_X5_readPlain_206 : decode cX5_readPlain 206 = .ok (.iconst (-1), 1) := by decide +kernel
theorem d_X5_readPlain_207 : decode cX5_readPlain 207 = .ok (.istore 4, 2) := by decide +kernel
theorem d_X5_readPlain_209 : decode cX5_readPlain 209 = .ok (.iload 4, 2) := by decide +kernel
theorem d_X5_readPlain_211 : decode cX5_readPlain 211 = .ok (.iconst (-1), 1) := by decide +kernel
theorem d_X5_readPlain_212 : decode cX5_readPlain 212 = .ok (.if_icmp .ne 9, 3) := by decide +kernel
theorem d_X5_readPlain_215 : decode cX5_readPlain 215 = .ok (.aload_n 0, 1) := by decide +kernel
theorem d_X5_readPlain_216 : decode cX5_readPlain 216 = .ok (.iconst 1, 1) := by decide +kernel
theorem d_X5_readPlain_217 : decode cX5_readPlain 217 = .ok (.invokevirtual 63, 3) := by decide +kernel
theorem d_X5_readPlain_220 : decode cX5_readPlain 220 = .ok (.ireturn, 1) := by decide +kernel
theorem d_X5_readPlain_221 : decode cX5_readPlain 221 = .ok (.aload_n 0, 1) := by decide +kernel
theorem d_X5_readPlain_222 : decode cX5_readPlain 222 = .ok (.getfield 22, 3) := by decide +kernel
theorem d_X5_readPlain_225 : decode cX5_readPlain 225 = .ok (.invokevirtual 88, 3) := by decide +kernel
theorem d_X5_readPlain_228 : decode cX5_readPlain 228 = .ok (.aload_n 0, 1) := by decide +kernel
theorem d_X5_readPlain_229 : decode cX5_readPlain 229 = .ok (.iconst 0, 1) := by decide +kernel
theorem d_X5_readPlain_230 : decode cX5_readPlain 230 = .ok (.iconst 0, 1) := by decide +kernel
theorem d_X5_readPlain_231 : decode cX5_readPlain 231 = .ok (.sipush 999, 3) := by decide +kernel
theorem d_X5_readPlain_234 : decode cX5_readPlain 234 = .ok (.invokevirtual 139, 3) := by decide +kernel
theorem d_X5_readPlain_237 : decode cX5_readPlain 237 = .ok (.ifCond .ne 5, 3) := by decide +kernel
theorem d_X5_readPlain_240 : decode cX5_readPlain 240 = .ok (.iconst 0, 1) := by decide +kernel
theorem d_X5_readPlain_241 : decode cX5_readPlain 241 = .ok (.ireturn, 1) := by decide +kernel
theorem d_X5_readPlain_242 : decode cX5_readPlain 242 = .ok (.lload_n 2, 1) := by decide +kernel
theorem d_X5_readPlain_243 : decode cX5_readPlain 243 = .ok (.ldc2_w 76, 3) := by decide +kernel
theorem d_X5_readPlain_246 : decode cX5_readPlain 246 = .ok (.lcmp, 1) := by decide +kernel
theorem d_X5_readPlain_247 : decode cX5_readPlain 247 = .ok (.ifCond .ne 8, 3) := by decide +kernel
theorem d_X5_readPlain_250 : decode cX5_readPlain 250 = .ok (.bipush 10, 2) := by decide +kernel
theorem d_X5_readPlain_252 : decode cX5_readPlain 252 = .ok (.goto 18, 3) := by decide +kernel
theorem d_X5_readPlain_255 : decode cX5_readPlain 255 = .ok (.lload_n 2, 1) := by decide +kernel
theorem d_X5_readPlain_256 : decode cX5_readPlain 256 = .ok (.ldc2_w 183, 3) := by decide +kernel
theorem d_X5_readPlain_259 : decode cX5_readPlain 259 = .ok (.lcmp, 1) := by decide +kernel
theorem d_X5_readPlain_260 : decode cX5_readPlain 260 = .ok (.ifCond .ne 8, 3) := by decide +kernel
theorem d_X5_readPlain_263 : decode cX5_readPlain 263 = .ok (.bipush 13, 2) := by decide +kernel
theorem d_X5_readPlain_265 : decode cX5_readPlain 265 = .ok (.goto 5, 3) := by decide +kernel
theorem d_X5_readPlain_268 : decode cX5_readPlain 268 = .ok (.bipush 16, 2) := by decide +kernel
theorem d_X5_readPlain_270 : decode cX5_readPlain 270 = .ok (.istore 5, 2) := by decide +kernel
theorem d_X5_readPlain_272 : decode cX5_readPlain 272 = .ok (.aload_n 0, 1) := by decide +kernel
theorem d_X5_readPlain_273 : decode cX5_readPlain 273 = .ok (.getfield 18, 3) := by decide +kernel
theorem d_X5_readPlain_276 : decode cX5_readPlain 276 = .ok (.iload 5, 2) := by decide +kernel
theorem d_X5_readPlain_278 : decode cX5_readPlain 278 = .ok (.iload 4, 2) := by decide +kernel
theorem d_X5_readPlain_280 : decode cX5_readPlain 280 = .ok (.iadd, 1) := by decide +kernel
theorem d_X5_readPlain_281 : decode cX5_readPlain 281 = .ok (.aload_n 0, 1) := by decide +kernel
theorem d_X5_readPlain_282 : decode cX5_readPlain 282 = .ok (.getfield 9, 3) := by decide +kernel
theorem d_X5_readPlain_285 : decode cX5_readPlain 285 = .ok (.iconst 0, 1) := by decide +kernel
theorem d_X5_readPlain_286 : decode cX5_readPlain 286 = .ok (.iaload, 1) := by decide +kernel
theorem d_X5_readPlain_287 : decode cX5_readPlain 287 = .ok (.invokevirtual 155, 3) := by decide +kernel
theorem d_X5_readPlain_290 : decode cX5_readPlain 290 = .ok (.iconst 1, 1) := by decide +kernel
theorem d_X5_readPlain_291 : decode cX5_readPlain 291 = .ok (.ireturn, 1) := by decide +kernel
def k_X5_readPlain_53 (P : xP) : xK := x_push (.int 0) (x_cv2 xN 8 (w_RII f_X8_emit) (x_push (.int 1) (x_zret P)))
set_option maxRecDepth 20000 in
theorem t_X5_readPlain_53 {p : Program} {l : Launch} {e : Env} {s : State} {m : MethodId} {args : Array Value} {below : List Frame} {meth : Method} {c : Code} {g : xG} (X : xX p s m args c meth cX5_readPlain RX5 6 g) (hr : meth.sig.returnType = (some .boolean)) {P : xP} : xAt p l e { frames := 3, cells := 0, slots := 0, locals := 72 } s m args below meth c g 6 xFT xN 0 0 (MQ below (xQc g xFT xN P) args s 0 0 (xFr g)) (k_X5_readPlain_53 P) 53 := by
  unfold k_X5_readPlain_53
  refine r_iconst (pc := 53) X d_X5_readPlain_53 (by decide +kernel) ?_
  refine r_cv2 (pc := 54) X xok8 (by decide +kernel) rfl (con_X8_emit l) mf_X8_emit ml_RX5_155 (by decide +kernel) (by decide +kernel) d_X5_readPlain_54 ?_
  refine r_iconst (pc := 57) X d_X5_readPlain_57 (by decide +kernel) ?_
  exact r_zret (pc := 58) X hr d_X5_readPlain_58
def k_X5_readPlain_24 (P : xP) : xK := x_aload 0 (y_getF 3 5 (x_lload 2 (x_push (.long 439855772532) (x_lcmp (x_if_ne (x_lload 2 (x_push (.long 1818325876) (x_lcmp (x_if_ne (x_push (.int 2) ((k_X5_readPlain_53 P))) (x_push (.int 1) ((k_X5_readPlain_53 P))))))) (x_push (.int 0) ((k_X5_readPlain_53 P))))))))
set_option maxRecDepth 20000 in
theorem t_X5_readPlain_24 {p : Program} {l : Launch} {e : Env} {s : State} {m : MethodId} {args : Array Value} {below : List Frame} {meth : Method} {c : Code} {g : xG} (X : xX p s m args c meth cX5_readPlain RX5 6 g) (hr : meth.sig.returnType = (some .boolean)) {P : xP} : xAt p l e { frames := 3, cells := 0, slots := 0, locals := 72 } s m args below meth c g 6 xFT xN 0 0 (MQ below (xQc g xFT xN P) args s 0 0 (xFr g)) (k_X5_readPlain_24 P) 24 := by
  unfold k_X5_readPlain_24
  refine r_aload_n (pc := 24) X d_X5_readPlain_24 fn0 ?_
  refine s_getF (pc := 25) (ci := 5) (k := 2) X xok5 (by decide +kernel) ob_3 trivial ly_3_2 (by decide +kernel) fl_RX5_18 d_X5_readPlain_25 ?_
  refine r_lload_n (pc := 28) X d_X5_readPlain_28 fn2 ?_
  refine r_ldc2 (pc := 29) X cw_RX5_173 d_X5_readPlain_29 ?_
  refine r_lcmp (pc := 32) X d_X5_readPlain_32 ?_
  refine r_if_ne (pc := 33) (tgt := 40) X d_X5_readPlain_33 (by decide +kernel) ?_ ?_
  · refine r_lload_n (pc := 40) X d_X5_readPlain_40 fn2 ?_
    refine r_ldc2 (pc := 41) X cw_RX5_175 d_X5_readPlain_41 ?_
    refine r_lcmp (pc := 44) X d_X5_readPlain_44 ?_
    refine r_if_ne (pc := 45) (tgt := 52) X d_X5_readPlain_45 (by decide +kernel) ?_ ?_
    · refine r_iconst (pc := 52) X d_X5_readPlain_52 (by decide +kernel) ?_
      exact t_X5_readPlain_53 X hr
    · refine r_iconst (pc := 48) X d_X5_readPlain_48 (by decide +kernel) ?_
      refine r_goto (pc := 49) (tgt := 53) X d_X5_readPlain_49 (by decide +kernel) ?_
      exact t_X5_readPlain_53 X hr
  · refine r_iconst (pc := 36) X d_X5_readPlain_36 (by decide +kernel) ?_
    refine r_goto (pc := 37) (tgt := 53) X d_X5_readPlain_37 (by decide +kernel) ?_
    exact t_X5_readPlain_53 X hr
def k_X5_readPlain_146 (P : xP) : xK := x_cv2 xN 8 (w_RII f_X8_emit) (x_aload 0 (y_getF 3 1 (y_cv0 1 (w_R f_X9_advance) (x_push (.int 1) (x_zret P)))))
set_option maxRecDepth 20000 in
theorem t_X5_readPlain_146 {p : Program} {l : Launch} {e : Env} {s : State} {m : MethodId} {args : Array Value} {below : List Frame} {meth : Method} {c : Code} {g : xG} (X : xX p s m args c meth cX5_readPlain RX5 6 g) (hr : meth.sig.returnType = (some .boolean)) {P : xP} : xAt p l e { frames := 3, cells := 0, slots := 0, locals := 72 } s m args below meth c g 6 xFT xN 0 0 (MQ below (xQc g xFT xN P) args s 0 0 (xFr g)) (k_X5_readPlain_146 P) 146 := by
  unfold k_X5_readPlain_146
  refine r_cv2 (pc := 146) X xok8 (by decide +kernel) rfl (con_X8_emit l) mf_X8_emit ml_RX5_155 (by decide +kernel) (by decide +kernel) d_X5_readPlain_146 ?_
  refine r_aload_n (pc := 149) X d_X5_readPlain_149 fn0 ?_
  refine s_getF (pc := 150) (ci := 5) (k := 0) X xok5 (by decide +kernel) ob_3 trivial ly_3_0 (by decide +kernel) fl_RX5_22 d_X5_readPlain_150 ?_
  refine s_cv0 (pc := 153) (ci := 9) X xok9 (by decide +kernel) ob_1 rfl (con_X9_advance l) mf_X9_advance ml_RX5_88 (by decide +kernel) (by decide +kernel) d_X5_readPlain_153 ?_
  refine r_iconst (pc := 156) X d_X5_readPlain_156 (by decide +kernel) ?_
  exact r_zret (pc := 157) X hr d_X5_readPlain_157
def k_X5_readPlain_128 (P : xP) : xK := x_lload 2 (x_push (.long 28518) (x_lcmp (x_if_ne (x_iload 4 ((k_X5_readPlain_146 P))) (x_iload 4 (x_push (.int 8) (x_isub ((k_X5_readPlain_146 P))))))))
set_option maxRecDepth 20000 in
theorem t_X5_readPlain_128 {p : Program} {l : Launch} {e : Env} {s : State} {m : MethodId} {args : Array Value} {below : List Frame} {meth : Method} {c : Code} {g : xG} (X : xX p s m args c meth cX5_readPlain RX5 6 g) (hr : meth.sig.returnType = (some .boolean)) {P : xP} : xAt p l e { frames := 3, cells := 0, slots := 0, locals := 72 } s m args below meth c g 6 xFT xN 0 0 (MQ below (xQc g xFT xN P) args s 0 0 (xFr g)) (k_X5_readPlain_128 P) 128 := by
  unfold k_X5_readPlain_128
  refine r_lload_n (pc := 128) X d_X5_readPlain_128 fn2 ?_
  refine r_ldc2 (pc := 129) X cw_RX5_179 d_X5_readPlain_129 ?_
  refine r_lcmp (pc := 132) X d_X5_readPlain_132 ?_
  refine r_if_ne (pc := 133) (tgt := 144) X d_X5_readPlain_133 (by decide +kernel) ?_ ?_
  · refine r_iload (pc := 144) X d_X5_readPlain_144 ?_
    exact t_X5_readPlain_146 X hr
  · refine r_iload (pc := 136) X d_X5_readPlain_136 ?_
    refine r_bipush (pc := 138) X d_X5_readPlain_138 (by decide +kernel) ?_
    refine r_isub (pc := 140) X d_X5_readPlain_140 ?_
    refine r_goto (pc := 141) (tgt := 146) X d_X5_readPlain_141 (by decide +kernel) ?_
    exact t_X5_readPlain_146 X hr
def k_X5_readPlain_111 (P : xP) : xK := x_aload 0 (y_getF 3 5 (x_lload 2 (x_push (.long 28518) (x_lcmp (x_if_ne (x_push (.int 4) ((k_X5_readPlain_128 P))) (x_push (.int 3) ((k_X5_readPlain_128 P))))))))
set_option maxRecDepth 20000 in
theorem t_X5_readPlain_111 {p : Program} {l : Launch} {e : Env} {s : State} {m : MethodId} {args : Array Value} {below : List Frame} {meth : Method} {c : Code} {g : xG} (X : xX p s m args c meth cX5_readPlain RX5 6 g) (hr : meth.sig.returnType = (some .boolean)) {P : xP} : xAt p l e { frames := 3, cells := 0, slots := 0, locals := 72 } s m args below meth c g 6 xFT xN 0 0 (MQ below (xQc g xFT xN P) args s 0 0 (xFr g)) (k_X5_readPlain_111 P) 111 := by
  unfold k_X5_readPlain_111
  refine r_aload_n (pc := 111) X d_X5_readPlain_111 fn0 ?_
  refine s_getF (pc := 112) (ci := 5) (k := 2) X xok5 (by decide +kernel) ob_3 trivial ly_3_2 (by decide +kernel) fl_RX5_18 d_X5_readPlain_112 ?_
  refine r_lload_n (pc := 115) X d_X5_readPlain_115 fn2 ?_
  refine r_ldc2 (pc := 116) X cw_RX5_179 d_X5_readPlain_116 ?_
  refine r_lcmp (pc := 119) X d_X5_readPlain_119 ?_
  refine r_if_ne (pc := 120) (tgt := 127) X d_X5_readPlain_120 (by decide +kernel) ?_ ?_
  · refine r_iconst (pc := 127) X d_X5_readPlain_127 (by decide +kernel) ?_
    exact t_X5_readPlain_128 X hr
  · refine r_iconst (pc := 123) X d_X5_readPlain_123 (by decide +kernel) ?_
    refine r_goto (pc := 124) (tgt := 128) X d_X5_readPlain_124 (by decide +kernel) ?_
    exact t_X5_readPlain_128 X hr
def k_X5_readPlain_75 (P : xP) : xK := x_aload 0 (x_aload 1 (y_cv1 3 (w_RR f_X5_knownName) (x_istore 4 (x_iload 4 (x_push (.int (-1)) (x_icmp_ne (x_lload 2 (x_push (.long 28518) (x_lcmp (x_if_ne ((k_X5_readPlain_111 P)) (x_iload 4 (x_push (.int 8) (x_icmp_ge ((k_X5_readPlain_111 P)) (x_aload 0 (x_push (.int 3) (y_cv1 3 (w_RI f_X5_fail) (x_zret P))))))))))) (x_push (.int 0) (x_zret P))))))))
set_option maxRecDepth 20000 in
theorem t_X5_readPlain_75 {p : Program} {l : Launch} {e : Env} {s : State} {m : MethodId} {args : Array Value} {below : List Frame} {meth : Method} {c : Code} {g : xG} (X : xX p s m args c meth cX5_readPlain RX5 6 g) (hr : meth.sig.returnType = (some .boolean)) {P : xP} : xAt p l e { frames := 3, cells := 0, slots := 0, locals := 72 } s m args below meth c g 6 xFT xN 0 0 (MQ below (xQc g xFT xN P) args s 0 0 (xFr g)) (k_X5_readPlain_75 P) 75 := by
  unfold k_X5_readPlain_75
  refine r_aload_n (pc := 75) X d_X5_readPlain_75 fn0 ?_
  refine r_aload_n (pc := 76) X d_X5_readPlain_76 fn1 ?_
  refine s_cv1 (pc := 77) (ci := 5) X xok5 (by decide +kernel) ob_3 rfl (con_X5_knownName l) mf_X5_knownName ml_RX5_116 (by decide +kernel) (by decide +kernel) d_X5_readPlain_77 ?_
  refine r_istore (pc := 80) X d_X5_readPlain_80 (by decide +kernel) ?_
  refine r_iload (pc := 82) X d_X5_readPlain_82 ?_
  refine r_iconst (pc := 84) X d_X5_readPlain_84 (by decide +kernel) ?_
  refine r_icmp_ne (pc := 85) (tgt := 90) X d_X5_readPlain_85 (by decide +kernel) ?_ ?_
  · refine r_lload_n (pc := 90) X d_X5_readPlain_90 fn2 ?_
    refine r_ldc2 (pc := 91) X cw_RX5_179 d_X5_readPlain_91 ?_
    refine r_lcmp (pc := 94) X d_X5_readPlain_94 ?_
    refine r_if_ne (pc := 95) (tgt := 111) X d_X5_readPlain_95 (by decide +kernel) ?_ ?_
    · exact t_X5_readPlain_111 X hr
    · refine r_iload (pc := 98) X d_X5_readPlain_98 ?_
      refine r_bipush (pc := 100) X d_X5_readPlain_100 (by decide +kernel) ?_
      refine r_icmp_ge (pc := 102) (tgt := 111) X d_X5_readPlain_102 (by decide +kernel) ?_ ?_
      · exact t_X5_readPlain_111 X hr
      · refine r_aload_n (pc := 105) X d_X5_readPlain_105 fn0 ?_
        refine r_iconst (pc := 106) X d_X5_readPlain_106 (by decide +kernel) ?_
        refine s_cv1 (pc := 107) (ci := 5) X xok5 (by decide +kernel) ob_3 rfl (con_X5_fail l) mf_X5_fail ml_RX5_63 (by decide +kernel) (by decide +kernel) d_X5_readPlain_107 ?_
        exact r_zret (pc := 110) X hr d_X5_readPlain_110
  · refine r_iconst (pc := 88) X d_X5_readPlain_88 (by decide +kernel) ?_
    exact r_zret (pc := 89) X hr d_X5_readPlain_89
def k_X5_readPlain_270 (P : xP) : xK := x_istore 5 (x_aload 0 (y_getF 3 5 (x_iload 5 (x_iload 4 (x_iadd (x_aload 0 (y_getF 3 4 (x_push (.int 0) (y_iald 4 5 (y_cv2 5 (w_RII f_X8_emit) (x_push (.int 1) (x_zret P))))))))))))
set_option maxRecDepth 20000 in
theorem t_X5_readPlain_270 {p : Program} {l : Launch} {e : Env} {s : State} {m : MethodId} {args : Array Value} {below : List Frame} {meth : Method} {c : Code} {g : xG} (X : xX p s m args c meth cX5_readPlain RX5 6 g) (hr : meth.sig.returnType = (some .boolean)) {P : xP} : xAt p l e { frames := 3, cells := 0, slots := 0, locals := 72 } s m args below meth c g 6 xFT xN 0 0 (MQ below (xQc g xFT xN P) args s 0 0 (xFr g)) (k_X5_readPlain_270 P) 270 := by
  unfold k_X5_readPlain_270
  refine r_istore (pc := 270) X d_X5_readPlain_270 (by decide +kernel) ?_
  refine r_aload_n (pc := 272) X d_X5_readPlain_272 fn0 ?_
  refine s_getF (pc := 273) (ci := 5) (k := 2) X xok5 (by decide +kernel) ob_3 trivial ly_3_2 (by decide +kernel) fl_RX5_18 d_X5_readPlain_273 ?_
  refine r_iload (pc := 276) X d_X5_readPlain_276 ?_
  refine r_iload (pc := 278) X d_X5_readPlain_278 ?_
  refine r_iadd (pc := 280) X d_X5_readPlain_280 ?_
  refine r_aload_n (pc := 281) X d_X5_readPlain_281 fn0 ?_
  refine s_getF (pc := 282) (ci := 5) (k := 1) X xok5 (by decide +kernel) ob_3 trivial ly_3_1 (by decide +kernel) fl_RX5_9 d_X5_readPlain_282 ?_
  refine r_iconst (pc := 285) X d_X5_readPlain_285 (by decide +kernel) ?_
  refine s_iald (pc := 286) X tn_4 ln_4 d_X5_readPlain_286 ?_
  refine s_cv2 (pc := 287) (ci := 8) X xok8 (by decide +kernel) ob_5 rfl (con_X8_emit l) mf_X8_emit ml_RX5_155 (by decide +kernel) (by decide +kernel) d_X5_readPlain_287 ?_
  refine r_iconst (pc := 290) X d_X5_readPlain_290 (by decide +kernel) ?_
  exact r_zret (pc := 291) X hr d_X5_readPlain_291
def k_X5_readPlain_207 (P : xP) : xK := x_istore 4 (x_iload 4 (x_push (.int (-1)) (x_icmp_ne (x_aload 0 (y_getF 3 1 (y_cv0 1 (w_R f_X9_advance) (x_aload 0 (x_push (.int 0) (x_push (.int 0) (x_push (.int 999) (y_cv3 3 (w_RIII f_X5_number) (x_if_ne (x_lload 2 (x_push (.long 1920298085) (x_lcmp (x_if_ne (x_lload 2 (x_push (.long 6582132) (x_lcmp (x_if_ne (x_push (.int 16) ((k_X5_readPlain_270 P))) (x_push (.int 13) ((k_X5_readPlain_270 P))))))) (x_push (.int 10) ((k_X5_readPlain_270 P))))))) (x_push (.int 0) (x_zret P))))))))))) (x_aload 0 (x_push (.int 1) (y_cv1 3 (w_RI f_X5_fail) (x_zret P)))))))
set_option maxRecDepth 20000 in
theorem t_X5_readPlain_207 {p : Program} {l : Launch} {e : Env} {s : State} {m : MethodId} {args : Array Value} {below : List Frame} {meth : Method} {c : Code} {g : xG} (X : xX p s m args c meth cX5_readPlain RX5 6 g) (hr : meth.sig.returnType = (some .boolean)) {P : xP} : xAt p l e { frames := 3, cells := 0, slots := 0, locals := 72 } s m args below meth c g 6 xFT xN 0 0 (MQ below (xQc g xFT xN P) args s 0 0 (xFr g)) (k_X5_readPlain_207 P) 207 := by
  unfold k_X5_readPlain_207
  refine r_istore (pc := 207) X d_X5_readPlain_207 (by decide +kernel) ?_
  refine r_iload (pc := 209) X d_X5_readPlain_209 ?_
  refine r_iconst (pc := 211) X d_X5_readPlain_211 (by decide +kernel) ?_
  refine r_icmp_ne (pc := 212) (tgt := 221) X d_X5_readPlain_212 (by decide +kernel) ?_ ?_
  · refine r_aload_n (pc := 221) X d_X5_readPlain_221 fn0 ?_
    refine s_getF (pc := 222) (ci := 5) (k := 0) X xok5 (by decide +kernel) ob_3 trivial ly_3_0 (by decide +kernel) fl_RX5_22 d_X5_readPlain_222 ?_
    refine s_cv0 (pc := 225) (ci := 9) X xok9 (by decide +kernel) ob_1 rfl (con_X9_advance l) mf_X9_advance ml_RX5_88 (by decide +kernel) (by decide +kernel) d_X5_readPlain_225 ?_
    refine r_aload_n (pc := 228) X d_X5_readPlain_228 fn0 ?_
    refine r_iconst (pc := 229) X d_X5_readPlain_229 (by decide +kernel) ?_
    refine r_iconst (pc := 230) X d_X5_readPlain_230 (by decide +kernel) ?_
    refine r_sipush (pc := 231) X d_X5_readPlain_231 (by decide +kernel) ?_
    refine s_cv3 (pc := 234) (ci := 5) X xok5 (by decide +kernel) ob_3 rfl (con_X5_number l) mf_X5_number ml_RX5_139 (by decide +kernel) (by decide +kernel) d_X5_readPlain_234 ?_
    refine r_if_ne (pc := 237) (tgt := 242) X d_X5_readPlain_237 (by decide +kernel) ?_ ?_
    · refine r_lload_n (pc := 242) X d_X5_readPlain_242 fn2 ?_
      refine r_ldc2 (pc := 243) X cw_RX5_76 d_X5_readPlain_243 ?_
      refine r_lcmp (pc := 246) X d_X5_readPlain_246 ?_
      refine r_if_ne (pc := 247) (tgt := 255) X d_X5_readPlain_247 (by decide +kernel) ?_ ?_
      · refine r_lload_n (pc := 255) X d_X5_readPlain_255 fn2 ?_
        refine r_ldc2 (pc := 256) X cw_RX5_183 d_X5_readPlain_256 ?_
        refine r_lcmp (pc := 259) X d_X5_readPlain_259 ?_
        refine r_if_ne (pc := 260) (tgt := 268) X d_X5_readPlain_260 (by decide +kernel) ?_ ?_
        · refine r_bipush (pc := 268) X d_X5_readPlain_268 (by decide +kernel) ?_
          exact t_X5_readPlain_270 X hr
        · refine r_bipush (pc := 263) X d_X5_readPlain_263 (by decide +kernel) ?_
          refine r_goto (pc := 265) (tgt := 270) X d_X5_readPlain_265 (by decide +kernel) ?_
          exact t_X5_readPlain_270 X hr
      · refine r_bipush (pc := 250) X d_X5_readPlain_250 (by decide +kernel) ?_
        refine r_goto (pc := 252) (tgt := 270) X d_X5_readPlain_252 (by decide +kernel) ?_
        exact t_X5_readPlain_270 X hr
    · refine r_iconst (pc := 240) X d_X5_readPlain_240 (by decide +kernel) ?_
      exact r_zret (pc := 241) X hr d_X5_readPlain_241
  · refine r_aload_n (pc := 215) X d_X5_readPlain_215 fn0 ?_
    refine r_iconst (pc := 216) X d_X5_readPlain_216 (by decide +kernel) ?_
    refine s_cv1 (pc := 217) (ci := 5) X xok5 (by decide +kernel) ob_3 rfl (con_X5_fail l) mf_X5_fail ml_RX5_63 (by decide +kernel) (by decide +kernel) d_X5_readPlain_217 ?_
    exact r_zret (pc := 220) X hr d_X5_readPlain_220
def k_X5_readPlain_0 (P : xP) : xK := x_lload 2 (x_push (.long 439855772532) (x_lcmp (x_if_eq ((k_X5_readPlain_24 P)) (x_lload 2 (x_push (.long 1818325876) (x_lcmp (x_if_eq ((k_X5_readPlain_24 P)) (x_lload 2 (x_push (.long 418431069797) (x_lcmp (x_if_ne (x_lload 2 (x_push (.long 28518) (x_lcmp (x_if_eq ((k_X5_readPlain_75 P)) (x_lload 2 (x_push (.long 1852143732) (x_lcmp (x_if_ne (x_aload 0 (y_getF 3 1 (x_push (.int 60) (y_cv1 1 (w_RI f_X9_isMark) (x_if_eq (x_aload 0 (y_getF 3 1 (x_push (.int 61) (y_cv1 1 (w_RI f_X9_isMark) (x_if_eq (x_aload 0 (y_getF 3 1 (x_push (.int 62) (y_cv1 1 (w_RI f_X9_isMark) (x_if_eq (x_push (.int (-1)) ((k_X5_readPlain_207 P))) (x_push (.int 2) ((k_X5_readPlain_207 P)))))))) (x_push (.int 1) ((k_X5_readPlain_207 P)))))))) (x_push (.int 0) ((k_X5_readPlain_207 P)))))))) ((k_X5_readPlain_75 P)))))))))) ((k_X5_readPlain_24 P)))))))))))))
set_option maxRecDepth 20000 in
theorem t_X5_readPlain_0 {p : Program} {l : Launch} {e : Env} {s : State} {m : MethodId} {args : Array Value} {below : List Frame} {meth : Method} {c : Code} {g : xG} (X : xX p s m args c meth cX5_readPlain RX5 6 g) (hr : meth.sig.returnType = (some .boolean)) {P : xP} : xAt p l e { frames := 3, cells := 0, slots := 0, locals := 72 } s m args below meth c g 6 xFT xN 0 0 (MQ below (xQc g xFT xN P) args s 0 0 (xFr g)) (k_X5_readPlain_0 P) 0 := by
  unfold k_X5_readPlain_0
  refine r_lload_n (pc := 0) X d_X5_readPlain_0 fn2 ?_
  refine r_ldc2 (pc := 1) X cw_RX5_173 d_X5_readPlain_1 ?_
  refine r_lcmp (pc := 4) X d_X5_readPlain_4 ?_
  refine r_if_eq (pc := 5) (tgt := 24) X d_X5_readPlain_5 (by decide +kernel) ?_ ?_
  · exact t_X5_readPlain_24 X hr
  · refine r_lload_n (pc := 8) X d_X5_readPlain_8 fn2 ?_
    refine r_ldc2 (pc := 9) X cw_RX5_175 d_X5_readPlain_9 ?_
    refine r_lcmp (pc := 12) X d_X5_readPlain_12 ?_
    refine r_if_eq (pc := 13) (tgt := 24) X d_X5_readPlain_13 (by decide +kernel) ?_ ?_
    · exact t_X5_readPlain_24 X hr
    · refine r_lload_n (pc := 16) X d_X5_readPlain_16 fn2 ?_
      refine r_ldc2 (pc := 17) X cw_RX5_177 d_X5_readPlain_17 ?_
      refine r_lcmp (pc := 20) X d_X5_readPlain_20 ?_
      refine r_if_ne (pc := 21) (tgt := 59) X d_X5_readPlain_21 (by decide +kernel) ?_ ?_
      · refine r_lload_n (pc := 59) X d_X5_readPlain_59 fn2 ?_
        refine r_ldc2 (pc := 60) X cw_RX5_179 d_X5_readPlain_60 ?_
        refine r_lcmp (pc := 63) X d_X5_readPlain_63 ?_
        refine r_if_eq (pc := 64) (tgt := 75) X d_X5_readPlain_64 (by decide +kernel) ?_ ?_
        · exact t_X5_readPlain_75 X hr
        · refine r_lload_n (pc := 67) X d_X5_readPlain_67 fn2 ?_
          refine r_ldc2 (pc := 68) X cw_RX5_181 d_X5_readPlain_68 ?_
          refine r_lcmp (pc := 71) X d_X5_readPlain_71 ?_
          refine r_if_ne (pc := 72) (tgt := 158) X d_X5_readPlain_72 (by decide +kernel) ?_ ?_
          · refine r_aload_n (pc := 158) X d_X5_readPlain_158 fn0 ?_
            refine s_getF (pc := 159) (ci := 5) (k := 0) X xok5 (by decide +kernel) ob_3 trivial ly_3_0 (by decide +kernel) fl_RX5_22 d_X5_readPlain_159 ?_
            refine r_bipush (pc := 162) X d_X5_readPlain_162 (by decide +kernel) ?_
            refine s_cv1 (pc := 164) (ci := 9) X xok9 (by decide +kernel) ob_1 rfl (con_X9_isMark l) mf_X9_isMark ml_RX5_113 (by decide +kernel) (by decide +kernel) d_X5_readPlain_164 ?_
            refine r_if_eq (pc := 167) (tgt := 174) X d_X5_readPlain_167 (by decide +kernel) ?_ ?_
            · refine r_aload_n (pc := 174) X d_X5_readPlain_174 fn0 ?_
              refine s_getF (pc := 175) (ci := 5) (k := 0) X xok5 (by decide +kernel) ob_3 trivial ly_3_0 (by decide +kernel) fl_RX5_22 d_X5_readPlain_175 ?_
              refine r_bipush (pc := 178) X d_X5_readPlain_178 (by decide +kernel) ?_
              refine s_cv1 (pc := 180) (ci := 9) X xok9 (by decide +kernel) ob_1 rfl (con_X9_isMark l) mf_X9_isMark ml_RX5_113 (by decide +kernel) (by decide +kernel) d_X5_readPlain_180 ?_
              refine r_if_eq (pc := 183) (tgt := 190) X d_X5_readPlain_183 (by decide +kernel) ?_ ?_
              · refine r_aload_n (pc := 190) X d_X5_readPlain_190 fn0 ?_
                refine s_getF (pc := 191) (ci := 5) (k := 0) X xok5 (by decide +kernel) ob_3 trivial ly_3_0 (by decide +kernel) fl_RX5_22 d_X5_readPlain_191 ?_
                refine r_bipush (pc := 194) X d_X5_readPlain_194 (by decide +kernel) ?_
                refine s_cv1 (pc := 196) (ci := 9) X xok9 (by decide +kernel) ob_1 rfl (con_X9_isMark l) mf_X9_isMark ml_RX5_113 (by decide +kernel) (by decide +kernel) d_X5_readPlain_196 ?_
                refine r_if_eq (pc := 199) (tgt := 206) X d_X5_readPlain_199 (by decide +kernel) ?_ ?_
                · refine r_iconst (pc := 206) X d_X5_readPlain_206 (by decide +kernel) ?_
                  exact t_X5_readPlain_207 X hr
                · refine r_iconst (pc := 202) X d_X5_readPlain_202 (by decide +kernel) ?_
                  refine r_goto (pc := 203) (tgt := 207) X d_X5_readPlain_203 (by decide +kernel) ?_
                  exact t_X5_readPlain_207 X hr
              · refine r_iconst (pc := 186) X d_X5_readPlain_186 (by decide +kernel) ?_
                refine r_goto (pc := 187) (tgt := 207) X d_X5_readPlain_187 (by decide +kernel) ?_
                exact t_X5_readPlain_207 X hr
            · refine r_iconst (pc := 170) X d_X5_readPlain_170 (by decide +kernel) ?_
              refine r_goto (pc := 171) (tgt := 207) X d_X5_readPlain_171 (by decide +kernel) ?_
              exact t_X5_readPlain_207 X hr
          · exact t_X5_readPlain_75 X hr
      · exact t_X5_readPlain_24 X hr
def f_X5_readPlain (a0 : Nat) (a1 : Nat) (a2 : Int64) (A : xH) (P : xP) : Prop := k_X5_readPlain_0 P [some (.ref a0), some (.ref a1), some (.long a2), none, none, none] [] A
set_option maxRecDepth 20000 in
theorem con_X5_readPlain (l : Launch) : xCon l yX5_readPlain cX5_readPlain 6 (some .boolean) 3 72 xN xN 0 xFT xFT (w_RRJ f_X5_readPlain) :=
  xc_RRJ (plainFor_of_name pn_RX5) (by decide +kernel) (fun p e s m args below meth c g a0 a1 a2 A P h X hr _ => ⟨_, h, t_X5_readPlain_0 X hr⟩)
theorem d_X5_readOne_0 : decode cX5_readOne 0 = .ok (.aload_n 0, 1) := by decide +kernel
theorem d_X5_readOne_1 : decode cX5_readOne 1 = .ok (.invokevirtual 161, 3) := by decide +kernel
theorem d_X5_readOne_4 : decode cX5_readOne 4 = .ok (.ifCond .ne 9, 3) := by decide +kernel
theorem d_X5_readOne_7 : decode cX5_readOne 7 = .ok (.aload_n 0, 1) := by decide +kernel
theorem d_X5_readOne_8 : decode cX5_readOne 8 = .ok (.iconst 1, 1) := by decide +kernel
theorem d_X5_readOne_9 : decode cX5_readOne 9 = .ok (.invokevirtual 63, 3) := by decide +kernel
theorem d_X5_readOne_12 : decode cX5_readOne 12 = .ok (.ireturn, 1) := by decide +kernel
theorem d_X5_readOne_13 : decode cX5_readOne 13 = .ok (.aload_n 0, 1) := by decide +kernel
theorem d_X5_readOne_14 : decode cX5_readOne 14 = .ok (.getfield 18, 3) := by decide +kernel
theorem d_X5_readOne_17 : decode cX5_readOne 17 = .ok (.getfield 164, 3) := by decide +kernel
theorem d_X5_readOne_20 : decode cX5_readOne 20 = .ok (.bipush 20, 2) := by decide +kernel
theorem d_X5_readOne_22 : decode cX5_readOne 22 = .ok (.if_icmp .ge 9, 3) := by decide +kernel
theorem d_X5_readOne_25 : decode cX5_readOne 25 = .ok (.iload_n 2, 1) := by decide +kernel
theorem d_X5_readOne_26 : decode cX5_readOne 26 = .ok (.bipush 8, 2) := by decide +kernel
theorem d_X5_readOne_28 : decode cX5_readOne 28 = .ok (.if_icmp .le 9, 3) := by decide +kernel
theorem d_X5_readOne_31 : decode cX5_readOne 31 = .ok (.aload_n 0, 1) := by decide +kernel
theorem d_X5_readOne_32 : decode cX5_readOne 32 = .ok (.iconst 4, 1) := by decide +kernel
theorem d_X5_readOne_33 : decode cX5_readOne 33 = .ok (.invokevirtual 63, 3) := by decide +kernel
theorem d_X5_readOne_36 : decode cX5_readOne 36 = .ok (.ireturn, 1) := by decide +kernel
theorem d_X5_readOne_37 : decode cX5_readOne 37 = .ok (.aload_n 0, 1) := by decide +kernel
theorem d_X5_readOne_38 : decode cX5_readOne 38 = .ok (.getfield 18, 3) := by decide +kernel
theorem d_X5_readOne_41 : decode cX5_readOne 41 = .ok (.dup, 1) := by decide +kernel
theorem d_X5_readOne_42 : decode cX5_readOne 42 = .ok (.getfield 164, 3) := by decide +kernel
theorem d_X5_readOne_45 : decode cX5_readOne 45 = .ok (.iconst 1, 1) := by decide +kernel
theorem d_X5_readOne_46 : decode cX5_readOne 46 = .ok (.iadd, 1) := by decide +kernel
theorem d_X5_readOne_47 : decode cX5_readOne 47 = .ok (.putfield 164, 3) := by decide +kernel
theorem d_X5_readOne_50 : decode cX5_readOne 50 = .ok (.aload_n 0, 1) := by decide +kernel
theorem d_X5_readOne_51 : decode cX5_readOne 51 = .ok (.getfield 22, 3) := by decide +kernel
theorem d_X5_readOne_54 : decode cX5_readOne 54 = .ok (.bipush 40, 2) := by decide +kernel
theorem d_X5_readOne_56 : decode cX5_readOne 56 = .ok (.invokevirtual 113, 3) := by decide +kernel
theorem d_X5_readOne_59 : decode cX5_readOne 59 = .ok (.istore_n 3, 1) := by decide +kernel
theorem d_X5_readOne_60 : decode cX5_readOne 60 = .ok (.iload_n 3, 1) := by decide +kernel
theorem d_X5_readOne_61 : decode cX5_readOne 61 = .ok (.ifCond .eq 7, 3) := by decide +kernel
theorem d_X5_readOne_64 : decode cX5_readOne 64 = .ok (.lconst 0, 1) := by decide +kernel
theorem d_X5_readOne_65 : decode cX5_readOne 65 = .ok (.goto 10, 3) := by decide +kernel
theorem d_X5_readOne_68 : decode cX5_readOne 68 = .ok (.aload_n 0, 1) := by decide +kernel
theorem d_X5_readOne_69 : decode cX5_readOne 69 = .ok (.getfield 22, 3) := by decide +kernel
theorem d_X5_readOne_72 : decode cX5_readOne 72 = .ok (.getfield 95, 3) := by decide +kernel
theorem d_X5_readOne_75 : decode cX5_readOne 75 = .ok (.lstore 4, 2) := by decide +kernel
theorem d_X5_readOne_77 : decode cX5_readOne 77 = .ok (.aload_n 0, 1) := by decide +kernel
theorem d_X5_readOne_78 : decode cX5_readOne 78 = .ok (.getfield 22, 3) := by decide +kernel
theorem d_X5_readOne_81 : decode cX5_readOne 81 = .ok (.invokevirtual 88, 3) := by decide +kernel
theorem d_X5_readOne_84 : decode cX5_readOne 84 = .ok (.iload_n 3, 1) := by decide +kernel
theorem d_X5_readOne_85 : decode cX5_readOne 85 = .ok (.ifCond .eq 43, 3) := by decide +kernel
theorem d_X5_readOne_88 : decode cX5_readOne 88 = .ok (.aload_n 0, 1) := by decide +kernel
theorem d_X5_readOne_89 : decode cX5_readOne 89 = .ok (.aload_n 1, 1) := by decide +kernel
theorem d_X5_readOne_90 : decode cX5_readOne 90 = .ok (.iload_n 2, 1) := by decide +kernel
theorem d_X5_readOne_91 : decode cX5_readOne 91 = .ok (.iconst 1, 1) := by decide +kernel
theorem d_X5_readOne_92 : decode cX5_readOne 92 = .ok (.iadd, 1) := by decide +kernel
theorem d_X5_readOne_93 : decode cX5_readOne 93 = .ok (.invokevirtual 146, 3) := by decide +kernel
theorem d_X5_readOne_96 : decode cX5_readOne 96 = .ok (.ifCond .ne 5, 3) := by decide +kernel
theorem d_X5_readOne_99 : decode cX5_readOne 99 = .ok (.iconst 0, 1) := by decide +kernel
theorem d_X5_readOne_100 : decode cX5_readOne 100 = .ok (.ireturn, 1) := by decide +kernel
theorem d_X5_readOne_101 : decode cX5_readOne 101 = .ok (.aload_n 0, 1) := by decide +kernel
theorem d_X5_readOne_102 : decode cX5_readOne 102 = .ok (.getfield 22, 3) := by decide +kernel
theorem d_X5_readOne_105 : decode cX5_readOne 105 = .ok (.bipush 41, 2) := by decide +kernel
theorem d_X5_readOne_107 : decode cX5_readOne 107 = .ok (.invokevirtual 113, 3) := by decide +kernel
theorem d_X5_readOne_110 : decode cX5_readOne 110 = .ok (.ifCond .ne 9, 3) := by decide +kernel
theorem d_X5_readOne_113 : decode cX5_readOne 113 = .ok (.aload_n 0, 1) := by decide +kernel
theorem d_X5_readOne_114 : decode cX5_readOne 114 = .ok (.iconst 1, 1) := by decide +kernel
theorem d_X5_readOne_115 : decode cX5_readOne 115 = .ok (.invokevirtual 63, 3) := by decide +kernel
theorem d_X5_readOne_118 : decode cX5_readOne 118 = .ok (.ireturn, 1) := by decide +kernel
theorem d_X5_readOne_119 : decode cX5_readOne 119 = .ok (.aload_n 0, 1) := by decide +kernel
theorem d_X5_readOne_120 : decode cX5_readOne 120 = .ok (.getfield 22, 3) := by decide +kernel
theorem d_X5_readOne_123 : decode cX5_readOne 123 = .ok (.invokevirtual 88, 3) := by decide +kernel
theorem d_X5_readOne_126 : decode cX5_readOne 126 = .ok (.iconst 1, 1) := by decide +kernel
theorem d_X5_readOne_127 : decode cX5_readOne 127 = .ok (.ireturn, 1) := by decide +kernel
theorem d_X5_readOne_128 : decode cX5_readOne 128 = .ok (.lload 4, 2) := by decide +kernel
theorem d_X5_readOne_130 : decode cX5_readOne 130 = .ok (.ldc2_w 167, 3) := by decide +kernel
theorem d_X5_readOne_133 : decode cX5_readOne 133 = .ok (.lcmp, 1) := by decide +kernel
theorem d_X5_readOne_134 : decode cX5_readOne 134 = .ok (.ifCond .ne 27, 3) := by decide +kernel
theorem d_X5_readOne_137 : decode cX5_readOne 137 = .ok (.aload_n 0, 1) := by decide +kernel
theorem d_X5_readOne_138 : decode cX5_readOne 138 = .ok (.aload_n 1, 1) := by decide +kernel
theorem d_X5_readOne_139 : decode cX5_readOne 139 = .ok (.iload_n 2, 1) := by decide +kernel
theorem d_X5_readOne_140 : decode cX5_readOne 140 = .ok (.iconst 1, 1) := by decide +kernel
theorem d_X5_readOne_141 : decode cX5_readOne 141 = .ok (.iadd, 1) := by decide +kernel
theorem d_X5_readOne_142 : decode cX5_readOne 142 = .ok (.invokevirtual 150, 3) := by decide +kernel
theorem d_X5_readOne_145 : decode cX5_readOne 145 = .ok (.ifCond .ne 5, 3) := by decide +kernel
theorem d_X5_readOne_148 : decode cX5_readOne 148 = .ok (.iconst 0, 1) := by decide +kernel
theorem d_X5_readOne_149 : decode cX5_readOne 149 = .ok (.ireturn, 1) := by decide +kernel
theorem d_X5_readOne_150 : decode cX5_readOne 150 = .ok (.aload_n 0, 1) := by decide +kernel
theorem d_X5_readOne_151 : decode cX5_readOne 151 = .ok (.getfield 18, 3) := by decide +kernel
theorem d_X5_readOne_154 : decode cX5_readOne 154 = .ok (.iconst 5, 1) := by decide +kernel
theorem d_X5_readOne_155 : decode cX5_readOne 155 = .ok (.iconst 0, 1) := by decide +kernel
theorem d_X5_readOne_156 : decode cX5_readOne 156 = .ok (.invokevirtual 155, 3) := by decide +kernel
theorem d_X5_readOne_159 : decode cX5_readOne 159 = .ok (.iconst 1, 1) := by decide +kernel
theorem d_X5_readOne_160 : decode cX5_readOne 160 = .ok (.ireturn, 1) := by decide +kernel
theorem d_X5_readOne_161 : decode cX5_readOne 161 = .ok (.aload_n 0, 1) := by decide +kernel
theorem d_X5_readOne_162 : decode cX5_readOne 162 = .ok (.aload_n 1, 1) := by decide +kernel
theorem d_X5_readOne_163 : decode cX5_readOne 163 = .ok (.lload 4, 2) := by decide +kernel
theorem d_X5_readOne_165 : decode cX5_readOne 165 = .ok (.invokevirtual 169, 3) := by decide +kernel
theorem d_X5_readOne_168 : decode cX5_readOne 168 = .ok (.ireturn, 1) := by decide +kernel
def k_X5_readOne_31 (S1 S2 : Nat → Nat → Int32 → xH → xP → Prop) (P : xP) : xK := x_aload 0 (x_push (.int 4) (y_cv1 3 (w_RI f_X5_fail) (x_zret P)))
set_option maxRecDepth 20000 in
theorem t_X5_readOne_31 {l : Launch} {fr lo fr1 lo1 fr2 lo2 : Nat} {S1 S2 : Nat → Nat → Int32 → xH → xP → Prop} (hfr : 10 ≤ fr) (hlo : 200 ≤ lo) (c1 : xCon l yX5_readOne cX5_readOne 6 (some .boolean) fr1 lo1 xN xN 0 xFT xFT (w_RRI S1)) (r1 : fr1 + 1 ≤ fr ∧ 8 + (6 + 11) + lo1 ≤ lo) (c2 : xCon l yX5_readCond cX5_readCond 6 (some .boolean) fr2 lo2 xN xN 0 xFT xFT (w_RRI S2)) (r2 : fr2 + 1 ≤ fr ∧ 8 + (6 + 11) + lo2 ≤ lo) {p : Program} {e : Env} {s : State} {m : MethodId} {args : Array Value} {below : List Frame} {meth : Method} {c : Code} {g : xG} (X : xX p s m args c meth cX5_readOne RX5 6 g) (hr : meth.sig.returnType = (some .boolean)) {P : xP} : xAt p l e { frames := fr, cells := 0, slots := 0, locals := lo } s m args below meth c g 6 xFT xN 0 0 (MQ below (xQc g xFT xN P) args s 0 0 (xFr g)) (k_X5_readOne_31 S1 S2 P) 31 := by
  unfold k_X5_readOne_31
  refine r_aload_n (pc := 31) X d_X5_readOne_31 fn0 ?_
  refine r_iconst (pc := 32) X d_X5_readOne_32 (by decide +kernel) ?_
  refine s_cv1 (pc := 33) (ci := 5) X xok5 (by decide +kernel) ob_3 rfl (con_X5_fail l) mf_X5_fail ml_RX5_63 ⟨show 0 + 1 ≤ fr by omega, show 8 + (2 + 11) + 0 ≤ lo by omega⟩ ⟨Nat.le_refl _, Nat.le_refl _⟩ d_X5_readOne_33 ?_
  exact r_zret (pc := 36) X hr d_X5_readOne_36
def k_X5_readOne_75 (S1 S2 : Nat → Nat → Int32 → xH → xP → Prop) (P : xP) : xK := x_lstore 4 (x_aload 0 (y_getF 3 1 (y_cv0 1 (w_R f_X9_advance) (x_iload 3 (x_if_eq (x_lload 4 (x_push (.long 7237492) (x_lcmp (x_if_ne (x_aload 0 (x_aload 1 (x_lload 4 (y_cv2 3 (w_RRJ f_X5_readPlain) (x_zret P))))) (x_aload 0 (x_aload 1 (x_iload 2 (x_push (.int 1) (x_iadd (y_cv2 3 (w_RRI S1) (x_if_ne (x_aload 0 (y_getF 3 5 (x_push (.int 5) (x_push (.int 0) (y_cv2 5 (w_RII f_X8_emit) (x_push (.int 1) (x_zret P))))))) (x_push (.int 0) (x_zret P))))))))))))) (x_aload 0 (x_aload 1 (x_iload 2 (x_push (.int 1) (x_iadd (y_cv2 3 (w_RRI S2) (x_if_ne (x_aload 0 (y_getF 3 1 (x_push (.int 41) (y_cv1 1 (w_RI f_X9_isMark) (x_if_ne (x_aload 0 (y_getF 3 1 (y_cv0 1 (w_R f_X9_advance) (x_push (.int 1) (x_zret P))))) (x_aload 0 (x_push (.int 1) (y_cv1 3 (w_RI f_X5_fail) (x_zret P))))))))) (x_push (.int 0) (x_zret P))))))))))))))
set_option maxRecDepth 20000 in
theorem t_X5_readOne_75 {l : Launch} {fr lo fr1 lo1 fr2 lo2 : Nat} {S1 S2 : Nat → Nat → Int32 → xH → xP → Prop} (hfr : 10 ≤ fr) (hlo : 200 ≤ lo) (c1 : xCon l yX5_readOne cX5_readOne 6 (some .boolean) fr1 lo1 xN xN 0 xFT xFT (w_RRI S1)) (r1 : fr1 + 1 ≤ fr ∧ 8 + (6 + 11) + lo1 ≤ lo) (c2 : xCon l yX5_readCond cX5_readCond 6 (some .boolean) fr2 lo2 xN xN 0 xFT xFT (w_RRI S2)) (r2 : fr2 + 1 ≤ fr ∧ 8 + (6 + 11) + lo2 ≤ lo) {p : Program} {e : Env} {s : State} {m : MethodId} {args : Array Value} {below : List Frame} {meth : Method} {c : Code} {g : xG} (X : xX p s m args c meth cX5_readOne RX5 6 g) (hr : meth.sig.returnType = (some .boolean)) {P : xP} : xAt p l e { frames := fr, cells := 0, slots := 0, locals := lo } s m args below meth c g 6 xFT xN 0 0 (MQ below (xQc g xFT xN P) args s 0 0 (xFr g)) (k_X5_readOne_75 S1 S2 P) 75 := by
  unfold k_X5_readOne_75
  refine r_lstore (pc := 75) X d_X5_readOne_75 (by decide +kernel) ?_
  refine r_aload_n (pc := 77) X d_X5_readOne_77 fn0 ?_
  refine s_getF (pc := 78) (ci := 5) (k := 0) X xok5 (by decide +kernel) ob_3 trivial ly_3_0 (by decide +kernel) fl_RX5_22 d_X5_readOne_78 ?_
  refine s_cv0 (pc := 81) (ci := 9) X xok9 (by decide +kernel) ob_1 rfl (con_X9_advance l) mf_X9_advance ml_RX5_88 ⟨show 1 + 1 ≤ fr by omega, show 8 + (4 + 11) + 26 ≤ lo by omega⟩ ⟨Nat.le_refl _, Nat.le_refl _⟩ d_X5_readOne_81 ?_
  refine r_iload_n (pc := 84) X d_X5_readOne_84 fn3 ?_
  refine r_if_eq (pc := 85) (tgt := 128) X d_X5_readOne_85 (by decide +kernel) ?_ ?_
  · refine r_lload (pc := 128) X d_X5_readOne_128 ?_
    refine r_ldc2 (pc := 130) X cw_RX5_167 d_X5_readOne_130 ?_
    refine r_lcmp (pc := 133) X d_X5_readOne_133 ?_
    refine r_if_ne (pc := 134) (tgt := 161) X d_X5_readOne_134 (by decide +kernel) ?_ ?_
    · refine r_aload_n (pc := 161) X d_X5_readOne_161 fn0 ?_
      refine r_aload_n (pc := 162) X d_X5_readOne_162 fn1 ?_
      refine r_lload (pc := 163) X d_X5_readOne_163 ?_
      refine s_cv2 (pc := 165) (ci := 5) X xok5 (by decide +kernel) ob_3 rfl (con_X5_readPlain l) mf_X5_readPlain ml_RX5_169 ⟨show 3 + 1 ≤ fr by omega, show 8 + (6 + 11) + 72 ≤ lo by omega⟩ ⟨Nat.le_refl _, Nat.le_refl _⟩ d_X5_readOne_165 ?_
      exact r_zret (pc := 168) X hr d_X5_readOne_168
    · refine r_aload_n (pc := 137) X d_X5_readOne_137 fn0 ?_
      refine r_aload_n (pc := 138) X d_X5_readOne_138 fn1 ?_
      refine r_iload_n (pc := 139) X d_X5_readOne_139 fn2 ?_
      refine r_iconst (pc := 140) X d_X5_readOne_140 (by decide +kernel) ?_
      refine r_iadd (pc := 141) X d_X5_readOne_141 ?_
      refine s_cv2 (pc := 142) (ci := 5) X xok5 (by decide +kernel) ob_3 rfl (c1) mf_X5_readOne ml_RX5_150 r1 ⟨Nat.le_refl _, Nat.le_refl _⟩ d_X5_readOne_142 ?_
      refine r_if_ne (pc := 145) (tgt := 150) X d_X5_readOne_145 (by decide +kernel) ?_ ?_
      · refine r_aload_n (pc := 150) X d_X5_readOne_150 fn0 ?_
        refine s_getF (pc := 151) (ci := 5) (k := 2) X xok5 (by decide +kernel) ob_3 trivial ly_3_2 (by decide +kernel) fl_RX5_18 d_X5_readOne_151 ?_
        refine r_iconst (pc := 154) X d_X5_readOne_154 (by decide +kernel) ?_
        refine r_iconst (pc := 155) X d_X5_readOne_155 (by decide +kernel) ?_
        refine s_cv2 (pc := 156) (ci := 8) X xok8 (by decide +kernel) ob_5 rfl (con_X8_emit l) mf_X8_emit ml_RX5_155 ⟨show 0 + 1 ≤ fr by omega, show 8 + (3 + 11) + 0 ≤ lo by omega⟩ ⟨Nat.le_refl _, Nat.le_refl _⟩ d_X5_readOne_156 ?_
        refine r_iconst (pc := 159) X d_X5_readOne_159 (by decide +kernel) ?_
        exact r_zret (pc := 160) X hr d_X5_readOne_160
      · refine r_iconst (pc := 148) X d_X5_readOne_148 (by decide +kernel) ?_
        exact r_zret (pc := 149) X hr d_X5_readOne_149
  · refine r_aload_n (pc := 88) X d_X5_readOne_88 fn0 ?_
    refine r_aload_n (pc := 89) X d_X5_readOne_89 fn1 ?_
    refine r_iload_n (pc := 90) X d_X5_readOne_90 fn2 ?_
    refine r_iconst (pc := 91) X d_X5_readOne_91 (by decide +kernel) ?_
    refine r_iadd (pc := 92) X d_X5_readOne_92 ?_
    refine s_cv2 (pc := 93) (ci := 5) X xok5 (by decide +kernel) ob_3 rfl (c2) mf_X5_readCond ml_RX5_146 r2 ⟨Nat.le_refl _, Nat.le_refl _⟩ d_X5_readOne_93 ?_
    refine r_if_ne (pc := 96) (tgt := 101) X d_X5_readOne_96 (by decide +kernel) ?_ ?_
    · refine r_aload_n (pc := 101) X d_X5_readOne_101 fn0 ?_
      refine s_getF (pc := 102) (ci := 5) (k := 0) X xok5 (by decide +kernel) ob_3 trivial ly_3_0 (by decide +kernel) fl_RX5_22 d_X5_readOne_102 ?_
      refine r_bipush (pc := 105) X d_X5_readOne_105 (by decide +kernel) ?_
      refine s_cv1 (pc := 107) (ci := 9) X xok9 (by decide +kernel) ob_1 rfl (con_X9_isMark l) mf_X9_isMark ml_RX5_113 ⟨show 0 + 1 ≤ fr by omega, show 8 + (2 + 11) + 0 ≤ lo by omega⟩ ⟨Nat.le_refl _, Nat.le_refl _⟩ d_X5_readOne_107 ?_
      refine r_if_ne (pc := 110) (tgt := 119) X d_X5_readOne_110 (by decide +kernel) ?_ ?_
      · refine r_aload_n (pc := 119) X d_X5_readOne_119 fn0 ?_
        refine s_getF (pc := 120) (ci := 5) (k := 0) X xok5 (by decide +kernel) ob_3 trivial ly_3_0 (by decide +kernel) fl_RX5_22 d_X5_readOne_120 ?_
        refine s_cv0 (pc := 123) (ci := 9) X xok9 (by decide +kernel) ob_1 rfl (con_X9_advance l) mf_X9_advance ml_RX5_88 ⟨show 1 + 1 ≤ fr by omega, show 8 + (4 + 11) + 26 ≤ lo by omega⟩ ⟨Nat.le_refl _, Nat.le_refl _⟩ d_X5_readOne_123 ?_
        refine r_iconst (pc := 126) X d_X5_readOne_126 (by decide +kernel) ?_
        exact r_zret (pc := 127) X hr d_X5_readOne_127
      · refine r_aload_n (pc := 113) X d_X5_readOne_113 fn0 ?_
        refine r_iconst (pc := 114) X d_X5_readOne_114 (by decide +kernel) ?_
        refine s_cv1 (pc := 115) (ci := 5) X xok5 (by decide +kernel) ob_3 rfl (con_X5_fail l) mf_X5_fail ml_RX5_63 ⟨show 0 + 1 ≤ fr by omega, show 8 + (2 + 11) + 0 ≤ lo by omega⟩ ⟨Nat.le_refl _, Nat.le_refl _⟩ d_X5_readOne_115 ?_
        exact r_zret (pc := 118) X hr d_X5_readOne_118
    · refine r_iconst (pc := 99) X d_X5_readOne_99 (by decide +kernel) ?_
      exact r_zret (pc := 100) X hr d_X5_readOne_100
def k_X5_readOne_0 (S1 S2 : Nat → Nat → Int32 → xH → xP → Prop) (P : xP) : xK := x_aload 0 (y_cv0 3 (w_R f_X5_beginsOne) (x_if_ne (x_aload 0 (y_getF 3 5 (y_getI 5 3 (x_push (.int 20) (x_icmp_ge ((k_X5_readOne_31 S1 S2 P)) (x_iload 2 (x_push (.int 8) (x_icmp_le (x_aload 0 (y_getF 3 5 (x_dup (y_getI 5 3 (x_push (.int 1) (x_iadd (y_putI 5 3 (x_aload 0 (y_getF 3 1 (x_push (.int 40) (y_cv1 1 (w_RI f_X9_isMark) (x_istore 3 (x_iload 3 (x_if_eq (x_aload 0 (y_getF 3 1 (y_getJ 1 6 ((k_X5_readOne_75 S1 S2 P))))) (x_push (.long 0) ((k_X5_readOne_75 S1 S2 P))))))))))))))))) ((k_X5_readOne_31 S1 S2 P)))))))))) (x_aload 0 (x_push (.int 1) (y_cv1 3 (w_RI f_X5_fail) (x_zret P))))))
set_option maxRecDepth 20000 in
theorem t_X5_readOne_0 {l : Launch} {fr lo fr1 lo1 fr2 lo2 : Nat} {S1 S2 : Nat → Nat → Int32 → xH → xP → Prop} (hfr : 10 ≤ fr) (hlo : 200 ≤ lo) (c1 : xCon l yX5_readOne cX5_readOne 6 (some .boolean) fr1 lo1 xN xN 0 xFT xFT (w_RRI S1)) (r1 : fr1 + 1 ≤ fr ∧ 8 + (6 + 11) + lo1 ≤ lo) (c2 : xCon l yX5_readCond cX5_readCond 6 (some .boolean) fr2 lo2 xN xN 0 xFT xFT (w_RRI S2)) (r2 : fr2 + 1 ≤ fr ∧ 8 + (6 + 11) + lo2 ≤ lo) {p : Program} {e : Env} {s : State} {m : MethodId} {args : Array Value} {below : List Frame} {meth : Method} {c : Code} {g : xG} (X : xX p s m args c meth cX5_readOne RX5 6 g) (hr : meth.sig.returnType = (some .boolean)) {P : xP} : xAt p l e { frames := fr, cells := 0, slots := 0, locals := lo } s m args below meth c g 6 xFT xN 0 0 (MQ below (xQc g xFT xN P) args s 0 0 (xFr g)) (k_X5_readOne_0 S1 S2 P) 0 := by
  unfold k_X5_readOne_0
  refine r_aload_n (pc := 0) X d_X5_readOne_0 fn0 ?_
  refine s_cv0 (pc := 1) (ci := 5) X xok5 (by decide +kernel) ob_3 rfl (con_X5_beginsOne l) mf_X5_beginsOne ml_RX5_161 ⟨show 1 + 1 ≤ fr by omega, show 8 + (1 + 11) + 22 ≤ lo by omega⟩ ⟨Nat.le_refl _, Nat.le_refl _⟩ d_X5_readOne_1 ?_
  refine r_if_ne (pc := 4) (tgt := 13) X d_X5_readOne_4 (by decide +kernel) ?_ ?_
  · refine r_aload_n (pc := 13) X d_X5_readOne_13 fn0 ?_
    refine s_getF (pc := 14) (ci := 5) (k := 2) X xok5 (by decide +kernel) ob_3 trivial ly_3_2 (by decide +kernel) fl_RX5_18 d_X5_readOne_14 ?_
    refine s_getI (pc := 17) (ci := 8) X xok8 (by decide +kernel) ob_5 (by decide +kernel) fl_RX5_164 d_X5_readOne_17 ?_
    refine r_bipush (pc := 20) X d_X5_readOne_20 (by decide +kernel) ?_
    refine r_icmp_ge (pc := 22) (tgt := 31) X d_X5_readOne_22 (by decide +kernel) ?_ ?_
    · exact t_X5_readOne_31 hfr hlo c1 r1 c2 r2 X hr
    · refine r_iload_n (pc := 25) X d_X5_readOne_25 fn2 ?_
      refine r_bipush (pc := 26) X d_X5_readOne_26 (by decide +kernel) ?_
      refine r_icmp_le (pc := 28) (tgt := 37) X d_X5_readOne_28 (by decide +kernel) ?_ ?_
      · refine r_aload_n (pc := 37) X d_X5_readOne_37 fn0 ?_
        refine s_getF (pc := 38) (ci := 5) (k := 2) X xok5 (by decide +kernel) ob_3 trivial ly_3_2 (by decide +kernel) fl_RX5_18 d_X5_readOne_38 ?_
        refine r_dup (pc := 41) X d_X5_readOne_41 ?_
        refine s_getI (pc := 42) (ci := 8) X xok8 (by decide +kernel) ob_5 (by decide +kernel) fl_RX5_164 d_X5_readOne_42 ?_
        refine r_iconst (pc := 45) X d_X5_readOne_45 (by decide +kernel) ?_
        refine r_iadd (pc := 46) X d_X5_readOne_46 ?_
        refine s_putI (pc := 47) (ci := 8) X xok8 (by decide +kernel) ob_5 (by decide +kernel) (by decide +kernel) (by decide +kernel) fl_RX5_164 d_X5_readOne_47 ?_
        refine r_aload_n (pc := 50) X d_X5_readOne_50 fn0 ?_
        refine s_getF (pc := 51) (ci := 5) (k := 0) X xok5 (by decide +kernel) ob_3 trivial ly_3_0 (by decide +kernel) fl_RX5_22 d_X5_readOne_51 ?_
        refine r_bipush (pc := 54) X d_X5_readOne_54 (by decide +kernel) ?_
        refine s_cv1 (pc := 56) (ci := 9) X xok9 (by decide +kernel) ob_1 rfl (con_X9_isMark l) mf_X9_isMark ml_RX5_113 ⟨show 0 + 1 ≤ fr by omega, show 8 + (2 + 11) + 0 ≤ lo by omega⟩ ⟨Nat.le_refl _, Nat.le_refl _⟩ d_X5_readOne_56 ?_
        refine r_istore_n (pc := 59) X d_X5_readOne_59 fn3 (by decide +kernel) ?_
        refine r_iload_n (pc := 60) X d_X5_readOne_60 fn3 ?_
        refine r_if_eq (pc := 61) (tgt := 68) X d_X5_readOne_61 (by decide +kernel) ?_ ?_
        · refine r_aload_n (pc := 68) X d_X5_readOne_68 fn0 ?_
          refine s_getF (pc := 69) (ci := 5) (k := 0) X xok5 (by decide +kernel) ob_3 trivial ly_3_0 (by decide +kernel) fl_RX5_22 d_X5_readOne_69 ?_
          refine s_getJ (pc := 72) (ci := 9) X xok9 (by decide +kernel) ob_1 (by decide +kernel) fl_RX5_95 d_X5_readOne_72 ?_
          exact t_X5_readOne_75 hfr hlo c1 r1 c2 r2 X hr
        · refine r_lconst (pc := 64) X d_X5_readOne_64 (by decide +kernel) ?_
          refine r_goto (pc := 65) (tgt := 75) X d_X5_readOne_65 (by decide +kernel) ?_
          exact t_X5_readOne_75 hfr hlo c1 r1 c2 r2 X hr
      · exact t_X5_readOne_31 hfr hlo c1 r1 c2 r2 X hr
  · refine r_aload_n (pc := 7) X d_X5_readOne_7 fn0 ?_
    refine r_iconst (pc := 8) X d_X5_readOne_8 (by decide +kernel) ?_
    refine s_cv1 (pc := 9) (ci := 5) X xok5 (by decide +kernel) ob_3 rfl (con_X5_fail l) mf_X5_fail ml_RX5_63 ⟨show 0 + 1 ≤ fr by omega, show 8 + (2 + 11) + 0 ≤ lo by omega⟩ ⟨Nat.le_refl _, Nat.le_refl _⟩ d_X5_readOne_9 ?_
    exact r_zret (pc := 12) X hr d_X5_readOne_12
set_option maxRecDepth 20000 in
theorem m_X5_readOne {l : Launch} {fr lo fr1 lo1 fr2 lo2 : Nat} {S1 S2 : Nat → Nat → Int32 → xH → xP → Prop} (hfr : 10 ≤ fr) (hlo : 200 ≤ lo) (c1 : xCon l yX5_readOne cX5_readOne 6 (some .boolean) fr1 lo1 xN xN 0 xFT xFT (w_RRI S1)) (r1 : fr1 + 1 ≤ fr ∧ 8 + (6 + 11) + lo1 ≤ lo) (c2 : xCon l yX5_readCond cX5_readCond 6 (some .boolean) fr2 lo2 xN xN 0 xFT xFT (w_RRI S2)) (r2 : fr2 + 1 ≤ fr ∧ 8 + (6 + 11) + lo2 ≤ lo) {f : Nat → Nat → Int32 → xH → xP → Prop} 
    (v0 : ∀ (a0 : Nat) (a1 : Nat) (a2 : Int32) (A : xH) (P : xP), f a0 a1 a2 A P → k_X5_readOne_0 S1 S2 P [some (.ref a0), some (.ref a1), some (.int a2), none, none, none] [] A) : xCon l yX5_readOne cX5_readOne 6 (some .boolean) fr lo xN xN 0 xFT xFT (w_RRI f) := by
  refine xc_RRI (plainFor_of_name pn_RX5) (by decide +kernel) (fun p e s m args below meth c g a0 a1 a2 A P h X hr _ => ?_)
  exact ⟨_, v0 a0 a1 a2 A P h, t_X5_readOne_0 hfr hlo c1 r1 c2 r2 X hr⟩
theorem d_X5_readCond_0 : decode cX5_readCond 0 = .ok (.iconst 1, 1) := by decide +kernel
theorem d_X5_readCond_1 : decode cX5_readCond 1 = .ok (.istore_n 3, 1) := by decide +kernel
theorem d_X5_readCond_2 : decode cX5_readCond 2 = .ok (.iconst 0, 1) := by decide +kernel
theorem d_X5_readCond_3 : decode cX5_readCond 3 = .ok (.istore 4, 2) := by decide +kernel
theorem d_X5_readCond_5 : decode cX5_readCond 5 = .ok (.iload 4, 2) := by decide +kernel
theorem d_X5_readCond_7 : decode cX5_readCond 7 = .ok (.bipush 20, 2) := by decide +kernel
theorem d_X5_readCond_9 : decode cX5_readCond 9 = .ok (.if_icmp .gt 118, 3) := by decide +kernel
theorem d_X5_readCond_12 : decode cX5_readCond 12 = .ok (.iload_n 3, 1) := by decide +kernel
theorem d_X5_readCond_13 : decode cX5_readCond 13 = .ok (.ifCond .eq 114, 3) := by decide +kernel
theorem d_X5_readCond_16 : decode cX5_readCond 16 = .ok (.aload_n 0, 1) := by decide +kernel
theorem d_X5_readCond_17 : decode cX5_readCond 17 = .ok (.aload_n 1, 1) := by decide +kernel
theorem d_X5_readCond_18 : decode cX5_readCond 18 = .ok (.iload_n 2, 1) := by decide +kernel
theorem d_X5_readCond_19 : decode cX5_readCond 19 = .ok (.invokevirtual 150, 3) := by decide +kernel
theorem d_X5_readCond_22 : decode cX5_readCond 22 = .ok (.ifCond .ne 5, 3) := by decide +kernel
theorem d_X5_readCond_25 : decode cX5_readCond 25 = .ok (.iconst 0, 1) := by decide +kernel
theorem d_X5_readCond_26 : decode cX5_readCond 26 = .ok (.ireturn, 1) := by decide +kernel
theorem d_X5_readCond_27 : decode cX5_readCond 27 = .ok (.iconst 0, 1) := by decide +kernel
theorem d_X5_readCond_28 : decode cX5_readCond 28 = .ok (.istore 5, 2) := by decide +kernel
theorem d_X5_readCond_30 : decode cX5_readCond 30 = .ok (.iload 5, 2) := by decide +kernel
theorem d_X5_readCond_32 : decode cX5_readCond 32 = .ok (.bipush 20, 2) := by decide +kernel
theorem d_X5_readCond_34 : decode cX5_readCond 34 = .ok (.if_icmp .gt 50, 3) := by decide +kernel
theorem d_X5_readCond_37 : decode cX5_readCond 37 = .ok (.aload_n 0, 1) := by decide +kernel
theorem d_X5_readCond_38 : decode cX5_readCond 38 = .ok (.getfield 22, 3) := by decide +kernel
theorem d_X5_readCond_41 : decode cX5_readCond 41 = .ok (.ldc2_w 153, 3) := by decide +kernel
theorem d_X5_readCond_44 : decode cX5_readCond 44 = .ok (.invokevirtual 54, 3) := by decide +kernel
theorem d_X5_readCond_47 : decode cX5_readCond 47 = .ok (.ifCond .eq 37, 3) := by decide +kernel
theorem d_X5_readCond_50 : decode cX5_readCond 50 = .ok (.aload_n 0, 1) := by decide +kernel
theorem d_X5_readCond_51 : decode cX5_readCond 51 = .ok (.getfield 22, 3) := by decide +kernel
theorem d_X5_readCond_54 : decode cX5_readCond 54 = .ok (.invokevirtual 88, 3) := by decide +kernel
theorem d_X5_readCond_57 : decode cX5_readCond 57 = .ok (.aload_n 0, 1) := by decide +kernel
theorem d_X5_readCond_58 : decode cX5_readCond 58 = .ok (.aload_n 1, 1) := by decide +kernel
theorem d_X5_readCond_59 : decode cX5_readCond 59 = .ok (.iload_n 2, 1) := by decide +kernel
theorem d_X5_readCond_60 : decode cX5_readCond 60 = .ok (.invokevirtual 150, 3) := by decide +kernel
theorem d_X5_readCond_63 : decode cX5_readCond 63 = .ok (.ifCond .ne 5, 3) := by decide +kernel
theorem d_X5_readCond_66 : decode cX5_readCond 66 = .ok (.iconst 0, 1) := by decide +kernel
theorem d_X5_readCond_67 : decode cX5_readCond 67 = .ok (.ireturn, 1) := by decide +kernel
theorem d_X5_readCond_68 : decode cX5_readCond 68 = .ok (.aload_n 0, 1) := by decide +kernel
theorem d_X5_readCond_69 : decode cX5_readCond 69 = .ok (.getfield 18, 3) := by decide +kernel
theorem d_X5_readCond_72 : decode cX5_readCond 72 = .ok (.bipush 6, 2) := by decide +kernel
theorem d_X5_readCond_74 : decode cX5_readCond 74 = .ok (.iconst 0, 1) := by decide +kernel
theorem d_X5_readCond_75 : decode cX5_readCond 75 = .ok (.invokevirtual 155, 3) := by decide +kernel
theorem d_X5_readCond_78 : decode cX5_readCond 78 = .ok (.iinc 5 1, 3) := by decide +kernel
theorem d_X5_readCond_81 : decode cX5_readCond 81 = .ok (.goto (-51), 3) := by decide +kernel
theorem d_X5_readCond_84 : decode cX5_readCond 84 = .ok (.iload 4, 2) := by decide +kernel
theorem d_X5_readCond_86 : decode cX5_readCond 86 = .ok (.ifCond .le 13, 3) := by decide +kernel
theorem d_X5_readCond_89 : decode cX5_readCond 89 = .ok (.aload_n 0, 1) := by decide +kernel
theorem d_X5_readCond_90 : decode cX5_readCond 90 = .ok (.getfield 18, 3) := by decide +kernel
theorem d_X5_readCond_93 : decode cX5_readCond 93 = .ok (.bipush 7, 2) := by decide +kernel
theorem d_X5_readCond_95 : decode cX5_readCond 95 = .ok (.iconst 0, 1) := by decide +kernel
theorem d_X5_readCond_96 : decode cX5_readCond 96 = .ok (.invokevirtual 155, 3) := by decide +kernel
theorem d_X5_readCond_99 : decode cX5_readCond 99 = .ok (.aload_n 0, 1) := by decide +kernel
theorem d_X5_readCond_100 : decode cX5_readCond 100 = .ok (.getfield 22, 3) := by decide +kernel
theorem d_X5_readCond_103 : decode cX5_readCond 103 = .ok (.ldc2_w 159, 3) := by decide +kernel
theorem d_X5_readCond_106 : decode cX5_readCond 106 = .ok (.invokevirtual 54, 3) := by decide +kernel
theorem d_X5_readCond_109 : decode cX5_readCond 109 = .ok (.istore_n 3, 1) := by decide +kernel
theorem d_X5_readCond_110 : decode cX5_readCond 110 = .ok (.iload_n 3, 1) := by decide +kernel
theorem d_X5_readCond_111 : decode cX5_readCond 111 = .ok (.ifCond .eq 10, 3) := by decide +kernel
theorem d_X5_readCond_114 : decode cX5_readCond 114 = .ok (.aload_n 0, 1) := by decide +kernel
theorem d_X5_readCond_115 : decode cX5_readCond 115 = .ok (.getfield 22, 3) := by decide +kernel
theorem d_X5_readCond_118 : decode cX5_readCond 118 = .ok (.invokevirtual 88, 3) := by decide +kernel
theorem d_X5_readCond_121 : decode cX5_readCond 121 = .ok (.iinc 4 1, 3) := by decide +kernel
theorem d_X5_readCond_124 : decode cX5_readCond 124 = .ok (.goto (-119), 3) := by decide +kernel
theorem d_X5_readCond_127 : decode cX5_readCond 127 = .ok (.iconst 1, 1) := by decide +kernel
theorem d_X5_readCond_128 : decode cX5_readCond 128 = .ok (.ireturn, 1) := by decide +kernel
def k_X5_readCond_0 (S1 S2 : Nat → Nat → Int32 → xH → xP → Prop) (P : xP) (C5 : xK) : xK := x_push (.int 1) (x_istore 3 (x_push (.int 0) (x_istore 4 (C5))))
set_option maxRecDepth 20000 in
theorem t_X5_readCond_0 {l : Launch} {fr lo fr1 lo1 fr2 lo2 : Nat} {S1 S2 : Nat → Nat → Int32 → xH → xP → Prop} (hfr : 10 ≤ fr) (hlo : 200 ≤ lo) (c1 : xCon l yX5_readOne cX5_readOne 6 (some .boolean) fr1 lo1 xN xN 0 xFT xFT (w_RRI S1)) (r1 : fr1 + 1 ≤ fr ∧ 8 + (6 + 11) + lo1 ≤ lo) (c2 : xCon l yX5_readCond cX5_readCond 6 (some .boolean) fr2 lo2 xN xN 0 xFT xFT (w_RRI S2)) (r2 : fr2 + 1 ≤ fr ∧ 8 + (6 + 11) + lo2 ≤ lo) {p : Program} {e : Env} {s : State} {m : MethodId} {args : Array Value} {below : List Frame} {meth : Method} {c : Code} {g : xG} (X : xX p s m args c meth cX5_readCond RX5 6 g) (hr : meth.sig.returnType = (some .boolean)) {P : xP} {C5 : xK} (h5 : xAt p l e { frames := fr, cells := 0, slots := 0, locals := lo } s m args below meth c g 6 xFT xN 0 0 (MQ below (xQc g xFT xN P) args s 0 0 (xFr g)) C5 5) : xAt p l e { frames := fr, cells := 0, slots := 0, locals := lo } s m args below meth c g 6 xFT xN 0 0 (MQ below (xQc g xFT xN P) args s 0 0 (xFr g)) (k_X5_readCond_0 S1 S2 P C5) 0 := by
  unfold k_X5_readCond_0
  refine r_iconst (pc := 0) X d_X5_readCond_0 (by decide +kernel) ?_
  refine r_istore_n (pc := 1) X d_X5_readCond_1 fn3 (by decide +kernel) ?_
  refine r_iconst (pc := 2) X d_X5_readCond_2 (by decide +kernel) ?_
  refine r_istore (pc := 3) X d_X5_readCond_3 (by decide +kernel) ?_
  exact h5
def k_X5_readCond_127 (S1 S2 : Nat → Nat → Int32 → xH → xP → Prop) (P : xP) : xK := x_push (.int 1) (x_zret P)
set_option maxRecDepth 20000 in
theorem t_X5_readCond_127 {l : Launch} {fr lo fr1 lo1 fr2 lo2 : Nat} {S1 S2 : Nat → Nat → Int32 → xH → xP → Prop} (hfr : 10 ≤ fr) (hlo : 200 ≤ lo) (c1 : xCon l yX5_readOne cX5_readOne 6 (some .boolean) fr1 lo1 xN xN 0 xFT xFT (w_RRI S1)) (r1 : fr1 + 1 ≤ fr ∧ 8 + (6 + 11) + lo1 ≤ lo) (c2 : xCon l yX5_readCond cX5_readCond 6 (some .boolean) fr2 lo2 xN xN 0 xFT xFT (w_RRI S2)) (r2 : fr2 + 1 ≤ fr ∧ 8 + (6 + 11) + lo2 ≤ lo) {p : Program} {e : Env} {s : State} {m : MethodId} {args : Array Value} {below : List Frame} {meth : Method} {c : Code} {g : xG} (X : xX p s m args c meth cX5_readCond RX5 6 g) (hr : meth.sig.returnType = (some .boolean)) {P : xP} : xAt p l e { frames := fr, cells := 0, slots := 0, locals := lo } s m args below meth c g 6 xFT xN 0 0 (MQ below (xQc g xFT xN P) args s 0 0 (xFr g)) (k_X5_readCond_127 S1 S2 P) 127 := by
  unfold k_X5_readCond_127
  refine r_iconst (pc := 127) X d_X5_readCond_127 (by decide +kernel) ?_
  exact r_zret (pc := 128) X hr d_X5_readCond_128
def k_X5_readCond_5 (S1 S2 : Nat → Nat → Int32 → xH → xP → Prop) (P : xP) (C30 : xK) : xK := x_iload 4 (x_push (.int 20) (x_icmp_gt ((k_X5_readCond_127 S1 S2 P)) (x_iload 3 (x_if_eq ((k_X5_readCond_127 S1 S2 P)) (x_aload 0 (x_aload 1 (x_iload 2 (y_cv2 3 (w_RRI S1) (x_if_ne (x_push (.int 0) (x_istore 5 (C30))) (x_push (.int 0) (x_zret P)))))))))))
set_option maxRecDepth 20000 in
theorem t_X5_readCond_5 {l : Launch} {fr lo fr1 lo1 fr2 lo2 : Nat} {S1 S2 : Nat → Nat → Int32 → xH → xP → Prop} (hfr : 10 ≤ fr) (hlo : 200 ≤ lo) (c1 : xCon l yX5_readOne cX5_readOne 6 (some .boolean) fr1 lo1 xN xN 0 xFT xFT (w_RRI S1)) (r1 : fr1 + 1 ≤ fr ∧ 8 + (6 + 11) + lo1 ≤ lo) (c2 : xCon l yX5_readCond cX5_readCond 6 (some .boolean) fr2 lo2 xN xN 0 xFT xFT (w_RRI S2)) (r2 : fr2 + 1 ≤ fr ∧ 8 + (6 + 11) + lo2 ≤ lo) {p : Program} {e : Env} {s : State} {m : MethodId} {args : Array Value} {below : List Frame} {meth : Method} {c : Code} {g : xG} (X : xX p s m args c meth cX5_readCond RX5 6 g) (hr : meth.sig.returnType = (some .boolean)) {P : xP} {C30 : xK} (h30 : xAt p l e { frames := fr, cells := 0, slots := 0, locals := lo } s m args below meth c g 6 xFT xN 0 0 (MQ below (xQc g xFT xN P) args s 0 0 (xFr g)) C30 30) : xAt p l e { frames := fr, cells := 0, slots := 0, locals := lo } s m args below meth c g 6 xFT xN 0 0 (MQ below (xQc g xFT xN P) args s 0 0 (xFr g)) (k_X5_readCond_5 S1 S2 P C30) 5 := by
  unfold k_X5_readCond_5
  refine r_iload (pc := 5) X d_X5_readCond_5 ?_
  refine r_bipush (pc := 7) X d_X5_readCond_7 (by decide +kernel) ?_
  refine r_icmp_gt (pc := 9) (tgt := 127) X d_X5_readCond_9 (by decide +kernel) ?_ ?_
  · exact t_X5_readCond_127 hfr hlo c1 r1 c2 r2 X hr
  · refine r_iload_n (pc := 12) X d_X5_readCond_12 fn3 ?_
    refine r_if_eq (pc := 13) (tgt := 127) X d_X5_readCond_13 (by decide +kernel) ?_ ?_
    · exact t_X5_readCond_127 hfr hlo c1 r1 c2 r2 X hr
    · refine r_aload_n (pc := 16) X d_X5_readCond_16 fn0 ?_
      refine r_aload_n (pc := 17) X d_X5_readCond_17 fn1 ?_
      refine r_iload_n (pc := 18) X d_X5_readCond_18 fn2 ?_
      refine s_cv2 (pc := 19) (ci := 5) X xok5 (by decide +kernel) ob_3 rfl (c1) mf_X5_readOne ml_RX5_150 r1 ⟨Nat.le_refl _, Nat.le_refl _⟩ d_X5_readCond_19 ?_
      refine r_if_ne (pc := 22) (tgt := 27) X d_X5_readCond_22 (by decide +kernel) ?_ ?_
      · refine r_iconst (pc := 27) X d_X5_readCond_27 (by decide +kernel) ?_
        refine r_istore (pc := 28) X d_X5_readCond_28 (by decide +kernel) ?_
        exact h30
      · refine r_iconst (pc := 25) X d_X5_readCond_25 (by decide +kernel) ?_
        exact r_zret (pc := 26) X hr d_X5_readCond_26
def k_X5_readCond_121 (S1 S2 : Nat → Nat → Int32 → xH → xP → Prop) (P : xP) (C5 : xK) : xK := x_iinc 4 1 (C5)
set_option maxRecDepth 20000 in
theorem t_X5_readCond_121 {l : Launch} {fr lo fr1 lo1 fr2 lo2 : Nat} {S1 S2 : Nat → Nat → Int32 → xH → xP → Prop} (hfr : 10 ≤ fr) (hlo : 200 ≤ lo) (c1 : xCon l yX5_readOne cX5_readOne 6 (some .boolean) fr1 lo1 xN xN 0 xFT xFT (w_RRI S1)) (r1 : fr1 + 1 ≤ fr ∧ 8 + (6 + 11) + lo1 ≤ lo) (c2 : xCon l yX5_readCond cX5_readCond 6 (some .boolean) fr2 lo2 xN xN 0 xFT xFT (w_RRI S2)) (r2 : fr2 + 1 ≤ fr ∧ 8 + (6 + 11) + lo2 ≤ lo) {p : Program} {e : Env} {s : State} {m : MethodId} {args : Array Value} {below : List Frame} {meth : Method} {c : Code} {g : xG} (X : xX p s m args c meth cX5_readCond RX5 6 g) (hr : meth.sig.returnType = (some .boolean)) {P : xP} {C5 : xK} (h5 : xAt p l e { frames := fr, cells := 0, slots := 0, locals := lo } s m args below meth c g 6 xFT xN 0 0 (MQ below (xQc g xFT xN P) args s 0 0 (xFr g)) C5 5) : xAt p l e { frames := fr, cells := 0, slots := 0, locals := lo } s m args below meth c g 6 xFT xN 0 0 (MQ below (xQc g xFT xN P) args s 0 0 (xFr g)) (k_X5_readCond_121 S1 S2 P C5) 121 := by
  unfold k_X5_readCond_121
  refine r_iinc (pc := 121) X d_X5_readCond_121 (by decide +kernel) (by decide +kernel) ?_
  refine r_goto (pc := 124) (tgt := 5) X d_X5_readCond_124 (by decide +kernel) ?_
  exact h5
def k_X5_readCond_99 (S1 S2 : Nat → Nat → Int32 → xH → xP → Prop) (P : xP) (C5 : xK) : xK := x_aload 0 (y_getF 3 1 (x_push (.long 28530) (y_cv1 1 (w_RJ f_X9_isWord) (x_istore 3 (x_iload 3 (x_if_eq ((k_X5_readCond_121 S1 S2 P C5)) (x_aload 0 (y_getF 3 1 (y_cv0 1 (w_R f_X9_advance) ((k_X5_readCond_121 S1 S2 P C5)))))))))))
set_option maxRecDepth 20000 in
theorem t_X5_readCond_99 {l : Launch} {fr lo fr1 lo1 fr2 lo2 : Nat} {S1 S2 : Nat → Nat → Int32 → xH → xP → Prop} (hfr : 10 ≤ fr) (hlo : 200 ≤ lo) (c1 : xCon l yX5_readOne cX5_readOne 6 (some .boolean) fr1 lo1 xN xN 0 xFT xFT (w_RRI S1)) (r1 : fr1 + 1 ≤ fr ∧ 8 + (6 + 11) + lo1 ≤ lo) (c2 : xCon l yX5_readCond cX5_readCond 6 (some .boolean) fr2 lo2 xN xN 0 xFT xFT (w_RRI S2)) (r2 : fr2 + 1 ≤ fr ∧ 8 + (6 + 11) + lo2 ≤ lo) {p : Program} {e : Env} {s : State} {m : MethodId} {args : Array Value} {below : List Frame} {meth : Method} {c : Code} {g : xG} (X : xX p s m args c meth cX5_readCond RX5 6 g) (hr : meth.sig.returnType = (some .boolean)) {P : xP} {C5 : xK} (h5 : xAt p l e { frames := fr, cells := 0, slots := 0, locals := lo } s m args below meth c g 6 xFT xN 0 0 (MQ below (xQc g xFT xN P) args s 0 0 (xFr g)) C5 5) : xAt p l e { frames := fr, cells := 0, slots := 0, locals := lo } s m args below meth c g 6 xFT xN 0 0 (MQ below (xQc g xFT xN P) args s 0 0 (xFr g)) (k_X5_readCond_99 S1 S2 P C5) 99 := by
  unfold k_X5_readCond_99
  refine r_aload_n (pc := 99) X d_X5_readCond_99 fn0 ?_
  refine s_getF (pc := 100) (ci := 5) (k := 0) X xok5 (by decide +kernel) ob_3 trivial ly_3_0 (by decide +kernel) fl_RX5_22 d_X5_readCond_100 ?_
  refine r_ldc2 (pc := 103) X cw_RX5_159 d_X5_readCond_103 ?_
  refine s_cv1 (pc := 106) (ci := 9) X xok9 (by decide +kernel) ob_1 rfl (con_X9_isWord l) mf_X9_isWord ml_RX5_54 ⟨show 0 + 1 ≤ fr by omega, show 8 + (3 + 11) + 0 ≤ lo by omega⟩ ⟨Nat.le_refl _, Nat.le_refl _⟩ d_X5_readCond_106 ?_
  refine r_istore_n (pc := 109) X d_X5_readCond_109 fn3 (by decide +kernel) ?_
  refine r_iload_n (pc := 110) X d_X5_readCond_110 fn3 ?_
  refine r_if_eq (pc := 111) (tgt := 121) X d_X5_readCond_111 (by decide +kernel) ?_ ?_
  · exact t_X5_readCond_121 hfr hlo c1 r1 c2 r2 X hr h5
  · refine r_aload_n (pc := 114) X d_X5_readCond_114 fn0 ?_
    refine s_getF (pc := 115) (ci := 5) (k := 0) X xok5 (by decide +kernel) ob_3 trivial ly_3_0 (by decide +kernel) fl_RX5_22 d_X5_readCond_115 ?_
    refine s_cv0 (pc := 118) (ci := 9) X xok9 (by decide +kernel) ob_1 rfl (con_X9_advance l) mf_X9_advance ml_RX5_88 ⟨show 1 + 1 ≤ fr by omega, show 8 + (4 + 11) + 26 ≤ lo by omega⟩ ⟨Nat.le_refl _, Nat.le_refl _⟩ d_X5_readCond_118 ?_
    exact t_X5_readCond_121 hfr hlo c1 r1 c2 r2 X hr h5
def k_X5_readCond_84 (S1 S2 : Nat → Nat → Int32 → xH → xP → Prop) (P : xP) (C5 : xK) : xK := x_iload 4 (x_if_le ((k_X5_readCond_99 S1 S2 P C5)) (x_aload 0 (y_getF 3 5 (x_push (.int 7) (x_push (.int 0) (y_cv2 5 (w_RII f_X8_emit) ((k_X5_readCond_99 S1 S2 P C5))))))))
set_option maxRecDepth 20000 in
theorem t_X5_readCond_84 {l : Launch} {fr lo fr1 lo1 fr2 lo2 : Nat} {S1 S2 : Nat → Nat → Int32 → xH → xP → Prop} (hfr : 10 ≤ fr) (hlo : 200 ≤ lo) (c1 : xCon l yX5_readOne cX5_readOne 6 (some .boolean) fr1 lo1 xN xN 0 xFT xFT (w_RRI S1)) (r1 : fr1 + 1 ≤ fr ∧ 8 + (6 + 11) + lo1 ≤ lo) (c2 : xCon l yX5_readCond cX5_readCond 6 (some .boolean) fr2 lo2 xN xN 0 xFT xFT (w_RRI S2)) (r2 : fr2 + 1 ≤ fr ∧ 8 + (6 + 11) + lo2 ≤ lo) {p : Program} {e : Env} {s : State} {m : MethodId} {args : Array Value} {below : List Frame} {meth : Method} {c : Code} {g : xG} (X : xX p s m args c meth cX5_readCond RX5 6 g) (hr : meth.sig.returnType = (some .boolean)) {P : xP} {C5 : xK} (h5 : xAt p l e { frames := fr, cells := 0, slots := 0, locals := lo } s m args below meth c g 6 xFT xN 0 0 (MQ below (xQc g xFT xN P) args s 0 0 (xFr g)) C5 5) : xAt p l e { frames := fr, cells := 0, slots := 0, locals := lo } s m args below meth c g 6 xFT xN 0 0 (MQ below (xQc g xFT xN P) args s 0 0 (xFr g)) (k_X5_readCond_84 S1 S2 P C5) 84 := by
  unfold k_X5_readCond_84
  refine r_iload (pc := 84) X d_X5_readCond_84 ?_
  refine r_if_le (pc := 86) (tgt := 99) X d_X5_readCond_86 (by decide +kernel) ?_ ?_
  · exact t_X5_readCond_99 hfr hlo c1 r1 c2 r2 X hr h5
  · refine r_aload_n (pc := 89) X d_X5_readCond_89 fn0 ?_
    refine s_getF (pc := 90) (ci := 5) (k := 2) X xok5 (by decide +kernel) ob_3 trivial ly_3_2 (by decide +kernel) fl_RX5_18 d_X5_readCond_90 ?_
    refine r_bipush (pc := 93) X d_X5_readCond_93 (by decide +kernel) ?_
    refine r_iconst (pc := 95) X d_X5_readCond_95 (by decide +kernel) ?_
    refine s_cv2 (pc := 96) (ci := 8) X xok8 (by decide +kernel) ob_5 rfl (con_X8_emit l) mf_X8_emit ml_RX5_155 ⟨show 0 + 1 ≤ fr by omega, show 8 + (3 + 11) + 0 ≤ lo by omega⟩ ⟨Nat.le_refl _, Nat.le_refl _⟩ d_X5_readCond_96 ?_
    exact t_X5_readCond_99 hfr hlo c1 r1 c2 r2 X hr h5
def k_X5_readCond_30 (S1 S2 : Nat → Nat → Int32 → xH → xP → Prop) (P : xP) (C5 : xK) (C30 : xK) : xK := x_iload 5 (x_push (.int 20) (x_icmp_gt ((k_X5_readCond_84 S1 S2 P C5)) (x_aload 0 (y_getF 3 1 (x_push (.long 6385252) (y_cv1 1 (w_RJ f_X9_isWord) (x_if_eq ((k_X5_readCond_84 S1 S2 P C5)) (x_aload 0 (y_getF 3 1 (y_cv0 1 (w_R f_X9_advance) (x_aload 0 (x_aload 1 (x_iload 2 (y_cv2 3 (w_RRI S1) (x_if_ne (x_aload 0 (y_getF 3 5 (x_push (.int 6) (x_push (.int 0) (y_cv2 5 (w_RII f_X8_emit) (x_iinc 5 1 (C30))))))) (x_push (.int 0) (x_zret P)))))))))))))))))
set_option maxRecDepth 20000 in
theorem t_X5_readCond_30 {l : Launch} {fr lo fr1 lo1 fr2 lo2 : Nat} {S1 S2 : Nat → Nat → Int32 → xH → xP → Prop} (hfr : 10 ≤ fr) (hlo : 200 ≤ lo) (c1 : xCon l yX5_readOne cX5_readOne 6 (some .boolean) fr1 lo1 xN xN 0 xFT xFT (w_RRI S1)) (r1 : fr1 + 1 ≤ fr ∧ 8 + (6 + 11) + lo1 ≤ lo) (c2 : xCon l yX5_readCond cX5_readCond 6 (some .boolean) fr2 lo2 xN xN 0 xFT xFT (w_RRI S2)) (r2 : fr2 + 1 ≤ fr ∧ 8 + (6 + 11) + lo2 ≤ lo) {p : Program} {e : Env} {s : State} {m : MethodId} {args : Array Value} {below : List Frame} {meth : Method} {c : Code} {g : xG} (X : xX p s m args c meth cX5_readCond RX5 6 g) (hr : meth.sig.returnType = (some .boolean)) {P : xP} {C5 : xK} {C30 : xK} (h5 : xAt p l e { frames := fr, cells := 0, slots := 0, locals := lo } s m args below meth c g 6 xFT xN 0 0 (MQ below (xQc g xFT xN P) args s 0 0 (xFr g)) C5 5) (h30 : xAt p l e { frames := fr, cells := 0, slots := 0, locals := lo } s m args below meth c g 6 xFT xN 0 0 (MQ below (xQc g xFT xN P) args s 0 0 (xFr g)) C30 30) : xAt p l e { frames := fr, cells := 0, slots := 0, locals := lo } s m args below meth c g 6 xFT xN 0 0 (MQ below (xQc g xFT xN P) args s 0 0 (xFr g)) (k_X5_readCond_30 S1 S2 P C5 C30) 30 := by
  unfold k_X5_readCond_30
  refine r_iload (pc := 30) X d_X5_readCond_30 ?_
  refine r_bipush (pc := 32) X d_X5_readCond_32 (by decide +kernel) ?_
  refine r_icmp_gt (pc := 34) (tgt := 84) X d_X5_readCond_34 (by decide +kernel) ?_ ?_
  · exact t_X5_readCond_84 hfr hlo c1 r1 c2 r2 X hr h5
  · refine r_aload_n (pc := 37) X d_X5_readCond_37 fn0 ?_
    refine s_getF (pc := 38) (ci := 5) (k := 0) X xok5 (by decide +kernel) ob_3 trivial ly_3_0 (by decide +kernel) fl_RX5_22 d_X5_readCond_38 ?_
    refine r_ldc2 (pc := 41) X cw_RX5_153 d_X5_readCond_41 ?_
    refine s_cv1 (pc := 44) (ci := 9) X xok9 (by decide +kernel) ob_1 rfl (con_X9_isWord l) mf_X9_isWord ml_RX5_54 ⟨show 0 + 1 ≤ fr by omega, show 8 + (3 + 11) + 0 ≤ lo by omega⟩ ⟨Nat.le_refl _, Nat.le_refl _⟩ d_X5_readCond_44 ?_
    refine r_if_eq (pc := 47) (tgt := 84) X d_X5_readCond_47 (by decide +kernel) ?_ ?_
    · exact t_X5_readCond_84 hfr hlo c1 r1 c2 r2 X hr h5
    · refine r_aload_n (pc := 50) X d_X5_readCond_50 fn0 ?_
      refine s_getF (pc := 51) (ci := 5) (k := 0) X xok5 (by decide +kernel) ob_3 trivial ly_3_0 (by decide +kernel) fl_RX5_22 d_X5_readCond_51 ?_
      refine s_cv0 (pc := 54) (ci := 9) X xok9 (by decide +kernel) ob_1 rfl (con_X9_advance l) mf_X9_advance ml_RX5_88 ⟨show 1 + 1 ≤ fr by omega, show 8 + (4 + 11) + 26 ≤ lo by omega⟩ ⟨Nat.le_refl _, Nat.le_refl _⟩ d_X5_readCond_54 ?_
      refine r_aload_n (pc := 57) X d_X5_readCond_57 fn0 ?_
      refine r_aload_n (pc := 58) X d_X5_readCond_58 fn1 ?_
      refine r_iload_n (pc := 59) X d_X5_readCond_59 fn2 ?_
      refine s_cv2 (pc := 60) (ci := 5) X xok5 (by decide +kernel) ob_3 rfl (c1) mf_X5_readOne ml_RX5_150 r1 ⟨Nat.le_refl _, Nat.le_refl _⟩ d_X5_readCond_60 ?_
      refine r_if_ne (pc := 63) (tgt := 68) X d_X5_readCond_63 (by decide +kernel) ?_ ?_
      · refine r_aload_n (pc := 68) X d_X5_readCond_68 fn0 ?_
        refine s_getF (pc := 69) (ci := 5) (k := 2) X xok5 (by decide +kernel) ob_3 trivial ly_3_2 (by decide +kernel) fl_RX5_18 d_X5_readCond_69 ?_
        refine r_bipush (pc := 72) X d_X5_readCond_72 (by decide +kernel) ?_
        refine r_iconst (pc := 74) X d_X5_readCond_74 (by decide +kernel) ?_
        refine s_cv2 (pc := 75) (ci := 8) X xok8 (by decide +kernel) ob_5 rfl (con_X8_emit l) mf_X8_emit ml_RX5_155 ⟨show 0 + 1 ≤ fr by omega, show 8 + (3 + 11) + 0 ≤ lo by omega⟩ ⟨Nat.le_refl _, Nat.le_refl _⟩ d_X5_readCond_75 ?_
        refine r_iinc (pc := 78) X d_X5_readCond_78 (by decide +kernel) (by decide +kernel) ?_
        refine r_goto (pc := 81) (tgt := 30) X d_X5_readCond_81 (by decide +kernel) ?_
        exact h30
      · refine r_iconst (pc := 66) X d_X5_readCond_66 (by decide +kernel) ?_
        exact r_zret (pc := 67) X hr d_X5_readCond_67
set_option maxRecDepth 20000 in
theorem m_X5_readCond {l : Launch} {fr lo fr1 lo1 fr2 lo2 : Nat} {S1 S2 : Nat → Nat → Int32 → xH → xP → Prop} (hfr : 10 ≤ fr) (hlo : 200 ≤ lo) (c1 : xCon l yX5_readOne cX5_readOne 6 (some .boolean) fr1 lo1 xN xN 0 xFT xFT (w_RRI S1)) (r1 : fr1 + 1 ≤ fr ∧ 8 + (6 + 11) + lo1 ≤ lo) (c2 : xCon l yX5_readCond cX5_readCond 6 (some .boolean) fr2 lo2 xN xN 0 xFT xFT (w_RRI S2)) (r2 : fr2 + 1 ≤ fr ∧ 8 + (6 + 11) + lo2 ≤ lo) {f : Nat → Nat → Int32 → xH → xP → Prop}  {I5 : Nat → Nat → Int32 → xH → xP → xM → xK} {I30 : Nat → Nat → Int32 → xH → xP → xM → xK}
    (v0 : ∀ (a0 : Nat) (a1 : Nat) (a2 : Int32) (A : xH) (P : xP), f a0 a1 a2 A P → k_X5_readCond_0 S1 S2 P (xE (I5 a0 a1 a2 A P)) [some (.ref a0), some (.ref a1), some (.int a2), none, none, none] [] A)
    (v5 : ∀ (a0 : Nat) (a1 : Nat) (a2 : Int32) (A : xH) (P : xP), f a0 a1 a2 A P → ∀ (μ : xM) (L : xL) (st : List Value) (B : xH), I5 a0 a1 a2 A P μ L st B → k_X5_readCond_5 S1 S2 P (xB (I30 a0 a1 a2 A P) μ) L st B)
    (v30 : ∀ (a0 : Nat) (a1 : Nat) (a2 : Int32) (A : xH) (P : xP), f a0 a1 a2 A P → ∀ (μ : xM) (L : xL) (st : List Value) (B : xH), I30 a0 a1 a2 A P μ L st B → k_X5_readCond_30 S1 S2 P (xB (I5 a0 a1 a2 A P) μ) (xB (I30 a0 a1 a2 A P) μ) L st B) : xCon l yX5_readCond cX5_readCond 6 (some .boolean) fr lo xN xN 0 xFT xFT (w_RRI f) := by
  refine xc_RRI (plainFor_of_name pn_RX5) (by decide +kernel) (fun p e s m args below meth c g a0 a1 a2 A P h X hr _ => ?_)
  obtain ⟨h5, h30⟩ := x_loop2 (p := p) (l := l) (e := e) (R := { frames := fr, cells := 0, slots := 0, locals := lo }) (s := s) (m := m) (args := args) (below := below) (meth := meth) (c := c) (g := g) (nL := 6) (F := xFT) (n := xN) (cells := 0) (slots := 0) (Q := MQ below (xQc g xFT xN P) args s 0 0 (xFr g)) (I1 := I5 a0 a1 a2 A P) (I2 := I30 a0 a1 a2 A P) (pc1 := 5) (pc2 := 30) (fun μ i5 i30 => xAt_mono (t_X5_readCond_5 hfr hlo c1 r1 c2 r2 (P := P) X hr i30) (v5 a0 a1 a2 A P h μ)) (fun μ i5 i30 => xAt_mono (t_X5_readCond_30 hfr hlo c1 r1 c2 r2 (P := P) X hr i5 i30) (v30 a0 a1 a2 A P h μ))
  exact ⟨_, v0 a0 a1 a2 A P h, t_X5_readCond_0 hfr hlo c1 r1 c2 r2 X hr h5⟩

