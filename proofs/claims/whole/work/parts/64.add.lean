/-! ===== add(), on both sides ===== -/
theorem d_X11_add_0 : decode cX11_add 0 = .ok (.aload_n 0, 1) := by decide +kernel
theorem d_X11_add_1 : decode cX11_add 1 = .ok (.getfield 10, 3) := by decide +kernel
theorem d_X11_add_4 : decode cX11_add 4 = .ok (.getfield 110, 3) := by decide +kernel
theorem d_X11_add_7 : decode cX11_add 7 = .ok (.istore_n 2, 1) := by decide +kernel
theorem d_X11_add_8 : decode cX11_add 8 = .ok (.aload_n 0, 1) := by decide +kernel
theorem d_X11_add_9 : decode cX11_add 9 = .ok (.getfield 10, 3) := by decide +kernel
theorem d_X11_add_12 : decode cX11_add 12 = .ok (.iconst 0, 1) := by decide +kernel
theorem d_X11_add_13 : decode cX11_add 13 = .ok (.iconst (-1), 1) := by decide +kernel
theorem d_X11_add_14 : decode cX11_add 14 = .ok (.invokevirtual 237, 3) := by decide +kernel
theorem d_X11_add_17 : decode cX11_add 17 = .ok (.istore_n 3, 1) := by decide +kernel
theorem d_X11_add_18 : decode cX11_add 18 = .ok (.aload_n 0, 1) := by decide +kernel
theorem d_X11_add_19 : decode cX11_add 19 = .ok (.getfield 10, 3) := by decide +kernel
theorem d_X11_add_22 : decode cX11_add 22 = .ok (.iconst 1, 1) := by decide +kernel
theorem d_X11_add_23 : decode cX11_add 23 = .ok (.iconst (-1), 1) := by decide +kernel
theorem d_X11_add_24 : decode cX11_add 24 = .ok (.invokevirtual 237, 3) := by decide +kernel
theorem d_X11_add_27 : decode cX11_add 27 = .ok (.istore 4, 2) := by decide +kernel
theorem d_X11_add_29 : decode cX11_add 29 = .ok (.aload_n 0, 1) := by decide +kernel
theorem d_X11_add_30 : decode cX11_add 30 = .ok (.getfield 10, 3) := by decide +kernel
theorem d_X11_add_33 : decode cX11_add 33 = .ok (.iconst 2, 1) := by decide +kernel
theorem d_X11_add_34 : decode cX11_add 34 = .ok (.iconst (-1), 1) := by decide +kernel
theorem d_X11_add_35 : decode cX11_add 35 = .ok (.invokevirtual 237, 3) := by decide +kernel
theorem d_X11_add_38 : decode cX11_add 38 = .ok (.istore 5, 2) := by decide +kernel
theorem d_X11_add_40 : decode cX11_add 40 = .ok (.aload_n 0, 1) := by decide +kernel
theorem d_X11_add_41 : decode cX11_add 41 = .ok (.getfield 10, 3) := by decide +kernel
theorem d_X11_add_44 : decode cX11_add 44 = .ok (.iconst 0, 1) := by decide +kernel
theorem d_X11_add_45 : decode cX11_add 45 = .ok (.putfield 110, 3) := by decide +kernel
theorem d_X11_add_48 : decode cX11_add 48 = .ok (.aload_n 0, 1) := by decide +kernel
theorem d_X11_add_49 : decode cX11_add 49 = .ok (.getfield 32, 3) := by decide +kernel
theorem d_X11_add_52 : decode cX11_add 52 = .ok (.aload_n 0, 1) := by decide +kernel
theorem d_X11_add_53 : decode cX11_add 53 = .ok (.getfield 28, 3) := by decide +kernel
theorem d_X11_add_56 : decode cX11_add 56 = .ok (.invokevirtual 128, 3) := by decide +kernel
theorem d_X11_add_59 : decode cX11_add 59 = .ok (.aload_n 0, 1) := by decide +kernel
theorem d_X11_add_60 : decode cX11_add 60 = .ok (.aload_n 0, 1) := by decide +kernel
theorem d_X11_add_61 : decode cX11_add 61 = .ok (.getfield 28, 3) := by decide +kernel
theorem d_X11_add_64 : decode cX11_add 64 = .ok (.iload_n 1, 1) := by decide +kernel
theorem d_X11_add_65 : decode cX11_add 65 = .ok (.iload_n 2, 1) := by decide +kernel
theorem d_X11_add_66 : decode cX11_add 66 = .ok (.iload_n 3, 1) := by decide +kernel
theorem d_X11_add_67 : decode cX11_add 67 = .ok (.iload 4, 2) := by decide +kernel
theorem d_X11_add_69 : decode cX11_add 69 = .ok (.iload 5, 2) := by decide +kernel
theorem d_X11_add_71 : decode cX11_add 71 = .ok (.invokevirtual 240, 3) := by decide +kernel
theorem d_X11_add_74 : decode cX11_add 74 = .ok (.invokevirtual 228, 3) := by decide +kernel
theorem d_X11_add_77 : decode cX11_add 77 = .ok (.ireturn, 1) := by decide +kernel
def k_X11_add_0 (P : xP) : xK := x_aload 0 (y_getF 0 1 (y_getI 1 1 (x_istore 2 (x_aload 0 (y_getF 0 1 (x_push (.int 0) (x_push (.int (-1)) (y_cv2 1 (w_RII f_X9_byteOr) (x_istore 3 (x_aload 0 (y_getF 0 1 (x_push (.int 1) (x_push (.int (-1)) (y_cv2 1 (w_RII f_X9_byteOr) (x_istore 4 (x_aload 0 (y_getF 0 1 (x_push (.int 2) (x_push (.int (-1)) (y_cv2 1 (w_RII f_X9_byteOr) (x_istore 5 (x_aload 0 (y_getF 0 1 (x_push (.int 0) (y_putI 1 1 (x_aload 0 (y_getF 0 18 (x_aload 0 (y_getF 0 8 (y_cv1 18 (w_RR f_X4_copyFrom) (x_aload 0 (x_aload 0 (y_getF 0 8 (x_iload 1 (x_iload 2 (x_iload 3 (x_iload 4 (x_iload 5 (y_cv5 8 (w_RIIIII f_X4_appendRule) (y_cv1 0 (w_RI f_X11_settled) (x_iret P)))))))))))))))))))))))))))))))))))))))))
set_option maxRecDepth 20000 in
theorem t_X11_add_0 {p : Program} {l : Launch} {e : Env} {s : State} {m : MethodId} {args : Array Value} {below : List Frame} {meth : Method} {c : Code} {g : xG} (X : xX p s m args c meth cX11_add RX11 6 g) (hr : meth.sig.returnType = (some .int)) {P : xP} : xAt p l e { frames := 4, cells := 0, slots := 0, locals := 165 } s m args below meth c g 6 xFT xN 0 0 (MQ below (xQc g xFT xN P) args s 0 0 (xFr g)) (k_X11_add_0 P) 0 := by
  unfold k_X11_add_0
  refine r_aload_n (pc := 0) X d_X11_add_0 fn0 ?_
  refine s_getF (pc := 1) (ci := 11) (k := 0) X xok11 (by decide +kernel) ob_0 trivial ly_0_0 (by decide +kernel) fl_RX11_10 d_X11_add_1 ?_
  refine s_getI (pc := 4) (ci := 9) X xok9 (by decide +kernel) ob_1 (by decide +kernel) fl_RX11_110 d_X11_add_4 ?_
  refine r_istore_n (pc := 7) X d_X11_add_7 fn2 (by decide +kernel) ?_
  refine r_aload_n (pc := 8) X d_X11_add_8 fn0 ?_
  refine s_getF (pc := 9) (ci := 11) (k := 0) X xok11 (by decide +kernel) ob_0 trivial ly_0_0 (by decide +kernel) fl_RX11_10 d_X11_add_9 ?_
  refine r_iconst (pc := 12) X d_X11_add_12 (by decide +kernel) ?_
  refine r_iconst (pc := 13) X d_X11_add_13 (by decide +kernel) ?_
  refine s_cv2 (pc := 14) (ci := 9) X xok9 (by decide +kernel) ob_1 rfl (con_X9_byteOr l) mf_X9_byteOr ml_RX11_237 (by decide +kernel) (by decide +kernel) d_X11_add_14 ?_
  refine r_istore_n (pc := 17) X d_X11_add_17 fn3 (by decide +kernel) ?_
  refine r_aload_n (pc := 18) X d_X11_add_18 fn0 ?_
  refine s_getF (pc := 19) (ci := 11) (k := 0) X xok11 (by decide +kernel) ob_0 trivial ly_0_0 (by decide +kernel) fl_RX11_10 d_X11_add_19 ?_
  refine r_iconst (pc := 22) X d_X11_add_22 (by decide +kernel) ?_
  refine r_iconst (pc := 23) X d_X11_add_23 (by decide +kernel) ?_
  refine s_cv2 (pc := 24) (ci := 9) X xok9 (by decide +kernel) ob_1 rfl (con_X9_byteOr l) mf_X9_byteOr ml_RX11_237 (by decide +kernel) (by decide +kernel) d_X11_add_24 ?_
  refine r_istore (pc := 27) X d_X11_add_27 (by decide +kernel) ?_
  refine r_aload_n (pc := 29) X d_X11_add_29 fn0 ?_
  refine s_getF (pc := 30) (ci := 11) (k := 0) X xok11 (by decide +kernel) ob_0 trivial ly_0_0 (by decide +kernel) fl_RX11_10 d_X11_add_30 ?_
  refine r_iconst (pc := 33) X d_X11_add_33 (by decide +kernel) ?_
  refine r_iconst (pc := 34) X d_X11_add_34 (by decide +kernel) ?_
  refine s_cv2 (pc := 35) (ci := 9) X xok9 (by decide +kernel) ob_1 rfl (con_X9_byteOr l) mf_X9_byteOr ml_RX11_237 (by decide +kernel) (by decide +kernel) d_X11_add_35 ?_
  refine r_istore (pc := 38) X d_X11_add_38 (by decide +kernel) ?_
  refine r_aload_n (pc := 40) X d_X11_add_40 fn0 ?_
  refine s_getF (pc := 41) (ci := 11) (k := 0) X xok11 (by decide +kernel) ob_0 trivial ly_0_0 (by decide +kernel) fl_RX11_10 d_X11_add_41 ?_
  refine r_iconst (pc := 44) X d_X11_add_44 (by decide +kernel) ?_
  refine s_putI (pc := 45) (ci := 9) X xok9 (by decide +kernel) ob_1 (by decide +kernel) (by decide +kernel) (by decide +kernel) fl_RX11_110 d_X11_add_45 ?_
  refine r_aload_n (pc := 48) X d_X11_add_48 fn0 ?_
  refine s_getF (pc := 49) (ci := 11) (k := 3) X xok11 (by decide +kernel) ob_0 trivial ly_0_3 (by decide +kernel) fl_RX11_32 d_X11_add_49 ?_
  refine r_aload_n (pc := 52) X d_X11_add_52 fn0 ?_
  refine s_getF (pc := 53) (ci := 11) (k := 2) X xok11 (by decide +kernel) ob_0 trivial ly_0_2 (by decide +kernel) fl_RX11_28 d_X11_add_53 ?_
  refine s_cv1 (pc := 56) (ci := 4) X xok4 (by decide +kernel) ob_18 rfl (con_X4_copyFrom l) mf_X4_copyFrom ml_RX11_128 (by decide +kernel) (by decide +kernel) d_X11_add_56 ?_
  refine r_aload_n (pc := 59) X d_X11_add_59 fn0 ?_
  refine r_aload_n (pc := 60) X d_X11_add_60 fn0 ?_
  refine s_getF (pc := 61) (ci := 11) (k := 2) X xok11 (by decide +kernel) ob_0 trivial ly_0_2 (by decide +kernel) fl_RX11_28 d_X11_add_61 ?_
  refine r_iload_n (pc := 64) X d_X11_add_64 fn1 ?_
  refine r_iload_n (pc := 65) X d_X11_add_65 fn2 ?_
  refine r_iload_n (pc := 66) X d_X11_add_66 fn3 ?_
  refine r_iload (pc := 67) X d_X11_add_67 ?_
  refine r_iload (pc := 69) X d_X11_add_69 ?_
  refine s_cv5 (pc := 71) (ci := 4) X xok4 (by decide +kernel) ob_8 rfl (con_X4_appendRule l) mf_X4_appendRule ml_RX11_240 (by decide +kernel) (by decide +kernel) d_X11_add_71 ?_
  refine s_cv1 (pc := 74) (ci := 11) X xok11 (by decide +kernel) ob_0 rfl (con_X11_settled l) mf_X11_settled ml_RX11_228 (by decide +kernel) (by decide +kernel) d_X11_add_74 ?_
  exact r_iret (pc := 77) X hr d_X11_add_77
def f_X11_add (a0 : Nat) (a1 : Int32) (A : xH) (P : xP) : Prop := k_X11_add_0 P [some (.ref a0), some (.int a1), none, none, none, none] [] A
set_option maxRecDepth 20000 in
theorem con_X11_add (l : Launch) : xCon l yX11_add cX11_add 6 (some .int) 4 165 xN xN 0 xFT xFT (w_RI f_X11_add) :=
  xc_RI (plainFor_of_name pn_RX11) (by decide +kernel) (fun p e s m args below meth c g a0 a1 A P h X hr _ => ⟨_, h, t_X11_add_0 X hr⟩)
theorem d_X12_add_0 : decode cX12_add 0 = .ok (.aload_n 0, 1) := by decide +kernel
theorem d_X12_add_1 : decode cX12_add 1 = .ok (.iconst 3, 1) := by decide +kernel
theorem d_X12_add_2 : decode cX12_add 2 = .ok (.invokevirtual 294, 3) := by decide +kernel
theorem d_X12_add_5 : decode cX12_add 5 = .ok (.aload_n 0, 1) := by decide +kernel
theorem d_X12_add_6 : decode cX12_add 6 = .ok (.iload_n 1, 1) := by decide +kernel
theorem d_X12_add_7 : decode cX12_add 7 = .ok (.invokevirtual 375, 3) := by decide +kernel
theorem d_X12_add_10 : decode cX12_add 10 = .ok (.ifCond .eq 15, 3) := by decide +kernel
theorem d_X12_add_13 : decode cX12_add 13 = .ok (.aload_n 0, 1) := by decide +kernel
theorem d_X12_add_14 : decode cX12_add 14 = .ok (.getfield 15, 3) := by decide +kernel
theorem d_X12_add_17 : decode cX12_add 17 = .ok (.iconst 3, 1) := by decide +kernel
theorem d_X12_add_18 : decode cX12_add 18 = .ok (.if_icmp .gt 7, 3) := by decide +kernel
theorem d_X12_add_21 : decode cX12_add 21 = .ok (.iconst 1, 1) := by decide +kernel
theorem d_X12_add_22 : decode cX12_add 22 = .ok (.goto 4, 3) := by decide +kernel
theorem d_X12_add_25 : decode cX12_add 25 = .ok (.iconst 0, 1) := by decide +kernel
theorem d_X12_add_26 : decode cX12_add 26 = .ok (.istore_n 2, 1) := by decide +kernel
theorem d_X12_add_27 : decode cX12_add 27 = .ok (.iconst 0, 1) := by decide +kernel
theorem d_X12_add_28 : decode cX12_add 28 = .ok (.istore_n 3, 1) := by decide +kernel
theorem d_X12_add_29 : decode cX12_add 29 = .ok (.iload_n 3, 1) := by decide +kernel
theorem d_X12_add_30 : decode cX12_add 30 = .ok (.iconst 3, 1) := by decide +kernel
theorem d_X12_add_31 : decode cX12_add 31 = .ok (.if_icmp .ge 81, 3) := by decide +kernel
theorem d_X12_add_34 : decode cX12_add 34 = .ok (.iload_n 3, 1) := by decide +kernel
theorem d_X12_add_35 : decode cX12_add 35 = .ok (.aload_n 0, 1) := by decide +kernel
theorem d_X12_add_36 : decode cX12_add 36 = .ok (.getfield 15, 3) := by decide +kernel
theorem d_X12_add_39 : decode cX12_add 39 = .ok (.if_icmp .ge 16, 3) := by decide +kernel
theorem d_X12_add_42 : decode cX12_add 42 = .ok (.aload_n 0, 1) := by decide +kernel
theorem d_X12_add_43 : decode cX12_add 43 = .ok (.getfield 11, 3) := by decide +kernel
theorem d_X12_add_46 : decode cX12_add 46 = .ok (.iload_n 3, 1) := by decide +kernel
theorem d_X12_add_47 : decode cX12_add 47 = .ok (.baload, 1) := by decide +kernel
theorem d_X12_add_48 : decode cX12_add 48 = .ok (.sipush 255, 3) := by decide +kernel
theorem d_X12_add_51 : decode cX12_add 51 = .ok (.iand, 1) := by decide +kernel
theorem d_X12_add_52 : decode cX12_add 52 = .ok (.goto 4, 3) := by decide +kernel
theorem d_X12_add_55 : decode cX12_add 55 = .ok (.iconst (-1), 1) := by decide +kernel
theorem d_X12_add_56 : decode cX12_add 56 = .ok (.istore 4, 2) := by decide +kernel
theorem d_X12_add_58 : decode cX12_add 58 = .ok (.iload_n 2, 1) := by decide +kernel
theorem d_X12_add_59 : decode cX12_add 59 = .ok (.ifCond .eq 35, 3) := by decide +kernel
theorem d_X12_add_62 : decode cX12_add 62 = .ok (.iload 4, 2) := by decide +kernel
theorem d_X12_add_64 : decode cX12_add 64 = .ok (.ifCond .lt 26, 3) := by decide +kernel
theorem d_X12_add_67 : decode cX12_add 67 = .ok (.iload 4, 2) := by decide +kernel
theorem d_X12_add_69 : decode cX12_add 69 = .ok (.aload_n 0, 1) := by decide +kernel
theorem d_X12_add_70 : decode cX12_add 70 = .ok (.getfield 30, 3) := by decide +kernel
theorem d_X12_add_73 : decode cX12_add 73 = .ok (.iconst 0, 1) := by decide +kernel
theorem d_X12_add_74 : decode cX12_add 74 = .ok (.iaload, 1) := by decide +kernel
theorem d_X12_add_75 : decode cX12_add 75 = .ok (.if_icmp .lt 15, 3) := by decide +kernel
theorem d_X12_add_78 : decode cX12_add 78 = .ok (.aload_n 0, 1) := by decide +kernel
theorem d_X12_add_79 : decode cX12_add 79 = .ok (.iload 4, 2) := by decide +kernel
theorem d_X12_add_81 : decode cX12_add 81 = .ok (.bipush 8, 2) := by decide +kernel
theorem d_X12_add_83 : decode cX12_add 83 = .ok (.isub, 1) := by decide +kernel
theorem d_X12_add_84 : decode cX12_add 84 = .ok (.invokevirtual 375, 3) := by decide +kernel
theorem d_X12_add_87 : decode cX12_add 87 = .ok (.ifCond .eq 7, 3) := by decide +kernel
theorem d_X12_add_90 : decode cX12_add 90 = .ok (.iconst 1, 1) := by decide +kernel
theorem d_X12_add_91 : decode cX12_add 91 = .ok (.goto 4, 3) := by decide +kernel
theorem d_X12_add_94 : decode cX12_add 94 = .ok (.iconst 0, 1) := by decide +kernel
theorem d_X12_add_95 : decode cX12_add 95 = .ok (.istore_n 2, 1) := by decide +kernel
theorem d_X12_add_96 : decode cX12_add 96 = .ok (.aload_n 0, 1) := by decide +kernel
theorem d_X12_add_97 : decode cX12_add 97 = .ok (.getfield 106, 3) := by decide +kernel
theorem d_X12_add_100 : decode cX12_add 100 = .ok (.iconst 2, 1) := by decide +kernel
theorem d_X12_add_101 : decode cX12_add 101 = .ok (.iload_n 3, 1) := by decide +kernel
theorem d_X12_add_102 : decode cX12_add 102 = .ok (.iadd, 1) := by decide +kernel
theorem d_X12_add_103 : decode cX12_add 103 = .ok (.iload 4, 2) := by decide +kernel
theorem d_X12_add_105 : decode cX12_add 105 = .ok (.iastore, 1) := by decide +kernel
theorem d_X12_add_106 : decode cX12_add 106 = .ok (.iinc 3 1, 3) := by decide +kernel
theorem d_X12_add_109 : decode cX12_add 109 = .ok (.goto (-80), 3) := by decide +kernel
theorem d_X12_add_112 : decode cX12_add 112 = .ok (.iload_n 2, 1) := by decide +kernel
theorem d_X12_add_113 : decode cX12_add 113 = .ok (.ifCond .ne 5, 3) := by decide +kernel
theorem d_X12_add_116 : decode cX12_add 116 = .ok (.iconst (-1), 1) := by decide +kernel
theorem d_X12_add_117 : decode cX12_add 117 = .ok (.ireturn, 1) := by decide +kernel
theorem d_X12_add_118 : decode cX12_add 118 = .ok (.aload_n 0, 1) := by decide +kernel
theorem d_X12_add_119 : decode cX12_add 119 = .ok (.getfield 30, 3) := by decide +kernel
theorem d_X12_add_122 : decode cX12_add 122 = .ok (.iconst 2, 1) := by decide +kernel
theorem d_X12_add_123 : decode cX12_add 123 = .ok (.iaload, 1) := by decide +kernel
theorem d_X12_add_124 : decode cX12_add 124 = .ok (.bipush 10, 2) := by decide +kernel
theorem d_X12_add_126 : decode cX12_add 126 = .ok (.if_icmp .ne 5, 3) := by decide +kernel
theorem d_X12_add_129 : decode cX12_add 129 = .ok (.iconst 1, 1) := by decide +kernel
theorem d_X12_add_130 : decode cX12_add 130 = .ok (.ireturn, 1) := by decide +kernel
theorem d_X12_add_131 : decode cX12_add 131 = .ok (.aload_n 0, 1) := by decide +kernel
theorem d_X12_add_132 : decode cX12_add 132 = .ok (.getfield 106, 3) := by decide +kernel
theorem d_X12_add_135 : decode cX12_add 135 = .ok (.iconst 0, 1) := by decide +kernel
theorem d_X12_add_136 : decode cX12_add 136 = .ok (.iload_n 1, 1) := by decide +kernel
theorem d_X12_add_137 : decode cX12_add 137 = .ok (.iastore, 1) := by decide +kernel
theorem d_X12_add_138 : decode cX12_add 138 = .ok (.aload_n 0, 1) := by decide +kernel
theorem d_X12_add_139 : decode cX12_add 139 = .ok (.getfield 106, 3) := by decide +kernel
theorem d_X12_add_142 : decode cX12_add 142 = .ok (.iconst 1, 1) := by decide +kernel
theorem d_X12_add_143 : decode cX12_add 143 = .ok (.aload_n 0, 1) := by decide +kernel
theorem d_X12_add_144 : decode cX12_add 144 = .ok (.getfield 15, 3) := by decide +kernel
theorem d_X12_add_147 : decode cX12_add 147 = .ok (.iastore, 1) := by decide +kernel
theorem d_X12_add_148 : decode cX12_add 148 = .ok (.aload_n 0, 1) := by decide +kernel
theorem d_X12_add_149 : decode cX12_add 149 = .ok (.invokevirtual 472, 3) := by decide +kernel
theorem d_X12_add_152 : decode cX12_add 152 = .ok (.aload_n 0, 1) := by decide +kernel
theorem d_X12_add_153 : decode cX12_add 153 = .ok (.aload_n 0, 1) := by decide +kernel
theorem d_X12_add_154 : decode cX12_add 154 = .ok (.getfield 106, 3) := by decide +kernel
theorem d_X12_add_157 : decode cX12_add 157 = .ok (.iconst 0, 1) := by decide +kernel
theorem d_X12_add_158 : decode cX12_add 158 = .ok (.invokevirtual 484, 3) := by decide +kernel
theorem d_X12_add_161 : decode cX12_add 161 = .ok (.ireturn, 1) := by decide +kernel
def k_X12_add_26 (P : xP) (C29 : xK) : xK := x_istore 2 (x_push (.int 0) (x_istore 3 (C29)))
set_option maxRecDepth 20000 in
theorem t_X12_add_26 {p : Program} {l : Launch} {e : Env} {s : State} {m : MethodId} {args : Array Value} {below : List Frame} {meth : Method} {c : Code} {g : xG} (X : xX p s m args c meth cX12_add RX12 5 g) (hr : meth.sig.returnType = (some .int)) {P : xP} {C29 : xK} (h29 : xAt p l e { frames := 3, cells := 0, slots := 0, locals := 64 } s m args below meth c g 5 xFT xN 0 0 (MQ below (xQc g xFT xN P) args s 0 0 (xFr g)) C29 29) : xAt p l e { frames := 3, cells := 0, slots := 0, locals := 64 } s m args below meth c g 5 xFT xN 0 0 (MQ below (xQc g xFT xN P) args s 0 0 (xFr g)) (k_X12_add_26 P C29) 26 := by
  unfold k_X12_add_26
  refine r_istore_n (pc := 26) X d_X12_add_26 fn2 (by decide +kernel) ?_
  refine r_iconst (pc := 27) X d_X12_add_27 (by decide +kernel) ?_
  refine r_istore_n (pc := 28) X d_X12_add_28 fn3 (by decide +kernel) ?_
  exact h29
def k_X12_add_25 (P : xP) (C29 : xK) : xK := x_push (.int 0) ((k_X12_add_26 P C29))
set_option maxRecDepth 20000 in
theorem t_X12_add_25 {p : Program} {l : Launch} {e : Env} {s : State} {m : MethodId} {args : Array Value} {below : List Frame} {meth : Method} {c : Code} {g : xG} (X : xX p s m args c meth cX12_add RX12 5 g) (hr : meth.sig.returnType = (some .int)) {P : xP} {C29 : xK} (h29 : xAt p l e { frames := 3, cells := 0, slots := 0, locals := 64 } s m args below meth c g 5 xFT xN 0 0 (MQ below (xQc g xFT xN P) args s 0 0 (xFr g)) C29 29) : xAt p l e { frames := 3, cells := 0, slots := 0, locals := 64 } s m args below meth c g 5 xFT xN 0 0 (MQ below (xQc g xFT xN P) args s 0 0 (xFr g)) (k_X12_add_25 P C29) 25 := by
  unfold k_X12_add_25
  refine r_iconst (pc := 25) X d_X12_add_25 (by decide +kernel) ?_
  exact t_X12_add_26 X hr h29
def k_X12_add_0 (P : xP) (C29 : xK) : xK := x_aload 0 (x_push (.int 3) (y_cv1 180 (w_RI f_X12_taken) (x_aload 0 (x_iload 1 (y_cv1 180 (w_RI f_X12_isKind) (x_if_eq ((k_X12_add_25 P C29)) (x_aload 0 (y_getI 180 2 (x_push (.int 3) (x_icmp_gt ((k_X12_add_25 P C29)) (x_push (.int 1) ((k_X12_add_26 P C29)))))))))))))
set_option maxRecDepth 20000 in
theorem t_X12_add_0 {p : Program} {l : Launch} {e : Env} {s : State} {m : MethodId} {args : Array Value} {below : List Frame} {meth : Method} {c : Code} {g : xG} (X : xX p s m args c meth cX12_add RX12 5 g) (hr : meth.sig.returnType = (some .int)) {P : xP} {C29 : xK} (h29 : xAt p l e { frames := 3, cells := 0, slots := 0, locals := 64 } s m args below meth c g 5 xFT xN 0 0 (MQ below (xQc g xFT xN P) args s 0 0 (xFr g)) C29 29) : xAt p l e { frames := 3, cells := 0, slots := 0, locals := 64 } s m args below meth c g 5 xFT xN 0 0 (MQ below (xQc g xFT xN P) args s 0 0 (xFr g)) (k_X12_add_0 P C29) 0 := by
  unfold k_X12_add_0
  refine r_aload_n (pc := 0) X d_X12_add_0 fn0 ?_
  refine r_iconst (pc := 1) X d_X12_add_1 (by decide +kernel) ?_
  refine s_cv1 (pc := 2) (ci := 12) X xok12 (by decide +kernel) ob_180 rfl (con_X12_taken l) mf_X12_taken ml_RX12_294 (by decide +kernel) (by decide +kernel) d_X12_add_2 ?_
  refine r_aload_n (pc := 5) X d_X12_add_5 fn0 ?_
  refine r_iload_n (pc := 6) X d_X12_add_6 fn1 ?_
  refine s_cv1 (pc := 7) (ci := 12) X xok12 (by decide +kernel) ob_180 rfl (con_X12_isKind l) mf_X12_isKind ml_RX12_375 (by decide +kernel) (by decide +kernel) d_X12_add_7 ?_
  refine r_if_eq (pc := 10) (tgt := 25) X d_X12_add_10 (by decide +kernel) ?_ ?_
  · exact t_X12_add_25 X hr h29
  · refine r_aload_n (pc := 13) X d_X12_add_13 fn0 ?_
    refine s_getI (pc := 14) (ci := 12) X xok12 (by decide +kernel) ob_180 (by decide +kernel) fl_RX12_15 d_X12_add_14 ?_
    refine r_iconst (pc := 17) X d_X12_add_17 (by decide +kernel) ?_
    refine r_icmp_gt (pc := 18) (tgt := 25) X d_X12_add_18 (by decide +kernel) ?_ ?_
    · exact t_X12_add_25 X hr h29
    · refine r_iconst (pc := 21) X d_X12_add_21 (by decide +kernel) ?_
      refine r_goto (pc := 22) (tgt := 26) X d_X12_add_22 (by decide +kernel) ?_
      exact t_X12_add_26 X hr h29
def k_X12_add_95 (P : xP) (C29 : xK) : xK := x_istore 2 (x_aload 0 (y_getF 180 206 (x_push (.int 2) (x_iload 3 (x_iadd (x_iload 4 (y_iast 206 5 (x_iinc 3 1 (C29)))))))))
set_option maxRecDepth 20000 in
theorem t_X12_add_95 {p : Program} {l : Launch} {e : Env} {s : State} {m : MethodId} {args : Array Value} {below : List Frame} {meth : Method} {c : Code} {g : xG} (X : xX p s m args c meth cX12_add RX12 5 g) (hr : meth.sig.returnType = (some .int)) {P : xP} {C29 : xK} (h29 : xAt p l e { frames := 3, cells := 0, slots := 0, locals := 64 } s m args below meth c g 5 xFT xN 0 0 (MQ below (xQc g xFT xN P) args s 0 0 (xFr g)) C29 29) : xAt p l e { frames := 3, cells := 0, slots := 0, locals := 64 } s m args below meth c g 5 xFT xN 0 0 (MQ below (xQc g xFT xN P) args s 0 0 (xFr g)) (k_X12_add_95 P C29) 95 := by
  unfold k_X12_add_95
  refine r_istore_n (pc := 95) X d_X12_add_95 fn2 (by decide +kernel) ?_
  refine r_aload_n (pc := 96) X d_X12_add_96 fn0 ?_
  refine s_getF (pc := 97) (ci := 12) (k := 53) X xok12 (by decide +kernel) ob_180 trivial ly_180_53 (by decide +kernel) fl_RX12_106 d_X12_add_97 ?_
  refine r_iconst (pc := 100) X d_X12_add_100 (by decide +kernel) ?_
  refine r_iload_n (pc := 101) X d_X12_add_101 fn3 ?_
  refine r_iadd (pc := 102) X d_X12_add_102 ?_
  refine r_iload (pc := 103) X d_X12_add_103 ?_
  refine s_iast (pc := 105) X tn_206 ln_206 d_X12_add_105 ?_
  refine r_iinc (pc := 106) X d_X12_add_106 (by decide +kernel) (by decide +kernel) ?_
  refine r_goto (pc := 109) (tgt := 29) X d_X12_add_109 (by decide +kernel) ?_
  exact h29
def k_X12_add_94 (P : xP) (C29 : xK) : xK := x_push (.int 0) ((k_X12_add_95 P C29))
set_option maxRecDepth 20000 in
theorem t_X12_add_94 {p : Program} {l : Launch} {e : Env} {s : State} {m : MethodId} {args : Array Value} {below : List Frame} {meth : Method} {c : Code} {g : xG} (X : xX p s m args c meth cX12_add RX12 5 g) (hr : meth.sig.returnType = (some .int)) {P : xP} {C29 : xK} (h29 : xAt p l e { frames := 3, cells := 0, slots := 0, locals := 64 } s m args below meth c g 5 xFT xN 0 0 (MQ below (xQc g xFT xN P) args s 0 0 (xFr g)) C29 29) : xAt p l e { frames := 3, cells := 0, slots := 0, locals := 64 } s m args below meth c g 5 xFT xN 0 0 (MQ below (xQc g xFT xN P) args s 0 0 (xFr g)) (k_X12_add_94 P C29) 94 := by
  unfold k_X12_add_94
  refine r_iconst (pc := 94) X d_X12_add_94 (by decide +kernel) ?_
  exact t_X12_add_95 X hr h29
def k_X12_add_90 (P : xP) (C29 : xK) : xK := x_push (.int 1) ((k_X12_add_95 P C29))
set_option maxRecDepth 20000 in
theorem t_X12_add_90 {p : Program} {l : Launch} {e : Env} {s : State} {m : MethodId} {args : Array Value} {below : List Frame} {meth : Method} {c : Code} {g : xG} (X : xX p s m args c meth cX12_add RX12 5 g) (hr : meth.sig.returnType = (some .int)) {P : xP} {C29 : xK} (h29 : xAt p l e { frames := 3, cells := 0, slots := 0, locals := 64 } s m args below meth c g 5 xFT xN 0 0 (MQ below (xQc g xFT xN P) args s 0 0 (xFr g)) C29 29) : xAt p l e { frames := 3, cells := 0, slots := 0, locals := 64 } s m args below meth c g 5 xFT xN 0 0 (MQ below (xQc g xFT xN P) args s 0 0 (xFr g)) (k_X12_add_90 P C29) 90 := by
  unfold k_X12_add_90
  refine r_iconst (pc := 90) X d_X12_add_90 (by decide +kernel) ?_
  refine r_goto (pc := 91) (tgt := 95) X d_X12_add_91 (by decide +kernel) ?_
  exact t_X12_add_95 X hr h29
def k_X12_add_56 (P : xP) (C29 : xK) : xK := x_istore 4 (x_iload 2 (x_if_eq ((k_X12_add_94 P C29)) (x_iload 4 (x_if_lt ((k_X12_add_90 P C29)) (x_iload 4 (x_aload 0 (y_getF 180 182 (x_push (.int 0) (y_iald 182 232 (x_icmp_lt ((k_X12_add_90 P C29)) (x_aload 0 (x_iload 4 (x_push (.int 8) (x_isub (y_cv1 180 (w_RI f_X12_isKind) (x_if_eq ((k_X12_add_94 P C29)) ((k_X12_add_90 P C29))))))))))))))))))
set_option maxRecDepth 20000 in
theorem t_X12_add_56 {p : Program} {l : Launch} {e : Env} {s : State} {m : MethodId} {args : Array Value} {below : List Frame} {meth : Method} {c : Code} {g : xG} (X : xX p s m args c meth cX12_add RX12 5 g) (hr : meth.sig.returnType = (some .int)) {P : xP} {C29 : xK} (h29 : xAt p l e { frames := 3, cells := 0, slots := 0, locals := 64 } s m args below meth c g 5 xFT xN 0 0 (MQ below (xQc g xFT xN P) args s 0 0 (xFr g)) C29 29) : xAt p l e { frames := 3, cells := 0, slots := 0, locals := 64 } s m args below meth c g 5 xFT xN 0 0 (MQ below (xQc g xFT xN P) args s 0 0 (xFr g)) (k_X12_add_56 P C29) 56 := by
  unfold k_X12_add_56
  refine r_istore (pc := 56) X d_X12_add_56 (by decide +kernel) ?_
  refine r_iload_n (pc := 58) X d_X12_add_58 fn2 ?_
  refine r_if_eq (pc := 59) (tgt := 94) X d_X12_add_59 (by decide +kernel) ?_ ?_
  · exact t_X12_add_94 X hr h29
  · refine r_iload (pc := 62) X d_X12_add_62 ?_
    refine r_if_lt (pc := 64) (tgt := 90) X d_X12_add_64 (by decide +kernel) ?_ ?_
    · exact t_X12_add_90 X hr h29
    · refine r_iload (pc := 67) X d_X12_add_67 ?_
      refine r_aload_n (pc := 69) X d_X12_add_69 fn0 ?_
      refine s_getF (pc := 70) (ci := 12) (k := 5) X xok12 (by decide +kernel) ob_180 trivial ly_180_5 (by decide +kernel) fl_RX12_30 d_X12_add_70 ?_
      refine r_iconst (pc := 73) X d_X12_add_73 (by decide +kernel) ?_
      refine s_iald (pc := 74) X tn_182 ln_182 d_X12_add_74 ?_
      refine r_icmp_lt (pc := 75) (tgt := 90) X d_X12_add_75 (by decide +kernel) ?_ ?_
      · exact t_X12_add_90 X hr h29
      · refine r_aload_n (pc := 78) X d_X12_add_78 fn0 ?_
        refine r_iload (pc := 79) X d_X12_add_79 ?_
        refine r_bipush (pc := 81) X d_X12_add_81 (by decide +kernel) ?_
        refine r_isub (pc := 83) X d_X12_add_83 ?_
        refine s_cv1 (pc := 84) (ci := 12) X xok12 (by decide +kernel) ob_180 rfl (con_X12_isKind l) mf_X12_isKind ml_RX12_375 (by decide +kernel) (by decide +kernel) d_X12_add_84 ?_
        refine r_if_eq (pc := 87) (tgt := 94) X d_X12_add_87 (by decide +kernel) ?_ ?_
        · exact t_X12_add_94 X hr h29
        · exact t_X12_add_90 X hr h29
def k_X12_add_29 (P : xP) (C29 : xK) : xK := x_iload 3 (x_push (.int 3) (x_icmp_ge (x_iload 2 (x_if_ne (x_aload 0 (y_getF 180 182 (x_push (.int 2) (y_iald 182 232 (x_push (.int 10) (x_icmp_ne (x_aload 0 (y_getF 180 206 (x_push (.int 0) (x_iload 1 (y_iast 206 5 (x_aload 0 (y_getF 180 206 (x_push (.int 1) (x_aload 0 (y_getI 180 2 (y_iast 206 5 (x_aload 0 (y_cv0 180 (w_R f_X12_keeps) (x_aload 0 (x_aload 0 (y_getF 180 206 (x_push (.int 0) (y_cv2 180 (w_RRI f_X12_adds) (x_iret P))))))))))))))))))) (x_push (.int 1) (x_iret P)))))))) (x_push (.int (-1)) (x_iret P)))) (x_iload 3 (x_aload 0 (y_getI 180 2 (x_icmp_ge (x_push (.int (-1)) ((k_X12_add_56 P C29))) (x_aload 0 (y_getF 180 181 (x_iload 3 (y_iald 181 940 (x_push (.int 255) (x_iand ((k_X12_add_56 P C29))))))))))))))
set_option maxRecDepth 20000 in
theorem t_X12_add_29 {p : Program} {l : Launch} {e : Env} {s : State} {m : MethodId} {args : Array Value} {below : List Frame} {meth : Method} {c : Code} {g : xG} (X : xX p s m args c meth cX12_add RX12 5 g) (hr : meth.sig.returnType = (some .int)) {P : xP} {C29 : xK} (h29 : xAt p l e { frames := 3, cells := 0, slots := 0, locals := 64 } s m args below meth c g 5 xFT xN 0 0 (MQ below (xQc g xFT xN P) args s 0 0 (xFr g)) C29 29) : xAt p l e { frames := 3, cells := 0, slots := 0, locals := 64 } s m args below meth c g 5 xFT xN 0 0 (MQ below (xQc g xFT xN P) args s 0 0 (xFr g)) (k_X12_add_29 P C29) 29 := by
  unfold k_X12_add_29
  refine r_iload_n (pc := 29) X d_X12_add_29 fn3 ?_
  refine r_iconst (pc := 30) X d_X12_add_30 (by decide +kernel) ?_
  refine r_icmp_ge (pc := 31) (tgt := 112) X d_X12_add_31 (by decide +kernel) ?_ ?_
  · refine r_iload_n (pc := 112) X d_X12_add_112 fn2 ?_
    refine r_if_ne (pc := 113) (tgt := 118) X d_X12_add_113 (by decide +kernel) ?_ ?_
    · refine r_aload_n (pc := 118) X d_X12_add_118 fn0 ?_
      refine s_getF (pc := 119) (ci := 12) (k := 5) X xok12 (by decide +kernel) ob_180 trivial ly_180_5 (by decide +kernel) fl_RX12_30 d_X12_add_119 ?_
      refine r_iconst (pc := 122) X d_X12_add_122 (by decide +kernel) ?_
      refine s_iald (pc := 123) X tn_182 ln_182 d_X12_add_123 ?_
      refine r_bipush (pc := 124) X d_X12_add_124 (by decide +kernel) ?_
      refine r_icmp_ne (pc := 126) (tgt := 131) X d_X12_add_126 (by decide +kernel) ?_ ?_
      · refine r_aload_n (pc := 131) X d_X12_add_131 fn0 ?_
        refine s_getF (pc := 132) (ci := 12) (k := 53) X xok12 (by decide +kernel) ob_180 trivial ly_180_53 (by decide +kernel) fl_RX12_106 d_X12_add_132 ?_
        refine r_iconst (pc := 135) X d_X12_add_135 (by decide +kernel) ?_
        refine r_iload_n (pc := 136) X d_X12_add_136 fn1 ?_
        refine s_iast (pc := 137) X tn_206 ln_206 d_X12_add_137 ?_
        refine r_aload_n (pc := 138) X d_X12_add_138 fn0 ?_
        refine s_getF (pc := 139) (ci := 12) (k := 53) X xok12 (by decide +kernel) ob_180 trivial ly_180_53 (by decide +kernel) fl_RX12_106 d_X12_add_139 ?_
        refine r_iconst (pc := 142) X d_X12_add_142 (by decide +kernel) ?_
        refine r_aload_n (pc := 143) X d_X12_add_143 fn0 ?_
        refine s_getI (pc := 144) (ci := 12) X xok12 (by decide +kernel) ob_180 (by decide +kernel) fl_RX12_15 d_X12_add_144 ?_
        refine s_iast (pc := 147) X tn_206 ln_206 d_X12_add_147 ?_
        refine r_aload_n (pc := 148) X d_X12_add_148 fn0 ?_
        refine s_cv0 (pc := 149) (ci := 12) X xok12 (by decide +kernel) ob_180 rfl (con_X12_keeps l) mf_X12_keeps ml_RX12_472 (by decide +kernel) (by decide +kernel) d_X12_add_149 ?_
        refine r_aload_n (pc := 152) X d_X12_add_152 fn0 ?_
        refine r_aload_n (pc := 153) X d_X12_add_153 fn0 ?_
        refine s_getF (pc := 154) (ci := 12) (k := 53) X xok12 (by decide +kernel) ob_180 trivial ly_180_53 (by decide +kernel) fl_RX12_106 d_X12_add_154 ?_
        refine r_iconst (pc := 157) X d_X12_add_157 (by decide +kernel) ?_
        refine s_cv2 (pc := 158) (ci := 12) X xok12 (by decide +kernel) ob_180 rfl (con_X12_adds l) mf_X12_adds ml_RX12_484 (by decide +kernel) (by decide +kernel) d_X12_add_158 ?_
        exact r_iret (pc := 161) X hr d_X12_add_161
      · refine r_iconst (pc := 129) X d_X12_add_129 (by decide +kernel) ?_
        exact r_iret (pc := 130) X hr d_X12_add_130
    · refine r_iconst (pc := 116) X d_X12_add_116 (by decide +kernel) ?_
      exact r_iret (pc := 117) X hr d_X12_add_117
  · refine r_iload_n (pc := 34) X d_X12_add_34 fn3 ?_
    refine r_aload_n (pc := 35) X d_X12_add_35 fn0 ?_
    refine s_getI (pc := 36) (ci := 12) X xok12 (by decide +kernel) ob_180 (by decide +kernel) fl_RX12_15 d_X12_add_36 ?_
    refine r_icmp_ge (pc := 39) (tgt := 55) X d_X12_add_39 (by decide +kernel) ?_ ?_
    · refine r_iconst (pc := 55) X d_X12_add_55 (by decide +kernel) ?_
      exact t_X12_add_56 X hr h29
    · refine r_aload_n (pc := 42) X d_X12_add_42 fn0 ?_
      refine s_getF (pc := 43) (ci := 12) (k := 0) X xok12 (by decide +kernel) ob_180 trivial ly_180_0 (by decide +kernel) fl_RX12_11 d_X12_add_43 ?_
      refine r_iload_n (pc := 46) X d_X12_add_46 fn3 ?_
      refine s_bald (pc := 47) X tn_181 ln_181 d_X12_add_47 ?_
      refine r_sipush (pc := 48) X d_X12_add_48 (by decide +kernel) ?_
      refine r_iand (pc := 51) X d_X12_add_51 ?_
      refine r_goto (pc := 52) (tgt := 56) X d_X12_add_52 (by decide +kernel) ?_
      exact t_X12_add_56 X hr h29
set_option maxRecDepth 20000 in
theorem m_X12_add {l : Launch} {f : Nat → Int32 → xH → xP → Prop}  {I29 : Nat → Int32 → xH → xP → xM → xK}
    (v0 : ∀ (a0 : Nat) (a1 : Int32) (A : xH) (P : xP), f a0 a1 A P → k_X12_add_0 P (xE (I29 a0 a1 A P)) [some (.ref a0), some (.int a1), none, none, none] [] A)
    (v29 : ∀ (a0 : Nat) (a1 : Int32) (A : xH) (P : xP), f a0 a1 A P → ∀ (μ : xM) (L : xL) (st : List Value) (B : xH), I29 a0 a1 A P μ L st B → k_X12_add_29 P (xB (I29 a0 a1 A P) μ) L st B) : xCon l yX12_add cX12_add 5 (some .int) 3 64 xN xN 0 xFT xFT (w_RI f) := by
  refine xc_RI (plainFor_of_name pn_RX12) (by decide +kernel) (fun p e s m args below meth c g a0 a1 A P h X hr _ => ?_)
  have h29 := x_loop1 (p := p) (l := l) (e := e) (R := { frames := 3, cells := 0, slots := 0, locals := 64 }) (s := s) (m := m) (args := args) (below := below) (meth := meth) (c := c) (g := g) (nL := 5) (F := xFT) (n := xN) (cells := 0) (slots := 0) (Q := MQ below (xQc g xFT xN P) args s 0 0 (xFr g)) (I := I29 a0 a1 A P) (pc1 := 29) (fun μ i29 => xAt_mono (t_X12_add_29 (P := P) X hr i29) (v29 a0 a1 A P h μ))
  exact ⟨_, v0 a0 a1 A P h, t_X12_add_0 X hr h29⟩
def okS (v : xV) (y : Nat) : Bool := decide (y < vS v ∨ (8 ≤ y ∧ y < 8 + vK v))
def fsN (f : Nat → Nat) (n t : Nat) : Nat := if t < n then f t else 0
def fsI (f : Nat → Nat) (n t : Nat) : Int32 := if t < n then nI (f t) else -1
def adG (v : xV) (f : Nat → Nat) (n : Nat) : Bool := decide (n ≤ 3) && (decide (n ≤ 0) || okS v (f 0)) && (decide (n ≤ 1) || okS v (f 1)) && (decide (n ≤ 2) || okS v (f 2))
def adV (v : xV) (x : Int32) (f : Nat → Nat) (n : Nat) : xV × Int32 := match num (vK v) x with
  | some k => if adG v f n = true then (if vR v = 10 then (v, 1) else (vadd v k n (fsN f n 0) (fsN f n 1) (fsN f n 2), 0)) else (v, -1)
  | none => (v, -1)
theorem adG_t {v : xV} {f : Nat → Nat} {n : Nat} : adG v f n = true ↔ n ≤ 3 ∧ ∀ t, t < n → f t < vS v ∨ (8 ≤ f t ∧ f t < 8 + vK v) := by
  unfold adG okS
  simp only [Bool.and_eq_true, Bool.or_eq_true, decide_eq_true_eq]
  constructor
  · rintro ⟨⟨⟨a, b⟩, c⟩, d⟩
    refine ⟨a, fun t ht => ?_⟩
    rcases (show t = 0 ∨ t = 1 ∨ t = 2 by omega) with rfl | rfl | rfl
    · exact b.resolve_left (by omega)
    · exact c.resolve_left (by omega)
    · exact d.resolve_left (by omega)
  · rintro ⟨a, b⟩
    refine ⟨⟨⟨a, ?_⟩, ?_⟩, ?_⟩
    · rcases Nat.lt_or_ge 0 n with q | q
      · exact Or.inr (b 0 q)
      · exact Or.inl q
    · rcases Nat.lt_or_ge 1 n with q | q
      · exact Or.inr (b 1 q)
      · exact Or.inl q
    · rcases Nat.lt_or_ge 2 n with q | q
      · exact Or.inr (b 2 q)
      · exact Or.inl q
theorem byteOr_E {A : xH} {P : xP} {f : Nat → Nat} {n : Nat} {y z : Int32} (t : Nat) (hy : y = nI t) (h : isT A f n) (ht : t < 1000) (hP : P (some (.int (if t < n then nI (f t) else z))) A) : f_X9_byteOr 1 y z A P := by
  subst hy
  have hn := h.2.1
  unfold f_X9_byteOr
  simp (disch := omega) only [k_X9_byteOr_0, k_X9_byteOr_21, k_X9_byteOr_22, x_aload, x_icmp_ge, x_if_lt, x_iload, x_iret, y_getF, y_getI, y_iald, xFT, xbool0, xbool1, Nat.reduceAdd, Nat.zero_add, xgl_0, xgl_s, xgl_n, xst_0, xst_1n, xst_1i, xst_1r, xst_1l, xst_s, set_0, set_s, true_and, and_true, xres, xcat_nil, xcat_i, xcat_r, xcat_l, Nat.add_zero, xble0, xble1, xble2, xble3, xble4, xble5, xble6, xble7, xble8, pk_mul, nI_add, nI_1, nI_leI, nI_ltI, nI_eq, n_in, n_cl, z_eq, z_lt, z_le, z_gt, z_ge, z_qe, o_eq, o_lt, o_le, o_gt, o_ge, vp0, vp1, cl0, cl1, n_sub, n_sub1, n_pm1, n_a0, n_0a, ofn, lN0, Nat.reduceLT, Nat.reduceLeDiff, Nat.reduceMul, Nat.reduceSub, Nat.reduceEqDiff, ne_eq, true_implies, false_implies, not_true_eq_false, not_false_eq_true, and_self, and_true, true_and, and_false, false_and, implies_true, if_true, if_false, i00, i10, i01, i11, ob_0, ob_1, tn_2, ln_2, ob_3, tn_4, ln_4, ob_5, tn_6, ln_6, tn_7, ln_7, ob_8, tn_9, ln_9, tn_10, ln_10, tn_11, ln_11, tn_12, ln_12, tn_13, ln_13, tn_14, ln_14, tn_15, ln_15, tn_16, ln_16, tn_17, ln_17, ob_18, tn_19, ln_19, tn_20, ln_20, tn_21, ln_21, tn_22, ln_22, tn_23, ln_23, tn_24, ln_24, tn_25, ln_25, tn_26, ln_26, tn_27, ln_27, ob_28, tn_29, ln_29, tn_30, ln_30, ob_31, tn_32, ln_32, tn_33, ln_33, ob_34, ob_35, tn_36, ln_36, tn_37, ln_37, tn_38, ln_38, ob_39, tn_40, ln_40, tn_41, ln_41, tn_42, ln_42, tn_43, ln_43, tn_44, ln_44, tn_45, ln_45, tn_46, ln_46, tn_47, ln_47, tn_48, ln_48, tn_49, ln_49, tn_50, ln_50, tn_51, ln_51, ob_52, tn_53, ln_53, tn_54, ln_54, tn_55, ln_55, tn_56, ln_56, ob_57, tn_58, ln_58, tn_59, ln_59, tn_60, ln_60, tn_61, ln_61, tn_62, ln_62, tn_63, ln_63, tn_64, ln_64, tn_65, ln_65, ob_66, tn_67, ln_67, tn_68, ln_68, tn_69, ln_69, tn_70, ln_70, tn_71, ln_71, tn_72, ln_72, tn_73, ln_73, ob_74, tn_75, ln_75, tn_76, ln_76, tn_77, ln_77, tn_78, ln_78, tn_79, ln_79, tn_80, ln_80, tn_81, ln_81, tn_82, ln_82, tn_83, ln_83, ob_84, tn_85, ln_85, tn_86, ln_86, tn_87, ln_87, tn_88, ln_88, tn_89, ln_89, tn_90, ln_90, tn_91, ln_91, tn_92, ln_92, tn_93, ln_93, ob_94, tn_95, ln_95, tn_96, ln_96, tn_97, ln_97, tn_98, ln_98, tn_99, ln_99, tn_100, ln_100, tn_101, ln_101, tn_102, ln_102, tn_103, ln_103, ob_104, tn_105, ln_105, tn_106, ln_106, tn_107, ln_107, tn_108, ln_108, tn_109, ln_109, tn_110, ln_110, tn_111, ln_111, tn_112, ln_112, tn_113, ln_113, ob_114, tn_115, ln_115, tn_116, ln_116, tn_117, ln_117, tn_118, ln_118, tn_119, ln_119, tn_120, ln_120, tn_121, ln_121, tn_122, ln_122, tn_123, ln_123, ob_124, tn_125, ln_125, tn_126, ln_126, tn_127, ln_127, tn_128, ln_128, tn_129, ln_129, tn_130, ln_130, tn_131, ln_131, tn_132, ln_132, tn_133, ln_133, ob_134, tn_135, ln_135, tn_136, ln_136, tn_137, ln_137, tn_138, ln_138, tn_139, ln_139, tn_140, ln_140, tn_141, ln_141, tn_142, ln_142, tn_143, ln_143, ob_144, tn_145, ln_145, tn_146, ln_146, tn_147, ln_147, tn_148, ln_148, tn_149, ln_149, tn_150, ln_150, tn_151, ln_151, tn_152, ln_152, tn_153, ln_153, ob_154, tn_155, ln_155, tn_156, ln_156, tn_157, ln_157, tn_158, ln_158, tn_159, ln_159, tn_160, ln_160, tn_161, ln_161, tn_162, ln_162, tn_163, ln_163, ob_164, tn_165, ln_165, tn_166, ln_166, ob_167, tn_168, ln_168, tn_169, ln_169, tn_170, ln_170, tn_171, ln_171, tn_172, ln_172, tn_173, ln_173, tn_174, ln_174, tn_175, ln_175, tn_176, ln_176, ob_177, tn_178, ln_178, tn_179, ln_179, ob_180, tn_181, ln_181, tn_182, ln_182, tn_183, ln_183, tn_184, ln_184, tn_185, ln_185, tn_186, ln_186, tn_187, ln_187, tn_188, ln_188, tn_189, ln_189, tn_190, ln_190, tn_191, ln_191, tn_192, ln_192, tn_193, ln_193, tn_194, ln_194, tn_195, ln_195, tn_196, ln_196, tn_197, ln_197, tn_198, ln_198, tn_199, ln_199, tn_200, ln_200, tn_201, ln_201, tn_202, ln_202, tn_203, ln_203, tn_204, ln_204, tn_205, ln_205, tn_206, ln_206, tn_207, ln_207, tn_208, ln_208, tn_209, ln_209, tn_210, ln_210, tn_211, ln_211, tn_212, ln_212, tn_213, ln_213, tn_214, ln_214, tn_215, ln_215, tn_216, ln_216, tn_217, ln_217, tn_218, ln_218, tn_219, ln_219, tn_220, ln_220, tn_221, ln_221, tn_222, ln_222, tn_223, ln_223, tn_224, ln_224, tn_225, ln_225, tn_226, ln_226, tn_227, ln_227, tn_228, ln_228, tn_229, ln_229, tn_230, ln_230, lx2, lx3, lx4, lx5, lx6, lx7, lx8, lx9, lx10, lx14, lx15, lx16, lx18, lx20, lx24, lx25, lx27, lx32, lx36, lx40, lx41, lx42, lx43, lx45, lx48, lx52, lx54, lx56, lx57, lx58, lx60, lx61, lx62, lx63, lx64, lx66, lx69, lx73, lx80, lx81, lx84, lx85, lx87, lx94, lx96, lx97, lx120, lx128, lx135, lx160, lx162, lx163, lx165, lx200, lx232, lx242, lx243, lx255, lx256, lx320, lx325, lx400, lx405, lx464, lx512, lx600, lx640, lx752, lx900, lx940, lx1000, lx1024, lx1764, lx3360, lx3840, lx5000, lx6400, lx9050, lx9998, lx9999, lx10000, lx25600, lx76800, lx99999, h.1]
  refine ⟨fun q => ?_, fun q => ?_⟩
  · rw [if_neg (by omega)] at hP; exact hP
  · rw [if_pos (by omega)] at hP
    rw [(h.2.2 t (by omega)).1]
    exact ⟨by omega, hP⟩
theorem fs_sym {v : xV} {f : Nat → Nat} {n t : Nat} (w1 : vS v ≤ 4) (w2 : vK v ≤ 5) (h : t < n → f t < 256) : symN (fsI f n t) = fsN f n t ∧ (t < n → (symI v (fsI f n t) ↔ (f t < vS v ∨ (8 ≤ f t ∧ f t < 8 + vK v)))) := by
  unfold fsI fsN
  by_cases q : t < n
  · have := h q
    simp only [if_pos q]
    refine ⟨symN_n (by omega), fun _ => ⟨fun ⟨c, e, hc⟩ => ?_, fun hc => symI_n hc⟩⟩
    have : c = f t := ((nI_eq (by omega) (by omega)).mp e).symm
    subst this; exact hc
  · simp only [if_neg q]
    exact ⟨symN_m, fun z => absurd z q⟩
theorem add_ok {v : xV} {x : Int32} {f : Nat → Nat} {n : Nat} (w1 : vS v ≤ 4) (w2 : vK v ≤ 5) (hn : n ≤ 940) (h : ∀ t, t < n → f t < 256) : addOK v x (nI n) (fsI f n 0) (fsI f n 1) (fsI f n 2) ↔ (∃ k, k < vK v ∧ x = nI k) ∧ adG v f n = true := by
  rw [adG_t]
  constructor
  · rintro ⟨⟨k, e, hk⟩, z, ez, hz, a, b, c⟩
    have : z = n := ((nI_eq (by omega) (by omega)).mp ez).symm
    subst this
    refine ⟨⟨k, hk, e⟩, hz, fun t ht => ?_⟩
    rcases (show t = 0 ∨ t = 1 ∨ t = 2 by omega) with rfl | rfl | rfl
    · exact ((fs_sym w1 w2 (h 0)).2 ht).mp (a ht)
    · exact ((fs_sym w1 w2 (h 1)).2 ht).mp (b ht)
    · exact ((fs_sym w1 w2 (h 2)).2 ht).mp (c ht)
  · rintro ⟨⟨k, hk, e⟩, hz, a⟩
    exact ⟨⟨k, e, hk⟩, n, rfl, hz, fun ht => ((fs_sym w1 w2 (h 0)).2 ht).mpr (a 0 ht), fun ht => ((fs_sym w1 w2 (h 1)).2 ht).mpr (a 1 ht), fun ht => ((fs_sym w1 w2 (h 2)).2 ht).mpr (a 2 ht)⟩
theorem add_C {A : xH} {P : xP} {v : xV} {um : Nat} {uv : Nat → xV} {f : Nat → Nat} {n : Nat} {x : Int32} (hM : isM A 8 v) (hT : isT A f n) (hu : uC A v um uv) (hP : ∀ B, dnC (xsi A 1 1 0) B v um uv (adV v x f n).1 (adV v x f n).2 → P (some (.int (adV v x f n).2)) B) : f_X11_add 0 x A P := by
  have w1 := hM.1.2.1.1
  have w2 := hM.1.2.1.2.1
  have hn := hT.2.1
  have hf := fun t (ht : t < n) => (hT.2.2 t ht).2
  have ok := add_ok (x := x) w1 w2 hn hf
  have fA : fr (fun c k => c = 1 ∧ k = 1) A (xsi A 1 1 0) := fr_si fr_rf (by omega)
  unfold f_X11_add
  simp (disch := omega) only [k_X11_add_0, f_X11_settled, f_X9_byteOr, w_RI, w_RII, w_RIIIII, w_RR, x_aload, x_iload, x_iret, x_istore, x_push, y_cv1, y_cv2, y_cv5, y_getF, y_getI, y_putI, xFT, xbool0, xbool1, Nat.reduceAdd, Nat.zero_add, xgl_0, xgl_s, xgl_n, xst_0, xst_1n, xst_1i, xst_1r, xst_1l, xst_s, set_0, set_s, true_and, and_true, xres, xcat_nil, xcat_i, xcat_r, xcat_l, Nat.add_zero, xble0, xble1, xble2, xble3, xble4, xble5, xble6, xble7, xble8, pk_mul, nI_add, nI_1, nI_leI, nI_ltI, nI_eq, n_in, n_cl, z_eq, z_lt, z_le, z_gt, z_ge, z_qe, o_eq, o_lt, o_le, o_gt, o_ge, vp0, vp1, cl0, cl1, n_sub, n_sub1, n_pm1, n_a0, n_0a, ofn, lN0, Nat.reduceLT, Nat.reduceLeDiff, Nat.reduceMul, Nat.reduceSub, Nat.reduceEqDiff, ne_eq, true_implies, false_implies, not_true_eq_false, not_false_eq_true, and_self, and_true, true_and, and_false, false_and, implies_true, if_true, if_false, i00, i10, i01, i11, ob_0, ob_1, tn_2, ln_2, ob_3, tn_4, ln_4, ob_5, tn_6, ln_6, tn_7, ln_7, ob_8, tn_9, ln_9, tn_10, ln_10, tn_11, ln_11, tn_12, ln_12, tn_13, ln_13, tn_14, ln_14, tn_15, ln_15, tn_16, ln_16, tn_17, ln_17, ob_18, tn_19, ln_19, tn_20, ln_20, tn_21, ln_21, tn_22, ln_22, tn_23, ln_23, tn_24, ln_24, tn_25, ln_25, tn_26, ln_26, tn_27, ln_27, ob_28, tn_29, ln_29, tn_30, ln_30, ob_31, tn_32, ln_32, tn_33, ln_33, ob_34, ob_35, tn_36, ln_36, tn_37, ln_37, tn_38, ln_38, ob_39, tn_40, ln_40, tn_41, ln_41, tn_42, ln_42, tn_43, ln_43, tn_44, ln_44, tn_45, ln_45, tn_46, ln_46, tn_47, ln_47, tn_48, ln_48, tn_49, ln_49, tn_50, ln_50, tn_51, ln_51, ob_52, tn_53, ln_53, tn_54, ln_54, tn_55, ln_55, tn_56, ln_56, ob_57, tn_58, ln_58, tn_59, ln_59, tn_60, ln_60, tn_61, ln_61, tn_62, ln_62, tn_63, ln_63, tn_64, ln_64, tn_65, ln_65, ob_66, tn_67, ln_67, tn_68, ln_68, tn_69, ln_69, tn_70, ln_70, tn_71, ln_71, tn_72, ln_72, tn_73, ln_73, ob_74, tn_75, ln_75, tn_76, ln_76, tn_77, ln_77, tn_78, ln_78, tn_79, ln_79, tn_80, ln_80, tn_81, ln_81, tn_82, ln_82, tn_83, ln_83, ob_84, tn_85, ln_85, tn_86, ln_86, tn_87, ln_87, tn_88, ln_88, tn_89, ln_89, tn_90, ln_90, tn_91, ln_91, tn_92, ln_92, tn_93, ln_93, ob_94, tn_95, ln_95, tn_96, ln_96, tn_97, ln_97, tn_98, ln_98, tn_99, ln_99, tn_100, ln_100, tn_101, ln_101, tn_102, ln_102, tn_103, ln_103, ob_104, tn_105, ln_105, tn_106, ln_106, tn_107, ln_107, tn_108, ln_108, tn_109, ln_109, tn_110, ln_110, tn_111, ln_111, tn_112, ln_112, tn_113, ln_113, ob_114, tn_115, ln_115, tn_116, ln_116, tn_117, ln_117, tn_118, ln_118, tn_119, ln_119, tn_120, ln_120, tn_121, ln_121, tn_122, ln_122, tn_123, ln_123, ob_124, tn_125, ln_125, tn_126, ln_126, tn_127, ln_127, tn_128, ln_128, tn_129, ln_129, tn_130, ln_130, tn_131, ln_131, tn_132, ln_132, tn_133, ln_133, ob_134, tn_135, ln_135, tn_136, ln_136, tn_137, ln_137, tn_138, ln_138, tn_139, ln_139, tn_140, ln_140, tn_141, ln_141, tn_142, ln_142, tn_143, ln_143, ob_144, tn_145, ln_145, tn_146, ln_146, tn_147, ln_147, tn_148, ln_148, tn_149, ln_149, tn_150, ln_150, tn_151, ln_151, tn_152, ln_152, tn_153, ln_153, ob_154, tn_155, ln_155, tn_156, ln_156, tn_157, ln_157, tn_158, ln_158, tn_159, ln_159, tn_160, ln_160, tn_161, ln_161, tn_162, ln_162, tn_163, ln_163, ob_164, tn_165, ln_165, tn_166, ln_166, ob_167, tn_168, ln_168, tn_169, ln_169, tn_170, ln_170, tn_171, ln_171, tn_172, ln_172, tn_173, ln_173, tn_174, ln_174, tn_175, ln_175, tn_176, ln_176, ob_177, tn_178, ln_178, tn_179, ln_179, ob_180, tn_181, ln_181, tn_182, ln_182, tn_183, ln_183, tn_184, ln_184, tn_185, ln_185, tn_186, ln_186, tn_187, ln_187, tn_188, ln_188, tn_189, ln_189, tn_190, ln_190, tn_191, ln_191, tn_192, ln_192, tn_193, ln_193, tn_194, ln_194, tn_195, ln_195, tn_196, ln_196, tn_197, ln_197, tn_198, ln_198, tn_199, ln_199, tn_200, ln_200, tn_201, ln_201, tn_202, ln_202, tn_203, ln_203, tn_204, ln_204, tn_205, ln_205, tn_206, ln_206, tn_207, ln_207, tn_208, ln_208, tn_209, ln_209, tn_210, ln_210, tn_211, ln_211, tn_212, ln_212, tn_213, ln_213, tn_214, ln_214, tn_215, ln_215, tn_216, ln_216, tn_217, ln_217, tn_218, ln_218, tn_219, ln_219, tn_220, ln_220, tn_221, ln_221, tn_222, ln_222, tn_223, ln_223, tn_224, ln_224, tn_225, ln_225, tn_226, ln_226, tn_227, ln_227, tn_228, ln_228, tn_229, ln_229, tn_230, ln_230, lx2, lx3, lx4, lx5, lx6, lx7, lx8, lx9, lx10, lx14, lx15, lx16, lx18, lx20, lx24, lx25, lx27, lx32, lx36, lx40, lx41, lx42, lx43, lx45, lx48, lx52, lx54, lx56, lx57, lx58, lx60, lx61, lx62, lx63, lx64, lx66, lx69, lx73, lx80, lx81, lx84, lx85, lx87, lx94, lx96, lx97, lx120, lx128, lx135, lx160, lx162, lx163, lx165, lx200, lx232, lx242, lx243, lx255, lx256, lx320, lx325, lx400, lx405, lx464, lx512, lx600, lx640, lx752, lx900, lx940, lx1000, lx1024, lx1764, lx3360, lx3840, lx5000, lx6400, lx9050, lx9998, lx9999, lx10000, lx25600, lx76800, lx99999, hT.1]
  refine byteOr_E 0 rfl hT (by omega) ?_
  simp (disch := omega) only [k_X11_add_0, f_X11_settled, f_X9_byteOr, w_RI, w_RII, w_RIIIII, w_RR, x_aload, x_iload, x_iret, x_istore, x_push, y_cv1, y_cv2, y_cv5, y_getF, y_getI, y_putI, xFT, xbool0, xbool1, Nat.reduceAdd, Nat.zero_add, xgl_0, xgl_s, xgl_n, xst_0, xst_1n, xst_1i, xst_1r, xst_1l, xst_s, set_0, set_s, true_and, and_true, xres, xcat_nil, xcat_i, xcat_r, xcat_l, Nat.add_zero, xble0, xble1, xble2, xble3, xble4, xble5, xble6, xble7, xble8, pk_mul, nI_add, nI_1, nI_leI, nI_ltI, nI_eq, n_in, n_cl, z_eq, z_lt, z_le, z_gt, z_ge, z_qe, o_eq, o_lt, o_le, o_gt, o_ge, vp0, vp1, cl0, cl1, n_sub, n_sub1, n_pm1, n_a0, n_0a, ofn, lN0, Nat.reduceLT, Nat.reduceLeDiff, Nat.reduceMul, Nat.reduceSub, Nat.reduceEqDiff, ne_eq, true_implies, false_implies, not_true_eq_false, not_false_eq_true, and_self, and_true, true_and, and_false, false_and, implies_true, if_true, if_false, i00, i10, i01, i11, ob_0, ob_1, tn_2, ln_2, ob_3, tn_4, ln_4, ob_5, tn_6, ln_6, tn_7, ln_7, ob_8, tn_9, ln_9, tn_10, ln_10, tn_11, ln_11, tn_12, ln_12, tn_13, ln_13, tn_14, ln_14, tn_15, ln_15, tn_16, ln_16, tn_17, ln_17, ob_18, tn_19, ln_19, tn_20, ln_20, tn_21, ln_21, tn_22, ln_22, tn_23, ln_23, tn_24, ln_24, tn_25, ln_25, tn_26, ln_26, tn_27, ln_27, ob_28, tn_29, ln_29, tn_30, ln_30, ob_31, tn_32, ln_32, tn_33, ln_33, ob_34, ob_35, tn_36, ln_36, tn_37, ln_37, tn_38, ln_38, ob_39, tn_40, ln_40, tn_41, ln_41, tn_42, ln_42, tn_43, ln_43, tn_44, ln_44, tn_45, ln_45, tn_46, ln_46, tn_47, ln_47, tn_48, ln_48, tn_49, ln_49, tn_50, ln_50, tn_51, ln_51, ob_52, tn_53, ln_53, tn_54, ln_54, tn_55, ln_55, tn_56, ln_56, ob_57, tn_58, ln_58, tn_59, ln_59, tn_60, ln_60, tn_61, ln_61, tn_62, ln_62, tn_63, ln_63, tn_64, ln_64, tn_65, ln_65, ob_66, tn_67, ln_67, tn_68, ln_68, tn_69, ln_69, tn_70, ln_70, tn_71, ln_71, tn_72, ln_72, tn_73, ln_73, ob_74, tn_75, ln_75, tn_76, ln_76, tn_77, ln_77, tn_78, ln_78, tn_79, ln_79, tn_80, ln_80, tn_81, ln_81, tn_82, ln_82, tn_83, ln_83, ob_84, tn_85, ln_85, tn_86, ln_86, tn_87, ln_87, tn_88, ln_88, tn_89, ln_89, tn_90, ln_90, tn_91, ln_91, tn_92, ln_92, tn_93, ln_93, ob_94, tn_95, ln_95, tn_96, ln_96, tn_97, ln_97, tn_98, ln_98, tn_99, ln_99, tn_100, ln_100, tn_101, ln_101, tn_102, ln_102, tn_103, ln_103, ob_104, tn_105, ln_105, tn_106, ln_106, tn_107, ln_107, tn_108, ln_108, tn_109, ln_109, tn_110, ln_110, tn_111, ln_111, tn_112, ln_112, tn_113, ln_113, ob_114, tn_115, ln_115, tn_116, ln_116, tn_117, ln_117, tn_118, ln_118, tn_119, ln_119, tn_120, ln_120, tn_121, ln_121, tn_122, ln_122, tn_123, ln_123, ob_124, tn_125, ln_125, tn_126, ln_126, tn_127, ln_127, tn_128, ln_128, tn_129, ln_129, tn_130, ln_130, tn_131, ln_131, tn_132, ln_132, tn_133, ln_133, ob_134, tn_135, ln_135, tn_136, ln_136, tn_137, ln_137, tn_138, ln_138, tn_139, ln_139, tn_140, ln_140, tn_141, ln_141, tn_142, ln_142, tn_143, ln_143, ob_144, tn_145, ln_145, tn_146, ln_146, tn_147, ln_147, tn_148, ln_148, tn_149, ln_149, tn_150, ln_150, tn_151, ln_151, tn_152, ln_152, tn_153, ln_153, ob_154, tn_155, ln_155, tn_156, ln_156, tn_157, ln_157, tn_158, ln_158, tn_159, ln_159, tn_160, ln_160, tn_161, ln_161, tn_162, ln_162, tn_163, ln_163, ob_164, tn_165, ln_165, tn_166, ln_166, ob_167, tn_168, ln_168, tn_169, ln_169, tn_170, ln_170, tn_171, ln_171, tn_172, ln_172, tn_173, ln_173, tn_174, ln_174, tn_175, ln_175, tn_176, ln_176, ob_177, tn_178, ln_178, tn_179, ln_179, ob_180, tn_181, ln_181, tn_182, ln_182, tn_183, ln_183, tn_184, ln_184, tn_185, ln_185, tn_186, ln_186, tn_187, ln_187, tn_188, ln_188, tn_189, ln_189, tn_190, ln_190, tn_191, ln_191, tn_192, ln_192, tn_193, ln_193, tn_194, ln_194, tn_195, ln_195, tn_196, ln_196, tn_197, ln_197, tn_198, ln_198, tn_199, ln_199, tn_200, ln_200, tn_201, ln_201, tn_202, ln_202, tn_203, ln_203, tn_204, ln_204, tn_205, ln_205, tn_206, ln_206, tn_207, ln_207, tn_208, ln_208, tn_209, ln_209, tn_210, ln_210, tn_211, ln_211, tn_212, ln_212, tn_213, ln_213, tn_214, ln_214, tn_215, ln_215, tn_216, ln_216, tn_217, ln_217, tn_218, ln_218, tn_219, ln_219, tn_220, ln_220, tn_221, ln_221, tn_222, ln_222, tn_223, ln_223, tn_224, ln_224, tn_225, ln_225, tn_226, ln_226, tn_227, ln_227, tn_228, ln_228, tn_229, ln_229, tn_230, ln_230, lx2, lx3, lx4, lx5, lx6, lx7, lx8, lx9, lx10, lx14, lx15, lx16, lx18, lx20, lx24, lx25, lx27, lx32, lx36, lx40, lx41, lx42, lx43, lx45, lx48, lx52, lx54, lx56, lx57, lx58, lx60, lx61, lx62, lx63, lx64, lx66, lx69, lx73, lx80, lx81, lx84, lx85, lx87, lx94, lx96, lx97, lx120, lx128, lx135, lx160, lx162, lx163, lx165, lx200, lx232, lx242, lx243, lx255, lx256, lx320, lx325, lx400, lx405, lx464, lx512, lx600, lx640, lx752, lx900, lx940, lx1000, lx1024, lx1764, lx3360, lx3840, lx5000, lx6400, lx9050, lx9998, lx9999, lx10000, lx25600, lx76800, lx99999]
  refine byteOr_E 1 rfl hT (by omega) ?_
  simp (disch := omega) only [k_X11_add_0, f_X11_settled, f_X9_byteOr, w_RI, w_RII, w_RIIIII, w_RR, x_aload, x_iload, x_iret, x_istore, x_push, y_cv1, y_cv2, y_cv5, y_getF, y_getI, y_putI, xFT, xbool0, xbool1, Nat.reduceAdd, Nat.zero_add, xgl_0, xgl_s, xgl_n, xst_0, xst_1n, xst_1i, xst_1r, xst_1l, xst_s, set_0, set_s, true_and, and_true, xres, xcat_nil, xcat_i, xcat_r, xcat_l, Nat.add_zero, xble0, xble1, xble2, xble3, xble4, xble5, xble6, xble7, xble8, pk_mul, nI_add, nI_1, nI_leI, nI_ltI, nI_eq, n_in, n_cl, z_eq, z_lt, z_le, z_gt, z_ge, z_qe, o_eq, o_lt, o_le, o_gt, o_ge, vp0, vp1, cl0, cl1, n_sub, n_sub1, n_pm1, n_a0, n_0a, ofn, lN0, Nat.reduceLT, Nat.reduceLeDiff, Nat.reduceMul, Nat.reduceSub, Nat.reduceEqDiff, ne_eq, true_implies, false_implies, not_true_eq_false, not_false_eq_true, and_self, and_true, true_and, and_false, false_and, implies_true, if_true, if_false, i00, i10, i01, i11, ob_0, ob_1, tn_2, ln_2, ob_3, tn_4, ln_4, ob_5, tn_6, ln_6, tn_7, ln_7, ob_8, tn_9, ln_9, tn_10, ln_10, tn_11, ln_11, tn_12, ln_12, tn_13, ln_13, tn_14, ln_14, tn_15, ln_15, tn_16, ln_16, tn_17, ln_17, ob_18, tn_19, ln_19, tn_20, ln_20, tn_21, ln_21, tn_22, ln_22, tn_23, ln_23, tn_24, ln_24, tn_25, ln_25, tn_26, ln_26, tn_27, ln_27, ob_28, tn_29, ln_29, tn_30, ln_30, ob_31, tn_32, ln_32, tn_33, ln_33, ob_34, ob_35, tn_36, ln_36, tn_37, ln_37, tn_38, ln_38, ob_39, tn_40, ln_40, tn_41, ln_41, tn_42, ln_42, tn_43, ln_43, tn_44, ln_44, tn_45, ln_45, tn_46, ln_46, tn_47, ln_47, tn_48, ln_48, tn_49, ln_49, tn_50, ln_50, tn_51, ln_51, ob_52, tn_53, ln_53, tn_54, ln_54, tn_55, ln_55, tn_56, ln_56, ob_57, tn_58, ln_58, tn_59, ln_59, tn_60, ln_60, tn_61, ln_61, tn_62, ln_62, tn_63, ln_63, tn_64, ln_64, tn_65, ln_65, ob_66, tn_67, ln_67, tn_68, ln_68, tn_69, ln_69, tn_70, ln_70, tn_71, ln_71, tn_72, ln_72, tn_73, ln_73, ob_74, tn_75, ln_75, tn_76, ln_76, tn_77, ln_77, tn_78, ln_78, tn_79, ln_79, tn_80, ln_80, tn_81, ln_81, tn_82, ln_82, tn_83, ln_83, ob_84, tn_85, ln_85, tn_86, ln_86, tn_87, ln_87, tn_88, ln_88, tn_89, ln_89, tn_90, ln_90, tn_91, ln_91, tn_92, ln_92, tn_93, ln_93, ob_94, tn_95, ln_95, tn_96, ln_96, tn_97, ln_97, tn_98, ln_98, tn_99, ln_99, tn_100, ln_100, tn_101, ln_101, tn_102, ln_102, tn_103, ln_103, ob_104, tn_105, ln_105, tn_106, ln_106, tn_107, ln_107, tn_108, ln_108, tn_109, ln_109, tn_110, ln_110, tn_111, ln_111, tn_112, ln_112, tn_113, ln_113, ob_114, tn_115, ln_115, tn_116, ln_116, tn_117, ln_117, tn_118, ln_118, tn_119, ln_119, tn_120, ln_120, tn_121, ln_121, tn_122, ln_122, tn_123, ln_123, ob_124, tn_125, ln_125, tn_126, ln_126, tn_127, ln_127, tn_128, ln_128, tn_129, ln_129, tn_130, ln_130, tn_131, ln_131, tn_132, ln_132, tn_133, ln_133, ob_134, tn_135, ln_135, tn_136, ln_136, tn_137, ln_137, tn_138, ln_138, tn_139, ln_139, tn_140, ln_140, tn_141, ln_141, tn_142, ln_142, tn_143, ln_143, ob_144, tn_145, ln_145, tn_146, ln_146, tn_147, ln_147, tn_148, ln_148, tn_149, ln_149, tn_150, ln_150, tn_151, ln_151, tn_152, ln_152, tn_153, ln_153, ob_154, tn_155, ln_155, tn_156, ln_156, tn_157, ln_157, tn_158, ln_158, tn_159, ln_159, tn_160, ln_160, tn_161, ln_161, tn_162, ln_162, tn_163, ln_163, ob_164, tn_165, ln_165, tn_166, ln_166, ob_167, tn_168, ln_168, tn_169, ln_169, tn_170, ln_170, tn_171, ln_171, tn_172, ln_172, tn_173, ln_173, tn_174, ln_174, tn_175, ln_175, tn_176, ln_176, ob_177, tn_178, ln_178, tn_179, ln_179, ob_180, tn_181, ln_181, tn_182, ln_182, tn_183, ln_183, tn_184, ln_184, tn_185, ln_185, tn_186, ln_186, tn_187, ln_187, tn_188, ln_188, tn_189, ln_189, tn_190, ln_190, tn_191, ln_191, tn_192, ln_192, tn_193, ln_193, tn_194, ln_194, tn_195, ln_195, tn_196, ln_196, tn_197, ln_197, tn_198, ln_198, tn_199, ln_199, tn_200, ln_200, tn_201, ln_201, tn_202, ln_202, tn_203, ln_203, tn_204, ln_204, tn_205, ln_205, tn_206, ln_206, tn_207, ln_207, tn_208, ln_208, tn_209, ln_209, tn_210, ln_210, tn_211, ln_211, tn_212, ln_212, tn_213, ln_213, tn_214, ln_214, tn_215, ln_215, tn_216, ln_216, tn_217, ln_217, tn_218, ln_218, tn_219, ln_219, tn_220, ln_220, tn_221, ln_221, tn_222, ln_222, tn_223, ln_223, tn_224, ln_224, tn_225, ln_225, tn_226, ln_226, tn_227, ln_227, tn_228, ln_228, tn_229, ln_229, tn_230, ln_230, lx2, lx3, lx4, lx5, lx6, lx7, lx8, lx9, lx10, lx14, lx15, lx16, lx18, lx20, lx24, lx25, lx27, lx32, lx36, lx40, lx41, lx42, lx43, lx45, lx48, lx52, lx54, lx56, lx57, lx58, lx60, lx61, lx62, lx63, lx64, lx66, lx69, lx73, lx80, lx81, lx84, lx85, lx87, lx94, lx96, lx97, lx120, lx128, lx135, lx160, lx162, lx163, lx165, lx200, lx232, lx242, lx243, lx255, lx256, lx320, lx325, lx400, lx405, lx464, lx512, lx600, lx640, lx752, lx900, lx940, lx1000, lx1024, lx1764, lx3360, lx3840, lx5000, lx6400, lx9050, lx9998, lx9999, lx10000, lx25600, lx76800, lx99999]
  refine byteOr_E 2 rfl hT (by omega) ?_
  simp (disch := omega) only [k_X11_add_0, f_X11_settled, f_X9_byteOr, w_RI, w_RII, w_RIIIII, w_RR, x_aload, x_iload, x_iret, x_istore, x_push, y_cv1, y_cv2, y_cv5, y_getF, y_getI, y_putI, xFT, xbool0, xbool1, Nat.reduceAdd, Nat.zero_add, xgl_0, xgl_s, xgl_n, xst_0, xst_1n, xst_1i, xst_1r, xst_1l, xst_s, set_0, set_s, true_and, and_true, xres, xcat_nil, xcat_i, xcat_r, xcat_l, Nat.add_zero, xble0, xble1, xble2, xble3, xble4, xble5, xble6, xble7, xble8, pk_mul, nI_add, nI_1, nI_leI, nI_ltI, nI_eq, n_in, n_cl, z_eq, z_lt, z_le, z_gt, z_ge, z_qe, o_eq, o_lt, o_le, o_gt, o_ge, vp0, vp1, cl0, cl1, n_sub, n_sub1, n_pm1, n_a0, n_0a, ofn, lN0, Nat.reduceLT, Nat.reduceLeDiff, Nat.reduceMul, Nat.reduceSub, Nat.reduceEqDiff, ne_eq, true_implies, false_implies, not_true_eq_false, not_false_eq_true, and_self, and_true, true_and, and_false, false_and, implies_true, if_true, if_false, i00, i10, i01, i11, ob_0, ob_1, tn_2, ln_2, ob_3, tn_4, ln_4, ob_5, tn_6, ln_6, tn_7, ln_7, ob_8, tn_9, ln_9, tn_10, ln_10, tn_11, ln_11, tn_12, ln_12, tn_13, ln_13, tn_14, ln_14, tn_15, ln_15, tn_16, ln_16, tn_17, ln_17, ob_18, tn_19, ln_19, tn_20, ln_20, tn_21, ln_21, tn_22, ln_22, tn_23, ln_23, tn_24, ln_24, tn_25, ln_25, tn_26, ln_26, tn_27, ln_27, ob_28, tn_29, ln_29, tn_30, ln_30, ob_31, tn_32, ln_32, tn_33, ln_33, ob_34, ob_35, tn_36, ln_36, tn_37, ln_37, tn_38, ln_38, ob_39, tn_40, ln_40, tn_41, ln_41, tn_42, ln_42, tn_43, ln_43, tn_44, ln_44, tn_45, ln_45, tn_46, ln_46, tn_47, ln_47, tn_48, ln_48, tn_49, ln_49, tn_50, ln_50, tn_51, ln_51, ob_52, tn_53, ln_53, tn_54, ln_54, tn_55, ln_55, tn_56, ln_56, ob_57, tn_58, ln_58, tn_59, ln_59, tn_60, ln_60, tn_61, ln_61, tn_62, ln_62, tn_63, ln_63, tn_64, ln_64, tn_65, ln_65, ob_66, tn_67, ln_67, tn_68, ln_68, tn_69, ln_69, tn_70, ln_70, tn_71, ln_71, tn_72, ln_72, tn_73, ln_73, ob_74, tn_75, ln_75, tn_76, ln_76, tn_77, ln_77, tn_78, ln_78, tn_79, ln_79, tn_80, ln_80, tn_81, ln_81, tn_82, ln_82, tn_83, ln_83, ob_84, tn_85, ln_85, tn_86, ln_86, tn_87, ln_87, tn_88, ln_88, tn_89, ln_89, tn_90, ln_90, tn_91, ln_91, tn_92, ln_92, tn_93, ln_93, ob_94, tn_95, ln_95, tn_96, ln_96, tn_97, ln_97, tn_98, ln_98, tn_99, ln_99, tn_100, ln_100, tn_101, ln_101, tn_102, ln_102, tn_103, ln_103, ob_104, tn_105, ln_105, tn_106, ln_106, tn_107, ln_107, tn_108, ln_108, tn_109, ln_109, tn_110, ln_110, tn_111, ln_111, tn_112, ln_112, tn_113, ln_113, ob_114, tn_115, ln_115, tn_116, ln_116, tn_117, ln_117, tn_118, ln_118, tn_119, ln_119, tn_120, ln_120, tn_121, ln_121, tn_122, ln_122, tn_123, ln_123, ob_124, tn_125, ln_125, tn_126, ln_126, tn_127, ln_127, tn_128, ln_128, tn_129, ln_129, tn_130, ln_130, tn_131, ln_131, tn_132, ln_132, tn_133, ln_133, ob_134, tn_135, ln_135, tn_136, ln_136, tn_137, ln_137, tn_138, ln_138, tn_139, ln_139, tn_140, ln_140, tn_141, ln_141, tn_142, ln_142, tn_143, ln_143, ob_144, tn_145, ln_145, tn_146, ln_146, tn_147, ln_147, tn_148, ln_148, tn_149, ln_149, tn_150, ln_150, tn_151, ln_151, tn_152, ln_152, tn_153, ln_153, ob_154, tn_155, ln_155, tn_156, ln_156, tn_157, ln_157, tn_158, ln_158, tn_159, ln_159, tn_160, ln_160, tn_161, ln_161, tn_162, ln_162, tn_163, ln_163, ob_164, tn_165, ln_165, tn_166, ln_166, ob_167, tn_168, ln_168, tn_169, ln_169, tn_170, ln_170, tn_171, ln_171, tn_172, ln_172, tn_173, ln_173, tn_174, ln_174, tn_175, ln_175, tn_176, ln_176, ob_177, tn_178, ln_178, tn_179, ln_179, ob_180, tn_181, ln_181, tn_182, ln_182, tn_183, ln_183, tn_184, ln_184, tn_185, ln_185, tn_186, ln_186, tn_187, ln_187, tn_188, ln_188, tn_189, ln_189, tn_190, ln_190, tn_191, ln_191, tn_192, ln_192, tn_193, ln_193, tn_194, ln_194, tn_195, ln_195, tn_196, ln_196, tn_197, ln_197, tn_198, ln_198, tn_199, ln_199, tn_200, ln_200, tn_201, ln_201, tn_202, ln_202, tn_203, ln_203, tn_204, ln_204, tn_205, ln_205, tn_206, ln_206, tn_207, ln_207, tn_208, ln_208, tn_209, ln_209, tn_210, ln_210, tn_211, ln_211, tn_212, ln_212, tn_213, ln_213, tn_214, ln_214, tn_215, ln_215, tn_216, ln_216, tn_217, ln_217, tn_218, ln_218, tn_219, ln_219, tn_220, ln_220, tn_221, ln_221, tn_222, ln_222, tn_223, ln_223, tn_224, ln_224, tn_225, ln_225, tn_226, ln_226, tn_227, ln_227, tn_228, ln_228, tn_229, ln_229, tn_230, ln_230, lx2, lx3, lx4, lx5, lx6, lx7, lx8, lx9, lx10, lx14, lx15, lx16, lx18, lx20, lx24, lx25, lx27, lx32, lx36, lx40, lx41, lx42, lx43, lx45, lx48, lx52, lx54, lx56, lx57, lx58, lx60, lx61, lx62, lx63, lx64, lx66, lx69, lx73, lx80, lx81, lx84, lx85, lx87, lx94, lx96, lx97, lx120, lx128, lx135, lx160, lx162, lx163, lx165, lx200, lx232, lx242, lx243, lx255, lx256, lx320, lx325, lx400, lx405, lx464, lx512, lx600, lx640, lx752, lx900, lx940, lx1000, lx1024, lx1764, lx3360, lx3840, lx5000, lx6400, lx9050, lx9998, lx9999, lx10000, lx25600, lx76800, lx99999]
  have hM1 := isM_fr hM fA (by omega)
  have hu1 := uC_fr hu fA (by unfold SPs; omega)
  refine ⟨v, hM1, xMod_18, by omega, fun B hB hX => ?_⟩
  have f1 : fr (fun c _ => 18 ≤ c ∧ c ≤ 27) (xsi A 1 1 0) B := fr_xoff hX (by omega)
  have hMB := isM_fr hM1 f1 (by omega)
  simp (disch := omega) only [k_X11_add_0, f_X11_settled, f_X9_byteOr, w_RI, w_RII, w_RIIIII, w_RR, x_aload, x_iload, x_iret, x_istore, x_push, y_cv1, y_cv2, y_cv5, y_getF, y_getI, y_putI, xFT, xbool0, xbool1, Nat.reduceAdd, Nat.zero_add, xgl_0, xgl_s, xgl_n, xst_0, xst_1n, xst_1i, xst_1r, xst_1l, xst_s, set_0, set_s, true_and, and_true, xres, xcat_nil, xcat_i, xcat_r, xcat_l, Nat.add_zero, xble0, xble1, xble2, xble3, xble4, xble5, xble6, xble7, xble8, pk_mul, nI_add, nI_1, nI_leI, nI_ltI, nI_eq, n_in, n_cl, z_eq, z_lt, z_le, z_gt, z_ge, z_qe, o_eq, o_lt, o_le, o_gt, o_ge, vp0, vp1, cl0, cl1, n_sub, n_sub1, n_pm1, n_a0, n_0a, ofn, lN0, Nat.reduceLT, Nat.reduceLeDiff, Nat.reduceMul, Nat.reduceSub, Nat.reduceEqDiff, ne_eq, true_implies, false_implies, not_true_eq_false, not_false_eq_true, and_self, and_true, true_and, and_false, false_and, implies_true, if_true, if_false, i00, i10, i01, i11, ob_0, ob_1, tn_2, ln_2, ob_3, tn_4, ln_4, ob_5, tn_6, ln_6, tn_7, ln_7, ob_8, tn_9, ln_9, tn_10, ln_10, tn_11, ln_11, tn_12, ln_12, tn_13, ln_13, tn_14, ln_14, tn_15, ln_15, tn_16, ln_16, tn_17, ln_17, ob_18, tn_19, ln_19, tn_20, ln_20, tn_21, ln_21, tn_22, ln_22, tn_23, ln_23, tn_24, ln_24, tn_25, ln_25, tn_26, ln_26, tn_27, ln_27, ob_28, tn_29, ln_29, tn_30, ln_30, ob_31, tn_32, ln_32, tn_33, ln_33, ob_34, ob_35, tn_36, ln_36, tn_37, ln_37, tn_38, ln_38, ob_39, tn_40, ln_40, tn_41, ln_41, tn_42, ln_42, tn_43, ln_43, tn_44, ln_44, tn_45, ln_45, tn_46, ln_46, tn_47, ln_47, tn_48, ln_48, tn_49, ln_49, tn_50, ln_50, tn_51, ln_51, ob_52, tn_53, ln_53, tn_54, ln_54, tn_55, ln_55, tn_56, ln_56, ob_57, tn_58, ln_58, tn_59, ln_59, tn_60, ln_60, tn_61, ln_61, tn_62, ln_62, tn_63, ln_63, tn_64, ln_64, tn_65, ln_65, ob_66, tn_67, ln_67, tn_68, ln_68, tn_69, ln_69, tn_70, ln_70, tn_71, ln_71, tn_72, ln_72, tn_73, ln_73, ob_74, tn_75, ln_75, tn_76, ln_76, tn_77, ln_77, tn_78, ln_78, tn_79, ln_79, tn_80, ln_80, tn_81, ln_81, tn_82, ln_82, tn_83, ln_83, ob_84, tn_85, ln_85, tn_86, ln_86, tn_87, ln_87, tn_88, ln_88, tn_89, ln_89, tn_90, ln_90, tn_91, ln_91, tn_92, ln_92, tn_93, ln_93, ob_94, tn_95, ln_95, tn_96, ln_96, tn_97, ln_97, tn_98, ln_98, tn_99, ln_99, tn_100, ln_100, tn_101, ln_101, tn_102, ln_102, tn_103, ln_103, ob_104, tn_105, ln_105, tn_106, ln_106, tn_107, ln_107, tn_108, ln_108, tn_109, ln_109, tn_110, ln_110, tn_111, ln_111, tn_112, ln_112, tn_113, ln_113, ob_114, tn_115, ln_115, tn_116, ln_116, tn_117, ln_117, tn_118, ln_118, tn_119, ln_119, tn_120, ln_120, tn_121, ln_121, tn_122, ln_122, tn_123, ln_123, ob_124, tn_125, ln_125, tn_126, ln_126, tn_127, ln_127, tn_128, ln_128, tn_129, ln_129, tn_130, ln_130, tn_131, ln_131, tn_132, ln_132, tn_133, ln_133, ob_134, tn_135, ln_135, tn_136, ln_136, tn_137, ln_137, tn_138, ln_138, tn_139, ln_139, tn_140, ln_140, tn_141, ln_141, tn_142, ln_142, tn_143, ln_143, ob_144, tn_145, ln_145, tn_146, ln_146, tn_147, ln_147, tn_148, ln_148, tn_149, ln_149, tn_150, ln_150, tn_151, ln_151, tn_152, ln_152, tn_153, ln_153, ob_154, tn_155, ln_155, tn_156, ln_156, tn_157, ln_157, tn_158, ln_158, tn_159, ln_159, tn_160, ln_160, tn_161, ln_161, tn_162, ln_162, tn_163, ln_163, ob_164, tn_165, ln_165, tn_166, ln_166, ob_167, tn_168, ln_168, tn_169, ln_169, tn_170, ln_170, tn_171, ln_171, tn_172, ln_172, tn_173, ln_173, tn_174, ln_174, tn_175, ln_175, tn_176, ln_176, ob_177, tn_178, ln_178, tn_179, ln_179, ob_180, tn_181, ln_181, tn_182, ln_182, tn_183, ln_183, tn_184, ln_184, tn_185, ln_185, tn_186, ln_186, tn_187, ln_187, tn_188, ln_188, tn_189, ln_189, tn_190, ln_190, tn_191, ln_191, tn_192, ln_192, tn_193, ln_193, tn_194, ln_194, tn_195, ln_195, tn_196, ln_196, tn_197, ln_197, tn_198, ln_198, tn_199, ln_199, tn_200, ln_200, tn_201, ln_201, tn_202, ln_202, tn_203, ln_203, tn_204, ln_204, tn_205, ln_205, tn_206, ln_206, tn_207, ln_207, tn_208, ln_208, tn_209, ln_209, tn_210, ln_210, tn_211, ln_211, tn_212, ln_212, tn_213, ln_213, tn_214, ln_214, tn_215, ln_215, tn_216, ln_216, tn_217, ln_217, tn_218, ln_218, tn_219, ln_219, tn_220, ln_220, tn_221, ln_221, tn_222, ln_222, tn_223, ln_223, tn_224, ln_224, tn_225, ln_225, tn_226, ln_226, tn_227, ln_227, tn_228, ln_228, tn_229, ln_229, tn_230, ln_230, lx2, lx3, lx4, lx5, lx6, lx7, lx8, lx9, lx10, lx14, lx15, lx16, lx18, lx20, lx24, lx25, lx27, lx32, lx36, lx40, lx41, lx42, lx43, lx45, lx48, lx52, lx54, lx56, lx57, lx58, lx60, lx61, lx62, lx63, lx64, lx66, lx69, lx73, lx80, lx81, lx84, lx85, lx87, lx94, lx96, lx97, lx120, lx128, lx135, lx160, lx162, lx163, lx165, lx200, lx232, lx242, lx243, lx255, lx256, lx320, lx325, lx400, lx405, lx464, lx512, lx600, lx640, lx752, lx900, lx940, lx1000, lx1024, lx1764, lx3360, lx3840, lx5000, lx6400, lx9050, lx9998, lx9999, lx10000, lx25600, lx76800, lx99999]
  have same : ∀ r : Int32, r ≠ 0 → adV v x f n = (v, r) → f_X11_settled 0 r B P := fun r hr e => by
    rw [e] at hP
    exact deed_CC (fr_mono f1 (by omega)) hMB hB sameN_rf hu1 (fun _ => ⟨rfl, f1⟩) hP
  refine ⟨v, hMB, fun a => ?_, fun a => ?_⟩
  · obtain ⟨⟨k, hk, rfl⟩, hg⟩ := ok.mp a
    have e0 : adV v (nI k) f n = if vR v = 10 then (v, 1) else (vadd v k n (fsN f n 0) (fsN f n 1) (fsN f n 2), 0) := by
      unfold adV
      rw [num_in hk (by omega)]
      simp only [hg, if_true]
    refine ⟨fun r10 => ?_, fun r10 C hC hY => ?_⟩
    · simp (disch := omega) only [k_X11_add_0, f_X11_settled, f_X9_byteOr, w_RI, w_RII, w_RIIIII, w_RR, x_aload, x_iload, x_iret, x_istore, x_push, y_cv1, y_cv2, y_cv5, y_getF, y_getI, y_putI, xFT, xbool0, xbool1, Nat.reduceAdd, Nat.zero_add, xgl_0, xgl_s, xgl_n, xst_0, xst_1n, xst_1i, xst_1r, xst_1l, xst_s, set_0, set_s, true_and, and_true, xres, xcat_nil, xcat_i, xcat_r, xcat_l, Nat.add_zero, xble0, xble1, xble2, xble3, xble4, xble5, xble6, xble7, xble8, pk_mul, nI_add, nI_1, nI_leI, nI_ltI, nI_eq, n_in, n_cl, z_eq, z_lt, z_le, z_gt, z_ge, z_qe, o_eq, o_lt, o_le, o_gt, o_ge, vp0, vp1, cl0, cl1, n_sub, n_sub1, n_pm1, n_a0, n_0a, ofn, lN0, Nat.reduceLT, Nat.reduceLeDiff, Nat.reduceMul, Nat.reduceSub, Nat.reduceEqDiff, ne_eq, true_implies, false_implies, not_true_eq_false, not_false_eq_true, and_self, and_true, true_and, and_false, false_and, implies_true, if_true, if_false, i00, i10, i01, i11, ob_0, ob_1, tn_2, ln_2, ob_3, tn_4, ln_4, ob_5, tn_6, ln_6, tn_7, ln_7, ob_8, tn_9, ln_9, tn_10, ln_10, tn_11, ln_11, tn_12, ln_12, tn_13, ln_13, tn_14, ln_14, tn_15, ln_15, tn_16, ln_16, tn_17, ln_17, ob_18, tn_19, ln_19, tn_20, ln_20, tn_21, ln_21, tn_22, ln_22, tn_23, ln_23, tn_24, ln_24, tn_25, ln_25, tn_26, ln_26, tn_27, ln_27, ob_28, tn_29, ln_29, tn_30, ln_30, ob_31, tn_32, ln_32, tn_33, ln_33, ob_34, ob_35, tn_36, ln_36, tn_37, ln_37, tn_38, ln_38, ob_39, tn_40, ln_40, tn_41, ln_41, tn_42, ln_42, tn_43, ln_43, tn_44, ln_44, tn_45, ln_45, tn_46, ln_46, tn_47, ln_47, tn_48, ln_48, tn_49, ln_49, tn_50, ln_50, tn_51, ln_51, ob_52, tn_53, ln_53, tn_54, ln_54, tn_55, ln_55, tn_56, ln_56, ob_57, tn_58, ln_58, tn_59, ln_59, tn_60, ln_60, tn_61, ln_61, tn_62, ln_62, tn_63, ln_63, tn_64, ln_64, tn_65, ln_65, ob_66, tn_67, ln_67, tn_68, ln_68, tn_69, ln_69, tn_70, ln_70, tn_71, ln_71, tn_72, ln_72, tn_73, ln_73, ob_74, tn_75, ln_75, tn_76, ln_76, tn_77, ln_77, tn_78, ln_78, tn_79, ln_79, tn_80, ln_80, tn_81, ln_81, tn_82, ln_82, tn_83, ln_83, ob_84, tn_85, ln_85, tn_86, ln_86, tn_87, ln_87, tn_88, ln_88, tn_89, ln_89, tn_90, ln_90, tn_91, ln_91, tn_92, ln_92, tn_93, ln_93, ob_94, tn_95, ln_95, tn_96, ln_96, tn_97, ln_97, tn_98, ln_98, tn_99, ln_99, tn_100, ln_100, tn_101, ln_101, tn_102, ln_102, tn_103, ln_103, ob_104, tn_105, ln_105, tn_106, ln_106, tn_107, ln_107, tn_108, ln_108, tn_109, ln_109, tn_110, ln_110, tn_111, ln_111, tn_112, ln_112, tn_113, ln_113, ob_114, tn_115, ln_115, tn_116, ln_116, tn_117, ln_117, tn_118, ln_118, tn_119, ln_119, tn_120, ln_120, tn_121, ln_121, tn_122, ln_122, tn_123, ln_123, ob_124, tn_125, ln_125, tn_126, ln_126, tn_127, ln_127, tn_128, ln_128, tn_129, ln_129, tn_130, ln_130, tn_131, ln_131, tn_132, ln_132, tn_133, ln_133, ob_134, tn_135, ln_135, tn_136, ln_136, tn_137, ln_137, tn_138, ln_138, tn_139, ln_139, tn_140, ln_140, tn_141, ln_141, tn_142, ln_142, tn_143, ln_143, ob_144, tn_145, ln_145, tn_146, ln_146, tn_147, ln_147, tn_148, ln_148, tn_149, ln_149, tn_150, ln_150, tn_151, ln_151, tn_152, ln_152, tn_153, ln_153, ob_154, tn_155, ln_155, tn_156, ln_156, tn_157, ln_157, tn_158, ln_158, tn_159, ln_159, tn_160, ln_160, tn_161, ln_161, tn_162, ln_162, tn_163, ln_163, ob_164, tn_165, ln_165, tn_166, ln_166, ob_167, tn_168, ln_168, tn_169, ln_169, tn_170, ln_170, tn_171, ln_171, tn_172, ln_172, tn_173, ln_173, tn_174, ln_174, tn_175, ln_175, tn_176, ln_176, ob_177, tn_178, ln_178, tn_179, ln_179, ob_180, tn_181, ln_181, tn_182, ln_182, tn_183, ln_183, tn_184, ln_184, tn_185, ln_185, tn_186, ln_186, tn_187, ln_187, tn_188, ln_188, tn_189, ln_189, tn_190, ln_190, tn_191, ln_191, tn_192, ln_192, tn_193, ln_193, tn_194, ln_194, tn_195, ln_195, tn_196, ln_196, tn_197, ln_197, tn_198, ln_198, tn_199, ln_199, tn_200, ln_200, tn_201, ln_201, tn_202, ln_202, tn_203, ln_203, tn_204, ln_204, tn_205, ln_205, tn_206, ln_206, tn_207, ln_207, tn_208, ln_208, tn_209, ln_209, tn_210, ln_210, tn_211, ln_211, tn_212, ln_212, tn_213, ln_213, tn_214, ln_214, tn_215, ln_215, tn_216, ln_216, tn_217, ln_217, tn_218, ln_218, tn_219, ln_219, tn_220, ln_220, tn_221, ln_221, tn_222, ln_222, tn_223, ln_223, tn_224, ln_224, tn_225, ln_225, tn_226, ln_226, tn_227, ln_227, tn_228, ln_228, tn_229, ln_229, tn_230, ln_230, lx2, lx3, lx4, lx5, lx6, lx7, lx8, lx9, lx10, lx14, lx15, lx16, lx18, lx20, lx24, lx25, lx27, lx32, lx36, lx40, lx41, lx42, lx43, lx45, lx48, lx52, lx54, lx56, lx57, lx58, lx60, lx61, lx62, lx63, lx64, lx66, lx69, lx73, lx80, lx81, lx84, lx85, lx87, lx94, lx96, lx97, lx120, lx128, lx135, lx160, lx162, lx163, lx165, lx200, lx232, lx242, lx243, lx255, lx256, lx320, lx325, lx400, lx405, lx464, lx512, lx600, lx640, lx752, lx900, lx940, lx1000, lx1024, lx1764, lx3360, lx3840, lx5000, lx6400, lx9050, lx9998, lx9999, lx10000, lx25600, lx76800, lx99999]
      exact same 1 (by decide) (by rw [e0, if_pos r10])
    · rw [if_neg (by omega)] at e0
      rw [e0] at hP
      have f2 : fr (fun c _ => 8 ≤ c ∧ c ≤ 17) B C := fr_xoff hY (by omega)
      have hC : isM C 8 (vadd v k n (fsN f n 0) (fsN f n 1) (fsN f n 2)) := by
        have q0 : symN (fsI f n 0) = fsN f n 0 := (fs_sym w1 w2 (hf 0)).1
        have q1 : symN (fsI f n 1) = fsN f n 1 := (fs_sym w1 w2 (hf 1)).1
        have q2 : symN (fsI f n 2) = fsN f n 2 := (fs_sym w1 w2 (hf 2)).1
        rw [← q0, ← q1, ← q2]
        have := hC
        rw [symN_n (by omega), symN_n (by omega)] at this
        exact this
      simp (disch := omega) only [k_X11_add_0, f_X11_settled, f_X9_byteOr, w_RI, w_RII, w_RIIIII, w_RR, x_aload, x_iload, x_iret, x_istore, x_push, y_cv1, y_cv2, y_cv5, y_getF, y_getI, y_putI, xFT, xbool0, xbool1, Nat.reduceAdd, Nat.zero_add, xgl_0, xgl_s, xgl_n, xst_0, xst_1n, xst_1i, xst_1r, xst_1l, xst_s, set_0, set_s, true_and, and_true, xres, xcat_nil, xcat_i, xcat_r, xcat_l, Nat.add_zero, xble0, xble1, xble2, xble3, xble4, xble5, xble6, xble7, xble8, pk_mul, nI_add, nI_1, nI_leI, nI_ltI, nI_eq, n_in, n_cl, z_eq, z_lt, z_le, z_gt, z_ge, z_qe, o_eq, o_lt, o_le, o_gt, o_ge, vp0, vp1, cl0, cl1, n_sub, n_sub1, n_pm1, n_a0, n_0a, ofn, lN0, Nat.reduceLT, Nat.reduceLeDiff, Nat.reduceMul, Nat.reduceSub, Nat.reduceEqDiff, ne_eq, true_implies, false_implies, not_true_eq_false, not_false_eq_true, and_self, and_true, true_and, and_false, false_and, implies_true, if_true, if_false, i00, i10, i01, i11, ob_0, ob_1, tn_2, ln_2, ob_3, tn_4, ln_4, ob_5, tn_6, ln_6, tn_7, ln_7, ob_8, tn_9, ln_9, tn_10, ln_10, tn_11, ln_11, tn_12, ln_12, tn_13, ln_13, tn_14, ln_14, tn_15, ln_15, tn_16, ln_16, tn_17, ln_17, ob_18, tn_19, ln_19, tn_20, ln_20, tn_21, ln_21, tn_22, ln_22, tn_23, ln_23, tn_24, ln_24, tn_25, ln_25, tn_26, ln_26, tn_27, ln_27, ob_28, tn_29, ln_29, tn_30, ln_30, ob_31, tn_32, ln_32, tn_33, ln_33, ob_34, ob_35, tn_36, ln_36, tn_37, ln_37, tn_38, ln_38, ob_39, tn_40, ln_40, tn_41, ln_41, tn_42, ln_42, tn_43, ln_43, tn_44, ln_44, tn_45, ln_45, tn_46, ln_46, tn_47, ln_47, tn_48, ln_48, tn_49, ln_49, tn_50, ln_50, tn_51, ln_51, ob_52, tn_53, ln_53, tn_54, ln_54, tn_55, ln_55, tn_56, ln_56, ob_57, tn_58, ln_58, tn_59, ln_59, tn_60, ln_60, tn_61, ln_61, tn_62, ln_62, tn_63, ln_63, tn_64, ln_64, tn_65, ln_65, ob_66, tn_67, ln_67, tn_68, ln_68, tn_69, ln_69, tn_70, ln_70, tn_71, ln_71, tn_72, ln_72, tn_73, ln_73, ob_74, tn_75, ln_75, tn_76, ln_76, tn_77, ln_77, tn_78, ln_78, tn_79, ln_79, tn_80, ln_80, tn_81, ln_81, tn_82, ln_82, tn_83, ln_83, ob_84, tn_85, ln_85, tn_86, ln_86, tn_87, ln_87, tn_88, ln_88, tn_89, ln_89, tn_90, ln_90, tn_91, ln_91, tn_92, ln_92, tn_93, ln_93, ob_94, tn_95, ln_95, tn_96, ln_96, tn_97, ln_97, tn_98, ln_98, tn_99, ln_99, tn_100, ln_100, tn_101, ln_101, tn_102, ln_102, tn_103, ln_103, ob_104, tn_105, ln_105, tn_106, ln_106, tn_107, ln_107, tn_108, ln_108, tn_109, ln_109, tn_110, ln_110, tn_111, ln_111, tn_112, ln_112, tn_113, ln_113, ob_114, tn_115, ln_115, tn_116, ln_116, tn_117, ln_117, tn_118, ln_118, tn_119, ln_119, tn_120, ln_120, tn_121, ln_121, tn_122, ln_122, tn_123, ln_123, ob_124, tn_125, ln_125, tn_126, ln_126, tn_127, ln_127, tn_128, ln_128, tn_129, ln_129, tn_130, ln_130, tn_131, ln_131, tn_132, ln_132, tn_133, ln_133, ob_134, tn_135, ln_135, tn_136, ln_136, tn_137, ln_137, tn_138, ln_138, tn_139, ln_139, tn_140, ln_140, tn_141, ln_141, tn_142, ln_142, tn_143, ln_143, ob_144, tn_145, ln_145, tn_146, ln_146, tn_147, ln_147, tn_148, ln_148, tn_149, ln_149, tn_150, ln_150, tn_151, ln_151, tn_152, ln_152, tn_153, ln_153, ob_154, tn_155, ln_155, tn_156, ln_156, tn_157, ln_157, tn_158, ln_158, tn_159, ln_159, tn_160, ln_160, tn_161, ln_161, tn_162, ln_162, tn_163, ln_163, ob_164, tn_165, ln_165, tn_166, ln_166, ob_167, tn_168, ln_168, tn_169, ln_169, tn_170, ln_170, tn_171, ln_171, tn_172, ln_172, tn_173, ln_173, tn_174, ln_174, tn_175, ln_175, tn_176, ln_176, ob_177, tn_178, ln_178, tn_179, ln_179, ob_180, tn_181, ln_181, tn_182, ln_182, tn_183, ln_183, tn_184, ln_184, tn_185, ln_185, tn_186, ln_186, tn_187, ln_187, tn_188, ln_188, tn_189, ln_189, tn_190, ln_190, tn_191, ln_191, tn_192, ln_192, tn_193, ln_193, tn_194, ln_194, tn_195, ln_195, tn_196, ln_196, tn_197, ln_197, tn_198, ln_198, tn_199, ln_199, tn_200, ln_200, tn_201, ln_201, tn_202, ln_202, tn_203, ln_203, tn_204, ln_204, tn_205, ln_205, tn_206, ln_206, tn_207, ln_207, tn_208, ln_208, tn_209, ln_209, tn_210, ln_210, tn_211, ln_211, tn_212, ln_212, tn_213, ln_213, tn_214, ln_214, tn_215, ln_215, tn_216, ln_216, tn_217, ln_217, tn_218, ln_218, tn_219, ln_219, tn_220, ln_220, tn_221, ln_221, tn_222, ln_222, tn_223, ln_223, tn_224, ln_224, tn_225, ln_225, tn_226, ln_226, tn_227, ln_227, tn_228, ln_228, tn_229, ln_229, tn_230, ln_230, lx2, lx3, lx4, lx5, lx6, lx7, lx8, lx9, lx10, lx14, lx15, lx16, lx18, lx20, lx24, lx25, lx27, lx32, lx36, lx40, lx41, lx42, lx43, lx45, lx48, lx52, lx54, lx56, lx57, lx58, lx60, lx61, lx62, lx63, lx64, lx66, lx69, lx73, lx80, lx81, lx84, lx85, lx87, lx94, lx96, lx97, lx120, lx128, lx135, lx160, lx162, lx163, lx165, lx200, lx232, lx242, lx243, lx255, lx256, lx320, lx325, lx400, lx405, lx464, lx512, lx600, lx640, lx752, lx900, lx940, lx1000, lx1024, lx1764, lx3360, lx3840, lx5000, lx6400, lx9050, lx9998, lx9999, lx10000, lx25600, lx76800, lx99999]
      exact deed_CC (fr_tr (fr_mono f1 (by omega)) (fr_mono f2 (by omega))) hC (isM_fr hB f2 (by omega)) ⟨rfl, rfl, rfl, rfl⟩ hu1 (fun q => absurd rfl q) hP
  · simp (disch := omega) only [k_X11_add_0, f_X11_settled, f_X9_byteOr, w_RI, w_RII, w_RIIIII, w_RR, x_aload, x_iload, x_iret, x_istore, x_push, y_cv1, y_cv2, y_cv5, y_getF, y_getI, y_putI, xFT, xbool0, xbool1, Nat.reduceAdd, Nat.zero_add, xgl_0, xgl_s, xgl_n, xst_0, xst_1n, xst_1i, xst_1r, xst_1l, xst_s, set_0, set_s, true_and, and_true, xres, xcat_nil, xcat_i, xcat_r, xcat_l, Nat.add_zero, xble0, xble1, xble2, xble3, xble4, xble5, xble6, xble7, xble8, pk_mul, nI_add, nI_1, nI_leI, nI_ltI, nI_eq, n_in, n_cl, z_eq, z_lt, z_le, z_gt, z_ge, z_qe, o_eq, o_lt, o_le, o_gt, o_ge, vp0, vp1, cl0, cl1, n_sub, n_sub1, n_pm1, n_a0, n_0a, ofn, lN0, Nat.reduceLT, Nat.reduceLeDiff, Nat.reduceMul, Nat.reduceSub, Nat.reduceEqDiff, ne_eq, true_implies, false_implies, not_true_eq_false, not_false_eq_true, and_self, and_true, true_and, and_false, false_and, implies_true, if_true, if_false, i00, i10, i01, i11, ob_0, ob_1, tn_2, ln_2, ob_3, tn_4, ln_4, ob_5, tn_6, ln_6, tn_7, ln_7, ob_8, tn_9, ln_9, tn_10, ln_10, tn_11, ln_11, tn_12, ln_12, tn_13, ln_13, tn_14, ln_14, tn_15, ln_15, tn_16, ln_16, tn_17, ln_17, ob_18, tn_19, ln_19, tn_20, ln_20, tn_21, ln_21, tn_22, ln_22, tn_23, ln_23, tn_24, ln_24, tn_25, ln_25, tn_26, ln_26, tn_27, ln_27, ob_28, tn_29, ln_29, tn_30, ln_30, ob_31, tn_32, ln_32, tn_33, ln_33, ob_34, ob_35, tn_36, ln_36, tn_37, ln_37, tn_38, ln_38, ob_39, tn_40, ln_40, tn_41, ln_41, tn_42, ln_42, tn_43, ln_43, tn_44, ln_44, tn_45, ln_45, tn_46, ln_46, tn_47, ln_47, tn_48, ln_48, tn_49, ln_49, tn_50, ln_50, tn_51, ln_51, ob_52, tn_53, ln_53, tn_54, ln_54, tn_55, ln_55, tn_56, ln_56, ob_57, tn_58, ln_58, tn_59, ln_59, tn_60, ln_60, tn_61, ln_61, tn_62, ln_62, tn_63, ln_63, tn_64, ln_64, tn_65, ln_65, ob_66, tn_67, ln_67, tn_68, ln_68, tn_69, ln_69, tn_70, ln_70, tn_71, ln_71, tn_72, ln_72, tn_73, ln_73, ob_74, tn_75, ln_75, tn_76, ln_76, tn_77, ln_77, tn_78, ln_78, tn_79, ln_79, tn_80, ln_80, tn_81, ln_81, tn_82, ln_82, tn_83, ln_83, ob_84, tn_85, ln_85, tn_86, ln_86, tn_87, ln_87, tn_88, ln_88, tn_89, ln_89, tn_90, ln_90, tn_91, ln_91, tn_92, ln_92, tn_93, ln_93, ob_94, tn_95, ln_95, tn_96, ln_96, tn_97, ln_97, tn_98, ln_98, tn_99, ln_99, tn_100, ln_100, tn_101, ln_101, tn_102, ln_102, tn_103, ln_103, ob_104, tn_105, ln_105, tn_106, ln_106, tn_107, ln_107, tn_108, ln_108, tn_109, ln_109, tn_110, ln_110, tn_111, ln_111, tn_112, ln_112, tn_113, ln_113, ob_114, tn_115, ln_115, tn_116, ln_116, tn_117, ln_117, tn_118, ln_118, tn_119, ln_119, tn_120, ln_120, tn_121, ln_121, tn_122, ln_122, tn_123, ln_123, ob_124, tn_125, ln_125, tn_126, ln_126, tn_127, ln_127, tn_128, ln_128, tn_129, ln_129, tn_130, ln_130, tn_131, ln_131, tn_132, ln_132, tn_133, ln_133, ob_134, tn_135, ln_135, tn_136, ln_136, tn_137, ln_137, tn_138, ln_138, tn_139, ln_139, tn_140, ln_140, tn_141, ln_141, tn_142, ln_142, tn_143, ln_143, ob_144, tn_145, ln_145, tn_146, ln_146, tn_147, ln_147, tn_148, ln_148, tn_149, ln_149, tn_150, ln_150, tn_151, ln_151, tn_152, ln_152, tn_153, ln_153, ob_154, tn_155, ln_155, tn_156, ln_156, tn_157, ln_157, tn_158, ln_158, tn_159, ln_159, tn_160, ln_160, tn_161, ln_161, tn_162, ln_162, tn_163, ln_163, ob_164, tn_165, ln_165, tn_166, ln_166, ob_167, tn_168, ln_168, tn_169, ln_169, tn_170, ln_170, tn_171, ln_171, tn_172, ln_172, tn_173, ln_173, tn_174, ln_174, tn_175, ln_175, tn_176, ln_176, ob_177, tn_178, ln_178, tn_179, ln_179, ob_180, tn_181, ln_181, tn_182, ln_182, tn_183, ln_183, tn_184, ln_184, tn_185, ln_185, tn_186, ln_186, tn_187, ln_187, tn_188, ln_188, tn_189, ln_189, tn_190, ln_190, tn_191, ln_191, tn_192, ln_192, tn_193, ln_193, tn_194, ln_194, tn_195, ln_195, tn_196, ln_196, tn_197, ln_197, tn_198, ln_198, tn_199, ln_199, tn_200, ln_200, tn_201, ln_201, tn_202, ln_202, tn_203, ln_203, tn_204, ln_204, tn_205, ln_205, tn_206, ln_206, tn_207, ln_207, tn_208, ln_208, tn_209, ln_209, tn_210, ln_210, tn_211, ln_211, tn_212, ln_212, tn_213, ln_213, tn_214, ln_214, tn_215, ln_215, tn_216, ln_216, tn_217, ln_217, tn_218, ln_218, tn_219, ln_219, tn_220, ln_220, tn_221, ln_221, tn_222, ln_222, tn_223, ln_223, tn_224, ln_224, tn_225, ln_225, tn_226, ln_226, tn_227, ln_227, tn_228, ln_228, tn_229, ln_229, tn_230, ln_230, lx2, lx3, lx4, lx5, lx6, lx7, lx8, lx9, lx10, lx14, lx15, lx16, lx18, lx20, lx24, lx25, lx27, lx32, lx36, lx40, lx41, lx42, lx43, lx45, lx48, lx52, lx54, lx56, lx57, lx58, lx60, lx61, lx62, lx63, lx64, lx66, lx69, lx73, lx80, lx81, lx84, lx85, lx87, lx94, lx96, lx97, lx120, lx128, lx135, lx160, lx162, lx163, lx165, lx200, lx232, lx242, lx243, lx255, lx256, lx320, lx325, lx400, lx405, lx464, lx512, lx600, lx640, lx752, lx900, lx940, lx1000, lx1024, lx1764, lx3360, lx3840, lx5000, lx6400, lx9050, lx9998, lx9999, lx10000, lx25600, lx76800, lx99999]
    refine same (-1) (by decide) ?_
    unfold adV
    rcases num_case (vK v) x with ⟨k, hk, rfl⟩ | no
    · rw [num_in hk (by omega)]
      simp only
      rw [if_neg fun g => a (ok.mpr ⟨⟨k, hk, rfl⟩, g⟩)]
    · rw [num_no no]

