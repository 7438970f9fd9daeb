/-! ===== the reference's steps of an item ===== -/
theorem d_X12_stepsOf_0 : decode cX12_stepsOf 0 = .ok (.iload_n 2, 1) := by decide +kernel
theorem d_X12_stepsOf_1 : decode cX12_stepsOf 1 = .ok (.ifCond .ge 7, 3) := by decide +kernel
theorem d_X12_stepsOf_4 : decode cX12_stepsOf 4 = .ok (.iconst 0, 1) := by decide +kernel
theorem d_X12_stepsOf_5 : decode cX12_stepsOf 5 = .ok (.goto 12, 3) := by decide +kernel
theorem d_X12_stepsOf_8 : decode cX12_stepsOf 8 = .ok (.aload_n 0, 1) := by decide +kernel
theorem d_X12_stepsOf_9 : decode cX12_stepsOf 9 = .ok (.getfield 30, 3) := by decide +kernel
theorem d_X12_stepsOf_12 : decode cX12_stepsOf 12 = .ok (.bipush 54, 2) := by decide +kernel
theorem d_X12_stepsOf_14 : decode cX12_stepsOf 14 = .ok (.iload_n 2, 1) := by decide +kernel
theorem d_X12_stepsOf_15 : decode cX12_stepsOf 15 = .ok (.iadd, 1) := by decide +kernel
theorem d_X12_stepsOf_16 : decode cX12_stepsOf 16 = .ok (.iaload, 1) := by decide +kernel
theorem d_X12_stepsOf_17 : decode cX12_stepsOf 17 = .ok (.istore_n 3, 1) := by decide +kernel
theorem d_X12_stepsOf_18 : decode cX12_stepsOf 18 = .ok (.aload_n 0, 1) := by decide +kernel
theorem d_X12_stepsOf_19 : decode cX12_stepsOf 19 = .ok (.getfield 56, 3) := by decide +kernel
theorem d_X12_stepsOf_22 : decode cX12_stepsOf 22 = .ok (.iload_n 1, 1) := by decide +kernel
theorem d_X12_stepsOf_23 : decode cX12_stepsOf 23 = .ok (.iaload, 1) := by decide +kernel
theorem d_X12_stepsOf_24 : decode cX12_stepsOf 24 = .ok (.istore 4, 2) := by decide +kernel
theorem d_X12_stepsOf_26 : decode cX12_stepsOf 26 = .ok (.iload 4, 2) := by decide +kernel
theorem d_X12_stepsOf_28 : decode cX12_stepsOf 28 = .ok (.bipush 8, 2) := by decide +kernel
theorem d_X12_stepsOf_30 : decode cX12_stepsOf 30 = .ok (.if_icmp .lt 75, 3) := by decide +kernel
theorem d_X12_stepsOf_33 : decode cX12_stepsOf 33 = .ok (.iconst 0, 1) := by decide +kernel
theorem d_X12_stepsOf_34 : decode cX12_stepsOf 34 = .ok (.istore 5, 2) := by decide +kernel
theorem d_X12_stepsOf_36 : decode cX12_stepsOf 36 = .ok (.iload 5, 2) := by decide +kernel
theorem d_X12_stepsOf_38 : decode cX12_stepsOf 38 = .ok (.aload_n 0, 1) := by decide +kernel
theorem d_X12_stepsOf_39 : decode cX12_stepsOf 39 = .ok (.getfield 30, 3) := by decide +kernel
theorem d_X12_stepsOf_42 : decode cX12_stepsOf 42 = .ok (.iconst 2, 1) := by decide +kernel
theorem d_X12_stepsOf_43 : decode cX12_stepsOf 43 = .ok (.iaload, 1) := by decide +kernel
theorem d_X12_stepsOf_44 : decode cX12_stepsOf 44 = .ok (.if_icmp .ge 58, 3) := by decide +kernel
theorem d_X12_stepsOf_47 : decode cX12_stepsOf 47 = .ok (.aload_n 0, 1) := by decide +kernel
theorem d_X12_stepsOf_48 : decode cX12_stepsOf 48 = .ok (.iload 5, 2) := by decide +kernel
theorem d_X12_stepsOf_50 : decode cX12_stepsOf 50 = .ok (.invokevirtual 363, 3) := by decide +kernel
theorem d_X12_stepsOf_53 : decode cX12_stepsOf 53 = .ok (.iload 4, 2) := by decide +kernel
theorem d_X12_stepsOf_55 : decode cX12_stepsOf 55 = .ok (.bipush 8, 2) := by decide +kernel
theorem d_X12_stepsOf_57 : decode cX12_stepsOf 57 = .ok (.isub, 1) := by decide +kernel
theorem d_X12_stepsOf_58 : decode cX12_stepsOf 58 = .ok (.if_icmp .ne 38, 3) := by decide +kernel
theorem d_X12_stepsOf_61 : decode cX12_stepsOf 61 = .ok (.aload_n 0, 1) := by decide +kernel
theorem d_X12_stepsOf_62 : decode cX12_stepsOf 62 = .ok (.getfield 87, 3) := by decide +kernel
theorem d_X12_stepsOf_65 : decode cX12_stepsOf 65 = .ok (.bipush 80, 2) := by decide +kernel
theorem d_X12_stepsOf_67 : decode cX12_stepsOf 67 = .ok (.bipush 16, 2) := by decide +kernel
theorem d_X12_stepsOf_69 : decode cX12_stepsOf 69 = .ok (.iload 5, 2) := by decide +kernel
theorem d_X12_stepsOf_71 : decode cX12_stepsOf 71 = .ok (.iadd, 1) := by decide +kernel
theorem d_X12_stepsOf_72 : decode cX12_stepsOf 72 = .ok (.imul, 1) := by decide +kernel
theorem d_X12_stepsOf_73 : decode cX12_stepsOf 73 = .ok (.aload_n 0, 1) := by decide +kernel
theorem d_X12_stepsOf_74 : decode cX12_stepsOf 74 = .ok (.aload_n 0, 1) := by decide +kernel
theorem d_X12_stepsOf_75 : decode cX12_stepsOf 75 = .ok (.getfield 59, 3) := by decide +kernel
theorem d_X12_stepsOf_78 : decode cX12_stepsOf 78 = .ok (.iload 5, 2) := by decide +kernel
theorem d_X12_stepsOf_80 : decode cX12_stepsOf 80 = .ok (.iaload, 1) := by decide +kernel
theorem d_X12_stepsOf_81 : decode cX12_stepsOf 81 = .ok (.aload_n 0, 1) := by decide +kernel
theorem d_X12_stepsOf_82 : decode cX12_stepsOf 82 = .ok (.getfield 30, 3) := by decide +kernel
theorem d_X12_stepsOf_85 : decode cX12_stepsOf 85 = .ok (.bipush 54, 2) := by decide +kernel
theorem d_X12_stepsOf_87 : decode cX12_stepsOf 87 = .ok (.iload_n 1, 1) := by decide +kernel
theorem d_X12_stepsOf_88 : decode cX12_stepsOf 88 = .ok (.iadd, 1) := by decide +kernel
theorem d_X12_stepsOf_89 : decode cX12_stepsOf 89 = .ok (.iaload, 1) := by decide +kernel
theorem d_X12_stepsOf_90 : decode cX12_stepsOf 90 = .ok (.invokevirtual 412, 3) := by decide +kernel
theorem d_X12_stepsOf_93 : decode cX12_stepsOf 93 = .ok (.iadd, 1) := by decide +kernel
theorem d_X12_stepsOf_94 : decode cX12_stepsOf 94 = .ok (.iconst 1, 1) := by decide +kernel
theorem d_X12_stepsOf_95 : decode cX12_stepsOf 95 = .ok (.bastore, 1) := by decide +kernel
theorem d_X12_stepsOf_96 : decode cX12_stepsOf 96 = .ok (.iinc 5 1, 3) := by decide +kernel
theorem d_X12_stepsOf_99 : decode cX12_stepsOf 99 = .ok (.goto (-63), 3) := by decide +kernel
theorem d_X12_stepsOf_102 : decode cX12_stepsOf 102 = .ok (.goto 94, 3) := by decide +kernel
theorem d_X12_stepsOf_105 : decode cX12_stepsOf 105 = .ok (.iload 4, 2) := by decide +kernel
theorem d_X12_stepsOf_107 : decode cX12_stepsOf 107 = .ok (.ifCond .lt 26, 3) := by decide +kernel
theorem d_X12_stepsOf_110 : decode cX12_stepsOf 110 = .ok (.aload_n 0, 1) := by decide +kernel
theorem d_X12_stepsOf_111 : decode cX12_stepsOf 111 = .ok (.getfield 87, 3) := by decide +kernel
theorem d_X12_stepsOf_114 : decode cX12_stepsOf 114 = .ok (.bipush 80, 2) := by decide +kernel
theorem d_X12_stepsOf_116 : decode cX12_stepsOf 116 = .ok (.iload 4, 2) := by decide +kernel
theorem d_X12_stepsOf_118 : decode cX12_stepsOf 118 = .ok (.imul, 1) := by decide +kernel
theorem d_X12_stepsOf_119 : decode cX12_stepsOf 119 = .ok (.aload_n 0, 1) := by decide +kernel
theorem d_X12_stepsOf_120 : decode cX12_stepsOf 120 = .ok (.iload_n 1, 1) := by decide +kernel
theorem d_X12_stepsOf_121 : decode cX12_stepsOf 121 = .ok (.iconst 1, 1) := by decide +kernel
theorem d_X12_stepsOf_122 : decode cX12_stepsOf 122 = .ok (.iadd, 1) := by decide +kernel
theorem d_X12_stepsOf_123 : decode cX12_stepsOf 123 = .ok (.iload_n 3, 1) := by decide +kernel
theorem d_X12_stepsOf_124 : decode cX12_stepsOf 124 = .ok (.invokevirtual 412, 3) := by decide +kernel
theorem d_X12_stepsOf_127 : decode cX12_stepsOf 127 = .ok (.iadd, 1) := by decide +kernel
theorem d_X12_stepsOf_128 : decode cX12_stepsOf 128 = .ok (.iconst 1, 1) := by decide +kernel
theorem d_X12_stepsOf_129 : decode cX12_stepsOf 129 = .ok (.bastore, 1) := by decide +kernel
theorem d_X12_stepsOf_130 : decode cX12_stepsOf 130 = .ok (.goto 66, 3) := by decide +kernel
theorem d_X12_stepsOf_133 : decode cX12_stepsOf 133 = .ok (.iload_n 1, 1) := by decide +kernel
theorem d_X12_stepsOf_134 : decode cX12_stepsOf 134 = .ok (.iconst 1, 1) := by decide +kernel
theorem d_X12_stepsOf_135 : decode cX12_stepsOf 135 = .ok (.if_icmp .le 61, 3) := by decide +kernel
theorem d_X12_stepsOf_138 : decode cX12_stepsOf 138 = .ok (.iconst 0, 1) := by decide +kernel
theorem d_X12_stepsOf_139 : decode cX12_stepsOf 139 = .ok (.istore 5, 2) := by decide +kernel
theorem d_X12_stepsOf_141 : decode cX12_stepsOf 141 = .ok (.iload 5, 2) := by decide +kernel
theorem d_X12_stepsOf_143 : decode cX12_stepsOf 143 = .ok (.aload_n 0, 1) := by decide +kernel
theorem d_X12_stepsOf_144 : decode cX12_stepsOf 144 = .ok (.getfield 328, 3) := by decide +kernel
theorem d_X12_stepsOf_147 : decode cX12_stepsOf 147 = .ok (.if_icmp .ge 49, 3) := by decide +kernel
theorem d_X12_stepsOf_150 : decode cX12_stepsOf 150 = .ok (.aload_n 0, 1) := by decide +kernel
theorem d_X12_stepsOf_151 : decode cX12_stepsOf 151 = .ok (.iload_n 1, 1) := by decide +kernel
theorem d_X12_stepsOf_152 : decode cX12_stepsOf 152 = .ok (.iload 5, 2) := by decide +kernel
theorem d_X12_stepsOf_154 : decode cX12_stepsOf 154 = .ok (.invokevirtual 390, 3) := by decide +kernel
theorem d_X12_stepsOf_157 : decode cX12_stepsOf 157 = .ok (.ifCond .eq 33, 3) := by decide +kernel
theorem d_X12_stepsOf_160 : decode cX12_stepsOf 160 = .ok (.aload_n 0, 1) := by decide +kernel
theorem d_X12_stepsOf_161 : decode cX12_stepsOf 161 = .ok (.getfield 30, 3) := by decide +kernel
theorem d_X12_stepsOf_164 : decode cX12_stepsOf 164 = .ok (.iconst 3, 1) := by decide +kernel
theorem d_X12_stepsOf_165 : decode cX12_stepsOf 165 = .ok (.iaload, 1) := by decide +kernel
theorem d_X12_stepsOf_166 : decode cX12_stepsOf 166 = .ok (.ifCond .eq 9, 3) := by decide +kernel
theorem d_X12_stepsOf_169 : decode cX12_stepsOf 169 = .ok (.iload 5, 2) := by decide +kernel
theorem d_X12_stepsOf_171 : decode cX12_stepsOf 171 = .ok (.iload_n 2, 1) := by decide +kernel
theorem d_X12_stepsOf_172 : decode cX12_stepsOf 172 = .ok (.if_icmp .ne 18, 3) := by decide +kernel
theorem d_X12_stepsOf_175 : decode cX12_stepsOf 175 = .ok (.aload_n 0, 1) := by decide +kernel
theorem d_X12_stepsOf_176 : decode cX12_stepsOf 176 = .ok (.bipush 32, 2) := by decide +kernel
theorem d_X12_stepsOf_178 : decode cX12_stepsOf 178 = .ok (.aload_n 0, 1) := by decide +kernel
theorem d_X12_stepsOf_179 : decode cX12_stepsOf 179 = .ok (.getfield 50, 3) := by decide +kernel
theorem d_X12_stepsOf_182 : decode cX12_stepsOf 182 = .ok (.iload_n 1, 1) := by decide +kernel
theorem d_X12_stepsOf_183 : decode cX12_stepsOf 183 = .ok (.iaload, 1) := by decide +kernel
theorem d_X12_stepsOf_184 : decode cX12_stepsOf 184 = .ok (.iadd, 1) := by decide +kernel
theorem d_X12_stepsOf_185 : decode cX12_stepsOf 185 = .ok (.iload 5, 2) := by decide +kernel
theorem d_X12_stepsOf_187 : decode cX12_stepsOf 187 = .ok (.invokevirtual 415, 3) := by decide +kernel
theorem d_X12_stepsOf_190 : decode cX12_stepsOf 190 = .ok (.iinc 5 1, 3) := by decide +kernel
theorem d_X12_stepsOf_193 : decode cX12_stepsOf 193 = .ok (.goto (-52), 3) := by decide +kernel
theorem d_X12_stepsOf_196 : decode cX12_stepsOf 196 = .ok (.return_, 1) := by decide +kernel
def k_X12_stepsOf_196 (P : xP) : xK := x_vret P
set_option maxRecDepth 20000 in
theorem t_X12_stepsOf_196 {p : Program} {l : Launch} {e : Env} {s : State} {m : MethodId} {args : Array Value} {below : List Frame} {meth : Method} {c : Code} {g : xG} (X : xX p s m args c meth cX12_stepsOf RX12 6 g) (hr : meth.sig.returnType = none) {P : xP} : xAt p l e { frames := 3, cells := 0, slots := 0, locals := 67 } s m args below meth c g 6 xFT xN 0 0 (MQ below (xQc g xFT xN P) args s 0 0 (xFr g)) (k_X12_stepsOf_196 P) 196 := by
  unfold k_X12_stepsOf_196
  exact r_vret (pc := 196) X hr d_X12_stepsOf_196
def k_X12_stepsOf_17 (P : xP) (C36 : xK) (C141 : xK) : xK := x_istore 3 (x_aload 0 (y_getF 180 190 (x_iload 1 (y_iald 190 42 (x_istore 4 (x_iload 4 (x_push (.int 8) (x_icmp_lt (x_iload 4 (x_if_lt (x_iload 1 (x_push (.int 1) (x_icmp_le ((k_X12_stepsOf_196 P)) (x_push (.int 0) (x_istore 5 (C141)))))) (x_aload 0 (y_getF 180 200 (x_push (.int 80) (x_iload 4 (x_imul (x_aload 0 (x_iload 1 (x_push (.int 1) (x_iadd (x_iload 3 (y_cv2 180 (w_RII f_X12_atItem) (x_iadd (x_push (.int 1) (y_bast 200 4 3360 ((k_X12_stepsOf_196 P)))))))))))))))))) (x_push (.int 0) (x_istore 5 (C36)))))))))))
set_option maxRecDepth 20000 in
theorem t_X12_stepsOf_17 {p : Program} {l : Launch} {e : Env} {s : State} {m : MethodId} {args : Array Value} {below : List Frame} {meth : Method} {c : Code} {g : xG} (X : xX p s m args c meth cX12_stepsOf RX12 6 g) (hr : meth.sig.returnType = none) {P : xP} {C36 : xK} {C141 : xK} (h36 : xAt p l e { frames := 3, cells := 0, slots := 0, locals := 67 } s m args below meth c g 6 xFT xN 0 0 (MQ below (xQc g xFT xN P) args s 0 0 (xFr g)) C36 36) (h141 : xAt p l e { frames := 3, cells := 0, slots := 0, locals := 67 } s m args below meth c g 6 xFT xN 0 0 (MQ below (xQc g xFT xN P) args s 0 0 (xFr g)) C141 141) : xAt p l e { frames := 3, cells := 0, slots := 0, locals := 67 } s m args below meth c g 6 xFT xN 0 0 (MQ below (xQc g xFT xN P) args s 0 0 (xFr g)) (k_X12_stepsOf_17 P C36 C141) 17 := by
  unfold k_X12_stepsOf_17
  refine r_istore_n (pc := 17) X d_X12_stepsOf_17 fn3 (by decide +kernel) ?_
  refine r_aload_n (pc := 18) X d_X12_stepsOf_18 fn0 ?_
  refine s_getF (pc := 19) (ci := 12) (k := 22) X xok12 (by decide +kernel) ob_180 trivial ly_180_22 (by decide +kernel) fl_RX12_56 d_X12_stepsOf_19 ?_
  refine r_iload_n (pc := 22) X d_X12_stepsOf_22 fn1 ?_
  refine s_iald (pc := 23) X tn_190 ln_190 d_X12_stepsOf_23 ?_
  refine r_istore (pc := 24) X d_X12_stepsOf_24 (by decide +kernel) ?_
  refine r_iload (pc := 26) X d_X12_stepsOf_26 ?_
  refine r_bipush (pc := 28) X d_X12_stepsOf_28 (by decide +kernel) ?_
  refine r_icmp_lt (pc := 30) (tgt := 105) X d_X12_stepsOf_30 (by decide +kernel) ?_ ?_
  · refine r_iload (pc := 105) X d_X12_stepsOf_105 ?_
    refine r_if_lt (pc := 107) (tgt := 133) X d_X12_stepsOf_107 (by decide +kernel) ?_ ?_
    · refine r_iload_n (pc := 133) X d_X12_stepsOf_133 fn1 ?_
      refine r_iconst (pc := 134) X d_X12_stepsOf_134 (by decide +kernel) ?_
      refine r_icmp_le (pc := 135) (tgt := 196) X d_X12_stepsOf_135 (by decide +kernel) ?_ ?_
      · exact t_X12_stepsOf_196 X hr
      · refine r_iconst (pc := 138) X d_X12_stepsOf_138 (by decide +kernel) ?_
        refine r_istore (pc := 139) X d_X12_stepsOf_139 (by decide +kernel) ?_
        exact h141
    · refine r_aload_n (pc := 110) X d_X12_stepsOf_110 fn0 ?_
      refine s_getF (pc := 111) (ci := 12) (k := 39) X xok12 (by decide +kernel) ob_180 trivial ly_180_39 (by decide +kernel) fl_RX12_87 d_X12_stepsOf_111 ?_
      refine r_bipush (pc := 114) X d_X12_stepsOf_114 (by decide +kernel) ?_
      refine r_iload (pc := 116) X d_X12_stepsOf_116 ?_
      refine r_imul (pc := 118) X d_X12_stepsOf_118 ?_
      refine r_aload_n (pc := 119) X d_X12_stepsOf_119 fn0 ?_
      refine r_iload_n (pc := 120) X d_X12_stepsOf_120 fn1 ?_
      refine r_iconst (pc := 121) X d_X12_stepsOf_121 (by decide +kernel) ?_
      refine r_iadd (pc := 122) X d_X12_stepsOf_122 ?_
      refine r_iload_n (pc := 123) X d_X12_stepsOf_123 fn3 ?_
      refine s_cv2 (pc := 124) (ci := 12) X xok12 (by decide +kernel) ob_180 rfl (con_X12_atItem l) mf_X12_atItem ml_RX12_412 (by decide +kernel) (by decide +kernel) d_X12_stepsOf_124 ?_
      refine r_iadd (pc := 127) X d_X12_stepsOf_127 ?_
      refine r_iconst (pc := 128) X d_X12_stepsOf_128 (by decide +kernel) ?_
      refine s_zast (pc := 129) X tn_200 ln_200 d_X12_stepsOf_129 ?_
      refine r_goto (pc := 130) (tgt := 196) X d_X12_stepsOf_130 (by decide +kernel) ?_
      exact t_X12_stepsOf_196 X hr
  · refine r_iconst (pc := 33) X d_X12_stepsOf_33 (by decide +kernel) ?_
    refine r_istore (pc := 34) X d_X12_stepsOf_34 (by decide +kernel) ?_
    exact h36
def k_X12_stepsOf_0 (P : xP) (C36 : xK) (C141 : xK) : xK := x_iload 2 (x_if_ge (x_aload 0 (y_getF 180 182 (x_push (.int 54) (x_iload 2 (x_iadd (y_iald 182 232 ((k_X12_stepsOf_17 P C36 C141)))))))) (x_push (.int 0) ((k_X12_stepsOf_17 P C36 C141))))
set_option maxRecDepth 20000 in
theorem t_X12_stepsOf_0 {p : Program} {l : Launch} {e : Env} {s : State} {m : MethodId} {args : Array Value} {below : List Frame} {meth : Method} {c : Code} {g : xG} (X : xX p s m args c meth cX12_stepsOf RX12 6 g) (hr : meth.sig.returnType = none) {P : xP} {C36 : xK} {C141 : xK} (h36 : xAt p l e { frames := 3, cells := 0, slots := 0, locals := 67 } s m args below meth c g 6 xFT xN 0 0 (MQ below (xQc g xFT xN P) args s 0 0 (xFr g)) C36 36) (h141 : xAt p l e { frames := 3, cells := 0, slots := 0, locals := 67 } s m args below meth c g 6 xFT xN 0 0 (MQ below (xQc g xFT xN P) args s 0 0 (xFr g)) C141 141) : xAt p l e { frames := 3, cells := 0, slots := 0, locals := 67 } s m args below meth c g 6 xFT xN 0 0 (MQ below (xQc g xFT xN P) args s 0 0 (xFr g)) (k_X12_stepsOf_0 P C36 C141) 0 := by
  unfold k_X12_stepsOf_0
  refine r_iload_n (pc := 0) X d_X12_stepsOf_0 fn2 ?_
  refine r_if_ge (pc := 1) (tgt := 8) X d_X12_stepsOf_1 (by decide +kernel) ?_ ?_
  · refine r_aload_n (pc := 8) X d_X12_stepsOf_8 fn0 ?_
    refine s_getF (pc := 9) (ci := 12) (k := 5) X xok12 (by decide +kernel) ob_180 trivial ly_180_5 (by decide +kernel) fl_RX12_30 d_X12_stepsOf_9 ?_
    refine r_bipush (pc := 12) X d_X12_stepsOf_12 (by decide +kernel) ?_
    refine r_iload_n (pc := 14) X d_X12_stepsOf_14 fn2 ?_
    refine r_iadd (pc := 15) X d_X12_stepsOf_15 ?_
    refine s_iald (pc := 16) X tn_182 ln_182 d_X12_stepsOf_16 ?_
    exact t_X12_stepsOf_17 X hr h36 h141
  · refine r_iconst (pc := 4) X d_X12_stepsOf_4 (by decide +kernel) ?_
    refine r_goto (pc := 5) (tgt := 17) X d_X12_stepsOf_5 (by decide +kernel) ?_
    exact t_X12_stepsOf_17 X hr h36 h141
def k_X12_stepsOf_96 (P : xP) (C36 : xK) : xK := x_iinc 5 1 (C36)
set_option maxRecDepth 20000 in
theorem t_X12_stepsOf_96 {p : Program} {l : Launch} {e : Env} {s : State} {m : MethodId} {args : Array Value} {below : List Frame} {meth : Method} {c : Code} {g : xG} (X : xX p s m args c meth cX12_stepsOf RX12 6 g) (hr : meth.sig.returnType = none) {P : xP} {C36 : xK} (h36 : xAt p l e { frames := 3, cells := 0, slots := 0, locals := 67 } s m args below meth c g 6 xFT xN 0 0 (MQ below (xQc g xFT xN P) args s 0 0 (xFr g)) C36 36) : xAt p l e { frames := 3, cells := 0, slots := 0, locals := 67 } s m args below meth c g 6 xFT xN 0 0 (MQ below (xQc g xFT xN P) args s 0 0 (xFr g)) (k_X12_stepsOf_96 P C36) 96 := by
  unfold k_X12_stepsOf_96
  refine r_iinc (pc := 96) X d_X12_stepsOf_96 (by decide +kernel) (by decide +kernel) ?_
  refine r_goto (pc := 99) (tgt := 36) X d_X12_stepsOf_99 (by decide +kernel) ?_
  exact h36
def k_X12_stepsOf_36 (P : xP) (C36 : xK) : xK := x_iload 5 (x_aload 0 (y_getF 180 182 (x_push (.int 2) (y_iald 182 232 (x_icmp_ge ((k_X12_stepsOf_196 P)) (x_aload 0 (x_iload 5 (y_cv1 180 (w_RI f_X12_kindOf) (x_iload 4 (x_push (.int 8) (x_isub (x_icmp_ne ((k_X12_stepsOf_96 P C36)) (x_aload 0 (y_getF 180 200 (x_push (.int 80) (x_push (.int 16) (x_iload 5 (x_iadd (x_imul (x_aload 0 (x_aload 0 (y_getF 180 191 (x_iload 5 (y_iald 191 10 (x_aload 0 (y_getF 180 182 (x_push (.int 54) (x_iload 1 (x_iadd (y_iald 182 232 (y_cv2 180 (w_RII f_X12_atItem) (x_iadd (x_push (.int 1) (y_bast 200 4 3360 ((k_X12_stepsOf_96 P C36))))))))))))))))))))))))))))))))))))
set_option maxRecDepth 20000 in
theorem t_X12_stepsOf_36 {p : Program} {l : Launch} {e : Env} {s : State} {m : MethodId} {args : Array Value} {below : List Frame} {meth : Method} {c : Code} {g : xG} (X : xX p s m args c meth cX12_stepsOf RX12 6 g) (hr : meth.sig.returnType = none) {P : xP} {C36 : xK} (h36 : xAt p l e { frames := 3, cells := 0, slots := 0, locals := 67 } s m args below meth c g 6 xFT xN 0 0 (MQ below (xQc g xFT xN P) args s 0 0 (xFr g)) C36 36) : xAt p l e { frames := 3, cells := 0, slots := 0, locals := 67 } s m args below meth c g 6 xFT xN 0 0 (MQ below (xQc g xFT xN P) args s 0 0 (xFr g)) (k_X12_stepsOf_36 P C36) 36 := by
  unfold k_X12_stepsOf_36
  refine r_iload (pc := 36) X d_X12_stepsOf_36 ?_
  refine r_aload_n (pc := 38) X d_X12_stepsOf_38 fn0 ?_
  refine s_getF (pc := 39) (ci := 12) (k := 5) X xok12 (by decide +kernel) ob_180 trivial ly_180_5 (by decide +kernel) fl_RX12_30 d_X12_stepsOf_39 ?_
  refine r_iconst (pc := 42) X d_X12_stepsOf_42 (by decide +kernel) ?_
  refine s_iald (pc := 43) X tn_182 ln_182 d_X12_stepsOf_43 ?_
  refine r_icmp_ge (pc := 44) (tgt := 102) X d_X12_stepsOf_44 (by decide +kernel) ?_ ?_
  · refine r_goto (pc := 102) (tgt := 196) X d_X12_stepsOf_102 (by decide +kernel) ?_
    exact t_X12_stepsOf_196 X hr
  · refine r_aload_n (pc := 47) X d_X12_stepsOf_47 fn0 ?_
    refine r_iload (pc := 48) X d_X12_stepsOf_48 ?_
    refine s_cv1 (pc := 50) (ci := 12) X xok12 (by decide +kernel) ob_180 rfl (con_X12_kindOf l) mf_X12_kindOf ml_RX12_363 (by decide +kernel) (by decide +kernel) d_X12_stepsOf_50 ?_
    refine r_iload (pc := 53) X d_X12_stepsOf_53 ?_
    refine r_bipush (pc := 55) X d_X12_stepsOf_55 (by decide +kernel) ?_
    refine r_isub (pc := 57) X d_X12_stepsOf_57 ?_
    refine r_icmp_ne (pc := 58) (tgt := 96) X d_X12_stepsOf_58 (by decide +kernel) ?_ ?_
    · exact t_X12_stepsOf_96 X hr h36
    · refine r_aload_n (pc := 61) X d_X12_stepsOf_61 fn0 ?_
      refine s_getF (pc := 62) (ci := 12) (k := 39) X xok12 (by decide +kernel) ob_180 trivial ly_180_39 (by decide +kernel) fl_RX12_87 d_X12_stepsOf_62 ?_
      refine r_bipush (pc := 65) X d_X12_stepsOf_65 (by decide +kernel) ?_
      refine r_bipush (pc := 67) X d_X12_stepsOf_67 (by decide +kernel) ?_
      refine r_iload (pc := 69) X d_X12_stepsOf_69 ?_
      refine r_iadd (pc := 71) X d_X12_stepsOf_71 ?_
      refine r_imul (pc := 72) X d_X12_stepsOf_72 ?_
      refine r_aload_n (pc := 73) X d_X12_stepsOf_73 fn0 ?_
      refine r_aload_n (pc := 74) X d_X12_stepsOf_74 fn0 ?_
      refine s_getF (pc := 75) (ci := 12) (k := 23) X xok12 (by decide +kernel) ob_180 trivial ly_180_23 (by decide +kernel) fl_RX12_59 d_X12_stepsOf_75 ?_
      refine r_iload (pc := 78) X d_X12_stepsOf_78 ?_
      refine s_iald (pc := 80) X tn_191 ln_191 d_X12_stepsOf_80 ?_
      refine r_aload_n (pc := 81) X d_X12_stepsOf_81 fn0 ?_
      refine s_getF (pc := 82) (ci := 12) (k := 5) X xok12 (by decide +kernel) ob_180 trivial ly_180_5 (by decide +kernel) fl_RX12_30 d_X12_stepsOf_82 ?_
      refine r_bipush (pc := 85) X d_X12_stepsOf_85 (by decide +kernel) ?_
      refine r_iload_n (pc := 87) X d_X12_stepsOf_87 fn1 ?_
      refine r_iadd (pc := 88) X d_X12_stepsOf_88 ?_
      refine s_iald (pc := 89) X tn_182 ln_182 d_X12_stepsOf_89 ?_
      refine s_cv2 (pc := 90) (ci := 12) X xok12 (by decide +kernel) ob_180 rfl (con_X12_atItem l) mf_X12_atItem ml_RX12_412 (by decide +kernel) (by decide +kernel) d_X12_stepsOf_90 ?_
      refine r_iadd (pc := 93) X d_X12_stepsOf_93 ?_
      refine r_iconst (pc := 94) X d_X12_stepsOf_94 (by decide +kernel) ?_
      refine s_zast (pc := 95) X tn_200 ln_200 d_X12_stepsOf_95 ?_
      exact t_X12_stepsOf_96 X hr h36
def k_X12_stepsOf_190 (P : xP) (C141 : xK) : xK := x_iinc 5 1 (C141)
set_option maxRecDepth 20000 in
theorem t_X12_stepsOf_190 {p : Program} {l : Launch} {e : Env} {s : State} {m : MethodId} {args : Array Value} {below : List Frame} {meth : Method} {c : Code} {g : xG} (X : xX p s m args c meth cX12_stepsOf RX12 6 g) (hr : meth.sig.returnType = none) {P : xP} {C141 : xK} (h141 : xAt p l e { frames := 3, cells := 0, slots := 0, locals := 67 } s m args below meth c g 6 xFT xN 0 0 (MQ below (xQc g xFT xN P) args s 0 0 (xFr g)) C141 141) : xAt p l e { frames := 3, cells := 0, slots := 0, locals := 67 } s m args below meth c g 6 xFT xN 0 0 (MQ below (xQc g xFT xN P) args s 0 0 (xFr g)) (k_X12_stepsOf_190 P C141) 190 := by
  unfold k_X12_stepsOf_190
  refine r_iinc (pc := 190) X d_X12_stepsOf_190 (by decide +kernel) (by decide +kernel) ?_
  refine r_goto (pc := 193) (tgt := 141) X d_X12_stepsOf_193 (by decide +kernel) ?_
  exact h141
def k_X12_stepsOf_175 (P : xP) (C141 : xK) : xK := x_aload 0 (x_push (.int 32) (x_aload 0 (y_getF 180 188 (x_iload 1 (y_iald 188 42 (x_iadd (x_iload 5 (y_cv2 180 (w_RII f_X12_closes) ((k_X12_stepsOf_190 P C141))))))))))
set_option maxRecDepth 20000 in
theorem t_X12_stepsOf_175 {p : Program} {l : Launch} {e : Env} {s : State} {m : MethodId} {args : Array Value} {below : List Frame} {meth : Method} {c : Code} {g : xG} (X : xX p s m args c meth cX12_stepsOf RX12 6 g) (hr : meth.sig.returnType = none) {P : xP} {C141 : xK} (h141 : xAt p l e { frames := 3, cells := 0, slots := 0, locals := 67 } s m args below meth c g 6 xFT xN 0 0 (MQ below (xQc g xFT xN P) args s 0 0 (xFr g)) C141 141) : xAt p l e { frames := 3, cells := 0, slots := 0, locals := 67 } s m args below meth c g 6 xFT xN 0 0 (MQ below (xQc g xFT xN P) args s 0 0 (xFr g)) (k_X12_stepsOf_175 P C141) 175 := by
  unfold k_X12_stepsOf_175
  refine r_aload_n (pc := 175) X d_X12_stepsOf_175 fn0 ?_
  refine r_bipush (pc := 176) X d_X12_stepsOf_176 (by decide +kernel) ?_
  refine r_aload_n (pc := 178) X d_X12_stepsOf_178 fn0 ?_
  refine s_getF (pc := 179) (ci := 12) (k := 20) X xok12 (by decide +kernel) ob_180 trivial ly_180_20 (by decide +kernel) fl_RX12_50 d_X12_stepsOf_179 ?_
  refine r_iload_n (pc := 182) X d_X12_stepsOf_182 fn1 ?_
  refine s_iald (pc := 183) X tn_188 ln_188 d_X12_stepsOf_183 ?_
  refine r_iadd (pc := 184) X d_X12_stepsOf_184 ?_
  refine r_iload (pc := 185) X d_X12_stepsOf_185 ?_
  refine s_cv2 (pc := 187) (ci := 12) X xok12 (by decide +kernel) ob_180 rfl (con_X12_closes l) mf_X12_closes ml_RX12_415 (by decide +kernel) (by decide +kernel) d_X12_stepsOf_187 ?_
  exact t_X12_stepsOf_190 X hr h141
def k_X12_stepsOf_141 (P : xP) (C141 : xK) : xK := x_iload 5 (x_aload 0 (y_getI 180 24 (x_icmp_ge ((k_X12_stepsOf_196 P)) (x_aload 0 (x_iload 1 (x_iload 5 (y_cv2 180 (w_RII f_X12_isFrom) (x_if_eq ((k_X12_stepsOf_190 P C141)) (x_aload 0 (y_getF 180 182 (x_push (.int 3) (y_iald 182 232 (x_if_eq ((k_X12_stepsOf_175 P C141)) (x_iload 5 (x_iload 2 (x_icmp_ne ((k_X12_stepsOf_190 P C141)) ((k_X12_stepsOf_175 P C141))))))))))))))))))
set_option maxRecDepth 20000 in
theorem t_X12_stepsOf_141 {p : Program} {l : Launch} {e : Env} {s : State} {m : MethodId} {args : Array Value} {below : List Frame} {meth : Method} {c : Code} {g : xG} (X : xX p s m args c meth cX12_stepsOf RX12 6 g) (hr : meth.sig.returnType = none) {P : xP} {C141 : xK} (h141 : xAt p l e { frames := 3, cells := 0, slots := 0, locals := 67 } s m args below meth c g 6 xFT xN 0 0 (MQ below (xQc g xFT xN P) args s 0 0 (xFr g)) C141 141) : xAt p l e { frames := 3, cells := 0, slots := 0, locals := 67 } s m args below meth c g 6 xFT xN 0 0 (MQ below (xQc g xFT xN P) args s 0 0 (xFr g)) (k_X12_stepsOf_141 P C141) 141 := by
  unfold k_X12_stepsOf_141
  refine r_iload (pc := 141) X d_X12_stepsOf_141 ?_
  refine r_aload_n (pc := 143) X d_X12_stepsOf_143 fn0 ?_
  refine s_getI (pc := 144) (ci := 12) X xok12 (by decide +kernel) ob_180 (by decide +kernel) fl_RX12_328 d_X12_stepsOf_144 ?_
  refine r_icmp_ge (pc := 147) (tgt := 196) X d_X12_stepsOf_147 (by decide +kernel) ?_ ?_
  · exact t_X12_stepsOf_196 X hr
  · refine r_aload_n (pc := 150) X d_X12_stepsOf_150 fn0 ?_
    refine r_iload_n (pc := 151) X d_X12_stepsOf_151 fn1 ?_
    refine r_iload (pc := 152) X d_X12_stepsOf_152 ?_
    refine s_cv2 (pc := 154) (ci := 12) X xok12 (by decide +kernel) ob_180 rfl (con_X12_isFrom l) mf_X12_isFrom ml_RX12_390 (by decide +kernel) (by decide +kernel) d_X12_stepsOf_154 ?_
    refine r_if_eq (pc := 157) (tgt := 190) X d_X12_stepsOf_157 (by decide +kernel) ?_ ?_
    · exact t_X12_stepsOf_190 X hr h141
    · refine r_aload_n (pc := 160) X d_X12_stepsOf_160 fn0 ?_
      refine s_getF (pc := 161) (ci := 12) (k := 5) X xok12 (by decide +kernel) ob_180 trivial ly_180_5 (by decide +kernel) fl_RX12_30 d_X12_stepsOf_161 ?_
      refine r_iconst (pc := 164) X d_X12_stepsOf_164 (by decide +kernel) ?_
      refine s_iald (pc := 165) X tn_182 ln_182 d_X12_stepsOf_165 ?_
      refine r_if_eq (pc := 166) (tgt := 175) X d_X12_stepsOf_166 (by decide +kernel) ?_ ?_
      · exact t_X12_stepsOf_175 X hr h141
      · refine r_iload (pc := 169) X d_X12_stepsOf_169 ?_
        refine r_iload_n (pc := 171) X d_X12_stepsOf_171 fn2 ?_
        refine r_icmp_ne (pc := 172) (tgt := 190) X d_X12_stepsOf_172 (by decide +kernel) ?_ ?_
        · exact t_X12_stepsOf_190 X hr h141
        · exact t_X12_stepsOf_175 X hr h141
set_option maxRecDepth 20000 in
theorem m_X12_stepsOf {l : Launch} {f : Nat → Int32 → Int32 → xH → xP → Prop}  {I36 : Nat → Int32 → Int32 → xH → xP → xM → xK} {I141 : Nat → Int32 → Int32 → xH → xP → xM → xK}
    (v0 : ∀ (a0 : Nat) (a1 : Int32) (a2 : Int32) (A : xH) (P : xP), f a0 a1 a2 A P → k_X12_stepsOf_0 P (xE (I36 a0 a1 a2 A P)) (xE (I141 a0 a1 a2 A P)) [some (.ref a0), some (.int a1), some (.int a2), none, none, none] [] A)
    (v36 : ∀ (a0 : Nat) (a1 : Int32) (a2 : Int32) (A : xH) (P : xP), f a0 a1 a2 A P → ∀ (μ : xM) (L : xL) (st : List Value) (B : xH), I36 a0 a1 a2 A P μ L st B → k_X12_stepsOf_36 P (xB (I36 a0 a1 a2 A P) μ) L st B)
    (v141 : ∀ (a0 : Nat) (a1 : Int32) (a2 : Int32) (A : xH) (P : xP), f a0 a1 a2 A P → ∀ (μ : xM) (L : xL) (st : List Value) (B : xH), I141 a0 a1 a2 A P μ L st B → k_X12_stepsOf_141 P (xB (I141 a0 a1 a2 A P) μ) L st B) : xCon l yX12_stepsOf cX12_stepsOf 6 none 3 67 xN xN 0 xFT xFT (w_RII f) := by
  refine xc_RII (plainFor_of_name pn_RX12) (by decide +kernel) (fun p e s m args below meth c g a0 a1 a2 A P h X hr _ => ?_)
  have h36 := x_loop1 (p := p) (l := l) (e := e) (R := { frames := 3, cells := 0, slots := 0, locals := 67 }) (s := s) (m := m) (args := args) (below := below) (meth := meth) (c := c) (g := g) (nL := 6) (F := xFT) (n := xN) (cells := 0) (slots := 0) (Q := MQ below (xQc g xFT xN P) args s 0 0 (xFr g)) (I := I36 a0 a1 a2 A P) (pc1 := 36) (fun μ i36 => xAt_mono (t_X12_stepsOf_36 (P := P) X hr i36) (v36 a0 a1 a2 A P h μ))
  have h141 := x_loop1 (p := p) (l := l) (e := e) (R := { frames := 3, cells := 0, slots := 0, locals := 67 }) (s := s) (m := m) (args := args) (below := below) (meth := meth) (c := c) (g := g) (nL := 6) (F := xFT) (n := xN) (cells := 0) (slots := 0) (Q := MQ below (xQc g xFT xN P) args s 0 0 (xFr g)) (I := I141 a0 a1 a2 A P) (pc1 := 141) (fun μ i141 => xAt_mono (t_X12_stepsOf_141 (P := P) X hr i141) (v141 a0 a1 a2 A P h μ))
  exact ⟨_, v0 a0 a1 a2 A P h, t_X12_stepsOf_0 X hr h36 h141⟩
def opR (v : xV) (i n l : Nat) (Q : Nat × Nat) : Prop := ∃ r, r < n ∧ vnx v i = 8 + vrk v r ∧ l = 16 + r ∧ Q = (vcl v (vfst v r), cD v (vcl v i))
def coR (v : xV) (i c n l : Nat) (Q : Nat × Nat) : Prop := l = 32 + vri v i ∧ ∃ j, j < n ∧ frT v i j ∧ (vD v = 0 ∨ j = c) ∧ clR v j Q
def soR (v : xV) (i c l : Nat) (Q : Nat × Nat) : Prop := (8 ≤ vnx v i ∧ vnx v i ≠ 15 ∧ opR v i (vR v) l Q) ∨ (vnx v i < 8 ∧ l = vnx v i ∧ Q = (vcl v (i + 1), cD v (vcl v c))) ∨ (vnx v i = 15 ∧ 2 ≤ i ∧ coR v i c (vN v) l Q)
def soC (v : xV) (i c : Nat) : Prop := (c = 42 ∧ (vD v = 0 ∨ i = 0)) ∨ (c < vN v ∧ vD v ≠ 0 ∧ frT v i c)
def f_X12_stepsOf (q : Nat) (x y : Int32) (A : xH) (P : xP) : Prop := q = 180 ∧ ∃ (v : xV) (R : Nat → Nat × Nat → Prop) (i c : Nat), bU A v R ∧ x = nI i ∧ y = cI c ∧ i < vN v ∧ i ≠ 1 ∧ soC v i c ∧ ∀ B, fr SGo A B → bU B v (fun l Q => R l Q ∨ soR v i c l Q) → P none B
def so36 (A : xH) (P : xP) : xM → xK := fun μ L st B => ∃ (v : xV) (R : Nat → Nat × Nat → Prop) (i c r : Nat) (o : Option Value), i < vN v ∧ i ≠ 1 ∧ 8 ≤ vnx v i ∧ vnx v i ≠ 15 ∧ (∀ B, fr SGo A B → bU B v (fun l Q => R l Q ∨ soR v i c l Q) → P none B) ∧ fr SGo A B ∧ bU B v (fun l Q => R l Q ∨ opR v i r l Q) ∧ r ≤ vR v ∧ st = [] ∧ L = [some (.ref 180), some (.int (nI i)), some (.int (cI c)), o, some (.int (nI (vnx v i))), some (.int (nI r))] ∧ μ = (vR v - r, 0, 0)
def so141 (A : xH) (P : xP) : xM → xK := fun μ L st B => ∃ (v : xV) (R : Nat → Nat × Nat → Prop) (i c j : Nat) (o : Option Value), i < vN v ∧ 2 ≤ i ∧ vnx v i = 15 ∧ c ≤ 42 ∧ (vD v ≠ 0 → c < 42) ∧ (∀ B, fr SGo A B → bU B v (fun l Q => R l Q ∨ soR v i c l Q) → P none B) ∧ fr SGo A B ∧ bU B v (fun l Q => R l Q ∨ coR v i c j l Q) ∧ j ≤ vN v ∧ st = [] ∧ L = [some (.ref 180), some (.int (nI i)), some (.int (cI c)), o, some (.int (-1)), some (.int (nI j))] ∧ μ = (vN v - j, 0, 0)
set_option maxRecDepth 20000 in
theorem con_X12_stepsOf (l : Launch) : xCon l yX12_stepsOf cX12_stepsOf 6 none 3 67 xN xN 0 xFT xFT (w_RII f_X12_stepsOf) := by
  refine m_X12_stepsOf (I36 := fun q x y A P => so36 A P) (I141 := fun q x y A P => so141 A P) ?_ ?_ ?_
  · rintro q x y A P ⟨rfl, v, R, i, c, hb, rfl, rfl, hi, hi1, hC, hP⟩
    have hN := vN_le hb.1.2.1
    have hn := (hb.1.2.2.2.2.2 i hi).2.2
    have hw := hb.1.2.1
    have hwc := hb.1.2.2.1
    have h5 := hw.2.1
    have x15 := vnx_le hw i
    have fin : ∀ f : Int32, (vD v ≠ 0 → i ≠ 0 → f = nI (vcl v c)) → k_X12_stepsOf_17 P (xE (so36 A P)) (xE (so141 A P)) [some (.ref 180), some (.int (nI i)), some (.int (cI c)), none, none, none] [.int f] A := fun f hf => by
      have e8 : oI (vnx v i) < nI 8 ↔ (vnx v i < 8 ∨ vnx v i = 15) := by
        rw [← Int32.not_le, oI_ge x15 (by omega)]; omega
      have z8 : i = 0 → ¬ vnx v i < 8 := fun z => by
        subst z
        unfold vnx
        rw [if_pos rfl]
        split <;> omega
      simp (disch := omega) only [k_X12_stepsOf_0, k_X12_stepsOf_36, k_X12_stepsOf_141, k_X12_stepsOf_17, k_X12_stepsOf_96, k_X12_stepsOf_175, k_X12_stepsOf_190, k_X12_stepsOf_196, w_RI, w_RII, x_aload, x_iadd, x_icmp_ge, x_icmp_le, x_icmp_lt, x_icmp_ne, x_if_eq, x_if_ge, x_if_lt, x_iinc, x_iload, x_imul, x_istore, x_isub, x_push, x_vret, y_bast, y_cv1, y_cv2, y_getF, y_getI, y_iald, xFT, xbool0, xbool1, Nat.reduceAdd, Nat.zero_add, xgl_0, xgl_s, xgl_n, xst_0, xst_1n, xst_1i, xst_1r, xst_1l, xst_s, set_0, set_s, true_and, and_true, xres, xcat_nil, xcat_i, xcat_r, xcat_l, Nat.add_zero, xble0, xble1, xble2, xble3, xble4, xble5, xble6, xble7, xble8, pk_mul, nI_add, nI_1, nI_leI, nI_ltI, nI_eq, n_in, n_cl, z_eq, z_lt, z_le, z_gt, z_ge, z_qe, o_eq, o_lt, o_le, o_gt, o_ge, vp0, vp1, cl0, cl1, n_sub, n_sub1, n_pm1, n_a0, n_0a, ofn, lN0, Nat.reduceLT, Nat.reduceLeDiff, Nat.reduceMul, Nat.reduceSub, Nat.reduceEqDiff, ne_eq, true_implies, false_implies, not_true_eq_false, not_false_eq_true, and_self, and_true, true_and, and_false, false_and, implies_true, if_true, if_false, i00, i10, i01, i11, ob_0, ob_1, tn_2, ln_2, ob_3, tn_4, ln_4, ob_5, tn_6, ln_6, tn_7, ln_7, ob_8, tn_9, ln_9, tn_10, ln_10, tn_11, ln_11, tn_12, ln_12, tn_13, ln_13, tn_14, ln_14, tn_15, ln_15, tn_16, ln_16, tn_17, ln_17, ob_18, tn_19, ln_19, tn_20, ln_20, tn_21, ln_21, tn_22, ln_22, tn_23, ln_23, tn_24, ln_24, tn_25, ln_25, tn_26, ln_26, tn_27, ln_27, ob_28, tn_29, ln_29, tn_30, ln_30, ob_31, tn_32, ln_32, tn_33, ln_33, ob_34, ob_35, tn_36, ln_36, tn_37, ln_37, tn_38, ln_38, ob_39, tn_40, ln_40, tn_41, ln_41, tn_42, ln_42, tn_43, ln_43, tn_44, ln_44, tn_45, ln_45, tn_46, ln_46, tn_47, ln_47, tn_48, ln_48, tn_49, ln_49, tn_50, ln_50, tn_51, ln_51, ob_52, tn_53, ln_53, tn_54, ln_54, tn_55, ln_55, tn_56, ln_56, ob_57, tn_58, ln_58, tn_59, ln_59, tn_60, ln_60, tn_61, ln_61, tn_62, ln_62, tn_63, ln_63, tn_64, ln_64, tn_65, ln_65, ob_66, tn_67, ln_67, tn_68, ln_68, tn_69, ln_69, tn_70, ln_70, tn_71, ln_71, tn_72, ln_72, tn_73, ln_73, ob_74, tn_75, ln_75, tn_76, ln_76, tn_77, ln_77, tn_78, ln_78, tn_79, ln_79, tn_80, ln_80, tn_81, ln_81, tn_82, ln_82, tn_83, ln_83, ob_84, tn_85, ln_85, tn_86, ln_86, tn_87, ln_87, tn_88, ln_88, tn_89, ln_89, tn_90, ln_90, tn_91, ln_91, tn_92, ln_92, tn_93, ln_93, ob_94, tn_95, ln_95, tn_96, ln_96, tn_97, ln_97, tn_98, ln_98, tn_99, ln_99, tn_100, ln_100, tn_101, ln_101, tn_102, ln_102, tn_103, ln_103, ob_104, tn_105, ln_105, tn_106, ln_106, tn_107, ln_107, tn_108, ln_108, tn_109, ln_109, tn_110, ln_110, tn_111, ln_111, tn_112, ln_112, tn_113, ln_113, ob_114, tn_115, ln_115, tn_116, ln_116, tn_117, ln_117, tn_118, ln_118, tn_119, ln_119, tn_120, ln_120, tn_121, ln_121, tn_122, ln_122, tn_123, ln_123, ob_124, tn_125, ln_125, tn_126, ln_126, tn_127, ln_127, tn_128, ln_128, tn_129, ln_129, tn_130, ln_130, tn_131, ln_131, tn_132, ln_132, tn_133, ln_133, ob_134, tn_135, ln_135, tn_136, ln_136, tn_137, ln_137, tn_138, ln_138, tn_139, ln_139, tn_140, ln_140, tn_141, ln_141, tn_142, ln_142, tn_143, ln_143, ob_144, tn_145, ln_145, tn_146, ln_146, tn_147, ln_147, tn_148, ln_148, tn_149, ln_149, tn_150, ln_150, tn_151, ln_151, tn_152, ln_152, tn_153, ln_153, ob_154, tn_155, ln_155, tn_156, ln_156, tn_157, ln_157, tn_158, ln_158, tn_159, ln_159, tn_160, ln_160, tn_161, ln_161, tn_162, ln_162, tn_163, ln_163, ob_164, tn_165, ln_165, tn_166, ln_166, ob_167, tn_168, ln_168, tn_169, ln_169, tn_170, ln_170, tn_171, ln_171, tn_172, ln_172, tn_173, ln_173, tn_174, ln_174, tn_175, ln_175, tn_176, ln_176, ob_177, tn_178, ln_178, tn_179, ln_179, ob_180, tn_181, ln_181, tn_182, ln_182, tn_183, ln_183, tn_184, ln_184, tn_185, ln_185, tn_186, ln_186, tn_187, ln_187, tn_188, ln_188, tn_189, ln_189, tn_190, ln_190, tn_191, ln_191, tn_192, ln_192, tn_193, ln_193, tn_194, ln_194, tn_195, ln_195, tn_196, ln_196, tn_197, ln_197, tn_198, ln_198, tn_199, ln_199, tn_200, ln_200, tn_201, ln_201, tn_202, ln_202, tn_203, ln_203, tn_204, ln_204, tn_205, ln_205, tn_206, ln_206, tn_207, ln_207, tn_208, ln_208, tn_209, ln_209, tn_210, ln_210, tn_211, ln_211, tn_212, ln_212, tn_213, ln_213, tn_214, ln_214, tn_215, ln_215, tn_216, ln_216, tn_217, ln_217, tn_218, ln_218, tn_219, ln_219, tn_220, ln_220, tn_221, ln_221, tn_222, ln_222, tn_223, ln_223, tn_224, ln_224, tn_225, ln_225, tn_226, ln_226, tn_227, ln_227, tn_228, ln_228, tn_229, ln_229, tn_230, ln_230, lx2, lx3, lx4, lx5, lx6, lx7, lx8, lx9, lx10, lx14, lx15, lx16, lx18, lx20, lx24, lx25, lx27, lx32, lx36, lx40, lx41, lx42, lx43, lx45, lx48, lx52, lx54, lx56, lx57, lx58, lx60, lx61, lx62, lx63, lx64, lx66, lx69, lx73, lx80, lx81, lx84, lx85, lx87, lx94, lx96, lx97, lx120, lx128, lx135, lx160, lx162, lx163, lx165, lx200, lx232, lx242, lx243, lx255, lx256, lx320, lx325, lx400, lx405, lx464, lx512, lx600, lx640, lx752, lx900, lx940, lx1000, lx1024, lx1764, lx3360, lx3840, lx5000, lx6400, lx9050, lx9998, lx9999, lx10000, lx25600, lx76800, lx99999, hn, oI_neg, e8]
      refine ⟨by omega, fun a => ⟨fun b => ⟨fun d => ?_, fun d => ?_⟩, fun b => ?_⟩, fun a => ?_⟩
      · refine hP A fr_rf (bU_congr hb fun l Q => ?_)
        unfold soR
        constructor
        · exact Or.inl
        · rintro (w | w | w | w)
          · exact w
          · exact absurd b w.2.1
          · omega
          · omega
      · rw [b]
        refine xE0 (vN v - 0, 0, 0) ⟨v, R, i, c, 0, _, hi, by omega, b, ?_, fun z => ?_, hP, fr_rf, bU_congr hb fun l Q => ?_, Nat.zero_le _, rfl, rfl, rfl⟩
        · rcases hC with w | w <;> omega
        · rcases hC with ⟨w, w2 | w2⟩ | w
          · exact absurd w2 z
          · omega
          · omega
        · unfold coR
          constructor
          · exact Or.inl
          · rintro (w | ⟨-, j, w, -⟩)
            · exact w
            · exact absurd w (Nat.not_lt_zero j)
      · have hx8 : vnx v i < 8 := by omega
        have h2 : 2 ≤ i := by
          have : i ≠ 0 := fun z => z8 z hx8
          omega
        obtain ⟨hN1, hri⟩ := it_nx h2 hi b
        have hpl : (vcl v (i + 1), cD v (vcl v c)) ∈ plL v := by
          by_cases hD : vD v = 0
          · have e1 : cD v (vcl v c) = 42 := if_pos hD
            rw [e1]; exact pl_D0 hw hwc (by omega) hN1 hD
          · have e1 : cD v (vcl v c) = vcl v c := if_neg hD
            rw [e1]
            rcases hC with ⟨w, w2 | w2⟩ | ⟨w1, w2, w3⟩
            · exact absurd w2 hD
            · omega
            · exact pl_D1 hw hwc (by omega) hN1 hD (vcl_lt hw hwc w1) ⟨c, w1, rfl, by rw [hri]; exact w3.2⟩
        obtain ⟨p, hp, -⟩ := plA_of hpl
        have hp80 := plA_80 hb.2.1 hp
        refine atItem_U hb.1 hb.2.1 hN1 (p := p) (Or.inr (Or.inr ⟨by omega, vcl v c, hp, fun z => ⟨hf z (by omega), ?_⟩⟩)) ?_
        · rcases hC with ⟨w, w2 | w2⟩ | ⟨w1, w2, w3⟩
          · exact absurd w2 z
          · omega
          · have := (hwc c (by omega)).1
            omega
        · rw [oI_nI (by omega)]
          simp (disch := omega) only [k_X12_stepsOf_0, k_X12_stepsOf_36, k_X12_stepsOf_141, k_X12_stepsOf_17, k_X12_stepsOf_96, k_X12_stepsOf_175, k_X12_stepsOf_190, k_X12_stepsOf_196, w_RI, w_RII, x_aload, x_iadd, x_icmp_ge, x_icmp_le, x_icmp_lt, x_icmp_ne, x_if_eq, x_if_ge, x_if_lt, x_iinc, x_iload, x_imul, x_istore, x_isub, x_push, x_vret, y_bast, y_cv1, y_cv2, y_getF, y_getI, y_iald, xFT, xbool0, xbool1, Nat.reduceAdd, Nat.zero_add, xgl_0, xgl_s, xgl_n, xst_0, xst_1n, xst_1i, xst_1r, xst_1l, xst_s, set_0, set_s, true_and, and_true, xres, xcat_nil, xcat_i, xcat_r, xcat_l, Nat.add_zero, xble0, xble1, xble2, xble3, xble4, xble5, xble6, xble7, xble8, pk_mul, nI_add, nI_1, nI_leI, nI_ltI, nI_eq, n_in, n_cl, z_eq, z_lt, z_le, z_gt, z_ge, z_qe, o_eq, o_lt, o_le, o_gt, o_ge, vp0, vp1, cl0, cl1, n_sub, n_sub1, n_pm1, n_a0, n_0a, ofn, lN0, Nat.reduceLT, Nat.reduceLeDiff, Nat.reduceMul, Nat.reduceSub, Nat.reduceEqDiff, ne_eq, true_implies, false_implies, not_true_eq_false, not_false_eq_true, and_self, and_true, true_and, and_false, false_and, implies_true, if_true, if_false, i00, i10, i01, i11, ob_0, ob_1, tn_2, ln_2, ob_3, tn_4, ln_4, ob_5, tn_6, ln_6, tn_7, ln_7, ob_8, tn_9, ln_9, tn_10, ln_10, tn_11, ln_11, tn_12, ln_12, tn_13, ln_13, tn_14, ln_14, tn_15, ln_15, tn_16, ln_16, tn_17, ln_17, ob_18, tn_19, ln_19, tn_20, ln_20, tn_21, ln_21, tn_22, ln_22, tn_23, ln_23, tn_24, ln_24, tn_25, ln_25, tn_26, ln_26, tn_27, ln_27, ob_28, tn_29, ln_29, tn_30, ln_30, ob_31, tn_32, ln_32, tn_33, ln_33, ob_34, ob_35, tn_36, ln_36, tn_37, ln_37, tn_38, ln_38, ob_39, tn_40, ln_40, tn_41, ln_41, tn_42, ln_42, tn_43, ln_43, tn_44, ln_44, tn_45, ln_45, tn_46, ln_46, tn_47, ln_47, tn_48, ln_48, tn_49, ln_49, tn_50, ln_50, tn_51, ln_51, ob_52, tn_53, ln_53, tn_54, ln_54, tn_55, ln_55, tn_56, ln_56, ob_57, tn_58, ln_58, tn_59, ln_59, tn_60, ln_60, tn_61, ln_61, tn_62, ln_62, tn_63, ln_63, tn_64, ln_64, tn_65, ln_65, ob_66, tn_67, ln_67, tn_68, ln_68, tn_69, ln_69, tn_70, ln_70, tn_71, ln_71, tn_72, ln_72, tn_73, ln_73, ob_74, tn_75, ln_75, tn_76, ln_76, tn_77, ln_77, tn_78, ln_78, tn_79, ln_79, tn_80, ln_80, tn_81, ln_81, tn_82, ln_82, tn_83, ln_83, ob_84, tn_85, ln_85, tn_86, ln_86, tn_87, ln_87, tn_88, ln_88, tn_89, ln_89, tn_90, ln_90, tn_91, ln_91, tn_92, ln_92, tn_93, ln_93, ob_94, tn_95, ln_95, tn_96, ln_96, tn_97, ln_97, tn_98, ln_98, tn_99, ln_99, tn_100, ln_100, tn_101, ln_101, tn_102, ln_102, tn_103, ln_103, ob_104, tn_105, ln_105, tn_106, ln_106, tn_107, ln_107, tn_108, ln_108, tn_109, ln_109, tn_110, ln_110, tn_111, ln_111, tn_112, ln_112, tn_113, ln_113, ob_114, tn_115, ln_115, tn_116, ln_116, tn_117, ln_117, tn_118, ln_118, tn_119, ln_119, tn_120, ln_120, tn_121, ln_121, tn_122, ln_122, tn_123, ln_123, ob_124, tn_125, ln_125, tn_126, ln_126, tn_127, ln_127, tn_128, ln_128, tn_129, ln_129, tn_130, ln_130, tn_131, ln_131, tn_132, ln_132, tn_133, ln_133, ob_134, tn_135, ln_135, tn_136, ln_136, tn_137, ln_137, tn_138, ln_138, tn_139, ln_139, tn_140, ln_140, tn_141, ln_141, tn_142, ln_142, tn_143, ln_143, ob_144, tn_145, ln_145, tn_146, ln_146, tn_147, ln_147, tn_148, ln_148, tn_149, ln_149, tn_150, ln_150, tn_151, ln_151, tn_152, ln_152, tn_153, ln_153, ob_154, tn_155, ln_155, tn_156, ln_156, tn_157, ln_157, tn_158, ln_158, tn_159, ln_159, tn_160, ln_160, tn_161, ln_161, tn_162, ln_162, tn_163, ln_163, ob_164, tn_165, ln_165, tn_166, ln_166, ob_167, tn_168, ln_168, tn_169, ln_169, tn_170, ln_170, tn_171, ln_171, tn_172, ln_172, tn_173, ln_173, tn_174, ln_174, tn_175, ln_175, tn_176, ln_176, ob_177, tn_178, ln_178, tn_179, ln_179, ob_180, tn_181, ln_181, tn_182, ln_182, tn_183, ln_183, tn_184, ln_184, tn_185, ln_185, tn_186, ln_186, tn_187, ln_187, tn_188, ln_188, tn_189, ln_189, tn_190, ln_190, tn_191, ln_191, tn_192, ln_192, tn_193, ln_193, tn_194, ln_194, tn_195, ln_195, tn_196, ln_196, tn_197, ln_197, tn_198, ln_198, tn_199, ln_199, tn_200, ln_200, tn_201, ln_201, tn_202, ln_202, tn_203, ln_203, tn_204, ln_204, tn_205, ln_205, tn_206, ln_206, tn_207, ln_207, tn_208, ln_208, tn_209, ln_209, tn_210, ln_210, tn_211, ln_211, tn_212, ln_212, tn_213, ln_213, tn_214, ln_214, tn_215, ln_215, tn_216, ln_216, tn_217, ln_217, tn_218, ln_218, tn_219, ln_219, tn_220, ln_220, tn_221, ln_221, tn_222, ln_222, tn_223, ln_223, tn_224, ln_224, tn_225, ln_225, tn_226, ln_226, tn_227, ln_227, tn_228, ln_228, tn_229, ln_229, tn_230, ln_230, lx2, lx3, lx4, lx5, lx6, lx7, lx8, lx9, lx10, lx14, lx15, lx16, lx18, lx20, lx24, lx25, lx27, lx32, lx36, lx40, lx41, lx42, lx43, lx45, lx48, lx52, lx54, lx56, lx57, lx58, lx60, lx61, lx62, lx63, lx64, lx66, lx69, lx73, lx80, lx81, lx84, lx85, lx87, lx94, lx96, lx97, lx120, lx128, lx135, lx160, lx162, lx163, lx165, lx200, lx232, lx242, lx243, lx255, lx256, lx320, lx325, lx400, lx405, lx464, lx512, lx600, lx640, lx752, lx900, lx940, lx1000, lx1024, lx1764, lx3360, lx3840, lx5000, lx6400, lx9050, lx9998, lx9999, lx10000, lx25600, lx76800, lx99999]
          refine ⟨by omega, hP _ (fr_si fr_rf (by unfold SGo; omega)) ?_⟩
          rw [Nat.mul_comm 80 (vnx v i)]
          refine bU_congr (bU_add hb hp) fun l Q => ?_
          unfold soR
          constructor
          · rintro (w | ⟨w1, w2⟩)
            · exact Or.inl w
            · exact Or.inr (Or.inr (Or.inl ⟨hx8, w1, w2⟩))
          · rintro (w | w | w | w)
            · exact Or.inl w
            · omega
            · exact Or.inr w.2
            · omega
      · rw [oI_nI (by omega)]
        refine xE0 (vR v - 0, 0, 0) ⟨v, R, i, c, 0, _, hi, hi1, by omega, by omega, hP, fr_rf, bU_congr hb fun l Q => ?_, Nat.zero_le _, rfl, rfl, rfl⟩
        unfold opR
        constructor
        · exact Or.inl
        · rintro (w | ⟨r, w, -⟩)
          · exact w
          · exact absurd w (Nat.not_lt_zero r)
    simp (disch := omega) only [k_X12_stepsOf_0, k_X12_stepsOf_36, k_X12_stepsOf_141, k_X12_stepsOf_96, k_X12_stepsOf_175, k_X12_stepsOf_190, k_X12_stepsOf_196, w_RI, w_RII, x_aload, x_iadd, x_icmp_ge, x_icmp_le, x_icmp_lt, x_icmp_ne, x_if_eq, x_if_ge, x_if_lt, x_iinc, x_iload, x_imul, x_istore, x_isub, x_push, x_vret, y_bast, y_cv1, y_cv2, y_getF, y_getI, y_iald, xFT, xbool0, xbool1, Nat.reduceAdd, Nat.zero_add, xgl_0, xgl_s, xgl_n, xst_0, xst_1n, xst_1i, xst_1r, xst_1l, xst_s, set_0, set_s, true_and, and_true, xres, xcat_nil, xcat_i, xcat_r, xcat_l, Nat.add_zero, xble0, xble1, xble2, xble3, xble4, xble5, xble6, xble7, xble8, pk_mul, nI_add, nI_1, nI_leI, nI_ltI, nI_eq, n_in, n_cl, z_eq, z_lt, z_le, z_gt, z_ge, z_qe, o_eq, o_lt, o_le, o_gt, o_ge, vp0, vp1, cl0, cl1, n_sub, n_sub1, n_pm1, n_a0, n_0a, ofn, lN0, Nat.reduceLT, Nat.reduceLeDiff, Nat.reduceMul, Nat.reduceSub, Nat.reduceEqDiff, ne_eq, true_implies, false_implies, not_true_eq_false, not_false_eq_true, and_self, and_true, true_and, and_false, false_and, implies_true, if_true, if_false, i00, i10, i01, i11, ob_0, ob_1, tn_2, ln_2, ob_3, tn_4, ln_4, ob_5, tn_6, ln_6, tn_7, ln_7, ob_8, tn_9, ln_9, tn_10, ln_10, tn_11, ln_11, tn_12, ln_12, tn_13, ln_13, tn_14, ln_14, tn_15, ln_15, tn_16, ln_16, tn_17, ln_17, ob_18, tn_19, ln_19, tn_20, ln_20, tn_21, ln_21, tn_22, ln_22, tn_23, ln_23, tn_24, ln_24, tn_25, ln_25, tn_26, ln_26, tn_27, ln_27, ob_28, tn_29, ln_29, tn_30, ln_30, ob_31, tn_32, ln_32, tn_33, ln_33, ob_34, ob_35, tn_36, ln_36, tn_37, ln_37, tn_38, ln_38, ob_39, tn_40, ln_40, tn_41, ln_41, tn_42, ln_42, tn_43, ln_43, tn_44, ln_44, tn_45, ln_45, tn_46, ln_46, tn_47, ln_47, tn_48, ln_48, tn_49, ln_49, tn_50, ln_50, tn_51, ln_51, ob_52, tn_53, ln_53, tn_54, ln_54, tn_55, ln_55, tn_56, ln_56, ob_57, tn_58, ln_58, tn_59, ln_59, tn_60, ln_60, tn_61, ln_61, tn_62, ln_62, tn_63, ln_63, tn_64, ln_64, tn_65, ln_65, ob_66, tn_67, ln_67, tn_68, ln_68, tn_69, ln_69, tn_70, ln_70, tn_71, ln_71, tn_72, ln_72, tn_73, ln_73, ob_74, tn_75, ln_75, tn_76, ln_76, tn_77, ln_77, tn_78, ln_78, tn_79, ln_79, tn_80, ln_80, tn_81, ln_81, tn_82, ln_82, tn_83, ln_83, ob_84, tn_85, ln_85, tn_86, ln_86, tn_87, ln_87, tn_88, ln_88, tn_89, ln_89, tn_90, ln_90, tn_91, ln_91, tn_92, ln_92, tn_93, ln_93, ob_94, tn_95, ln_95, tn_96, ln_96, tn_97, ln_97, tn_98, ln_98, tn_99, ln_99, tn_100, ln_100, tn_101, ln_101, tn_102, ln_102, tn_103, ln_103, ob_104, tn_105, ln_105, tn_106, ln_106, tn_107, ln_107, tn_108, ln_108, tn_109, ln_109, tn_110, ln_110, tn_111, ln_111, tn_112, ln_112, tn_113, ln_113, ob_114, tn_115, ln_115, tn_116, ln_116, tn_117, ln_117, tn_118, ln_118, tn_119, ln_119, tn_120, ln_120, tn_121, ln_121, tn_122, ln_122, tn_123, ln_123, ob_124, tn_125, ln_125, tn_126, ln_126, tn_127, ln_127, tn_128, ln_128, tn_129, ln_129, tn_130, ln_130, tn_131, ln_131, tn_132, ln_132, tn_133, ln_133, ob_134, tn_135, ln_135, tn_136, ln_136, tn_137, ln_137, tn_138, ln_138, tn_139, ln_139, tn_140, ln_140, tn_141, ln_141, tn_142, ln_142, tn_143, ln_143, ob_144, tn_145, ln_145, tn_146, ln_146, tn_147, ln_147, tn_148, ln_148, tn_149, ln_149, tn_150, ln_150, tn_151, ln_151, tn_152, ln_152, tn_153, ln_153, ob_154, tn_155, ln_155, tn_156, ln_156, tn_157, ln_157, tn_158, ln_158, tn_159, ln_159, tn_160, ln_160, tn_161, ln_161, tn_162, ln_162, tn_163, ln_163, ob_164, tn_165, ln_165, tn_166, ln_166, ob_167, tn_168, ln_168, tn_169, ln_169, tn_170, ln_170, tn_171, ln_171, tn_172, ln_172, tn_173, ln_173, tn_174, ln_174, tn_175, ln_175, tn_176, ln_176, ob_177, tn_178, ln_178, tn_179, ln_179, ob_180, tn_181, ln_181, tn_182, ln_182, tn_183, ln_183, tn_184, ln_184, tn_185, ln_185, tn_186, ln_186, tn_187, ln_187, tn_188, ln_188, tn_189, ln_189, tn_190, ln_190, tn_191, ln_191, tn_192, ln_192, tn_193, ln_193, tn_194, ln_194, tn_195, ln_195, tn_196, ln_196, tn_197, ln_197, tn_198, ln_198, tn_199, ln_199, tn_200, ln_200, tn_201, ln_201, tn_202, ln_202, tn_203, ln_203, tn_204, ln_204, tn_205, ln_205, tn_206, ln_206, tn_207, ln_207, tn_208, ln_208, tn_209, ln_209, tn_210, ln_210, tn_211, ln_211, tn_212, ln_212, tn_213, ln_213, tn_214, ln_214, tn_215, ln_215, tn_216, ln_216, tn_217, ln_217, tn_218, ln_218, tn_219, ln_219, tn_220, ln_220, tn_221, ln_221, tn_222, ln_222, tn_223, ln_223, tn_224, ln_224, tn_225, ln_225, tn_226, ln_226, tn_227, ln_227, tn_228, ln_228, tn_229, ln_229, tn_230, ln_230, lx2, lx3, lx4, lx5, lx6, lx7, lx8, lx9, lx10, lx14, lx15, lx16, lx18, lx20, lx24, lx25, lx27, lx32, lx36, lx40, lx41, lx42, lx43, lx45, lx48, lx52, lx54, lx56, lx57, lx58, lx60, lx61, lx62, lx63, lx64, lx66, lx69, lx73, lx80, lx81, lx84, lx85, lx87, lx94, lx96, lx97, lx120, lx128, lx135, lx160, lx162, lx163, lx165, lx200, lx232, lx242, lx243, lx255, lx256, lx320, lx325, lx400, lx405, lx464, lx512, lx600, lx640, lx752, lx900, lx940, lx1000, lx1024, lx1764, lx3360, lx3840, lx5000, lx6400, lx9050, lx9998, lx9999, lx10000, lx25600, lx76800, lx99999]
    refine ⟨fun a => ?_, fun a => fin 0 fun d1 d2 => ?_⟩
    · have hc : c ≠ 42 := fun z => by
        subst z
        exact absurd a (by decide)
      have hcN : c < vN v := by
        rcases hC with w | w
        · exact absurd w.1 hc
        · exact w.1
      have e1 : cI c = nI c := if_neg hc
      have fc := fin (nI (vcl v c)) fun _ _ => rfl
      rw [e1] at fc ⊢
      simp (disch := omega) only [pk_mul, nI_add, nI_1, nI_leI, nI_ltI, nI_eq, n_in, n_cl, z_eq, z_lt, z_le, z_gt, z_ge, z_qe, o_eq, o_lt, o_le, o_gt, o_ge, vp0, vp1, cl0, cl1, n_sub, n_sub1, n_pm1, n_a0, n_0a, ofn, lN0, Nat.reduceLT, Nat.reduceLeDiff, Nat.reduceMul, Nat.reduceSub, Nat.reduceEqDiff, ne_eq, true_implies, false_implies, not_true_eq_false, not_false_eq_true, and_self, and_true, true_and, and_false, false_and, implies_true, if_true, if_false, i00, i10, i01, i11, ob_0, ob_1, tn_2, ln_2, ob_3, tn_4, ln_4, ob_5, tn_6, ln_6, tn_7, ln_7, ob_8, tn_9, ln_9, tn_10, ln_10, tn_11, ln_11, tn_12, ln_12, tn_13, ln_13, tn_14, ln_14, tn_15, ln_15, tn_16, ln_16, tn_17, ln_17, ob_18, tn_19, ln_19, tn_20, ln_20, tn_21, ln_21, tn_22, ln_22, tn_23, ln_23, tn_24, ln_24, tn_25, ln_25, tn_26, ln_26, tn_27, ln_27, ob_28, tn_29, ln_29, tn_30, ln_30, ob_31, tn_32, ln_32, tn_33, ln_33, ob_34, ob_35, tn_36, ln_36, tn_37, ln_37, tn_38, ln_38, ob_39, tn_40, ln_40, tn_41, ln_41, tn_42, ln_42, tn_43, ln_43, tn_44, ln_44, tn_45, ln_45, tn_46, ln_46, tn_47, ln_47, tn_48, ln_48, tn_49, ln_49, tn_50, ln_50, tn_51, ln_51, ob_52, tn_53, ln_53, tn_54, ln_54, tn_55, ln_55, tn_56, ln_56, ob_57, tn_58, ln_58, tn_59, ln_59, tn_60, ln_60, tn_61, ln_61, tn_62, ln_62, tn_63, ln_63, tn_64, ln_64, tn_65, ln_65, ob_66, tn_67, ln_67, tn_68, ln_68, tn_69, ln_69, tn_70, ln_70, tn_71, ln_71, tn_72, ln_72, tn_73, ln_73, ob_74, tn_75, ln_75, tn_76, ln_76, tn_77, ln_77, tn_78, ln_78, tn_79, ln_79, tn_80, ln_80, tn_81, ln_81, tn_82, ln_82, tn_83, ln_83, ob_84, tn_85, ln_85, tn_86, ln_86, tn_87, ln_87, tn_88, ln_88, tn_89, ln_89, tn_90, ln_90, tn_91, ln_91, tn_92, ln_92, tn_93, ln_93, ob_94, tn_95, ln_95, tn_96, ln_96, tn_97, ln_97, tn_98, ln_98, tn_99, ln_99, tn_100, ln_100, tn_101, ln_101, tn_102, ln_102, tn_103, ln_103, ob_104, tn_105, ln_105, tn_106, ln_106, tn_107, ln_107, tn_108, ln_108, tn_109, ln_109, tn_110, ln_110, tn_111, ln_111, tn_112, ln_112, tn_113, ln_113, ob_114, tn_115, ln_115, tn_116, ln_116, tn_117, ln_117, tn_118, ln_118, tn_119, ln_119, tn_120, ln_120, tn_121, ln_121, tn_122, ln_122, tn_123, ln_123, ob_124, tn_125, ln_125, tn_126, ln_126, tn_127, ln_127, tn_128, ln_128, tn_129, ln_129, tn_130, ln_130, tn_131, ln_131, tn_132, ln_132, tn_133, ln_133, ob_134, tn_135, ln_135, tn_136, ln_136, tn_137, ln_137, tn_138, ln_138, tn_139, ln_139, tn_140, ln_140, tn_141, ln_141, tn_142, ln_142, tn_143, ln_143, ob_144, tn_145, ln_145, tn_146, ln_146, tn_147, ln_147, tn_148, ln_148, tn_149, ln_149, tn_150, ln_150, tn_151, ln_151, tn_152, ln_152, tn_153, ln_153, ob_154, tn_155, ln_155, tn_156, ln_156, tn_157, ln_157, tn_158, ln_158, tn_159, ln_159, tn_160, ln_160, tn_161, ln_161, tn_162, ln_162, tn_163, ln_163, ob_164, tn_165, ln_165, tn_166, ln_166, ob_167, tn_168, ln_168, tn_169, ln_169, tn_170, ln_170, tn_171, ln_171, tn_172, ln_172, tn_173, ln_173, tn_174, ln_174, tn_175, ln_175, tn_176, ln_176, ob_177, tn_178, ln_178, tn_179, ln_179, ob_180, tn_181, ln_181, tn_182, ln_182, tn_183, ln_183, tn_184, ln_184, tn_185, ln_185, tn_186, ln_186, tn_187, ln_187, tn_188, ln_188, tn_189, ln_189, tn_190, ln_190, tn_191, ln_191, tn_192, ln_192, tn_193, ln_193, tn_194, ln_194, tn_195, ln_195, tn_196, ln_196, tn_197, ln_197, tn_198, ln_198, tn_199, ln_199, tn_200, ln_200, tn_201, ln_201, tn_202, ln_202, tn_203, ln_203, tn_204, ln_204, tn_205, ln_205, tn_206, ln_206, tn_207, ln_207, tn_208, ln_208, tn_209, ln_209, tn_210, ln_210, tn_211, ln_211, tn_212, ln_212, tn_213, ln_213, tn_214, ln_214, tn_215, ln_215, tn_216, ln_216, tn_217, ln_217, tn_218, ln_218, tn_219, ln_219, tn_220, ln_220, tn_221, ln_221, tn_222, ln_222, tn_223, ln_223, tn_224, ln_224, tn_225, ln_225, tn_226, ln_226, tn_227, ln_227, tn_228, ln_228, tn_229, ln_229, tn_230, ln_230, lx2, lx3, lx4, lx5, lx6, lx7, lx8, lx9, lx10, lx14, lx15, lx16, lx18, lx20, lx24, lx25, lx27, lx32, lx36, lx40, lx41, lx42, lx43, lx45, lx48, lx52, lx54, lx56, lx57, lx58, lx60, lx61, lx62, lx63, lx64, lx66, lx69, lx73, lx80, lx81, lx84, lx85, lx87, lx94, lx96, lx97, lx120, lx128, lx135, lx160, lx162, lx163, lx165, lx200, lx232, lx242, lx243, lx255, lx256, lx320, lx325, lx400, lx405, lx464, lx512, lx600, lx640, lx752, lx900, lx940, lx1000, lx1024, lx1764, lx3360, lx3840, lx5000, lx6400, lx9050, lx9998, lx9999, lx10000, lx25600, lx76800, lx99999]
      rw [isR_cl hb.1.1 (by omega)]
      exact ⟨by omega, fc⟩
    · rcases hC with ⟨w, w2⟩ | w
      · rcases w2 with w2 | w2
        · exact absurd w2 d1
        · exact absurd w2 d2
      · have e1 : cI c = nI c := if_neg (by omega)
        rw [e1] at a
        exact absurd (nI_pos' (by omega)) a
  · rintro q x y A P - μ L st B ⟨v, R, i, c, r, o, hi, hi1, hx8, hx15, hP, hF, hb, hr, rfl, rfl, rfl⟩
    have hw := hb.1.2.1
    have hwc := hb.1.2.2.1
    have hN := vN_le hw
    have h10 := hw.2.2.1
    have h5 := hw.2.1
    have x15 := vnx_le hw i
    have hR2 := hb.1.1.1.2.2.1
    simp (disch := omega) only [k_X12_stepsOf_0, k_X12_stepsOf_36, k_X12_stepsOf_141, k_X12_stepsOf_17, k_X12_stepsOf_96, k_X12_stepsOf_175, k_X12_stepsOf_190, k_X12_stepsOf_196, w_RI, w_RII, x_aload, x_iadd, x_icmp_ge, x_icmp_le, x_icmp_lt, x_icmp_ne, x_if_eq, x_if_ge, x_if_lt, x_iinc, x_iload, x_imul, x_istore, x_isub, x_push, x_vret, y_bast, y_cv1, y_cv2, y_getF, y_getI, y_iald, xFT, xbool0, xbool1, Nat.reduceAdd, Nat.zero_add, xgl_0, xgl_s, xgl_n, xst_0, xst_1n, xst_1i, xst_1r, xst_1l, xst_s, set_0, set_s, true_and, and_true, xres, xcat_nil, xcat_i, xcat_r, xcat_l, Nat.add_zero, xble0, xble1, xble2, xble3, xble4, xble5, xble6, xble7, xble8, pk_mul, nI_add, nI_1, nI_leI, nI_ltI, nI_eq, n_in, n_cl, z_eq, z_lt, z_le, z_gt, z_ge, z_qe, o_eq, o_lt, o_le, o_gt, o_ge, vp0, vp1, cl0, cl1, n_sub, n_sub1, n_pm1, n_a0, n_0a, ofn, lN0, Nat.reduceLT, Nat.reduceLeDiff, Nat.reduceMul, Nat.reduceSub, Nat.reduceEqDiff, ne_eq, true_implies, false_implies, not_true_eq_false, not_false_eq_true, and_self, and_true, true_and, and_false, false_and, implies_true, if_true, if_false, i00, i10, i01, i11, ob_0, ob_1, tn_2, ln_2, ob_3, tn_4, ln_4, ob_5, tn_6, ln_6, tn_7, ln_7, ob_8, tn_9, ln_9, tn_10, ln_10, tn_11, ln_11, tn_12, ln_12, tn_13, ln_13, tn_14, ln_14, tn_15, ln_15, tn_16, ln_16, tn_17, ln_17, ob_18, tn_19, ln_19, tn_20, ln_20, tn_21, ln_21, tn_22, ln_22, tn_23, ln_23, tn_24, ln_24, tn_25, ln_25, tn_26, ln_26, tn_27, ln_27, ob_28, tn_29, ln_29, tn_30, ln_30, ob_31, tn_32, ln_32, tn_33, ln_33, ob_34, ob_35, tn_36, ln_36, tn_37, ln_37, tn_38, ln_38, ob_39, tn_40, ln_40, tn_41, ln_41, tn_42, ln_42, tn_43, ln_43, tn_44, ln_44, tn_45, ln_45, tn_46, ln_46, tn_47, ln_47, tn_48, ln_48, tn_49, ln_49, tn_50, ln_50, tn_51, ln_51, ob_52, tn_53, ln_53, tn_54, ln_54, tn_55, ln_55, tn_56, ln_56, ob_57, tn_58, ln_58, tn_59, ln_59, tn_60, ln_60, tn_61, ln_61, tn_62, ln_62, tn_63, ln_63, tn_64, ln_64, tn_65, ln_65, ob_66, tn_67, ln_67, tn_68, ln_68, tn_69, ln_69, tn_70, ln_70, tn_71, ln_71, tn_72, ln_72, tn_73, ln_73, ob_74, tn_75, ln_75, tn_76, ln_76, tn_77, ln_77, tn_78, ln_78, tn_79, ln_79, tn_80, ln_80, tn_81, ln_81, tn_82, ln_82, tn_83, ln_83, ob_84, tn_85, ln_85, tn_86, ln_86, tn_87, ln_87, tn_88, ln_88, tn_89, ln_89, tn_90, ln_90, tn_91, ln_91, tn_92, ln_92, tn_93, ln_93, ob_94, tn_95, ln_95, tn_96, ln_96, tn_97, ln_97, tn_98, ln_98, tn_99, ln_99, tn_100, ln_100, tn_101, ln_101, tn_102, ln_102, tn_103, ln_103, ob_104, tn_105, ln_105, tn_106, ln_106, tn_107, ln_107, tn_108, ln_108, tn_109, ln_109, tn_110, ln_110, tn_111, ln_111, tn_112, ln_112, tn_113, ln_113, ob_114, tn_115, ln_115, tn_116, ln_116, tn_117, ln_117, tn_118, ln_118, tn_119, ln_119, tn_120, ln_120, tn_121, ln_121, tn_122, ln_122, tn_123, ln_123, ob_124, tn_125, ln_125, tn_126, ln_126, tn_127, ln_127, tn_128, ln_128, tn_129, ln_129, tn_130, ln_130, tn_131, ln_131, tn_132, ln_132, tn_133, ln_133, ob_134, tn_135, ln_135, tn_136, ln_136, tn_137, ln_137, tn_138, ln_138, tn_139, ln_139, tn_140, ln_140, tn_141, ln_141, tn_142, ln_142, tn_143, ln_143, ob_144, tn_145, ln_145, tn_146, ln_146, tn_147, ln_147, tn_148, ln_148, tn_149, ln_149, tn_150, ln_150, tn_151, ln_151, tn_152, ln_152, tn_153, ln_153, ob_154, tn_155, ln_155, tn_156, ln_156, tn_157, ln_157, tn_158, ln_158, tn_159, ln_159, tn_160, ln_160, tn_161, ln_161, tn_162, ln_162, tn_163, ln_163, ob_164, tn_165, ln_165, tn_166, ln_166, ob_167, tn_168, ln_168, tn_169, ln_169, tn_170, ln_170, tn_171, ln_171, tn_172, ln_172, tn_173, ln_173, tn_174, ln_174, tn_175, ln_175, tn_176, ln_176, ob_177, tn_178, ln_178, tn_179, ln_179, ob_180, tn_181, ln_181, tn_182, ln_182, tn_183, ln_183, tn_184, ln_184, tn_185, ln_185, tn_186, ln_186, tn_187, ln_187, tn_188, ln_188, tn_189, ln_189, tn_190, ln_190, tn_191, ln_191, tn_192, ln_192, tn_193, ln_193, tn_194, ln_194, tn_195, ln_195, tn_196, ln_196, tn_197, ln_197, tn_198, ln_198, tn_199, ln_199, tn_200, ln_200, tn_201, ln_201, tn_202, ln_202, tn_203, ln_203, tn_204, ln_204, tn_205, ln_205, tn_206, ln_206, tn_207, ln_207, tn_208, ln_208, tn_209, ln_209, tn_210, ln_210, tn_211, ln_211, tn_212, ln_212, tn_213, ln_213, tn_214, ln_214, tn_215, ln_215, tn_216, ln_216, tn_217, ln_217, tn_218, ln_218, tn_219, ln_219, tn_220, ln_220, tn_221, ln_221, tn_222, ln_222, tn_223, ln_223, tn_224, ln_224, tn_225, ln_225, tn_226, ln_226, tn_227, ln_227, tn_228, ln_228, tn_229, ln_229, tn_230, ln_230, lx2, lx3, lx4, lx5, lx6, lx7, lx8, lx9, lx10, lx14, lx15, lx16, lx18, lx20, lx24, lx25, lx27, lx32, lx36, lx40, lx41, lx42, lx43, lx45, lx48, lx52, lx54, lx56, lx57, lx58, lx60, lx61, lx62, lx63, lx64, lx66, lx69, lx73, lx80, lx81, lx84, lx85, lx87, lx94, lx96, lx97, lx120, lx128, lx135, lx160, lx162, lx163, lx165, lx200, lx232, lx242, lx243, lx255, lx256, lx320, lx325, lx400, lx405, lx464, lx512, lx600, lx640, lx752, lx900, lx940, lx1000, lx1024, lx1764, lx3360, lx3840, lx5000, lx6400, lx9050, lx9998, lx9999, lx10000, lx25600, lx76800, lx99999, hR2]
    have nxt : ∀ C, fr SGo B C → bU C v (fun l Q => R l Q ∨ opR v i (r + 1) l Q) → r < vR v → xB (so36 A P) (vR v - r, 0, 0) [some (.ref 180), some (.int (nI i)), some (.int (cI c)), o, some (.int (nI (vnx v i))), some (.int (nI (r + 1)))] [] C := fun C hC bC hlt =>
      xB1 (b := vR v - (r + 1)) (by omega) ⟨v, R, i, c, r + 1, o, hi, hi1, hx8, hx15, hP, fr_tr hF hC, bC, by omega, rfl, rfl, rfl⟩
    refine ⟨fun a => ?_, fun a => ?_⟩
    · have e : r = vR v := by omega
      subst e
      refine hP B hF (bU_congr hb fun l Q => ?_)
      unfold soR
      constructor
      · rintro (w | w)
        · exact Or.inl w
        · exact Or.inr (Or.inl ⟨hx8, hx15, w⟩)
      · rintro (w | w | w | w)
        · exact Or.inl w
        · exact Or.inr w.2.2
        · omega
        · exact absurd w.1 hx15
    · have hk := (hw.2.2.2.2 r (by omega)).1
      rw [kindOf_E (by omega), isR_k hb.1.1 (by omega)]
      simp (disch := omega) only [k_X12_stepsOf_0, k_X12_stepsOf_36, k_X12_stepsOf_141, k_X12_stepsOf_17, k_X12_stepsOf_96, k_X12_stepsOf_175, k_X12_stepsOf_190, k_X12_stepsOf_196, w_RI, w_RII, x_aload, x_iadd, x_icmp_ge, x_icmp_le, x_icmp_lt, x_icmp_ne, x_if_eq, x_if_ge, x_if_lt, x_iinc, x_iload, x_imul, x_istore, x_isub, x_push, x_vret, y_bast, y_cv1, y_cv2, y_getF, y_getI, y_iald, xFT, xbool0, xbool1, Nat.reduceAdd, Nat.zero_add, xgl_0, xgl_s, xgl_n, xst_0, xst_1n, xst_1i, xst_1r, xst_1l, xst_s, set_0, set_s, true_and, and_true, xres, xcat_nil, xcat_i, xcat_r, xcat_l, Nat.add_zero, xble0, xble1, xble2, xble3, xble4, xble5, xble6, xble7, xble8, pk_mul, nI_add, nI_1, nI_leI, nI_ltI, nI_eq, n_in, n_cl, z_eq, z_lt, z_le, z_gt, z_ge, z_qe, o_eq, o_lt, o_le, o_gt, o_ge, vp0, vp1, cl0, cl1, n_sub, n_sub1, n_pm1, n_a0, n_0a, ofn, lN0, Nat.reduceLT, Nat.reduceLeDiff, Nat.reduceMul, Nat.reduceSub, Nat.reduceEqDiff, ne_eq, true_implies, false_implies, not_true_eq_false, not_false_eq_true, and_self, and_true, true_and, and_false, false_and, implies_true, if_true, if_false, i00, i10, i01, i11, ob_0, ob_1, tn_2, ln_2, ob_3, tn_4, ln_4, ob_5, tn_6, ln_6, tn_7, ln_7, ob_8, tn_9, ln_9, tn_10, ln_10, tn_11, ln_11, tn_12, ln_12, tn_13, ln_13, tn_14, ln_14, tn_15, ln_15, tn_16, ln_16, tn_17, ln_17, ob_18, tn_19, ln_19, tn_20, ln_20, tn_21, ln_21, tn_22, ln_22, tn_23, ln_23, tn_24, ln_24, tn_25, ln_25, tn_26, ln_26, tn_27, ln_27, ob_28, tn_29, ln_29, tn_30, ln_30, ob_31, tn_32, ln_32, tn_33, ln_33, ob_34, ob_35, tn_36, ln_36, tn_37, ln_37, tn_38, ln_38, ob_39, tn_40, ln_40, tn_41, ln_41, tn_42, ln_42, tn_43, ln_43, tn_44, ln_44, tn_45, ln_45, tn_46, ln_46, tn_47, ln_47, tn_48, ln_48, tn_49, ln_49, tn_50, ln_50, tn_51, ln_51, ob_52, tn_53, ln_53, tn_54, ln_54, tn_55, ln_55, tn_56, ln_56, ob_57, tn_58, ln_58, tn_59, ln_59, tn_60, ln_60, tn_61, ln_61, tn_62, ln_62, tn_63, ln_63, tn_64, ln_64, tn_65, ln_65, ob_66, tn_67, ln_67, tn_68, ln_68, tn_69, ln_69, tn_70, ln_70, tn_71, ln_71, tn_72, ln_72, tn_73, ln_73, ob_74, tn_75, ln_75, tn_76, ln_76, tn_77, ln_77, tn_78, ln_78, tn_79, ln_79, tn_80, ln_80, tn_81, ln_81, tn_82, ln_82, tn_83, ln_83, ob_84, tn_85, ln_85, tn_86, ln_86, tn_87, ln_87, tn_88, ln_88, tn_89, ln_89, tn_90, ln_90, tn_91, ln_91, tn_92, ln_92, tn_93, ln_93, ob_94, tn_95, ln_95, tn_96, ln_96, tn_97, ln_97, tn_98, ln_98, tn_99, ln_99, tn_100, ln_100, tn_101, ln_101, tn_102, ln_102, tn_103, ln_103, ob_104, tn_105, ln_105, tn_106, ln_106, tn_107, ln_107, tn_108, ln_108, tn_109, ln_109, tn_110, ln_110, tn_111, ln_111, tn_112, ln_112, tn_113, ln_113, ob_114, tn_115, ln_115, tn_116, ln_116, tn_117, ln_117, tn_118, ln_118, tn_119, ln_119, tn_120, ln_120, tn_121, ln_121, tn_122, ln_122, tn_123, ln_123, ob_124, tn_125, ln_125, tn_126, ln_126, tn_127, ln_127, tn_128, ln_128, tn_129, ln_129, tn_130, ln_130, tn_131, ln_131, tn_132, ln_132, tn_133, ln_133, ob_134, tn_135, ln_135, tn_136, ln_136, tn_137, ln_137, tn_138, ln_138, tn_139, ln_139, tn_140, ln_140, tn_141, ln_141, tn_142, ln_142, tn_143, ln_143, ob_144, tn_145, ln_145, tn_146, ln_146, tn_147, ln_147, tn_148, ln_148, tn_149, ln_149, tn_150, ln_150, tn_151, ln_151, tn_152, ln_152, tn_153, ln_153, ob_154, tn_155, ln_155, tn_156, ln_156, tn_157, ln_157, tn_158, ln_158, tn_159, ln_159, tn_160, ln_160, tn_161, ln_161, tn_162, ln_162, tn_163, ln_163, ob_164, tn_165, ln_165, tn_166, ln_166, ob_167, tn_168, ln_168, tn_169, ln_169, tn_170, ln_170, tn_171, ln_171, tn_172, ln_172, tn_173, ln_173, tn_174, ln_174, tn_175, ln_175, tn_176, ln_176, ob_177, tn_178, ln_178, tn_179, ln_179, ob_180, tn_181, ln_181, tn_182, ln_182, tn_183, ln_183, tn_184, ln_184, tn_185, ln_185, tn_186, ln_186, tn_187, ln_187, tn_188, ln_188, tn_189, ln_189, tn_190, ln_190, tn_191, ln_191, tn_192, ln_192, tn_193, ln_193, tn_194, ln_194, tn_195, ln_195, tn_196, ln_196, tn_197, ln_197, tn_198, ln_198, tn_199, ln_199, tn_200, ln_200, tn_201, ln_201, tn_202, ln_202, tn_203, ln_203, tn_204, ln_204, tn_205, ln_205, tn_206, ln_206, tn_207, ln_207, tn_208, ln_208, tn_209, ln_209, tn_210, ln_210, tn_211, ln_211, tn_212, ln_212, tn_213, ln_213, tn_214, ln_214, tn_215, ln_215, tn_216, ln_216, tn_217, ln_217, tn_218, ln_218, tn_219, ln_219, tn_220, ln_220, tn_221, ln_221, tn_222, ln_222, tn_223, ln_223, tn_224, ln_224, tn_225, ln_225, tn_226, ln_226, tn_227, ln_227, tn_228, ln_228, tn_229, ln_229, tn_230, ln_230, lx2, lx3, lx4, lx5, lx6, lx7, lx8, lx9, lx10, lx14, lx15, lx16, lx18, lx20, lx24, lx25, lx27, lx32, lx36, lx40, lx41, lx42, lx43, lx45, lx48, lx52, lx54, lx56, lx57, lx58, lx60, lx61, lx62, lx63, lx64, lx66, lx69, lx73, lx80, lx81, lx84, lx85, lx87, lx94, lx96, lx97, lx120, lx128, lx135, lx160, lx162, lx163, lx165, lx200, lx232, lx242, lx243, lx255, lx256, lx320, lx325, lx400, lx405, lx464, lx512, lx600, lx640, lx752, lx900, lx940, lx1000, lx1024, lx1764, lx3360, lx3840, lx5000, lx6400, lx9050, lx9998, lx9999, lx10000, lx25600, lx76800, lx99999, hR2]
      refine ⟨fun d => nxt B fr_rf (bU_congr hb fun l Q => ?_) (by omega), fun d => ⟨by omega, by omega, ?_⟩⟩
      · unfold opR
        constructor
        · rintro (w | ⟨r', w1, w2⟩)
          · exact Or.inl w
          · exact Or.inr ⟨r', by omega, w2⟩
        · rintro (w | ⟨r', w1, w2⟩)
          · exact Or.inl w
          · have : r' ≠ r := fun e => by subst e; omega
            exact Or.inr ⟨r', by omega, w2⟩
      · obtain ⟨f1, f2, f3⟩ := fst_it (v := v) (r := r) (by omega)
        have hv := (hwc i (by omega)).1
        obtain ⟨hpl, -, -⟩ := op_pl' hw hwc hi (Q := (vcl v (vfst v r), cD v (vcl v i))) (s := 4 + r) ⟨r, by omega, by omega, rfl, rfl⟩
        obtain ⟨p, hp, -⟩ := plA_of hpl
        have hp80 := plA_80 hb.2.1 hp
        rw [isR_cl hb.1.1 (by omega), hb.1.2.2.2.2.1 r (by omega)]
        refine atItem_U hb.1 hb.2.1 f2 (p := p) (Or.inr (Or.inr ⟨f1, vcl v i, hp, fun _ => ⟨rfl, by omega⟩⟩)) ?_
        simp (disch := omega) only [k_X12_stepsOf_0, k_X12_stepsOf_36, k_X12_stepsOf_141, k_X12_stepsOf_17, k_X12_stepsOf_96, k_X12_stepsOf_175, k_X12_stepsOf_190, k_X12_stepsOf_196, w_RI, w_RII, x_aload, x_iadd, x_icmp_ge, x_icmp_le, x_icmp_lt, x_icmp_ne, x_if_eq, x_if_ge, x_if_lt, x_iinc, x_iload, x_imul, x_istore, x_isub, x_push, x_vret, y_bast, y_cv1, y_cv2, y_getF, y_getI, y_iald, xFT, xbool0, xbool1, Nat.reduceAdd, Nat.zero_add, xgl_0, xgl_s, xgl_n, xst_0, xst_1n, xst_1i, xst_1r, xst_1l, xst_s, set_0, set_s, true_and, and_true, xres, xcat_nil, xcat_i, xcat_r, xcat_l, Nat.add_zero, xble0, xble1, xble2, xble3, xble4, xble5, xble6, xble7, xble8, pk_mul, nI_add, nI_1, nI_leI, nI_ltI, nI_eq, n_in, n_cl, z_eq, z_lt, z_le, z_gt, z_ge, z_qe, o_eq, o_lt, o_le, o_gt, o_ge, vp0, vp1, cl0, cl1, n_sub, n_sub1, n_pm1, n_a0, n_0a, ofn, lN0, Nat.reduceLT, Nat.reduceLeDiff, Nat.reduceMul, Nat.reduceSub, Nat.reduceEqDiff, ne_eq, true_implies, false_implies, not_true_eq_false, not_false_eq_true, and_self, and_true, true_and, and_false, false_and, implies_true, if_true, if_false, i00, i10, i01, i11, ob_0, ob_1, tn_2, ln_2, ob_3, tn_4, ln_4, ob_5, tn_6, ln_6, tn_7, ln_7, ob_8, tn_9, ln_9, tn_10, ln_10, tn_11, ln_11, tn_12, ln_12, tn_13, ln_13, tn_14, ln_14, tn_15, ln_15, tn_16, ln_16, tn_17, ln_17, ob_18, tn_19, ln_19, tn_20, ln_20, tn_21, ln_21, tn_22, ln_22, tn_23, ln_23, tn_24, ln_24, tn_25, ln_25, tn_26, ln_26, tn_27, ln_27, ob_28, tn_29, ln_29, tn_30, ln_30, ob_31, tn_32, ln_32, tn_33, ln_33, ob_34, ob_35, tn_36, ln_36, tn_37, ln_37, tn_38, ln_38, ob_39, tn_40, ln_40, tn_41, ln_41, tn_42, ln_42, tn_43, ln_43, tn_44, ln_44, tn_45, ln_45, tn_46, ln_46, tn_47, ln_47, tn_48, ln_48, tn_49, ln_49, tn_50, ln_50, tn_51, ln_51, ob_52, tn_53, ln_53, tn_54, ln_54, tn_55, ln_55, tn_56, ln_56, ob_57, tn_58, ln_58, tn_59, ln_59, tn_60, ln_60, tn_61, ln_61, tn_62, ln_62, tn_63, ln_63, tn_64, ln_64, tn_65, ln_65, ob_66, tn_67, ln_67, tn_68, ln_68, tn_69, ln_69, tn_70, ln_70, tn_71, ln_71, tn_72, ln_72, tn_73, ln_73, ob_74, tn_75, ln_75, tn_76, ln_76, tn_77, ln_77, tn_78, ln_78, tn_79, ln_79, tn_80, ln_80, tn_81, ln_81, tn_82, ln_82, tn_83, ln_83, ob_84, tn_85, ln_85, tn_86, ln_86, tn_87, ln_87, tn_88, ln_88, tn_89, ln_89, tn_90, ln_90, tn_91, ln_91, tn_92, ln_92, tn_93, ln_93, ob_94, tn_95, ln_95, tn_96, ln_96, tn_97, ln_97, tn_98, ln_98, tn_99, ln_99, tn_100, ln_100, tn_101, ln_101, tn_102, ln_102, tn_103, ln_103, ob_104, tn_105, ln_105, tn_106, ln_106, tn_107, ln_107, tn_108, ln_108, tn_109, ln_109, tn_110, ln_110, tn_111, ln_111, tn_112, ln_112, tn_113, ln_113, ob_114, tn_115, ln_115, tn_116, ln_116, tn_117, ln_117, tn_118, ln_118, tn_119, ln_119, tn_120, ln_120, tn_121, ln_121, tn_122, ln_122, tn_123, ln_123, ob_124, tn_125, ln_125, tn_126, ln_126, tn_127, ln_127, tn_128, ln_128, tn_129, ln_129, tn_130, ln_130, tn_131, ln_131, tn_132, ln_132, tn_133, ln_133, ob_134, tn_135, ln_135, tn_136, ln_136, tn_137, ln_137, tn_138, ln_138, tn_139, ln_139, tn_140, ln_140, tn_141, ln_141, tn_142, ln_142, tn_143, ln_143, ob_144, tn_145, ln_145, tn_146, ln_146, tn_147, ln_147, tn_148, ln_148, tn_149, ln_149, tn_150, ln_150, tn_151, ln_151, tn_152, ln_152, tn_153, ln_153, ob_154, tn_155, ln_155, tn_156, ln_156, tn_157, ln_157, tn_158, ln_158, tn_159, ln_159, tn_160, ln_160, tn_161, ln_161, tn_162, ln_162, tn_163, ln_163, ob_164, tn_165, ln_165, tn_166, ln_166, ob_167, tn_168, ln_168, tn_169, ln_169, tn_170, ln_170, tn_171, ln_171, tn_172, ln_172, tn_173, ln_173, tn_174, ln_174, tn_175, ln_175, tn_176, ln_176, ob_177, tn_178, ln_178, tn_179, ln_179, ob_180, tn_181, ln_181, tn_182, ln_182, tn_183, ln_183, tn_184, ln_184, tn_185, ln_185, tn_186, ln_186, tn_187, ln_187, tn_188, ln_188, tn_189, ln_189, tn_190, ln_190, tn_191, ln_191, tn_192, ln_192, tn_193, ln_193, tn_194, ln_194, tn_195, ln_195, tn_196, ln_196, tn_197, ln_197, tn_198, ln_198, tn_199, ln_199, tn_200, ln_200, tn_201, ln_201, tn_202, ln_202, tn_203, ln_203, tn_204, ln_204, tn_205, ln_205, tn_206, ln_206, tn_207, ln_207, tn_208, ln_208, tn_209, ln_209, tn_210, ln_210, tn_211, ln_211, tn_212, ln_212, tn_213, ln_213, tn_214, ln_214, tn_215, ln_215, tn_216, ln_216, tn_217, ln_217, tn_218, ln_218, tn_219, ln_219, tn_220, ln_220, tn_221, ln_221, tn_222, ln_222, tn_223, ln_223, tn_224, ln_224, tn_225, ln_225, tn_226, ln_226, tn_227, ln_227, tn_228, ln_228, tn_229, ln_229, tn_230, ln_230, lx2, lx3, lx4, lx5, lx6, lx7, lx8, lx9, lx10, lx14, lx15, lx16, lx18, lx20, lx24, lx25, lx27, lx32, lx36, lx40, lx41, lx42, lx43, lx45, lx48, lx52, lx54, lx56, lx57, lx58, lx60, lx61, lx62, lx63, lx64, lx66, lx69, lx73, lx80, lx81, lx84, lx85, lx87, lx94, lx96, lx97, lx120, lx128, lx135, lx160, lx162, lx163, lx165, lx200, lx232, lx242, lx243, lx255, lx256, lx320, lx325, lx400, lx405, lx464, lx512, lx600, lx640, lx752, lx900, lx940, lx1000, lx1024, lx1764, lx3360, lx3840, lx5000, lx6400, lx9050, lx9998, lx9999, lx10000, lx25600, lx76800, lx99999, hR2]
        refine ⟨by omega, nxt _ (fr_si fr_rf (by unfold SGo; omega)) ?_ (by omega)⟩
        rw [Nat.mul_comm 80 (16 + r)]
        refine bU_congr (bU_add hb hp) fun l Q => ?_
        unfold opR
        constructor
        · rintro ((w | ⟨r', w1, w2⟩) | ⟨w1, w2⟩)
          · exact Or.inl w
          · exact Or.inr ⟨r', by omega, w2⟩
          · exact Or.inr ⟨r, by omega, by omega, w1, w2⟩
        · rintro (w | ⟨r', w1, w2, w3, w4⟩)
          · exact Or.inl (Or.inl w)
          · by_cases e : r' = r
            · subst e; exact Or.inr ⟨w3, w4⟩
            · exact Or.inl (Or.inr ⟨r', by omega, w2, w3, w4⟩)
  · rintro q x y A P - μ L st B ⟨v, R, i, c, j, o, hi, h2, hx, hc, hc2, hP, hF, hb, hj, rfl, rfl, rfl⟩
    have hw := hb.1.2.1
    have hN := vN_le hw
    have h24 := hb.1.2.2.2.1
    have h10 := hw.2.2.1
    have h5 := hw.2.1
    have hs := vri_sp h2 hi
    have hk := (hw.2.2.2.2 _ hs.1).1
    have h88 : xi B 188 i = nI (vri v i) := by
      have := (hb.1.2.2.2.2.2 i hi).1
      rw [if_neg (by omega)] at this
      exact this
    simp (disch := omega) only [k_X12_stepsOf_0, k_X12_stepsOf_36, k_X12_stepsOf_141, k_X12_stepsOf_17, k_X12_stepsOf_96, k_X12_stepsOf_175, k_X12_stepsOf_190, k_X12_stepsOf_196, w_RI, w_RII, x_aload, x_iadd, x_icmp_ge, x_icmp_le, x_icmp_lt, x_icmp_ne, x_if_eq, x_if_ge, x_if_lt, x_iinc, x_iload, x_imul, x_istore, x_isub, x_push, x_vret, y_bast, y_cv1, y_cv2, y_getF, y_getI, y_iald, xFT, xbool0, xbool1, Nat.reduceAdd, Nat.zero_add, xgl_0, xgl_s, xgl_n, xst_0, xst_1n, xst_1i, xst_1r, xst_1l, xst_s, set_0, set_s, true_and, and_true, xres, xcat_nil, xcat_i, xcat_r, xcat_l, Nat.add_zero, xble0, xble1, xble2, xble3, xble4, xble5, xble6, xble7, xble8, pk_mul, nI_add, nI_1, nI_leI, nI_ltI, nI_eq, n_in, n_cl, z_eq, z_lt, z_le, z_gt, z_ge, z_qe, o_eq, o_lt, o_le, o_gt, o_ge, vp0, vp1, cl0, cl1, n_sub, n_sub1, n_pm1, n_a0, n_0a, ofn, lN0, Nat.reduceLT, Nat.reduceLeDiff, Nat.reduceMul, Nat.reduceSub, Nat.reduceEqDiff, ne_eq, true_implies, false_implies, not_true_eq_false, not_false_eq_true, and_self, and_true, true_and, and_false, false_and, implies_true, if_true, if_false, i00, i10, i01, i11, ob_0, ob_1, tn_2, ln_2, ob_3, tn_4, ln_4, ob_5, tn_6, ln_6, tn_7, ln_7, ob_8, tn_9, ln_9, tn_10, ln_10, tn_11, ln_11, tn_12, ln_12, tn_13, ln_13, tn_14, ln_14, tn_15, ln_15, tn_16, ln_16, tn_17, ln_17, ob_18, tn_19, ln_19, tn_20, ln_20, tn_21, ln_21, tn_22, ln_22, tn_23, ln_23, tn_24, ln_24, tn_25, ln_25, tn_26, ln_26, tn_27, ln_27, ob_28, tn_29, ln_29, tn_30, ln_30, ob_31, tn_32, ln_32, tn_33, ln_33, ob_34, ob_35, tn_36, ln_36, tn_37, ln_37, tn_38, ln_38, ob_39, tn_40, ln_40, tn_41, ln_41, tn_42, ln_42, tn_43, ln_43, tn_44, ln_44, tn_45, ln_45, tn_46, ln_46, tn_47, ln_47, tn_48, ln_48, tn_49, ln_49, tn_50, ln_50, tn_51, ln_51, ob_52, tn_53, ln_53, tn_54, ln_54, tn_55, ln_55, tn_56, ln_56, ob_57, tn_58, ln_58, tn_59, ln_59, tn_60, ln_60, tn_61, ln_61, tn_62, ln_62, tn_63, ln_63, tn_64, ln_64, tn_65, ln_65, ob_66, tn_67, ln_67, tn_68, ln_68, tn_69, ln_69, tn_70, ln_70, tn_71, ln_71, tn_72, ln_72, tn_73, ln_73, ob_74, tn_75, ln_75, tn_76, ln_76, tn_77, ln_77, tn_78, ln_78, tn_79, ln_79, tn_80, ln_80, tn_81, ln_81, tn_82, ln_82, tn_83, ln_83, ob_84, tn_85, ln_85, tn_86, ln_86, tn_87, ln_87, tn_88, ln_88, tn_89, ln_89, tn_90, ln_90, tn_91, ln_91, tn_92, ln_92, tn_93, ln_93, ob_94, tn_95, ln_95, tn_96, ln_96, tn_97, ln_97, tn_98, ln_98, tn_99, ln_99, tn_100, ln_100, tn_101, ln_101, tn_102, ln_102, tn_103, ln_103, ob_104, tn_105, ln_105, tn_106, ln_106, tn_107, ln_107, tn_108, ln_108, tn_109, ln_109, tn_110, ln_110, tn_111, ln_111, tn_112, ln_112, tn_113, ln_113, ob_114, tn_115, ln_115, tn_116, ln_116, tn_117, ln_117, tn_118, ln_118, tn_119, ln_119, tn_120, ln_120, tn_121, ln_121, tn_122, ln_122, tn_123, ln_123, ob_124, tn_125, ln_125, tn_126, ln_126, tn_127, ln_127, tn_128, ln_128, tn_129, ln_129, tn_130, ln_130, tn_131, ln_131, tn_132, ln_132, tn_133, ln_133, ob_134, tn_135, ln_135, tn_136, ln_136, tn_137, ln_137, tn_138, ln_138, tn_139, ln_139, tn_140, ln_140, tn_141, ln_141, tn_142, ln_142, tn_143, ln_143, ob_144, tn_145, ln_145, tn_146, ln_146, tn_147, ln_147, tn_148, ln_148, tn_149, ln_149, tn_150, ln_150, tn_151, ln_151, tn_152, ln_152, tn_153, ln_153, ob_154, tn_155, ln_155, tn_156, ln_156, tn_157, ln_157, tn_158, ln_158, tn_159, ln_159, tn_160, ln_160, tn_161, ln_161, tn_162, ln_162, tn_163, ln_163, ob_164, tn_165, ln_165, tn_166, ln_166, ob_167, tn_168, ln_168, tn_169, ln_169, tn_170, ln_170, tn_171, ln_171, tn_172, ln_172, tn_173, ln_173, tn_174, ln_174, tn_175, ln_175, tn_176, ln_176, ob_177, tn_178, ln_178, tn_179, ln_179, ob_180, tn_181, ln_181, tn_182, ln_182, tn_183, ln_183, tn_184, ln_184, tn_185, ln_185, tn_186, ln_186, tn_187, ln_187, tn_188, ln_188, tn_189, ln_189, tn_190, ln_190, tn_191, ln_191, tn_192, ln_192, tn_193, ln_193, tn_194, ln_194, tn_195, ln_195, tn_196, ln_196, tn_197, ln_197, tn_198, ln_198, tn_199, ln_199, tn_200, ln_200, tn_201, ln_201, tn_202, ln_202, tn_203, ln_203, tn_204, ln_204, tn_205, ln_205, tn_206, ln_206, tn_207, ln_207, tn_208, ln_208, tn_209, ln_209, tn_210, ln_210, tn_211, ln_211, tn_212, ln_212, tn_213, ln_213, tn_214, ln_214, tn_215, ln_215, tn_216, ln_216, tn_217, ln_217, tn_218, ln_218, tn_219, ln_219, tn_220, ln_220, tn_221, ln_221, tn_222, ln_222, tn_223, ln_223, tn_224, ln_224, tn_225, ln_225, tn_226, ln_226, tn_227, ln_227, tn_228, ln_228, tn_229, ln_229, tn_230, ln_230, lx2, lx3, lx4, lx5, lx6, lx7, lx8, lx9, lx10, lx14, lx15, lx16, lx18, lx20, lx24, lx25, lx27, lx32, lx36, lx40, lx41, lx42, lx43, lx45, lx48, lx52, lx54, lx56, lx57, lx58, lx60, lx61, lx62, lx63, lx64, lx66, lx69, lx73, lx80, lx81, lx84, lx85, lx87, lx94, lx96, lx97, lx120, lx128, lx135, lx160, lx162, lx163, lx165, lx200, lx232, lx242, lx243, lx255, lx256, lx320, lx325, lx400, lx405, lx464, lx512, lx600, lx640, lx752, lx900, lx940, lx1000, lx1024, lx1764, lx3360, lx3840, lx5000, lx6400, lx9050, lx9998, lx9999, lx10000, lx25600, lx76800, lx99999, h24]
    have nxt : ∀ C, fr SGo B C → bU C v (fun l Q => R l Q ∨ coR v i c (j + 1) l Q) → j < vN v → xB (so141 A P) (vN v - j, 0, 0) [some (.ref 180), some (.int (nI i)), some (.int (cI c)), o, some (.int (-1)), some (.int (nI (j + 1)))] [] C := fun C hC bC hlt =>
      xB1 (b := vN v - (j + 1)) (by omega) ⟨v, R, i, c, j + 1, o, hi, h2, hx, hc, hc2, hP, fr_tr hF hC, bC, by omega, rfl, rfl, rfl⟩
    have no : ¬ (frT v i j ∧ (vD v = 0 ∨ j = c)) → j < vN v → xB (so141 A P) (vN v - j, 0, 0) [some (.ref 180), some (.int (nI i)), some (.int (cI c)), o, some (.int (-1)), some (.int (nI (j + 1)))] [] B := fun z hlt => nxt B fr_rf (bU_congr hb fun l Q => by
      unfold coR
      constructor
      · rintro (w | ⟨w1, j', w2, w3⟩)
        · exact Or.inl w
        · exact Or.inr ⟨w1, j', by omega, w3⟩
      · rintro (w | ⟨w1, j', w2, w3, w4, w5⟩)
        · exact Or.inl w
        · by_cases e : j' = j
          · subst e; exact absurd ⟨w3, w4⟩ z
          · exact Or.inr ⟨w1, j', by omega, w3, w4, w5⟩) hlt
    have yes : ∀ P' : xP, (∀ C, xB (so141 A P) (vN v - j, 0, 0) [some (.ref 180), some (.int (nI i)), some (.int (cI c)), o, some (.int (-1)), some (.int (nI (j + 1)))] [] C → P' none C) → frT v i j → (vD v = 0 ∨ j = c) → j < vN v → f_X12_closes 180 (nI (32 + vri v i)) (nI j) B P' := fun P' hP' z1 z2 hlt => by
      refine ⟨rfl, v, _, 32 + vri v i, j, hb, rfl, rfl, by omega, hlt, by rw [z1.2]; omega, fun C hC bC => hP' C (nxt C hC (bU_congr bC fun l Q => ?_) hlt)⟩
      unfold coR
      constructor
      · rintro ((w | ⟨w1, j', w2, w3⟩) | ⟨w1, w2⟩)
        · exact Or.inl w
        · exact Or.inr ⟨w1, j', by omega, w3⟩
        · exact Or.inr ⟨w1, j, by omega, z1, z2, w2⟩
      · rintro (w | ⟨w1, j', w2, w3, w4, w5⟩)
        · exact Or.inl (Or.inl w)
        · by_cases e : j' = j
          · subst e; exact Or.inr ⟨w1, w5⟩
          · exact Or.inl (Or.inr ⟨w1, j', by omega, w3, w4, w5⟩)
    refine ⟨fun a => ?_, fun a => isFrom_U hb.1 hi (by omega) ?_⟩
    · have e : j = vN v := by omega
      subst e
      refine hP B hF (bU_congr hb fun l Q => ?_)
      unfold soR
      constructor
      · rintro (w | w)
        · exact Or.inl w
        · exact Or.inr (Or.inr (Or.inr ⟨hx, h2, w⟩))
      · rintro (w | w | w | w)
        · exact Or.inl w
        · exact absurd hx w.2.1
        · omega
        · exact Or.inr w.2.2
    · have hDl := hw.2.2.2.1
      have ejc : nI j = cI c ↔ j = c := by
        have e1 : cI j = nI j := if_neg (by omega)
        rw [← e1, cI_eq (by omega) hc]
      simp (disch := omega) only [k_X12_stepsOf_0, k_X12_stepsOf_36, k_X12_stepsOf_141, k_X12_stepsOf_17, k_X12_stepsOf_96, k_X12_stepsOf_175, k_X12_stepsOf_190, k_X12_stepsOf_196, w_RI, w_RII, x_aload, x_iadd, x_icmp_ge, x_icmp_le, x_icmp_lt, x_icmp_ne, x_if_eq, x_if_ge, x_if_lt, x_iinc, x_iload, x_imul, x_istore, x_isub, x_push, x_vret, y_bast, y_cv1, y_cv2, y_getF, y_getI, y_iald, xFT, xbool0, xbool1, Nat.reduceAdd, Nat.zero_add, xgl_0, xgl_s, xgl_n, xst_0, xst_1n, xst_1i, xst_1r, xst_1l, xst_s, set_0, set_s, true_and, and_true, xres, xcat_nil, xcat_i, xcat_r, xcat_l, Nat.add_zero, xble0, xble1, xble2, xble3, xble4, xble5, xble6, xble7, xble8, pk_mul, nI_add, nI_1, nI_leI, nI_ltI, nI_eq, n_in, n_cl, z_eq, z_lt, z_le, z_gt, z_ge, z_qe, o_eq, o_lt, o_le, o_gt, o_ge, vp0, vp1, cl0, cl1, n_sub, n_sub1, n_pm1, n_a0, n_0a, ofn, lN0, Nat.reduceLT, Nat.reduceLeDiff, Nat.reduceMul, Nat.reduceSub, Nat.reduceEqDiff, ne_eq, true_implies, false_implies, not_true_eq_false, not_false_eq_true, and_self, and_true, true_and, and_false, false_and, implies_true, if_true, if_false, i00, i10, i01, i11, ob_0, ob_1, tn_2, ln_2, ob_3, tn_4, ln_4, ob_5, tn_6, ln_6, tn_7, ln_7, ob_8, tn_9, ln_9, tn_10, ln_10, tn_11, ln_11, tn_12, ln_12, tn_13, ln_13, tn_14, ln_14, tn_15, ln_15, tn_16, ln_16, tn_17, ln_17, ob_18, tn_19, ln_19, tn_20, ln_20, tn_21, ln_21, tn_22, ln_22, tn_23, ln_23, tn_24, ln_24, tn_25, ln_25, tn_26, ln_26, tn_27, ln_27, ob_28, tn_29, ln_29, tn_30, ln_30, ob_31, tn_32, ln_32, tn_33, ln_33, ob_34, ob_35, tn_36, ln_36, tn_37, ln_37, tn_38, ln_38, ob_39, tn_40, ln_40, tn_41, ln_41, tn_42, ln_42, tn_43, ln_43, tn_44, ln_44, tn_45, ln_45, tn_46, ln_46, tn_47, ln_47, tn_48, ln_48, tn_49, ln_49, tn_50, ln_50, tn_51, ln_51, ob_52, tn_53, ln_53, tn_54, ln_54, tn_55, ln_55, tn_56, ln_56, ob_57, tn_58, ln_58, tn_59, ln_59, tn_60, ln_60, tn_61, ln_61, tn_62, ln_62, tn_63, ln_63, tn_64, ln_64, tn_65, ln_65, ob_66, tn_67, ln_67, tn_68, ln_68, tn_69, ln_69, tn_70, ln_70, tn_71, ln_71, tn_72, ln_72, tn_73, ln_73, ob_74, tn_75, ln_75, tn_76, ln_76, tn_77, ln_77, tn_78, ln_78, tn_79, ln_79, tn_80, ln_80, tn_81, ln_81, tn_82, ln_82, tn_83, ln_83, ob_84, tn_85, ln_85, tn_86, ln_86, tn_87, ln_87, tn_88, ln_88, tn_89, ln_89, tn_90, ln_90, tn_91, ln_91, tn_92, ln_92, tn_93, ln_93, ob_94, tn_95, ln_95, tn_96, ln_96, tn_97, ln_97, tn_98, ln_98, tn_99, ln_99, tn_100, ln_100, tn_101, ln_101, tn_102, ln_102, tn_103, ln_103, ob_104, tn_105, ln_105, tn_106, ln_106, tn_107, ln_107, tn_108, ln_108, tn_109, ln_109, tn_110, ln_110, tn_111, ln_111, tn_112, ln_112, tn_113, ln_113, ob_114, tn_115, ln_115, tn_116, ln_116, tn_117, ln_117, tn_118, ln_118, tn_119, ln_119, tn_120, ln_120, tn_121, ln_121, tn_122, ln_122, tn_123, ln_123, ob_124, tn_125, ln_125, tn_126, ln_126, tn_127, ln_127, tn_128, ln_128, tn_129, ln_129, tn_130, ln_130, tn_131, ln_131, tn_132, ln_132, tn_133, ln_133, ob_134, tn_135, ln_135, tn_136, ln_136, tn_137, ln_137, tn_138, ln_138, tn_139, ln_139, tn_140, ln_140, tn_141, ln_141, tn_142, ln_142, tn_143, ln_143, ob_144, tn_145, ln_145, tn_146, ln_146, tn_147, ln_147, tn_148, ln_148, tn_149, ln_149, tn_150, ln_150, tn_151, ln_151, tn_152, ln_152, tn_153, ln_153, ob_154, tn_155, ln_155, tn_156, ln_156, tn_157, ln_157, tn_158, ln_158, tn_159, ln_159, tn_160, ln_160, tn_161, ln_161, tn_162, ln_162, tn_163, ln_163, ob_164, tn_165, ln_165, tn_166, ln_166, ob_167, tn_168, ln_168, tn_169, ln_169, tn_170, ln_170, tn_171, ln_171, tn_172, ln_172, tn_173, ln_173, tn_174, ln_174, tn_175, ln_175, tn_176, ln_176, ob_177, tn_178, ln_178, tn_179, ln_179, ob_180, tn_181, ln_181, tn_182, ln_182, tn_183, ln_183, tn_184, ln_184, tn_185, ln_185, tn_186, ln_186, tn_187, ln_187, tn_188, ln_188, tn_189, ln_189, tn_190, ln_190, tn_191, ln_191, tn_192, ln_192, tn_193, ln_193, tn_194, ln_194, tn_195, ln_195, tn_196, ln_196, tn_197, ln_197, tn_198, ln_198, tn_199, ln_199, tn_200, ln_200, tn_201, ln_201, tn_202, ln_202, tn_203, ln_203, tn_204, ln_204, tn_205, ln_205, tn_206, ln_206, tn_207, ln_207, tn_208, ln_208, tn_209, ln_209, tn_210, ln_210, tn_211, ln_211, tn_212, ln_212, tn_213, ln_213, tn_214, ln_214, tn_215, ln_215, tn_216, ln_216, tn_217, ln_217, tn_218, ln_218, tn_219, ln_219, tn_220, ln_220, tn_221, ln_221, tn_222, ln_222, tn_223, ln_223, tn_224, ln_224, tn_225, ln_225, tn_226, ln_226, tn_227, ln_227, tn_228, ln_228, tn_229, ln_229, tn_230, ln_230, lx2, lx3, lx4, lx5, lx6, lx7, lx8, lx9, lx10, lx14, lx15, lx16, lx18, lx20, lx24, lx25, lx27, lx32, lx36, lx40, lx41, lx42, lx43, lx45, lx48, lx52, lx54, lx56, lx57, lx58, lx60, lx61, lx62, lx63, lx64, lx66, lx69, lx73, lx80, lx81, lx84, lx85, lx87, lx94, lx96, lx97, lx120, lx128, lx135, lx160, lx162, lx163, lx165, lx200, lx232, lx242, lx243, lx255, lx256, lx320, lx325, lx400, lx405, lx464, lx512, lx600, lx640, lx752, lx900, lx940, lx1000, lx1024, lx1764, lx3360, lx3840, lx5000, lx6400, lx9050, lx9998, lx9999, lx10000, lx25600, lx76800, lx99999, h24, h88, bI_t, hb.1.1.1.2.2.2, ejc]
      refine ⟨fun b => no (fun z => by rw [bt_t z.1] at b; cases b) (by omega), fun b => ?_⟩
      have b2 : frT v i j := Classical.byContradiction fun w => b (bt_f w)
      refine ⟨fun d => ⟨by omega, yes _ (fun C h => h) b2 (Or.inl d) (by omega)⟩, fun d => ⟨fun e => no (fun z => z.2.elim d e) (by omega), fun e => ⟨by omega, yes _ (fun C h => h) b2 (Or.inr e) (by omega)⟩⟩⟩

