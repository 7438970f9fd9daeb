/-! ===== the reference's ways ===== -/
theorem d_X12_ways_0 : decode cX12_ways 0 = .ok (.aload_n 0, 1) := by decide +kernel
theorem d_X12_ways_1 : decode cX12_ways 1 = .ok (.iload_n 2, 1) := by decide +kernel
theorem d_X12_ways_2 : decode cX12_ways 2 = .ok (.invokevirtual 331, 3) := by decide +kernel
theorem d_X12_ways_5 : decode cX12_ways 5 = .ok (.istore 6, 2) := by decide +kernel
theorem d_X12_ways_7 : decode cX12_ways 7 = .ok (.iload_n 3, 1) := by decide +kernel
theorem d_X12_ways_8 : decode cX12_ways 8 = .ok (.istore 7, 2) := by decide +kernel
theorem d_X12_ways_10 : decode cX12_ways 10 = .ok (.iload 7, 2) := by decide +kernel
theorem d_X12_ways_12 : decode cX12_ways 12 = .ok (.iload 4, 2) := by decide +kernel
theorem d_X12_ways_14 : decode cX12_ways 14 = .ok (.if_icmp .gt 34, 3) := by decide +kernel
theorem d_X12_ways_17 : decode cX12_ways 17 = .ok (.aload_n 0, 1) := by decide +kernel
theorem d_X12_ways_18 : decode cX12_ways 18 = .ok (.getfield 145, 3) := by decide +kernel
theorem d_X12_ways_21 : decode cX12_ways 21 = .ok (.bipush 9, 2) := by decide +kernel
theorem d_X12_ways_23 : decode cX12_ways 23 = .ok (.iload 6, 2) := by decide +kernel
theorem d_X12_ways_25 : decode cX12_ways 25 = .ok (.imul, 1) := by decide +kernel
theorem d_X12_ways_26 : decode cX12_ways 26 = .ok (.iload 7, 2) := by decide +kernel
theorem d_X12_ways_28 : decode cX12_ways 28 = .ok (.iadd, 1) := by decide +kernel
theorem d_X12_ways_29 : decode cX12_ways 29 = .ok (.iload 7, 2) := by decide +kernel
theorem d_X12_ways_31 : decode cX12_ways 31 = .ok (.iload 4, 2) := by decide +kernel
theorem d_X12_ways_33 : decode cX12_ways 33 = .ok (.if_icmp .ne 7, 3) := by decide +kernel
theorem d_X12_ways_36 : decode cX12_ways 36 = .ok (.iconst 1, 1) := by decide +kernel
theorem d_X12_ways_37 : decode cX12_ways 37 = .ok (.goto 4, 3) := by decide +kernel
theorem d_X12_ways_40 : decode cX12_ways 40 = .ok (.iconst 0, 1) := by decide +kernel
theorem d_X12_ways_41 : decode cX12_ways 41 = .ok (.iastore, 1) := by decide +kernel
theorem d_X12_ways_42 : decode cX12_ways 42 = .ok (.iinc 7 1, 3) := by decide +kernel
theorem d_X12_ways_45 : decode cX12_ways 45 = .ok (.goto (-35), 3) := by decide +kernel
theorem d_X12_ways_48 : decode cX12_ways 48 = .ok (.iload 6, 2) := by decide +kernel
theorem d_X12_ways_50 : decode cX12_ways 50 = .ok (.iconst 1, 1) := by decide +kernel
theorem d_X12_ways_51 : decode cX12_ways 51 = .ok (.isub, 1) := by decide +kernel
theorem d_X12_ways_52 : decode cX12_ways 52 = .ok (.istore 7, 2) := by decide +kernel
theorem d_X12_ways_54 : decode cX12_ways 54 = .ok (.iload 7, 2) := by decide +kernel
theorem d_X12_ways_56 : decode cX12_ways 56 = .ok (.ifCond .lt 129, 3) := by decide +kernel
theorem d_X12_ways_59 : decode cX12_ways 59 = .ok (.iload_n 3, 1) := by decide +kernel
theorem d_X12_ways_60 : decode cX12_ways 60 = .ok (.istore 8, 2) := by decide +kernel
theorem d_X12_ways_62 : decode cX12_ways 62 = .ok (.iload 8, 2) := by decide +kernel
theorem d_X12_ways_64 : decode cX12_ways 64 = .ok (.iload 4, 2) := by decide +kernel
theorem d_X12_ways_66 : decode cX12_ways 66 = .ok (.if_icmp .gt 113, 3) := by decide +kernel
theorem d_X12_ways_69 : decode cX12_ways 69 = .ok (.lconst 0, 1) := by decide +kernel
theorem d_X12_ways_70 : decode cX12_ways 70 = .ok (.lstore 9, 2) := by decide +kernel
theorem d_X12_ways_72 : decode cX12_ways 72 = .ok (.iload 8, 2) := by decide +kernel
theorem d_X12_ways_74 : decode cX12_ways 74 = .ok (.istore 11, 2) := by decide +kernel
theorem d_X12_ways_76 : decode cX12_ways 76 = .ok (.iload 11, 2) := by decide +kernel
theorem d_X12_ways_78 : decode cX12_ways 78 = .ok (.iload 4, 2) := by decide +kernel
theorem d_X12_ways_80 : decode cX12_ways 80 = .ok (.if_icmp .gt 77, 3) := by decide +kernel
theorem d_X12_ways_83 : decode cX12_ways 83 = .ok (.aload_n 0, 1) := by decide +kernel
theorem d_X12_ways_84 : decode cX12_ways 84 = .ok (.getfield 145, 3) := by decide +kernel
theorem d_X12_ways_87 : decode cX12_ways 87 = .ok (.bipush 9, 2) := by decide +kernel
theorem d_X12_ways_89 : decode cX12_ways 89 = .ok (.iload 7, 2) := by decide +kernel
theorem d_X12_ways_91 : decode cX12_ways 91 = .ok (.imul, 1) := by decide +kernel
theorem d_X12_ways_92 : decode cX12_ways 92 = .ok (.bipush 9, 2) := by decide +kernel
theorem d_X12_ways_94 : decode cX12_ways 94 = .ok (.iadd, 1) := by decide +kernel
theorem d_X12_ways_95 : decode cX12_ways 95 = .ok (.iload 11, 2) := by decide +kernel
theorem d_X12_ways_97 : decode cX12_ways 97 = .ok (.iadd, 1) := by decide +kernel
theorem d_X12_ways_98 : decode cX12_ways 98 = .ok (.iaload, 1) := by decide +kernel
theorem d_X12_ways_99 : decode cX12_ways 99 = .ok (.ifCond .le 52, 3) := by decide +kernel
theorem d_X12_ways_102 : decode cX12_ways 102 = .ok (.lload 9, 2) := by decide +kernel
theorem d_X12_ways_104 : decode cX12_ways 104 = .ok (.aload_n 0, 1) := by decide +kernel
theorem d_X12_ways_105 : decode cX12_ways 105 = .ok (.aload_n 1, 1) := by decide +kernel
theorem d_X12_ways_106 : decode cX12_ways 106 = .ok (.aload_n 0, 1) := by decide +kernel
theorem d_X12_ways_107 : decode cX12_ways 107 = .ok (.iload_n 2, 1) := by decide +kernel
theorem d_X12_ways_108 : decode cX12_ways 108 = .ok (.iload 7, 2) := by decide +kernel
theorem d_X12_ways_110 : decode cX12_ways 110 = .ok (.invokevirtual 335, 3) := by decide +kernel
theorem d_X12_ways_113 : decode cX12_ways 113 = .ok (.iload 8, 2) := by decide +kernel
theorem d_X12_ways_115 : decode cX12_ways 115 = .ok (.iload 11, 2) := by decide +kernel
theorem d_X12_ways_117 : decode cX12_ways 117 = .ok (.iload_n 3, 1) := by decide +kernel
theorem d_X12_ways_118 : decode cX12_ways 118 = .ok (.iload 4, 2) := by decide +kernel
theorem d_X12_ways_120 : decode cX12_ways 120 = .ok (.iload 5, 2) := by decide +kernel
theorem d_X12_ways_122 : decode cX12_ways 122 = .ok (.invokevirtual 522, 3) := by decide +kernel
theorem d_X12_ways_125 : decode cX12_ways 125 = .ok (.i2l, 1) := by decide +kernel
theorem d_X12_ways_126 : decode cX12_ways 126 = .ok (.aload_n 0, 1) := by decide +kernel
theorem d_X12_ways_127 : decode cX12_ways 127 = .ok (.getfield 145, 3) := by decide +kernel
theorem d_X12_ways_130 : decode cX12_ways 130 = .ok (.bipush 9, 2) := by decide +kernel
theorem d_X12_ways_132 : decode cX12_ways 132 = .ok (.iload 7, 2) := by decide +kernel
theorem d_X12_ways_134 : decode cX12_ways 134 = .ok (.imul, 1) := by decide +kernel
theorem d_X12_ways_135 : decode cX12_ways 135 = .ok (.bipush 9, 2) := by decide +kernel
theorem d_X12_ways_137 : decode cX12_ways 137 = .ok (.iadd, 1) := by decide +kernel
theorem d_X12_ways_138 : decode cX12_ways 138 = .ok (.iload 11, 2) := by decide +kernel
theorem d_X12_ways_140 : decode cX12_ways 140 = .ok (.iadd, 1) := by decide +kernel
theorem d_X12_ways_141 : decode cX12_ways 141 = .ok (.iaload, 1) := by decide +kernel
theorem d_X12_ways_142 : decode cX12_ways 142 = .ok (.i2l, 1) := by decide +kernel
theorem d_X12_ways_143 : decode cX12_ways 143 = .ok (.lmul, 1) := by decide +kernel
theorem d_X12_ways_144 : decode cX12_ways 144 = .ok (.ladd, 1) := by decide +kernel
theorem d_X12_ways_145 : decode cX12_ways 145 = .ok (.invokestatic 511, 3) := by decide +kernel
theorem d_X12_ways_148 : decode cX12_ways 148 = .ok (.i2l, 1) := by decide +kernel
theorem d_X12_ways_149 : decode cX12_ways 149 = .ok (.lstore 9, 2) := by decide +kernel
theorem d_X12_ways_151 : decode cX12_ways 151 = .ok (.iinc 11 1, 3) := by decide +kernel
theorem d_X12_ways_154 : decode cX12_ways 154 = .ok (.goto (-78), 3) := by decide +kernel
theorem d_X12_ways_157 : decode cX12_ways 157 = .ok (.aload_n 0, 1) := by decide +kernel
theorem d_X12_ways_158 : decode cX12_ways 158 = .ok (.getfield 145, 3) := by decide +kernel
theorem d_X12_ways_161 : decode cX12_ways 161 = .ok (.bipush 9, 2) := by decide +kernel
theorem d_X12_ways_163 : decode cX12_ways 163 = .ok (.iload 7, 2) := by decide +kernel
theorem d_X12_ways_165 : decode cX12_ways 165 = .ok (.imul, 1) := by decide +kernel
theorem d_X12_ways_166 : decode cX12_ways 166 = .ok (.iload 8, 2) := by decide +kernel
theorem d_X12_ways_168 : decode cX12_ways 168 = .ok (.iadd, 1) := by decide +kernel
theorem d_X12_ways_169 : decode cX12_ways 169 = .ok (.lload 9, 2) := by decide +kernel
theorem d_X12_ways_171 : decode cX12_ways 171 = .ok (.l2i, 1) := by decide +kernel
theorem d_X12_ways_172 : decode cX12_ways 172 = .ok (.iastore, 1) := by decide +kernel
theorem d_X12_ways_173 : decode cX12_ways 173 = .ok (.iinc 8 1, 3) := by decide +kernel
theorem d_X12_ways_176 : decode cX12_ways 176 = .ok (.goto (-114), 3) := by decide +kernel
theorem d_X12_ways_179 : decode cX12_ways 179 = .ok (.iinc 7 (-1), 3) := by decide +kernel
theorem d_X12_ways_182 : decode cX12_ways 182 = .ok (.goto (-128), 3) := by decide +kernel
theorem d_X12_ways_185 : decode cX12_ways 185 = .ok (.aload_n 0, 1) := by decide +kernel
theorem d_X12_ways_186 : decode cX12_ways 186 = .ok (.getfield 145, 3) := by decide +kernel
theorem d_X12_ways_189 : decode cX12_ways 189 = .ok (.iload_n 3, 1) := by decide +kernel
theorem d_X12_ways_190 : decode cX12_ways 190 = .ok (.iaload, 1) := by decide +kernel
theorem d_X12_ways_191 : decode cX12_ways 191 = .ok (.ireturn, 1) := by decide +kernel
def k_X12_ways_0 (P : xP) (C10 : xK) : xK := x_aload 0 (x_iload 2 (y_cv1 180 (w_RI f_X12_many) (x_istore 6 (x_iload 3 (x_istore 7 (C10))))))
set_option maxRecDepth 20000 in
theorem t_X12_ways_0 {p : Program} {l : Launch} {e : Env} {s : State} {m : MethodId} {args : Array Value} {below : List Frame} {meth : Method} {c : Code} {g : xG} (X : xX p s m args c meth cX12_ways RX12 12 g) (hr : meth.sig.returnType = (some .int)) {P : xP} {C10 : xK} (h10 : xAt p l e { frames := 3, cells := 0, slots := 0, locals := 75 } s m args below meth c g 12 xFT xN 0 0 (MQ below (xQc g xFT xN P) args s 0 0 (xFr g)) C10 10) : xAt p l e { frames := 3, cells := 0, slots := 0, locals := 75 } s m args below meth c g 12 xFT xN 0 0 (MQ below (xQc g xFT xN P) args s 0 0 (xFr g)) (k_X12_ways_0 P C10) 0 := by
  unfold k_X12_ways_0
  refine r_aload_n (pc := 0) X d_X12_ways_0 fn0 ?_
  refine r_iload_n (pc := 1) X d_X12_ways_1 fn2 ?_
  refine s_cv1 (pc := 2) (ci := 12) X xok12 (by decide +kernel) ob_180 rfl (con_X12_many l) mf_X12_many ml_RX12_331 (by decide +kernel) (by decide +kernel) d_X12_ways_2 ?_
  refine r_istore (pc := 5) X d_X12_ways_5 (by decide +kernel) ?_
  refine r_iload_n (pc := 7) X d_X12_ways_7 fn3 ?_
  refine r_istore (pc := 8) X d_X12_ways_8 (by decide +kernel) ?_
  exact h10
def k_X12_ways_41 (P : xP) (C10 : xK) : xK := x_iast xN (x_iinc 7 1 (C10))
set_option maxRecDepth 20000 in
theorem t_X12_ways_41 {p : Program} {l : Launch} {e : Env} {s : State} {m : MethodId} {args : Array Value} {below : List Frame} {meth : Method} {c : Code} {g : xG} (X : xX p s m args c meth cX12_ways RX12 12 g) (hr : meth.sig.returnType = (some .int)) {P : xP} {C10 : xK} (h10 : xAt p l e { frames := 3, cells := 0, slots := 0, locals := 75 } s m args below meth c g 12 xFT xN 0 0 (MQ below (xQc g xFT xN P) args s 0 0 (xFr g)) C10 10) : xAt p l e { frames := 3, cells := 0, slots := 0, locals := 75 } s m args below meth c g 12 xFT xN 0 0 (MQ below (xQc g xFT xN P) args s 0 0 (xFr g)) (k_X12_ways_41 P C10) 41 := by
  unfold k_X12_ways_41
  refine r_iast (pc := 41) X d_X12_ways_41 ?_
  refine r_iinc (pc := 42) X d_X12_ways_42 (by decide +kernel) (by decide +kernel) ?_
  refine r_goto (pc := 45) (tgt := 10) X d_X12_ways_45 (by decide +kernel) ?_
  exact h10
def k_X12_ways_10 (P : xP) (C10 : xK) (C54 : xK) : xK := x_iload 7 (x_iload 4 (x_icmp_gt (x_iload 6 (x_push (.int 1) (x_isub (x_istore 7 (C54))))) (x_aload 0 (y_getF 180 218 (x_push (.int 9) (x_iload 6 (x_imul (x_iload 7 (x_iadd (x_iload 7 (x_iload 4 (x_icmp_ne (x_push (.int 0) ((k_X12_ways_41 P C10))) (x_push (.int 1) ((k_X12_ways_41 P C10)))))))))))))))
set_option maxRecDepth 20000 in
theorem t_X12_ways_10 {p : Program} {l : Launch} {e : Env} {s : State} {m : MethodId} {args : Array Value} {below : List Frame} {meth : Method} {c : Code} {g : xG} (X : xX p s m args c meth cX12_ways RX12 12 g) (hr : meth.sig.returnType = (some .int)) {P : xP} {C10 : xK} {C54 : xK} (h10 : xAt p l e { frames := 3, cells := 0, slots := 0, locals := 75 } s m args below meth c g 12 xFT xN 0 0 (MQ below (xQc g xFT xN P) args s 0 0 (xFr g)) C10 10) (h54 : xAt p l e { frames := 3, cells := 0, slots := 0, locals := 75 } s m args below meth c g 12 xFT xN 0 0 (MQ below (xQc g xFT xN P) args s 0 0 (xFr g)) C54 54) : xAt p l e { frames := 3, cells := 0, slots := 0, locals := 75 } s m args below meth c g 12 xFT xN 0 0 (MQ below (xQc g xFT xN P) args s 0 0 (xFr g)) (k_X12_ways_10 P C10 C54) 10 := by
  unfold k_X12_ways_10
  refine r_iload (pc := 10) X d_X12_ways_10 ?_
  refine r_iload (pc := 12) X d_X12_ways_12 ?_
  refine r_icmp_gt (pc := 14) (tgt := 48) X d_X12_ways_14 (by decide +kernel) ?_ ?_
  · refine r_iload (pc := 48) X d_X12_ways_48 ?_
    refine r_iconst (pc := 50) X d_X12_ways_50 (by decide +kernel) ?_
    refine r_isub (pc := 51) X d_X12_ways_51 ?_
    refine r_istore (pc := 52) X d_X12_ways_52 (by decide +kernel) ?_
    exact h54
  · refine r_aload_n (pc := 17) X d_X12_ways_17 fn0 ?_
    refine s_getF (pc := 18) (ci := 12) (k := 67) X xok12 (by decide +kernel) ob_180 trivial ly_180_67 (by decide +kernel) fl_RX12_145 d_X12_ways_18 ?_
    refine r_bipush (pc := 21) X d_X12_ways_21 (by decide +kernel) ?_
    refine r_iload (pc := 23) X d_X12_ways_23 ?_
    refine r_imul (pc := 25) X d_X12_ways_25 ?_
    refine r_iload (pc := 26) X d_X12_ways_26 ?_
    refine r_iadd (pc := 28) X d_X12_ways_28 ?_
    refine r_iload (pc := 29) X d_X12_ways_29 ?_
    refine r_iload (pc := 31) X d_X12_ways_31 ?_
    refine r_icmp_ne (pc := 33) (tgt := 40) X d_X12_ways_33 (by decide +kernel) ?_ ?_
    · refine r_iconst (pc := 40) X d_X12_ways_40 (by decide +kernel) ?_
      exact t_X12_ways_41 X hr h10
    · refine r_iconst (pc := 36) X d_X12_ways_36 (by decide +kernel) ?_
      refine r_goto (pc := 37) (tgt := 41) X d_X12_ways_37 (by decide +kernel) ?_
      exact t_X12_ways_41 X hr h10
def k_X12_ways_54 (P : xP) (C62 : xK) : xK := x_iload 7 (x_if_lt (x_aload 0 (y_getF 180 218 (x_iload 3 (y_iald 218 36 (x_iret P))))) (x_iload 3 (x_istore 8 (C62))))
set_option maxRecDepth 20000 in
theorem t_X12_ways_54 {p : Program} {l : Launch} {e : Env} {s : State} {m : MethodId} {args : Array Value} {below : List Frame} {meth : Method} {c : Code} {g : xG} (X : xX p s m args c meth cX12_ways RX12 12 g) (hr : meth.sig.returnType = (some .int)) {P : xP} {C62 : xK} (h62 : xAt p l e { frames := 3, cells := 0, slots := 0, locals := 75 } s m args below meth c g 12 xFT xN 0 0 (MQ below (xQc g xFT xN P) args s 0 0 (xFr g)) C62 62) : xAt p l e { frames := 3, cells := 0, slots := 0, locals := 75 } s m args below meth c g 12 xFT xN 0 0 (MQ below (xQc g xFT xN P) args s 0 0 (xFr g)) (k_X12_ways_54 P C62) 54 := by
  unfold k_X12_ways_54
  refine r_iload (pc := 54) X d_X12_ways_54 ?_
  refine r_if_lt (pc := 56) (tgt := 185) X d_X12_ways_56 (by decide +kernel) ?_ ?_
  · refine r_aload_n (pc := 185) X d_X12_ways_185 fn0 ?_
    refine s_getF (pc := 186) (ci := 12) (k := 67) X xok12 (by decide +kernel) ob_180 trivial ly_180_67 (by decide +kernel) fl_RX12_145 d_X12_ways_186 ?_
    refine r_iload_n (pc := 189) X d_X12_ways_189 fn3 ?_
    refine s_iald (pc := 190) X tn_218 ln_218 d_X12_ways_190 ?_
    exact r_iret (pc := 191) X hr d_X12_ways_191
  · refine r_iload_n (pc := 59) X d_X12_ways_59 fn3 ?_
    refine r_istore (pc := 60) X d_X12_ways_60 (by decide +kernel) ?_
    exact h62
def k_X12_ways_62 (P : xP) (C54 : xK) (C76 : xK) : xK := x_iload 8 (x_iload 4 (x_icmp_gt (x_iinc 7 (-1) (C54)) (x_push (.long 0) (x_lstore 9 (x_iload 8 (x_istore 11 (C76)))))))
set_option maxRecDepth 20000 in
theorem t_X12_ways_62 {p : Program} {l : Launch} {e : Env} {s : State} {m : MethodId} {args : Array Value} {below : List Frame} {meth : Method} {c : Code} {g : xG} (X : xX p s m args c meth cX12_ways RX12 12 g) (hr : meth.sig.returnType = (some .int)) {P : xP} {C54 : xK} {C76 : xK} (h54 : xAt p l e { frames := 3, cells := 0, slots := 0, locals := 75 } s m args below meth c g 12 xFT xN 0 0 (MQ below (xQc g xFT xN P) args s 0 0 (xFr g)) C54 54) (h76 : xAt p l e { frames := 3, cells := 0, slots := 0, locals := 75 } s m args below meth c g 12 xFT xN 0 0 (MQ below (xQc g xFT xN P) args s 0 0 (xFr g)) C76 76) : xAt p l e { frames := 3, cells := 0, slots := 0, locals := 75 } s m args below meth c g 12 xFT xN 0 0 (MQ below (xQc g xFT xN P) args s 0 0 (xFr g)) (k_X12_ways_62 P C54 C76) 62 := by
  unfold k_X12_ways_62
  refine r_iload (pc := 62) X d_X12_ways_62 ?_
  refine r_iload (pc := 64) X d_X12_ways_64 ?_
  refine r_icmp_gt (pc := 66) (tgt := 179) X d_X12_ways_66 (by decide +kernel) ?_ ?_
  · refine r_iinc (pc := 179) X d_X12_ways_179 (by decide +kernel) (by decide +kernel) ?_
    refine r_goto (pc := 182) (tgt := 54) X d_X12_ways_182 (by decide +kernel) ?_
    exact h54
  · refine r_lconst (pc := 69) X d_X12_ways_69 (by decide +kernel) ?_
    refine r_lstore (pc := 70) X d_X12_ways_70 (by decide +kernel) ?_
    refine r_iload (pc := 72) X d_X12_ways_72 ?_
    refine r_istore (pc := 74) X d_X12_ways_74 (by decide +kernel) ?_
    exact h76
def k_X12_ways_151 (P : xP) (C76 : xK) : xK := x_iinc 11 1 (C76)
set_option maxRecDepth 20000 in
theorem t_X12_ways_151 {p : Program} {l : Launch} {e : Env} {s : State} {m : MethodId} {args : Array Value} {below : List Frame} {meth : Method} {c : Code} {g : xG} (X : xX p s m args c meth cX12_ways RX12 12 g) (hr : meth.sig.returnType = (some .int)) {P : xP} {C76 : xK} (h76 : xAt p l e { frames := 3, cells := 0, slots := 0, locals := 75 } s m args below meth c g 12 xFT xN 0 0 (MQ below (xQc g xFT xN P) args s 0 0 (xFr g)) C76 76) : xAt p l e { frames := 3, cells := 0, slots := 0, locals := 75 } s m args below meth c g 12 xFT xN 0 0 (MQ below (xQc g xFT xN P) args s 0 0 (xFr g)) (k_X12_ways_151 P C76) 151 := by
  unfold k_X12_ways_151
  refine r_iinc (pc := 151) X d_X12_ways_151 (by decide +kernel) (by decide +kernel) ?_
  refine r_goto (pc := 154) (tgt := 76) X d_X12_ways_154 (by decide +kernel) ?_
  exact h76
def k_X12_ways_76 (P : xP) (C62 : xK) (C76 : xK) : xK := x_iload 11 (x_iload 4 (x_icmp_gt (x_aload 0 (y_getF 180 218 (x_push (.int 9) (x_iload 7 (x_imul (x_iload 8 (x_iadd (x_lload 9 (x_l2i (y_iast 218 36 (x_iinc 8 1 (C62)))))))))))) (x_aload 0 (y_getF 180 218 (x_push (.int 9) (x_iload 7 (x_imul (x_push (.int 9) (x_iadd (x_iload 11 (x_iadd (y_iald 218 36 (x_if_le ((k_X12_ways_151 P C76)) (x_lload 9 (x_aload 0 (x_aload 1 (x_aload 0 (x_iload 2 (x_iload 7 (y_cv2 180 (w_RII f_X12_symbol) (x_iload 8 (x_iload 11 (x_iload 3 (x_iload 4 (x_iload 5 (y_cv7 180 (w_RRIIIIII f_X12_symbolOn) (x_i2l (x_aload 0 (y_getF 180 218 (x_push (.int 9) (x_iload 7 (x_imul (x_push (.int 9) (x_iadd (x_iload 11 (x_iadd (y_iald 218 36 (x_i2l (x_lmul (x_ladd (x_cs1 (w_J f_X12_less) (x_i2l (x_lstore 9 ((k_X12_ways_151 P C76)))))))))))))))))))))))))))))))))))))))))))))
set_option maxRecDepth 20000 in
theorem t_X12_ways_76 {p : Program} {l : Launch} {e : Env} {s : State} {m : MethodId} {args : Array Value} {below : List Frame} {meth : Method} {c : Code} {g : xG} (X : xX p s m args c meth cX12_ways RX12 12 g) (hr : meth.sig.returnType = (some .int)) {P : xP} {C62 : xK} {C76 : xK} (h62 : xAt p l e { frames := 3, cells := 0, slots := 0, locals := 75 } s m args below meth c g 12 xFT xN 0 0 (MQ below (xQc g xFT xN P) args s 0 0 (xFr g)) C62 62) (h76 : xAt p l e { frames := 3, cells := 0, slots := 0, locals := 75 } s m args below meth c g 12 xFT xN 0 0 (MQ below (xQc g xFT xN P) args s 0 0 (xFr g)) C76 76) : xAt p l e { frames := 3, cells := 0, slots := 0, locals := 75 } s m args below meth c g 12 xFT xN 0 0 (MQ below (xQc g xFT xN P) args s 0 0 (xFr g)) (k_X12_ways_76 P C62 C76) 76 := by
  unfold k_X12_ways_76
  refine r_iload (pc := 76) X d_X12_ways_76 ?_
  refine r_iload (pc := 78) X d_X12_ways_78 ?_
  refine r_icmp_gt (pc := 80) (tgt := 157) X d_X12_ways_80 (by decide +kernel) ?_ ?_
  · refine r_aload_n (pc := 157) X d_X12_ways_157 fn0 ?_
    refine s_getF (pc := 158) (ci := 12) (k := 67) X xok12 (by decide +kernel) ob_180 trivial ly_180_67 (by decide +kernel) fl_RX12_145 d_X12_ways_158 ?_
    refine r_bipush (pc := 161) X d_X12_ways_161 (by decide +kernel) ?_
    refine r_iload (pc := 163) X d_X12_ways_163 ?_
    refine r_imul (pc := 165) X d_X12_ways_165 ?_
    refine r_iload (pc := 166) X d_X12_ways_166 ?_
    refine r_iadd (pc := 168) X d_X12_ways_168 ?_
    refine r_lload (pc := 169) X d_X12_ways_169 ?_
    refine r_l2i (pc := 171) X d_X12_ways_171 ?_
    refine s_iast (pc := 172) X tn_218 ln_218 d_X12_ways_172 ?_
    refine r_iinc (pc := 173) X d_X12_ways_173 (by decide +kernel) (by decide +kernel) ?_
    refine r_goto (pc := 176) (tgt := 62) X d_X12_ways_176 (by decide +kernel) ?_
    exact h62
  · refine r_aload_n (pc := 83) X d_X12_ways_83 fn0 ?_
    refine s_getF (pc := 84) (ci := 12) (k := 67) X xok12 (by decide +kernel) ob_180 trivial ly_180_67 (by decide +kernel) fl_RX12_145 d_X12_ways_84 ?_
    refine r_bipush (pc := 87) X d_X12_ways_87 (by decide +kernel) ?_
    refine r_iload (pc := 89) X d_X12_ways_89 ?_
    refine r_imul (pc := 91) X d_X12_ways_91 ?_
    refine r_bipush (pc := 92) X d_X12_ways_92 (by decide +kernel) ?_
    refine r_iadd (pc := 94) X d_X12_ways_94 ?_
    refine r_iload (pc := 95) X d_X12_ways_95 ?_
    refine r_iadd (pc := 97) X d_X12_ways_97 ?_
    refine s_iald (pc := 98) X tn_218 ln_218 d_X12_ways_98 ?_
    refine r_if_le (pc := 99) (tgt := 151) X d_X12_ways_99 (by decide +kernel) ?_ ?_
    · exact t_X12_ways_151 X hr h76
    · refine r_lload (pc := 102) X d_X12_ways_102 ?_
      refine r_aload_n (pc := 104) X d_X12_ways_104 fn0 ?_
      refine r_aload_n (pc := 105) X d_X12_ways_105 fn1 ?_
      refine r_aload_n (pc := 106) X d_X12_ways_106 fn0 ?_
      refine r_iload_n (pc := 107) X d_X12_ways_107 fn2 ?_
      refine r_iload (pc := 108) X d_X12_ways_108 ?_
      refine s_cv2 (pc := 110) (ci := 12) X xok12 (by decide +kernel) ob_180 rfl (con_X12_symbol l) mf_X12_symbol ml_RX12_335 (by decide +kernel) (by decide +kernel) d_X12_ways_110 ?_
      refine r_iload (pc := 113) X d_X12_ways_113 ?_
      refine r_iload (pc := 115) X d_X12_ways_115 ?_
      refine r_iload_n (pc := 117) X d_X12_ways_117 fn3 ?_
      refine r_iload (pc := 118) X d_X12_ways_118 ?_
      refine r_iload (pc := 120) X d_X12_ways_120 ?_
      refine s_cv7 (pc := 122) (ci := 12) X xok12 (by decide +kernel) ob_180 rfl (con_X12_symbolOn l) mf_X12_symbolOn ml_RX12_522 (by decide +kernel) (by decide +kernel) d_X12_ways_122 ?_
      refine r_i2l (pc := 125) X d_X12_ways_125 ?_
      refine r_aload_n (pc := 126) X d_X12_ways_126 fn0 ?_
      refine s_getF (pc := 127) (ci := 12) (k := 67) X xok12 (by decide +kernel) ob_180 trivial ly_180_67 (by decide +kernel) fl_RX12_145 d_X12_ways_127 ?_
      refine r_bipush (pc := 130) X d_X12_ways_130 (by decide +kernel) ?_
      refine r_iload (pc := 132) X d_X12_ways_132 ?_
      refine r_imul (pc := 134) X d_X12_ways_134 ?_
      refine r_bipush (pc := 135) X d_X12_ways_135 (by decide +kernel) ?_
      refine r_iadd (pc := 137) X d_X12_ways_137 ?_
      refine r_iload (pc := 138) X d_X12_ways_138 ?_
      refine r_iadd (pc := 140) X d_X12_ways_140 ?_
      refine s_iald (pc := 141) X tn_218 ln_218 d_X12_ways_141 ?_
      refine r_i2l (pc := 142) X d_X12_ways_142 ?_
      refine r_lmul (pc := 143) X d_X12_ways_143 ?_
      refine r_ladd (pc := 144) X d_X12_ways_144 ?_
      refine r_cs1 (pc := 145) X (con_X12_less l) sf_X12_less ml_RX12_511 (by decide +kernel) (by decide +kernel) d_X12_ways_145 ?_
      refine r_i2l (pc := 148) X d_X12_ways_148 ?_
      refine r_lstore (pc := 149) X d_X12_ways_149 (by decide +kernel) ?_
      exact t_X12_ways_151 X hr h76
set_option maxRecDepth 20000 in
theorem m_X12_ways {l : Launch} {f : Nat → Nat → Int32 → Int32 → Int32 → Int32 → xH → xP → Prop}  {I10 : Nat → Nat → Int32 → Int32 → Int32 → Int32 → xH → xP → xM → xK} {I54 : Nat → Nat → Int32 → Int32 → Int32 → Int32 → xH → xP → xM → xK} {I62 : Nat → Nat → Int32 → Int32 → Int32 → Int32 → xH → xP → xM → xK} {I76 : Nat → Nat → Int32 → Int32 → Int32 → Int32 → xH → xP → xM → xK}
    (v0 : ∀ (a0 : Nat) (a1 : Nat) (a2 : Int32) (a3 : Int32) (a4 : Int32) (a5 : Int32) (A : xH) (P : xP), f a0 a1 a2 a3 a4 a5 A P → k_X12_ways_0 P (xE (I10 a0 a1 a2 a3 a4 a5 A P)) [some (.ref a0), some (.ref a1), some (.int a2), some (.int a3), some (.int a4), some (.int a5), none, none, none, none, none, none] [] A)
    (v10 : ∀ (a0 : Nat) (a1 : Nat) (a2 : Int32) (a3 : Int32) (a4 : Int32) (a5 : Int32) (A : xH) (P : xP), f a0 a1 a2 a3 a4 a5 A P → ∀ (μ : xM) (L : xL) (st : List Value) (B : xH), I10 a0 a1 a2 a3 a4 a5 A P μ L st B → k_X12_ways_10 P (xB (I10 a0 a1 a2 a3 a4 a5 A P) μ) (xE (I54 a0 a1 a2 a3 a4 a5 A P)) L st B)
    (v54 : ∀ (a0 : Nat) (a1 : Nat) (a2 : Int32) (a3 : Int32) (a4 : Int32) (a5 : Int32) (A : xH) (P : xP), f a0 a1 a2 a3 a4 a5 A P → ∀ (μ : xM) (L : xL) (st : List Value) (B : xH), I54 a0 a1 a2 a3 a4 a5 A P μ L st B → k_X12_ways_54 P (xB (I62 a0 a1 a2 a3 a4 a5 A P) μ) L st B)
    (v62 : ∀ (a0 : Nat) (a1 : Nat) (a2 : Int32) (a3 : Int32) (a4 : Int32) (a5 : Int32) (A : xH) (P : xP), f a0 a1 a2 a3 a4 a5 A P → ∀ (μ : xM) (L : xL) (st : List Value) (B : xH), I62 a0 a1 a2 a3 a4 a5 A P μ L st B → k_X12_ways_62 P (xB (I54 a0 a1 a2 a3 a4 a5 A P) μ) (xB (I76 a0 a1 a2 a3 a4 a5 A P) μ) L st B)
    (v76 : ∀ (a0 : Nat) (a1 : Nat) (a2 : Int32) (a3 : Int32) (a4 : Int32) (a5 : Int32) (A : xH) (P : xP), f a0 a1 a2 a3 a4 a5 A P → ∀ (μ : xM) (L : xL) (st : List Value) (B : xH), I76 a0 a1 a2 a3 a4 a5 A P μ L st B → k_X12_ways_76 P (xB (I62 a0 a1 a2 a3 a4 a5 A P) μ) (xB (I76 a0 a1 a2 a3 a4 a5 A P) μ) L st B) : xCon l yX12_ways cX12_ways 12 (some .int) 3 75 xN xN 0 xFT xFT (w_RRIIII f) := by
  refine xc_RRIIII (plainFor_of_name pn_RX12) (by decide +kernel) (fun p e s m args below meth c g a0 a1 a2 a3 a4 a5 A P h X hr _ => ?_)
  obtain ⟨h54, h62, h76⟩ := x_loop3 (p := p) (l := l) (e := e) (R := { frames := 3, cells := 0, slots := 0, locals := 75 }) (s := s) (m := m) (args := args) (below := below) (meth := meth) (c := c) (g := g) (nL := 12) (F := xFT) (n := xN) (cells := 0) (slots := 0) (Q := MQ below (xQc g xFT xN P) args s 0 0 (xFr g)) (I1 := I54 a0 a1 a2 a3 a4 a5 A P) (I2 := I62 a0 a1 a2 a3 a4 a5 A P) (I3 := I76 a0 a1 a2 a3 a4 a5 A P) (pc1 := 54) (pc2 := 62) (pc3 := 76) (fun μ i54 i62 i76 => xAt_mono (t_X12_ways_54 (P := P) X hr i62) (v54 a0 a1 a2 a3 a4 a5 A P h μ)) (fun μ i54 i62 i76 => xAt_mono (t_X12_ways_62 (P := P) X hr i54 i76) (v62 a0 a1 a2 a3 a4 a5 A P h μ)) (fun μ i54 i62 i76 => xAt_mono (t_X12_ways_76 (P := P) X hr i62 i76) (v76 a0 a1 a2 a3 a4 a5 A P h μ))
  have h10 := x_loop1 (p := p) (l := l) (e := e) (R := { frames := 3, cells := 0, slots := 0, locals := 75 }) (s := s) (m := m) (args := args) (below := below) (meth := meth) (c := c) (g := g) (nL := 12) (F := xFT) (n := xN) (cells := 0) (slots := 0) (Q := MQ below (xQc g xFT xN P) args s 0 0 (xFr g)) (I := I10 a0 a1 a2 a3 a4 a5 A P) (pc1 := 10) (fun μ i10 => xAt_mono (t_X12_ways_10 (P := P) X hr i10 h54) (v10 a0 a1 a2 a3 a4 a5 A P h μ))
  exact ⟨_, v0 a0 a1 a2 a3 a4 a5 A P h, t_X12_ways_0 X hr h10⟩
/-- a rule's symbols on a part -/
def swS (g : xV) (ρ : Nat → Nat) (o : Option Nat) (i j r : Nat) (t : Nat) : Nat → Nat → Nat := sSy (eW g 0) ρ (tW g ρ 0) (onF g ρ o i j) i j (vsy g r t)
/-- the rests of a rule, from the symbol t on -/
def reU (A : xH) (g : xV) (ρ : Nat → Nat) (o : Option Nat) (i j r t : Nat) : Prop := ∀ x, i ≤ x → x ≤ j → xi A 218 (9 * t + x) = nI (min (rD (swS g ρ o i j r) (vrs g r) j (vrs g r - t) x) 10000)
def wyP (A : xH) (P : xP) (g : xV) (ρ : Nat → Nat) (i j r : Nat) (o : Option Nat) : Prop := ∀ B, fr (fun c k => c = 218 ∧ 0 ≤ k) A B → (∀ t, t ≤ vrs g r → reU B g ρ o i j r t) → P (some (.int (nI (min (wW (swS g ρ o i j r) (vrs g r) i j) 10000)))) B
def f_X12_ways (q s : Nat) (x y z w : Int32) (A : xH) (P : xP) : Prop := q = 180 ∧ ∃ (g : xV) (ρ : Nat → Nat) (r i j : Nat) (o : Option Nat), wyS A g ρ s i j o ∧ r < vR g ∧ x = nI r ∧ y = nI i ∧ z = nI j ∧ w = oVI o ∧ wyP A P g ρ i j r o
def wyG (A B : xH) (P : xP) (g : xV) (ρ : Nat → Nat) (s r i j : Nat) (o : Option Nat) : Prop := wyS B g ρ s i j o ∧ r < vR g ∧ wyP A P g ρ i j r o ∧ fr (fun c k => c = 218 ∧ 0 ≤ k) A B
def wy10 (A : xH) (P : xP) : xM → xK := fun μ L st B => ∃ (g : xV) (ρ : Nat → Nat) (s r i j x : Nat) (o : Option Nat), wyG A B P g ρ s r i j o ∧ i ≤ x ∧ x ≤ j + 1 ∧ (∀ x', i ≤ x' → x' < x → xi B 218 (9 * vrs g r + x') = nI (if x' = j then 1 else 0)) ∧ st = [] ∧ L = [some (.ref 180), some (.ref s), some (.int (nI r)), some (.int (nI i)), some (.int (nI j)), some (.int (oVI o)), some (.int (nI (vrs g r))), some (.int (nI x)), none, none, none, none] ∧ μ = (10 - x, 0, 0)
def wy54 (A : xH) (P : xP) : xM → xK := fun μ L st B => ∃ (g : xV) (ρ : Nat → Nat) (s r i j w : Nat) (o : Option Nat) (o8 o9 o10 o11 : Option Value), wyG A B P g ρ s r i j o ∧ w ≤ vrs g r ∧ (∀ t, w ≤ t → t ≤ vrs g r → reU B g ρ o i j r t) ∧ st = [] ∧ L = [some (.ref 180), some (.ref s), some (.int (nI r)), some (.int (nI i)), some (.int (nI j)), some (.int (oVI o)), some (.int (nI (vrs g r))), some (.int (pI w)), o8, o9, o10, o11] ∧ μ = (w, 0, 0)
def wy62 (A : xH) (P : xP) : xM → xK := fun μ L st B => ∃ (g : xV) (ρ : Nat → Nat) (s r i j t x : Nat) (o : Option Nat) (o9 o10 o11 : Option Value), wyG A B P g ρ s r i j o ∧ t < vrs g r ∧ i ≤ x ∧ x ≤ j + 1 ∧ (∀ t', t < t' → t' ≤ vrs g r → reU B g ρ o i j r t') ∧ (∀ x', i ≤ x' → x' < x → xi B 218 (9 * t + x') = nI (min (rD (swS g ρ o i j r) (vrs g r) j (vrs g r - t) x') 10000)) ∧ st = [] ∧ L = [some (.ref 180), some (.ref s), some (.int (nI r)), some (.int (nI i)), some (.int (nI j)), some (.int (oVI o)), some (.int (nI (vrs g r))), some (.int (nI t)), some (.int (nI x)), o9, o10, o11] ∧ μ = (t, 20 - x, 20)
def wy76 (A : xH) (P : xP) : xM → xK := fun μ L st B => ∃ (g : xV) (ρ : Nat → Nat) (s r i j t x e : Nat) (o : Option Nat), wyG A B P g ρ s r i j o ∧ t < vrs g r ∧ i ≤ x ∧ x ≤ j ∧ x + e ≤ j + 1 ∧ (∀ t', t < t' → t' ≤ vrs g r → reU B g ρ o i j r t') ∧ (∀ x', i ≤ x' → x' < x → xi B 218 (9 * t + x') = nI (min (rD (swS g ρ o i j r) (vrs g r) j (vrs g r - t) x') 10000)) ∧ st = [] ∧ L = [some (.ref 180), some (.ref s), some (.int (nI r)), some (.int (nI i)), some (.int (nI j)), some (.int (oVI o)), some (.int (nI (vrs g r))), some (.int (nI t)), some (.int (nI x)), some (.long (lN (min (sgm (fun e => swS g ρ o i j r t x (x + e) * rD (swS g ρ o i j r) (vrs g r) j (vrs g r - (t + 1)) (x + e)) e) 10000))), none, some (.int (nI (x + e)))] ∧ μ = (t, 20 - x, 20 - (x + e) - 1)
theorem wyG_fr {A B C : xH} {P : xP} {g : xV} {ρ : Nat → Nat} {s r i j : Nat} {o : Option Nat} (h : wyG A B P g ρ s r i j o) (hf : fr (fun c k => c = 218 ∧ 0 ≤ k) B C) : wyG A C P g ρ s r i j o := by
  obtain ⟨h1, h2, h3, h4⟩ := h
  exact ⟨wyS_fr h1 hf (by omega), h2, h3, fr_tr h4 hf⟩
theorem rD_s (S : Nat → Nat → Nat → Nat) (n j d x : Nat) : rD S n j (d + 1) x = sgm (fun e => S (n - (d + 1)) x (x + e) * rD S n j d (x + e)) (j + 1 - x) := rfl
set_option maxRecDepth 20000 in
theorem con_X12_ways (l : Launch) : xCon l yX12_ways cX12_ways 12 (some .int) 3 75 xN xN 0 xFT xFT (w_RRIIII f_X12_ways) := by
  refine m_X12_ways (I10 := fun q s x y z w A P => wy10 A P) (I54 := fun q s x y z w A P => wy54 A P) (I62 := fun q s x y z w A P => wy62 A P) (I76 := fun q s x y z w A P => wy76 A P) ?_ ?_ ?_ ?_ ?_
  · rintro q s x y z w A P ⟨rfl, g, ρ, r, i, j, o, hS, hr, rfl, rfl, rfl, rfl, hP⟩
    have hR := hS.2.1
    have hw := hS.2.2.1
    have h10 := hw.2.2.1
    have h3 := (hw.2.2.2.2 r hr).2.1
    have hij := hS.2.2.2.1
    have hj := hS.2.2.2.2.1
    simp (disch := omega) only [k_X12_ways_0, k_X12_ways_10, k_X12_ways_54, k_X12_ways_62, k_X12_ways_76, k_X12_ways_41, k_X12_ways_151, w_J, w_RI, w_RII, w_RRIIIIII, x_aload, x_cs1, x_i2l, x_iadd, x_iast, x_icmp_gt, x_icmp_ne, x_if_le, x_if_lt, x_iinc, x_iload, x_imul, x_iret, x_istore, x_isub, x_l2i, x_ladd, x_lload, x_lmul, x_lstore, x_push, y_cv1, y_cv2, y_cv7, y_getF, y_iald, y_iast, xFT, xbool0, xbool1, Nat.reduceAdd, Nat.zero_add, xgl_0, xgl_s, xgl_n, xst_0, xst_1n, xst_1i, xst_1r, xst_1l, xst_s, set_0, set_s, true_and, and_true, xres, xcat_nil, xcat_i, xcat_r, xcat_l, Nat.add_zero, xble0, xble1, xble2, xble3, xble4, xble5, xble6, xble7, xble8, pk_mul, nI_add, nI_1, nI_leI, nI_ltI, nI_eq, n_in, n_cl, z_eq, z_lt, z_le, z_gt, z_ge, z_qe, o_eq, o_lt, o_le, o_gt, o_ge, vp0, vp1, cl0, cl1, n_sub, n_sub1, n_pm1, n_a0, n_0a, ofn, lN0, Nat.reduceLT, Nat.reduceLeDiff, Nat.reduceMul, Nat.reduceSub, Nat.reduceEqDiff, ne_eq, true_implies, false_implies, not_true_eq_false, not_false_eq_true, and_self, and_true, true_and, and_false, false_and, implies_true, if_true, if_false, i00, i10, i01, i11, ob_0, ob_1, tn_2, ln_2, ob_3, tn_4, ln_4, ob_5, tn_6, ln_6, tn_7, ln_7, ob_8, tn_9, ln_9, tn_10, ln_10, tn_11, ln_11, tn_12, ln_12, tn_13, ln_13, tn_14, ln_14, tn_15, ln_15, tn_16, ln_16, tn_17, ln_17, ob_18, tn_19, ln_19, tn_20, ln_20, tn_21, ln_21, tn_22, ln_22, tn_23, ln_23, tn_24, ln_24, tn_25, ln_25, tn_26, ln_26, tn_27, ln_27, ob_28, tn_29, ln_29, tn_30, ln_30, ob_31, tn_32, ln_32, tn_33, ln_33, ob_34, ob_35, tn_36, ln_36, tn_37, ln_37, tn_38, ln_38, ob_39, tn_40, ln_40, tn_41, ln_41, tn_42, ln_42, tn_43, ln_43, tn_44, ln_44, tn_45, ln_45, tn_46, ln_46, tn_47, ln_47, tn_48, ln_48, tn_49, ln_49, tn_50, ln_50, tn_51, ln_51, ob_52, tn_53, ln_53, tn_54, ln_54, tn_55, ln_55, tn_56, ln_56, ob_57, tn_58, ln_58, tn_59, ln_59, tn_60, ln_60, tn_61, ln_61, tn_62, ln_62, tn_63, ln_63, tn_64, ln_64, tn_65, ln_65, ob_66, tn_67, ln_67, tn_68, ln_68, tn_69, ln_69, tn_70, ln_70, tn_71, ln_71, tn_72, ln_72, tn_73, ln_73, ob_74, tn_75, ln_75, tn_76, ln_76, tn_77, ln_77, tn_78, ln_78, tn_79, ln_79, tn_80, ln_80, tn_81, ln_81, tn_82, ln_82, tn_83, ln_83, ob_84, tn_85, ln_85, tn_86, ln_86, tn_87, ln_87, tn_88, ln_88, tn_89, ln_89, tn_90, ln_90, tn_91, ln_91, tn_92, ln_92, tn_93, ln_93, ob_94, tn_95, ln_95, tn_96, ln_96, tn_97, ln_97, tn_98, ln_98, tn_99, ln_99, tn_100, ln_100, tn_101, ln_101, tn_102, ln_102, tn_103, ln_103, ob_104, tn_105, ln_105, tn_106, ln_106, tn_107, ln_107, tn_108, ln_108, tn_109, ln_109, tn_110, ln_110, tn_111, ln_111, tn_112, ln_112, tn_113, ln_113, ob_114, tn_115, ln_115, tn_116, ln_116, tn_117, ln_117, tn_118, ln_118, tn_119, ln_119, tn_120, ln_120, tn_121, ln_121, tn_122, ln_122, tn_123, ln_123, ob_124, tn_125, ln_125, tn_126, ln_126, tn_127, ln_127, tn_128, ln_128, tn_129, ln_129, tn_130, ln_130, tn_131, ln_131, tn_132, ln_132, tn_133, ln_133, ob_134, tn_135, ln_135, tn_136, ln_136, tn_137, ln_137, tn_138, ln_138, tn_139, ln_139, tn_140, ln_140, tn_141, ln_141, tn_142, ln_142, tn_143, ln_143, ob_144, tn_145, ln_145, tn_146, ln_146, tn_147, ln_147, tn_148, ln_148, tn_149, ln_149, tn_150, ln_150, tn_151, ln_151, tn_152, ln_152, tn_153, ln_153, ob_154, tn_155, ln_155, tn_156, ln_156, tn_157, ln_157, tn_158, ln_158, tn_159, ln_159, tn_160, ln_160, tn_161, ln_161, tn_162, ln_162, tn_163, ln_163, ob_164, tn_165, ln_165, tn_166, ln_166, ob_167, tn_168, ln_168, tn_169, ln_169, tn_170, ln_170, tn_171, ln_171, tn_172, ln_172, tn_173, ln_173, tn_174, ln_174, tn_175, ln_175, tn_176, ln_176, ob_177, tn_178, ln_178, tn_179, ln_179, ob_180, tn_181, ln_181, tn_182, ln_182, tn_183, ln_183, tn_184, ln_184, tn_185, ln_185, tn_186, ln_186, tn_187, ln_187, tn_188, ln_188, tn_189, ln_189, tn_190, ln_190, tn_191, ln_191, tn_192, ln_192, tn_193, ln_193, tn_194, ln_194, tn_195, ln_195, tn_196, ln_196, tn_197, ln_197, tn_198, ln_198, tn_199, ln_199, tn_200, ln_200, tn_201, ln_201, tn_202, ln_202, tn_203, ln_203, tn_204, ln_204, tn_205, ln_205, tn_206, ln_206, tn_207, ln_207, tn_208, ln_208, tn_209, ln_209, tn_210, ln_210, tn_211, ln_211, tn_212, ln_212, tn_213, ln_213, tn_214, ln_214, tn_215, ln_215, tn_216, ln_216, tn_217, ln_217, tn_218, ln_218, tn_219, ln_219, tn_220, ln_220, tn_221, ln_221, tn_222, ln_222, tn_223, ln_223, tn_224, ln_224, tn_225, ln_225, tn_226, ln_226, tn_227, ln_227, tn_228, ln_228, tn_229, ln_229, tn_230, ln_230, lx2, lx3, lx4, lx5, lx6, lx7, lx8, lx9, lx10, lx14, lx15, lx16, lx18, lx20, lx24, lx25, lx27, lx32, lx36, lx40, lx41, lx42, lx43, lx45, lx48, lx52, lx54, lx56, lx57, lx58, lx60, lx61, lx62, lx63, lx64, lx66, lx69, lx73, lx80, lx81, lx84, lx85, lx87, lx94, lx96, lx97, lx120, lx128, lx135, lx160, lx162, lx163, lx165, lx200, lx232, lx242, lx243, lx255, lx256, lx320, lx325, lx400, lx405, lx464, lx512, lx600, lx640, lx752, lx900, lx940, lx1000, lx1024, lx1764, lx3360, lx3840, lx5000, lx6400, lx9050, lx9998, lx9999, lx10000, lx25600, lx76800, lx99999]
    rw [many_E (by omega), isR_s hR hr]
    simp (disch := omega) only [k_X12_ways_0, k_X12_ways_10, k_X12_ways_54, k_X12_ways_62, k_X12_ways_76, k_X12_ways_41, k_X12_ways_151, w_J, w_RI, w_RII, w_RRIIIIII, x_aload, x_cs1, x_i2l, x_iadd, x_iast, x_icmp_gt, x_icmp_ne, x_if_le, x_if_lt, x_iinc, x_iload, x_imul, x_iret, x_istore, x_isub, x_l2i, x_ladd, x_lload, x_lmul, x_lstore, x_push, y_cv1, y_cv2, y_cv7, y_getF, y_iald, y_iast, xFT, xbool0, xbool1, Nat.reduceAdd, Nat.zero_add, xgl_0, xgl_s, xgl_n, xst_0, xst_1n, xst_1i, xst_1r, xst_1l, xst_s, set_0, set_s, true_and, and_true, xres, xcat_nil, xcat_i, xcat_r, xcat_l, Nat.add_zero, xble0, xble1, xble2, xble3, xble4, xble5, xble6, xble7, xble8, pk_mul, nI_add, nI_1, nI_leI, nI_ltI, nI_eq, n_in, n_cl, z_eq, z_lt, z_le, z_gt, z_ge, z_qe, o_eq, o_lt, o_le, o_gt, o_ge, vp0, vp1, cl0, cl1, n_sub, n_sub1, n_pm1, n_a0, n_0a, ofn, lN0, Nat.reduceLT, Nat.reduceLeDiff, Nat.reduceMul, Nat.reduceSub, Nat.reduceEqDiff, ne_eq, true_implies, false_implies, not_true_eq_false, not_false_eq_true, and_self, and_true, true_and, and_false, false_and, implies_true, if_true, if_false, i00, i10, i01, i11, ob_0, ob_1, tn_2, ln_2, ob_3, tn_4, ln_4, ob_5, tn_6, ln_6, tn_7, ln_7, ob_8, tn_9, ln_9, tn_10, ln_10, tn_11, ln_11, tn_12, ln_12, tn_13, ln_13, tn_14, ln_14, tn_15, ln_15, tn_16, ln_16, tn_17, ln_17, ob_18, tn_19, ln_19, tn_20, ln_20, tn_21, ln_21, tn_22, ln_22, tn_23, ln_23, tn_24, ln_24, tn_25, ln_25, tn_26, ln_26, tn_27, ln_27, ob_28, tn_29, ln_29, tn_30, ln_30, ob_31, tn_32, ln_32, tn_33, ln_33, ob_34, ob_35, tn_36, ln_36, tn_37, ln_37, tn_38, ln_38, ob_39, tn_40, ln_40, tn_41, ln_41, tn_42, ln_42, tn_43, ln_43, tn_44, ln_44, tn_45, ln_45, tn_46, ln_46, tn_47, ln_47, tn_48, ln_48, tn_49, ln_49, tn_50, ln_50, tn_51, ln_51, ob_52, tn_53, ln_53, tn_54, ln_54, tn_55, ln_55, tn_56, ln_56, ob_57, tn_58, ln_58, tn_59, ln_59, tn_60, ln_60, tn_61, ln_61, tn_62, ln_62, tn_63, ln_63, tn_64, ln_64, tn_65, ln_65, ob_66, tn_67, ln_67, tn_68, ln_68, tn_69, ln_69, tn_70, ln_70, tn_71, ln_71, tn_72, ln_72, tn_73, ln_73, ob_74, tn_75, ln_75, tn_76, ln_76, tn_77, ln_77, tn_78, ln_78, tn_79, ln_79, tn_80, ln_80, tn_81, ln_81, tn_82, ln_82, tn_83, ln_83, ob_84, tn_85, ln_85, tn_86, ln_86, tn_87, ln_87, tn_88, ln_88, tn_89, ln_89, tn_90, ln_90, tn_91, ln_91, tn_92, ln_92, tn_93, ln_93, ob_94, tn_95, ln_95, tn_96, ln_96, tn_97, ln_97, tn_98, ln_98, tn_99, ln_99, tn_100, ln_100, tn_101, ln_101, tn_102, ln_102, tn_103, ln_103, ob_104, tn_105, ln_105, tn_106, ln_106, tn_107, ln_107, tn_108, ln_108, tn_109, ln_109, tn_110, ln_110, tn_111, ln_111, tn_112, ln_112, tn_113, ln_113, ob_114, tn_115, ln_115, tn_116, ln_116, tn_117, ln_117, tn_118, ln_118, tn_119, ln_119, tn_120, ln_120, tn_121, ln_121, tn_122, ln_122, tn_123, ln_123, ob_124, tn_125, ln_125, tn_126, ln_126, tn_127, ln_127, tn_128, ln_128, tn_129, ln_129, tn_130, ln_130, tn_131, ln_131, tn_132, ln_132, tn_133, ln_133, ob_134, tn_135, ln_135, tn_136, ln_136, tn_137, ln_137, tn_138, ln_138, tn_139, ln_139, tn_140, ln_140, tn_141, ln_141, tn_142, ln_142, tn_143, ln_143, ob_144, tn_145, ln_145, tn_146, ln_146, tn_147, ln_147, tn_148, ln_148, tn_149, ln_149, tn_150, ln_150, tn_151, ln_151, tn_152, ln_152, tn_153, ln_153, ob_154, tn_155, ln_155, tn_156, ln_156, tn_157, ln_157, tn_158, ln_158, tn_159, ln_159, tn_160, ln_160, tn_161, ln_161, tn_162, ln_162, tn_163, ln_163, ob_164, tn_165, ln_165, tn_166, ln_166, ob_167, tn_168, ln_168, tn_169, ln_169, tn_170, ln_170, tn_171, ln_171, tn_172, ln_172, tn_173, ln_173, tn_174, ln_174, tn_175, ln_175, tn_176, ln_176, ob_177, tn_178, ln_178, tn_179, ln_179, ob_180, tn_181, ln_181, tn_182, ln_182, tn_183, ln_183, tn_184, ln_184, tn_185, ln_185, tn_186, ln_186, tn_187, ln_187, tn_188, ln_188, tn_189, ln_189, tn_190, ln_190, tn_191, ln_191, tn_192, ln_192, tn_193, ln_193, tn_194, ln_194, tn_195, ln_195, tn_196, ln_196, tn_197, ln_197, tn_198, ln_198, tn_199, ln_199, tn_200, ln_200, tn_201, ln_201, tn_202, ln_202, tn_203, ln_203, tn_204, ln_204, tn_205, ln_205, tn_206, ln_206, tn_207, ln_207, tn_208, ln_208, tn_209, ln_209, tn_210, ln_210, tn_211, ln_211, tn_212, ln_212, tn_213, ln_213, tn_214, ln_214, tn_215, ln_215, tn_216, ln_216, tn_217, ln_217, tn_218, ln_218, tn_219, ln_219, tn_220, ln_220, tn_221, ln_221, tn_222, ln_222, tn_223, ln_223, tn_224, ln_224, tn_225, ln_225, tn_226, ln_226, tn_227, ln_227, tn_228, ln_228, tn_229, ln_229, tn_230, ln_230, lx2, lx3, lx4, lx5, lx6, lx7, lx8, lx9, lx10, lx14, lx15, lx16, lx18, lx20, lx24, lx25, lx27, lx32, lx36, lx40, lx41, lx42, lx43, lx45, lx48, lx52, lx54, lx56, lx57, lx58, lx60, lx61, lx62, lx63, lx64, lx66, lx69, lx73, lx80, lx81, lx84, lx85, lx87, lx94, lx96, lx97, lx120, lx128, lx135, lx160, lx162, lx163, lx165, lx200, lx232, lx242, lx243, lx255, lx256, lx320, lx325, lx400, lx405, lx464, lx512, lx600, lx640, lx752, lx900, lx940, lx1000, lx1024, lx1764, lx3360, lx3840, lx5000, lx6400, lx9050, lx9998, lx9999, lx10000, lx25600, lx76800, lx99999]
    exact xE0 (10 - i, 0, 0) ⟨g, ρ, s, r, i, j, i, o, ⟨hS, hr, hP, fr_rf⟩, Nat.le_refl _, by omega, fun x' h1 h2 => absurd h1 (by omega), rfl, rfl, rfl⟩
  · rintro q s x y z w A P - μ L st B ⟨g, ρ, s, r, i, j, x, o, hG, hx, hxj, hz, rfl, rfl, rfl⟩
    have hw := hG.1.2.2.1
    have h3 := (hw.2.2.2.2 r hG.2.1).2.1
    have hij := hG.1.2.2.2.1
    have hj := hG.1.2.2.2.2.1
    simp (disch := omega) only [k_X12_ways_0, k_X12_ways_10, k_X12_ways_54, k_X12_ways_62, k_X12_ways_76, k_X12_ways_151, w_J, w_RI, w_RII, w_RRIIIIII, x_aload, x_cs1, x_i2l, x_iadd, x_iast, x_icmp_gt, x_icmp_ne, x_if_le, x_if_lt, x_iinc, x_iload, x_imul, x_iret, x_istore, x_isub, x_l2i, x_ladd, x_lload, x_lmul, x_lstore, x_push, y_cv1, y_cv2, y_cv7, y_getF, y_iald, y_iast, xFT, xbool0, xbool1, Nat.reduceAdd, Nat.zero_add, xgl_0, xgl_s, xgl_n, xst_0, xst_1n, xst_1i, xst_1r, xst_1l, xst_s, set_0, set_s, true_and, and_true, xres, xcat_nil, xcat_i, xcat_r, xcat_l, Nat.add_zero, xble0, xble1, xble2, xble3, xble4, xble5, xble6, xble7, xble8, pk_mul, nI_add, nI_1, nI_leI, nI_ltI, nI_eq, n_in, n_cl, z_eq, z_lt, z_le, z_gt, z_ge, z_qe, o_eq, o_lt, o_le, o_gt, o_ge, vp0, vp1, cl0, cl1, n_sub, n_sub1, n_pm1, n_a0, n_0a, ofn, lN0, Nat.reduceLT, Nat.reduceLeDiff, Nat.reduceMul, Nat.reduceSub, Nat.reduceEqDiff, ne_eq, true_implies, false_implies, not_true_eq_false, not_false_eq_true, and_self, and_true, true_and, and_false, false_and, implies_true, if_true, if_false, i00, i10, i01, i11, ob_0, ob_1, tn_2, ln_2, ob_3, tn_4, ln_4, ob_5, tn_6, ln_6, tn_7, ln_7, ob_8, tn_9, ln_9, tn_10, ln_10, tn_11, ln_11, tn_12, ln_12, tn_13, ln_13, tn_14, ln_14, tn_15, ln_15, tn_16, ln_16, tn_17, ln_17, ob_18, tn_19, ln_19, tn_20, ln_20, tn_21, ln_21, tn_22, ln_22, tn_23, ln_23, tn_24, ln_24, tn_25, ln_25, tn_26, ln_26, tn_27, ln_27, ob_28, tn_29, ln_29, tn_30, ln_30, ob_31, tn_32, ln_32, tn_33, ln_33, ob_34, ob_35, tn_36, ln_36, tn_37, ln_37, tn_38, ln_38, ob_39, tn_40, ln_40, tn_41, ln_41, tn_42, ln_42, tn_43, ln_43, tn_44, ln_44, tn_45, ln_45, tn_46, ln_46, tn_47, ln_47, tn_48, ln_48, tn_49, ln_49, tn_50, ln_50, tn_51, ln_51, ob_52, tn_53, ln_53, tn_54, ln_54, tn_55, ln_55, tn_56, ln_56, ob_57, tn_58, ln_58, tn_59, ln_59, tn_60, ln_60, tn_61, ln_61, tn_62, ln_62, tn_63, ln_63, tn_64, ln_64, tn_65, ln_65, ob_66, tn_67, ln_67, tn_68, ln_68, tn_69, ln_69, tn_70, ln_70, tn_71, ln_71, tn_72, ln_72, tn_73, ln_73, ob_74, tn_75, ln_75, tn_76, ln_76, tn_77, ln_77, tn_78, ln_78, tn_79, ln_79, tn_80, ln_80, tn_81, ln_81, tn_82, ln_82, tn_83, ln_83, ob_84, tn_85, ln_85, tn_86, ln_86, tn_87, ln_87, tn_88, ln_88, tn_89, ln_89, tn_90, ln_90, tn_91, ln_91, tn_92, ln_92, tn_93, ln_93, ob_94, tn_95, ln_95, tn_96, ln_96, tn_97, ln_97, tn_98, ln_98, tn_99, ln_99, tn_100, ln_100, tn_101, ln_101, tn_102, ln_102, tn_103, ln_103, ob_104, tn_105, ln_105, tn_106, ln_106, tn_107, ln_107, tn_108, ln_108, tn_109, ln_109, tn_110, ln_110, tn_111, ln_111, tn_112, ln_112, tn_113, ln_113, ob_114, tn_115, ln_115, tn_116, ln_116, tn_117, ln_117, tn_118, ln_118, tn_119, ln_119, tn_120, ln_120, tn_121, ln_121, tn_122, ln_122, tn_123, ln_123, ob_124, tn_125, ln_125, tn_126, ln_126, tn_127, ln_127, tn_128, ln_128, tn_129, ln_129, tn_130, ln_130, tn_131, ln_131, tn_132, ln_132, tn_133, ln_133, ob_134, tn_135, ln_135, tn_136, ln_136, tn_137, ln_137, tn_138, ln_138, tn_139, ln_139, tn_140, ln_140, tn_141, ln_141, tn_142, ln_142, tn_143, ln_143, ob_144, tn_145, ln_145, tn_146, ln_146, tn_147, ln_147, tn_148, ln_148, tn_149, ln_149, tn_150, ln_150, tn_151, ln_151, tn_152, ln_152, tn_153, ln_153, ob_154, tn_155, ln_155, tn_156, ln_156, tn_157, ln_157, tn_158, ln_158, tn_159, ln_159, tn_160, ln_160, tn_161, ln_161, tn_162, ln_162, tn_163, ln_163, ob_164, tn_165, ln_165, tn_166, ln_166, ob_167, tn_168, ln_168, tn_169, ln_169, tn_170, ln_170, tn_171, ln_171, tn_172, ln_172, tn_173, ln_173, tn_174, ln_174, tn_175, ln_175, tn_176, ln_176, ob_177, tn_178, ln_178, tn_179, ln_179, ob_180, tn_181, ln_181, tn_182, ln_182, tn_183, ln_183, tn_184, ln_184, tn_185, ln_185, tn_186, ln_186, tn_187, ln_187, tn_188, ln_188, tn_189, ln_189, tn_190, ln_190, tn_191, ln_191, tn_192, ln_192, tn_193, ln_193, tn_194, ln_194, tn_195, ln_195, tn_196, ln_196, tn_197, ln_197, tn_198, ln_198, tn_199, ln_199, tn_200, ln_200, tn_201, ln_201, tn_202, ln_202, tn_203, ln_203, tn_204, ln_204, tn_205, ln_205, tn_206, ln_206, tn_207, ln_207, tn_208, ln_208, tn_209, ln_209, tn_210, ln_210, tn_211, ln_211, tn_212, ln_212, tn_213, ln_213, tn_214, ln_214, tn_215, ln_215, tn_216, ln_216, tn_217, ln_217, tn_218, ln_218, tn_219, ln_219, tn_220, ln_220, tn_221, ln_221, tn_222, ln_222, tn_223, ln_223, tn_224, ln_224, tn_225, ln_225, tn_226, ln_226, tn_227, ln_227, tn_228, ln_228, tn_229, ln_229, tn_230, ln_230, lx2, lx3, lx4, lx5, lx6, lx7, lx8, lx9, lx10, lx14, lx15, lx16, lx18, lx20, lx24, lx25, lx27, lx32, lx36, lx40, lx41, lx42, lx43, lx45, lx48, lx52, lx54, lx56, lx57, lx58, lx60, lx61, lx62, lx63, lx64, lx66, lx69, lx73, lx80, lx81, lx84, lx85, lx87, lx94, lx96, lx97, lx120, lx128, lx135, lx160, lx162, lx163, lx165, lx200, lx232, lx242, lx243, lx255, lx256, lx320, lx325, lx400, lx405, lx464, lx512, lx600, lx640, lx752, lx900, lx940, lx1000, lx1024, lx1764, lx3360, lx3840, lx5000, lx6400, lx9050, lx9998, lx9999, lx10000, lx25600, lx76800, lx99999]
    skip
  · rintro q s x y z w' A P - μ L st B ⟨g, ρ, s, r, i, j, w, o, o8, o9, o10, o11, hG, hwr, hz, rfl, rfl, rfl⟩
    have hw := hG.1.2.2.1
    have h3 := (hw.2.2.2.2 r hG.2.1).2.1
    have hij := hG.1.2.2.2.1
    have hj := hG.1.2.2.2.2.1
    simp (disch := omega) only [k_X12_ways_0, k_X12_ways_10, k_X12_ways_54, k_X12_ways_62, k_X12_ways_76, k_X12_ways_41, k_X12_ways_151, w_J, w_RI, w_RII, w_RRIIIIII, x_aload, x_cs1, x_i2l, x_iadd, x_iast, x_icmp_gt, x_icmp_ne, x_if_le, x_if_lt, x_iinc, x_iload, x_imul, x_iret, x_istore, x_isub, x_l2i, x_ladd, x_lload, x_lmul, x_lstore, x_push, y_cv1, y_cv2, y_cv7, y_getF, y_iald, y_iast, xFT, xbool0, xbool1, Nat.reduceAdd, Nat.zero_add, xgl_0, xgl_s, xgl_n, xst_0, xst_1n, xst_1i, xst_1r, xst_1l, xst_s, set_0, set_s, true_and, and_true, xres, xcat_nil, xcat_i, xcat_r, xcat_l, Nat.add_zero, xble0, xble1, xble2, xble3, xble4, xble5, xble6, xble7, xble8, pk_mul, nI_add, nI_1, nI_leI, nI_ltI, nI_eq, n_in, n_cl, z_eq, z_lt, z_le, z_gt, z_ge, z_qe, o_eq, o_lt, o_le, o_gt, o_ge, vp0, vp1, cl0, cl1, n_sub, n_sub1, n_pm1, n_a0, n_0a, ofn, lN0, Nat.reduceLT, Nat.reduceLeDiff, Nat.reduceMul, Nat.reduceSub, Nat.reduceEqDiff, ne_eq, true_implies, false_implies, not_true_eq_false, not_false_eq_true, and_self, and_true, true_and, and_false, false_and, implies_true, if_true, if_false, i00, i10, i01, i11, ob_0, ob_1, tn_2, ln_2, ob_3, tn_4, ln_4, ob_5, tn_6, ln_6, tn_7, ln_7, ob_8, tn_9, ln_9, tn_10, ln_10, tn_11, ln_11, tn_12, ln_12, tn_13, ln_13, tn_14, ln_14, tn_15, ln_15, tn_16, ln_16, tn_17, ln_17, ob_18, tn_19, ln_19, tn_20, ln_20, tn_21, ln_21, tn_22, ln_22, tn_23, ln_23, tn_24, ln_24, tn_25, ln_25, tn_26, ln_26, tn_27, ln_27, ob_28, tn_29, ln_29, tn_30, ln_30, ob_31, tn_32, ln_32, tn_33, ln_33, ob_34, ob_35, tn_36, ln_36, tn_37, ln_37, tn_38, ln_38, ob_39, tn_40, ln_40, tn_41, ln_41, tn_42, ln_42, tn_43, ln_43, tn_44, ln_44, tn_45, ln_45, tn_46, ln_46, tn_47, ln_47, tn_48, ln_48, tn_49, ln_49, tn_50, ln_50, tn_51, ln_51, ob_52, tn_53, ln_53, tn_54, ln_54, tn_55, ln_55, tn_56, ln_56, ob_57, tn_58, ln_58, tn_59, ln_59, tn_60, ln_60, tn_61, ln_61, tn_62, ln_62, tn_63, ln_63, tn_64, ln_64, tn_65, ln_65, ob_66, tn_67, ln_67, tn_68, ln_68, tn_69, ln_69, tn_70, ln_70, tn_71, ln_71, tn_72, ln_72, tn_73, ln_73, ob_74, tn_75, ln_75, tn_76, ln_76, tn_77, ln_77, tn_78, ln_78, tn_79, ln_79, tn_80, ln_80, tn_81, ln_81, tn_82, ln_82, tn_83, ln_83, ob_84, tn_85, ln_85, tn_86, ln_86, tn_87, ln_87, tn_88, ln_88, tn_89, ln_89, tn_90, ln_90, tn_91, ln_91, tn_92, ln_92, tn_93, ln_93, ob_94, tn_95, ln_95, tn_96, ln_96, tn_97, ln_97, tn_98, ln_98, tn_99, ln_99, tn_100, ln_100, tn_101, ln_101, tn_102, ln_102, tn_103, ln_103, ob_104, tn_105, ln_105, tn_106, ln_106, tn_107, ln_107, tn_108, ln_108, tn_109, ln_109, tn_110, ln_110, tn_111, ln_111, tn_112, ln_112, tn_113, ln_113, ob_114, tn_115, ln_115, tn_116, ln_116, tn_117, ln_117, tn_118, ln_118, tn_119, ln_119, tn_120, ln_120, tn_121, ln_121, tn_122, ln_122, tn_123, ln_123, ob_124, tn_125, ln_125, tn_126, ln_126, tn_127, ln_127, tn_128, ln_128, tn_129, ln_129, tn_130, ln_130, tn_131, ln_131, tn_132, ln_132, tn_133, ln_133, ob_134, tn_135, ln_135, tn_136, ln_136, tn_137, ln_137, tn_138, ln_138, tn_139, ln_139, tn_140, ln_140, tn_141, ln_141, tn_142, ln_142, tn_143, ln_143, ob_144, tn_145, ln_145, tn_146, ln_146, tn_147, ln_147, tn_148, ln_148, tn_149, ln_149, tn_150, ln_150, tn_151, ln_151, tn_152, ln_152, tn_153, ln_153, ob_154, tn_155, ln_155, tn_156, ln_156, tn_157, ln_157, tn_158, ln_158, tn_159, ln_159, tn_160, ln_160, tn_161, ln_161, tn_162, ln_162, tn_163, ln_163, ob_164, tn_165, ln_165, tn_166, ln_166, ob_167, tn_168, ln_168, tn_169, ln_169, tn_170, ln_170, tn_171, ln_171, tn_172, ln_172, tn_173, ln_173, tn_174, ln_174, tn_175, ln_175, tn_176, ln_176, ob_177, tn_178, ln_178, tn_179, ln_179, ob_180, tn_181, ln_181, tn_182, ln_182, tn_183, ln_183, tn_184, ln_184, tn_185, ln_185, tn_186, ln_186, tn_187, ln_187, tn_188, ln_188, tn_189, ln_189, tn_190, ln_190, tn_191, ln_191, tn_192, ln_192, tn_193, ln_193, tn_194, ln_194, tn_195, ln_195, tn_196, ln_196, tn_197, ln_197, tn_198, ln_198, tn_199, ln_199, tn_200, ln_200, tn_201, ln_201, tn_202, ln_202, tn_203, ln_203, tn_204, ln_204, tn_205, ln_205, tn_206, ln_206, tn_207, ln_207, tn_208, ln_208, tn_209, ln_209, tn_210, ln_210, tn_211, ln_211, tn_212, ln_212, tn_213, ln_213, tn_214, ln_214, tn_215, ln_215, tn_216, ln_216, tn_217, ln_217, tn_218, ln_218, tn_219, ln_219, tn_220, ln_220, tn_221, ln_221, tn_222, ln_222, tn_223, ln_223, tn_224, ln_224, tn_225, ln_225, tn_226, ln_226, tn_227, ln_227, tn_228, ln_228, tn_229, ln_229, tn_230, ln_230, lx2, lx3, lx4, lx5, lx6, lx7, lx8, lx9, lx10, lx14, lx15, lx16, lx18, lx20, lx24, lx25, lx27, lx32, lx36, lx40, lx41, lx42, lx43, lx45, lx48, lx52, lx54, lx56, lx57, lx58, lx60, lx61, lx62, lx63, lx64, lx66, lx69, lx73, lx80, lx81, lx84, lx85, lx87, lx94, lx96, lx97, lx120, lx128, lx135, lx160, lx162, lx163, lx165, lx200, lx232, lx242, lx243, lx255, lx256, lx320, lx325, lx400, lx405, lx464, lx512, lx600, lx640, lx752, lx900, lx940, lx1000, lx1024, lx1764, lx3360, lx3840, lx5000, lx6400, lx9050, lx9998, lx9999, lx10000, lx25600, lx76800, lx99999, pI_lt]
    skip
  · rintro q s x y z w' A P - μ L st B ⟨g, ρ, s, r, i, j, t, x, o, o9, o10, o11, hG, ht, hx, hxj, hz, hy, rfl, rfl, rfl⟩
    have hw := hG.1.2.2.1
    have h3 := (hw.2.2.2.2 r hG.2.1).2.1
    have hij := hG.1.2.2.2.1
    have hj := hG.1.2.2.2.2.1
    simp (disch := omega) only [k_X12_ways_0, k_X12_ways_10, k_X12_ways_54, k_X12_ways_62, k_X12_ways_76, k_X12_ways_41, k_X12_ways_151, w_J, w_RI, w_RII, w_RRIIIIII, x_aload, x_cs1, x_i2l, x_iadd, x_iast, x_icmp_gt, x_icmp_ne, x_if_le, x_if_lt, x_iinc, x_iload, x_imul, x_iret, x_istore, x_isub, x_l2i, x_ladd, x_lload, x_lmul, x_lstore, x_push, y_cv1, y_cv2, y_cv7, y_getF, y_iald, y_iast, xFT, xbool0, xbool1, Nat.reduceAdd, Nat.zero_add, xgl_0, xgl_s, xgl_n, xst_0, xst_1n, xst_1i, xst_1r, xst_1l, xst_s, set_0, set_s, true_and, and_true, xres, xcat_nil, xcat_i, xcat_r, xcat_l, Nat.add_zero, xble0, xble1, xble2, xble3, xble4, xble5, xble6, xble7, xble8, pk_mul, nI_add, nI_1, nI_leI, nI_ltI, nI_eq, n_in, n_cl, z_eq, z_lt, z_le, z_gt, z_ge, z_qe, o_eq, o_lt, o_le, o_gt, o_ge, vp0, vp1, cl0, cl1, n_sub, n_sub1, n_pm1, n_a0, n_0a, ofn, lN0, Nat.reduceLT, Nat.reduceLeDiff, Nat.reduceMul, Nat.reduceSub, Nat.reduceEqDiff, ne_eq, true_implies, false_implies, not_true_eq_false, not_false_eq_true, and_self, and_true, true_and, and_false, false_and, implies_true, if_true, if_false, i00, i10, i01, i11, ob_0, ob_1, tn_2, ln_2, ob_3, tn_4, ln_4, ob_5, tn_6, ln_6, tn_7, ln_7, ob_8, tn_9, ln_9, tn_10, ln_10, tn_11, ln_11, tn_12, ln_12, tn_13, ln_13, tn_14, ln_14, tn_15, ln_15, tn_16, ln_16, tn_17, ln_17, ob_18, tn_19, ln_19, tn_20, ln_20, tn_21, ln_21, tn_22, ln_22, tn_23, ln_23, tn_24, ln_24, tn_25, ln_25, tn_26, ln_26, tn_27, ln_27, ob_28, tn_29, ln_29, tn_30, ln_30, ob_31, tn_32, ln_32, tn_33, ln_33, ob_34, ob_35, tn_36, ln_36, tn_37, ln_37, tn_38, ln_38, ob_39, tn_40, ln_40, tn_41, ln_41, tn_42, ln_42, tn_43, ln_43, tn_44, ln_44, tn_45, ln_45, tn_46, ln_46, tn_47, ln_47, tn_48, ln_48, tn_49, ln_49, tn_50, ln_50, tn_51, ln_51, ob_52, tn_53, ln_53, tn_54, ln_54, tn_55, ln_55, tn_56, ln_56, ob_57, tn_58, ln_58, tn_59, ln_59, tn_60, ln_60, tn_61, ln_61, tn_62, ln_62, tn_63, ln_63, tn_64, ln_64, tn_65, ln_65, ob_66, tn_67, ln_67, tn_68, ln_68, tn_69, ln_69, tn_70, ln_70, tn_71, ln_71, tn_72, ln_72, tn_73, ln_73, ob_74, tn_75, ln_75, tn_76, ln_76, tn_77, ln_77, tn_78, ln_78, tn_79, ln_79, tn_80, ln_80, tn_81, ln_81, tn_82, ln_82, tn_83, ln_83, ob_84, tn_85, ln_85, tn_86, ln_86, tn_87, ln_87, tn_88, ln_88, tn_89, ln_89, tn_90, ln_90, tn_91, ln_91, tn_92, ln_92, tn_93, ln_93, ob_94, tn_95, ln_95, tn_96, ln_96, tn_97, ln_97, tn_98, ln_98, tn_99, ln_99, tn_100, ln_100, tn_101, ln_101, tn_102, ln_102, tn_103, ln_103, ob_104, tn_105, ln_105, tn_106, ln_106, tn_107, ln_107, tn_108, ln_108, tn_109, ln_109, tn_110, ln_110, tn_111, ln_111, tn_112, ln_112, tn_113, ln_113, ob_114, tn_115, ln_115, tn_116, ln_116, tn_117, ln_117, tn_118, ln_118, tn_119, ln_119, tn_120, ln_120, tn_121, ln_121, tn_122, ln_122, tn_123, ln_123, ob_124, tn_125, ln_125, tn_126, ln_126, tn_127, ln_127, tn_128, ln_128, tn_129, ln_129, tn_130, ln_130, tn_131, ln_131, tn_132, ln_132, tn_133, ln_133, ob_134, tn_135, ln_135, tn_136, ln_136, tn_137, ln_137, tn_138, ln_138, tn_139, ln_139, tn_140, ln_140, tn_141, ln_141, tn_142, ln_142, tn_143, ln_143, ob_144, tn_145, ln_145, tn_146, ln_146, tn_147, ln_147, tn_148, ln_148, tn_149, ln_149, tn_150, ln_150, tn_151, ln_151, tn_152, ln_152, tn_153, ln_153, ob_154, tn_155, ln_155, tn_156, ln_156, tn_157, ln_157, tn_158, ln_158, tn_159, ln_159, tn_160, ln_160, tn_161, ln_161, tn_162, ln_162, tn_163, ln_163, ob_164, tn_165, ln_165, tn_166, ln_166, ob_167, tn_168, ln_168, tn_169, ln_169, tn_170, ln_170, tn_171, ln_171, tn_172, ln_172, tn_173, ln_173, tn_174, ln_174, tn_175, ln_175, tn_176, ln_176, ob_177, tn_178, ln_178, tn_179, ln_179, ob_180, tn_181, ln_181, tn_182, ln_182, tn_183, ln_183, tn_184, ln_184, tn_185, ln_185, tn_186, ln_186, tn_187, ln_187, tn_188, ln_188, tn_189, ln_189, tn_190, ln_190, tn_191, ln_191, tn_192, ln_192, tn_193, ln_193, tn_194, ln_194, tn_195, ln_195, tn_196, ln_196, tn_197, ln_197, tn_198, ln_198, tn_199, ln_199, tn_200, ln_200, tn_201, ln_201, tn_202, ln_202, tn_203, ln_203, tn_204, ln_204, tn_205, ln_205, tn_206, ln_206, tn_207, ln_207, tn_208, ln_208, tn_209, ln_209, tn_210, ln_210, tn_211, ln_211, tn_212, ln_212, tn_213, ln_213, tn_214, ln_214, tn_215, ln_215, tn_216, ln_216, tn_217, ln_217, tn_218, ln_218, tn_219, ln_219, tn_220, ln_220, tn_221, ln_221, tn_222, ln_222, tn_223, ln_223, tn_224, ln_224, tn_225, ln_225, tn_226, ln_226, tn_227, ln_227, tn_228, ln_228, tn_229, ln_229, tn_230, ln_230, lx2, lx3, lx4, lx5, lx6, lx7, lx8, lx9, lx10, lx14, lx15, lx16, lx18, lx20, lx24, lx25, lx27, lx32, lx36, lx40, lx41, lx42, lx43, lx45, lx48, lx52, lx54, lx56, lx57, lx58, lx60, lx61, lx62, lx63, lx64, lx66, lx69, lx73, lx80, lx81, lx84, lx85, lx87, lx94, lx96, lx97, lx120, lx128, lx135, lx160, lx162, lx163, lx165, lx200, lx232, lx242, lx243, lx255, lx256, lx320, lx325, lx400, lx405, lx464, lx512, lx600, lx640, lx752, lx900, lx940, lx1000, lx1024, lx1764, lx3360, lx3840, lx5000, lx6400, lx9050, lx9998, lx9999, lx10000, lx25600, lx76800, lx99999, pI_dec]
    skip
  · rintro q s x y z w' A P - μ L st B ⟨g, ρ, s, r, i, j, t, x, e, o, hG, ht, hx, hxj, he, hz, hy, rfl, rfl, rfl⟩
    have hR := hG.1.2.1
    have hw := hG.1.2.2.1
    have h10 := hw.2.2.1
    have h3 := (hw.2.2.2.2 r hG.2.1).2.1
    have hij := hG.1.2.2.2.1
    have hj := hG.1.2.2.2.2.1
    simp (disch := omega) only [k_X12_ways_0, k_X12_ways_10, k_X12_ways_54, k_X12_ways_62, k_X12_ways_76, k_X12_ways_41, k_X12_ways_151, w_J, w_RI, w_RII, w_RRIIIIII, x_aload, x_cs1, x_i2l, x_iadd, x_iast, x_icmp_gt, x_icmp_ne, x_if_le, x_if_lt, x_iinc, x_iload, x_imul, x_iret, x_istore, x_isub, x_l2i, x_ladd, x_lload, x_lmul, x_lstore, x_push, y_cv1, y_cv2, y_cv7, y_getF, y_iald, y_iast, xFT, xbool0, xbool1, Nat.reduceAdd, Nat.zero_add, xgl_0, xgl_s, xgl_n, xst_0, xst_1n, xst_1i, xst_1r, xst_1l, xst_s, set_0, set_s, true_and, and_true, xres, xcat_nil, xcat_i, xcat_r, xcat_l, Nat.add_zero, xble0, xble1, xble2, xble3, xble4, xble5, xble6, xble7, xble8, pk_mul, nI_add, nI_1, nI_leI, nI_ltI, nI_eq, n_in, n_cl, z_eq, z_lt, z_le, z_gt, z_ge, z_qe, o_eq, o_lt, o_le, o_gt, o_ge, vp0, vp1, cl0, cl1, n_sub, n_sub1, n_pm1, n_a0, n_0a, ofn, lN0, Nat.reduceLT, Nat.reduceLeDiff, Nat.reduceMul, Nat.reduceSub, Nat.reduceEqDiff, ne_eq, true_implies, false_implies, not_true_eq_false, not_false_eq_true, and_self, and_true, true_and, and_false, false_and, implies_true, if_true, if_false, i00, i10, i01, i11, ob_0, ob_1, tn_2, ln_2, ob_3, tn_4, ln_4, ob_5, tn_6, ln_6, tn_7, ln_7, ob_8, tn_9, ln_9, tn_10, ln_10, tn_11, ln_11, tn_12, ln_12, tn_13, ln_13, tn_14, ln_14, tn_15, ln_15, tn_16, ln_16, tn_17, ln_17, ob_18, tn_19, ln_19, tn_20, ln_20, tn_21, ln_21, tn_22, ln_22, tn_23, ln_23, tn_24, ln_24, tn_25, ln_25, tn_26, ln_26, tn_27, ln_27, ob_28, tn_29, ln_29, tn_30, ln_30, ob_31, tn_32, ln_32, tn_33, ln_33, ob_34, ob_35, tn_36, ln_36, tn_37, ln_37, tn_38, ln_38, ob_39, tn_40, ln_40, tn_41, ln_41, tn_42, ln_42, tn_43, ln_43, tn_44, ln_44, tn_45, ln_45, tn_46, ln_46, tn_47, ln_47, tn_48, ln_48, tn_49, ln_49, tn_50, ln_50, tn_51, ln_51, ob_52, tn_53, ln_53, tn_54, ln_54, tn_55, ln_55, tn_56, ln_56, ob_57, tn_58, ln_58, tn_59, ln_59, tn_60, ln_60, tn_61, ln_61, tn_62, ln_62, tn_63, ln_63, tn_64, ln_64, tn_65, ln_65, ob_66, tn_67, ln_67, tn_68, ln_68, tn_69, ln_69, tn_70, ln_70, tn_71, ln_71, tn_72, ln_72, tn_73, ln_73, ob_74, tn_75, ln_75, tn_76, ln_76, tn_77, ln_77, tn_78, ln_78, tn_79, ln_79, tn_80, ln_80, tn_81, ln_81, tn_82, ln_82, tn_83, ln_83, ob_84, tn_85, ln_85, tn_86, ln_86, tn_87, ln_87, tn_88, ln_88, tn_89, ln_89, tn_90, ln_90, tn_91, ln_91, tn_92, ln_92, tn_93, ln_93, ob_94, tn_95, ln_95, tn_96, ln_96, tn_97, ln_97, tn_98, ln_98, tn_99, ln_99, tn_100, ln_100, tn_101, ln_101, tn_102, ln_102, tn_103, ln_103, ob_104, tn_105, ln_105, tn_106, ln_106, tn_107, ln_107, tn_108, ln_108, tn_109, ln_109, tn_110, ln_110, tn_111, ln_111, tn_112, ln_112, tn_113, ln_113, ob_114, tn_115, ln_115, tn_116, ln_116, tn_117, ln_117, tn_118, ln_118, tn_119, ln_119, tn_120, ln_120, tn_121, ln_121, tn_122, ln_122, tn_123, ln_123, ob_124, tn_125, ln_125, tn_126, ln_126, tn_127, ln_127, tn_128, ln_128, tn_129, ln_129, tn_130, ln_130, tn_131, ln_131, tn_132, ln_132, tn_133, ln_133, ob_134, tn_135, ln_135, tn_136, ln_136, tn_137, ln_137, tn_138, ln_138, tn_139, ln_139, tn_140, ln_140, tn_141, ln_141, tn_142, ln_142, tn_143, ln_143, ob_144, tn_145, ln_145, tn_146, ln_146, tn_147, ln_147, tn_148, ln_148, tn_149, ln_149, tn_150, ln_150, tn_151, ln_151, tn_152, ln_152, tn_153, ln_153, ob_154, tn_155, ln_155, tn_156, ln_156, tn_157, ln_157, tn_158, ln_158, tn_159, ln_159, tn_160, ln_160, tn_161, ln_161, tn_162, ln_162, tn_163, ln_163, ob_164, tn_165, ln_165, tn_166, ln_166, ob_167, tn_168, ln_168, tn_169, ln_169, tn_170, ln_170, tn_171, ln_171, tn_172, ln_172, tn_173, ln_173, tn_174, ln_174, tn_175, ln_175, tn_176, ln_176, ob_177, tn_178, ln_178, tn_179, ln_179, ob_180, tn_181, ln_181, tn_182, ln_182, tn_183, ln_183, tn_184, ln_184, tn_185, ln_185, tn_186, ln_186, tn_187, ln_187, tn_188, ln_188, tn_189, ln_189, tn_190, ln_190, tn_191, ln_191, tn_192, ln_192, tn_193, ln_193, tn_194, ln_194, tn_195, ln_195, tn_196, ln_196, tn_197, ln_197, tn_198, ln_198, tn_199, ln_199, tn_200, ln_200, tn_201, ln_201, tn_202, ln_202, tn_203, ln_203, tn_204, ln_204, tn_205, ln_205, tn_206, ln_206, tn_207, ln_207, tn_208, ln_208, tn_209, ln_209, tn_210, ln_210, tn_211, ln_211, tn_212, ln_212, tn_213, ln_213, tn_214, ln_214, tn_215, ln_215, tn_216, ln_216, tn_217, ln_217, tn_218, ln_218, tn_219, ln_219, tn_220, ln_220, tn_221, ln_221, tn_222, ln_222, tn_223, ln_223, tn_224, ln_224, tn_225, ln_225, tn_226, ln_226, tn_227, ln_227, tn_228, ln_228, tn_229, ln_229, tn_230, ln_230, lx2, lx3, lx4, lx5, lx6, lx7, lx8, lx9, lx10, lx14, lx15, lx16, lx18, lx20, lx24, lx25, lx27, lx32, lx36, lx40, lx41, lx42, lx43, lx45, lx48, lx52, lx54, lx56, lx57, lx58, lx60, lx61, lx62, lx63, lx64, lx66, lx69, lx73, lx80, lx81, lx84, lx85, lx87, lx94, lx96, lx97, lx120, lx128, lx135, lx160, lx162, lx163, lx165, lx200, lx232, lx242, lx243, lx255, lx256, lx320, lx325, lx400, lx405, lx464, lx512, lx600, lx640, lx752, lx900, lx940, lx1000, lx1024, lx1764, lx3360, lx3840, lx5000, lx6400, lx9050, lx9998, lx9999, lx10000, lx25600, lx76800, lx99999, lN_i]
    skip

