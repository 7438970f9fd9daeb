/-! ===== the reference's together ===== -/
theorem d_X12_together_0 : decode cX12_together 0 = .ok (.aload_n 0, 1) := by decide +kernel
theorem d_X12_together_1 : decode cX12_together 1 = .ok (.getfield 80, 3) := by decide +kernel
theorem d_X12_together_4 : decode cX12_together 4 = .ok (.iload_n 1, 1) := by decide +kernel
theorem d_X12_together_5 : decode cX12_together 5 = .ok (.iaload, 1) := by decide +kernel
theorem d_X12_together_6 : decode cX12_together 6 = .ok (.istore 4, 2) := by decide +kernel
theorem d_X12_together_8 : decode cX12_together 8 = .ok (.iload 4, 2) := by decide +kernel
theorem d_X12_together_10 : decode cX12_together 10 = .ok (.aload_n 0, 1) := by decide +kernel
theorem d_X12_together_11 : decode cX12_together 11 = .ok (.getfield 80, 3) := by decide +kernel
theorem d_X12_together_14 : decode cX12_together 14 = .ok (.iload_n 1, 1) := by decide +kernel
theorem d_X12_together_15 : decode cX12_together 15 = .ok (.iconst 1, 1) := by decide +kernel
theorem d_X12_together_16 : decode cX12_together 16 = .ok (.iadd, 1) := by decide +kernel
theorem d_X12_together_17 : decode cX12_together 17 = .ok (.iaload, 1) := by decide +kernel
theorem d_X12_together_18 : decode cX12_together 18 = .ok (.if_icmp .ge 173, 3) := by decide +kernel
theorem d_X12_together_21 : decode cX12_together 21 = .ok (.aload_n 0, 1) := by decide +kernel
theorem d_X12_together_22 : decode cX12_together 22 = .ok (.getfield 84, 3) := by decide +kernel
theorem d_X12_together_25 : decode cX12_together 25 = .ok (.iload 4, 2) := by decide +kernel
theorem d_X12_together_27 : decode cX12_together 27 = .ok (.iaload, 1) := by decide +kernel
theorem d_X12_together_28 : decode cX12_together 28 = .ok (.sipush 128, 3) := by decide +kernel
theorem d_X12_together_31 : decode cX12_together 31 = .ok (.idiv, 1) := by decide +kernel
theorem d_X12_together_32 : decode cX12_together 32 = .ok (.istore 5, 2) := by decide +kernel
theorem d_X12_together_34 : decode cX12_together 34 = .ok (.iload_n 3, 1) := by decide +kernel
theorem d_X12_together_35 : decode cX12_together 35 = .ok (.ifCond .le 10, 3) := by decide +kernel
theorem d_X12_together_38 : decode cX12_together 38 = .ok (.iload 5, 2) := by decide +kernel
theorem d_X12_together_40 : decode cX12_together 40 = .ok (.iconst 3, 1) := by decide +kernel
theorem d_X12_together_41 : decode cX12_together 41 = .ok (.if_icmp .le 4, 3) := by decide +kernel
theorem d_X12_together_44 : decode cX12_together 44 = .ok (.return_, 1) := by decide +kernel
theorem d_X12_together_45 : decode cX12_together 45 = .ok (.aload_n 0, 1) := by decide +kernel
theorem d_X12_together_46 : decode cX12_together 46 = .ok (.getfield 80, 3) := by decide +kernel
theorem d_X12_together_49 : decode cX12_together 49 = .ok (.iload_n 2, 1) := by decide +kernel
theorem d_X12_together_50 : decode cX12_together 50 = .ok (.iaload, 1) := by decide +kernel
theorem d_X12_together_51 : decode cX12_together 51 = .ok (.istore 6, 2) := by decide +kernel
theorem d_X12_together_53 : decode cX12_together 53 = .ok (.iload 6, 2) := by decide +kernel
theorem d_X12_together_55 : decode cX12_together 55 = .ok (.aload_n 0, 1) := by decide +kernel
theorem d_X12_together_56 : decode cX12_together 56 = .ok (.getfield 80, 3) := by decide +kernel
theorem d_X12_together_59 : decode cX12_together 59 = .ok (.iload_n 2, 1) := by decide +kernel
theorem d_X12_together_60 : decode cX12_together 60 = .ok (.iconst 1, 1) := by decide +kernel
theorem d_X12_together_61 : decode cX12_together 61 = .ok (.iadd, 1) := by decide +kernel
theorem d_X12_together_62 : decode cX12_together 62 = .ok (.iaload, 1) := by decide +kernel
theorem d_X12_together_63 : decode cX12_together 63 = .ok (.if_icmp .ge 122, 3) := by decide +kernel
theorem d_X12_together_66 : decode cX12_together 66 = .ok (.aload_n 0, 1) := by decide +kernel
theorem d_X12_together_67 : decode cX12_together 67 = .ok (.getfield 84, 3) := by decide +kernel
theorem d_X12_together_70 : decode cX12_together 70 = .ok (.iload 6, 2) := by decide +kernel
theorem d_X12_together_72 : decode cX12_together 72 = .ok (.iaload, 1) := by decide +kernel
theorem d_X12_together_73 : decode cX12_together 73 = .ok (.sipush 128, 3) := by decide +kernel
theorem d_X12_together_76 : decode cX12_together 76 = .ok (.idiv, 1) := by decide +kernel
theorem d_X12_together_77 : decode cX12_together 77 = .ok (.istore 7, 2) := by decide +kernel
theorem d_X12_together_79 : decode cX12_together 79 = .ok (.iload 5, 2) := by decide +kernel
theorem d_X12_together_81 : decode cX12_together 81 = .ok (.iload 7, 2) := by decide +kernel
theorem d_X12_together_83 : decode cX12_together 83 = .ok (.if_icmp .ne 52, 3) := by decide +kernel
theorem d_X12_together_86 : decode cX12_together 86 = .ok (.aload_n 0, 1) := by decide +kernel
theorem d_X12_together_87 : decode cX12_together 87 = .ok (.aload_n 0, 1) := by decide +kernel
theorem d_X12_together_88 : decode cX12_together 88 = .ok (.getfield 84, 3) := by decide +kernel
theorem d_X12_together_91 : decode cX12_together 91 = .ok (.iload 4, 2) := by decide +kernel
theorem d_X12_together_93 : decode cX12_together 93 = .ok (.iaload, 1) := by decide +kernel
theorem d_X12_together_94 : decode cX12_together 94 = .ok (.sipush 128, 3) := by decide +kernel
theorem d_X12_together_97 : decode cX12_together 97 = .ok (.irem, 1) := by decide +kernel
theorem d_X12_together_98 : decode cX12_together 98 = .ok (.aload_n 0, 1) := by decide +kernel
theorem d_X12_together_99 : decode cX12_together 99 = .ok (.getfield 84, 3) := by decide +kernel
theorem d_X12_together_102 : decode cX12_together 102 = .ok (.iload 6, 2) := by decide +kernel
theorem d_X12_together_104 : decode cX12_together 104 = .ok (.iaload, 1) := by decide +kernel
theorem d_X12_together_105 : decode cX12_together 105 = .ok (.sipush 128, 3) := by decide +kernel
theorem d_X12_together_108 : decode cX12_together 108 = .ok (.irem, 1) := by decide +kernel
theorem d_X12_together_109 : decode cX12_together 109 = .ok (.iload_n 3, 1) := by decide +kernel
theorem d_X12_together_110 : decode cX12_together 110 = .ok (.ifCond .ne 7, 3) := by decide +kernel
theorem d_X12_together_113 : decode cX12_together 113 = .ok (.iconst 0, 1) := by decide +kernel
theorem d_X12_together_114 : decode cX12_together 114 = .ok (.goto 4, 3) := by decide +kernel
theorem d_X12_together_117 : decode cX12_together 117 = .ok (.iconst 1, 1) := by decide +kernel
theorem d_X12_together_118 : decode cX12_together 118 = .ok (.iload 5, 2) := by decide +kernel
theorem d_X12_together_120 : decode cX12_together 120 = .ok (.iconst 4, 1) := by decide +kernel
theorem d_X12_together_121 : decode cX12_together 121 = .ok (.if_icmp .ge 7, 3) := by decide +kernel
theorem d_X12_together_124 : decode cX12_together 124 = .ok (.iconst 1, 1) := by decide +kernel
theorem d_X12_together_125 : decode cX12_together 125 = .ok (.goto 4, 3) := by decide +kernel
theorem d_X12_together_128 : decode cX12_together 128 = .ok (.iconst 0, 1) := by decide +kernel
theorem d_X12_together_129 : decode cX12_together 129 = .ok (.invokevirtual 449, 3) := by decide +kernel
theorem d_X12_together_132 : decode cX12_together 132 = .ok (.goto 47, 3) := by decide +kernel
theorem d_X12_together_135 : decode cX12_together 135 = .ok (.iload_n 3, 1) := by decide +kernel
theorem d_X12_together_136 : decode cX12_together 136 = .ok (.ifCond .ne 43, 3) := by decide +kernel
theorem d_X12_together_139 : decode cX12_together 139 = .ok (.iload 5, 2) := by decide +kernel
theorem d_X12_together_141 : decode cX12_together 141 = .ok (.iconst 3, 1) := by decide +kernel
theorem d_X12_together_142 : decode cX12_together 142 = .ok (.if_icmp .le 37, 3) := by decide +kernel
theorem d_X12_together_145 : decode cX12_together 145 = .ok (.iload 7, 2) := by decide +kernel
theorem d_X12_together_147 : decode cX12_together 147 = .ok (.iconst 3, 1) := by decide +kernel
theorem d_X12_together_148 : decode cX12_together 148 = .ok (.if_icmp .le 31, 3) := by decide +kernel
theorem d_X12_together_151 : decode cX12_together 151 = .ok (.aload_n 0, 1) := by decide +kernel
theorem d_X12_together_152 : decode cX12_together 152 = .ok (.aload_n 0, 1) := by decide +kernel
theorem d_X12_together_153 : decode cX12_together 153 = .ok (.getfield 84, 3) := by decide +kernel
theorem d_X12_together_156 : decode cX12_together 156 = .ok (.iload 4, 2) := by decide +kernel
theorem d_X12_together_158 : decode cX12_together 158 = .ok (.iaload, 1) := by decide +kernel
theorem d_X12_together_159 : decode cX12_together 159 = .ok (.sipush 128, 3) := by decide +kernel
theorem d_X12_together_162 : decode cX12_together 162 = .ok (.irem, 1) := by decide +kernel
theorem d_X12_together_163 : decode cX12_together 163 = .ok (.aload_n 0, 1) := by decide +kernel
theorem d_X12_together_164 : decode cX12_together 164 = .ok (.getfield 84, 3) := by decide +kernel
theorem d_X12_together_167 : decode cX12_together 167 = .ok (.iload 6, 2) := by decide +kernel
theorem d_X12_together_169 : decode cX12_together 169 = .ok (.iaload, 1) := by decide +kernel
theorem d_X12_together_170 : decode cX12_together 170 = .ok (.sipush 128, 3) := by decide +kernel
theorem d_X12_together_173 : decode cX12_together 173 = .ok (.irem, 1) := by decide +kernel
theorem d_X12_together_174 : decode cX12_together 174 = .ok (.iconst 1, 1) := by decide +kernel
theorem d_X12_together_175 : decode cX12_together 175 = .ok (.iconst 0, 1) := by decide +kernel
theorem d_X12_together_176 : decode cX12_together 176 = .ok (.invokevirtual 449, 3) := by decide +kernel
theorem d_X12_together_179 : decode cX12_together 179 = .ok (.iinc 6 1, 3) := by decide +kernel
theorem d_X12_together_182 : decode cX12_together 182 = .ok (.goto (-129), 3) := by decide +kernel
theorem d_X12_together_185 : decode cX12_together 185 = .ok (.iinc 4 1, 3) := by decide +kernel
theorem d_X12_together_188 : decode cX12_together 188 = .ok (.goto (-180), 3) := by decide +kernel
theorem d_X12_together_191 : decode cX12_together 191 = .ok (.return_, 1) := by decide +kernel
def k_X12_together_0 (P : xP) (C8 : xK) : xK := x_aload 0 (y_getF 180 198 (x_iload 1 (y_iald 198 81 (x_istore 4 (C8)))))
set_option maxRecDepth 20000 in
theorem t_X12_together_0 {p : Program} {l : Launch} {e : Env} {s : State} {m : MethodId} {args : Array Value} {below : List Frame} {meth : Method} {c : Code} {g : xG} (X : xX p s m args c meth cX12_together RX12 8 g) (hr : meth.sig.returnType = none) {P : xP} {C8 : xK} (h8 : xAt p l e { frames := 1, cells := 0, slots := 0, locals := 26 } s m args below meth c g 8 xFT xN 0 0 (MQ below (xQc g xFT xN P) args s 0 0 (xFr g)) C8 8) : xAt p l e { frames := 1, cells := 0, slots := 0, locals := 26 } s m args below meth c g 8 xFT xN 0 0 (MQ below (xQc g xFT xN P) args s 0 0 (xFr g)) (k_X12_together_0 P C8) 0 := by
  unfold k_X12_together_0
  refine r_aload_n (pc := 0) X d_X12_together_0 fn0 ?_
  refine s_getF (pc := 1) (ci := 12) (k := 37) X xok12 (by decide +kernel) ob_180 trivial ly_180_37 (by decide +kernel) fl_RX12_80 d_X12_together_1 ?_
  refine r_iload_n (pc := 4) X d_X12_together_4 fn1 ?_
  refine s_iald (pc := 5) X tn_198 ln_198 d_X12_together_5 ?_
  refine r_istore (pc := 6) X d_X12_together_6 (by decide +kernel) ?_
  exact h8
def k_X12_together_45 (P : xP) (C53 : xK) : xK := x_aload 0 (y_getF 180 198 (x_iload 2 (y_iald 198 81 (x_istore 6 (C53)))))
set_option maxRecDepth 20000 in
theorem t_X12_together_45 {p : Program} {l : Launch} {e : Env} {s : State} {m : MethodId} {args : Array Value} {below : List Frame} {meth : Method} {c : Code} {g : xG} (X : xX p s m args c meth cX12_together RX12 8 g) (hr : meth.sig.returnType = none) {P : xP} {C53 : xK} (h53 : xAt p l e { frames := 1, cells := 0, slots := 0, locals := 26 } s m args below meth c g 8 xFT xN 0 0 (MQ below (xQc g xFT xN P) args s 0 0 (xFr g)) C53 53) : xAt p l e { frames := 1, cells := 0, slots := 0, locals := 26 } s m args below meth c g 8 xFT xN 0 0 (MQ below (xQc g xFT xN P) args s 0 0 (xFr g)) (k_X12_together_45 P C53) 45 := by
  unfold k_X12_together_45
  refine r_aload_n (pc := 45) X d_X12_together_45 fn0 ?_
  refine s_getF (pc := 46) (ci := 12) (k := 37) X xok12 (by decide +kernel) ob_180 trivial ly_180_37 (by decide +kernel) fl_RX12_80 d_X12_together_46 ?_
  refine r_iload_n (pc := 49) X d_X12_together_49 fn2 ?_
  refine s_iald (pc := 50) X tn_198 ln_198 d_X12_together_50 ?_
  refine r_istore (pc := 51) X d_X12_together_51 (by decide +kernel) ?_
  exact h53
def k_X12_together_8 (P : xP) (C53 : xK) : xK := x_iload 4 (x_aload 0 (y_getF 180 198 (x_iload 1 (x_push (.int 1) (x_iadd (y_iald 198 81 (x_icmp_ge (x_vret P) (x_aload 0 (y_getF 180 199 (x_iload 4 (y_iald 199 76800 (x_push (.int 128) (x_idiv (x_istore 5 (x_iload 3 (x_if_le ((k_X12_together_45 P C53)) (x_iload 5 (x_push (.int 3) (x_icmp_le ((k_X12_together_45 P C53)) (x_vret P))))))))))))))))))))
set_option maxRecDepth 20000 in
theorem t_X12_together_8 {p : Program} {l : Launch} {e : Env} {s : State} {m : MethodId} {args : Array Value} {below : List Frame} {meth : Method} {c : Code} {g : xG} (X : xX p s m args c meth cX12_together RX12 8 g) (hr : meth.sig.returnType = none) {P : xP} {C53 : xK} (h53 : xAt p l e { frames := 1, cells := 0, slots := 0, locals := 26 } s m args below meth c g 8 xFT xN 0 0 (MQ below (xQc g xFT xN P) args s 0 0 (xFr g)) C53 53) : xAt p l e { frames := 1, cells := 0, slots := 0, locals := 26 } s m args below meth c g 8 xFT xN 0 0 (MQ below (xQc g xFT xN P) args s 0 0 (xFr g)) (k_X12_together_8 P C53) 8 := by
  unfold k_X12_together_8
  refine r_iload (pc := 8) X d_X12_together_8 ?_
  refine r_aload_n (pc := 10) X d_X12_together_10 fn0 ?_
  refine s_getF (pc := 11) (ci := 12) (k := 37) X xok12 (by decide +kernel) ob_180 trivial ly_180_37 (by decide +kernel) fl_RX12_80 d_X12_together_11 ?_
  refine r_iload_n (pc := 14) X d_X12_together_14 fn1 ?_
  refine r_iconst (pc := 15) X d_X12_together_15 (by decide +kernel) ?_
  refine r_iadd (pc := 16) X d_X12_together_16 ?_
  refine s_iald (pc := 17) X tn_198 ln_198 d_X12_together_17 ?_
  refine r_icmp_ge (pc := 18) (tgt := 191) X d_X12_together_18 (by decide +kernel) ?_ ?_
  · exact r_vret (pc := 191) X hr d_X12_together_191
  · refine r_aload_n (pc := 21) X d_X12_together_21 fn0 ?_
    refine s_getF (pc := 22) (ci := 12) (k := 38) X xok12 (by decide +kernel) ob_180 trivial ly_180_38 (by decide +kernel) fl_RX12_84 d_X12_together_22 ?_
    refine r_iload (pc := 25) X d_X12_together_25 ?_
    refine s_iald (pc := 27) X tn_199 ln_199 d_X12_together_27 ?_
    refine r_sipush (pc := 28) X d_X12_together_28 (by decide +kernel) ?_
    refine r_idiv (pc := 31) X d_X12_together_31 ?_
    refine r_istore (pc := 32) X d_X12_together_32 (by decide +kernel) ?_
    refine r_iload_n (pc := 34) X d_X12_together_34 fn3 ?_
    refine r_if_le (pc := 35) (tgt := 45) X d_X12_together_35 (by decide +kernel) ?_ ?_
    · exact t_X12_together_45 X hr h53
    · refine r_iload (pc := 38) X d_X12_together_38 ?_
      refine r_iconst (pc := 40) X d_X12_together_40 (by decide +kernel) ?_
      refine r_icmp_le (pc := 41) (tgt := 45) X d_X12_together_41 (by decide +kernel) ?_ ?_
      · exact t_X12_together_45 X hr h53
      · exact r_vret (pc := 44) X hr d_X12_together_44
def k_X12_together_179 (P : xP) (C53 : xK) : xK := x_iinc 6 1 (C53)
set_option maxRecDepth 20000 in
theorem t_X12_together_179 {p : Program} {l : Launch} {e : Env} {s : State} {m : MethodId} {args : Array Value} {below : List Frame} {meth : Method} {c : Code} {g : xG} (X : xX p s m args c meth cX12_together RX12 8 g) (hr : meth.sig.returnType = none) {P : xP} {C53 : xK} (h53 : xAt p l e { frames := 1, cells := 0, slots := 0, locals := 26 } s m args below meth c g 8 xFT xN 0 0 (MQ below (xQc g xFT xN P) args s 0 0 (xFr g)) C53 53) : xAt p l e { frames := 1, cells := 0, slots := 0, locals := 26 } s m args below meth c g 8 xFT xN 0 0 (MQ below (xQc g xFT xN P) args s 0 0 (xFr g)) (k_X12_together_179 P C53) 179 := by
  unfold k_X12_together_179
  refine r_iinc (pc := 179) X d_X12_together_179 (by decide +kernel) (by decide +kernel) ?_
  refine r_goto (pc := 182) (tgt := 53) X d_X12_together_182 (by decide +kernel) ?_
  exact h53
def k_X12_together_129 (P : xP) (C53 : xK) : xK := x_cv4 xN 12 (w_RIIII f_X12_comes) ((k_X12_together_179 P C53))
set_option maxRecDepth 20000 in
theorem t_X12_together_129 {p : Program} {l : Launch} {e : Env} {s : State} {m : MethodId} {args : Array Value} {below : List Frame} {meth : Method} {c : Code} {g : xG} (X : xX p s m args c meth cX12_together RX12 8 g) (hr : meth.sig.returnType = none) {P : xP} {C53 : xK} (h53 : xAt p l e { frames := 1, cells := 0, slots := 0, locals := 26 } s m args below meth c g 8 xFT xN 0 0 (MQ below (xQc g xFT xN P) args s 0 0 (xFr g)) C53 53) : xAt p l e { frames := 1, cells := 0, slots := 0, locals := 26 } s m args below meth c g 8 xFT xN 0 0 (MQ below (xQc g xFT xN P) args s 0 0 (xFr g)) (k_X12_together_129 P C53) 129 := by
  unfold k_X12_together_129
  refine r_cv4 (pc := 129) X xok12 (by decide +kernel) rfl (con_X12_comes l) mf_X12_comes ml_RX12_449 (by decide +kernel) (by decide +kernel) d_X12_together_129 ?_
  refine r_goto (pc := 132) (tgt := 179) X d_X12_together_132 (by decide +kernel) ?_
  exact t_X12_together_179 X hr h53
def k_X12_together_118 (P : xP) (C53 : xK) : xK := x_iload 5 (x_push (.int 4) (x_icmp_ge (x_push (.int 0) ((k_X12_together_129 P C53))) (x_push (.int 1) ((k_X12_together_129 P C53)))))
set_option maxRecDepth 20000 in
theorem t_X12_together_118 {p : Program} {l : Launch} {e : Env} {s : State} {m : MethodId} {args : Array Value} {below : List Frame} {meth : Method} {c : Code} {g : xG} (X : xX p s m args c meth cX12_together RX12 8 g) (hr : meth.sig.returnType = none) {P : xP} {C53 : xK} (h53 : xAt p l e { frames := 1, cells := 0, slots := 0, locals := 26 } s m args below meth c g 8 xFT xN 0 0 (MQ below (xQc g xFT xN P) args s 0 0 (xFr g)) C53 53) : xAt p l e { frames := 1, cells := 0, slots := 0, locals := 26 } s m args below meth c g 8 xFT xN 0 0 (MQ below (xQc g xFT xN P) args s 0 0 (xFr g)) (k_X12_together_118 P C53) 118 := by
  unfold k_X12_together_118
  refine r_iload (pc := 118) X d_X12_together_118 ?_
  refine r_iconst (pc := 120) X d_X12_together_120 (by decide +kernel) ?_
  refine r_icmp_ge (pc := 121) (tgt := 128) X d_X12_together_121 (by decide +kernel) ?_ ?_
  · refine r_iconst (pc := 128) X d_X12_together_128 (by decide +kernel) ?_
    exact t_X12_together_129 X hr h53
  · refine r_iconst (pc := 124) X d_X12_together_124 (by decide +kernel) ?_
    refine r_goto (pc := 125) (tgt := 129) X d_X12_together_125 (by decide +kernel) ?_
    exact t_X12_together_129 X hr h53
def k_X12_together_53 (P : xP) (C8 : xK) (C53 : xK) : xK := x_iload 6 (x_aload 0 (y_getF 180 198 (x_iload 2 (x_push (.int 1) (x_iadd (y_iald 198 81 (x_icmp_ge (x_iinc 4 1 (C8)) (x_aload 0 (y_getF 180 199 (x_iload 6 (y_iald 199 76800 (x_push (.int 128) (x_idiv (x_istore 7 (x_iload 5 (x_iload 7 (x_icmp_ne (x_iload 3 (x_if_ne ((k_X12_together_179 P C53)) (x_iload 5 (x_push (.int 3) (x_icmp_le ((k_X12_together_179 P C53)) (x_iload 7 (x_push (.int 3) (x_icmp_le ((k_X12_together_179 P C53)) (x_aload 0 (x_aload 0 (y_getF 180 199 (x_iload 4 (y_iald 199 76800 (x_push (.int 128) (x_irem (x_aload 0 (y_getF 180 199 (x_iload 6 (y_iald 199 76800 (x_push (.int 128) (x_irem (x_push (.int 1) (x_push (.int 0) (y_cv4 180 (w_RIIII f_X12_comes) ((k_X12_together_179 P C53)))))))))))))))))))))))))) (x_aload 0 (x_aload 0 (y_getF 180 199 (x_iload 4 (y_iald 199 76800 (x_push (.int 128) (x_irem (x_aload 0 (y_getF 180 199 (x_iload 6 (y_iald 199 76800 (x_push (.int 128) (x_irem (x_iload 3 (x_if_ne (x_push (.int 1) ((k_X12_together_118 P C53))) (x_push (.int 0) ((k_X12_together_118 P C53)))))))))))))))))))))))))))))))))))
set_option maxRecDepth 20000 in
theorem t_X12_together_53 {p : Program} {l : Launch} {e : Env} {s : State} {m : MethodId} {args : Array Value} {below : List Frame} {meth : Method} {c : Code} {g : xG} (X : xX p s m args c meth cX12_together RX12 8 g) (hr : meth.sig.returnType = none) {P : xP} {C8 : xK} {C53 : xK} (h8 : xAt p l e { frames := 1, cells := 0, slots := 0, locals := 26 } s m args below meth c g 8 xFT xN 0 0 (MQ below (xQc g xFT xN P) args s 0 0 (xFr g)) C8 8) (h53 : xAt p l e { frames := 1, cells := 0, slots := 0, locals := 26 } s m args below meth c g 8 xFT xN 0 0 (MQ below (xQc g xFT xN P) args s 0 0 (xFr g)) C53 53) : xAt p l e { frames := 1, cells := 0, slots := 0, locals := 26 } s m args below meth c g 8 xFT xN 0 0 (MQ below (xQc g xFT xN P) args s 0 0 (xFr g)) (k_X12_together_53 P C8 C53) 53 := by
  unfold k_X12_together_53
  refine r_iload (pc := 53) X d_X12_together_53 ?_
  refine r_aload_n (pc := 55) X d_X12_together_55 fn0 ?_
  refine s_getF (pc := 56) (ci := 12) (k := 37) X xok12 (by decide +kernel) ob_180 trivial ly_180_37 (by decide +kernel) fl_RX12_80 d_X12_together_56 ?_
  refine r_iload_n (pc := 59) X d_X12_together_59 fn2 ?_
  refine r_iconst (pc := 60) X d_X12_together_60 (by decide +kernel) ?_
  refine r_iadd (pc := 61) X d_X12_together_61 ?_
  refine s_iald (pc := 62) X tn_198 ln_198 d_X12_together_62 ?_
  refine r_icmp_ge (pc := 63) (tgt := 185) X d_X12_together_63 (by decide +kernel) ?_ ?_
  · refine r_iinc (pc := 185) X d_X12_together_185 (by decide +kernel) (by decide +kernel) ?_
    refine r_goto (pc := 188) (tgt := 8) X d_X12_together_188 (by decide +kernel) ?_
    exact h8
  · refine r_aload_n (pc := 66) X d_X12_together_66 fn0 ?_
    refine s_getF (pc := 67) (ci := 12) (k := 38) X xok12 (by decide +kernel) ob_180 trivial ly_180_38 (by decide +kernel) fl_RX12_84 d_X12_together_67 ?_
    refine r_iload (pc := 70) X d_X12_together_70 ?_
    refine s_iald (pc := 72) X tn_199 ln_199 d_X12_together_72 ?_
    refine r_sipush (pc := 73) X d_X12_together_73 (by decide +kernel) ?_
    refine r_idiv (pc := 76) X d_X12_together_76 ?_
    refine r_istore (pc := 77) X d_X12_together_77 (by decide +kernel) ?_
    refine r_iload (pc := 79) X d_X12_together_79 ?_
    refine r_iload (pc := 81) X d_X12_together_81 ?_
    refine r_icmp_ne (pc := 83) (tgt := 135) X d_X12_together_83 (by decide +kernel) ?_ ?_
    · refine r_iload_n (pc := 135) X d_X12_together_135 fn3 ?_
      refine r_if_ne (pc := 136) (tgt := 179) X d_X12_together_136 (by decide +kernel) ?_ ?_
      · exact t_X12_together_179 X hr h53
      · refine r_iload (pc := 139) X d_X12_together_139 ?_
        refine r_iconst (pc := 141) X d_X12_together_141 (by decide +kernel) ?_
        refine r_icmp_le (pc := 142) (tgt := 179) X d_X12_together_142 (by decide +kernel) ?_ ?_
        · exact t_X12_together_179 X hr h53
        · refine r_iload (pc := 145) X d_X12_together_145 ?_
          refine r_iconst (pc := 147) X d_X12_together_147 (by decide +kernel) ?_
          refine r_icmp_le (pc := 148) (tgt := 179) X d_X12_together_148 (by decide +kernel) ?_ ?_
          · exact t_X12_together_179 X hr h53
          · refine r_aload_n (pc := 151) X d_X12_together_151 fn0 ?_
            refine r_aload_n (pc := 152) X d_X12_together_152 fn0 ?_
            refine s_getF (pc := 153) (ci := 12) (k := 38) X xok12 (by decide +kernel) ob_180 trivial ly_180_38 (by decide +kernel) fl_RX12_84 d_X12_together_153 ?_
            refine r_iload (pc := 156) X d_X12_together_156 ?_
            refine s_iald (pc := 158) X tn_199 ln_199 d_X12_together_158 ?_
            refine r_sipush (pc := 159) X d_X12_together_159 (by decide +kernel) ?_
            refine r_irem (pc := 162) X d_X12_together_162 ?_
            refine r_aload_n (pc := 163) X d_X12_together_163 fn0 ?_
            refine s_getF (pc := 164) (ci := 12) (k := 38) X xok12 (by decide +kernel) ob_180 trivial ly_180_38 (by decide +kernel) fl_RX12_84 d_X12_together_164 ?_
            refine r_iload (pc := 167) X d_X12_together_167 ?_
            refine s_iald (pc := 169) X tn_199 ln_199 d_X12_together_169 ?_
            refine r_sipush (pc := 170) X d_X12_together_170 (by decide +kernel) ?_
            refine r_irem (pc := 173) X d_X12_together_173 ?_
            refine r_iconst (pc := 174) X d_X12_together_174 (by decide +kernel) ?_
            refine r_iconst (pc := 175) X d_X12_together_175 (by decide +kernel) ?_
            refine s_cv4 (pc := 176) (ci := 12) X xok12 (by decide +kernel) ob_180 rfl (con_X12_comes l) mf_X12_comes ml_RX12_449 (by decide +kernel) (by decide +kernel) d_X12_together_176 ?_
            exact t_X12_together_179 X hr h53
    · refine r_aload_n (pc := 86) X d_X12_together_86 fn0 ?_
      refine r_aload_n (pc := 87) X d_X12_together_87 fn0 ?_
      refine s_getF (pc := 88) (ci := 12) (k := 38) X xok12 (by decide +kernel) ob_180 trivial ly_180_38 (by decide +kernel) fl_RX12_84 d_X12_together_88 ?_
      refine r_iload (pc := 91) X d_X12_together_91 ?_
      refine s_iald (pc := 93) X tn_199 ln_199 d_X12_together_93 ?_
      refine r_sipush (pc := 94) X d_X12_together_94 (by decide +kernel) ?_
      refine r_irem (pc := 97) X d_X12_together_97 ?_
      refine r_aload_n (pc := 98) X d_X12_together_98 fn0 ?_
      refine s_getF (pc := 99) (ci := 12) (k := 38) X xok12 (by decide +kernel) ob_180 trivial ly_180_38 (by decide +kernel) fl_RX12_84 d_X12_together_99 ?_
      refine r_iload (pc := 102) X d_X12_together_102 ?_
      refine s_iald (pc := 104) X tn_199 ln_199 d_X12_together_104 ?_
      refine r_sipush (pc := 105) X d_X12_together_105 (by decide +kernel) ?_
      refine r_irem (pc := 108) X d_X12_together_108 ?_
      refine r_iload_n (pc := 109) X d_X12_together_109 fn3 ?_
      refine r_if_ne (pc := 110) (tgt := 117) X d_X12_together_110 (by decide +kernel) ?_ ?_
      · refine r_iconst (pc := 117) X d_X12_together_117 (by decide +kernel) ?_
        exact t_X12_together_118 X hr h53
      · refine r_iconst (pc := 113) X d_X12_together_113 (by decide +kernel) ?_
        refine r_goto (pc := 114) (tgt := 118) X d_X12_together_114 (by decide +kernel) ?_
        exact t_X12_together_118 X hr h53
set_option maxRecDepth 20000 in
theorem m_X12_together {l : Launch} {f : Nat → Int32 → Int32 → Int32 → xH → xP → Prop}  {I8 : Nat → Int32 → Int32 → Int32 → xH → xP → xM → xK} {I53 : Nat → Int32 → Int32 → Int32 → xH → xP → xM → xK}
    (v0 : ∀ (a0 : Nat) (a1 : Int32) (a2 : Int32) (a3 : Int32) (A : xH) (P : xP), f a0 a1 a2 a3 A P → k_X12_together_0 P (xE (I8 a0 a1 a2 a3 A P)) [some (.ref a0), some (.int a1), some (.int a2), some (.int a3), none, none, none, none] [] A)
    (v8 : ∀ (a0 : Nat) (a1 : Int32) (a2 : Int32) (a3 : Int32) (A : xH) (P : xP), f a0 a1 a2 a3 A P → ∀ (μ : xM) (L : xL) (st : List Value) (B : xH), I8 a0 a1 a2 a3 A P μ L st B → k_X12_together_8 P (xB (I53 a0 a1 a2 a3 A P) μ) L st B)
    (v53 : ∀ (a0 : Nat) (a1 : Int32) (a2 : Int32) (a3 : Int32) (A : xH) (P : xP), f a0 a1 a2 a3 A P → ∀ (μ : xM) (L : xL) (st : List Value) (B : xH), I53 a0 a1 a2 a3 A P μ L st B → k_X12_together_53 P (xB (I8 a0 a1 a2 a3 A P) μ) (xB (I53 a0 a1 a2 a3 A P) μ) L st B) : xCon l yX12_together cX12_together 8 none 1 26 xN xN 0 xFT xFT (w_RIII f) := by
  refine xc_RIII (plainFor_of_name pn_RX12) (by decide +kernel) (fun p e s m args below meth c g a0 a1 a2 a3 A P h X hr _ => ?_)
  obtain ⟨h8, h53⟩ := x_loop2 (p := p) (l := l) (e := e) (R := { frames := 1, cells := 0, slots := 0, locals := 26 }) (s := s) (m := m) (args := args) (below := below) (meth := meth) (c := c) (g := g) (nL := 8) (F := xFT) (n := xN) (cells := 0) (slots := 0) (Q := MQ below (xQc g xFT xN P) args s 0 0 (xFr g)) (I1 := I8 a0 a1 a2 a3 A P) (I2 := I53 a0 a1 a2 a3 A P) (pc1 := 8) (pc2 := 53) (fun μ i8 i53 => xAt_mono (t_X12_together_8 (P := P) X hr i53) (v8 a0 a1 a2 a3 A P h μ)) (fun μ i8 i53 => xAt_mono (t_X12_together_53 (P := P) X hr i8 i53) (v53 a0 a1 a2 a3 A P h μ))
  exact ⟨_, v0 a0 a1 a2 a3 A P h, t_X12_together_0 X hr h8⟩
def pvY (s y y' t : Nat) (g : Bool) : Prop := (y / 128 = y' / 128 ∧ (s = 0 ∨ y / 128 < 4) ∧ t = nEn (if s = 0 then 0 else 1, y % 128, y' % 128) ∧ g = decide (y / 128 < 4)) ∨ (y / 128 ≠ y' / 128 ∧ s = 0 ∧ 3 < y / 128 ∧ 3 < y' / 128 ∧ t = nEn (1, y % 128, y' % 128) ∧ g = false)
/-- the pairs of steps ahead of a pair -/
def pvM (v : xV) (s a b m k : Nat) (t : Nat) (g : Bool) : Prop := ∃ y y', y < 5376 ∧ y' < 5376 ∧ tY v a y = true ∧ tY v b y' = true ∧ pvY s y y' t g ∧ (cb (tY v a) y < m ∨ (cb (tY v a) y = m ∧ cb (tY v b) y' < k))
def pvA (v : xV) (s a b : Nat) (t : Nat) (g : Bool) : Prop := ∃ y y', y < 5376 ∧ y' < 5376 ∧ tY v a y = true ∧ tY v b y' = true ∧ pvY s y y' t g
def tgG (A : xH) (P : xP) (v : xV) (W : (Nat → Bool → Prop) → xH → Prop) (al : Nat → Bool → Prop) (V : Nat → Bool → Prop) (a b s : Nat) : Prop := cmW v W al ∧ wfg v ∧ wfc v ∧ (plL v).length ≤ 80 ∧ a < (plL v).length ∧ b < (plL v).length ∧ s < 4 ∧ (∀ t g, pvA v s a b t g → al t g) ∧ ∀ B, W (fun t g => V t g ∨ pvA v s a b t g) B → P none B
def f_X12_together (q : Nat) (x y z : Int32) (A : xH) (P : xP) : Prop := q = 180 ∧ ∃ (v : xV) (W : (Nat → Bool → Prop) → xH → Prop) (al : Nat → Bool → Prop) (V : Nat → Bool → Prop) (a b s : Nat), tgG A P v W al V a b s ∧ W V A ∧ x = nI a ∧ y = nI b ∧ z = nI s
def tg8 (A : xH) (P : xP) : xM → xK := fun μ L st B => ∃ (v : xV) (W : (Nat → Bool → Prop) → xH → Prop) (al : Nat → Bool → Prop) (V : Nat → Bool → Prop) (a b s m : Nat) (o5 o6 o7 : Option Value), tgG A P v W al V a b s ∧ m ≤ tN (stT v) a ∧ W (fun t g => V t g ∨ pvM v s a b m 0 t g) B ∧ st = [] ∧ L = [some (.ref 180), some (.int (nI a)), some (.int (nI b)), some (.int (nI s)), some (.int (nI (bsY v a + m))), o5, o6, o7] ∧ μ = (1000 - m, 0, 0)
def tg53 (A : xH) (P : xP) : xM → xK := fun μ L st B => ∃ (v : xV) (W : (Nat → Bool → Prop) → xH → Prop) (al : Nat → Bool → Prop) (V : Nat → Bool → Prop) (a b s m k y : Nat) (o7 : Option Value), tgG A P v W al V a b s ∧ m < tN (stT v) a ∧ k ≤ tN (stT v) b ∧ (y < 5376 ∧ tY v a y = true ∧ cb (tY v a) y = m ∧ (s = 0 ∨ y / 128 < 4)) ∧ W (fun t g => V t g ∨ pvM v s a b m k t g) B ∧ st = [] ∧ L = [some (.ref 180), some (.int (nI a)), some (.int (nI b)), some (.int (nI s)), some (.int (nI (bsY v a + m))), some (.int (nI (y / 128))), some (.int (nI (bsY v b + k))), o7] ∧ μ = (1000 - m - 1, 1, 1000 - k)
theorem pl_rd {A : xH} {v : xV} {p : Nat} (hw : wfg v) (hc : wfc v) (h80 : (plL v).length ≤ 80) (hd : plDU A v) (hp : p < (plL v).length) : xi A 198 p = nI (bsY v p) ∧ xi A 198 (p + 1) = nI (bsY v p + tN (stT v) p) ∧ tN (stT v) p ≤ 960 ∧ bsY v p ≤ 960 * p ∧ ∀ m, m < tN (stT v) p → ∃ y, y < 5376 ∧ tY v p y = true ∧ cb (tY v p) y = m ∧ xi A 199 (bsY v p + m) = nI y := by
  obtain ⟨hl, hf, hs⟩ := hd.2 h80
  have b2 : bsY v (p + 1) = bsY v p + tN (stT v) p := by rw [← cb_all hw hc]; rfl
  refine ⟨hf p (by omega), by rw [hf (p + 1) (by omega), b2], by rw [← cb_all hw hc]; exact tY_le hw hc h80, bsY_le hw hc h80 p, fun m hm => ?_⟩
  rw [← cb_all hw hc] at hm
  obtain ⟨y, y1, y2, y3⟩ := cb_sel hm
  have := hs p hp y y1 y2
  rw [y3] at this
  exact ⟨y, y1, y2, y3, this⟩
theorem tY_pl {v : xV} {p y : Nat} (h : tY v p y = true) : y % 128 < (plL v).length := by
  unfold tY at h
  rw [bt_iff] at h
  obtain ⟨X, Q, -, h2, -⟩ := h
  exact (List.getElem?_eq_some_iff.mp h2).1
theorem pvM_s {v : xV} {s a b m k y y' t : Nat} {g : Bool} (y1 : y < 5376) (y2 : tY v a y = true) (y3 : cb (tY v a) y = m) (z1 : y' < 5376) (z2 : tY v b y' = true) (z3 : cb (tY v b) y' = k) : pvM v s a b m (k + 1) t g ↔ pvM v s a b m k t g ∨ pvY s y y' t g := by
  constructor
  · rintro ⟨x, x', a1, a2, a3, a4, a5, w | ⟨w1, w2⟩⟩
    · exact Or.inl ⟨x, x', a1, a2, a3, a4, a5, Or.inl w⟩
    · by_cases e : cb (tY v b) x' = k
      · have e1 := cb_uni a3 y2 (by omega)
        have e2 := cb_uni a4 z2 (by omega)
        subst e1; subst e2
        exact Or.inr a5
      · exact Or.inl ⟨x, x', a1, a2, a3, a4, a5, Or.inr ⟨w1, by omega⟩⟩
  · rintro (⟨x, x', a1, a2, a3, a4, a5, w | ⟨w1, w2⟩⟩ | w)
    · exact ⟨x, x', a1, a2, a3, a4, a5, Or.inl w⟩
    · exact ⟨x, x', a1, a2, a3, a4, a5, Or.inr ⟨w1, by omega⟩⟩
    · exact ⟨y, y', y1, z1, y2, z2, w, Or.inr ⟨y3, by omega⟩⟩
theorem cb_5376 {v : xV} {p y : Nat} (hw : wfg v) (hc : wfc v) (h1 : y < 5376) (h2 : tY v p y = true) : cb (tY v p) y < tN (stT v) p := by
  have := cb_mono (tY v p) (show y + 1 ≤ 5376 by omega)
  rw [cb_s, h2, cb_all hw hc] at this
  simp only [Bool.toNat_true] at this
  omega
set_option maxRecDepth 20000 in
theorem con_X12_together (l : Launch) : xCon l yX12_together cX12_together 8 none 1 26 xN xN 0 xFT xFT (w_RIII f_X12_together) := by
  refine m_X12_together (I8 := fun q x y z A P => tg8 A P) (I53 := fun q x y z A P => tg53 A P) ?_ ?_ ?_
  · rintro q x y z A P ⟨rfl, v, W, al, V, a, b, s, hG, hW, rfl, rfl, rfl⟩
    have hG0 := hG
    obtain ⟨cW, hw, hc, h80, ha, hb, hs4, hal, hP⟩ := hG
    obtain ⟨r1, r2, r3, r4, r5⟩ := pl_rd hw hc h80 (cW.1 _ _ hW) ha
    simp (disch := omega) only [k_X12_together_0, k_X12_together_8, k_X12_together_53, k_X12_together_45, k_X12_together_118, k_X12_together_129, k_X12_together_179, w_RIIII, x_aload, x_cv4, x_iadd, x_icmp_ge, x_icmp_le, x_icmp_ne, x_idiv, x_if_le, x_if_ne, x_iinc, x_iload, x_irem, x_istore, x_push, x_vret, y_cv4, y_getF, y_iald, xFT, xbool0, xbool1, Nat.reduceAdd, Nat.zero_add, xgl_0, xgl_s, xgl_n, xst_0, xst_1n, xst_1i, xst_1r, xst_1l, xst_s, set_0, set_s, true_and, and_true, xres, xcat_nil, xcat_i, xcat_r, xcat_l, Nat.add_zero, xble0, xble1, xble2, xble3, xble4, xble5, xble6, xble7, xble8, pk_mul, nI_add, nI_1, nI_leI, nI_ltI, nI_eq, n_in, n_cl, z_eq, z_lt, z_le, z_gt, z_ge, z_qe, o_eq, o_lt, o_le, o_gt, o_ge, vp0, vp1, cl0, cl1, n_sub, n_sub1, n_pm1, n_a0, n_0a, ofn, lN0, Nat.reduceLT, Nat.reduceLeDiff, Nat.reduceMul, Nat.reduceSub, Nat.reduceEqDiff, ne_eq, true_implies, false_implies, not_true_eq_false, not_false_eq_true, and_self, and_true, true_and, and_false, false_and, implies_true, if_true, if_false, i00, i10, i01, i11, ob_0, ob_1, tn_2, ln_2, ob_3, tn_4, ln_4, ob_5, tn_6, ln_6, tn_7, ln_7, ob_8, tn_9, ln_9, tn_10, ln_10, tn_11, ln_11, tn_12, ln_12, tn_13, ln_13, tn_14, ln_14, tn_15, ln_15, tn_16, ln_16, tn_17, ln_17, ob_18, tn_19, ln_19, tn_20, ln_20, tn_21, ln_21, tn_22, ln_22, tn_23, ln_23, tn_24, ln_24, tn_25, ln_25, tn_26, ln_26, tn_27, ln_27, ob_28, tn_29, ln_29, tn_30, ln_30, ob_31, tn_32, ln_32, tn_33, ln_33, ob_34, ob_35, tn_36, ln_36, tn_37, ln_37, tn_38, ln_38, ob_39, tn_40, ln_40, tn_41, ln_41, tn_42, ln_42, tn_43, ln_43, tn_44, ln_44, tn_45, ln_45, tn_46, ln_46, tn_47, ln_47, tn_48, ln_48, tn_49, ln_49, tn_50, ln_50, tn_51, ln_51, ob_52, tn_53, ln_53, tn_54, ln_54, tn_55, ln_55, tn_56, ln_56, ob_57, tn_58, ln_58, tn_59, ln_59, tn_60, ln_60, tn_61, ln_61, tn_62, ln_62, tn_63, ln_63, tn_64, ln_64, tn_65, ln_65, ob_66, tn_67, ln_67, tn_68, ln_68, tn_69, ln_69, tn_70, ln_70, tn_71, ln_71, tn_72, ln_72, tn_73, ln_73, ob_74, tn_75, ln_75, tn_76, ln_76, tn_77, ln_77, tn_78, ln_78, tn_79, ln_79, tn_80, ln_80, tn_81, ln_81, tn_82, ln_82, tn_83, ln_83, ob_84, tn_85, ln_85, tn_86, ln_86, tn_87, ln_87, tn_88, ln_88, tn_89, ln_89, tn_90, ln_90, tn_91, ln_91, tn_92, ln_92, tn_93, ln_93, ob_94, tn_95, ln_95, tn_96, ln_96, tn_97, ln_97, tn_98, ln_98, tn_99, ln_99, tn_100, ln_100, tn_101, ln_101, tn_102, ln_102, tn_103, ln_103, ob_104, tn_105, ln_105, tn_106, ln_106, tn_107, ln_107, tn_108, ln_108, tn_109, ln_109, tn_110, ln_110, tn_111, ln_111, tn_112, ln_112, tn_113, ln_113, ob_114, tn_115, ln_115, tn_116, ln_116, tn_117, ln_117, tn_118, ln_118, tn_119, ln_119, tn_120, ln_120, tn_121, ln_121, tn_122, ln_122, tn_123, ln_123, ob_124, tn_125, ln_125, tn_126, ln_126, tn_127, ln_127, tn_128, ln_128, tn_129, ln_129, tn_130, ln_130, tn_131, ln_131, tn_132, ln_132, tn_133, ln_133, ob_134, tn_135, ln_135, tn_136, ln_136, tn_137, ln_137, tn_138, ln_138, tn_139, ln_139, tn_140, ln_140, tn_141, ln_141, tn_142, ln_142, tn_143, ln_143, ob_144, tn_145, ln_145, tn_146, ln_146, tn_147, ln_147, tn_148, ln_148, tn_149, ln_149, tn_150, ln_150, tn_151, ln_151, tn_152, ln_152, tn_153, ln_153, ob_154, tn_155, ln_155, tn_156, ln_156, tn_157, ln_157, tn_158, ln_158, tn_159, ln_159, tn_160, ln_160, tn_161, ln_161, tn_162, ln_162, tn_163, ln_163, ob_164, tn_165, ln_165, tn_166, ln_166, ob_167, tn_168, ln_168, tn_169, ln_169, tn_170, ln_170, tn_171, ln_171, tn_172, ln_172, tn_173, ln_173, tn_174, ln_174, tn_175, ln_175, tn_176, ln_176, ob_177, tn_178, ln_178, tn_179, ln_179, ob_180, tn_181, ln_181, tn_182, ln_182, tn_183, ln_183, tn_184, ln_184, tn_185, ln_185, tn_186, ln_186, tn_187, ln_187, tn_188, ln_188, tn_189, ln_189, tn_190, ln_190, tn_191, ln_191, tn_192, ln_192, tn_193, ln_193, tn_194, ln_194, tn_195, ln_195, tn_196, ln_196, tn_197, ln_197, tn_198, ln_198, tn_199, ln_199, tn_200, ln_200, tn_201, ln_201, tn_202, ln_202, tn_203, ln_203, tn_204, ln_204, tn_205, ln_205, tn_206, ln_206, tn_207, ln_207, tn_208, ln_208, tn_209, ln_209, tn_210, ln_210, tn_211, ln_211, tn_212, ln_212, tn_213, ln_213, tn_214, ln_214, tn_215, ln_215, tn_216, ln_216, tn_217, ln_217, tn_218, ln_218, tn_219, ln_219, tn_220, ln_220, tn_221, ln_221, tn_222, ln_222, tn_223, ln_223, tn_224, ln_224, tn_225, ln_225, tn_226, ln_226, tn_227, ln_227, tn_228, ln_228, tn_229, ln_229, tn_230, ln_230, lx2, lx3, lx4, lx5, lx6, lx7, lx8, lx9, lx10, lx14, lx15, lx16, lx18, lx20, lx24, lx25, lx27, lx32, lx36, lx40, lx41, lx42, lx43, lx45, lx48, lx52, lx54, lx56, lx57, lx58, lx60, lx61, lx62, lx63, lx64, lx66, lx69, lx73, lx80, lx81, lx84, lx85, lx87, lx94, lx96, lx97, lx120, lx128, lx135, lx160, lx162, lx163, lx165, lx200, lx232, lx242, lx243, lx255, lx256, lx320, lx325, lx400, lx405, lx464, lx512, lx600, lx640, lx752, lx900, lx940, lx1000, lx1024, lx1764, lx3360, lx3840, lx5000, lx6400, lx9050, lx9998, lx9999, lx10000, lx25600, lx76800, lx99999, r1]
    refine ⟨by omega, xE0 (1000 - 0, 0, 0) ⟨v, W, al, V, a, b, s, 0, none, none, none, hG0, Nat.zero_le _, cW.2.1 _ _ _ hW fun t g => ?_, rfl, rfl, rfl⟩⟩
    constructor
    · exact Or.inl
    · rintro (w | ⟨y, y', -, -, -, -, -, w | ⟨-, w⟩⟩)
      · exact w
      · exact absurd w (Nat.not_lt_zero _)
      · exact absurd w (Nat.not_lt_zero _)
  · rintro q x y z A P - μ L st B ⟨v, W, al, V, a, b, s, m, o5, o6, o7, hG, hm, hW, rfl, rfl, rfl⟩
    have hG0 := hG
    obtain ⟨cW, hw, hc, h80, ha, hb, hs4, hal, hP⟩ := hG
    obtain ⟨r1, r2, r3, r4, r5⟩ := pl_rd hw hc h80 (cW.1 _ _ hW) ha
    obtain ⟨q1, q2, q3, q4, q5⟩ := pl_rd hw hc h80 (cW.1 _ _ hW) hb
    simp (disch := omega) only [k_X12_together_0, k_X12_together_8, k_X12_together_53, k_X12_together_45, k_X12_together_118, k_X12_together_129, k_X12_together_179, w_RIIII, x_aload, x_cv4, x_iadd, x_icmp_ge, x_icmp_le, x_icmp_ne, x_idiv, x_if_le, x_if_ne, x_iinc, x_iload, x_irem, x_istore, x_push, x_vret, y_cv4, y_getF, y_iald, xFT, xbool0, xbool1, Nat.reduceAdd, Nat.zero_add, xgl_0, xgl_s, xgl_n, xst_0, xst_1n, xst_1i, xst_1r, xst_1l, xst_s, set_0, set_s, true_and, and_true, xres, xcat_nil, xcat_i, xcat_r, xcat_l, Nat.add_zero, xble0, xble1, xble2, xble3, xble4, xble5, xble6, xble7, xble8, pk_mul, nI_add, nI_1, nI_leI, nI_ltI, nI_eq, n_in, n_cl, z_eq, z_lt, z_le, z_gt, z_ge, z_qe, o_eq, o_lt, o_le, o_gt, o_ge, vp0, vp1, cl0, cl1, n_sub, n_sub1, n_pm1, n_a0, n_0a, ofn, lN0, Nat.reduceLT, Nat.reduceLeDiff, Nat.reduceMul, Nat.reduceSub, Nat.reduceEqDiff, ne_eq, true_implies, false_implies, not_true_eq_false, not_false_eq_true, and_self, and_true, true_and, and_false, false_and, implies_true, if_true, if_false, i00, i10, i01, i11, ob_0, ob_1, tn_2, ln_2, ob_3, tn_4, ln_4, ob_5, tn_6, ln_6, tn_7, ln_7, ob_8, tn_9, ln_9, tn_10, ln_10, tn_11, ln_11, tn_12, ln_12, tn_13, ln_13, tn_14, ln_14, tn_15, ln_15, tn_16, ln_16, tn_17, ln_17, ob_18, tn_19, ln_19, tn_20, ln_20, tn_21, ln_21, tn_22, ln_22, tn_23, ln_23, tn_24, ln_24, tn_25, ln_25, tn_26, ln_26, tn_27, ln_27, ob_28, tn_29, ln_29, tn_30, ln_30, ob_31, tn_32, ln_32, tn_33, ln_33, ob_34, ob_35, tn_36, ln_36, tn_37, ln_37, tn_38, ln_38, ob_39, tn_40, ln_40, tn_41, ln_41, tn_42, ln_42, tn_43, ln_43, tn_44, ln_44, tn_45, ln_45, tn_46, ln_46, tn_47, ln_47, tn_48, ln_48, tn_49, ln_49, tn_50, ln_50, tn_51, ln_51, ob_52, tn_53, ln_53, tn_54, ln_54, tn_55, ln_55, tn_56, ln_56, ob_57, tn_58, ln_58, tn_59, ln_59, tn_60, ln_60, tn_61, ln_61, tn_62, ln_62, tn_63, ln_63, tn_64, ln_64, tn_65, ln_65, ob_66, tn_67, ln_67, tn_68, ln_68, tn_69, ln_69, tn_70, ln_70, tn_71, ln_71, tn_72, ln_72, tn_73, ln_73, ob_74, tn_75, ln_75, tn_76, ln_76, tn_77, ln_77, tn_78, ln_78, tn_79, ln_79, tn_80, ln_80, tn_81, ln_81, tn_82, ln_82, tn_83, ln_83, ob_84, tn_85, ln_85, tn_86, ln_86, tn_87, ln_87, tn_88, ln_88, tn_89, ln_89, tn_90, ln_90, tn_91, ln_91, tn_92, ln_92, tn_93, ln_93, ob_94, tn_95, ln_95, tn_96, ln_96, tn_97, ln_97, tn_98, ln_98, tn_99, ln_99, tn_100, ln_100, tn_101, ln_101, tn_102, ln_102, tn_103, ln_103, ob_104, tn_105, ln_105, tn_106, ln_106, tn_107, ln_107, tn_108, ln_108, tn_109, ln_109, tn_110, ln_110, tn_111, ln_111, tn_112, ln_112, tn_113, ln_113, ob_114, tn_115, ln_115, tn_116, ln_116, tn_117, ln_117, tn_118, ln_118, tn_119, ln_119, tn_120, ln_120, tn_121, ln_121, tn_122, ln_122, tn_123, ln_123, ob_124, tn_125, ln_125, tn_126, ln_126, tn_127, ln_127, tn_128, ln_128, tn_129, ln_129, tn_130, ln_130, tn_131, ln_131, tn_132, ln_132, tn_133, ln_133, ob_134, tn_135, ln_135, tn_136, ln_136, tn_137, ln_137, tn_138, ln_138, tn_139, ln_139, tn_140, ln_140, tn_141, ln_141, tn_142, ln_142, tn_143, ln_143, ob_144, tn_145, ln_145, tn_146, ln_146, tn_147, ln_147, tn_148, ln_148, tn_149, ln_149, tn_150, ln_150, tn_151, ln_151, tn_152, ln_152, tn_153, ln_153, ob_154, tn_155, ln_155, tn_156, ln_156, tn_157, ln_157, tn_158, ln_158, tn_159, ln_159, tn_160, ln_160, tn_161, ln_161, tn_162, ln_162, tn_163, ln_163, ob_164, tn_165, ln_165, tn_166, ln_166, ob_167, tn_168, ln_168, tn_169, ln_169, tn_170, ln_170, tn_171, ln_171, tn_172, ln_172, tn_173, ln_173, tn_174, ln_174, tn_175, ln_175, tn_176, ln_176, ob_177, tn_178, ln_178, tn_179, ln_179, ob_180, tn_181, ln_181, tn_182, ln_182, tn_183, ln_183, tn_184, ln_184, tn_185, ln_185, tn_186, ln_186, tn_187, ln_187, tn_188, ln_188, tn_189, ln_189, tn_190, ln_190, tn_191, ln_191, tn_192, ln_192, tn_193, ln_193, tn_194, ln_194, tn_195, ln_195, tn_196, ln_196, tn_197, ln_197, tn_198, ln_198, tn_199, ln_199, tn_200, ln_200, tn_201, ln_201, tn_202, ln_202, tn_203, ln_203, tn_204, ln_204, tn_205, ln_205, tn_206, ln_206, tn_207, ln_207, tn_208, ln_208, tn_209, ln_209, tn_210, ln_210, tn_211, ln_211, tn_212, ln_212, tn_213, ln_213, tn_214, ln_214, tn_215, ln_215, tn_216, ln_216, tn_217, ln_217, tn_218, ln_218, tn_219, ln_219, tn_220, ln_220, tn_221, ln_221, tn_222, ln_222, tn_223, ln_223, tn_224, ln_224, tn_225, ln_225, tn_226, ln_226, tn_227, ln_227, tn_228, ln_228, tn_229, ln_229, tn_230, ln_230, lx2, lx3, lx4, lx5, lx6, lx7, lx8, lx9, lx10, lx14, lx15, lx16, lx18, lx20, lx24, lx25, lx27, lx32, lx36, lx40, lx41, lx42, lx43, lx45, lx48, lx52, lx54, lx56, lx57, lx58, lx60, lx61, lx62, lx63, lx64, lx66, lx69, lx73, lx80, lx81, lx84, lx85, lx87, lx94, lx96, lx97, lx120, lx128, lx135, lx160, lx162, lx163, lx165, lx200, lx232, lx242, lx243, lx255, lx256, lx320, lx325, lx400, lx405, lx464, lx512, lx600, lx640, lx752, lx900, lx940, lx1000, lx1024, lx1764, lx3360, lx3840, lx5000, lx6400, lx9050, lx9998, lx9999, lx10000, lx25600, lx76800, lx99999, r2, q1]
    refine ⟨by omega, fun z => ?_, fun z => ?_⟩
    · refine hP B (cW.2.1 _ _ _ hW fun t g => ?_)
      have em : m = tN (stT v) a := by omega
      constructor
      · rintro (w | ⟨y, y', w1, w2, w3, w4, w5, -⟩)
        · exact Or.inl w
        · exact Or.inr ⟨y, y', w1, w2, w3, w4, w5⟩
      · rintro (w | ⟨y, y', w1, w2, w3, w4, w5⟩)
        · exact Or.inl w
        · refine Or.inr ⟨y, y', w1, w2, w3, w4, w5, Or.inl ?_⟩
          have := cb_mono (tY v a) (show y + 1 ≤ 5376 by omega)
          rw [cb_s, w3, cb_all hw hc] at this
          simp only [Bool.toNat_true] at this
          omega
    · obtain ⟨y, y1, y2, y3, y4⟩ := r5 m (by omega)
      rw [y4]
      simp (disch := omega) only [k_X12_together_0, k_X12_together_8, k_X12_together_53, k_X12_together_45, k_X12_together_118, k_X12_together_129, k_X12_together_179, w_RIIII, x_aload, x_cv4, x_iadd, x_icmp_ge, x_icmp_le, x_icmp_ne, x_idiv, x_if_le, x_if_ne, x_iinc, x_iload, x_irem, x_istore, x_push, x_vret, y_cv4, y_getF, y_iald, xFT, xbool0, xbool1, Nat.reduceAdd, Nat.zero_add, xgl_0, xgl_s, xgl_n, xst_0, xst_1n, xst_1i, xst_1r, xst_1l, xst_s, set_0, set_s, true_and, and_true, xres, xcat_nil, xcat_i, xcat_r, xcat_l, Nat.add_zero, xble0, xble1, xble2, xble3, xble4, xble5, xble6, xble7, xble8, pk_mul, nI_add, nI_1, nI_leI, nI_ltI, nI_eq, n_in, n_cl, z_eq, z_lt, z_le, z_gt, z_ge, z_qe, o_eq, o_lt, o_le, o_gt, o_ge, vp0, vp1, cl0, cl1, n_sub, n_sub1, n_pm1, n_a0, n_0a, ofn, lN0, Nat.reduceLT, Nat.reduceLeDiff, Nat.reduceMul, Nat.reduceSub, Nat.reduceEqDiff, ne_eq, true_implies, false_implies, not_true_eq_false, not_false_eq_true, and_self, and_true, true_and, and_false, false_and, implies_true, if_true, if_false, i00, i10, i01, i11, ob_0, ob_1, tn_2, ln_2, ob_3, tn_4, ln_4, ob_5, tn_6, ln_6, tn_7, ln_7, ob_8, tn_9, ln_9, tn_10, ln_10, tn_11, ln_11, tn_12, ln_12, tn_13, ln_13, tn_14, ln_14, tn_15, ln_15, tn_16, ln_16, tn_17, ln_17, ob_18, tn_19, ln_19, tn_20, ln_20, tn_21, ln_21, tn_22, ln_22, tn_23, ln_23, tn_24, ln_24, tn_25, ln_25, tn_26, ln_26, tn_27, ln_27, ob_28, tn_29, ln_29, tn_30, ln_30, ob_31, tn_32, ln_32, tn_33, ln_33, ob_34, ob_35, tn_36, ln_36, tn_37, ln_37, tn_38, ln_38, ob_39, tn_40, ln_40, tn_41, ln_41, tn_42, ln_42, tn_43, ln_43, tn_44, ln_44, tn_45, ln_45, tn_46, ln_46, tn_47, ln_47, tn_48, ln_48, tn_49, ln_49, tn_50, ln_50, tn_51, ln_51, ob_52, tn_53, ln_53, tn_54, ln_54, tn_55, ln_55, tn_56, ln_56, ob_57, tn_58, ln_58, tn_59, ln_59, tn_60, ln_60, tn_61, ln_61, tn_62, ln_62, tn_63, ln_63, tn_64, ln_64, tn_65, ln_65, ob_66, tn_67, ln_67, tn_68, ln_68, tn_69, ln_69, tn_70, ln_70, tn_71, ln_71, tn_72, ln_72, tn_73, ln_73, ob_74, tn_75, ln_75, tn_76, ln_76, tn_77, ln_77, tn_78, ln_78, tn_79, ln_79, tn_80, ln_80, tn_81, ln_81, tn_82, ln_82, tn_83, ln_83, ob_84, tn_85, ln_85, tn_86, ln_86, tn_87, ln_87, tn_88, ln_88, tn_89, ln_89, tn_90, ln_90, tn_91, ln_91, tn_92, ln_92, tn_93, ln_93, ob_94, tn_95, ln_95, tn_96, ln_96, tn_97, ln_97, tn_98, ln_98, tn_99, ln_99, tn_100, ln_100, tn_101, ln_101, tn_102, ln_102, tn_103, ln_103, ob_104, tn_105, ln_105, tn_106, ln_106, tn_107, ln_107, tn_108, ln_108, tn_109, ln_109, tn_110, ln_110, tn_111, ln_111, tn_112, ln_112, tn_113, ln_113, ob_114, tn_115, ln_115, tn_116, ln_116, tn_117, ln_117, tn_118, ln_118, tn_119, ln_119, tn_120, ln_120, tn_121, ln_121, tn_122, ln_122, tn_123, ln_123, ob_124, tn_125, ln_125, tn_126, ln_126, tn_127, ln_127, tn_128, ln_128, tn_129, ln_129, tn_130, ln_130, tn_131, ln_131, tn_132, ln_132, tn_133, ln_133, ob_134, tn_135, ln_135, tn_136, ln_136, tn_137, ln_137, tn_138, ln_138, tn_139, ln_139, tn_140, ln_140, tn_141, ln_141, tn_142, ln_142, tn_143, ln_143, ob_144, tn_145, ln_145, tn_146, ln_146, tn_147, ln_147, tn_148, ln_148, tn_149, ln_149, tn_150, ln_150, tn_151, ln_151, tn_152, ln_152, tn_153, ln_153, ob_154, tn_155, ln_155, tn_156, ln_156, tn_157, ln_157, tn_158, ln_158, tn_159, ln_159, tn_160, ln_160, tn_161, ln_161, tn_162, ln_162, tn_163, ln_163, ob_164, tn_165, ln_165, tn_166, ln_166, ob_167, tn_168, ln_168, tn_169, ln_169, tn_170, ln_170, tn_171, ln_171, tn_172, ln_172, tn_173, ln_173, tn_174, ln_174, tn_175, ln_175, tn_176, ln_176, ob_177, tn_178, ln_178, tn_179, ln_179, ob_180, tn_181, ln_181, tn_182, ln_182, tn_183, ln_183, tn_184, ln_184, tn_185, ln_185, tn_186, ln_186, tn_187, ln_187, tn_188, ln_188, tn_189, ln_189, tn_190, ln_190, tn_191, ln_191, tn_192, ln_192, tn_193, ln_193, tn_194, ln_194, tn_195, ln_195, tn_196, ln_196, tn_197, ln_197, tn_198, ln_198, tn_199, ln_199, tn_200, ln_200, tn_201, ln_201, tn_202, ln_202, tn_203, ln_203, tn_204, ln_204, tn_205, ln_205, tn_206, ln_206, tn_207, ln_207, tn_208, ln_208, tn_209, ln_209, tn_210, ln_210, tn_211, ln_211, tn_212, ln_212, tn_213, ln_213, tn_214, ln_214, tn_215, ln_215, tn_216, ln_216, tn_217, ln_217, tn_218, ln_218, tn_219, ln_219, tn_220, ln_220, tn_221, ln_221, tn_222, ln_222, tn_223, ln_223, tn_224, ln_224, tn_225, ln_225, tn_226, ln_226, tn_227, ln_227, tn_228, ln_228, tn_229, ln_229, tn_230, ln_230, lx2, lx3, lx4, lx5, lx6, lx7, lx8, lx9, lx10, lx14, lx15, lx16, lx18, lx20, lx24, lx25, lx27, lx32, lx36, lx40, lx41, lx42, lx43, lx45, lx48, lx52, lx54, lx56, lx57, lx58, lx60, lx61, lx62, lx63, lx64, lx66, lx69, lx73, lx80, lx81, lx84, lx85, lx87, lx94, lx96, lx97, lx120, lx128, lx135, lx160, lx162, lx163, lx165, lx200, lx232, lx242, lx243, lx255, lx256, lx320, lx325, lx400, lx405, lx464, lx512, lx600, lx640, lx752, lx900, lx940, lx1000, lx1024, lx1764, lx3360, lx3840, lx5000, lx6400, lx9050, lx9998, lx9999, lx10000, lx25600, lx76800, lx99999, pk_div, q1]
      have inn : (s = 0 ∨ y / 128 < 4) → xB (tg53 A P) (1000 - m, 0, 0) [some (.ref 180), some (.int (nI a)), some (.int (nI b)), some (.int (nI s)), some (.int (nI (bsY v a + m))), some (.int (nI (y / 128))), some (.int (nI (bsY v b))), o7] [] B := fun w =>
        xB1 (b := 1000 - m - 1) (by omega) ⟨v, W, al, V, a, b, s, m, 0, y, o7, hG0, by omega, Nat.zero_le _, ⟨y1, y2, y3, w⟩, hW, rfl, rfl, rfl⟩
      refine ⟨by omega, fun s0 => ⟨by omega, inn (Or.inl s0)⟩, fun s0 => ⟨fun w => ⟨by omega, inn (Or.inr (by omega))⟩, fun w => ?_⟩⟩
      refine hP B (cW.2.1 _ _ _ hW fun t g => ?_)
      constructor
      · rintro (w | ⟨y, y', w1, w2, w3, w4, w5, -⟩)
        · exact Or.inl w
        · exact Or.inr ⟨y, y', w1, w2, w3, w4, w5⟩
      · rintro (w | ⟨x, x', w1, w2, w3, w4, w5⟩)
        · exact Or.inl w
        · refine Or.inr ⟨x, x', w1, w2, w3, w4, w5, Or.inl ?_⟩
          rcases w5 with ⟨-, w6, -⟩ | ⟨-, w6, -⟩
          · have hx : x + 1 ≤ y := by omega
            have := cb_mono (tY v a) hx
            rw [cb_s, w3] at this
            simp only [Bool.toNat_true] at this
            omega
          · exact absurd w6 s0
  · rintro q x y z A P - μ L st B ⟨v, W, al, V, a, b, s, m, k, y, o7, hG, hm, hk, ⟨y1, y2, y3, y4⟩, hW, rfl, rfl, rfl⟩
    have hG0 := hG
    obtain ⟨cW, hw, hc, h80, ha, hb, hs4, hal, hP⟩ := hG
    obtain ⟨r1, r2, r3, r4, r5⟩ := pl_rd hw hc h80 (cW.1 _ _ hW) ha
    obtain ⟨q1, q2, q3, q4, q5⟩ := pl_rd hw hc h80 (cW.1 _ _ hW) hb
    simp (disch := omega) only [k_X12_together_0, k_X12_together_8, k_X12_together_53, k_X12_together_45, k_X12_together_118, k_X12_together_129, k_X12_together_179, w_RIIII, x_aload, x_cv4, x_iadd, x_icmp_ge, x_icmp_le, x_icmp_ne, x_idiv, x_if_le, x_if_ne, x_iinc, x_iload, x_irem, x_istore, x_push, x_vret, y_cv4, y_getF, y_iald, xFT, xbool0, xbool1, Nat.reduceAdd, Nat.zero_add, xgl_0, xgl_s, xgl_n, xst_0, xst_1n, xst_1i, xst_1r, xst_1l, xst_s, set_0, set_s, true_and, and_true, xres, xcat_nil, xcat_i, xcat_r, xcat_l, Nat.add_zero, xble0, xble1, xble2, xble3, xble4, xble5, xble6, xble7, xble8, pk_mul, nI_add, nI_1, nI_leI, nI_ltI, nI_eq, n_in, n_cl, z_eq, z_lt, z_le, z_gt, z_ge, z_qe, o_eq, o_lt, o_le, o_gt, o_ge, vp0, vp1, cl0, cl1, n_sub, n_sub1, n_pm1, n_a0, n_0a, ofn, lN0, Nat.reduceLT, Nat.reduceLeDiff, Nat.reduceMul, Nat.reduceSub, Nat.reduceEqDiff, ne_eq, true_implies, false_implies, not_true_eq_false, not_false_eq_true, and_self, and_true, true_and, and_false, false_and, implies_true, if_true, if_false, i00, i10, i01, i11, ob_0, ob_1, tn_2, ln_2, ob_3, tn_4, ln_4, ob_5, tn_6, ln_6, tn_7, ln_7, ob_8, tn_9, ln_9, tn_10, ln_10, tn_11, ln_11, tn_12, ln_12, tn_13, ln_13, tn_14, ln_14, tn_15, ln_15, tn_16, ln_16, tn_17, ln_17, ob_18, tn_19, ln_19, tn_20, ln_20, tn_21, ln_21, tn_22, ln_22, tn_23, ln_23, tn_24, ln_24, tn_25, ln_25, tn_26, ln_26, tn_27, ln_27, ob_28, tn_29, ln_29, tn_30, ln_30, ob_31, tn_32, ln_32, tn_33, ln_33, ob_34, ob_35, tn_36, ln_36, tn_37, ln_37, tn_38, ln_38, ob_39, tn_40, ln_40, tn_41, ln_41, tn_42, ln_42, tn_43, ln_43, tn_44, ln_44, tn_45, ln_45, tn_46, ln_46, tn_47, ln_47, tn_48, ln_48, tn_49, ln_49, tn_50, ln_50, tn_51, ln_51, ob_52, tn_53, ln_53, tn_54, ln_54, tn_55, ln_55, tn_56, ln_56, ob_57, tn_58, ln_58, tn_59, ln_59, tn_60, ln_60, tn_61, ln_61, tn_62, ln_62, tn_63, ln_63, tn_64, ln_64, tn_65, ln_65, ob_66, tn_67, ln_67, tn_68, ln_68, tn_69, ln_69, tn_70, ln_70, tn_71, ln_71, tn_72, ln_72, tn_73, ln_73, ob_74, tn_75, ln_75, tn_76, ln_76, tn_77, ln_77, tn_78, ln_78, tn_79, ln_79, tn_80, ln_80, tn_81, ln_81, tn_82, ln_82, tn_83, ln_83, ob_84, tn_85, ln_85, tn_86, ln_86, tn_87, ln_87, tn_88, ln_88, tn_89, ln_89, tn_90, ln_90, tn_91, ln_91, tn_92, ln_92, tn_93, ln_93, ob_94, tn_95, ln_95, tn_96, ln_96, tn_97, ln_97, tn_98, ln_98, tn_99, ln_99, tn_100, ln_100, tn_101, ln_101, tn_102, ln_102, tn_103, ln_103, ob_104, tn_105, ln_105, tn_106, ln_106, tn_107, ln_107, tn_108, ln_108, tn_109, ln_109, tn_110, ln_110, tn_111, ln_111, tn_112, ln_112, tn_113, ln_113, ob_114, tn_115, ln_115, tn_116, ln_116, tn_117, ln_117, tn_118, ln_118, tn_119, ln_119, tn_120, ln_120, tn_121, ln_121, tn_122, ln_122, tn_123, ln_123, ob_124, tn_125, ln_125, tn_126, ln_126, tn_127, ln_127, tn_128, ln_128, tn_129, ln_129, tn_130, ln_130, tn_131, ln_131, tn_132, ln_132, tn_133, ln_133, ob_134, tn_135, ln_135, tn_136, ln_136, tn_137, ln_137, tn_138, ln_138, tn_139, ln_139, tn_140, ln_140, tn_141, ln_141, tn_142, ln_142, tn_143, ln_143, ob_144, tn_145, ln_145, tn_146, ln_146, tn_147, ln_147, tn_148, ln_148, tn_149, ln_149, tn_150, ln_150, tn_151, ln_151, tn_152, ln_152, tn_153, ln_153, ob_154, tn_155, ln_155, tn_156, ln_156, tn_157, ln_157, tn_158, ln_158, tn_159, ln_159, tn_160, ln_160, tn_161, ln_161, tn_162, ln_162, tn_163, ln_163, ob_164, tn_165, ln_165, tn_166, ln_166, ob_167, tn_168, ln_168, tn_169, ln_169, tn_170, ln_170, tn_171, ln_171, tn_172, ln_172, tn_173, ln_173, tn_174, ln_174, tn_175, ln_175, tn_176, ln_176, ob_177, tn_178, ln_178, tn_179, ln_179, ob_180, tn_181, ln_181, tn_182, ln_182, tn_183, ln_183, tn_184, ln_184, tn_185, ln_185, tn_186, ln_186, tn_187, ln_187, tn_188, ln_188, tn_189, ln_189, tn_190, ln_190, tn_191, ln_191, tn_192, ln_192, tn_193, ln_193, tn_194, ln_194, tn_195, ln_195, tn_196, ln_196, tn_197, ln_197, tn_198, ln_198, tn_199, ln_199, tn_200, ln_200, tn_201, ln_201, tn_202, ln_202, tn_203, ln_203, tn_204, ln_204, tn_205, ln_205, tn_206, ln_206, tn_207, ln_207, tn_208, ln_208, tn_209, ln_209, tn_210, ln_210, tn_211, ln_211, tn_212, ln_212, tn_213, ln_213, tn_214, ln_214, tn_215, ln_215, tn_216, ln_216, tn_217, ln_217, tn_218, ln_218, tn_219, ln_219, tn_220, ln_220, tn_221, ln_221, tn_222, ln_222, tn_223, ln_223, tn_224, ln_224, tn_225, ln_225, tn_226, ln_226, tn_227, ln_227, tn_228, ln_228, tn_229, ln_229, tn_230, ln_230, lx2, lx3, lx4, lx5, lx6, lx7, lx8, lx9, lx10, lx14, lx15, lx16, lx18, lx20, lx24, lx25, lx27, lx32, lx36, lx40, lx41, lx42, lx43, lx45, lx48, lx52, lx54, lx56, lx57, lx58, lx60, lx61, lx62, lx63, lx64, lx66, lx69, lx73, lx80, lx81, lx84, lx85, lx87, lx94, lx96, lx97, lx120, lx128, lx135, lx160, lx162, lx163, lx165, lx200, lx232, lx242, lx243, lx255, lx256, lx320, lx325, lx400, lx405, lx464, lx512, lx600, lx640, lx752, lx900, lx940, lx1000, lx1024, lx1764, lx3360, lx3840, lx5000, lx6400, lx9050, lx9998, lx9999, lx10000, lx25600, lx76800, lx99999, q2]
    refine ⟨by omega, fun z => ?_, fun z => ?_⟩
    · refine xB2 (c := 0) (by omega) ⟨v, W, al, V, a, b, s, m + 1, _, _, _, hG0, by omega, cW.2.1 _ _ _ hW fun t g => ?_, rfl, rfl, rfl⟩
      have ek : k = tN (stT v) b := by omega
      constructor
      · rintro (w | ⟨x, x', w1, w2, w3, w4, w5, w6⟩)
        · exact Or.inl w
        · exact Or.inr ⟨x, x', w1, w2, w3, w4, w5, Or.inl (by omega)⟩
      · rintro (w | ⟨x, x', w1, w2, w3, w4, w5, w6 | ⟨-, w6⟩⟩)
        · exact Or.inl w
        · have := cb_5376 hw hc w2 w4
          exact Or.inr ⟨x, x', w1, w2, w3, w4, w5, by omega⟩
        · exact absurd w6 (Nat.not_lt_zero _)
    · obtain ⟨y', z1, z2, z3, z4⟩ := q5 k (by omega)
      obtain ⟨y'', w1, w2, w3, w4⟩ := r5 m hm
      have : y'' = y := cb_uni w2 y2 (by omega)
      subst this
      rw [z4]
      have p1 := tY_pl w2
      have p2 := tY_pl z2
      have nxt : ∀ C, W (fun t g => (V t g ∨ pvM v s a b m k t g) ∨ pvY s y'' y' t g) C → xB (tg53 A P) (1000 - m - 1, 1, 1000 - k) [some (.ref 180), some (.int (nI a)), some (.int (nI b)), some (.int (nI s)), some (.int (nI (bsY v a + m))), some (.int (nI (y'' / 128))), some (.int (nI (bsY v b + k + 1))), some (.int (nI (y' / 128)))] [] C := fun C hC =>
        xB3 (d := 1000 - (k + 1)) (by omega) ⟨v, W, al, V, a, b, s, m, k + 1, y'', _, hG0, hm, by omega, ⟨y1, y2, y3, y4⟩, cW.2.1 _ _ _ hC fun t g => by rw [pvM_s y1 y2 y3 z1 z2 z3, or_assoc], rfl, by rw [Nat.add_assoc], rfl⟩
      have no : (∀ t g, ¬ pvY s y'' y' t g) → xB (tg53 A P) (1000 - m - 1, 1, 1000 - k) [some (.ref 180), some (.int (nI a)), some (.int (nI b)), some (.int (nI s)), some (.int (nI (bsY v a + m))), some (.int (nI (y'' / 128))), some (.int (nI (bsY v b + k + 1))), some (.int (nI (y' / 128)))] [] B := fun w =>
        nxt B (cW.2.1 _ _ _ hW fun t g => ⟨Or.inl, fun x => x.elim id fun x => absurd x (w t g)⟩)
      have yes : ∀ (P' : xP) (u : Nat) (g : Bool), u < 4 → (∀ t' g', pvY s y'' y' t' g' ↔ t' = nEn (u, y'' % 128, y' % 128) ∧ g' = g) → (∀ C, xB (tg53 A P) (1000 - m - 1, 1, 1000 - k) [some (.ref 180), some (.int (nI a)), some (.int (nI b)), some (.int (nI s)), some (.int (nI (bsY v a + m))), some (.int (nI (y'' / 128))), some (.int (nI (bsY v b + k + 1))), some (.int (nI (y' / 128)))] [] C → P' none C) → f_X12_comes 180 (nI (y'' - y'' / 128 * 128)) (nI (y' - y' / 128 * 128)) (nI u) (bI g) B P' := fun P' u g hu he hP' => by
        rw [show y'' - y'' / 128 * 128 = y'' % 128 by omega, show y' - y' / 128 * 128 = y' % 128 by omega]
        refine cW.2.2 _ _ (nEn (u, y'' % 128, y' % 128)) g _ _ _ _ hW ⟨hu, by show y'' % 128 < 80; omega, by show y' % 128 < 80; omega⟩ rfl (hal _ _ ⟨y'', y', y1, z1, y2, z2, (he _ _).mpr ⟨rfl, rfl⟩⟩) fun C hC => hP' C (nxt C (cW.2.1 _ _ _ hC fun t g' => ?_))
        rw [he t g']
      simp (disch := omega) only [k_X12_together_0, k_X12_together_8, k_X12_together_53, k_X12_together_45, k_X12_together_118, k_X12_together_129, k_X12_together_179, w_RIIII, x_aload, x_cv4, x_iadd, x_icmp_ge, x_icmp_le, x_icmp_ne, x_idiv, x_if_le, x_if_ne, x_iinc, x_iload, x_irem, x_istore, x_push, x_vret, y_cv4, y_getF, y_iald, xFT, xbool0, xbool1, Nat.reduceAdd, Nat.zero_add, xgl_0, xgl_s, xgl_n, xst_0, xst_1n, xst_1i, xst_1r, xst_1l, xst_s, set_0, set_s, true_and, and_true, xres, xcat_nil, xcat_i, xcat_r, xcat_l, Nat.add_zero, xble0, xble1, xble2, xble3, xble4, xble5, xble6, xble7, xble8, pk_mul, nI_add, nI_1, nI_leI, nI_ltI, nI_eq, n_in, n_cl, z_eq, z_lt, z_le, z_gt, z_ge, z_qe, o_eq, o_lt, o_le, o_gt, o_ge, vp0, vp1, cl0, cl1, n_sub, n_sub1, n_pm1, n_a0, n_0a, ofn, lN0, Nat.reduceLT, Nat.reduceLeDiff, Nat.reduceMul, Nat.reduceSub, Nat.reduceEqDiff, ne_eq, true_implies, false_implies, not_true_eq_false, not_false_eq_true, and_self, and_true, true_and, and_false, false_and, implies_true, if_true, if_false, i00, i10, i01, i11, ob_0, ob_1, tn_2, ln_2, ob_3, tn_4, ln_4, ob_5, tn_6, ln_6, tn_7, ln_7, ob_8, tn_9, ln_9, tn_10, ln_10, tn_11, ln_11, tn_12, ln_12, tn_13, ln_13, tn_14, ln_14, tn_15, ln_15, tn_16, ln_16, tn_17, ln_17, ob_18, tn_19, ln_19, tn_20, ln_20, tn_21, ln_21, tn_22, ln_22, tn_23, ln_23, tn_24, ln_24, tn_25, ln_25, tn_26, ln_26, tn_27, ln_27, ob_28, tn_29, ln_29, tn_30, ln_30, ob_31, tn_32, ln_32, tn_33, ln_33, ob_34, ob_35, tn_36, ln_36, tn_37, ln_37, tn_38, ln_38, ob_39, tn_40, ln_40, tn_41, ln_41, tn_42, ln_42, tn_43, ln_43, tn_44, ln_44, tn_45, ln_45, tn_46, ln_46, tn_47, ln_47, tn_48, ln_48, tn_49, ln_49, tn_50, ln_50, tn_51, ln_51, ob_52, tn_53, ln_53, tn_54, ln_54, tn_55, ln_55, tn_56, ln_56, ob_57, tn_58, ln_58, tn_59, ln_59, tn_60, ln_60, tn_61, ln_61, tn_62, ln_62, tn_63, ln_63, tn_64, ln_64, tn_65, ln_65, ob_66, tn_67, ln_67, tn_68, ln_68, tn_69, ln_69, tn_70, ln_70, tn_71, ln_71, tn_72, ln_72, tn_73, ln_73, ob_74, tn_75, ln_75, tn_76, ln_76, tn_77, ln_77, tn_78, ln_78, tn_79, ln_79, tn_80, ln_80, tn_81, ln_81, tn_82, ln_82, tn_83, ln_83, ob_84, tn_85, ln_85, tn_86, ln_86, tn_87, ln_87, tn_88, ln_88, tn_89, ln_89, tn_90, ln_90, tn_91, ln_91, tn_92, ln_92, tn_93, ln_93, ob_94, tn_95, ln_95, tn_96, ln_96, tn_97, ln_97, tn_98, ln_98, tn_99, ln_99, tn_100, ln_100, tn_101, ln_101, tn_102, ln_102, tn_103, ln_103, ob_104, tn_105, ln_105, tn_106, ln_106, tn_107, ln_107, tn_108, ln_108, tn_109, ln_109, tn_110, ln_110, tn_111, ln_111, tn_112, ln_112, tn_113, ln_113, ob_114, tn_115, ln_115, tn_116, ln_116, tn_117, ln_117, tn_118, ln_118, tn_119, ln_119, tn_120, ln_120, tn_121, ln_121, tn_122, ln_122, tn_123, ln_123, ob_124, tn_125, ln_125, tn_126, ln_126, tn_127, ln_127, tn_128, ln_128, tn_129, ln_129, tn_130, ln_130, tn_131, ln_131, tn_132, ln_132, tn_133, ln_133, ob_134, tn_135, ln_135, tn_136, ln_136, tn_137, ln_137, tn_138, ln_138, tn_139, ln_139, tn_140, ln_140, tn_141, ln_141, tn_142, ln_142, tn_143, ln_143, ob_144, tn_145, ln_145, tn_146, ln_146, tn_147, ln_147, tn_148, ln_148, tn_149, ln_149, tn_150, ln_150, tn_151, ln_151, tn_152, ln_152, tn_153, ln_153, ob_154, tn_155, ln_155, tn_156, ln_156, tn_157, ln_157, tn_158, ln_158, tn_159, ln_159, tn_160, ln_160, tn_161, ln_161, tn_162, ln_162, tn_163, ln_163, ob_164, tn_165, ln_165, tn_166, ln_166, ob_167, tn_168, ln_168, tn_169, ln_169, tn_170, ln_170, tn_171, ln_171, tn_172, ln_172, tn_173, ln_173, tn_174, ln_174, tn_175, ln_175, tn_176, ln_176, ob_177, tn_178, ln_178, tn_179, ln_179, ob_180, tn_181, ln_181, tn_182, ln_182, tn_183, ln_183, tn_184, ln_184, tn_185, ln_185, tn_186, ln_186, tn_187, ln_187, tn_188, ln_188, tn_189, ln_189, tn_190, ln_190, tn_191, ln_191, tn_192, ln_192, tn_193, ln_193, tn_194, ln_194, tn_195, ln_195, tn_196, ln_196, tn_197, ln_197, tn_198, ln_198, tn_199, ln_199, tn_200, ln_200, tn_201, ln_201, tn_202, ln_202, tn_203, ln_203, tn_204, ln_204, tn_205, ln_205, tn_206, ln_206, tn_207, ln_207, tn_208, ln_208, tn_209, ln_209, tn_210, ln_210, tn_211, ln_211, tn_212, ln_212, tn_213, ln_213, tn_214, ln_214, tn_215, ln_215, tn_216, ln_216, tn_217, ln_217, tn_218, ln_218, tn_219, ln_219, tn_220, ln_220, tn_221, ln_221, tn_222, ln_222, tn_223, ln_223, tn_224, ln_224, tn_225, ln_225, tn_226, ln_226, tn_227, ln_227, tn_228, ln_228, tn_229, ln_229, tn_230, ln_230, lx2, lx3, lx4, lx5, lx6, lx7, lx8, lx9, lx10, lx14, lx15, lx16, lx18, lx20, lx24, lx25, lx27, lx32, lx36, lx40, lx41, lx42, lx43, lx45, lx48, lx52, lx54, lx56, lx57, lx58, lx60, lx61, lx62, lx63, lx64, lx66, lx69, lx73, lx80, lx81, lx84, lx85, lx87, lx94, lx96, lx97, lx120, lx128, lx135, lx160, lx162, lx163, lx165, lx200, lx232, lx242, lx243, lx255, lx256, lx320, lx325, lx400, lx405, lx464, lx512, lx600, lx640, lx752, lx900, lx940, lx1000, lx1024, lx1764, lx3360, lx3840, lx5000, lx6400, lx9050, lx9998, lx9999, lx10000, lx25600, lx76800, lx99999, pk_div, w4, z4]
      refine ⟨by omega, fun ne => ⟨fun s0 => no fun t g w => ?_, fun s0 => ⟨fun w => no fun t g w' => ?_, fun h1 => ⟨fun w => no fun t g w' => ?_, fun h2 => ⟨by omega, by omega, yes _ 1 false (by omega) (fun t g => ?_) fun C h => h⟩⟩⟩⟩, fun e => ⟨by omega, by omega, fun s0 => ⟨fun h1 => ?_, fun h1 => yes _ 1 true (by omega) (fun t g => ?_) fun C h => h⟩, fun s0 => ⟨fun h1 => yes _ 0 false (by omega) (fun t g => ?_) fun C h => h, fun h1 => yes _ 0 true (by omega) (fun t g => ?_) fun C h => h⟩⟩⟩
      · unfold pvY at w; omega
      · unfold pvY at w'; omega
      · unfold pvY at w'; omega
      · unfold pvY
        constructor
        · rintro (⟨w, -⟩ | ⟨-, -, -, -, w1, w2⟩)
          · exact absurd w ne
          · exact ⟨w1, w2⟩
        · rintro ⟨w1, w2⟩
          exact Or.inr ⟨ne, s0, by omega, by omega, w1, w2⟩
      · exact absurd y4 (by omega)
      · unfold pvY
        rw [if_neg s0, decide_eq_true (show y'' / 128 < 4 by omega)]
        constructor
        · rintro (⟨-, -, w1, w2⟩ | ⟨w, -⟩)
          · exact ⟨w1, w2⟩
          · exact absurd e w
        · rintro ⟨w1, w2⟩
          exact Or.inl ⟨e, Or.inr (by omega), w1, w2⟩
      · unfold pvY
        rw [if_pos s0, decide_eq_false (show ¬ y'' / 128 < 4 by omega)]
        constructor
        · rintro (⟨-, -, w1, w2⟩ | ⟨w, -⟩)
          · exact ⟨w1, w2⟩
          · exact absurd e w
        · rintro ⟨w1, w2⟩
          exact Or.inl ⟨e, Or.inl s0, w1, w2⟩
      · unfold pvY
        rw [if_pos s0, decide_eq_true (show y'' / 128 < 4 by omega)]
        constructor
        · rintro (⟨-, -, w1, w2⟩ | ⟨w, -⟩)
          · exact ⟨w1, w2⟩
          · exact absurd e w
        · rintro ⟨w1, w2⟩
          exact Or.inl ⟨e, Or.inl s0, w1, w2⟩

