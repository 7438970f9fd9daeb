/-! ===== the reference's comes ===== -/
theorem d_X12_comes_0 : decode cX12_comes 0 = .ok (.iconst 4, 1) := by decide +kernel
theorem d_X12_comes_1 : decode cX12_comes 1 = .ok (.bipush 80, 2) := by decide +kernel
theorem d_X12_comes_3 : decode cX12_comes 3 = .ok (.iload_n 1, 1) := by decide +kernel
theorem d_X12_comes_4 : decode cX12_comes 4 = .ok (.imul, 1) := by decide +kernel
theorem d_X12_comes_5 : decode cX12_comes 5 = .ok (.iload_n 2, 1) := by decide +kernel
theorem d_X12_comes_6 : decode cX12_comes 6 = .ok (.iadd, 1) := by decide +kernel
theorem d_X12_comes_7 : decode cX12_comes 7 = .ok (.imul, 1) := by decide +kernel
theorem d_X12_comes_8 : decode cX12_comes 8 = .ok (.iload_n 3, 1) := by decide +kernel
theorem d_X12_comes_9 : decode cX12_comes 9 = .ok (.iadd, 1) := by decide +kernel
theorem d_X12_comes_10 : decode cX12_comes 10 = .ok (.istore 5, 2) := by decide +kernel
theorem d_X12_comes_12 : decode cX12_comes 12 = .ok (.aload_n 0, 1) := by decide +kernel
theorem d_X12_comes_13 : decode cX12_comes 13 = .ok (.getfield 430, 3) := by decide +kernel
theorem d_X12_comes_16 : decode cX12_comes 16 = .ok (.ifCond .eq 30, 3) := by decide +kernel
theorem d_X12_comes_19 : decode cX12_comes 19 = .ok (.aload_n 0, 1) := by decide +kernel
theorem d_X12_comes_20 : decode cX12_comes 20 = .ok (.aload_n 0, 1) := by decide +kernel
theorem d_X12_comes_21 : decode cX12_comes 21 = .ok (.getfield 433, 3) := by decide +kernel
theorem d_X12_comes_24 : decode cX12_comes 24 = .ok (.ifCond .ne 13, 3) := by decide +kernel
theorem d_X12_comes_27 : decode cX12_comes 27 = .ok (.aload_n 0, 1) := by decide +kernel
theorem d_X12_comes_28 : decode cX12_comes 28 = .ok (.getfield 103, 3) := by decide +kernel
theorem d_X12_comes_31 : decode cX12_comes 31 = .ok (.iload 5, 2) := by decide +kernel
theorem d_X12_comes_33 : decode cX12_comes 33 = .ok (.baload, 1) := by decide +kernel
theorem d_X12_comes_34 : decode cX12_comes 34 = .ok (.ifCond .eq 7, 3) := by decide +kernel
theorem d_X12_comes_37 : decode cX12_comes 37 = .ok (.iconst 1, 1) := by decide +kernel
theorem d_X12_comes_38 : decode cX12_comes 38 = .ok (.goto 4, 3) := by decide +kernel
theorem d_X12_comes_41 : decode cX12_comes 41 = .ok (.iconst 0, 1) := by decide +kernel
theorem d_X12_comes_42 : decode cX12_comes 42 = .ok (.putfield 433, 3) := by decide +kernel
theorem d_X12_comes_45 : decode cX12_comes 45 = .ok (.return_, 1) := by decide +kernel
theorem d_X12_comes_46 : decode cX12_comes 46 = .ok (.iload 4, 2) := by decide +kernel
theorem d_X12_comes_48 : decode cX12_comes 48 = .ok (.ifCond .eq 12, 3) := by decide +kernel
theorem d_X12_comes_51 : decode cX12_comes 51 = .ok (.aload_n 0, 1) := by decide +kernel
theorem d_X12_comes_52 : decode cX12_comes 52 = .ok (.getfield 436, 3) := by decide +kernel
theorem d_X12_comes_55 : decode cX12_comes 55 = .ok (.iconst 1, 1) := by decide +kernel
theorem d_X12_comes_56 : decode cX12_comes 56 = .ok (.iadd, 1) := by decide +kernel
theorem d_X12_comes_57 : decode cX12_comes 57 = .ok (.goto 7, 3) := by decide +kernel
theorem d_X12_comes_60 : decode cX12_comes 60 = .ok (.aload_n 0, 1) := by decide +kernel
theorem d_X12_comes_61 : decode cX12_comes 61 = .ok (.getfield 436, 3) := by decide +kernel
theorem d_X12_comes_64 : decode cX12_comes 64 = .ok (.istore 6, 2) := by decide +kernel
theorem d_X12_comes_66 : decode cX12_comes 66 = .ok (.aload_n 0, 1) := by decide +kernel
theorem d_X12_comes_67 : decode cX12_comes 67 = .ok (.getfield 91, 3) := by decide +kernel
theorem d_X12_comes_70 : decode cX12_comes 70 = .ok (.iload 5, 2) := by decide +kernel
theorem d_X12_comes_72 : decode cX12_comes 72 = .ok (.iaload, 1) := by decide +kernel
theorem d_X12_comes_73 : decode cX12_comes 73 = .ok (.iload 6, 2) := by decide +kernel
theorem d_X12_comes_75 : decode cX12_comes 75 = .ok (.if_icmp .gt 4, 3) := by decide +kernel
theorem d_X12_comes_78 : decode cX12_comes 78 = .ok (.return_, 1) := by decide +kernel
theorem d_X12_comes_79 : decode cX12_comes 79 = .ok (.aload_n 0, 1) := by decide +kernel
theorem d_X12_comes_80 : decode cX12_comes 80 = .ok (.getfield 91, 3) := by decide +kernel
theorem d_X12_comes_83 : decode cX12_comes 83 = .ok (.iload 5, 2) := by decide +kernel
theorem d_X12_comes_85 : decode cX12_comes 85 = .ok (.iaload, 1) := by decide +kernel
theorem d_X12_comes_86 : decode cX12_comes 86 = .ok (.ldc_w 439, 3) := by decide +kernel
theorem d_X12_comes_89 : decode cX12_comes 89 = .ok (.if_icmp .ne 24, 3) := by decide +kernel
theorem d_X12_comes_92 : decode cX12_comes 92 = .ok (.aload_n 0, 1) := by decide +kernel
theorem d_X12_comes_93 : decode cX12_comes 93 = .ok (.getfield 94, 3) := by decide +kernel
theorem d_X12_comes_96 : decode cX12_comes 96 = .ok (.aload_n 0, 1) := by decide +kernel
theorem d_X12_comes_97 : decode cX12_comes 97 = .ok (.getfield 440, 3) := by decide +kernel
theorem d_X12_comes_100 : decode cX12_comes 100 = .ok (.iload 5, 2) := by decide +kernel
theorem d_X12_comes_102 : decode cX12_comes 102 = .ok (.iastore, 1) := by decide +kernel
theorem d_X12_comes_103 : decode cX12_comes 103 = .ok (.aload_n 0, 1) := by decide +kernel
theorem d_X12_comes_104 : decode cX12_comes 104 = .ok (.dup, 1) := by decide +kernel
theorem d_X12_comes_105 : decode cX12_comes 105 = .ok (.getfield 440, 3) := by decide +kernel
theorem d_X12_comes_108 : decode cX12_comes 108 = .ok (.iconst 1, 1) := by decide +kernel
theorem d_X12_comes_109 : decode cX12_comes 109 = .ok (.iadd, 1) := by decide +kernel
theorem d_X12_comes_110 : decode cX12_comes 110 = .ok (.putfield 440, 3) := by decide +kernel
theorem d_X12_comes_113 : decode cX12_comes 113 = .ok (.aload_n 0, 1) := by decide +kernel
theorem d_X12_comes_114 : decode cX12_comes 114 = .ok (.getfield 91, 3) := by decide +kernel
theorem d_X12_comes_117 : decode cX12_comes 117 = .ok (.iload 5, 2) := by decide +kernel
theorem d_X12_comes_119 : decode cX12_comes 119 = .ok (.iload 6, 2) := by decide +kernel
theorem d_X12_comes_121 : decode cX12_comes 121 = .ok (.iastore, 1) := by decide +kernel
theorem d_X12_comes_122 : decode cX12_comes 122 = .ok (.iload 4, 2) := by decide +kernel
theorem d_X12_comes_124 : decode cX12_comes 124 = .ok (.ifCond .eq 27, 3) := by decide +kernel
theorem d_X12_comes_127 : decode cX12_comes 127 = .ok (.aload_n 0, 1) := by decide +kernel
theorem d_X12_comes_128 : decode cX12_comes 128 = .ok (.getfield 100, 3) := by decide +kernel
theorem d_X12_comes_131 : decode cX12_comes 131 = .ok (.aload_n 0, 1) := by decide +kernel
theorem d_X12_comes_132 : decode cX12_comes 132 = .ok (.getfield 443, 3) := by decide +kernel
theorem d_X12_comes_135 : decode cX12_comes 135 = .ok (.iload 5, 2) := by decide +kernel
theorem d_X12_comes_137 : decode cX12_comes 137 = .ok (.iastore, 1) := by decide +kernel
theorem d_X12_comes_138 : decode cX12_comes 138 = .ok (.aload_n 0, 1) := by decide +kernel
theorem d_X12_comes_139 : decode cX12_comes 139 = .ok (.dup, 1) := by decide +kernel
theorem d_X12_comes_140 : decode cX12_comes 140 = .ok (.getfield 443, 3) := by decide +kernel
theorem d_X12_comes_143 : decode cX12_comes 143 = .ok (.iconst 1, 1) := by decide +kernel
theorem d_X12_comes_144 : decode cX12_comes 144 = .ok (.iadd, 1) := by decide +kernel
theorem d_X12_comes_145 : decode cX12_comes 145 = .ok (.putfield 443, 3) := by decide +kernel
theorem d_X12_comes_148 : decode cX12_comes 148 = .ok (.goto 24, 3) := by decide +kernel
theorem d_X12_comes_151 : decode cX12_comes 151 = .ok (.aload_n 0, 1) := by decide +kernel
theorem d_X12_comes_152 : decode cX12_comes 152 = .ok (.getfield 97, 3) := by decide +kernel
theorem d_X12_comes_155 : decode cX12_comes 155 = .ok (.aload_n 0, 1) := by decide +kernel
theorem d_X12_comes_156 : decode cX12_comes 156 = .ok (.getfield 446, 3) := by decide +kernel
theorem d_X12_comes_159 : decode cX12_comes 159 = .ok (.iload 5, 2) := by decide +kernel
theorem d_X12_comes_161 : decode cX12_comes 161 = .ok (.iastore, 1) := by decide +kernel
theorem d_X12_comes_162 : decode cX12_comes 162 = .ok (.aload_n 0, 1) := by decide +kernel
theorem d_X12_comes_163 : decode cX12_comes 163 = .ok (.dup, 1) := by decide +kernel
theorem d_X12_comes_164 : decode cX12_comes 164 = .ok (.getfield 446, 3) := by decide +kernel
theorem d_X12_comes_167 : decode cX12_comes 167 = .ok (.iconst 1, 1) := by decide +kernel
theorem d_X12_comes_168 : decode cX12_comes 168 = .ok (.iadd, 1) := by decide +kernel
theorem d_X12_comes_169 : decode cX12_comes 169 = .ok (.putfield 446, 3) := by decide +kernel
theorem d_X12_comes_172 : decode cX12_comes 172 = .ok (.return_, 1) := by decide +kernel
def k_X12_comes_172 (P : xP) : xK := x_vret P
set_option maxRecDepth 20000 in
theorem t_X12_comes_172 {p : Program} {l : Launch} {e : Env} {s : State} {m : MethodId} {args : Array Value} {below : List Frame} {meth : Method} {c : Code} {g : xG} (X : xX p s m args c meth cX12_comes RX12 7 g) (hr : meth.sig.returnType = none) {P : xP} : xAt p l e { frames := 0, cells := 0, slots := 0, locals := 0 } s m args below meth c g 7 xFT xN 0 0 (MQ below (xQc g xFT xN P) args s 0 0 (xFr g)) (k_X12_comes_172 P) 172 := by
  unfold k_X12_comes_172
  exact r_vret (pc := 172) X hr d_X12_comes_172
def k_X12_comes_113 (P : xP) : xK := x_aload 0 (y_getF 180 201 (x_iload 5 (x_iload 6 (y_iast 201 25600 (x_iload 4 (x_if_eq (x_aload 0 (y_getF 180 203 (x_aload 0 (y_getI 180 48 (x_iload 5 (y_iast 203 25600 (x_aload 0 (x_dup (y_getI 180 48 (x_push (.int 1) (x_iadd (y_putI 180 48 ((k_X12_comes_172 P)))))))))))))) (x_aload 0 (y_getF 180 204 (x_aload 0 (y_getI 180 49 (x_iload 5 (y_iast 204 25600 (x_aload 0 (x_dup (y_getI 180 49 (x_push (.int 1) (x_iadd (y_putI 180 49 ((k_X12_comes_172 P))))))))))))))))))))
set_option maxRecDepth 20000 in
theorem t_X12_comes_113 {p : Program} {l : Launch} {e : Env} {s : State} {m : MethodId} {args : Array Value} {below : List Frame} {meth : Method} {c : Code} {g : xG} (X : xX p s m args c meth cX12_comes RX12 7 g) (hr : meth.sig.returnType = none) {P : xP} : xAt p l e { frames := 0, cells := 0, slots := 0, locals := 0 } s m args below meth c g 7 xFT xN 0 0 (MQ below (xQc g xFT xN P) args s 0 0 (xFr g)) (k_X12_comes_113 P) 113 := by
  unfold k_X12_comes_113
  refine r_aload_n (pc := 113) X d_X12_comes_113 fn0 ?_
  refine s_getF (pc := 114) (ci := 12) (k := 42) X xok12 (by decide +kernel) ob_180 trivial ly_180_42 (by decide +kernel) fl_RX12_91 d_X12_comes_114 ?_
  refine r_iload (pc := 117) X d_X12_comes_117 ?_
  refine r_iload (pc := 119) X d_X12_comes_119 ?_
  refine s_iast (pc := 121) X tn_201 ln_201 d_X12_comes_121 ?_
  refine r_iload (pc := 122) X d_X12_comes_122 ?_
  refine r_if_eq (pc := 124) (tgt := 151) X d_X12_comes_124 (by decide +kernel) ?_ ?_
  · refine r_aload_n (pc := 151) X d_X12_comes_151 fn0 ?_
    refine s_getF (pc := 152) (ci := 12) (k := 44) X xok12 (by decide +kernel) ob_180 trivial ly_180_44 (by decide +kernel) fl_RX12_97 d_X12_comes_152 ?_
    refine r_aload_n (pc := 155) X d_X12_comes_155 fn0 ?_
    refine s_getI (pc := 156) (ci := 12) X xok12 (by decide +kernel) ob_180 (by decide +kernel) fl_RX12_446 d_X12_comes_156 ?_
    refine r_iload (pc := 159) X d_X12_comes_159 ?_
    refine s_iast (pc := 161) X tn_203 ln_203 d_X12_comes_161 ?_
    refine r_aload_n (pc := 162) X d_X12_comes_162 fn0 ?_
    refine r_dup (pc := 163) X d_X12_comes_163 ?_
    refine s_getI (pc := 164) (ci := 12) X xok12 (by decide +kernel) ob_180 (by decide +kernel) fl_RX12_446 d_X12_comes_164 ?_
    refine r_iconst (pc := 167) X d_X12_comes_167 (by decide +kernel) ?_
    refine r_iadd (pc := 168) X d_X12_comes_168 ?_
    refine s_putI (pc := 169) (ci := 12) X xok12 (by decide +kernel) ob_180 (by decide +kernel) (by decide +kernel) (by decide +kernel) fl_RX12_446 d_X12_comes_169 ?_
    exact t_X12_comes_172 X hr
  · refine r_aload_n (pc := 127) X d_X12_comes_127 fn0 ?_
    refine s_getF (pc := 128) (ci := 12) (k := 45) X xok12 (by decide +kernel) ob_180 trivial ly_180_45 (by decide +kernel) fl_RX12_100 d_X12_comes_128 ?_
    refine r_aload_n (pc := 131) X d_X12_comes_131 fn0 ?_
    refine s_getI (pc := 132) (ci := 12) X xok12 (by decide +kernel) ob_180 (by decide +kernel) fl_RX12_443 d_X12_comes_132 ?_
    refine r_iload (pc := 135) X d_X12_comes_135 ?_
    refine s_iast (pc := 137) X tn_204 ln_204 d_X12_comes_137 ?_
    refine r_aload_n (pc := 138) X d_X12_comes_138 fn0 ?_
    refine r_dup (pc := 139) X d_X12_comes_139 ?_
    refine s_getI (pc := 140) (ci := 12) X xok12 (by decide +kernel) ob_180 (by decide +kernel) fl_RX12_443 d_X12_comes_140 ?_
    refine r_iconst (pc := 143) X d_X12_comes_143 (by decide +kernel) ?_
    refine r_iadd (pc := 144) X d_X12_comes_144 ?_
    refine s_putI (pc := 145) (ci := 12) X xok12 (by decide +kernel) ob_180 (by decide +kernel) (by decide +kernel) (by decide +kernel) fl_RX12_443 d_X12_comes_145 ?_
    refine r_goto (pc := 148) (tgt := 172) X d_X12_comes_148 (by decide +kernel) ?_
    exact t_X12_comes_172 X hr
def k_X12_comes_64 (P : xP) : xK := x_istore 6 (x_aload 0 (y_getF 180 201 (x_iload 5 (y_iald 201 25600 (x_iload 6 (x_icmp_gt (x_aload 0 (y_getF 180 201 (x_iload 5 (y_iald 201 25600 (x_push (.int 99999) (x_icmp_ne ((k_X12_comes_113 P)) (x_aload 0 (y_getF 180 202 (x_aload 0 (y_getI 180 47 (x_iload 5 (y_iast 202 25600 (x_aload 0 (x_dup (y_getI 180 47 (x_push (.int 1) (x_iadd (y_putI 180 47 ((k_X12_comes_113 P)))))))))))))))))))) (x_vret P)))))))
set_option maxRecDepth 20000 in
theorem t_X12_comes_64 {p : Program} {l : Launch} {e : Env} {s : State} {m : MethodId} {args : Array Value} {below : List Frame} {meth : Method} {c : Code} {g : xG} (X : xX p s m args c meth cX12_comes RX12 7 g) (hr : meth.sig.returnType = none) {P : xP} : xAt p l e { frames := 0, cells := 0, slots := 0, locals := 0 } s m args below meth c g 7 xFT xN 0 0 (MQ below (xQc g xFT xN P) args s 0 0 (xFr g)) (k_X12_comes_64 P) 64 := by
  unfold k_X12_comes_64
  refine r_istore (pc := 64) X d_X12_comes_64 (by decide +kernel) ?_
  refine r_aload_n (pc := 66) X d_X12_comes_66 fn0 ?_
  refine s_getF (pc := 67) (ci := 12) (k := 42) X xok12 (by decide +kernel) ob_180 trivial ly_180_42 (by decide +kernel) fl_RX12_91 d_X12_comes_67 ?_
  refine r_iload (pc := 70) X d_X12_comes_70 ?_
  refine s_iald (pc := 72) X tn_201 ln_201 d_X12_comes_72 ?_
  refine r_iload (pc := 73) X d_X12_comes_73 ?_
  refine r_icmp_gt (pc := 75) (tgt := 79) X d_X12_comes_75 (by decide +kernel) ?_ ?_
  · refine r_aload_n (pc := 79) X d_X12_comes_79 fn0 ?_
    refine s_getF (pc := 80) (ci := 12) (k := 42) X xok12 (by decide +kernel) ob_180 trivial ly_180_42 (by decide +kernel) fl_RX12_91 d_X12_comes_80 ?_
    refine r_iload (pc := 83) X d_X12_comes_83 ?_
    refine s_iald (pc := 85) X tn_201 ln_201 d_X12_comes_85 ?_
    refine r_ldcw (pc := 86) X cw_RX12_439 d_X12_comes_86 ?_
    refine r_icmp_ne (pc := 89) (tgt := 113) X d_X12_comes_89 (by decide +kernel) ?_ ?_
    · exact t_X12_comes_113 X hr
    · refine r_aload_n (pc := 92) X d_X12_comes_92 fn0 ?_
      refine s_getF (pc := 93) (ci := 12) (k := 43) X xok12 (by decide +kernel) ob_180 trivial ly_180_43 (by decide +kernel) fl_RX12_94 d_X12_comes_93 ?_
      refine r_aload_n (pc := 96) X d_X12_comes_96 fn0 ?_
      refine s_getI (pc := 97) (ci := 12) X xok12 (by decide +kernel) ob_180 (by decide +kernel) fl_RX12_440 d_X12_comes_97 ?_
      refine r_iload (pc := 100) X d_X12_comes_100 ?_
      refine s_iast (pc := 102) X tn_202 ln_202 d_X12_comes_102 ?_
      refine r_aload_n (pc := 103) X d_X12_comes_103 fn0 ?_
      refine r_dup (pc := 104) X d_X12_comes_104 ?_
      refine s_getI (pc := 105) (ci := 12) X xok12 (by decide +kernel) ob_180 (by decide +kernel) fl_RX12_440 d_X12_comes_105 ?_
      refine r_iconst (pc := 108) X d_X12_comes_108 (by decide +kernel) ?_
      refine r_iadd (pc := 109) X d_X12_comes_109 ?_
      refine s_putI (pc := 110) (ci := 12) X xok12 (by decide +kernel) ob_180 (by decide +kernel) (by decide +kernel) (by decide +kernel) fl_RX12_440 d_X12_comes_110 ?_
      exact t_X12_comes_113 X hr
  · exact r_vret (pc := 78) X hr d_X12_comes_78
def k_X12_comes_42 (P : xP) : xK := x_putZ xN 12 52 (x_vret P)
set_option maxRecDepth 20000 in
theorem t_X12_comes_42 {p : Program} {l : Launch} {e : Env} {s : State} {m : MethodId} {args : Array Value} {below : List Frame} {meth : Method} {c : Code} {g : xG} (X : xX p s m args c meth cX12_comes RX12 7 g) (hr : meth.sig.returnType = none) {P : xP} : xAt p l e { frames := 0, cells := 0, slots := 0, locals := 0 } s m args below meth c g 7 xFT xN 0 0 (MQ below (xQc g xFT xN P) args s 0 0 (xFr g)) (k_X12_comes_42 P) 42 := by
  unfold k_X12_comes_42
  refine r_putZ (pc := 42) X xok12 (by decide +kernel) (by decide +kernel) (by decide +kernel) (by decide +kernel) fl_RX12_433 d_X12_comes_42 ?_
  exact r_vret (pc := 45) X hr d_X12_comes_45
def k_X12_comes_37 (P : xP) : xK := x_push (.int 1) ((k_X12_comes_42 P))
set_option maxRecDepth 20000 in
theorem t_X12_comes_37 {p : Program} {l : Launch} {e : Env} {s : State} {m : MethodId} {args : Array Value} {below : List Frame} {meth : Method} {c : Code} {g : xG} (X : xX p s m args c meth cX12_comes RX12 7 g) (hr : meth.sig.returnType = none) {P : xP} : xAt p l e { frames := 0, cells := 0, slots := 0, locals := 0 } s m args below meth c g 7 xFT xN 0 0 (MQ below (xQc g xFT xN P) args s 0 0 (xFr g)) (k_X12_comes_37 P) 37 := by
  unfold k_X12_comes_37
  refine r_iconst (pc := 37) X d_X12_comes_37 (by decide +kernel) ?_
  refine r_goto (pc := 38) (tgt := 42) X d_X12_comes_38 (by decide +kernel) ?_
  exact t_X12_comes_42 X hr
def k_X12_comes_0 (P : xP) : xK := x_push (.int 4) (x_push (.int 80) (x_iload 1 (x_imul (x_iload 2 (x_iadd (x_imul (x_iload 3 (x_iadd (x_istore 5 (x_aload 0 (y_getI 180 51 (x_if_eq (x_iload 4 (x_if_eq (x_aload 0 (y_getI 180 50 ((k_X12_comes_64 P)))) (x_aload 0 (y_getI 180 50 (x_push (.int 1) (x_iadd ((k_X12_comes_64 P)))))))) (x_aload 0 (x_aload 0 (y_getI 180 52 (x_if_ne ((k_X12_comes_37 P)) (x_aload 0 (y_getF 180 205 (x_iload 5 (y_iald 205 25600 (x_if_eq (x_push (.int 0) ((k_X12_comes_42 P))) ((k_X12_comes_37 P)))))))))))))))))))))))
set_option maxRecDepth 20000 in
theorem t_X12_comes_0 {p : Program} {l : Launch} {e : Env} {s : State} {m : MethodId} {args : Array Value} {below : List Frame} {meth : Method} {c : Code} {g : xG} (X : xX p s m args c meth cX12_comes RX12 7 g) (hr : meth.sig.returnType = none) {P : xP} : xAt p l e { frames := 0, cells := 0, slots := 0, locals := 0 } s m args below meth c g 7 xFT xN 0 0 (MQ below (xQc g xFT xN P) args s 0 0 (xFr g)) (k_X12_comes_0 P) 0 := by
  unfold k_X12_comes_0
  refine r_iconst (pc := 0) X d_X12_comes_0 (by decide +kernel) ?_
  refine r_bipush (pc := 1) X d_X12_comes_1 (by decide +kernel) ?_
  refine r_iload_n (pc := 3) X d_X12_comes_3 fn1 ?_
  refine r_imul (pc := 4) X d_X12_comes_4 ?_
  refine r_iload_n (pc := 5) X d_X12_comes_5 fn2 ?_
  refine r_iadd (pc := 6) X d_X12_comes_6 ?_
  refine r_imul (pc := 7) X d_X12_comes_7 ?_
  refine r_iload_n (pc := 8) X d_X12_comes_8 fn3 ?_
  refine r_iadd (pc := 9) X d_X12_comes_9 ?_
  refine r_istore (pc := 10) X d_X12_comes_10 (by decide +kernel) ?_
  refine r_aload_n (pc := 12) X d_X12_comes_12 fn0 ?_
  refine s_getI (pc := 13) (ci := 12) X xok12 (by decide +kernel) ob_180 (by decide +kernel) fl_RX12_430 d_X12_comes_13 ?_
  refine r_if_eq (pc := 16) (tgt := 46) X d_X12_comes_16 (by decide +kernel) ?_ ?_
  · refine r_iload (pc := 46) X d_X12_comes_46 ?_
    refine r_if_eq (pc := 48) (tgt := 60) X d_X12_comes_48 (by decide +kernel) ?_ ?_
    · refine r_aload_n (pc := 60) X d_X12_comes_60 fn0 ?_
      refine s_getI (pc := 61) (ci := 12) X xok12 (by decide +kernel) ob_180 (by decide +kernel) fl_RX12_436 d_X12_comes_61 ?_
      exact t_X12_comes_64 X hr
    · refine r_aload_n (pc := 51) X d_X12_comes_51 fn0 ?_
      refine s_getI (pc := 52) (ci := 12) X xok12 (by decide +kernel) ob_180 (by decide +kernel) fl_RX12_436 d_X12_comes_52 ?_
      refine r_iconst (pc := 55) X d_X12_comes_55 (by decide +kernel) ?_
      refine r_iadd (pc := 56) X d_X12_comes_56 ?_
      refine r_goto (pc := 57) (tgt := 64) X d_X12_comes_57 (by decide +kernel) ?_
      exact t_X12_comes_64 X hr
  · refine r_aload_n (pc := 19) X d_X12_comes_19 fn0 ?_
    refine r_aload_n (pc := 20) X d_X12_comes_20 fn0 ?_
    refine s_getI (pc := 21) (ci := 12) X xok12 (by decide +kernel) ob_180 (by decide +kernel) fl_RX12_433 d_X12_comes_21 ?_
    refine r_if_ne (pc := 24) (tgt := 37) X d_X12_comes_24 (by decide +kernel) ?_ ?_
    · exact t_X12_comes_37 X hr
    · refine r_aload_n (pc := 27) X d_X12_comes_27 fn0 ?_
      refine s_getF (pc := 28) (ci := 12) (k := 46) X xok12 (by decide +kernel) ob_180 trivial ly_180_46 (by decide +kernel) fl_RX12_103 d_X12_comes_28 ?_
      refine r_iload (pc := 31) X d_X12_comes_31 ?_
      refine s_zald (pc := 33) X tn_205 ln_205 d_X12_comes_33 ?_
      refine r_if_eq (pc := 34) (tgt := 41) X d_X12_comes_34 (by decide +kernel) ?_ ?_
      · refine r_iconst (pc := 41) X d_X12_comes_41 (by decide +kernel) ?_
        exact t_X12_comes_42 X hr
      · exact t_X12_comes_37 X hr
def f_X12_comes (a0 : Nat) (a1 : Int32) (a2 : Int32) (a3 : Int32) (a4 : Int32) (A : xH) (P : xP) : Prop := k_X12_comes_0 P [some (.ref a0), some (.int a1), some (.int a2), some (.int a3), some (.int a4), none, none] [] A
set_option maxRecDepth 20000 in
theorem con_X12_comes (l : Launch) : xCon l yX12_comes cX12_comes 7 none 0 0 xN xN 0 xFT xFT (w_RIIII f_X12_comes) :=
  xc_RIIII (plainFor_of_name pn_RX12) (by decide +kernel) (fun p e s m args below meth c g a0 a1 a2 a3 a4 A P h X hr _ => ⟨_, h, t_X12_comes_0 X hr⟩)
/-- a state of the search: by d signs, far as told, nq in the queue -/
def TS (v : xV) (d nq : Nat) (F : Nat → Nat) (A : xH) : Prop := ∃ nl no, plDU A v ∧ xi A 180 51 = 0 ∧ xi A 180 50 = nI d ∧ xi A 180 48 = nI nq ∧ xi A 180 49 = nI nl ∧ xi A 180 47 = nI no ∧ d + 1 ≤ no ∧ (0 < nl → d + 2 ≤ no) ∧ (∀ t, t < 25600 → xi A 201 t = nI (F t) ∧ (F t ≤ d + 1 ∨ F t = 99999) ∧ (F t < 99999 → rcT (stT v) (F t) (nDe t))) ∧ okA A 203 nq ∧ okA A 204 nl ∧ okA A 202 no ∧ ∀ t, t < 25600 → (inA A 203 nq t → F t ≤ d) ∧ (F t = d → inA A 203 nq t) ∧ (inA A 204 nl t → F t ≤ d + 1) ∧ (F t = d + 1 → inA A 204 nl t) ∧ (inA A 202 no t ↔ F t < 99999)
def SCo (c k : Nat) : Prop := (201 ≤ c ∧ c ≤ 204) ∨ (c = 180 ∧ (k = 47 ∨ k = 48 ∨ k = 49))
theorem plDU_fr {S : Nat → Nat → Prop} {A B : xH} {v : xV} (h : plDU A v) (hf : fr S A B) (hs : ∀ c k, S c k → ¬ (195 ≤ c ∧ c ≤ 199) ∧ ¬ (c = 180 ∧ k = 40)) : plDU B v := by
  have e : ∀ c k, ((195 ≤ c ∧ c ≤ 199) ∨ (c = 180 ∧ k = 40)) → xi B c k = xi A c k := fun c k q => fr_i hf fun q2 => by have := hs c k q2; omega
  obtain ⟨h2, h3⟩ := h
  refine ⟨fun z => by rw [e _ _ (by omega)]; exact h2 z, fun z => ?_⟩
  obtain ⟨a, b, c⟩ := h3 z
  exact ⟨lsU_fr a hf (fun c k w => by have := hs c k w; unfold SPu; omega), fun p hp => by rw [e _ _ (by omega)]; exact b p hp, fun p hp y hy ht => by rw [e _ _ (by omega)]; exact c p hp y hy ht⟩
theorem comes_S {A : xH} {P : xP} {v : xV} {d nq a b s t : Nat} {F : Nat → Nat} {g : Bool} (h : TS v d nq F A) (hn : isN (s, a, b)) (ht : t = nEn (s, a, b)) (hr : rcT (stT v) (if g then d + 1 else d) (s, a, b)) (hP : ∀ B F' nq', TS v d nq' F' B → fr SCo A B → nq ≤ nq' → (∀ k, k < nq → xi B 203 k = xi A 203 k) → (∀ x, x < 25600 → F' x = if x = t then min (F t) (if g then d + 1 else d) else F x) → P none B) : f_X12_comes 180 (nI a) (nI b) (nI s) (bI g) A P := by
  have h0 := h
  obtain ⟨nl, no, hD, h51, h50, h48, h49, h47, h1, h2, hF, kq, kl, ko, hs⟩ := h
  have hno := okA_le ko
  have hnq := okA_le kq
  have hnl := okA_le kl
  have n1 : s < 4 := hn.1
  have n2 : a < 80 := hn.2.1
  have n3 : b < 80 := hn.2.2
  have htl := nEn_lt hn
  rw [← ht] at htl
  have htd := nDe_En hn
  rw [← ht] at htd
  have et : 4 * (80 * a + b) + s = t := ht.symm
  have hFt := hF t htl
  have hF9 : F t ≤ 99999 := by rcases hFt.2.1 with w | w <;> omega
  unfold f_X12_comes
  simp (disch := omega) only [k_X12_comes_0, k_X12_comes_37, k_X12_comes_42, k_X12_comes_113, k_X12_comes_172, x_aload, x_dup, x_iadd, x_icmp_gt, x_icmp_ne, x_if_eq, x_if_ne, x_iload, x_imul, x_istore, x_push, x_putZ, x_vret, y_getF, y_getI, y_iald, y_iast, y_putI, xFT, xbool0, xbool1, Nat.reduceAdd, Nat.zero_add, xgl_0, xgl_s, xgl_n, xst_0, xst_1n, xst_1i, xst_1r, xst_1l, xst_s, set_0, set_s, true_and, and_true, xres, xcat_nil, xcat_i, xcat_r, xcat_l, Nat.add_zero, xble0, xble1, xble2, xble3, xble4, xble5, xble6, xble7, xble8, pk_mul, nI_add, nI_1, nI_leI, nI_ltI, nI_eq, n_in, n_cl, z_eq, z_lt, z_le, z_gt, z_ge, z_qe, o_eq, o_lt, o_le, o_gt, o_ge, vp0, vp1, cl0, cl1, n_sub, n_sub1, n_pm1, n_a0, n_0a, ofn, lN0, Nat.reduceLT, Nat.reduceLeDiff, Nat.reduceMul, Nat.reduceSub, Nat.reduceEqDiff, ne_eq, true_implies, false_implies, not_true_eq_false, not_false_eq_true, and_self, and_true, true_and, and_false, false_and, implies_true, if_true, if_false, i00, i10, i01, i11, ob_0, ob_1, tn_2, ln_2, ob_3, tn_4, ln_4, ob_5, tn_6, ln_6, tn_7, ln_7, ob_8, tn_9, ln_9, tn_10, ln_10, tn_11, ln_11, tn_12, ln_12, tn_13, ln_13, tn_14, ln_14, tn_15, ln_15, tn_16, ln_16, tn_17, ln_17, ob_18, tn_19, ln_19, tn_20, ln_20, tn_21, ln_21, tn_22, ln_22, tn_23, ln_23, tn_24, ln_24, tn_25, ln_25, tn_26, ln_26, tn_27, ln_27, ob_28, tn_29, ln_29, tn_30, ln_30, ob_31, tn_32, ln_32, tn_33, ln_33, ob_34, ob_35, tn_36, ln_36, tn_37, ln_37, tn_38, ln_38, ob_39, tn_40, ln_40, tn_41, ln_41, tn_42, ln_42, tn_43, ln_43, tn_44, ln_44, tn_45, ln_45, tn_46, ln_46, tn_47, ln_47, tn_48, ln_48, tn_49, ln_49, tn_50, ln_50, tn_51, ln_51, ob_52, tn_53, ln_53, tn_54, ln_54, tn_55, ln_55, tn_56, ln_56, ob_57, tn_58, ln_58, tn_59, ln_59, tn_60, ln_60, tn_61, ln_61, tn_62, ln_62, tn_63, ln_63, tn_64, ln_64, tn_65, ln_65, ob_66, tn_67, ln_67, tn_68, ln_68, tn_69, ln_69, tn_70, ln_70, tn_71, ln_71, tn_72, ln_72, tn_73, ln_73, ob_74, tn_75, ln_75, tn_76, ln_76, tn_77, ln_77, tn_78, ln_78, tn_79, ln_79, tn_80, ln_80, tn_81, ln_81, tn_82, ln_82, tn_83, ln_83, ob_84, tn_85, ln_85, tn_86, ln_86, tn_87, ln_87, tn_88, ln_88, tn_89, ln_89, tn_90, ln_90, tn_91, ln_91, tn_92, ln_92, tn_93, ln_93, ob_94, tn_95, ln_95, tn_96, ln_96, tn_97, ln_97, tn_98, ln_98, tn_99, ln_99, tn_100, ln_100, tn_101, ln_101, tn_102, ln_102, tn_103, ln_103, ob_104, tn_105, ln_105, tn_106, ln_106, tn_107, ln_107, tn_108, ln_108, tn_109, ln_109, tn_110, ln_110, tn_111, ln_111, tn_112, ln_112, tn_113, ln_113, ob_114, tn_115, ln_115, tn_116, ln_116, tn_117, ln_117, tn_118, ln_118, tn_119, ln_119, tn_120, ln_120, tn_121, ln_121, tn_122, ln_122, tn_123, ln_123, ob_124, tn_125, ln_125, tn_126, ln_126, tn_127, ln_127, tn_128, ln_128, tn_129, ln_129, tn_130, ln_130, tn_131, ln_131, tn_132, ln_132, tn_133, ln_133, ob_134, tn_135, ln_135, tn_136, ln_136, tn_137, ln_137, tn_138, ln_138, tn_139, ln_139, tn_140, ln_140, tn_141, ln_141, tn_142, ln_142, tn_143, ln_143, ob_144, tn_145, ln_145, tn_146, ln_146, tn_147, ln_147, tn_148, ln_148, tn_149, ln_149, tn_150, ln_150, tn_151, ln_151, tn_152, ln_152, tn_153, ln_153, ob_154, tn_155, ln_155, tn_156, ln_156, tn_157, ln_157, tn_158, ln_158, tn_159, ln_159, tn_160, ln_160, tn_161, ln_161, tn_162, ln_162, tn_163, ln_163, ob_164, tn_165, ln_165, tn_166, ln_166, ob_167, tn_168, ln_168, tn_169, ln_169, tn_170, ln_170, tn_171, ln_171, tn_172, ln_172, tn_173, ln_173, tn_174, ln_174, tn_175, ln_175, tn_176, ln_176, ob_177, tn_178, ln_178, tn_179, ln_179, ob_180, tn_181, ln_181, tn_182, ln_182, tn_183, ln_183, tn_184, ln_184, tn_185, ln_185, tn_186, ln_186, tn_187, ln_187, tn_188, ln_188, tn_189, ln_189, tn_190, ln_190, tn_191, ln_191, tn_192, ln_192, tn_193, ln_193, tn_194, ln_194, tn_195, ln_195, tn_196, ln_196, tn_197, ln_197, tn_198, ln_198, tn_199, ln_199, tn_200, ln_200, tn_201, ln_201, tn_202, ln_202, tn_203, ln_203, tn_204, ln_204, tn_205, ln_205, tn_206, ln_206, tn_207, ln_207, tn_208, ln_208, tn_209, ln_209, tn_210, ln_210, tn_211, ln_211, tn_212, ln_212, tn_213, ln_213, tn_214, ln_214, tn_215, ln_215, tn_216, ln_216, tn_217, ln_217, tn_218, ln_218, tn_219, ln_219, tn_220, ln_220, tn_221, ln_221, tn_222, ln_222, tn_223, ln_223, tn_224, ln_224, tn_225, ln_225, tn_226, ln_226, tn_227, ln_227, tn_228, ln_228, tn_229, ln_229, tn_230, ln_230, lx2, lx3, lx4, lx5, lx6, lx7, lx8, lx9, lx10, lx14, lx15, lx16, lx18, lx20, lx24, lx25, lx27, lx32, lx36, lx40, lx41, lx42, lx43, lx45, lx48, lx52, lx54, lx56, lx57, lx58, lx60, lx61, lx62, lx63, lx64, lx66, lx69, lx73, lx80, lx81, lx84, lx85, lx87, lx94, lx96, lx97, lx120, lx128, lx135, lx160, lx162, lx163, lx165, lx200, lx232, lx242, lx243, lx255, lx256, lx320, lx325, lx400, lx405, lx464, lx512, lx600, lx640, lx752, lx900, lx940, lx1000, lx1024, lx1764, lx3360, lx3840, lx5000, lx6400, lx9050, lx9998, lx9999, lx10000, lx25600, lx76800, lx99999, h51, h50, et, bI_t]
  have fin : ∀ y, y = (if g then d + 1 else d) → k_X12_comes_64 P [some (.ref 180), some (.int (nI a)), some (.int (nI b)), some (.int (nI s)), some (.int (bI g)), some (.int (nI t)), none] [.int (nI y)] A := fun y hy => by
    have hyd : y ≤ d + 1 := by rw [hy]; split <;> omega
    have q203 : y < F t → ¬ g = true → ¬ inA A 203 nq t := fun q1 q2 w => by
      have := (hs t htl).1 w
      rw [hy, if_neg q2] at q1
      omega
    have q204 : y < F t → g = true → ¬ inA A 204 nl t := fun q1 q2 w => by
      have := (hs t htl).2.2.1 w
      rw [hy, if_pos q2] at q1
      omega
    have fin2 : ∀ C no', fr (fun c k => c = 202 ∨ (c = 180 ∧ k = 47)) A C → xi C 180 47 = nI no' → okA C 202 no' → (∀ x, x < 25600 → (inA C 202 no' x ↔ F x < 99999 ∨ x = t)) → no ≤ no' → (F t = 99999 → no' = no + 1) → y < F t → k_X12_comes_113 P [some (.ref 180), some (.int (nI a)), some (.int (nI b)), some (.int (nI s)), some (.int (bI g)), some (.int (nI t)), some (.int (nI y))] [] C := fun C no' hC c47 kC oC hle hnew hlt => by
      have c48 : xi C 180 48 = nI nq := by rw [fr_i hC (by omega)]; exact h48
      have c49 : xi C 180 49 = nI nl := by rw [fr_i hC (by omega)]; exact h49
      simp (disch := omega) only [k_X12_comes_0, k_X12_comes_37, k_X12_comes_42, k_X12_comes_64, k_X12_comes_113, k_X12_comes_172, x_aload, x_dup, x_iadd, x_icmp_gt, x_icmp_ne, x_if_eq, x_if_ne, x_iload, x_imul, x_istore, x_push, x_putZ, x_vret, y_getF, y_getI, y_iald, y_iast, y_putI, xFT, xbool0, xbool1, Nat.reduceAdd, Nat.zero_add, xgl_0, xgl_s, xgl_n, xst_0, xst_1n, xst_1i, xst_1r, xst_1l, xst_s, set_0, set_s, true_and, and_true, xres, xcat_nil, xcat_i, xcat_r, xcat_l, Nat.add_zero, xble0, xble1, xble2, xble3, xble4, xble5, xble6, xble7, xble8, pk_mul, nI_add, nI_1, nI_leI, nI_ltI, nI_eq, n_in, n_cl, z_eq, z_lt, z_le, z_gt, z_ge, z_qe, o_eq, o_lt, o_le, o_gt, o_ge, vp0, vp1, cl0, cl1, n_sub, n_sub1, n_pm1, n_a0, n_0a, ofn, lN0, Nat.reduceLT, Nat.reduceLeDiff, Nat.reduceMul, Nat.reduceSub, Nat.reduceEqDiff, ne_eq, true_implies, false_implies, not_true_eq_false, not_false_eq_true, and_self, and_true, true_and, and_false, false_and, implies_true, if_true, if_false, i00, i10, i01, i11, ob_0, ob_1, tn_2, ln_2, ob_3, tn_4, ln_4, ob_5, tn_6, ln_6, tn_7, ln_7, ob_8, tn_9, ln_9, tn_10, ln_10, tn_11, ln_11, tn_12, ln_12, tn_13, ln_13, tn_14, ln_14, tn_15, ln_15, tn_16, ln_16, tn_17, ln_17, ob_18, tn_19, ln_19, tn_20, ln_20, tn_21, ln_21, tn_22, ln_22, tn_23, ln_23, tn_24, ln_24, tn_25, ln_25, tn_26, ln_26, tn_27, ln_27, ob_28, tn_29, ln_29, tn_30, ln_30, ob_31, tn_32, ln_32, tn_33, ln_33, ob_34, ob_35, tn_36, ln_36, tn_37, ln_37, tn_38, ln_38, ob_39, tn_40, ln_40, tn_41, ln_41, tn_42, ln_42, tn_43, ln_43, tn_44, ln_44, tn_45, ln_45, tn_46, ln_46, tn_47, ln_47, tn_48, ln_48, tn_49, ln_49, tn_50, ln_50, tn_51, ln_51, ob_52, tn_53, ln_53, tn_54, ln_54, tn_55, ln_55, tn_56, ln_56, ob_57, tn_58, ln_58, tn_59, ln_59, tn_60, ln_60, tn_61, ln_61, tn_62, ln_62, tn_63, ln_63, tn_64, ln_64, tn_65, ln_65, ob_66, tn_67, ln_67, tn_68, ln_68, tn_69, ln_69, tn_70, ln_70, tn_71, ln_71, tn_72, ln_72, tn_73, ln_73, ob_74, tn_75, ln_75, tn_76, ln_76, tn_77, ln_77, tn_78, ln_78, tn_79, ln_79, tn_80, ln_80, tn_81, ln_81, tn_82, ln_82, tn_83, ln_83, ob_84, tn_85, ln_85, tn_86, ln_86, tn_87, ln_87, tn_88, ln_88, tn_89, ln_89, tn_90, ln_90, tn_91, ln_91, tn_92, ln_92, tn_93, ln_93, ob_94, tn_95, ln_95, tn_96, ln_96, tn_97, ln_97, tn_98, ln_98, tn_99, ln_99, tn_100, ln_100, tn_101, ln_101, tn_102, ln_102, tn_103, ln_103, ob_104, tn_105, ln_105, tn_106, ln_106, tn_107, ln_107, tn_108, ln_108, tn_109, ln_109, tn_110, ln_110, tn_111, ln_111, tn_112, ln_112, tn_113, ln_113, ob_114, tn_115, ln_115, tn_116, ln_116, tn_117, ln_117, tn_118, ln_118, tn_119, ln_119, tn_120, ln_120, tn_121, ln_121, tn_122, ln_122, tn_123, ln_123, ob_124, tn_125, ln_125, tn_126, ln_126, tn_127, ln_127, tn_128, ln_128, tn_129, ln_129, tn_130, ln_130, tn_131, ln_131, tn_132, ln_132, tn_133, ln_133, ob_134, tn_135, ln_135, tn_136, ln_136, tn_137, ln_137, tn_138, ln_138, tn_139, ln_139, tn_140, ln_140, tn_141, ln_141, tn_142, ln_142, tn_143, ln_143, ob_144, tn_145, ln_145, tn_146, ln_146, tn_147, ln_147, tn_148, ln_148, tn_149, ln_149, tn_150, ln_150, tn_151, ln_151, tn_152, ln_152, tn_153, ln_153, ob_154, tn_155, ln_155, tn_156, ln_156, tn_157, ln_157, tn_158, ln_158, tn_159, ln_159, tn_160, ln_160, tn_161, ln_161, tn_162, ln_162, tn_163, ln_163, ob_164, tn_165, ln_165, tn_166, ln_166, ob_167, tn_168, ln_168, tn_169, ln_169, tn_170, ln_170, tn_171, ln_171, tn_172, ln_172, tn_173, ln_173, tn_174, ln_174, tn_175, ln_175, tn_176, ln_176, ob_177, tn_178, ln_178, tn_179, ln_179, ob_180, tn_181, ln_181, tn_182, ln_182, tn_183, ln_183, tn_184, ln_184, tn_185, ln_185, tn_186, ln_186, tn_187, ln_187, tn_188, ln_188, tn_189, ln_189, tn_190, ln_190, tn_191, ln_191, tn_192, ln_192, tn_193, ln_193, tn_194, ln_194, tn_195, ln_195, tn_196, ln_196, tn_197, ln_197, tn_198, ln_198, tn_199, ln_199, tn_200, ln_200, tn_201, ln_201, tn_202, ln_202, tn_203, ln_203, tn_204, ln_204, tn_205, ln_205, tn_206, ln_206, tn_207, ln_207, tn_208, ln_208, tn_209, ln_209, tn_210, ln_210, tn_211, ln_211, tn_212, ln_212, tn_213, ln_213, tn_214, ln_214, tn_215, ln_215, tn_216, ln_216, tn_217, ln_217, tn_218, ln_218, tn_219, ln_219, tn_220, ln_220, tn_221, ln_221, tn_222, ln_222, tn_223, ln_223, tn_224, ln_224, tn_225, ln_225, tn_226, ln_226, tn_227, ln_227, tn_228, ln_228, tn_229, ln_229, tn_230, ln_230, lx2, lx3, lx4, lx5, lx6, lx7, lx8, lx9, lx10, lx14, lx15, lx16, lx18, lx20, lx24, lx25, lx27, lx32, lx36, lx40, lx41, lx42, lx43, lx45, lx48, lx52, lx54, lx56, lx57, lx58, lx60, lx61, lx62, lx63, lx64, lx66, lx69, lx73, lx80, lx81, lx84, lx85, lx87, lx94, lx96, lx97, lx120, lx128, lx135, lx160, lx162, lx163, lx165, lx200, lx232, lx242, lx243, lx255, lx256, lx320, lx325, lx400, lx405, lx464, lx512, lx600, lx640, lx752, lx900, lx940, lx1000, lx1024, lx1764, lx3360, lx3840, lx5000, lx6400, lx9050, lx9998, lx9999, lx10000, lx25600, lx76800, lx99999, si_ne, si_eq, sl_ne, sl_eq, xl_si, xi_sl, sA_ne, sA_eq, xl_sA, bI_t, c48, c49]
      have fr1 : fr SCo A C := fr_mono hC (by unfold SCo; omega)
      have hmin : min (F t) y = y := by omega
      refine ⟨htl, fun q => ⟨okA_lt kq (q203 hlt (by rw [q]; decide)) htl, ?_⟩, fun q => ⟨okA_lt kl (q204 hlt (by cases g; exact absurd rfl q; rfl)) htl, ?_⟩⟩
      · have q' := q
        have hyd2 : y = d := by rw [hy, q']; rfl
        have hB : fr SCo A (xsi (xsi (xsi C 201 t (nI y)) 203 nq (nI t)) 180 48 (nI (nq + 1))) := fr_si (fr_si (fr_si fr1 (by unfold SCo; omega)) (by unfold SCo; omega)) (by unfold SCo; omega)
        have ec : ∀ k, k < nq → xi (xsi (xsi (xsi C 201 t (nI y)) 203 nq (nI t)) 180 48 (nI (nq + 1))) 203 k = xi A 203 k := fun k hk => by
          rw [si_ne (by omega), si_ne (by omega), si_ne (by omega), fr_i hC (by omega)]
        have ecn : xi (xsi (xsi (xsi C 201 t (nI y)) 203 nq (nI t)) 180 48 (nI (nq + 1))) 203 nq = nI t := by
          rw [si_ne (by omega), si_eq]
        have eo : ∀ k, k < nl → xi (xsi (xsi (xsi C 201 t (nI y)) 203 nq (nI t)) 180 48 (nI (nq + 1))) 204 k = xi A 204 k := fun k hk => by
          rw [si_ne (by omega), si_ne (by omega), si_ne (by omega), fr_i hC (by omega)]
        have e202 : ∀ k, k < no' → xi (xsi (xsi (xsi C 201 t (nI y)) 203 nq (nI t)) 180 48 (nI (nq + 1))) 202 k = xi C 202 k := fun k hk => by
          rw [si_ne (by omega), si_ne (by omega), si_ne (by omega)]
        have e201 : ∀ x, xi (xsi (xsi (xsi C 201 t (nI y)) 203 nq (nI t)) 180 48 (nI (nq + 1))) 201 x = if x = t then nI y else xi A 201 x := fun x => by
          rw [si_ne (by omega), si_ne (by omega)]
          by_cases e : x = t
          · subst e; rw [si_eq, if_pos rfl]
          · rw [si_ne (by omega), if_neg e, fr_i hC (by omega)]
        have ek : xi (xsi (xsi (xsi C 201 t (nI y)) 203 nq (nI t)) 180 48 (nI (nq + 1))) 180 48 = nI (nq + 1) := si_eq
        have eok : xi (xsi (xsi (xsi C 201 t (nI y)) 203 nq (nI t)) 180 48 (nI (nq + 1))) 180 49 = nI nl := by
          rw [si_ne (by omega), si_ne (by omega), si_ne (by omega)]; exact c49
        have e47 : xi (xsi (xsi (xsi C 201 t (nI y)) 203 nq (nI t)) 180 48 (nI (nq + 1))) 180 47 = nI no' := by
          rw [si_ne (by omega), si_ne (by omega), si_ne (by omega)]; exact c47
        generalize xsi (xsi (xsi C 201 t (nI y)) 203 nq (nI t)) 180 48 (nI (nq + 1)) = B at *
        have ko2 := okA_push kq (q203 hlt (by rw [q']; decide)) htl ec ecn
        have ko3 := okA_congr kl eo
        have Fx : ∀ x, x ≠ t → (fun x => if x = t then y else F x) x = F x := fun x e => if_neg e
        have Ft : (fun x => if x = t then y else F x) t = y := if_pos rfl
        refine hP B (fun x => if x = t then y else F x) (nq + 1) ⟨nl, no', plDU_fr hD hB (by unfold SCo; omega), (fr_i hB (by unfold SCo; omega)).trans h51, (fr_i hB (by unfold SCo; omega)).trans h50, ek, eok, e47, by omega, fun w => by have := h2 w; omega, fun x hx => ?_, ko2, ko3, okA_congr kC e202, fun x hx => ?_⟩ hB (by omega) ec fun x hx => ?_
        · rw [e201 x]
          by_cases e : x = t
          · subst e
            rw [Ft, if_pos rfl]
            exact ⟨rfl, Or.inl hyd, fun _ => by rw [htd, hy]; exact hr⟩
          · rw [Fx x e, if_neg e]
            exact hF x hx
        · rw [inA_congr e202, oC x hx, inA_congr eo, inA_push htl hx ec ecn]
          have hx2 := hs x hx
          by_cases e : x = t
          · subst e
            rw [Ft]
            exact ⟨fun _ => by omega, fun _ => Or.inr rfl, fun _ => by omega, fun w => absurd w (by omega), fun _ => by omega, fun _ => Or.inr rfl⟩
          · rw [Fx x e]
            exact ⟨fun w => w.elim hx2.1 fun w => absurd w e, fun w => Or.inl (hx2.2.1 w), hx2.2.2.1, hx2.2.2.2.1, fun w => w.elim id fun w => absurd w e, Or.inl⟩
        · by_cases e : x = t
          · subst e; rw [if_pos rfl, if_pos rfl, ← hy, hmin]
          · rw [if_neg e, if_neg e]
      · have q' : g = true := by cases g; exact absurd rfl q; rfl
        have hyd2 : y = d + 1 := by rw [hy, q']; rfl
        have hB : fr SCo A (xsi (xsi (xsi C 201 t (nI y)) 204 nl (nI t)) 180 49 (nI (nl + 1))) := fr_si (fr_si (fr_si fr1 (by unfold SCo; omega)) (by unfold SCo; omega)) (by unfold SCo; omega)
        have ec : ∀ k, k < nl → xi (xsi (xsi (xsi C 201 t (nI y)) 204 nl (nI t)) 180 49 (nI (nl + 1))) 204 k = xi A 204 k := fun k hk => by
          rw [si_ne (by omega), si_ne (by omega), si_ne (by omega), fr_i hC (by omega)]
        have ecn : xi (xsi (xsi (xsi C 201 t (nI y)) 204 nl (nI t)) 180 49 (nI (nl + 1))) 204 nl = nI t := by
          rw [si_ne (by omega), si_eq]
        have eo : ∀ k, k < nq → xi (xsi (xsi (xsi C 201 t (nI y)) 204 nl (nI t)) 180 49 (nI (nl + 1))) 203 k = xi A 203 k := fun k hk => by
          rw [si_ne (by omega), si_ne (by omega), si_ne (by omega), fr_i hC (by omega)]
        have e202 : ∀ k, k < no' → xi (xsi (xsi (xsi C 201 t (nI y)) 204 nl (nI t)) 180 49 (nI (nl + 1))) 202 k = xi C 202 k := fun k hk => by
          rw [si_ne (by omega), si_ne (by omega), si_ne (by omega)]
        have e201 : ∀ x, xi (xsi (xsi (xsi C 201 t (nI y)) 204 nl (nI t)) 180 49 (nI (nl + 1))) 201 x = if x = t then nI y else xi A 201 x := fun x => by
          rw [si_ne (by omega), si_ne (by omega)]
          by_cases e : x = t
          · subst e; rw [si_eq, if_pos rfl]
          · rw [si_ne (by omega), if_neg e, fr_i hC (by omega)]
        have ek : xi (xsi (xsi (xsi C 201 t (nI y)) 204 nl (nI t)) 180 49 (nI (nl + 1))) 180 49 = nI (nl + 1) := si_eq
        have eok : xi (xsi (xsi (xsi C 201 t (nI y)) 204 nl (nI t)) 180 49 (nI (nl + 1))) 180 48 = nI nq := by
          rw [si_ne (by omega), si_ne (by omega), si_ne (by omega)]; exact c48
        have e47 : xi (xsi (xsi (xsi C 201 t (nI y)) 204 nl (nI t)) 180 49 (nI (nl + 1))) 180 47 = nI no' := by
          rw [si_ne (by omega), si_ne (by omega), si_ne (by omega)]; exact c47
        generalize xsi (xsi (xsi C 201 t (nI y)) 204 nl (nI t)) 180 49 (nI (nl + 1)) = B at *
        have ko2 := okA_push kl (q204 hlt q') htl ec ecn
        have ko3 := okA_congr kq eo
        have Fx : ∀ x, x ≠ t → (fun x => if x = t then y else F x) x = F x := fun x e => if_neg e
        have Ft : (fun x => if x = t then y else F x) t = y := if_pos rfl
        refine hP B (fun x => if x = t then y else F x) nq ⟨nl + 1, no', plDU_fr hD hB (by unfold SCo; omega), (fr_i hB (by unfold SCo; omega)).trans h51, (fr_i hB (by unfold SCo; omega)).trans h50, eok, ek, e47, by omega, fun w => by have := hFt.2.1; have := hnew; rcases hFt.2.1 with w2 | w2; omega; have := hnew w2; omega, fun x hx => ?_, ko3, ko2, okA_congr kC e202, fun x hx => ?_⟩ hB (by omega) eo fun x hx => ?_
        · rw [e201 x]
          by_cases e : x = t
          · subst e
            rw [Ft, if_pos rfl]
            exact ⟨rfl, Or.inl hyd, fun _ => by rw [htd, hy]; exact hr⟩
          · rw [Fx x e, if_neg e]
            exact hF x hx
        · rw [inA_congr e202, oC x hx, inA_congr eo, inA_push htl hx ec ecn]
          have hx2 := hs x hx
          by_cases e : x = t
          · subst e
            rw [Ft]
            exact ⟨fun w => by have := hx2.1 w; omega, fun w => absurd w (by omega), fun _ => by omega, fun _ => Or.inr rfl, fun _ => by omega, fun _ => Or.inr rfl⟩
          · rw [Fx x e]
            exact ⟨hx2.1, hx2.2.1, fun w => w.elim hx2.2.2.1 fun w => absurd w e, fun w => Or.inl (hx2.2.2.2.1 w), fun w => w.elim id fun w => absurd w e, Or.inl⟩
        · by_cases e : x = t
          · subst e; rw [if_pos rfl, if_pos rfl, ← hy, hmin]
          · rw [if_neg e, if_neg e]
    simp (disch := omega) only [k_X12_comes_0, k_X12_comes_37, k_X12_comes_42, k_X12_comes_64, k_X12_comes_172, x_aload, x_dup, x_iadd, x_icmp_gt, x_icmp_ne, x_if_eq, x_if_ne, x_iload, x_imul, x_istore, x_push, x_putZ, x_vret, y_getF, y_getI, y_iald, y_iast, y_putI, xFT, xbool0, xbool1, Nat.reduceAdd, Nat.zero_add, xgl_0, xgl_s, xgl_n, xst_0, xst_1n, xst_1i, xst_1r, xst_1l, xst_s, set_0, set_s, true_and, and_true, xres, xcat_nil, xcat_i, xcat_r, xcat_l, Nat.add_zero, xble0, xble1, xble2, xble3, xble4, xble5, xble6, xble7, xble8, pk_mul, nI_add, nI_1, nI_leI, nI_ltI, nI_eq, n_in, n_cl, z_eq, z_lt, z_le, z_gt, z_ge, z_qe, o_eq, o_lt, o_le, o_gt, o_ge, vp0, vp1, cl0, cl1, n_sub, n_sub1, n_pm1, n_a0, n_0a, ofn, lN0, Nat.reduceLT, Nat.reduceLeDiff, Nat.reduceMul, Nat.reduceSub, Nat.reduceEqDiff, ne_eq, true_implies, false_implies, not_true_eq_false, not_false_eq_true, and_self, and_true, true_and, and_false, false_and, implies_true, if_true, if_false, i00, i10, i01, i11, ob_0, ob_1, tn_2, ln_2, ob_3, tn_4, ln_4, ob_5, tn_6, ln_6, tn_7, ln_7, ob_8, tn_9, ln_9, tn_10, ln_10, tn_11, ln_11, tn_12, ln_12, tn_13, ln_13, tn_14, ln_14, tn_15, ln_15, tn_16, ln_16, tn_17, ln_17, ob_18, tn_19, ln_19, tn_20, ln_20, tn_21, ln_21, tn_22, ln_22, tn_23, ln_23, tn_24, ln_24, tn_25, ln_25, tn_26, ln_26, tn_27, ln_27, ob_28, tn_29, ln_29, tn_30, ln_30, ob_31, tn_32, ln_32, tn_33, ln_33, ob_34, ob_35, tn_36, ln_36, tn_37, ln_37, tn_38, ln_38, ob_39, tn_40, ln_40, tn_41, ln_41, tn_42, ln_42, tn_43, ln_43, tn_44, ln_44, tn_45, ln_45, tn_46, ln_46, tn_47, ln_47, tn_48, ln_48, tn_49, ln_49, tn_50, ln_50, tn_51, ln_51, ob_52, tn_53, ln_53, tn_54, ln_54, tn_55, ln_55, tn_56, ln_56, ob_57, tn_58, ln_58, tn_59, ln_59, tn_60, ln_60, tn_61, ln_61, tn_62, ln_62, tn_63, ln_63, tn_64, ln_64, tn_65, ln_65, ob_66, tn_67, ln_67, tn_68, ln_68, tn_69, ln_69, tn_70, ln_70, tn_71, ln_71, tn_72, ln_72, tn_73, ln_73, ob_74, tn_75, ln_75, tn_76, ln_76, tn_77, ln_77, tn_78, ln_78, tn_79, ln_79, tn_80, ln_80, tn_81, ln_81, tn_82, ln_82, tn_83, ln_83, ob_84, tn_85, ln_85, tn_86, ln_86, tn_87, ln_87, tn_88, ln_88, tn_89, ln_89, tn_90, ln_90, tn_91, ln_91, tn_92, ln_92, tn_93, ln_93, ob_94, tn_95, ln_95, tn_96, ln_96, tn_97, ln_97, tn_98, ln_98, tn_99, ln_99, tn_100, ln_100, tn_101, ln_101, tn_102, ln_102, tn_103, ln_103, ob_104, tn_105, ln_105, tn_106, ln_106, tn_107, ln_107, tn_108, ln_108, tn_109, ln_109, tn_110, ln_110, tn_111, ln_111, tn_112, ln_112, tn_113, ln_113, ob_114, tn_115, ln_115, tn_116, ln_116, tn_117, ln_117, tn_118, ln_118, tn_119, ln_119, tn_120, ln_120, tn_121, ln_121, tn_122, ln_122, tn_123, ln_123, ob_124, tn_125, ln_125, tn_126, ln_126, tn_127, ln_127, tn_128, ln_128, tn_129, ln_129, tn_130, ln_130, tn_131, ln_131, tn_132, ln_132, tn_133, ln_133, ob_134, tn_135, ln_135, tn_136, ln_136, tn_137, ln_137, tn_138, ln_138, tn_139, ln_139, tn_140, ln_140, tn_141, ln_141, tn_142, ln_142, tn_143, ln_143, ob_144, tn_145, ln_145, tn_146, ln_146, tn_147, ln_147, tn_148, ln_148, tn_149, ln_149, tn_150, ln_150, tn_151, ln_151, tn_152, ln_152, tn_153, ln_153, ob_154, tn_155, ln_155, tn_156, ln_156, tn_157, ln_157, tn_158, ln_158, tn_159, ln_159, tn_160, ln_160, tn_161, ln_161, tn_162, ln_162, tn_163, ln_163, ob_164, tn_165, ln_165, tn_166, ln_166, ob_167, tn_168, ln_168, tn_169, ln_169, tn_170, ln_170, tn_171, ln_171, tn_172, ln_172, tn_173, ln_173, tn_174, ln_174, tn_175, ln_175, tn_176, ln_176, ob_177, tn_178, ln_178, tn_179, ln_179, ob_180, tn_181, ln_181, tn_182, ln_182, tn_183, ln_183, tn_184, ln_184, tn_185, ln_185, tn_186, ln_186, tn_187, ln_187, tn_188, ln_188, tn_189, ln_189, tn_190, ln_190, tn_191, ln_191, tn_192, ln_192, tn_193, ln_193, tn_194, ln_194, tn_195, ln_195, tn_196, ln_196, tn_197, ln_197, tn_198, ln_198, tn_199, ln_199, tn_200, ln_200, tn_201, ln_201, tn_202, ln_202, tn_203, ln_203, tn_204, ln_204, tn_205, ln_205, tn_206, ln_206, tn_207, ln_207, tn_208, ln_208, tn_209, ln_209, tn_210, ln_210, tn_211, ln_211, tn_212, ln_212, tn_213, ln_213, tn_214, ln_214, tn_215, ln_215, tn_216, ln_216, tn_217, ln_217, tn_218, ln_218, tn_219, ln_219, tn_220, ln_220, tn_221, ln_221, tn_222, ln_222, tn_223, ln_223, tn_224, ln_224, tn_225, ln_225, tn_226, ln_226, tn_227, ln_227, tn_228, ln_228, tn_229, ln_229, tn_230, ln_230, lx2, lx3, lx4, lx5, lx6, lx7, lx8, lx9, lx10, lx14, lx15, lx16, lx18, lx20, lx24, lx25, lx27, lx32, lx36, lx40, lx41, lx42, lx43, lx45, lx48, lx52, lx54, lx56, lx57, lx58, lx60, lx61, lx62, lx63, lx64, lx66, lx69, lx73, lx80, lx81, lx84, lx85, lx87, lx94, lx96, lx97, lx120, lx128, lx135, lx160, lx162, lx163, lx165, lx200, lx232, lx242, lx243, lx255, lx256, lx320, lx325, lx400, lx405, lx464, lx512, lx600, lx640, lx752, lx900, lx940, lx1000, lx1024, lx1764, lx3360, lx3840, lx5000, lx6400, lx9050, lx9998, lx9999, lx10000, lx25600, lx76800, lx99999, si_ne, si_eq, sl_ne, sl_eq, xl_si, xi_sl, sA_ne, sA_eq, xl_sA, hFt.1, h47]
    refine ⟨htl, fun hlt => ⟨htl, fun q => ?_, fun q => ?_⟩, fun hlt => ?_⟩
    · refine fin2 A no fr_rf h47 ko (fun x hx => ?_) (Nat.le_refl _) (fun w => absurd w q) hlt
      rw [(hs x hx).2.2.2.2]
      constructor
      · exact Or.inl
      · rintro (w | rfl)
        · exact w
        · omega
    · have hnt : ¬ inA A 202 no t := fun w => by
        have := (hs t htl).2.2.2.2.mp w
        omega
      have e202 : ∀ k, k < no → xi (xsi (xsi A 202 no (nI t)) 180 47 (nI (no + 1))) 202 k = xi A 202 k := fun k hk => by rw [si_ne (by omega), si_ne (by omega)]
      have e202n : xi (xsi (xsi A 202 no (nI t)) 180 47 (nI (no + 1))) 202 no = nI t := by rw [si_ne (by omega), si_eq]
      refine ⟨okA_lt ko hnt htl, fin2 _ (no + 1) (fr_si (fr_si fr_rf (by omega)) (by omega)) si_eq (okA_push ko hnt htl e202 e202n) (fun x hx => ?_) (by omega) (fun _ => rfl) hlt⟩
      rw [inA_push htl hx e202 e202n, (hs x hx).2.2.2.2]
    · refine hP A F nq h0 fr_rf (Nat.le_refl _) (fun _ _ => rfl) fun x hx => ?_
      by_cases e : x = t
      · subst e; rw [if_pos rfl, ← hy]; omega
      · rw [if_neg e]
  refine ⟨fun z => fin d (by rw [z]; rfl), fun z => fin (d + 1) ?_⟩
  cases g
  · exact absurd rfl z
  · rfl
/-- what comes may be used for: a search, or a question -/
def cmW (v : xV) (W : (Nat → Bool → Prop) → xH → Prop) (al : Nat → Bool → Prop) : Prop := (∀ V A, W V A → plDU A v) ∧ (∀ V U A, W V A → (∀ t g, V t g ↔ U t g) → W U A) ∧ ∀ V A t g P a b s, W V A → isN (s, a, b) → t = nEn (s, a, b) → al t g → (∀ B, W (fun x h => V x h ∨ (x = t ∧ h = g)) B → P none B) → f_X12_comes 180 (nI a) (nI b) (nI s) (bI g) A P
def Wse (v : xV) (d nq0 : Nat) (F0 : Nat → Nat) (A0 : xH) (V : Nat → Bool → Prop) (A : xH) : Prop := ∃ F nq, TS v d nq F A ∧ fr SCo A0 A ∧ nq0 ≤ nq ∧ (∀ k, k < nq0 → xi A 203 k = xi A0 203 k) ∧ (∀ t, t < 25600 → F t ≤ F0 t ∧ (F t = F0 t ∨ d ≤ F t)) ∧ ∀ t g, t < 25600 → V t g → F t ≤ (if g then d + 1 else d)
theorem cm_se {v : xV} {d nq0 : Nat} {F0 : Nat → Nat} {A0 : xH} : cmW v (Wse v d nq0 F0 A0) (fun t g => rcT (stT v) (if g then d + 1 else d) (nDe t)) := by
  refine ⟨?_, ?_, ?_⟩
  · rintro V A ⟨F, nq, ⟨nl, no, hD, -⟩, -⟩
    exact hD
  · rintro V U A ⟨F, nq, h1, h2, h3, h4, h5, h6⟩ e
    exact ⟨F, nq, h1, h2, h3, h4, h5, fun t g ht w => h6 t g ht ((e t g).mpr w)⟩
  · rintro V A t g P a b s ⟨F, nq, h1, h2, h3, h4, h5, h6⟩ hn ht hal hP
    have htl := nEn_lt hn
    rw [← ht] at htl
    have htd := nDe_En hn
    rw [← ht] at htd
    rw [htd] at hal
    refine comes_S h1 hn ht hal fun B F' nq' k1 k2 k3 k4 k5 => hP B ⟨F', nq', k1, fr_tr h2 k2, by omega, fun k hk => (k4 k (by omega)).trans (h4 k hk), fun x hx => ?_, fun x g' hx w => ?_⟩
    · have := h5 x hx
      rw [k5 x hx]
      by_cases e : x = t
      · subst e
        rw [if_pos rfl]
        have : d ≤ (if g then d + 1 else d) := by split <;> omega
        omega
      · rw [if_neg e]; exact this
    · rw [k5 x hx]
      rcases w with w | ⟨rfl, rfl⟩
      · have := h6 x g' hx w
        split
        · rename_i e; subst e; omega
        · exact this
      · rw [if_pos rfl]; omega
def Was (v : xV) (M : Nat → Bool) (A0 : xH) (V : Nat → Bool → Prop) (A : xH) : Prop := plDU A v ∧ xi A 180 51 = 1 ∧ fr (fun c k => c = 180 ∧ k = 52) A0 A ∧ (∀ t, t < 25600 → xi A 205 t = bI (M t)) ∧ xi A 180 52 = bI (bt (∃ t g, V t g ∧ t < 25600 ∧ M t = true))
theorem cm_as {v : xV} {M : Nat → Bool} {A0 : xH} : cmW v (Was v M A0) (fun _ _ => True) := by
  refine ⟨fun V A h => h.1, ?_, ?_⟩
  · rintro V U A ⟨h1, h2, h3, h4, h5⟩ e
    refine ⟨h1, h2, h3, h4, ?_⟩
    rw [h5, bt_congr]
    constructor
    · rintro ⟨t, g, a, b⟩; exact ⟨t, g, (e t g).mp a, b⟩
    · rintro ⟨t, g, a, b⟩; exact ⟨t, g, (e t g).mpr a, b⟩
  · rintro V A t g P a b s ⟨h1, h2, h3, h4, h5⟩ hn ht - hP
    have htl := nEn_lt hn
    rw [← ht] at htl
    have n1 : s < 4 := hn.1
    have n2 : a < 80 := hn.2.1
    have n3 : b < 80 := hn.2.2
    have et : 4 * (80 * a + b) + s = t := ht.symm
    have fin : ∀ b : Bool, (b = true ↔ ∃ x h, (V x h ∨ (x = t ∧ h = g)) ∧ x < 25600 ∧ M x = true) → P none (xsi A 180 52 (bI b)) := fun b hb => by
      refine hP _ ⟨plDU_fr h1 (fr_si fr_rf (S := fun c k => c = 180 ∧ k = 52) (by omega)) (by omega), by rw [si_ne (by omega)]; exact h2, fr_si h3 (by omega), fun x hx => by rw [si_ne (by omega)]; exact h4 x hx, ?_⟩
      rw [si_eq]
      congr 1
      exact b_ext (hb.trans bt_iff.symm)
    have x1 : xi A 180 51 = nI 1 := h2
    unfold f_X12_comes
    simp (disch := omega) only [k_X12_comes_0, k_X12_comes_37, k_X12_comes_42, k_X12_comes_64, k_X12_comes_113, k_X12_comes_172, x_aload, x_dup, x_iadd, x_icmp_gt, x_icmp_ne, x_if_eq, x_if_ne, x_iload, x_imul, x_istore, x_push, x_putZ, x_vret, y_getF, y_getI, y_iald, y_iast, y_putI, xFT, xbool0, xbool1, Nat.reduceAdd, Nat.zero_add, xgl_0, xgl_s, xgl_n, xst_0, xst_1n, xst_1i, xst_1r, xst_1l, xst_s, set_0, set_s, true_and, and_true, xres, xcat_nil, xcat_i, xcat_r, xcat_l, Nat.add_zero, xble0, xble1, xble2, xble3, xble4, xble5, xble6, xble7, xble8, pk_mul, nI_add, nI_1, nI_leI, nI_ltI, nI_eq, n_in, n_cl, z_eq, z_lt, z_le, z_gt, z_ge, z_qe, o_eq, o_lt, o_le, o_gt, o_ge, vp0, vp1, cl0, cl1, n_sub, n_sub1, n_pm1, n_a0, n_0a, ofn, lN0, Nat.reduceLT, Nat.reduceLeDiff, Nat.reduceMul, Nat.reduceSub, Nat.reduceEqDiff, ne_eq, true_implies, false_implies, not_true_eq_false, not_false_eq_true, and_self, and_true, true_and, and_false, false_and, implies_true, if_true, if_false, i00, i10, i01, i11, ob_0, ob_1, tn_2, ln_2, ob_3, tn_4, ln_4, ob_5, tn_6, ln_6, tn_7, ln_7, ob_8, tn_9, ln_9, tn_10, ln_10, tn_11, ln_11, tn_12, ln_12, tn_13, ln_13, tn_14, ln_14, tn_15, ln_15, tn_16, ln_16, tn_17, ln_17, ob_18, tn_19, ln_19, tn_20, ln_20, tn_21, ln_21, tn_22, ln_22, tn_23, ln_23, tn_24, ln_24, tn_25, ln_25, tn_26, ln_26, tn_27, ln_27, ob_28, tn_29, ln_29, tn_30, ln_30, ob_31, tn_32, ln_32, tn_33, ln_33, ob_34, ob_35, tn_36, ln_36, tn_37, ln_37, tn_38, ln_38, ob_39, tn_40, ln_40, tn_41, ln_41, tn_42, ln_42, tn_43, ln_43, tn_44, ln_44, tn_45, ln_45, tn_46, ln_46, tn_47, ln_47, tn_48, ln_48, tn_49, ln_49, tn_50, ln_50, tn_51, ln_51, ob_52, tn_53, ln_53, tn_54, ln_54, tn_55, ln_55, tn_56, ln_56, ob_57, tn_58, ln_58, tn_59, ln_59, tn_60, ln_60, tn_61, ln_61, tn_62, ln_62, tn_63, ln_63, tn_64, ln_64, tn_65, ln_65, ob_66, tn_67, ln_67, tn_68, ln_68, tn_69, ln_69, tn_70, ln_70, tn_71, ln_71, tn_72, ln_72, tn_73, ln_73, ob_74, tn_75, ln_75, tn_76, ln_76, tn_77, ln_77, tn_78, ln_78, tn_79, ln_79, tn_80, ln_80, tn_81, ln_81, tn_82, ln_82, tn_83, ln_83, ob_84, tn_85, ln_85, tn_86, ln_86, tn_87, ln_87, tn_88, ln_88, tn_89, ln_89, tn_90, ln_90, tn_91, ln_91, tn_92, ln_92, tn_93, ln_93, ob_94, tn_95, ln_95, tn_96, ln_96, tn_97, ln_97, tn_98, ln_98, tn_99, ln_99, tn_100, ln_100, tn_101, ln_101, tn_102, ln_102, tn_103, ln_103, ob_104, tn_105, ln_105, tn_106, ln_106, tn_107, ln_107, tn_108, ln_108, tn_109, ln_109, tn_110, ln_110, tn_111, ln_111, tn_112, ln_112, tn_113, ln_113, ob_114, tn_115, ln_115, tn_116, ln_116, tn_117, ln_117, tn_118, ln_118, tn_119, ln_119, tn_120, ln_120, tn_121, ln_121, tn_122, ln_122, tn_123, ln_123, ob_124, tn_125, ln_125, tn_126, ln_126, tn_127, ln_127, tn_128, ln_128, tn_129, ln_129, tn_130, ln_130, tn_131, ln_131, tn_132, ln_132, tn_133, ln_133, ob_134, tn_135, ln_135, tn_136, ln_136, tn_137, ln_137, tn_138, ln_138, tn_139, ln_139, tn_140, ln_140, tn_141, ln_141, tn_142, ln_142, tn_143, ln_143, ob_144, tn_145, ln_145, tn_146, ln_146, tn_147, ln_147, tn_148, ln_148, tn_149, ln_149, tn_150, ln_150, tn_151, ln_151, tn_152, ln_152, tn_153, ln_153, ob_154, tn_155, ln_155, tn_156, ln_156, tn_157, ln_157, tn_158, ln_158, tn_159, ln_159, tn_160, ln_160, tn_161, ln_161, tn_162, ln_162, tn_163, ln_163, ob_164, tn_165, ln_165, tn_166, ln_166, ob_167, tn_168, ln_168, tn_169, ln_169, tn_170, ln_170, tn_171, ln_171, tn_172, ln_172, tn_173, ln_173, tn_174, ln_174, tn_175, ln_175, tn_176, ln_176, ob_177, tn_178, ln_178, tn_179, ln_179, ob_180, tn_181, ln_181, tn_182, ln_182, tn_183, ln_183, tn_184, ln_184, tn_185, ln_185, tn_186, ln_186, tn_187, ln_187, tn_188, ln_188, tn_189, ln_189, tn_190, ln_190, tn_191, ln_191, tn_192, ln_192, tn_193, ln_193, tn_194, ln_194, tn_195, ln_195, tn_196, ln_196, tn_197, ln_197, tn_198, ln_198, tn_199, ln_199, tn_200, ln_200, tn_201, ln_201, tn_202, ln_202, tn_203, ln_203, tn_204, ln_204, tn_205, ln_205, tn_206, ln_206, tn_207, ln_207, tn_208, ln_208, tn_209, ln_209, tn_210, ln_210, tn_211, ln_211, tn_212, ln_212, tn_213, ln_213, tn_214, ln_214, tn_215, ln_215, tn_216, ln_216, tn_217, ln_217, tn_218, ln_218, tn_219, ln_219, tn_220, ln_220, tn_221, ln_221, tn_222, ln_222, tn_223, ln_223, tn_224, ln_224, tn_225, ln_225, tn_226, ln_226, tn_227, ln_227, tn_228, ln_228, tn_229, ln_229, tn_230, ln_230, lx2, lx3, lx4, lx5, lx6, lx7, lx8, lx9, lx10, lx14, lx15, lx16, lx18, lx20, lx24, lx25, lx27, lx32, lx36, lx40, lx41, lx42, lx43, lx45, lx48, lx52, lx54, lx56, lx57, lx58, lx60, lx61, lx62, lx63, lx64, lx66, lx69, lx73, lx80, lx81, lx84, lx85, lx87, lx94, lx96, lx97, lx120, lx128, lx135, lx160, lx162, lx163, lx165, lx200, lx232, lx242, lx243, lx255, lx256, lx320, lx325, lx400, lx405, lx464, lx512, lx600, lx640, lx752, lx900, lx940, lx1000, lx1024, lx1764, lx3360, lx3840, lx5000, lx6400, lx9050, lx9998, lx9999, lx10000, lx25600, lx76800, lx99999, si_ne, si_eq, sl_ne, sl_eq, xl_si, xi_sl, sA_ne, sA_eq, xl_sA, x1, et, h4 t htl, h5, bI_t]
    refine ⟨fun z => fin true ⟨fun _ => ?_, fun _ => rfl⟩, fun z => ⟨htl, fun z2 => fin false ⟨fun w => (by cases w), ?_⟩, fun z2 => fin true ⟨fun _ => ⟨t, g, Or.inr ⟨rfl, rfl⟩, htl, by cases w : M t; exact absurd w z2; rfl⟩, fun _ => rfl⟩⟩⟩
    · have z1 : ∃ t g, V t g ∧ t < 25600 ∧ M t = true := Classical.byContradiction fun w => z (bt_f w)
      obtain ⟨x, h, w1, w2⟩ := z1
      exact ⟨x, h, Or.inl w1, w2⟩
    · rintro ⟨x, h, w1 | ⟨rfl, -⟩, w2, w3⟩
      · have : bt (∃ t g, V t g ∧ t < 25600 ∧ M t = true) = true := bt_t ⟨x, h, w1, w2, w3⟩
        rw [z] at this
        cases this
      · rw [z2] at w3
        cases w3

