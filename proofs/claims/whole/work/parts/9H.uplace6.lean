/-! ===== the reference lays its places ===== -/
theorem d_X12_laysPlaces_0 : decode cX12_laysPlaces 0 = .ok (.aload_n 0, 1) := by decide +kernel
theorem d_X12_laysPlaces_1 : decode cX12_laysPlaces 1 = .ok (.getfield 316, 3) := by decide +kernel
theorem d_X12_laysPlaces_4 : decode cX12_laysPlaces 4 = .ok (.ifCond .eq 16, 3) := by decide +kernel
theorem d_X12_laysPlaces_7 : decode cX12_laysPlaces 7 = .ok (.aload_n 0, 1) := by decide +kernel
theorem d_X12_laysPlaces_8 : decode cX12_laysPlaces 8 = .ok (.getfield 393, 3) := by decide +kernel
theorem d_X12_laysPlaces_11 : decode cX12_laysPlaces 11 = .ok (.ifCond .lt 7, 3) := by decide +kernel
theorem d_X12_laysPlaces_14 : decode cX12_laysPlaces 14 = .ok (.iconst 1, 1) := by decide +kernel
theorem d_X12_laysPlaces_15 : decode cX12_laysPlaces 15 = .ok (.goto 4, 3) := by decide +kernel
theorem d_X12_laysPlaces_18 : decode cX12_laysPlaces 18 = .ok (.iconst 0, 1) := by decide +kernel
theorem d_X12_laysPlaces_19 : decode cX12_laysPlaces 19 = .ok (.ireturn, 1) := by decide +kernel
theorem d_X12_laysPlaces_20 : decode cX12_laysPlaces 20 = .ok (.aload_n 0, 1) := by decide +kernel
theorem d_X12_laysPlaces_21 : decode cX12_laysPlaces 21 = .ok (.iconst 1, 1) := by decide +kernel
theorem d_X12_laysPlaces_22 : decode cX12_laysPlaces 22 = .ok (.putfield 316, 3) := by decide +kernel
theorem d_X12_laysPlaces_25 : decode cX12_laysPlaces 25 = .ok (.aload_n 0, 1) := by decide +kernel
theorem d_X12_laysPlaces_26 : decode cX12_laysPlaces 26 = .ok (.invokevirtual 338, 3) := by decide +kernel
theorem d_X12_laysPlaces_29 : decode cX12_laysPlaces 29 = .ok (.aload_n 0, 1) := by decide +kernel
theorem d_X12_laysPlaces_30 : decode cX12_laysPlaces 30 = .ok (.iconst 0, 1) := by decide +kernel
theorem d_X12_laysPlaces_31 : decode cX12_laysPlaces 31 = .ok (.putfield 393, 3) := by decide +kernel
theorem d_X12_laysPlaces_34 : decode cX12_laysPlaces 34 = .ok (.aload_n 0, 1) := by decide +kernel
theorem d_X12_laysPlaces_35 : decode cX12_laysPlaces 35 = .ok (.iconst 0, 1) := by decide +kernel
theorem d_X12_laysPlaces_36 : decode cX12_laysPlaces 36 = .ok (.iconst (-1), 1) := by decide +kernel
theorem d_X12_laysPlaces_37 : decode cX12_laysPlaces 37 = .ok (.invokevirtual 396, 3) := by decide +kernel
theorem d_X12_laysPlaces_40 : decode cX12_laysPlaces 40 = .ok (.pop, 1) := by decide +kernel
theorem d_X12_laysPlaces_41 : decode cX12_laysPlaces 41 = .ok (.aload_n 0, 1) := by decide +kernel
theorem d_X12_laysPlaces_42 : decode cX12_laysPlaces 42 = .ok (.iconst 1, 1) := by decide +kernel
theorem d_X12_laysPlaces_43 : decode cX12_laysPlaces 43 = .ok (.iconst (-1), 1) := by decide +kernel
theorem d_X12_laysPlaces_44 : decode cX12_laysPlaces 44 = .ok (.invokevirtual 396, 3) := by decide +kernel
theorem d_X12_laysPlaces_47 : decode cX12_laysPlaces 47 = .ok (.pop, 1) := by decide +kernel
theorem d_X12_laysPlaces_48 : decode cX12_laysPlaces 48 = .ok (.iconst 1, 1) := by decide +kernel
theorem d_X12_laysPlaces_49 : decode cX12_laysPlaces 49 = .ok (.istore_n 1, 1) := by decide +kernel
theorem d_X12_laysPlaces_50 : decode cX12_laysPlaces 50 = .ok (.iconst 2, 1) := by decide +kernel
theorem d_X12_laysPlaces_51 : decode cX12_laysPlaces 51 = .ok (.istore_n 2, 1) := by decide +kernel
theorem d_X12_laysPlaces_52 : decode cX12_laysPlaces 52 = .ok (.iload_n 2, 1) := by decide +kernel
theorem d_X12_laysPlaces_53 : decode cX12_laysPlaces 53 = .ok (.aload_n 0, 1) := by decide +kernel
theorem d_X12_laysPlaces_54 : decode cX12_laysPlaces 54 = .ok (.getfield 328, 3) := by decide +kernel
theorem d_X12_laysPlaces_57 : decode cX12_laysPlaces 57 = .ok (.if_icmp .ge 97, 3) := by decide +kernel
theorem d_X12_laysPlaces_60 : decode cX12_laysPlaces 60 = .ok (.iload_n 1, 1) := by decide +kernel
theorem d_X12_laysPlaces_61 : decode cX12_laysPlaces 61 = .ok (.ifCond .eq 93, 3) := by decide +kernel
theorem d_X12_laysPlaces_64 : decode cX12_laysPlaces 64 = .ok (.aload_n 0, 1) := by decide +kernel
theorem d_X12_laysPlaces_65 : decode cX12_laysPlaces 65 = .ok (.getfield 30, 3) := by decide +kernel
theorem d_X12_laysPlaces_68 : decode cX12_laysPlaces 68 = .ok (.bipush 54, 2) := by decide +kernel
theorem d_X12_laysPlaces_70 : decode cX12_laysPlaces 70 = .ok (.iload_n 2, 1) := by decide +kernel
theorem d_X12_laysPlaces_71 : decode cX12_laysPlaces 71 = .ok (.iadd, 1) := by decide +kernel
theorem d_X12_laysPlaces_72 : decode cX12_laysPlaces 72 = .ok (.iaload, 1) := by decide +kernel
theorem d_X12_laysPlaces_73 : decode cX12_laysPlaces 73 = .ok (.iload_n 2, 1) := by decide +kernel
theorem d_X12_laysPlaces_74 : decode cX12_laysPlaces 74 = .ok (.if_icmp .eq 6, 3) := by decide +kernel
theorem d_X12_laysPlaces_77 : decode cX12_laysPlaces 77 = .ok (.goto 71, 3) := by decide +kernel
theorem d_X12_laysPlaces_80 : decode cX12_laysPlaces 80 = .ok (.aload_n 0, 1) := by decide +kernel
theorem d_X12_laysPlaces_81 : decode cX12_laysPlaces 81 = .ok (.getfield 30, 3) := by decide +kernel
theorem d_X12_laysPlaces_84 : decode cX12_laysPlaces 84 = .ok (.iconst 3, 1) := by decide +kernel
theorem d_X12_laysPlaces_85 : decode cX12_laysPlaces 85 = .ok (.iaload, 1) := by decide +kernel
theorem d_X12_laysPlaces_86 : decode cX12_laysPlaces 86 = .ok (.ifCond .ne 13, 3) := by decide +kernel
theorem d_X12_laysPlaces_89 : decode cX12_laysPlaces 89 = .ok (.aload_n 0, 1) := by decide +kernel
theorem d_X12_laysPlaces_90 : decode cX12_laysPlaces 90 = .ok (.iload_n 2, 1) := by decide +kernel
theorem d_X12_laysPlaces_91 : decode cX12_laysPlaces 91 = .ok (.iconst (-1), 1) := by decide +kernel
theorem d_X12_laysPlaces_92 : decode cX12_laysPlaces 92 = .ok (.invokevirtual 396, 3) := by decide +kernel
theorem d_X12_laysPlaces_95 : decode cX12_laysPlaces 95 = .ok (.istore_n 1, 1) := by decide +kernel
theorem d_X12_laysPlaces_96 : decode cX12_laysPlaces 96 = .ok (.goto 52, 3) := by decide +kernel
theorem d_X12_laysPlaces_99 : decode cX12_laysPlaces 99 = .ok (.iconst 0, 1) := by decide +kernel
theorem d_X12_laysPlaces_100 : decode cX12_laysPlaces 100 = .ok (.istore_n 3, 1) := by decide +kernel
theorem d_X12_laysPlaces_101 : decode cX12_laysPlaces 101 = .ok (.iload_n 3, 1) := by decide +kernel
theorem d_X12_laysPlaces_102 : decode cX12_laysPlaces 102 = .ok (.aload_n 0, 1) := by decide +kernel
theorem d_X12_laysPlaces_103 : decode cX12_laysPlaces 103 = .ok (.getfield 328, 3) := by decide +kernel
theorem d_X12_laysPlaces_106 : decode cX12_laysPlaces 106 = .ok (.if_icmp .ge 42, 3) := by decide +kernel
theorem d_X12_laysPlaces_109 : decode cX12_laysPlaces 109 = .ok (.iload_n 1, 1) := by decide +kernel
theorem d_X12_laysPlaces_110 : decode cX12_laysPlaces 110 = .ok (.ifCond .eq 38, 3) := by decide +kernel
theorem d_X12_laysPlaces_113 : decode cX12_laysPlaces 113 = .ok (.aload_n 0, 1) := by decide +kernel
theorem d_X12_laysPlaces_114 : decode cX12_laysPlaces 114 = .ok (.getfield 30, 3) := by decide +kernel
theorem d_X12_laysPlaces_117 : decode cX12_laysPlaces 117 = .ok (.bipush 54, 2) := by decide +kernel
theorem d_X12_laysPlaces_119 : decode cX12_laysPlaces 119 = .ok (.iload_n 3, 1) := by decide +kernel
theorem d_X12_laysPlaces_120 : decode cX12_laysPlaces 120 = .ok (.iadd, 1) := by decide +kernel
theorem d_X12_laysPlaces_121 : decode cX12_laysPlaces 121 = .ok (.iaload, 1) := by decide +kernel
theorem d_X12_laysPlaces_122 : decode cX12_laysPlaces 122 = .ok (.iload_n 3, 1) := by decide +kernel
theorem d_X12_laysPlaces_123 : decode cX12_laysPlaces 123 = .ok (.if_icmp .ne 19, 3) := by decide +kernel
theorem d_X12_laysPlaces_126 : decode cX12_laysPlaces 126 = .ok (.aload_n 0, 1) := by decide +kernel
theorem d_X12_laysPlaces_127 : decode cX12_laysPlaces 127 = .ok (.iload_n 2, 1) := by decide +kernel
theorem d_X12_laysPlaces_128 : decode cX12_laysPlaces 128 = .ok (.iload_n 3, 1) := by decide +kernel
theorem d_X12_laysPlaces_129 : decode cX12_laysPlaces 129 = .ok (.invokevirtual 399, 3) := by decide +kernel
theorem d_X12_laysPlaces_132 : decode cX12_laysPlaces 132 = .ok (.ifCond .eq 10, 3) := by decide +kernel
theorem d_X12_laysPlaces_135 : decode cX12_laysPlaces 135 = .ok (.aload_n 0, 1) := by decide +kernel
theorem d_X12_laysPlaces_136 : decode cX12_laysPlaces 136 = .ok (.iload_n 2, 1) := by decide +kernel
theorem d_X12_laysPlaces_137 : decode cX12_laysPlaces 137 = .ok (.iload_n 3, 1) := by decide +kernel
theorem d_X12_laysPlaces_138 : decode cX12_laysPlaces 138 = .ok (.invokevirtual 396, 3) := by decide +kernel
theorem d_X12_laysPlaces_141 : decode cX12_laysPlaces 141 = .ok (.istore_n 1, 1) := by decide +kernel
theorem d_X12_laysPlaces_142 : decode cX12_laysPlaces 142 = .ok (.iinc 3 1, 3) := by decide +kernel
theorem d_X12_laysPlaces_145 : decode cX12_laysPlaces 145 = .ok (.goto (-44), 3) := by decide +kernel
theorem d_X12_laysPlaces_148 : decode cX12_laysPlaces 148 = .ok (.iinc 2 1, 3) := by decide +kernel
theorem d_X12_laysPlaces_151 : decode cX12_laysPlaces 151 = .ok (.goto (-99), 3) := by decide +kernel
theorem d_X12_laysPlaces_154 : decode cX12_laysPlaces 154 = .ok (.iload_n 1, 1) := by decide +kernel
theorem d_X12_laysPlaces_155 : decode cX12_laysPlaces 155 = .ok (.ifCond .ne 10, 3) := by decide +kernel
theorem d_X12_laysPlaces_158 : decode cX12_laysPlaces 158 = .ok (.aload_n 0, 1) := by decide +kernel
theorem d_X12_laysPlaces_159 : decode cX12_laysPlaces 159 = .ok (.iconst (-1), 1) := by decide +kernel
theorem d_X12_laysPlaces_160 : decode cX12_laysPlaces 160 = .ok (.putfield 393, 3) := by decide +kernel
theorem d_X12_laysPlaces_163 : decode cX12_laysPlaces 163 = .ok (.iconst 0, 1) := by decide +kernel
theorem d_X12_laysPlaces_164 : decode cX12_laysPlaces 164 = .ok (.ireturn, 1) := by decide +kernel
theorem d_X12_laysPlaces_165 : decode cX12_laysPlaces 165 = .ok (.aload_n 0, 1) := by decide +kernel
theorem d_X12_laysPlaces_166 : decode cX12_laysPlaces 166 = .ok (.iconst 0, 1) := by decide +kernel
theorem d_X12_laysPlaces_167 : decode cX12_laysPlaces 167 = .ok (.putfield 402, 3) := by decide +kernel
theorem d_X12_laysPlaces_170 : decode cX12_laysPlaces 170 = .ok (.iconst 0, 1) := by decide +kernel
theorem d_X12_laysPlaces_171 : decode cX12_laysPlaces 171 = .ok (.istore_n 2, 1) := by decide +kernel
theorem d_X12_laysPlaces_172 : decode cX12_laysPlaces 172 = .ok (.iload_n 2, 1) := by decide +kernel
theorem d_X12_laysPlaces_173 : decode cX12_laysPlaces 173 = .ok (.aload_n 0, 1) := by decide +kernel
theorem d_X12_laysPlaces_174 : decode cX12_laysPlaces 174 = .ok (.getfield 393, 3) := by decide +kernel
theorem d_X12_laysPlaces_177 : decode cX12_laysPlaces 177 = .ok (.if_icmp .ge 14, 3) := by decide +kernel
theorem d_X12_laysPlaces_180 : decode cX12_laysPlaces 180 = .ok (.aload_n 0, 1) := by decide +kernel
theorem d_X12_laysPlaces_181 : decode cX12_laysPlaces 181 = .ok (.iload_n 2, 1) := by decide +kernel
theorem d_X12_laysPlaces_182 : decode cX12_laysPlaces 182 = .ok (.invokevirtual 405, 3) := by decide +kernel
theorem d_X12_laysPlaces_185 : decode cX12_laysPlaces 185 = .ok (.iinc 2 1, 3) := by decide +kernel
theorem d_X12_laysPlaces_188 : decode cX12_laysPlaces 188 = .ok (.goto (-16), 3) := by decide +kernel
theorem d_X12_laysPlaces_191 : decode cX12_laysPlaces 191 = .ok (.aload_n 0, 1) := by decide +kernel
theorem d_X12_laysPlaces_192 : decode cX12_laysPlaces 192 = .ok (.getfield 80, 3) := by decide +kernel
theorem d_X12_laysPlaces_195 : decode cX12_laysPlaces 195 = .ok (.aload_n 0, 1) := by decide +kernel
theorem d_X12_laysPlaces_196 : decode cX12_laysPlaces 196 = .ok (.getfield 393, 3) := by decide +kernel
theorem d_X12_laysPlaces_199 : decode cX12_laysPlaces 199 = .ok (.aload_n 0, 1) := by decide +kernel
theorem d_X12_laysPlaces_200 : decode cX12_laysPlaces 200 = .ok (.getfield 402, 3) := by decide +kernel
theorem d_X12_laysPlaces_203 : decode cX12_laysPlaces 203 = .ok (.iastore, 1) := by decide +kernel
theorem d_X12_laysPlaces_204 : decode cX12_laysPlaces 204 = .ok (.iconst 1, 1) := by decide +kernel
theorem d_X12_laysPlaces_205 : decode cX12_laysPlaces 205 = .ok (.ireturn, 1) := by decide +kernel
def k_X12_laysPlaces_19 (P : xP) : xK := x_zret P
set_option maxRecDepth 20000 in
theorem t_X12_laysPlaces_19 {p : Program} {l : Launch} {e : Env} {s : State} {m : MethodId} {args : Array Value} {below : List Frame} {meth : Method} {c : Code} {g : xG} (X : xX p s m args c meth cX12_laysPlaces RX12 4 g) (hr : meth.sig.returnType = (some .boolean)) {P : xP} : xAt p l e { frames := 5, cells := 0, slots := 0, locals := 115 } s m args below meth c g 4 xFT xN 0 0 (MQ below (xQc g xFT xN P) args s 0 0 (xFr g)) (k_X12_laysPlaces_19 P) 19 := by
  unfold k_X12_laysPlaces_19
  exact r_zret (pc := 19) X hr d_X12_laysPlaces_19
def k_X12_laysPlaces_0 (P : xP) (C52 : xK) : xK := x_aload 0 (y_getI 180 26 (x_if_eq (x_aload 0 (x_push (.int 1) (y_putZ 180 26 (x_aload 0 (y_cv0 180 (w_R f_X12_laysItems) (x_aload 0 (x_push (.int 0) (y_putI 180 40 (x_aload 0 (x_push (.int 0) (x_push (.int (-1)) (y_cv2 180 (w_RII f_X12_newPlace) (x_pop (x_aload 0 (x_push (.int 1) (x_push (.int (-1)) (y_cv2 180 (w_RII f_X12_newPlace) (x_pop (x_push (.int 1) (x_istore 1 (x_push (.int 2) (x_istore 2 (C52))))))))))))))))))))))) (x_aload 0 (y_getI 180 40 (x_if_lt (x_push (.int 0) ((k_X12_laysPlaces_19 P))) (x_push (.int 1) ((k_X12_laysPlaces_19 P))))))))
set_option maxRecDepth 20000 in
theorem t_X12_laysPlaces_0 {p : Program} {l : Launch} {e : Env} {s : State} {m : MethodId} {args : Array Value} {below : List Frame} {meth : Method} {c : Code} {g : xG} (X : xX p s m args c meth cX12_laysPlaces RX12 4 g) (hr : meth.sig.returnType = (some .boolean)) {P : xP} {C52 : xK} (h52 : xAt p l e { frames := 5, cells := 0, slots := 0, locals := 115 } s m args below meth c g 4 xFT xN 0 0 (MQ below (xQc g xFT xN P) args s 0 0 (xFr g)) C52 52) : xAt p l e { frames := 5, cells := 0, slots := 0, locals := 115 } s m args below meth c g 4 xFT xN 0 0 (MQ below (xQc g xFT xN P) args s 0 0 (xFr g)) (k_X12_laysPlaces_0 P C52) 0 := by
  unfold k_X12_laysPlaces_0
  refine r_aload_n (pc := 0) X d_X12_laysPlaces_0 fn0 ?_
  refine s_getI (pc := 1) (ci := 12) X xok12 (by decide +kernel) ob_180 (by decide +kernel) fl_RX12_316 d_X12_laysPlaces_1 ?_
  refine r_if_eq (pc := 4) (tgt := 20) X d_X12_laysPlaces_4 (by decide +kernel) ?_ ?_
  · refine r_aload_n (pc := 20) X d_X12_laysPlaces_20 fn0 ?_
    refine r_iconst (pc := 21) X d_X12_laysPlaces_21 (by decide +kernel) ?_
    refine s_putZ (pc := 22) (ci := 12) X xok12 (by decide +kernel) ob_180 (by decide +kernel) (by decide +kernel) (by decide +kernel) fl_RX12_316 d_X12_laysPlaces_22 ?_
    refine r_aload_n (pc := 25) X d_X12_laysPlaces_25 fn0 ?_
    refine s_cv0 (pc := 26) (ci := 12) X xok12 (by decide +kernel) ob_180 rfl (con_X12_laysItems l) mf_X12_laysItems ml_RX12_338 (by decide +kernel) (by decide +kernel) d_X12_laysPlaces_26 ?_
    refine r_aload_n (pc := 29) X d_X12_laysPlaces_29 fn0 ?_
    refine r_iconst (pc := 30) X d_X12_laysPlaces_30 (by decide +kernel) ?_
    refine s_putI (pc := 31) (ci := 12) X xok12 (by decide +kernel) ob_180 (by decide +kernel) (by decide +kernel) (by decide +kernel) fl_RX12_393 d_X12_laysPlaces_31 ?_
    refine r_aload_n (pc := 34) X d_X12_laysPlaces_34 fn0 ?_
    refine r_iconst (pc := 35) X d_X12_laysPlaces_35 (by decide +kernel) ?_
    refine r_iconst (pc := 36) X d_X12_laysPlaces_36 (by decide +kernel) ?_
    refine s_cv2 (pc := 37) (ci := 12) X xok12 (by decide +kernel) ob_180 rfl (con_X12_newPlace l) mf_X12_newPlace ml_RX12_396 (by decide +kernel) (by decide +kernel) d_X12_laysPlaces_37 ?_
    refine r_pop (pc := 40) X d_X12_laysPlaces_40 ?_
    refine r_aload_n (pc := 41) X d_X12_laysPlaces_41 fn0 ?_
    refine r_iconst (pc := 42) X d_X12_laysPlaces_42 (by decide +kernel) ?_
    refine r_iconst (pc := 43) X d_X12_laysPlaces_43 (by decide +kernel) ?_
    refine s_cv2 (pc := 44) (ci := 12) X xok12 (by decide +kernel) ob_180 rfl (con_X12_newPlace l) mf_X12_newPlace ml_RX12_396 (by decide +kernel) (by decide +kernel) d_X12_laysPlaces_44 ?_
    refine r_pop (pc := 47) X d_X12_laysPlaces_47 ?_
    refine r_iconst (pc := 48) X d_X12_laysPlaces_48 (by decide +kernel) ?_
    refine r_istore_n (pc := 49) X d_X12_laysPlaces_49 fn1 (by decide +kernel) ?_
    refine r_iconst (pc := 50) X d_X12_laysPlaces_50 (by decide +kernel) ?_
    refine r_istore_n (pc := 51) X d_X12_laysPlaces_51 fn2 (by decide +kernel) ?_
    exact h52
  · refine r_aload_n (pc := 7) X d_X12_laysPlaces_7 fn0 ?_
    refine s_getI (pc := 8) (ci := 12) X xok12 (by decide +kernel) ob_180 (by decide +kernel) fl_RX12_393 d_X12_laysPlaces_8 ?_
    refine r_if_lt (pc := 11) (tgt := 18) X d_X12_laysPlaces_11 (by decide +kernel) ?_ ?_
    · refine r_iconst (pc := 18) X d_X12_laysPlaces_18 (by decide +kernel) ?_
      exact t_X12_laysPlaces_19 X hr
    · refine r_iconst (pc := 14) X d_X12_laysPlaces_14 (by decide +kernel) ?_
      refine r_goto (pc := 15) (tgt := 19) X d_X12_laysPlaces_15 (by decide +kernel) ?_
      exact t_X12_laysPlaces_19 X hr
def k_X12_laysPlaces_154 (P : xP) (C172 : xK) : xK := x_iload 1 (x_if_ne (x_aload 0 (x_push (.int 0) (y_putI 180 41 (x_push (.int 0) (x_istore 2 (C172)))))) (x_aload 0 (x_push (.int (-1)) (y_putI 180 40 (x_push (.int 0) (x_zret P))))))
set_option maxRecDepth 20000 in
theorem t_X12_laysPlaces_154 {p : Program} {l : Launch} {e : Env} {s : State} {m : MethodId} {args : Array Value} {below : List Frame} {meth : Method} {c : Code} {g : xG} (X : xX p s m args c meth cX12_laysPlaces RX12 4 g) (hr : meth.sig.returnType = (some .boolean)) {P : xP} {C172 : xK} (h172 : xAt p l e { frames := 5, cells := 0, slots := 0, locals := 115 } s m args below meth c g 4 xFT xN 0 0 (MQ below (xQc g xFT xN P) args s 0 0 (xFr g)) C172 172) : xAt p l e { frames := 5, cells := 0, slots := 0, locals := 115 } s m args below meth c g 4 xFT xN 0 0 (MQ below (xQc g xFT xN P) args s 0 0 (xFr g)) (k_X12_laysPlaces_154 P C172) 154 := by
  unfold k_X12_laysPlaces_154
  refine r_iload_n (pc := 154) X d_X12_laysPlaces_154 fn1 ?_
  refine r_if_ne (pc := 155) (tgt := 165) X d_X12_laysPlaces_155 (by decide +kernel) ?_ ?_
  · refine r_aload_n (pc := 165) X d_X12_laysPlaces_165 fn0 ?_
    refine r_iconst (pc := 166) X d_X12_laysPlaces_166 (by decide +kernel) ?_
    refine s_putI (pc := 167) (ci := 12) X xok12 (by decide +kernel) ob_180 (by decide +kernel) (by decide +kernel) (by decide +kernel) fl_RX12_402 d_X12_laysPlaces_167 ?_
    refine r_iconst (pc := 170) X d_X12_laysPlaces_170 (by decide +kernel) ?_
    refine r_istore_n (pc := 171) X d_X12_laysPlaces_171 fn2 (by decide +kernel) ?_
    exact h172
  · refine r_aload_n (pc := 158) X d_X12_laysPlaces_158 fn0 ?_
    refine r_iconst (pc := 159) X d_X12_laysPlaces_159 (by decide +kernel) ?_
    refine s_putI (pc := 160) (ci := 12) X xok12 (by decide +kernel) ob_180 (by decide +kernel) (by decide +kernel) (by decide +kernel) fl_RX12_393 d_X12_laysPlaces_160 ?_
    refine r_iconst (pc := 163) X d_X12_laysPlaces_163 (by decide +kernel) ?_
    exact r_zret (pc := 164) X hr d_X12_laysPlaces_164
def k_X12_laysPlaces_148 (P : xP) (C52 : xK) : xK := x_iinc 2 1 (C52)
set_option maxRecDepth 20000 in
theorem t_X12_laysPlaces_148 {p : Program} {l : Launch} {e : Env} {s : State} {m : MethodId} {args : Array Value} {below : List Frame} {meth : Method} {c : Code} {g : xG} (X : xX p s m args c meth cX12_laysPlaces RX12 4 g) (hr : meth.sig.returnType = (some .boolean)) {P : xP} {C52 : xK} (h52 : xAt p l e { frames := 5, cells := 0, slots := 0, locals := 115 } s m args below meth c g 4 xFT xN 0 0 (MQ below (xQc g xFT xN P) args s 0 0 (xFr g)) C52 52) : xAt p l e { frames := 5, cells := 0, slots := 0, locals := 115 } s m args below meth c g 4 xFT xN 0 0 (MQ below (xQc g xFT xN P) args s 0 0 (xFr g)) (k_X12_laysPlaces_148 P C52) 148 := by
  unfold k_X12_laysPlaces_148
  refine r_iinc (pc := 148) X d_X12_laysPlaces_148 (by decide +kernel) (by decide +kernel) ?_
  refine r_goto (pc := 151) (tgt := 52) X d_X12_laysPlaces_151 (by decide +kernel) ?_
  exact h52
def k_X12_laysPlaces_52 (P : xP) (C52 : xK) (C101 : xK) (C172 : xK) : xK := x_iload 2 (x_aload 0 (y_getI 180 24 (x_icmp_ge ((k_X12_laysPlaces_154 P C172)) (x_iload 1 (x_if_eq ((k_X12_laysPlaces_154 P C172)) (x_aload 0 (y_getF 180 182 (x_push (.int 54) (x_iload 2 (x_iadd (y_iald 182 232 (x_iload 2 (x_icmp_eq (x_aload 0 (y_getF 180 182 (x_push (.int 3) (y_iald 182 232 (x_if_ne (x_push (.int 0) (x_istore 3 (C101))) (x_aload 0 (x_iload 2 (x_push (.int (-1)) (y_cv2 180 (w_RII f_X12_newPlace) (x_istore 1 ((k_X12_laysPlaces_148 P C52)))))))))))) ((k_X12_laysPlaces_148 P C52)))))))))))))))
set_option maxRecDepth 20000 in
theorem t_X12_laysPlaces_52 {p : Program} {l : Launch} {e : Env} {s : State} {m : MethodId} {args : Array Value} {below : List Frame} {meth : Method} {c : Code} {g : xG} (X : xX p s m args c meth cX12_laysPlaces RX12 4 g) (hr : meth.sig.returnType = (some .boolean)) {P : xP} {C52 : xK} {C101 : xK} {C172 : xK} (h52 : xAt p l e { frames := 5, cells := 0, slots := 0, locals := 115 } s m args below meth c g 4 xFT xN 0 0 (MQ below (xQc g xFT xN P) args s 0 0 (xFr g)) C52 52) (h101 : xAt p l e { frames := 5, cells := 0, slots := 0, locals := 115 } s m args below meth c g 4 xFT xN 0 0 (MQ below (xQc g xFT xN P) args s 0 0 (xFr g)) C101 101) (h172 : xAt p l e { frames := 5, cells := 0, slots := 0, locals := 115 } s m args below meth c g 4 xFT xN 0 0 (MQ below (xQc g xFT xN P) args s 0 0 (xFr g)) C172 172) : xAt p l e { frames := 5, cells := 0, slots := 0, locals := 115 } s m args below meth c g 4 xFT xN 0 0 (MQ below (xQc g xFT xN P) args s 0 0 (xFr g)) (k_X12_laysPlaces_52 P C52 C101 C172) 52 := by
  unfold k_X12_laysPlaces_52
  refine r_iload_n (pc := 52) X d_X12_laysPlaces_52 fn2 ?_
  refine r_aload_n (pc := 53) X d_X12_laysPlaces_53 fn0 ?_
  refine s_getI (pc := 54) (ci := 12) X xok12 (by decide +kernel) ob_180 (by decide +kernel) fl_RX12_328 d_X12_laysPlaces_54 ?_
  refine r_icmp_ge (pc := 57) (tgt := 154) X d_X12_laysPlaces_57 (by decide +kernel) ?_ ?_
  · exact t_X12_laysPlaces_154 X hr h172
  · refine r_iload_n (pc := 60) X d_X12_laysPlaces_60 fn1 ?_
    refine r_if_eq (pc := 61) (tgt := 154) X d_X12_laysPlaces_61 (by decide +kernel) ?_ ?_
    · exact t_X12_laysPlaces_154 X hr h172
    · refine r_aload_n (pc := 64) X d_X12_laysPlaces_64 fn0 ?_
      refine s_getF (pc := 65) (ci := 12) (k := 5) X xok12 (by decide +kernel) ob_180 trivial ly_180_5 (by decide +kernel) fl_RX12_30 d_X12_laysPlaces_65 ?_
      refine r_bipush (pc := 68) X d_X12_laysPlaces_68 (by decide +kernel) ?_
      refine r_iload_n (pc := 70) X d_X12_laysPlaces_70 fn2 ?_
      refine r_iadd (pc := 71) X d_X12_laysPlaces_71 ?_
      refine s_iald (pc := 72) X tn_182 ln_182 d_X12_laysPlaces_72 ?_
      refine r_iload_n (pc := 73) X d_X12_laysPlaces_73 fn2 ?_
      refine r_icmp_eq (pc := 74) (tgt := 80) X d_X12_laysPlaces_74 (by decide +kernel) ?_ ?_
      · refine r_aload_n (pc := 80) X d_X12_laysPlaces_80 fn0 ?_
        refine s_getF (pc := 81) (ci := 12) (k := 5) X xok12 (by decide +kernel) ob_180 trivial ly_180_5 (by decide +kernel) fl_RX12_30 d_X12_laysPlaces_81 ?_
        refine r_iconst (pc := 84) X d_X12_laysPlaces_84 (by decide +kernel) ?_
        refine s_iald (pc := 85) X tn_182 ln_182 d_X12_laysPlaces_85 ?_
        refine r_if_ne (pc := 86) (tgt := 99) X d_X12_laysPlaces_86 (by decide +kernel) ?_ ?_
        · refine r_iconst (pc := 99) X d_X12_laysPlaces_99 (by decide +kernel) ?_
          refine r_istore_n (pc := 100) X d_X12_laysPlaces_100 fn3 (by decide +kernel) ?_
          exact h101
        · refine r_aload_n (pc := 89) X d_X12_laysPlaces_89 fn0 ?_
          refine r_iload_n (pc := 90) X d_X12_laysPlaces_90 fn2 ?_
          refine r_iconst (pc := 91) X d_X12_laysPlaces_91 (by decide +kernel) ?_
          refine s_cv2 (pc := 92) (ci := 12) X xok12 (by decide +kernel) ob_180 rfl (con_X12_newPlace l) mf_X12_newPlace ml_RX12_396 (by decide +kernel) (by decide +kernel) d_X12_laysPlaces_92 ?_
          refine r_istore_n (pc := 95) X d_X12_laysPlaces_95 fn1 (by decide +kernel) ?_
          refine r_goto (pc := 96) (tgt := 148) X d_X12_laysPlaces_96 (by decide +kernel) ?_
          exact t_X12_laysPlaces_148 X hr h52
      · refine r_goto (pc := 77) (tgt := 148) X d_X12_laysPlaces_77 (by decide +kernel) ?_
        exact t_X12_laysPlaces_148 X hr h52
def k_X12_laysPlaces_142 (P : xP) (C101 : xK) : xK := x_iinc 3 1 (C101)
set_option maxRecDepth 20000 in
theorem t_X12_laysPlaces_142 {p : Program} {l : Launch} {e : Env} {s : State} {m : MethodId} {args : Array Value} {below : List Frame} {meth : Method} {c : Code} {g : xG} (X : xX p s m args c meth cX12_laysPlaces RX12 4 g) (hr : meth.sig.returnType = (some .boolean)) {P : xP} {C101 : xK} (h101 : xAt p l e { frames := 5, cells := 0, slots := 0, locals := 115 } s m args below meth c g 4 xFT xN 0 0 (MQ below (xQc g xFT xN P) args s 0 0 (xFr g)) C101 101) : xAt p l e { frames := 5, cells := 0, slots := 0, locals := 115 } s m args below meth c g 4 xFT xN 0 0 (MQ below (xQc g xFT xN P) args s 0 0 (xFr g)) (k_X12_laysPlaces_142 P C101) 142 := by
  unfold k_X12_laysPlaces_142
  refine r_iinc (pc := 142) X d_X12_laysPlaces_142 (by decide +kernel) (by decide +kernel) ?_
  refine r_goto (pc := 145) (tgt := 101) X d_X12_laysPlaces_145 (by decide +kernel) ?_
  exact h101
def k_X12_laysPlaces_101 (P : xP) (C52 : xK) (C101 : xK) : xK := x_iload 3 (x_aload 0 (y_getI 180 24 (x_icmp_ge ((k_X12_laysPlaces_148 P C52)) (x_iload 1 (x_if_eq ((k_X12_laysPlaces_148 P C52)) (x_aload 0 (y_getF 180 182 (x_push (.int 54) (x_iload 3 (x_iadd (y_iald 182 232 (x_iload 3 (x_icmp_ne ((k_X12_laysPlaces_142 P C101)) (x_aload 0 (x_iload 2 (x_iload 3 (y_cv2 180 (w_RII f_X12_isPair) (x_if_eq ((k_X12_laysPlaces_142 P C101)) (x_aload 0 (x_iload 2 (x_iload 3 (y_cv2 180 (w_RII f_X12_newPlace) (x_istore 1 ((k_X12_laysPlaces_142 P C101)))))))))))))))))))))))))
set_option maxRecDepth 20000 in
theorem t_X12_laysPlaces_101 {p : Program} {l : Launch} {e : Env} {s : State} {m : MethodId} {args : Array Value} {below : List Frame} {meth : Method} {c : Code} {g : xG} (X : xX p s m args c meth cX12_laysPlaces RX12 4 g) (hr : meth.sig.returnType = (some .boolean)) {P : xP} {C52 : xK} {C101 : xK} (h52 : xAt p l e { frames := 5, cells := 0, slots := 0, locals := 115 } s m args below meth c g 4 xFT xN 0 0 (MQ below (xQc g xFT xN P) args s 0 0 (xFr g)) C52 52) (h101 : xAt p l e { frames := 5, cells := 0, slots := 0, locals := 115 } s m args below meth c g 4 xFT xN 0 0 (MQ below (xQc g xFT xN P) args s 0 0 (xFr g)) C101 101) : xAt p l e { frames := 5, cells := 0, slots := 0, locals := 115 } s m args below meth c g 4 xFT xN 0 0 (MQ below (xQc g xFT xN P) args s 0 0 (xFr g)) (k_X12_laysPlaces_101 P C52 C101) 101 := by
  unfold k_X12_laysPlaces_101
  refine r_iload_n (pc := 101) X d_X12_laysPlaces_101 fn3 ?_
  refine r_aload_n (pc := 102) X d_X12_laysPlaces_102 fn0 ?_
  refine s_getI (pc := 103) (ci := 12) X xok12 (by decide +kernel) ob_180 (by decide +kernel) fl_RX12_328 d_X12_laysPlaces_103 ?_
  refine r_icmp_ge (pc := 106) (tgt := 148) X d_X12_laysPlaces_106 (by decide +kernel) ?_ ?_
  · exact t_X12_laysPlaces_148 X hr h52
  · refine r_iload_n (pc := 109) X d_X12_laysPlaces_109 fn1 ?_
    refine r_if_eq (pc := 110) (tgt := 148) X d_X12_laysPlaces_110 (by decide +kernel) ?_ ?_
    · exact t_X12_laysPlaces_148 X hr h52
    · refine r_aload_n (pc := 113) X d_X12_laysPlaces_113 fn0 ?_
      refine s_getF (pc := 114) (ci := 12) (k := 5) X xok12 (by decide +kernel) ob_180 trivial ly_180_5 (by decide +kernel) fl_RX12_30 d_X12_laysPlaces_114 ?_
      refine r_bipush (pc := 117) X d_X12_laysPlaces_117 (by decide +kernel) ?_
      refine r_iload_n (pc := 119) X d_X12_laysPlaces_119 fn3 ?_
      refine r_iadd (pc := 120) X d_X12_laysPlaces_120 ?_
      refine s_iald (pc := 121) X tn_182 ln_182 d_X12_laysPlaces_121 ?_
      refine r_iload_n (pc := 122) X d_X12_laysPlaces_122 fn3 ?_
      refine r_icmp_ne (pc := 123) (tgt := 142) X d_X12_laysPlaces_123 (by decide +kernel) ?_ ?_
      · exact t_X12_laysPlaces_142 X hr h101
      · refine r_aload_n (pc := 126) X d_X12_laysPlaces_126 fn0 ?_
        refine r_iload_n (pc := 127) X d_X12_laysPlaces_127 fn2 ?_
        refine r_iload_n (pc := 128) X d_X12_laysPlaces_128 fn3 ?_
        refine s_cv2 (pc := 129) (ci := 12) X xok12 (by decide +kernel) ob_180 rfl (con_X12_isPair l) mf_X12_isPair ml_RX12_399 (by decide +kernel) (by decide +kernel) d_X12_laysPlaces_129 ?_
        refine r_if_eq (pc := 132) (tgt := 142) X d_X12_laysPlaces_132 (by decide +kernel) ?_ ?_
        · exact t_X12_laysPlaces_142 X hr h101
        · refine r_aload_n (pc := 135) X d_X12_laysPlaces_135 fn0 ?_
          refine r_iload_n (pc := 136) X d_X12_laysPlaces_136 fn2 ?_
          refine r_iload_n (pc := 137) X d_X12_laysPlaces_137 fn3 ?_
          refine s_cv2 (pc := 138) (ci := 12) X xok12 (by decide +kernel) ob_180 rfl (con_X12_newPlace l) mf_X12_newPlace ml_RX12_396 (by decide +kernel) (by decide +kernel) d_X12_laysPlaces_138 ?_
          refine r_istore_n (pc := 141) X d_X12_laysPlaces_141 fn1 (by decide +kernel) ?_
          exact t_X12_laysPlaces_142 X hr h101
def k_X12_laysPlaces_172 (P : xP) (C172 : xK) : xK := x_iload 2 (x_aload 0 (y_getI 180 40 (x_icmp_ge (x_aload 0 (y_getF 180 198 (x_aload 0 (y_getI 180 40 (x_aload 0 (y_getI 180 41 (y_iast 198 81 (x_push (.int 1) (x_zret P))))))))) (x_aload 0 (x_iload 2 (y_cv1 180 (w_RI f_X12_laysSteps) (x_iinc 2 1 (C172))))))))
set_option maxRecDepth 20000 in
theorem t_X12_laysPlaces_172 {p : Program} {l : Launch} {e : Env} {s : State} {m : MethodId} {args : Array Value} {below : List Frame} {meth : Method} {c : Code} {g : xG} (X : xX p s m args c meth cX12_laysPlaces RX12 4 g) (hr : meth.sig.returnType = (some .boolean)) {P : xP} {C172 : xK} (h172 : xAt p l e { frames := 5, cells := 0, slots := 0, locals := 115 } s m args below meth c g 4 xFT xN 0 0 (MQ below (xQc g xFT xN P) args s 0 0 (xFr g)) C172 172) : xAt p l e { frames := 5, cells := 0, slots := 0, locals := 115 } s m args below meth c g 4 xFT xN 0 0 (MQ below (xQc g xFT xN P) args s 0 0 (xFr g)) (k_X12_laysPlaces_172 P C172) 172 := by
  unfold k_X12_laysPlaces_172
  refine r_iload_n (pc := 172) X d_X12_laysPlaces_172 fn2 ?_
  refine r_aload_n (pc := 173) X d_X12_laysPlaces_173 fn0 ?_
  refine s_getI (pc := 174) (ci := 12) X xok12 (by decide +kernel) ob_180 (by decide +kernel) fl_RX12_393 d_X12_laysPlaces_174 ?_
  refine r_icmp_ge (pc := 177) (tgt := 191) X d_X12_laysPlaces_177 (by decide +kernel) ?_ ?_
  · refine r_aload_n (pc := 191) X d_X12_laysPlaces_191 fn0 ?_
    refine s_getF (pc := 192) (ci := 12) (k := 37) X xok12 (by decide +kernel) ob_180 trivial ly_180_37 (by decide +kernel) fl_RX12_80 d_X12_laysPlaces_192 ?_
    refine r_aload_n (pc := 195) X d_X12_laysPlaces_195 fn0 ?_
    refine s_getI (pc := 196) (ci := 12) X xok12 (by decide +kernel) ob_180 (by decide +kernel) fl_RX12_393 d_X12_laysPlaces_196 ?_
    refine r_aload_n (pc := 199) X d_X12_laysPlaces_199 fn0 ?_
    refine s_getI (pc := 200) (ci := 12) X xok12 (by decide +kernel) ob_180 (by decide +kernel) fl_RX12_402 d_X12_laysPlaces_200 ?_
    refine s_iast (pc := 203) X tn_198 ln_198 d_X12_laysPlaces_203 ?_
    refine r_iconst (pc := 204) X d_X12_laysPlaces_204 (by decide +kernel) ?_
    exact r_zret (pc := 205) X hr d_X12_laysPlaces_205
  · refine r_aload_n (pc := 180) X d_X12_laysPlaces_180 fn0 ?_
    refine r_iload_n (pc := 181) X d_X12_laysPlaces_181 fn2 ?_
    refine s_cv1 (pc := 182) (ci := 12) X xok12 (by decide +kernel) ob_180 rfl (con_X12_laysSteps l) mf_X12_laysSteps ml_RX12_405 (by decide +kernel) (by decide +kernel) d_X12_laysPlaces_182 ?_
    refine r_iinc (pc := 185) X d_X12_laysPlaces_185 (by decide +kernel) (by decide +kernel) ?_
    refine r_goto (pc := 188) (tgt := 172) X d_X12_laysPlaces_188 (by decide +kernel) ?_
    exact h172
set_option maxRecDepth 20000 in
theorem m_X12_laysPlaces {l : Launch} {f : Nat → xH → xP → Prop}  {I52 : Nat → xH → xP → xM → xK} {I101 : Nat → xH → xP → xM → xK} {I172 : Nat → xH → xP → xM → xK}
    (v0 : ∀ (a0 : Nat) (A : xH) (P : xP), f a0 A P → k_X12_laysPlaces_0 P (xE (I52 a0 A P)) [some (.ref a0), none, none, none] [] A)
    (v52 : ∀ (a0 : Nat) (A : xH) (P : xP), f a0 A P → ∀ (μ : xM) (L : xL) (st : List Value) (B : xH), I52 a0 A P μ L st B → k_X12_laysPlaces_52 P (xB (I52 a0 A P) μ) (xB (I101 a0 A P) μ) (xE (I172 a0 A P)) L st B)
    (v101 : ∀ (a0 : Nat) (A : xH) (P : xP), f a0 A P → ∀ (μ : xM) (L : xL) (st : List Value) (B : xH), I101 a0 A P μ L st B → k_X12_laysPlaces_101 P (xB (I52 a0 A P) μ) (xB (I101 a0 A P) μ) L st B)
    (v172 : ∀ (a0 : Nat) (A : xH) (P : xP), f a0 A P → ∀ (μ : xM) (L : xL) (st : List Value) (B : xH), I172 a0 A P μ L st B → k_X12_laysPlaces_172 P (xB (I172 a0 A P) μ) L st B) : xCon l yX12_laysPlaces cX12_laysPlaces 4 (some .boolean) 5 115 xN xN 0 xFT xFT (w_R f) := by
  refine xc_R (plainFor_of_name pn_RX12) (by decide +kernel) (fun p e s m args below meth c g a0 A P h X hr _ => ?_)
  have h172 := x_loop1 (p := p) (l := l) (e := e) (R := { frames := 5, cells := 0, slots := 0, locals := 115 }) (s := s) (m := m) (args := args) (below := below) (meth := meth) (c := c) (g := g) (nL := 4) (F := xFT) (n := xN) (cells := 0) (slots := 0) (Q := MQ below (xQc g xFT xN P) args s 0 0 (xFr g)) (I := I172 a0 A P) (pc1 := 172) (fun μ i172 => xAt_mono (t_X12_laysPlaces_172 (P := P) X hr i172) (v172 a0 A P h μ))
  obtain ⟨h52, h101⟩ := x_loop2 (p := p) (l := l) (e := e) (R := { frames := 5, cells := 0, slots := 0, locals := 115 }) (s := s) (m := m) (args := args) (below := below) (meth := meth) (c := c) (g := g) (nL := 4) (F := xFT) (n := xN) (cells := 0) (slots := 0) (Q := MQ below (xQc g xFT xN P) args s 0 0 (xFr g)) (I1 := I52 a0 A P) (I2 := I101 a0 A P) (pc1 := 52) (pc2 := 101) (fun μ i52 i101 => xAt_mono (t_X12_laysPlaces_52 (P := P) X hr i52 i101 h172) (v52 a0 A P h μ)) (fun μ i52 i101 => xAt_mono (t_X12_laysPlaces_101 (P := P) X hr i52 i101) (v101 a0 A P h μ))
  exact ⟨_, v0 a0 A P h, t_X12_laysPlaces_0 X hr h52⟩
noncomputable def bsY (v : xV) : Nat → Nat
  | 0 => 0
  | p + 1 => bsY v p + cb (tY v p) 5376
def plDU (A : xH) (v : xV) : Prop := (80 < (plL v).length → xi A 180 40 = -1) ∧ ((plL v).length ≤ 80 → lsU A (plL v) ∧ (∀ p, p ≤ (plL v).length → xi A 198 p = nI (bsY v p)) ∧ ∀ p, p < (plL v).length → sU A v p (bsY v p) 5376)
def plcU (A : xH) (v : xV) : Prop := xi A 180 26 = 0 ∨ (xi A 180 26 = 1 ∧ plDU A v)
def SPU (c k : Nat) : Prop := (188 ≤ c ∧ c ≤ 191) ∨ (195 ≤ c ∧ c ≤ 200) ∨ (c = 180 ∧ (k = 24 ∨ k = 25 ∨ k = 26 ∨ k = 40 ∨ k = 41))
def lpP (A : xH) (P : xP) (v : xV) : Prop := (80 < (plL v).length → ∀ B, fr SPU A B → hIt B v → xi B 180 26 = 1 → plDU B v → P (some (.int 0)) B) ∧ ((plL v).length ≤ 80 → ∀ B, fr SPU A B → hIt B v → xi B 180 26 = 1 → plDU B v → P (some (.int 1)) B)
def f_X12_laysPlaces (q : Nat) (A : xH) (P : xP) : Prop := q = 180 ∧ ∃ v, rr A v ∧ plcU A v ∧ lpP A P v
def lpG (A B : xH) (P : xP) (v : xV) : Prop := lpP A P v ∧ fr SPU A B ∧ uI B v ∧ xi B 180 25 = 1 ∧ xi B 180 26 = 1
def lp52 (A : xH) (P : xP) : xM → xK := fun μ L st B => ∃ (v : xV) (n : Nat) (o : Option Value) (b : Bool), lpG A B P v ∧ n + 2 ≤ vN v ∧ (b = true → lsU B (plG v n)) ∧ (b = false → 80 < (plL v).length) ∧ st = [] ∧ L = [some (.ref 180), some (.int (bI b)), some (.int (nI (2 + n))), o] ∧ μ = (vN v - n, 50, 0)
def lp101 (A : xH) (P : xP) : xM → xK := fun μ L st B => ∃ (v : xV) (n c : Nat) (b : Bool), lpG A B P v ∧ n + 2 < vN v ∧ c ≤ vN v ∧ vD v ≠ 0 ∧ vcl v (2 + n) = 2 + n ∧ (b = true → lsU B (plG v n ++ plR v (2 + n) c)) ∧ (b = false → 80 < (plL v).length) ∧ st = [] ∧ L = [some (.ref 180), some (.int (bI b)), some (.int (nI (2 + n))), some (.int (nI c))] ∧ μ = (vN v - n, 42 - c, 0)
def lp172 (A : xH) (P : xP) : xM → xK := fun μ L st B => ∃ (v : xV) (p : Nat) (o : Option Value), lpG A B P v ∧ lsU B (plL v) ∧ p ≤ (plL v).length ∧ xi B 180 41 = nI (bsY v p) ∧ (∀ p', p' < p → xi B 198 p' = nI (bsY v p') ∧ sU B v p' (bsY v p') 5376) ∧ st = [] ∧ L = [some (.ref 180), some (.int (bI true)), some (.int (nI p)), o] ∧ μ = (80 - p, 0, 0)
theorem lpG_fr {A B C : xH} {P : xP} {v : xV} (h : lpG A B P v) (hf : fr SPu B C) : lpG A C P v := by
  obtain ⟨h1, h2, h3, h4, h5⟩ := h
  exact ⟨h1, fr_tr h2 (fr_mono hf (by unfold SPu SPU; omega)), uI_fr h3 hf (by unfold SPu; omega), by rw [fr_i hf (by unfold SPu; omega)]; exact h4, by rw [fr_i hf (by unfold SPu; omega)]; exact h5⟩
theorem lpG_ls {A B C : xH} {P : xP} {v : xV} (h : lpG A B P v) (hf : fr SLs B C) : lpG A C P v := by
  obtain ⟨h1, h2, h3, h4, h5⟩ := h
  exact ⟨h1, fr_tr h2 (fr_mono hf (by unfold SLs SPU; omega)), uI_fr h3 hf (by unfold SLs; omega), by rw [fr_i hf (by unfold SLs; omega)]; exact h4, by rw [fr_i hf (by unfold SLs; omega)]; exact h5⟩
theorem lpG_it {A B : xH} {P : xP} {v : xV} (h : lpG A B P v) : hIt B v := Or.inr ⟨h.2.2.2.1, h.2.2.1.2.2.2⟩
theorem plG_len {v : xV} {m n : Nat} (h : m ≤ n) : (plG v m).length ≤ (plG v n).length := by
  obtain ⟨d, rfl⟩ : ∃ d, n = m + d := ⟨n - m, by omega⟩
  clear h
  induction d with
  | zero => exact Nat.le_refl _
  | succ d ih =>
    have : (plG v (m + (d + 1))).length = (plG v (m + d)).length + (plW v (2 + (m + d))).length := by
      show (plG v (m + d) ++ plW v (2 + (m + d))).length = _
      rw [List.length_append]
    omega
theorem plR_len {v : xV} {g m n : Nat} (h : m ≤ n) : (plR v g m).length ≤ (plR v g n).length := by
  obtain ⟨d, rfl⟩ : ∃ d, n = m + d := ⟨n - m, by omega⟩
  clear h
  induction d with
  | zero => exact Nat.le_refl _
  | succ d ih =>
    have : (plR v g (m + d)).length ≤ (plR v g (m + (d + 1))).length := by
      show _ ≤ (plR v g (m + d) ++ _).length
      rw [List.length_append]; omega
    omega
theorem plG_to {v : xV} {n : Nat} (h : n + 2 < vN v) : (plG v n ++ plW v (2 + n)).length ≤ (plL v).length := plG_len (v := v) (m := n + 1) (n := vN v - 2) (by omega)
theorem bsY_le {v : xV} (hw : wfg v) (hc : wfc v) (h80 : (plL v).length ≤ 80) : ∀ p, bsY v p ≤ 960 * p
  | 0 => Nat.le_refl _
  | p + 1 => by
    have := bsY_le hw hc h80 p
    have h2 := tY_le (p := p) hw hc h80
    show bsY v p + cb (tY v p) 5376 ≤ _
    omega
theorem bsY_mono {v : xV} {p q : Nat} (h : p ≤ q) : bsY v p ≤ bsY v q := by
  obtain ⟨d, rfl⟩ : ∃ d, q = p + d := ⟨q - p, by omega⟩
  clear h
  induction d with
  | zero => exact Nat.le_refl _
  | succ d ih =>
    have : bsY v (p + (d + 1)) = bsY v (p + d) + cb (tY v (p + d)) 5376 := rfl
    omega
set_option maxRecDepth 20000 in
theorem con_X12_laysPlaces (l : Launch) : xCon l yX12_laysPlaces cX12_laysPlaces 4 (some .boolean) 5 115 xN xN 0 xFT xFT (w_R f_X12_laysPlaces) := by
  refine m_X12_laysPlaces (I52 := fun q A P => lp52 A P) (I101 := fun q A P => lp101 A P) (I172 := fun q A P => lp172 A P) ?_ ?_ ?_ ?_
  · rintro q A P ⟨rfl, v, ⟨hR, hw, hwc, hI⟩, hc, hP⟩
    simp (disch := omega) only [k_X12_laysPlaces_0, k_X12_laysPlaces_52, k_X12_laysPlaces_101, k_X12_laysPlaces_172, k_X12_laysPlaces_19, k_X12_laysPlaces_142, k_X12_laysPlaces_148, k_X12_laysPlaces_154, w_R, w_RI, w_RII, x_aload, x_iadd, x_icmp_eq, x_icmp_ge, x_icmp_ne, x_if_eq, x_if_lt, x_if_ne, x_iinc, x_iload, x_istore, x_pop, x_push, x_zret, y_cv0, y_cv1, y_cv2, y_getF, y_getI, y_iald, y_iast, y_putI, y_putZ, xFT, xbool0, xbool1, Nat.reduceAdd, Nat.zero_add, xgl_0, xgl_s, xgl_n, xst_0, xst_1n, xst_1i, xst_1r, xst_1l, xst_s, set_0, set_s, true_and, and_true, xres, xcat_nil, xcat_i, xcat_r, xcat_l, Nat.add_zero, xble0, xble1, xble2, xble3, xble4, xble5, xble6, xble7, xble8, pk_mul, nI_add, nI_1, nI_leI, nI_ltI, nI_eq, n_in, n_cl, z_eq, z_lt, z_le, z_gt, z_ge, z_qe, o_eq, o_lt, o_le, o_gt, o_ge, vp0, vp1, cl0, cl1, n_sub, n_sub1, n_pm1, n_a0, n_0a, ofn, lN0, Nat.reduceLT, Nat.reduceLeDiff, Nat.reduceMul, Nat.reduceSub, Nat.reduceEqDiff, ne_eq, true_implies, false_implies, not_true_eq_false, not_false_eq_true, and_self, and_true, true_and, and_false, false_and, implies_true, if_true, if_false, i00, i10, i01, i11, ob_0, ob_1, tn_2, ln_2, ob_3, tn_4, ln_4, ob_5, tn_6, ln_6, tn_7, ln_7, ob_8, tn_9, ln_9, tn_10, ln_10, tn_11, ln_11, tn_12, ln_12, tn_13, ln_13, tn_14, ln_14, tn_15, ln_15, tn_16, ln_16, tn_17, ln_17, ob_18, tn_19, ln_19, tn_20, ln_20, tn_21, ln_21, tn_22, ln_22, tn_23, ln_23, tn_24, ln_24, tn_25, ln_25, tn_26, ln_26, tn_27, ln_27, ob_28, tn_29, ln_29, tn_30, ln_30, ob_31, tn_32, ln_32, tn_33, ln_33, ob_34, ob_35, tn_36, ln_36, tn_37, ln_37, tn_38, ln_38, ob_39, tn_40, ln_40, tn_41, ln_41, tn_42, ln_42, tn_43, ln_43, tn_44, ln_44, tn_45, ln_45, tn_46, ln_46, tn_47, ln_47, tn_48, ln_48, tn_49, ln_49, tn_50, ln_50, tn_51, ln_51, ob_52, tn_53, ln_53, tn_54, ln_54, tn_55, ln_55, tn_56, ln_56, ob_57, tn_58, ln_58, tn_59, ln_59, tn_60, ln_60, tn_61, ln_61, tn_62, ln_62, tn_63, ln_63, tn_64, ln_64, tn_65, ln_65, ob_66, tn_67, ln_67, tn_68, ln_68, tn_69, ln_69, tn_70, ln_70, tn_71, ln_71, tn_72, ln_72, tn_73, ln_73, ob_74, tn_75, ln_75, tn_76, ln_76, tn_77, ln_77, tn_78, ln_78, tn_79, ln_79, tn_80, ln_80, tn_81, ln_81, tn_82, ln_82, tn_83, ln_83, ob_84, tn_85, ln_85, tn_86, ln_86, tn_87, ln_87, tn_88, ln_88, tn_89, ln_89, tn_90, ln_90, tn_91, ln_91, tn_92, ln_92, tn_93, ln_93, ob_94, tn_95, ln_95, tn_96, ln_96, tn_97, ln_97, tn_98, ln_98, tn_99, ln_99, tn_100, ln_100, tn_101, ln_101, tn_102, ln_102, tn_103, ln_103, ob_104, tn_105, ln_105, tn_106, ln_106, tn_107, ln_107, tn_108, ln_108, tn_109, ln_109, tn_110, ln_110, tn_111, ln_111, tn_112, ln_112, tn_113, ln_113, ob_114, tn_115, ln_115, tn_116, ln_116, tn_117, ln_117, tn_118, ln_118, tn_119, ln_119, tn_120, ln_120, tn_121, ln_121, tn_122, ln_122, tn_123, ln_123, ob_124, tn_125, ln_125, tn_126, ln_126, tn_127, ln_127, tn_128, ln_128, tn_129, ln_129, tn_130, ln_130, tn_131, ln_131, tn_132, ln_132, tn_133, ln_133, ob_134, tn_135, ln_135, tn_136, ln_136, tn_137, ln_137, tn_138, ln_138, tn_139, ln_139, tn_140, ln_140, tn_141, ln_141, tn_142, ln_142, tn_143, ln_143, ob_144, tn_145, ln_145, tn_146, ln_146, tn_147, ln_147, tn_148, ln_148, tn_149, ln_149, tn_150, ln_150, tn_151, ln_151, tn_152, ln_152, tn_153, ln_153, ob_154, tn_155, ln_155, tn_156, ln_156, tn_157, ln_157, tn_158, ln_158, tn_159, ln_159, tn_160, ln_160, tn_161, ln_161, tn_162, ln_162, tn_163, ln_163, ob_164, tn_165, ln_165, tn_166, ln_166, ob_167, tn_168, ln_168, tn_169, ln_169, tn_170, ln_170, tn_171, ln_171, tn_172, ln_172, tn_173, ln_173, tn_174, ln_174, tn_175, ln_175, tn_176, ln_176, ob_177, tn_178, ln_178, tn_179, ln_179, ob_180, tn_181, ln_181, tn_182, ln_182, tn_183, ln_183, tn_184, ln_184, tn_185, ln_185, tn_186, ln_186, tn_187, ln_187, tn_188, ln_188, tn_189, ln_189, tn_190, ln_190, tn_191, ln_191, tn_192, ln_192, tn_193, ln_193, tn_194, ln_194, tn_195, ln_195, tn_196, ln_196, tn_197, ln_197, tn_198, ln_198, tn_199, ln_199, tn_200, ln_200, tn_201, ln_201, tn_202, ln_202, tn_203, ln_203, tn_204, ln_204, tn_205, ln_205, tn_206, ln_206, tn_207, ln_207, tn_208, ln_208, tn_209, ln_209, tn_210, ln_210, tn_211, ln_211, tn_212, ln_212, tn_213, ln_213, tn_214, ln_214, tn_215, ln_215, tn_216, ln_216, tn_217, ln_217, tn_218, ln_218, tn_219, ln_219, tn_220, ln_220, tn_221, ln_221, tn_222, ln_222, tn_223, ln_223, tn_224, ln_224, tn_225, ln_225, tn_226, ln_226, tn_227, ln_227, tn_228, ln_228, tn_229, ln_229, tn_230, ln_230, lx2, lx3, lx4, lx5, lx6, lx7, lx8, lx9, lx10, lx14, lx15, lx16, lx18, lx20, lx24, lx25, lx27, lx32, lx36, lx40, lx41, lx42, lx43, lx45, lx48, lx52, lx54, lx56, lx57, lx58, lx60, lx61, lx62, lx63, lx64, lx66, lx69, lx73, lx80, lx81, lx84, lx85, lx87, lx94, lx96, lx97, lx120, lx128, lx135, lx160, lx162, lx163, lx165, lx200, lx232, lx242, lx243, lx255, lx256, lx320, lx325, lx400, lx405, lx464, lx512, lx600, lx640, lx752, lx900, lx940, lx1000, lx1024, lx1764, lx3360, lx3840, lx5000, lx6400, lx9050, lx9998, lx9999, lx10000, lx25600, lx76800, lx99999]
    refine ⟨fun a => ?_, fun a => ?_⟩
    · have f1 : fr SPU A (xsi A 180 26 1) := fr_si fr_rf (by unfold SPU; omega)
      have hR1 : isR (xsi A 180 26 1) v := isR_fr hR f1 (by unfold SPU; omega)
      have hI1 : hIt (xsi A 180 26 1) v := by
        rcases hI with z | ⟨z1, z2⟩
        · exact Or.inl (by rw [si_ne (by omega)]; exact z)
        · exact Or.inr ⟨by rw [si_ne (by omega)]; exact z1, itP_fr z2 (S := fun c k => c = 180 ∧ k = 26) (fr_si fr_rf (by omega)) (by omega)⟩
      refine ⟨rfl, v, hR1, hw, hI1, fun B hB iB h25 => ?_⟩
      have hRB : isR B v := isR_fr hR1 hB (by unfold SIt; omega)
      have g26 : xi B 180 26 = 1 := by rw [fr_i hB (by unfold SIt; omega)]; exact si_eq
      have G0 : lpG A (xsi B 180 40 0) P v := by
        refine lpG_fr (B := B) ⟨hP, fr_tr f1 (fr_mono hB (by unfold SIt SPU; omega)), ⟨hRB, hw, hwc, iB⟩, h25, g26⟩ (fr_si fr_rf (by unfold SPu; omega))
      have h0 : lsU (xsi B 180 40 0) [] := ⟨si_eq, Nat.zero_le _, fun i x hx => by cases hx⟩
      simp (disch := omega) only [k_X12_laysPlaces_0, k_X12_laysPlaces_52, k_X12_laysPlaces_101, k_X12_laysPlaces_172, k_X12_laysPlaces_19, k_X12_laysPlaces_142, k_X12_laysPlaces_148, k_X12_laysPlaces_154, w_R, w_RI, w_RII, x_aload, x_iadd, x_icmp_eq, x_icmp_ge, x_icmp_ne, x_if_eq, x_if_lt, x_if_ne, x_iinc, x_iload, x_istore, x_pop, x_push, x_zret, y_cv0, y_cv1, y_cv2, y_getF, y_getI, y_iald, y_iast, y_putI, y_putZ, xFT, xbool0, xbool1, Nat.reduceAdd, Nat.zero_add, xgl_0, xgl_s, xgl_n, xst_0, xst_1n, xst_1i, xst_1r, xst_1l, xst_s, set_0, set_s, true_and, and_true, xres, xcat_nil, xcat_i, xcat_r, xcat_l, Nat.add_zero, xble0, xble1, xble2, xble3, xble4, xble5, xble6, xble7, xble8, pk_mul, nI_add, nI_1, nI_leI, nI_ltI, nI_eq, n_in, n_cl, z_eq, z_lt, z_le, z_gt, z_ge, z_qe, o_eq, o_lt, o_le, o_gt, o_ge, vp0, vp1, cl0, cl1, n_sub, n_sub1, n_pm1, n_a0, n_0a, ofn, lN0, Nat.reduceLT, Nat.reduceLeDiff, Nat.reduceMul, Nat.reduceSub, Nat.reduceEqDiff, ne_eq, true_implies, false_implies, not_true_eq_false, not_false_eq_true, and_self, and_true, true_and, and_false, false_and, implies_true, if_true, if_false, i00, i10, i01, i11, ob_0, ob_1, tn_2, ln_2, ob_3, tn_4, ln_4, ob_5, tn_6, ln_6, tn_7, ln_7, ob_8, tn_9, ln_9, tn_10, ln_10, tn_11, ln_11, tn_12, ln_12, tn_13, ln_13, tn_14, ln_14, tn_15, ln_15, tn_16, ln_16, tn_17, ln_17, ob_18, tn_19, ln_19, tn_20, ln_20, tn_21, ln_21, tn_22, ln_22, tn_23, ln_23, tn_24, ln_24, tn_25, ln_25, tn_26, ln_26, tn_27, ln_27, ob_28, tn_29, ln_29, tn_30, ln_30, ob_31, tn_32, ln_32, tn_33, ln_33, ob_34, ob_35, tn_36, ln_36, tn_37, ln_37, tn_38, ln_38, ob_39, tn_40, ln_40, tn_41, ln_41, tn_42, ln_42, tn_43, ln_43, tn_44, ln_44, tn_45, ln_45, tn_46, ln_46, tn_47, ln_47, tn_48, ln_48, tn_49, ln_49, tn_50, ln_50, tn_51, ln_51, ob_52, tn_53, ln_53, tn_54, ln_54, tn_55, ln_55, tn_56, ln_56, ob_57, tn_58, ln_58, tn_59, ln_59, tn_60, ln_60, tn_61, ln_61, tn_62, ln_62, tn_63, ln_63, tn_64, ln_64, tn_65, ln_65, ob_66, tn_67, ln_67, tn_68, ln_68, tn_69, ln_69, tn_70, ln_70, tn_71, ln_71, tn_72, ln_72, tn_73, ln_73, ob_74, tn_75, ln_75, tn_76, ln_76, tn_77, ln_77, tn_78, ln_78, tn_79, ln_79, tn_80, ln_80, tn_81, ln_81, tn_82, ln_82, tn_83, ln_83, ob_84, tn_85, ln_85, tn_86, ln_86, tn_87, ln_87, tn_88, ln_88, tn_89, ln_89, tn_90, ln_90, tn_91, ln_91, tn_92, ln_92, tn_93, ln_93, ob_94, tn_95, ln_95, tn_96, ln_96, tn_97, ln_97, tn_98, ln_98, tn_99, ln_99, tn_100, ln_100, tn_101, ln_101, tn_102, ln_102, tn_103, ln_103, ob_104, tn_105, ln_105, tn_106, ln_106, tn_107, ln_107, tn_108, ln_108, tn_109, ln_109, tn_110, ln_110, tn_111, ln_111, tn_112, ln_112, tn_113, ln_113, ob_114, tn_115, ln_115, tn_116, ln_116, tn_117, ln_117, tn_118, ln_118, tn_119, ln_119, tn_120, ln_120, tn_121, ln_121, tn_122, ln_122, tn_123, ln_123, ob_124, tn_125, ln_125, tn_126, ln_126, tn_127, ln_127, tn_128, ln_128, tn_129, ln_129, tn_130, ln_130, tn_131, ln_131, tn_132, ln_132, tn_133, ln_133, ob_134, tn_135, ln_135, tn_136, ln_136, tn_137, ln_137, tn_138, ln_138, tn_139, ln_139, tn_140, ln_140, tn_141, ln_141, tn_142, ln_142, tn_143, ln_143, ob_144, tn_145, ln_145, tn_146, ln_146, tn_147, ln_147, tn_148, ln_148, tn_149, ln_149, tn_150, ln_150, tn_151, ln_151, tn_152, ln_152, tn_153, ln_153, ob_154, tn_155, ln_155, tn_156, ln_156, tn_157, ln_157, tn_158, ln_158, tn_159, ln_159, tn_160, ln_160, tn_161, ln_161, tn_162, ln_162, tn_163, ln_163, ob_164, tn_165, ln_165, tn_166, ln_166, ob_167, tn_168, ln_168, tn_169, ln_169, tn_170, ln_170, tn_171, ln_171, tn_172, ln_172, tn_173, ln_173, tn_174, ln_174, tn_175, ln_175, tn_176, ln_176, ob_177, tn_178, ln_178, tn_179, ln_179, ob_180, tn_181, ln_181, tn_182, ln_182, tn_183, ln_183, tn_184, ln_184, tn_185, ln_185, tn_186, ln_186, tn_187, ln_187, tn_188, ln_188, tn_189, ln_189, tn_190, ln_190, tn_191, ln_191, tn_192, ln_192, tn_193, ln_193, tn_194, ln_194, tn_195, ln_195, tn_196, ln_196, tn_197, ln_197, tn_198, ln_198, tn_199, ln_199, tn_200, ln_200, tn_201, ln_201, tn_202, ln_202, tn_203, ln_203, tn_204, ln_204, tn_205, ln_205, tn_206, ln_206, tn_207, ln_207, tn_208, ln_208, tn_209, ln_209, tn_210, ln_210, tn_211, ln_211, tn_212, ln_212, tn_213, ln_213, tn_214, ln_214, tn_215, ln_215, tn_216, ln_216, tn_217, ln_217, tn_218, ln_218, tn_219, ln_219, tn_220, ln_220, tn_221, ln_221, tn_222, ln_222, tn_223, ln_223, tn_224, ln_224, tn_225, ln_225, tn_226, ln_226, tn_227, ln_227, tn_228, ln_228, tn_229, ln_229, tn_230, ln_230, lx2, lx3, lx4, lx5, lx6, lx7, lx8, lx9, lx10, lx14, lx15, lx16, lx18, lx20, lx24, lx25, lx27, lx32, lx36, lx40, lx41, lx42, lx43, lx45, lx48, lx52, lx54, lx56, lx57, lx58, lx60, lx61, lx62, lx63, lx64, lx66, lx69, lx73, lx80, lx81, lx84, lx85, lx87, lx94, lx96, lx97, lx120, lx128, lx135, lx160, lx162, lx163, lx165, lx200, lx232, lx242, lx243, lx255, lx256, lx320, lx325, lx400, lx405, lx464, lx512, lx600, lx640, lx752, lx900, lx940, lx1000, lx1024, lx1764, lx3360, lx3840, lx5000, lx6400, lx9050, lx9998, lx9999, lx10000, lx25600, lx76800, lx99999]
      refine newPlace_U (g := 0) (c := 42) h0 (by omega) (by omega) (fun y hy => by cases hy) (fun z => by cases z) fun _ C hC lC => ?_
      simp (disch := omega) only [k_X12_laysPlaces_0, k_X12_laysPlaces_52, k_X12_laysPlaces_101, k_X12_laysPlaces_172, k_X12_laysPlaces_19, k_X12_laysPlaces_142, k_X12_laysPlaces_148, k_X12_laysPlaces_154, w_R, w_RI, w_RII, x_aload, x_iadd, x_icmp_eq, x_icmp_ge, x_icmp_ne, x_if_eq, x_if_lt, x_if_ne, x_iinc, x_iload, x_istore, x_pop, x_push, x_zret, y_cv0, y_cv1, y_cv2, y_getF, y_getI, y_iald, y_iast, y_putI, y_putZ, xFT, xbool0, xbool1, Nat.reduceAdd, Nat.zero_add, xgl_0, xgl_s, xgl_n, xst_0, xst_1n, xst_1i, xst_1r, xst_1l, xst_s, set_0, set_s, true_and, and_true, xres, xcat_nil, xcat_i, xcat_r, xcat_l, Nat.add_zero, xble0, xble1, xble2, xble3, xble4, xble5, xble6, xble7, xble8, pk_mul, nI_add, nI_1, nI_leI, nI_ltI, nI_eq, n_in, n_cl, z_eq, z_lt, z_le, z_gt, z_ge, z_qe, o_eq, o_lt, o_le, o_gt, o_ge, vp0, vp1, cl0, cl1, n_sub, n_sub1, n_pm1, n_a0, n_0a, ofn, lN0, Nat.reduceLT, Nat.reduceLeDiff, Nat.reduceMul, Nat.reduceSub, Nat.reduceEqDiff, ne_eq, true_implies, false_implies, not_true_eq_false, not_false_eq_true, and_self, and_true, true_and, and_false, false_and, implies_true, if_true, if_false, i00, i10, i01, i11, ob_0, ob_1, tn_2, ln_2, ob_3, tn_4, ln_4, ob_5, tn_6, ln_6, tn_7, ln_7, ob_8, tn_9, ln_9, tn_10, ln_10, tn_11, ln_11, tn_12, ln_12, tn_13, ln_13, tn_14, ln_14, tn_15, ln_15, tn_16, ln_16, tn_17, ln_17, ob_18, tn_19, ln_19, tn_20, ln_20, tn_21, ln_21, tn_22, ln_22, tn_23, ln_23, tn_24, ln_24, tn_25, ln_25, tn_26, ln_26, tn_27, ln_27, ob_28, tn_29, ln_29, tn_30, ln_30, ob_31, tn_32, ln_32, tn_33, ln_33, ob_34, ob_35, tn_36, ln_36, tn_37, ln_37, tn_38, ln_38, ob_39, tn_40, ln_40, tn_41, ln_41, tn_42, ln_42, tn_43, ln_43, tn_44, ln_44, tn_45, ln_45, tn_46, ln_46, tn_47, ln_47, tn_48, ln_48, tn_49, ln_49, tn_50, ln_50, tn_51, ln_51, ob_52, tn_53, ln_53, tn_54, ln_54, tn_55, ln_55, tn_56, ln_56, ob_57, tn_58, ln_58, tn_59, ln_59, tn_60, ln_60, tn_61, ln_61, tn_62, ln_62, tn_63, ln_63, tn_64, ln_64, tn_65, ln_65, ob_66, tn_67, ln_67, tn_68, ln_68, tn_69, ln_69, tn_70, ln_70, tn_71, ln_71, tn_72, ln_72, tn_73, ln_73, ob_74, tn_75, ln_75, tn_76, ln_76, tn_77, ln_77, tn_78, ln_78, tn_79, ln_79, tn_80, ln_80, tn_81, ln_81, tn_82, ln_82, tn_83, ln_83, ob_84, tn_85, ln_85, tn_86, ln_86, tn_87, ln_87, tn_88, ln_88, tn_89, ln_89, tn_90, ln_90, tn_91, ln_91, tn_92, ln_92, tn_93, ln_93, ob_94, tn_95, ln_95, tn_96, ln_96, tn_97, ln_97, tn_98, ln_98, tn_99, ln_99, tn_100, ln_100, tn_101, ln_101, tn_102, ln_102, tn_103, ln_103, ob_104, tn_105, ln_105, tn_106, ln_106, tn_107, ln_107, tn_108, ln_108, tn_109, ln_109, tn_110, ln_110, tn_111, ln_111, tn_112, ln_112, tn_113, ln_113, ob_114, tn_115, ln_115, tn_116, ln_116, tn_117, ln_117, tn_118, ln_118, tn_119, ln_119, tn_120, ln_120, tn_121, ln_121, tn_122, ln_122, tn_123, ln_123, ob_124, tn_125, ln_125, tn_126, ln_126, tn_127, ln_127, tn_128, ln_128, tn_129, ln_129, tn_130, ln_130, tn_131, ln_131, tn_132, ln_132, tn_133, ln_133, ob_134, tn_135, ln_135, tn_136, ln_136, tn_137, ln_137, tn_138, ln_138, tn_139, ln_139, tn_140, ln_140, tn_141, ln_141, tn_142, ln_142, tn_143, ln_143, ob_144, tn_145, ln_145, tn_146, ln_146, tn_147, ln_147, tn_148, ln_148, tn_149, ln_149, tn_150, ln_150, tn_151, ln_151, tn_152, ln_152, tn_153, ln_153, ob_154, tn_155, ln_155, tn_156, ln_156, tn_157, ln_157, tn_158, ln_158, tn_159, ln_159, tn_160, ln_160, tn_161, ln_161, tn_162, ln_162, tn_163, ln_163, ob_164, tn_165, ln_165, tn_166, ln_166, ob_167, tn_168, ln_168, tn_169, ln_169, tn_170, ln_170, tn_171, ln_171, tn_172, ln_172, tn_173, ln_173, tn_174, ln_174, tn_175, ln_175, tn_176, ln_176, ob_177, tn_178, ln_178, tn_179, ln_179, ob_180, tn_181, ln_181, tn_182, ln_182, tn_183, ln_183, tn_184, ln_184, tn_185, ln_185, tn_186, ln_186, tn_187, ln_187, tn_188, ln_188, tn_189, ln_189, tn_190, ln_190, tn_191, ln_191, tn_192, ln_192, tn_193, ln_193, tn_194, ln_194, tn_195, ln_195, tn_196, ln_196, tn_197, ln_197, tn_198, ln_198, tn_199, ln_199, tn_200, ln_200, tn_201, ln_201, tn_202, ln_202, tn_203, ln_203, tn_204, ln_204, tn_205, ln_205, tn_206, ln_206, tn_207, ln_207, tn_208, ln_208, tn_209, ln_209, tn_210, ln_210, tn_211, ln_211, tn_212, ln_212, tn_213, ln_213, tn_214, ln_214, tn_215, ln_215, tn_216, ln_216, tn_217, ln_217, tn_218, ln_218, tn_219, ln_219, tn_220, ln_220, tn_221, ln_221, tn_222, ln_222, tn_223, ln_223, tn_224, ln_224, tn_225, ln_225, tn_226, ln_226, tn_227, ln_227, tn_228, ln_228, tn_229, ln_229, tn_230, ln_230, lx2, lx3, lx4, lx5, lx6, lx7, lx8, lx9, lx10, lx14, lx15, lx16, lx18, lx20, lx24, lx25, lx27, lx32, lx36, lx40, lx41, lx42, lx43, lx45, lx48, lx52, lx54, lx56, lx57, lx58, lx60, lx61, lx62, lx63, lx64, lx66, lx69, lx73, lx80, lx81, lx84, lx85, lx87, lx94, lx96, lx97, lx120, lx128, lx135, lx160, lx162, lx163, lx165, lx200, lx232, lx242, lx243, lx255, lx256, lx320, lx325, lx400, lx405, lx464, lx512, lx600, lx640, lx752, lx900, lx940, lx1000, lx1024, lx1764, lx3360, lx3840, lx5000, lx6400, lx9050, lx9998, lx9999, lx10000, lx25600, lx76800, lx99999]
      refine newPlace_U (g := 1) (c := 42) lC (by omega) (by omega) (fun y hy => ?_) (fun z => by cases z) fun _ D hD lD => ?_
      · simp only [List.nil_append, List.mem_singleton] at hy
        subst hy
        decide
      · simp (disch := omega) only [k_X12_laysPlaces_0, k_X12_laysPlaces_52, k_X12_laysPlaces_101, k_X12_laysPlaces_172, k_X12_laysPlaces_19, k_X12_laysPlaces_142, k_X12_laysPlaces_148, k_X12_laysPlaces_154, w_R, w_RI, w_RII, x_aload, x_iadd, x_icmp_eq, x_icmp_ge, x_icmp_ne, x_if_eq, x_if_lt, x_if_ne, x_iinc, x_iload, x_istore, x_pop, x_push, x_zret, y_cv0, y_cv1, y_cv2, y_getF, y_getI, y_iald, y_iast, y_putI, y_putZ, xFT, xbool0, xbool1, Nat.reduceAdd, Nat.zero_add, xgl_0, xgl_s, xgl_n, xst_0, xst_1n, xst_1i, xst_1r, xst_1l, xst_s, set_0, set_s, true_and, and_true, xres, xcat_nil, xcat_i, xcat_r, xcat_l, Nat.add_zero, xble0, xble1, xble2, xble3, xble4, xble5, xble6, xble7, xble8, pk_mul, nI_add, nI_1, nI_leI, nI_ltI, nI_eq, n_in, n_cl, z_eq, z_lt, z_le, z_gt, z_ge, z_qe, o_eq, o_lt, o_le, o_gt, o_ge, vp0, vp1, cl0, cl1, n_sub, n_sub1, n_pm1, n_a0, n_0a, ofn, lN0, Nat.reduceLT, Nat.reduceLeDiff, Nat.reduceMul, Nat.reduceSub, Nat.reduceEqDiff, ne_eq, true_implies, false_implies, not_true_eq_false, not_false_eq_true, and_self, and_true, true_and, and_false, false_and, implies_true, if_true, if_false, i00, i10, i01, i11, ob_0, ob_1, tn_2, ln_2, ob_3, tn_4, ln_4, ob_5, tn_6, ln_6, tn_7, ln_7, ob_8, tn_9, ln_9, tn_10, ln_10, tn_11, ln_11, tn_12, ln_12, tn_13, ln_13, tn_14, ln_14, tn_15, ln_15, tn_16, ln_16, tn_17, ln_17, ob_18, tn_19, ln_19, tn_20, ln_20, tn_21, ln_21, tn_22, ln_22, tn_23, ln_23, tn_24, ln_24, tn_25, ln_25, tn_26, ln_26, tn_27, ln_27, ob_28, tn_29, ln_29, tn_30, ln_30, ob_31, tn_32, ln_32, tn_33, ln_33, ob_34, ob_35, tn_36, ln_36, tn_37, ln_37, tn_38, ln_38, ob_39, tn_40, ln_40, tn_41, ln_41, tn_42, ln_42, tn_43, ln_43, tn_44, ln_44, tn_45, ln_45, tn_46, ln_46, tn_47, ln_47, tn_48, ln_48, tn_49, ln_49, tn_50, ln_50, tn_51, ln_51, ob_52, tn_53, ln_53, tn_54, ln_54, tn_55, ln_55, tn_56, ln_56, ob_57, tn_58, ln_58, tn_59, ln_59, tn_60, ln_60, tn_61, ln_61, tn_62, ln_62, tn_63, ln_63, tn_64, ln_64, tn_65, ln_65, ob_66, tn_67, ln_67, tn_68, ln_68, tn_69, ln_69, tn_70, ln_70, tn_71, ln_71, tn_72, ln_72, tn_73, ln_73, ob_74, tn_75, ln_75, tn_76, ln_76, tn_77, ln_77, tn_78, ln_78, tn_79, ln_79, tn_80, ln_80, tn_81, ln_81, tn_82, ln_82, tn_83, ln_83, ob_84, tn_85, ln_85, tn_86, ln_86, tn_87, ln_87, tn_88, ln_88, tn_89, ln_89, tn_90, ln_90, tn_91, ln_91, tn_92, ln_92, tn_93, ln_93, ob_94, tn_95, ln_95, tn_96, ln_96, tn_97, ln_97, tn_98, ln_98, tn_99, ln_99, tn_100, ln_100, tn_101, ln_101, tn_102, ln_102, tn_103, ln_103, ob_104, tn_105, ln_105, tn_106, ln_106, tn_107, ln_107, tn_108, ln_108, tn_109, ln_109, tn_110, ln_110, tn_111, ln_111, tn_112, ln_112, tn_113, ln_113, ob_114, tn_115, ln_115, tn_116, ln_116, tn_117, ln_117, tn_118, ln_118, tn_119, ln_119, tn_120, ln_120, tn_121, ln_121, tn_122, ln_122, tn_123, ln_123, ob_124, tn_125, ln_125, tn_126, ln_126, tn_127, ln_127, tn_128, ln_128, tn_129, ln_129, tn_130, ln_130, tn_131, ln_131, tn_132, ln_132, tn_133, ln_133, ob_134, tn_135, ln_135, tn_136, ln_136, tn_137, ln_137, tn_138, ln_138, tn_139, ln_139, tn_140, ln_140, tn_141, ln_141, tn_142, ln_142, tn_143, ln_143, ob_144, tn_145, ln_145, tn_146, ln_146, tn_147, ln_147, tn_148, ln_148, tn_149, ln_149, tn_150, ln_150, tn_151, ln_151, tn_152, ln_152, tn_153, ln_153, ob_154, tn_155, ln_155, tn_156, ln_156, tn_157, ln_157, tn_158, ln_158, tn_159, ln_159, tn_160, ln_160, tn_161, ln_161, tn_162, ln_162, tn_163, ln_163, ob_164, tn_165, ln_165, tn_166, ln_166, ob_167, tn_168, ln_168, tn_169, ln_169, tn_170, ln_170, tn_171, ln_171, tn_172, ln_172, tn_173, ln_173, tn_174, ln_174, tn_175, ln_175, tn_176, ln_176, ob_177, tn_178, ln_178, tn_179, ln_179, ob_180, tn_181, ln_181, tn_182, ln_182, tn_183, ln_183, tn_184, ln_184, tn_185, ln_185, tn_186, ln_186, tn_187, ln_187, tn_188, ln_188, tn_189, ln_189, tn_190, ln_190, tn_191, ln_191, tn_192, ln_192, tn_193, ln_193, tn_194, ln_194, tn_195, ln_195, tn_196, ln_196, tn_197, ln_197, tn_198, ln_198, tn_199, ln_199, tn_200, ln_200, tn_201, ln_201, tn_202, ln_202, tn_203, ln_203, tn_204, ln_204, tn_205, ln_205, tn_206, ln_206, tn_207, ln_207, tn_208, ln_208, tn_209, ln_209, tn_210, ln_210, tn_211, ln_211, tn_212, ln_212, tn_213, ln_213, tn_214, ln_214, tn_215, ln_215, tn_216, ln_216, tn_217, ln_217, tn_218, ln_218, tn_219, ln_219, tn_220, ln_220, tn_221, ln_221, tn_222, ln_222, tn_223, ln_223, tn_224, ln_224, tn_225, ln_225, tn_226, ln_226, tn_227, ln_227, tn_228, ln_228, tn_229, ln_229, tn_230, ln_230, lx2, lx3, lx4, lx5, lx6, lx7, lx8, lx9, lx10, lx14, lx15, lx16, lx18, lx20, lx24, lx25, lx27, lx32, lx36, lx40, lx41, lx42, lx43, lx45, lx48, lx52, lx54, lx56, lx57, lx58, lx60, lx61, lx62, lx63, lx64, lx66, lx69, lx73, lx80, lx81, lx84, lx85, lx87, lx94, lx96, lx97, lx120, lx128, lx135, lx160, lx162, lx163, lx165, lx200, lx232, lx242, lx243, lx255, lx256, lx320, lx325, lx400, lx405, lx464, lx512, lx600, lx640, lx752, lx900, lx940, lx1000, lx1024, lx1764, lx3360, lx3840, lx5000, lx6400, lx9050, lx9998, lx9999, lx10000, lx25600, lx76800, lx99999]
        exact xE0 (vN v - 0, 50, 0) ⟨v, 0, none, true, lpG_fr (lpG_fr G0 hC) hD, vN_ge v, fun _ => lD, fun z => Bool.noConfusion z, rfl, rfl, rfl⟩
    · rcases hc with z | ⟨z1, z2⟩
      · exact absurd z a
      · by_cases h80 : 80 < (plL v).length
        · rw [z2.1 h80]
          exact ⟨fun _ => hP.1 h80 A fr_rf hI z1 z2, fun z => absurd (by decide) z⟩
        · have hl := (z2.2 (by omega)).1.1
          rw [hl]
          exact ⟨fun z => absurd z (nI_pos (by omega)), fun _ => hP.2 (by omega) A fr_rf hI z1 z2⟩
  · rintro q A P - μ L st B ⟨v, n, o, b, hG, hn, h1, h0, rfl, rfl, rfl⟩
    have hG0 := hG
    obtain ⟨hP, hF, hU, h25, h26⟩ := hG
    have h24 := hU.2.2.2.1
    have hN := vN_le hU.2.1
    simp (disch := omega) only [k_X12_laysPlaces_0, k_X12_laysPlaces_52, k_X12_laysPlaces_101, k_X12_laysPlaces_172, k_X12_laysPlaces_19, k_X12_laysPlaces_142, k_X12_laysPlaces_148, k_X12_laysPlaces_154, w_R, w_RI, w_RII, x_aload, x_iadd, x_icmp_eq, x_icmp_ge, x_icmp_ne, x_if_eq, x_if_lt, x_if_ne, x_iinc, x_iload, x_istore, x_pop, x_push, x_zret, y_cv0, y_cv1, y_cv2, y_getF, y_getI, y_iald, y_iast, y_putI, y_putZ, xFT, xbool0, xbool1, Nat.reduceAdd, Nat.zero_add, xgl_0, xgl_s, xgl_n, xst_0, xst_1n, xst_1i, xst_1r, xst_1l, xst_s, set_0, set_s, true_and, and_true, xres, xcat_nil, xcat_i, xcat_r, xcat_l, Nat.add_zero, xble0, xble1, xble2, xble3, xble4, xble5, xble6, xble7, xble8, pk_mul, nI_add, nI_1, nI_leI, nI_ltI, nI_eq, n_in, n_cl, z_eq, z_lt, z_le, z_gt, z_ge, z_qe, o_eq, o_lt, o_le, o_gt, o_ge, vp0, vp1, cl0, cl1, n_sub, n_sub1, n_pm1, n_a0, n_0a, ofn, lN0, Nat.reduceLT, Nat.reduceLeDiff, Nat.reduceMul, Nat.reduceSub, Nat.reduceEqDiff, ne_eq, true_implies, false_implies, not_true_eq_false, not_false_eq_true, and_self, and_true, true_and, and_false, false_and, implies_true, if_true, if_false, i00, i10, i01, i11, ob_0, ob_1, tn_2, ln_2, ob_3, tn_4, ln_4, ob_5, tn_6, ln_6, tn_7, ln_7, ob_8, tn_9, ln_9, tn_10, ln_10, tn_11, ln_11, tn_12, ln_12, tn_13, ln_13, tn_14, ln_14, tn_15, ln_15, tn_16, ln_16, tn_17, ln_17, ob_18, tn_19, ln_19, tn_20, ln_20, tn_21, ln_21, tn_22, ln_22, tn_23, ln_23, tn_24, ln_24, tn_25, ln_25, tn_26, ln_26, tn_27, ln_27, ob_28, tn_29, ln_29, tn_30, ln_30, ob_31, tn_32, ln_32, tn_33, ln_33, ob_34, ob_35, tn_36, ln_36, tn_37, ln_37, tn_38, ln_38, ob_39, tn_40, ln_40, tn_41, ln_41, tn_42, ln_42, tn_43, ln_43, tn_44, ln_44, tn_45, ln_45, tn_46, ln_46, tn_47, ln_47, tn_48, ln_48, tn_49, ln_49, tn_50, ln_50, tn_51, ln_51, ob_52, tn_53, ln_53, tn_54, ln_54, tn_55, ln_55, tn_56, ln_56, ob_57, tn_58, ln_58, tn_59, ln_59, tn_60, ln_60, tn_61, ln_61, tn_62, ln_62, tn_63, ln_63, tn_64, ln_64, tn_65, ln_65, ob_66, tn_67, ln_67, tn_68, ln_68, tn_69, ln_69, tn_70, ln_70, tn_71, ln_71, tn_72, ln_72, tn_73, ln_73, ob_74, tn_75, ln_75, tn_76, ln_76, tn_77, ln_77, tn_78, ln_78, tn_79, ln_79, tn_80, ln_80, tn_81, ln_81, tn_82, ln_82, tn_83, ln_83, ob_84, tn_85, ln_85, tn_86, ln_86, tn_87, ln_87, tn_88, ln_88, tn_89, ln_89, tn_90, ln_90, tn_91, ln_91, tn_92, ln_92, tn_93, ln_93, ob_94, tn_95, ln_95, tn_96, ln_96, tn_97, ln_97, tn_98, ln_98, tn_99, ln_99, tn_100, ln_100, tn_101, ln_101, tn_102, ln_102, tn_103, ln_103, ob_104, tn_105, ln_105, tn_106, ln_106, tn_107, ln_107, tn_108, ln_108, tn_109, ln_109, tn_110, ln_110, tn_111, ln_111, tn_112, ln_112, tn_113, ln_113, ob_114, tn_115, ln_115, tn_116, ln_116, tn_117, ln_117, tn_118, ln_118, tn_119, ln_119, tn_120, ln_120, tn_121, ln_121, tn_122, ln_122, tn_123, ln_123, ob_124, tn_125, ln_125, tn_126, ln_126, tn_127, ln_127, tn_128, ln_128, tn_129, ln_129, tn_130, ln_130, tn_131, ln_131, tn_132, ln_132, tn_133, ln_133, ob_134, tn_135, ln_135, tn_136, ln_136, tn_137, ln_137, tn_138, ln_138, tn_139, ln_139, tn_140, ln_140, tn_141, ln_141, tn_142, ln_142, tn_143, ln_143, ob_144, tn_145, ln_145, tn_146, ln_146, tn_147, ln_147, tn_148, ln_148, tn_149, ln_149, tn_150, ln_150, tn_151, ln_151, tn_152, ln_152, tn_153, ln_153, ob_154, tn_155, ln_155, tn_156, ln_156, tn_157, ln_157, tn_158, ln_158, tn_159, ln_159, tn_160, ln_160, tn_161, ln_161, tn_162, ln_162, tn_163, ln_163, ob_164, tn_165, ln_165, tn_166, ln_166, ob_167, tn_168, ln_168, tn_169, ln_169, tn_170, ln_170, tn_171, ln_171, tn_172, ln_172, tn_173, ln_173, tn_174, ln_174, tn_175, ln_175, tn_176, ln_176, ob_177, tn_178, ln_178, tn_179, ln_179, ob_180, tn_181, ln_181, tn_182, ln_182, tn_183, ln_183, tn_184, ln_184, tn_185, ln_185, tn_186, ln_186, tn_187, ln_187, tn_188, ln_188, tn_189, ln_189, tn_190, ln_190, tn_191, ln_191, tn_192, ln_192, tn_193, ln_193, tn_194, ln_194, tn_195, ln_195, tn_196, ln_196, tn_197, ln_197, tn_198, ln_198, tn_199, ln_199, tn_200, ln_200, tn_201, ln_201, tn_202, ln_202, tn_203, ln_203, tn_204, ln_204, tn_205, ln_205, tn_206, ln_206, tn_207, ln_207, tn_208, ln_208, tn_209, ln_209, tn_210, ln_210, tn_211, ln_211, tn_212, ln_212, tn_213, ln_213, tn_214, ln_214, tn_215, ln_215, tn_216, ln_216, tn_217, ln_217, tn_218, ln_218, tn_219, ln_219, tn_220, ln_220, tn_221, ln_221, tn_222, ln_222, tn_223, ln_223, tn_224, ln_224, tn_225, ln_225, tn_226, ln_226, tn_227, ln_227, tn_228, ln_228, tn_229, ln_229, tn_230, ln_230, lx2, lx3, lx4, lx5, lx6, lx7, lx8, lx9, lx10, lx14, lx15, lx16, lx18, lx20, lx24, lx25, lx27, lx32, lx36, lx40, lx41, lx42, lx43, lx45, lx48, lx52, lx54, lx56, lx57, lx58, lx60, lx61, lx62, lx63, lx64, lx66, lx69, lx73, lx80, lx81, lx84, lx85, lx87, lx94, lx96, lx97, lx120, lx128, lx135, lx160, lx162, lx163, lx165, lx200, lx232, lx242, lx243, lx255, lx256, lx320, lx325, lx400, lx405, lx464, lx512, lx600, lx640, lx752, lx900, lx940, lx1000, lx1024, lx1764, lx3360, lx3840, lx5000, lx6400, lx9050, lx9998, lx9999, lx10000, lx25600, lx76800, lx99999, h24, bI_t]
    have hw := hU.2.1
    have hwc := hU.2.2.1
    have hDl := hw.2.2.2.1
    have fin0 : b = false → P (some (.int 0)) (xsi B 180 40 (-1)) := fun z => by
      have f : fr SPu B (xsi B 180 40 (-1)) := fr_si fr_rf (by unfold SPu; omega)
      have G1 := lpG_fr hG0 f
      have h8 := h0 z
      exact hP.1 h8 _ G1.2.1 (lpG_it G1) G1.2.2.2.2 ⟨fun _ => si_eq, fun y => absurd h8 (by omega)⟩
    have b1 : ¬ b = false → b = true := fun z => by cases b; exact absurd rfl z; rfl
    refine ⟨fun a => ⟨fun z => ?_, fin0⟩, fun a => ⟨fun z => ⟨fun z2 => absurd z z2, fin0⟩, fun z => ⟨by omega, ?_⟩⟩⟩
    · have hb := b1 z
      subst hb
      have e : n = vN v - 2 := by omega
      have hl : lsU B (plL v) := by
        have := h1 rfl
        rw [e] at this; exact this
      have f : fr SLs B (xsi B 180 41 0) := fr_si fr_rf (by unfold SLs; omega)
      exact xE0 (80 - 0, 0, 0) ⟨v, 0, o, lpG_ls hG0 f, lsU_fr hl f (by unfold SLs SPu; omega), Nat.zero_le _, si_eq, fun p' hp' => absurd hp' (Nat.not_lt_zero p'), rfl, rfl, rfl⟩
    · have hb := b1 z
      subst hb
      have hl := h1 rfl
      have hv := (hwc (2 + n) (by omega)).1
      rw [isR_cl hU.1 (by omega), nI_eq (by omega) (by omega), hU.1.1.2.2.2]
      have nxt : ∀ C b', fr SPu B C → (b' = true → lsU C (plG v (n + 1))) → (b' = false → 80 < (plL v).length) → xB (lp52 A P) (vN v - n, 50, 0) [some (.ref 180), some (.int (bI b')), some (.int (nI (2 + n + 1))), o] [] C := fun C b' hC l1 l2 =>
        xB1 (b := vN v - (n + 1)) (by omega) ⟨v, n + 1, o, b', lpG_fr hG0 hC, by omega, l1, l2, rfl, by rw [Nat.add_assoc], rfl⟩
      refine ⟨fun d => ⟨fun eD => ?_, fun eD => ?_⟩, fun d => nxt B true fr_rf (fun _ => ?_) (fun w => Bool.noConfusion w)⟩
      · have hD0 : vD v ≠ 0 := fun z => eD (by rw [z]; rfl)
        refine xB2 (c := 42 - 0) (by omega) ⟨v, n, 0, true, hG0, by omega, Nat.zero_le _, hD0, d, fun _ => ?_, fun w => Bool.noConfusion w, rfl, rfl, rfl⟩
        rw [plR, List.append_nil]; exact hl
      · have eD1 : nI (vD v) = nI 0 := eD
        have D : vD v = 0 := (nI_eq (by omega) (by omega)).mp eD1
        have eW : plW v (2 + n) = [(2 + n, 42)] := by unfold plW; rw [if_pos D, if_pos d]
        have eG : plG v (n + 1) = plG v n ++ [(2 + n, 42)] := by rw [← eW]; rfl
        refine newPlace_U (c := 42) hl (by omega) (by omega) (fun y hy => ?_) (fun h8 => ?_) fun _ C hC lC => ?_
        · have hpx : plX (2 + n, 42) = 42 * (2 + n) + 0 := rfl
          rw [hpx]
          unfold plX
          rcases plG_mem.mp hy with rfl | rfl | ⟨a, b, -, ⟨-, d⟩ | ⟨d, -⟩⟩
          · show 42 * 0 + 0 ≠ _; omega
          · show 42 * 1 + 0 ≠ _; omega
          · rw [if_pos d]; omega
          · exact absurd D d
        · refine nxt B false fr_rf (fun w => Bool.noConfusion w) fun _ => ?_
          have t := plG_to (v := v) (n := n) (by omega)
          rw [eW, List.length_append, h8] at t
          exact t
        · refine nxt C true hC (fun _ => ?_) fun w => Bool.noConfusion w
          rw [eG]; exact lC
      · have eW : plW v (2 + n) = [] := List.eq_nil_iff_forall_not_mem.mpr fun x hx => d (plW_mem.mp hx).2.1
        have eG : plG v (n + 1) = plG v n := by
          show plG v n ++ plW v (2 + n) = _
          rw [eW, List.append_nil]
        rw [eG]; exact hl
  · rintro q A P - μ L st B ⟨v, n, c, b, hG, hn, hc, hD, hcl, h1, h0, rfl, rfl, rfl⟩
    have hG0 := hG
    obtain ⟨hP, hF, hU, h25, h26⟩ := hG
    have h24 := hU.2.2.2.1
    have hN := vN_le hU.2.1
    simp (disch := omega) only [k_X12_laysPlaces_0, k_X12_laysPlaces_52, k_X12_laysPlaces_101, k_X12_laysPlaces_172, k_X12_laysPlaces_19, k_X12_laysPlaces_142, k_X12_laysPlaces_148, k_X12_laysPlaces_154, w_R, w_RI, w_RII, x_aload, x_iadd, x_icmp_eq, x_icmp_ge, x_icmp_ne, x_if_eq, x_if_lt, x_if_ne, x_iinc, x_iload, x_istore, x_pop, x_push, x_zret, y_cv0, y_cv1, y_cv2, y_getF, y_getI, y_iald, y_iast, y_putI, y_putZ, xFT, xbool0, xbool1, Nat.reduceAdd, Nat.zero_add, xgl_0, xgl_s, xgl_n, xst_0, xst_1n, xst_1i, xst_1r, xst_1l, xst_s, set_0, set_s, true_and, and_true, xres, xcat_nil, xcat_i, xcat_r, xcat_l, Nat.add_zero, xble0, xble1, xble2, xble3, xble4, xble5, xble6, xble7, xble8, pk_mul, nI_add, nI_1, nI_leI, nI_ltI, nI_eq, n_in, n_cl, z_eq, z_lt, z_le, z_gt, z_ge, z_qe, o_eq, o_lt, o_le, o_gt, o_ge, vp0, vp1, cl0, cl1, n_sub, n_sub1, n_pm1, n_a0, n_0a, ofn, lN0, Nat.reduceLT, Nat.reduceLeDiff, Nat.reduceMul, Nat.reduceSub, Nat.reduceEqDiff, ne_eq, true_implies, false_implies, not_true_eq_false, not_false_eq_true, and_self, and_true, true_and, and_false, false_and, implies_true, if_true, if_false, i00, i10, i01, i11, ob_0, ob_1, tn_2, ln_2, ob_3, tn_4, ln_4, ob_5, tn_6, ln_6, tn_7, ln_7, ob_8, tn_9, ln_9, tn_10, ln_10, tn_11, ln_11, tn_12, ln_12, tn_13, ln_13, tn_14, ln_14, tn_15, ln_15, tn_16, ln_16, tn_17, ln_17, ob_18, tn_19, ln_19, tn_20, ln_20, tn_21, ln_21, tn_22, ln_22, tn_23, ln_23, tn_24, ln_24, tn_25, ln_25, tn_26, ln_26, tn_27, ln_27, ob_28, tn_29, ln_29, tn_30, ln_30, ob_31, tn_32, ln_32, tn_33, ln_33, ob_34, ob_35, tn_36, ln_36, tn_37, ln_37, tn_38, ln_38, ob_39, tn_40, ln_40, tn_41, ln_41, tn_42, ln_42, tn_43, ln_43, tn_44, ln_44, tn_45, ln_45, tn_46, ln_46, tn_47, ln_47, tn_48, ln_48, tn_49, ln_49, tn_50, ln_50, tn_51, ln_51, ob_52, tn_53, ln_53, tn_54, ln_54, tn_55, ln_55, tn_56, ln_56, ob_57, tn_58, ln_58, tn_59, ln_59, tn_60, ln_60, tn_61, ln_61, tn_62, ln_62, tn_63, ln_63, tn_64, ln_64, tn_65, ln_65, ob_66, tn_67, ln_67, tn_68, ln_68, tn_69, ln_69, tn_70, ln_70, tn_71, ln_71, tn_72, ln_72, tn_73, ln_73, ob_74, tn_75, ln_75, tn_76, ln_76, tn_77, ln_77, tn_78, ln_78, tn_79, ln_79, tn_80, ln_80, tn_81, ln_81, tn_82, ln_82, tn_83, ln_83, ob_84, tn_85, ln_85, tn_86, ln_86, tn_87, ln_87, tn_88, ln_88, tn_89, ln_89, tn_90, ln_90, tn_91, ln_91, tn_92, ln_92, tn_93, ln_93, ob_94, tn_95, ln_95, tn_96, ln_96, tn_97, ln_97, tn_98, ln_98, tn_99, ln_99, tn_100, ln_100, tn_101, ln_101, tn_102, ln_102, tn_103, ln_103, ob_104, tn_105, ln_105, tn_106, ln_106, tn_107, ln_107, tn_108, ln_108, tn_109, ln_109, tn_110, ln_110, tn_111, ln_111, tn_112, ln_112, tn_113, ln_113, ob_114, tn_115, ln_115, tn_116, ln_116, tn_117, ln_117, tn_118, ln_118, tn_119, ln_119, tn_120, ln_120, tn_121, ln_121, tn_122, ln_122, tn_123, ln_123, ob_124, tn_125, ln_125, tn_126, ln_126, tn_127, ln_127, tn_128, ln_128, tn_129, ln_129, tn_130, ln_130, tn_131, ln_131, tn_132, ln_132, tn_133, ln_133, ob_134, tn_135, ln_135, tn_136, ln_136, tn_137, ln_137, tn_138, ln_138, tn_139, ln_139, tn_140, ln_140, tn_141, ln_141, tn_142, ln_142, tn_143, ln_143, ob_144, tn_145, ln_145, tn_146, ln_146, tn_147, ln_147, tn_148, ln_148, tn_149, ln_149, tn_150, ln_150, tn_151, ln_151, tn_152, ln_152, tn_153, ln_153, ob_154, tn_155, ln_155, tn_156, ln_156, tn_157, ln_157, tn_158, ln_158, tn_159, ln_159, tn_160, ln_160, tn_161, ln_161, tn_162, ln_162, tn_163, ln_163, ob_164, tn_165, ln_165, tn_166, ln_166, ob_167, tn_168, ln_168, tn_169, ln_169, tn_170, ln_170, tn_171, ln_171, tn_172, ln_172, tn_173, ln_173, tn_174, ln_174, tn_175, ln_175, tn_176, ln_176, ob_177, tn_178, ln_178, tn_179, ln_179, ob_180, tn_181, ln_181, tn_182, ln_182, tn_183, ln_183, tn_184, ln_184, tn_185, ln_185, tn_186, ln_186, tn_187, ln_187, tn_188, ln_188, tn_189, ln_189, tn_190, ln_190, tn_191, ln_191, tn_192, ln_192, tn_193, ln_193, tn_194, ln_194, tn_195, ln_195, tn_196, ln_196, tn_197, ln_197, tn_198, ln_198, tn_199, ln_199, tn_200, ln_200, tn_201, ln_201, tn_202, ln_202, tn_203, ln_203, tn_204, ln_204, tn_205, ln_205, tn_206, ln_206, tn_207, ln_207, tn_208, ln_208, tn_209, ln_209, tn_210, ln_210, tn_211, ln_211, tn_212, ln_212, tn_213, ln_213, tn_214, ln_214, tn_215, ln_215, tn_216, ln_216, tn_217, ln_217, tn_218, ln_218, tn_219, ln_219, tn_220, ln_220, tn_221, ln_221, tn_222, ln_222, tn_223, ln_223, tn_224, ln_224, tn_225, ln_225, tn_226, ln_226, tn_227, ln_227, tn_228, ln_228, tn_229, ln_229, tn_230, ln_230, lx2, lx3, lx4, lx5, lx6, lx7, lx8, lx9, lx10, lx14, lx15, lx16, lx18, lx20, lx24, lx25, lx27, lx32, lx36, lx40, lx41, lx42, lx43, lx45, lx48, lx52, lx54, lx56, lx57, lx58, lx60, lx61, lx62, lx63, lx64, lx66, lx69, lx73, lx80, lx81, lx84, lx85, lx87, lx94, lx96, lx97, lx120, lx128, lx135, lx160, lx162, lx163, lx165, lx200, lx232, lx242, lx243, lx255, lx256, lx320, lx325, lx400, lx405, lx464, lx512, lx600, lx640, lx752, lx900, lx940, lx1000, lx1024, lx1764, lx3360, lx3840, lx5000, lx6400, lx9050, lx9998, lx9999, lx10000, lx25600, lx76800, lx99999, h24, bI_t]
    have hw := hU.2.1
    have hwc := hU.2.2.1
    have b1 : ¬ b = false → b = true := fun z => by cases b; exact absurd rfl z; rfl
    have out : (b = true → c = vN v) → xB (lp52 A P) (vN v - n, 42 - c, 0) [some (.ref 180), some (.int (bI b)), some (.int (nI (2 + n + 1))), some (.int (nI c))] [] B := fun e =>
      xB1 (b := vN v - (n + 1)) (by omega) ⟨v, n + 1, _, b, hG0, by omega, fun w => (by
        have hl := h1 w
        rw [e w] at hl
        have eG : plG v (n + 1) = plG v n ++ plR v (2 + n) (vN v) := by
          show plG v n ++ plW v (2 + n) = _
          unfold plW; rw [if_neg hD]
        rw [eG]; exact hl), h0, rfl, by rw [Nat.add_assoc], rfl⟩
    refine ⟨fun a => out fun _ => by omega, fun a => ⟨fun z => out fun w => (by rw [z] at w; cases w), fun z => ⟨by omega, ?_⟩⟩⟩
    have hb := b1 z
    subst hb
    have hl := h1 rfl
    have hv := (hwc c (by omega)).1
    rw [isR_cl hU.1 (by omega), nI_eq (by omega) (by omega)]
    have nxt : ∀ C b', fr SPu B C → (b' = true → lsU C (plG v n ++ plR v (2 + n) (c + 1))) → (b' = false → 80 < (plL v).length) → xB (lp101 A P) (vN v - n, 42 - c, 0) [some (.ref 180), some (.int (bI b')), some (.int (nI (2 + n))), some (.int (nI (c + 1)))] [] C := fun C b' hC l1 l2 =>
      xB2 (c := 42 - (c + 1)) (by omega) ⟨v, n, c + 1, b', lpG_fr hG0 hC, hn, by omega, hD, hcl, l1, l2, rfl, rfl, rfl⟩
    have no : prB v (2 + n) c = false → xB (lp101 A P) (vN v - n, 42 - c, 0) [some (.ref 180), some (.int (bI true)), some (.int (nI (2 + n))), some (.int (nI (c + 1)))] [] B := fun z => nxt B true fr_rf (fun _ => by
      rw [plR, if_neg (fun w => by rw [z] at w; exact Bool.noConfusion w.2), List.append_nil]; exact hl) (fun w => Bool.noConfusion w)
    refine ⟨fun d => no ?_, fun d => ⟨rfl, v, 2 + n, c, rfl, rfl, by omega, by omega, hU, ?_⟩⟩
    · cases e : prB v (2 + n) c
      · rfl
      · obtain ⟨i, -, -, j, j1, j2, -⟩ := (pr_pair hw).mp e
        have := (hwc j (by omega)).2.1
        rw [j2] at this
        exact absurd this d
    · simp (disch := omega) only [k_X12_laysPlaces_0, k_X12_laysPlaces_52, k_X12_laysPlaces_101, k_X12_laysPlaces_172, k_X12_laysPlaces_19, k_X12_laysPlaces_142, k_X12_laysPlaces_148, k_X12_laysPlaces_154, w_R, w_RI, w_RII, x_aload, x_iadd, x_icmp_eq, x_icmp_ge, x_icmp_ne, x_if_eq, x_if_lt, x_if_ne, x_iinc, x_iload, x_istore, x_pop, x_push, x_zret, y_cv0, y_cv1, y_cv2, y_getF, y_getI, y_iald, y_iast, y_putI, y_putZ, xFT, xbool0, xbool1, Nat.reduceAdd, Nat.zero_add, xgl_0, xgl_s, xgl_n, xst_0, xst_1n, xst_1i, xst_1r, xst_1l, xst_s, set_0, set_s, true_and, and_true, xres, xcat_nil, xcat_i, xcat_r, xcat_l, Nat.add_zero, xble0, xble1, xble2, xble3, xble4, xble5, xble6, xble7, xble8, pk_mul, nI_add, nI_1, nI_leI, nI_ltI, nI_eq, n_in, n_cl, z_eq, z_lt, z_le, z_gt, z_ge, z_qe, o_eq, o_lt, o_le, o_gt, o_ge, vp0, vp1, cl0, cl1, n_sub, n_sub1, n_pm1, n_a0, n_0a, ofn, lN0, Nat.reduceLT, Nat.reduceLeDiff, Nat.reduceMul, Nat.reduceSub, Nat.reduceEqDiff, ne_eq, true_implies, false_implies, not_true_eq_false, not_false_eq_true, and_self, and_true, true_and, and_false, false_and, implies_true, if_true, if_false, i00, i10, i01, i11, ob_0, ob_1, tn_2, ln_2, ob_3, tn_4, ln_4, ob_5, tn_6, ln_6, tn_7, ln_7, ob_8, tn_9, ln_9, tn_10, ln_10, tn_11, ln_11, tn_12, ln_12, tn_13, ln_13, tn_14, ln_14, tn_15, ln_15, tn_16, ln_16, tn_17, ln_17, ob_18, tn_19, ln_19, tn_20, ln_20, tn_21, ln_21, tn_22, ln_22, tn_23, ln_23, tn_24, ln_24, tn_25, ln_25, tn_26, ln_26, tn_27, ln_27, ob_28, tn_29, ln_29, tn_30, ln_30, ob_31, tn_32, ln_32, tn_33, ln_33, ob_34, ob_35, tn_36, ln_36, tn_37, ln_37, tn_38, ln_38, ob_39, tn_40, ln_40, tn_41, ln_41, tn_42, ln_42, tn_43, ln_43, tn_44, ln_44, tn_45, ln_45, tn_46, ln_46, tn_47, ln_47, tn_48, ln_48, tn_49, ln_49, tn_50, ln_50, tn_51, ln_51, ob_52, tn_53, ln_53, tn_54, ln_54, tn_55, ln_55, tn_56, ln_56, ob_57, tn_58, ln_58, tn_59, ln_59, tn_60, ln_60, tn_61, ln_61, tn_62, ln_62, tn_63, ln_63, tn_64, ln_64, tn_65, ln_65, ob_66, tn_67, ln_67, tn_68, ln_68, tn_69, ln_69, tn_70, ln_70, tn_71, ln_71, tn_72, ln_72, tn_73, ln_73, ob_74, tn_75, ln_75, tn_76, ln_76, tn_77, ln_77, tn_78, ln_78, tn_79, ln_79, tn_80, ln_80, tn_81, ln_81, tn_82, ln_82, tn_83, ln_83, ob_84, tn_85, ln_85, tn_86, ln_86, tn_87, ln_87, tn_88, ln_88, tn_89, ln_89, tn_90, ln_90, tn_91, ln_91, tn_92, ln_92, tn_93, ln_93, ob_94, tn_95, ln_95, tn_96, ln_96, tn_97, ln_97, tn_98, ln_98, tn_99, ln_99, tn_100, ln_100, tn_101, ln_101, tn_102, ln_102, tn_103, ln_103, ob_104, tn_105, ln_105, tn_106, ln_106, tn_107, ln_107, tn_108, ln_108, tn_109, ln_109, tn_110, ln_110, tn_111, ln_111, tn_112, ln_112, tn_113, ln_113, ob_114, tn_115, ln_115, tn_116, ln_116, tn_117, ln_117, tn_118, ln_118, tn_119, ln_119, tn_120, ln_120, tn_121, ln_121, tn_122, ln_122, tn_123, ln_123, ob_124, tn_125, ln_125, tn_126, ln_126, tn_127, ln_127, tn_128, ln_128, tn_129, ln_129, tn_130, ln_130, tn_131, ln_131, tn_132, ln_132, tn_133, ln_133, ob_134, tn_135, ln_135, tn_136, ln_136, tn_137, ln_137, tn_138, ln_138, tn_139, ln_139, tn_140, ln_140, tn_141, ln_141, tn_142, ln_142, tn_143, ln_143, ob_144, tn_145, ln_145, tn_146, ln_146, tn_147, ln_147, tn_148, ln_148, tn_149, ln_149, tn_150, ln_150, tn_151, ln_151, tn_152, ln_152, tn_153, ln_153, ob_154, tn_155, ln_155, tn_156, ln_156, tn_157, ln_157, tn_158, ln_158, tn_159, ln_159, tn_160, ln_160, tn_161, ln_161, tn_162, ln_162, tn_163, ln_163, ob_164, tn_165, ln_165, tn_166, ln_166, ob_167, tn_168, ln_168, tn_169, ln_169, tn_170, ln_170, tn_171, ln_171, tn_172, ln_172, tn_173, ln_173, tn_174, ln_174, tn_175, ln_175, tn_176, ln_176, ob_177, tn_178, ln_178, tn_179, ln_179, ob_180, tn_181, ln_181, tn_182, ln_182, tn_183, ln_183, tn_184, ln_184, tn_185, ln_185, tn_186, ln_186, tn_187, ln_187, tn_188, ln_188, tn_189, ln_189, tn_190, ln_190, tn_191, ln_191, tn_192, ln_192, tn_193, ln_193, tn_194, ln_194, tn_195, ln_195, tn_196, ln_196, tn_197, ln_197, tn_198, ln_198, tn_199, ln_199, tn_200, ln_200, tn_201, ln_201, tn_202, ln_202, tn_203, ln_203, tn_204, ln_204, tn_205, ln_205, tn_206, ln_206, tn_207, ln_207, tn_208, ln_208, tn_209, ln_209, tn_210, ln_210, tn_211, ln_211, tn_212, ln_212, tn_213, ln_213, tn_214, ln_214, tn_215, ln_215, tn_216, ln_216, tn_217, ln_217, tn_218, ln_218, tn_219, ln_219, tn_220, ln_220, tn_221, ln_221, tn_222, ln_222, tn_223, ln_223, tn_224, ln_224, tn_225, ln_225, tn_226, ln_226, tn_227, ln_227, tn_228, ln_228, tn_229, ln_229, tn_230, ln_230, lx2, lx3, lx4, lx5, lx6, lx7, lx8, lx9, lx10, lx14, lx15, lx16, lx18, lx20, lx24, lx25, lx27, lx32, lx36, lx40, lx41, lx42, lx43, lx45, lx48, lx52, lx54, lx56, lx57, lx58, lx60, lx61, lx62, lx63, lx64, lx66, lx69, lx73, lx80, lx81, lx84, lx85, lx87, lx94, lx96, lx97, lx120, lx128, lx135, lx160, lx162, lx163, lx165, lx200, lx232, lx242, lx243, lx255, lx256, lx320, lx325, lx400, lx405, lx464, lx512, lx600, lx640, lx752, lx900, lx940, lx1000, lx1024, lx1764, lx3360, lx3840, lx5000, lx6400, lx9050, lx9998, lx9999, lx10000, lx25600, lx76800, lx99999, bI_t]
      refine ⟨fun e => no e, fun e => ?_⟩
      have e1 : prB v (2 + n) c = true := by
        cases w : prB v (2 + n) c
        · exact absurd w e
        · rfl
      have eR : plR v (2 + n) (c + 1) = plR v (2 + n) c ++ [(2 + n, c)] := by
        rw [plR, if_pos ⟨hcl, e1⟩]
      have ec : nI c = cI c := by unfold cI; rw [if_neg (by omega)]
      rw [ec]
      refine newPlace_U hl (by omega) (by omega) (fun y hy => ?_) (fun h8 => ?_) fun _ C hC lC => ?_
      · have hpx : plX (2 + n, c) = 42 * (2 + n) + c := by unfold plX; rw [if_neg (show ¬ c = 42 by omega)]
        rw [hpx]
        rcases List.mem_append.mp hy with hy | hy
        · rcases plG_mem.mp hy with rfl | rfl | ⟨a, b, -, ⟨d, -⟩ | ⟨-, d, -⟩⟩
          · show 42 * 0 + 0 ≠ _; omega
          · show 42 * 1 + 0 ≠ _; omega
          · omega
          · unfold plX; rw [if_neg (by omega)]; omega
        · have := plR_mem.mp hy
          unfold plX; rw [if_neg (by omega)]; omega
      · refine nxt B false fr_rf (fun w => Bool.noConfusion w) fun _ => ?_
        have t := plG_to (v := v) (n := n) (by omega)
        have t2 := plR_len (v := v) (g := 2 + n) (show c + 1 ≤ vN v by omega)
        rw [eR, List.length_append] at t2
        have eW : plW v (2 + n) = plR v (2 + n) (vN v) := by unfold plW; rw [if_neg hD]
        rw [eW, List.length_append] at t
        rw [List.length_append] at h8
        have : [(2 + n, c)].length = 1 := rfl
        omega
      · refine nxt C true hC (fun _ => ?_) fun w => Bool.noConfusion w
        rw [eR, ← List.append_assoc]; exact lC
  · rintro q A P - μ L st B ⟨v, p, o, hG, hl, hp, h41, hs, rfl, rfl, rfl⟩
    have hG0 := hG
    obtain ⟨hP, hF, hU, h25, h26⟩ := hG
    have h80 := hl.2.1
    simp (disch := omega) only [k_X12_laysPlaces_0, k_X12_laysPlaces_52, k_X12_laysPlaces_101, k_X12_laysPlaces_172, k_X12_laysPlaces_19, k_X12_laysPlaces_142, k_X12_laysPlaces_148, k_X12_laysPlaces_154, w_R, w_RI, w_RII, x_aload, x_iadd, x_icmp_eq, x_icmp_ge, x_icmp_ne, x_if_eq, x_if_lt, x_if_ne, x_iinc, x_iload, x_istore, x_pop, x_push, x_zret, y_cv0, y_cv1, y_cv2, y_getF, y_getI, y_iald, y_iast, y_putI, y_putZ, xFT, xbool0, xbool1, Nat.reduceAdd, Nat.zero_add, xgl_0, xgl_s, xgl_n, xst_0, xst_1n, xst_1i, xst_1r, xst_1l, xst_s, set_0, set_s, true_and, and_true, xres, xcat_nil, xcat_i, xcat_r, xcat_l, Nat.add_zero, xble0, xble1, xble2, xble3, xble4, xble5, xble6, xble7, xble8, pk_mul, nI_add, nI_1, nI_leI, nI_ltI, nI_eq, n_in, n_cl, z_eq, z_lt, z_le, z_gt, z_ge, z_qe, o_eq, o_lt, o_le, o_gt, o_ge, vp0, vp1, cl0, cl1, n_sub, n_sub1, n_pm1, n_a0, n_0a, ofn, lN0, Nat.reduceLT, Nat.reduceLeDiff, Nat.reduceMul, Nat.reduceSub, Nat.reduceEqDiff, ne_eq, true_implies, false_implies, not_true_eq_false, not_false_eq_true, and_self, and_true, true_and, and_false, false_and, implies_true, if_true, if_false, i00, i10, i01, i11, ob_0, ob_1, tn_2, ln_2, ob_3, tn_4, ln_4, ob_5, tn_6, ln_6, tn_7, ln_7, ob_8, tn_9, ln_9, tn_10, ln_10, tn_11, ln_11, tn_12, ln_12, tn_13, ln_13, tn_14, ln_14, tn_15, ln_15, tn_16, ln_16, tn_17, ln_17, ob_18, tn_19, ln_19, tn_20, ln_20, tn_21, ln_21, tn_22, ln_22, tn_23, ln_23, tn_24, ln_24, tn_25, ln_25, tn_26, ln_26, tn_27, ln_27, ob_28, tn_29, ln_29, tn_30, ln_30, ob_31, tn_32, ln_32, tn_33, ln_33, ob_34, ob_35, tn_36, ln_36, tn_37, ln_37, tn_38, ln_38, ob_39, tn_40, ln_40, tn_41, ln_41, tn_42, ln_42, tn_43, ln_43, tn_44, ln_44, tn_45, ln_45, tn_46, ln_46, tn_47, ln_47, tn_48, ln_48, tn_49, ln_49, tn_50, ln_50, tn_51, ln_51, ob_52, tn_53, ln_53, tn_54, ln_54, tn_55, ln_55, tn_56, ln_56, ob_57, tn_58, ln_58, tn_59, ln_59, tn_60, ln_60, tn_61, ln_61, tn_62, ln_62, tn_63, ln_63, tn_64, ln_64, tn_65, ln_65, ob_66, tn_67, ln_67, tn_68, ln_68, tn_69, ln_69, tn_70, ln_70, tn_71, ln_71, tn_72, ln_72, tn_73, ln_73, ob_74, tn_75, ln_75, tn_76, ln_76, tn_77, ln_77, tn_78, ln_78, tn_79, ln_79, tn_80, ln_80, tn_81, ln_81, tn_82, ln_82, tn_83, ln_83, ob_84, tn_85, ln_85, tn_86, ln_86, tn_87, ln_87, tn_88, ln_88, tn_89, ln_89, tn_90, ln_90, tn_91, ln_91, tn_92, ln_92, tn_93, ln_93, ob_94, tn_95, ln_95, tn_96, ln_96, tn_97, ln_97, tn_98, ln_98, tn_99, ln_99, tn_100, ln_100, tn_101, ln_101, tn_102, ln_102, tn_103, ln_103, ob_104, tn_105, ln_105, tn_106, ln_106, tn_107, ln_107, tn_108, ln_108, tn_109, ln_109, tn_110, ln_110, tn_111, ln_111, tn_112, ln_112, tn_113, ln_113, ob_114, tn_115, ln_115, tn_116, ln_116, tn_117, ln_117, tn_118, ln_118, tn_119, ln_119, tn_120, ln_120, tn_121, ln_121, tn_122, ln_122, tn_123, ln_123, ob_124, tn_125, ln_125, tn_126, ln_126, tn_127, ln_127, tn_128, ln_128, tn_129, ln_129, tn_130, ln_130, tn_131, ln_131, tn_132, ln_132, tn_133, ln_133, ob_134, tn_135, ln_135, tn_136, ln_136, tn_137, ln_137, tn_138, ln_138, tn_139, ln_139, tn_140, ln_140, tn_141, ln_141, tn_142, ln_142, tn_143, ln_143, ob_144, tn_145, ln_145, tn_146, ln_146, tn_147, ln_147, tn_148, ln_148, tn_149, ln_149, tn_150, ln_150, tn_151, ln_151, tn_152, ln_152, tn_153, ln_153, ob_154, tn_155, ln_155, tn_156, ln_156, tn_157, ln_157, tn_158, ln_158, tn_159, ln_159, tn_160, ln_160, tn_161, ln_161, tn_162, ln_162, tn_163, ln_163, ob_164, tn_165, ln_165, tn_166, ln_166, ob_167, tn_168, ln_168, tn_169, ln_169, tn_170, ln_170, tn_171, ln_171, tn_172, ln_172, tn_173, ln_173, tn_174, ln_174, tn_175, ln_175, tn_176, ln_176, ob_177, tn_178, ln_178, tn_179, ln_179, ob_180, tn_181, ln_181, tn_182, ln_182, tn_183, ln_183, tn_184, ln_184, tn_185, ln_185, tn_186, ln_186, tn_187, ln_187, tn_188, ln_188, tn_189, ln_189, tn_190, ln_190, tn_191, ln_191, tn_192, ln_192, tn_193, ln_193, tn_194, ln_194, tn_195, ln_195, tn_196, ln_196, tn_197, ln_197, tn_198, ln_198, tn_199, ln_199, tn_200, ln_200, tn_201, ln_201, tn_202, ln_202, tn_203, ln_203, tn_204, ln_204, tn_205, ln_205, tn_206, ln_206, tn_207, ln_207, tn_208, ln_208, tn_209, ln_209, tn_210, ln_210, tn_211, ln_211, tn_212, ln_212, tn_213, ln_213, tn_214, ln_214, tn_215, ln_215, tn_216, ln_216, tn_217, ln_217, tn_218, ln_218, tn_219, ln_219, tn_220, ln_220, tn_221, ln_221, tn_222, ln_222, tn_223, ln_223, tn_224, ln_224, tn_225, ln_225, tn_226, ln_226, tn_227, ln_227, tn_228, ln_228, tn_229, ln_229, tn_230, ln_230, lx2, lx3, lx4, lx5, lx6, lx7, lx8, lx9, lx10, lx14, lx15, lx16, lx18, lx20, lx24, lx25, lx27, lx32, lx36, lx40, lx41, lx42, lx43, lx45, lx48, lx52, lx54, lx56, lx57, lx58, lx60, lx61, lx62, lx63, lx64, lx66, lx69, lx73, lx80, lx81, lx84, lx85, lx87, lx94, lx96, lx97, lx120, lx128, lx135, lx160, lx162, lx163, lx165, lx200, lx232, lx242, lx243, lx255, lx256, lx320, lx325, lx400, lx405, lx464, lx512, lx600, lx640, lx752, lx900, lx940, lx1000, lx1024, lx1764, lx3360, lx3840, lx5000, lx6400, lx9050, lx9998, lx9999, lx10000, lx25600, lx76800, lx99999, hl.1, h41]
    have hw := hU.2.1
    have hwc := hU.2.2.1
    have hbs := bsY_le hw hwc h80
    refine ⟨fun a => ⟨by omega, ?_⟩, fun a => ?_⟩
    · have e : p = (plL v).length := by omega
      subst e
      have f : fr SLs B (xsi B 198 (plL v).length (nI (bsY v (plL v).length))) := fr_si fr_rf (by unfold SLs; omega)
      have G1 := lpG_ls hG0 f
      refine hP.2 h80 _ G1.2.1 (lpG_it G1) G1.2.2.2.2 ⟨fun z => absurd h80 (by omega), fun _ => ⟨lsU_fr hl f (by unfold SLs SPu; omega), fun p' hp' => ?_, fun p' hp' y hy ht => ?_⟩⟩
      · by_cases e : p' = (plL v).length
        · subst e; exact si_eq
        · rw [si_ne (by omega)]; exact (hs p' (by omega)).1
      · rw [si_ne (by omega)]; exact (hs p' hp').2 y hy ht
    · have hX := plg_at (v := v) (p := p) (by omega)
      have b1 := hbs p
      refine ⟨rfl, v, p, bsY v p, plg v p, hU, hl, rfl, hX, h41, by omega, tY_le hw hwc h80, fun C hC lC c1 c2 c3 => ?_⟩
      refine xB1 (b := 80 - (p + 1)) (by omega) ⟨v, p + 1, _, lpG_ls hG0 hC, lsU_fr hl hC (by unfold SLs SPu; omega), by omega, c2, fun p' hp' => ?_, rfl, rfl, rfl⟩
      by_cases e : p' = p
      · subst e; exact ⟨c1, c3⟩
      · obtain ⟨d1, d2⟩ := hs p' (by omega)
        refine ⟨by rw [lC.1 p' e]; exact d1, fun y hy ht => ?_⟩
        have m1 : bsY v p' + cb (tY v p') 5376 ≤ bsY v p := bsY_mono (show p' + 1 ≤ p by omega)
        have m2 := cb_mono (tY v p') (show y + 1 ≤ 5376 by omega)
        rw [cb_s, ht] at m2
        simp only [Bool.toNat_true] at m2
        rw [lC.2 _ (by omega)]
        exact d2 y hy ht

