/-! ===== what may be said of an item ===== -/
theorem d_X8_compares_0 : decode cX8_compares 0 = .ok (.iload_n 1, 1) := by decide +kernel
theorem d_X8_compares_1 : decode cX8_compares 1 = .ok (.ifCond .ne 14, 3) := by decide +kernel
theorem d_X8_compares_4 : decode cX8_compares 4 = .ok (.iload_n 0, 1) := by decide +kernel
theorem d_X8_compares_5 : decode cX8_compares 5 = .ok (.iload_n 2, 1) := by decide +kernel
theorem d_X8_compares_6 : decode cX8_compares 6 = .ok (.if_icmp .ge 7, 3) := by decide +kernel
theorem d_X8_compares_9 : decode cX8_compares 9 = .ok (.iconst 1, 1) := by decide +kernel
theorem d_X8_compares_10 : decode cX8_compares 10 = .ok (.goto 4, 3) := by decide +kernel
theorem d_X8_compares_13 : decode cX8_compares 13 = .ok (.iconst 0, 1) := by decide +kernel
theorem d_X8_compares_14 : decode cX8_compares 14 = .ok (.ireturn, 1) := by decide +kernel
theorem d_X8_compares_15 : decode cX8_compares 15 = .ok (.iload_n 1, 1) := by decide +kernel
theorem d_X8_compares_16 : decode cX8_compares 16 = .ok (.iconst 1, 1) := by decide +kernel
theorem d_X8_compares_17 : decode cX8_compares 17 = .ok (.if_icmp .ne 16, 3) := by decide +kernel
theorem d_X8_compares_20 : decode cX8_compares 20 = .ok (.iload_n 0, 1) := by decide +kernel
theorem d_X8_compares_21 : decode cX8_compares 21 = .ok (.iload_n 2, 1) := by decide +kernel
theorem d_X8_compares_22 : decode cX8_compares 22 = .ok (.if_icmp .ne 7, 3) := by decide +kernel
theorem d_X8_compares_25 : decode cX8_compares 25 = .ok (.iconst 1, 1) := by decide +kernel
theorem d_X8_compares_26 : decode cX8_compares 26 = .ok (.goto 17, 3) := by decide +kernel
theorem d_X8_compares_29 : decode cX8_compares 29 = .ok (.iconst 0, 1) := by decide +kernel
theorem d_X8_compares_30 : decode cX8_compares 30 = .ok (.goto 13, 3) := by decide +kernel
theorem d_X8_compares_33 : decode cX8_compares 33 = .ok (.iload_n 0, 1) := by decide +kernel
theorem d_X8_compares_34 : decode cX8_compares 34 = .ok (.iload_n 2, 1) := by decide +kernel
theorem d_X8_compares_35 : decode cX8_compares 35 = .ok (.if_icmp .le 7, 3) := by decide +kernel
theorem d_X8_compares_38 : decode cX8_compares 38 = .ok (.iconst 1, 1) := by decide +kernel
theorem d_X8_compares_39 : decode cX8_compares 39 = .ok (.goto 4, 3) := by decide +kernel
theorem d_X8_compares_42 : decode cX8_compares 42 = .ok (.iconst 0, 1) := by decide +kernel
theorem d_X8_compares_43 : decode cX8_compares 43 = .ok (.ireturn, 1) := by decide +kernel
def k_X8_compares_43 (P : xP) : xK := x_zret P
set_option maxRecDepth 20000 in
theorem t_X8_compares_43 {p : Program} {l : Launch} {e : Env} {s : State} {m : MethodId} {args : Array Value} {below : List Frame} {meth : Method} {c : Code} {g : xG} (X : xX p s m args c meth cX8_compares RX8 3 g) (hr : meth.sig.returnType = (some .boolean)) {P : xP} : xAt p l e { frames := 0, cells := 0, slots := 0, locals := 0 } s m args below meth c g 3 xFT xN 0 0 (MQ below (xQc g xFT xN P) args s 0 0 (xFr g)) (k_X8_compares_43 P) 43 := by
  unfold k_X8_compares_43
  exact r_zret (pc := 43) X hr d_X8_compares_43
def k_X8_compares_14 (P : xP) : xK := x_zret P
set_option maxRecDepth 20000 in
theorem t_X8_compares_14 {p : Program} {l : Launch} {e : Env} {s : State} {m : MethodId} {args : Array Value} {below : List Frame} {meth : Method} {c : Code} {g : xG} (X : xX p s m args c meth cX8_compares RX8 3 g) (hr : meth.sig.returnType = (some .boolean)) {P : xP} : xAt p l e { frames := 0, cells := 0, slots := 0, locals := 0 } s m args below meth c g 3 xFT xN 0 0 (MQ below (xQc g xFT xN P) args s 0 0 (xFr g)) (k_X8_compares_14 P) 14 := by
  unfold k_X8_compares_14
  exact r_zret (pc := 14) X hr d_X8_compares_14
def k_X8_compares_0 (P : xP) : xK := x_iload 1 (x_if_ne (x_iload 1 (x_push (.int 1) (x_icmp_ne (x_iload 0 (x_iload 2 (x_icmp_le (x_push (.int 0) ((k_X8_compares_43 P))) (x_push (.int 1) ((k_X8_compares_43 P)))))) (x_iload 0 (x_iload 2 (x_icmp_ne (x_push (.int 0) ((k_X8_compares_43 P))) (x_push (.int 1) ((k_X8_compares_43 P))))))))) (x_iload 0 (x_iload 2 (x_icmp_ge (x_push (.int 0) ((k_X8_compares_14 P))) (x_push (.int 1) ((k_X8_compares_14 P)))))))
set_option maxRecDepth 20000 in
theorem t_X8_compares_0 {p : Program} {l : Launch} {e : Env} {s : State} {m : MethodId} {args : Array Value} {below : List Frame} {meth : Method} {c : Code} {g : xG} (X : xX p s m args c meth cX8_compares RX8 3 g) (hr : meth.sig.returnType = (some .boolean)) {P : xP} : xAt p l e { frames := 0, cells := 0, slots := 0, locals := 0 } s m args below meth c g 3 xFT xN 0 0 (MQ below (xQc g xFT xN P) args s 0 0 (xFr g)) (k_X8_compares_0 P) 0 := by
  unfold k_X8_compares_0
  refine r_iload_n (pc := 0) X d_X8_compares_0 fn1 ?_
  refine r_if_ne (pc := 1) (tgt := 15) X d_X8_compares_1 (by decide +kernel) ?_ ?_
  · refine r_iload_n (pc := 15) X d_X8_compares_15 fn1 ?_
    refine r_iconst (pc := 16) X d_X8_compares_16 (by decide +kernel) ?_
    refine r_icmp_ne (pc := 17) (tgt := 33) X d_X8_compares_17 (by decide +kernel) ?_ ?_
    · refine r_iload_n (pc := 33) X d_X8_compares_33 fn0 ?_
      refine r_iload_n (pc := 34) X d_X8_compares_34 fn2 ?_
      refine r_icmp_le (pc := 35) (tgt := 42) X d_X8_compares_35 (by decide +kernel) ?_ ?_
      · refine r_iconst (pc := 42) X d_X8_compares_42 (by decide +kernel) ?_
        exact t_X8_compares_43 X hr
      · refine r_iconst (pc := 38) X d_X8_compares_38 (by decide +kernel) ?_
        refine r_goto (pc := 39) (tgt := 43) X d_X8_compares_39 (by decide +kernel) ?_
        exact t_X8_compares_43 X hr
    · refine r_iload_n (pc := 20) X d_X8_compares_20 fn0 ?_
      refine r_iload_n (pc := 21) X d_X8_compares_21 fn2 ?_
      refine r_icmp_ne (pc := 22) (tgt := 29) X d_X8_compares_22 (by decide +kernel) ?_ ?_
      · refine r_iconst (pc := 29) X d_X8_compares_29 (by decide +kernel) ?_
        refine r_goto (pc := 30) (tgt := 43) X d_X8_compares_30 (by decide +kernel) ?_
        exact t_X8_compares_43 X hr
      · refine r_iconst (pc := 25) X d_X8_compares_25 (by decide +kernel) ?_
        refine r_goto (pc := 26) (tgt := 43) X d_X8_compares_26 (by decide +kernel) ?_
        exact t_X8_compares_43 X hr
  · refine r_iload_n (pc := 4) X d_X8_compares_4 fn0 ?_
    refine r_iload_n (pc := 5) X d_X8_compares_5 fn2 ?_
    refine r_icmp_ge (pc := 6) (tgt := 13) X d_X8_compares_6 (by decide +kernel) ?_ ?_
    · refine r_iconst (pc := 13) X d_X8_compares_13 (by decide +kernel) ?_
      exact t_X8_compares_14 X hr
    · refine r_iconst (pc := 9) X d_X8_compares_9 (by decide +kernel) ?_
      refine r_goto (pc := 10) (tgt := 14) X d_X8_compares_10 (by decide +kernel) ?_
      exact t_X8_compares_14 X hr
def f_X8_compares (a0 : Int32) (a1 : Int32) (a2 : Int32) (A : xH) (P : xP) : Prop := k_X8_compares_0 P [some (.int a0), some (.int a1), some (.int a2)] [] A
set_option maxRecDepth 20000 in
theorem con_X8_compares (l : Launch) : xCon l yX8_compares cX8_compares 3 (some .boolean) 0 0 xN xN 0 xFT xFT (w_III f_X8_compares) :=
  xc_III (plainFor_of_name pn_RX8) (by decide +kernel) (fun p e s m args below meth c g a0 a1 a2 A P h X hr _ => ⟨_, h, t_X8_compares_0 X hr⟩)
theorem d_X8_simple_0 : decode cX8_simple 0 = .ok (.iload_n 2, 1) := by decide +kernel
theorem d_X8_simple_1 : decode cX8_simple 1 = .ok (.tableswitch 115 0 4 #[35, 50, 65, 85, 100], 35) := by decide +kernel
theorem d_X8_simple_36 : decode cX8_simple 36 = .ok (.aload_n 0, 1) := by decide +kernel
theorem d_X8_simple_37 : decode cX8_simple 37 = .ok (.getfield 35, 3) := by decide +kernel
theorem d_X8_simple_40 : decode cX8_simple 40 = .ok (.iload_n 1, 1) := by decide +kernel
theorem d_X8_simple_41 : decode cX8_simple 41 = .ok (.iaload, 1) := by decide +kernel
theorem d_X8_simple_42 : decode cX8_simple 42 = .ok (.ifCond .ne 7, 3) := by decide +kernel
theorem d_X8_simple_45 : decode cX8_simple 45 = .ok (.iconst 1, 1) := by decide +kernel
theorem d_X8_simple_46 : decode cX8_simple 46 = .ok (.goto 4, 3) := by decide +kernel
theorem d_X8_simple_49 : decode cX8_simple 49 = .ok (.iconst 0, 1) := by decide +kernel
theorem d_X8_simple_50 : decode cX8_simple 50 = .ok (.ireturn, 1) := by decide +kernel
theorem d_X8_simple_51 : decode cX8_simple 51 = .ok (.aload_n 0, 1) := by decide +kernel
theorem d_X8_simple_52 : decode cX8_simple 52 = .ok (.iload_n 1, 1) := by decide +kernel
theorem d_X8_simple_53 : decode cX8_simple 53 = .ok (.invokevirtual 40, 3) := by decide +kernel
theorem d_X8_simple_56 : decode cX8_simple 56 = .ok (.iconst (-1), 1) := by decide +kernel
theorem d_X8_simple_57 : decode cX8_simple 57 = .ok (.if_icmp .ne 7, 3) := by decide +kernel
theorem d_X8_simple_60 : decode cX8_simple 60 = .ok (.iconst 1, 1) := by decide +kernel
theorem d_X8_simple_61 : decode cX8_simple 61 = .ok (.goto 4, 3) := by decide +kernel
theorem d_X8_simple_64 : decode cX8_simple 64 = .ok (.iconst 0, 1) := by decide +kernel
theorem d_X8_simple_65 : decode cX8_simple 65 = .ok (.ireturn, 1) := by decide +kernel
theorem d_X8_simple_66 : decode cX8_simple 66 = .ok (.aload_n 0, 1) := by decide +kernel
theorem d_X8_simple_67 : decode cX8_simple 67 = .ok (.aload_n 0, 1) := by decide +kernel
theorem d_X8_simple_68 : decode cX8_simple 68 = .ok (.getfield 44, 3) := by decide +kernel
theorem d_X8_simple_71 : decode cX8_simple 71 = .ok (.iload_n 1, 1) := by decide +kernel
theorem d_X8_simple_72 : decode cX8_simple 72 = .ok (.iaload, 1) := by decide +kernel
theorem d_X8_simple_73 : decode cX8_simple 73 = .ok (.invokevirtual 47, 3) := by decide +kernel
theorem d_X8_simple_76 : decode cX8_simple 76 = .ok (.iconst 1, 1) := by decide +kernel
theorem d_X8_simple_77 : decode cX8_simple 77 = .ok (.if_icmp .ne 7, 3) := by decide +kernel
theorem d_X8_simple_80 : decode cX8_simple 80 = .ok (.iconst 1, 1) := by decide +kernel
theorem d_X8_simple_81 : decode cX8_simple 81 = .ok (.goto 4, 3) := by decide +kernel
theorem d_X8_simple_84 : decode cX8_simple 84 = .ok (.iconst 0, 1) := by decide +kernel
theorem d_X8_simple_85 : decode cX8_simple 85 = .ok (.ireturn, 1) := by decide +kernel
theorem d_X8_simple_86 : decode cX8_simple 86 = .ok (.aload_n 0, 1) := by decide +kernel
theorem d_X8_simple_87 : decode cX8_simple 87 = .ok (.iload_n 1, 1) := by decide +kernel
theorem d_X8_simple_88 : decode cX8_simple 88 = .ok (.invokevirtual 50, 3) := by decide +kernel
theorem d_X8_simple_91 : decode cX8_simple 91 = .ok (.iload_n 3, 1) := by decide +kernel
theorem d_X8_simple_92 : decode cX8_simple 92 = .ok (.if_icmp .ne 7, 3) := by decide +kernel
theorem d_X8_simple_95 : decode cX8_simple 95 = .ok (.iconst 1, 1) := by decide +kernel
theorem d_X8_simple_96 : decode cX8_simple 96 = .ok (.goto 4, 3) := by decide +kernel
theorem d_X8_simple_99 : decode cX8_simple 99 = .ok (.iconst 0, 1) := by decide +kernel
theorem d_X8_simple_100 : decode cX8_simple 100 = .ok (.ireturn, 1) := by decide +kernel
theorem d_X8_simple_101 : decode cX8_simple 101 = .ok (.aload_n 0, 1) := by decide +kernel
theorem d_X8_simple_102 : decode cX8_simple 102 = .ok (.iload_n 1, 1) := by decide +kernel
theorem d_X8_simple_103 : decode cX8_simple 103 = .ok (.invokevirtual 40, 3) := by decide +kernel
theorem d_X8_simple_106 : decode cX8_simple 106 = .ok (.iload_n 3, 1) := by decide +kernel
theorem d_X8_simple_107 : decode cX8_simple 107 = .ok (.if_icmp .ne 7, 3) := by decide +kernel
theorem d_X8_simple_110 : decode cX8_simple 110 = .ok (.iconst 1, 1) := by decide +kernel
theorem d_X8_simple_111 : decode cX8_simple 111 = .ok (.goto 4, 3) := by decide +kernel
theorem d_X8_simple_114 : decode cX8_simple 114 = .ok (.iconst 0, 1) := by decide +kernel
theorem d_X8_simple_115 : decode cX8_simple 115 = .ok (.ireturn, 1) := by decide +kernel
theorem d_X8_simple_116 : decode cX8_simple 116 = .ok (.iload_n 2, 1) := by decide +kernel
theorem d_X8_simple_117 : decode cX8_simple 117 = .ok (.bipush 16, 2) := by decide +kernel
theorem d_X8_simple_119 : decode cX8_simple 119 = .ok (.if_icmp .lt 13, 3) := by decide +kernel
theorem d_X8_simple_122 : decode cX8_simple 122 = .ok (.iload_n 1, 1) := by decide +kernel
theorem d_X8_simple_123 : decode cX8_simple 123 = .ok (.iload_n 2, 1) := by decide +kernel
theorem d_X8_simple_124 : decode cX8_simple 124 = .ok (.bipush 16, 2) := by decide +kernel
theorem d_X8_simple_126 : decode cX8_simple 126 = .ok (.isub, 1) := by decide +kernel
theorem d_X8_simple_127 : decode cX8_simple 127 = .ok (.iload_n 3, 1) := by decide +kernel
theorem d_X8_simple_128 : decode cX8_simple 128 = .ok (.invokestatic 53, 3) := by decide +kernel
theorem d_X8_simple_131 : decode cX8_simple 131 = .ok (.ireturn, 1) := by decide +kernel
theorem d_X8_simple_132 : decode cX8_simple 132 = .ok (.iload_n 2, 1) := by decide +kernel
theorem d_X8_simple_133 : decode cX8_simple 133 = .ok (.bipush 13, 2) := by decide +kernel
theorem d_X8_simple_135 : decode cX8_simple 135 = .ok (.if_icmp .lt 18, 3) := by decide +kernel
theorem d_X8_simple_138 : decode cX8_simple 138 = .ok (.aload_n 0, 1) := by decide +kernel
theorem d_X8_simple_139 : decode cX8_simple 139 = .ok (.getfield 35, 3) := by decide +kernel
theorem d_X8_simple_142 : decode cX8_simple 142 = .ok (.iload_n 1, 1) := by decide +kernel
theorem d_X8_simple_143 : decode cX8_simple 143 = .ok (.iaload, 1) := by decide +kernel
theorem d_X8_simple_144 : decode cX8_simple 144 = .ok (.iload_n 2, 1) := by decide +kernel
theorem d_X8_simple_145 : decode cX8_simple 145 = .ok (.bipush 13, 2) := by decide +kernel
theorem d_X8_simple_147 : decode cX8_simple 147 = .ok (.isub, 1) := by decide +kernel
theorem d_X8_simple_148 : decode cX8_simple 148 = .ok (.iload_n 3, 1) := by decide +kernel
theorem d_X8_simple_149 : decode cX8_simple 149 = .ok (.invokestatic 53, 3) := by decide +kernel
theorem d_X8_simple_152 : decode cX8_simple 152 = .ok (.ireturn, 1) := by decide +kernel
theorem d_X8_simple_153 : decode cX8_simple 153 = .ok (.aload_n 0, 1) := by decide +kernel
theorem d_X8_simple_154 : decode cX8_simple 154 = .ok (.getfield 57, 3) := by decide +kernel
theorem d_X8_simple_157 : decode cX8_simple 157 = .ok (.iload_n 1, 1) := by decide +kernel
theorem d_X8_simple_158 : decode cX8_simple 158 = .ok (.iaload, 1) := by decide +kernel
theorem d_X8_simple_159 : decode cX8_simple 159 = .ok (.iload_n 2, 1) := by decide +kernel
theorem d_X8_simple_160 : decode cX8_simple 160 = .ok (.bipush 10, 2) := by decide +kernel
theorem d_X8_simple_162 : decode cX8_simple 162 = .ok (.isub, 1) := by decide +kernel
theorem d_X8_simple_163 : decode cX8_simple 163 = .ok (.iload_n 3, 1) := by decide +kernel
theorem d_X8_simple_164 : decode cX8_simple 164 = .ok (.invokestatic 53, 3) := by decide +kernel
theorem d_X8_simple_167 : decode cX8_simple 167 = .ok (.ireturn, 1) := by decide +kernel
def k_X8_simple_50 (P : xP) : xK := x_zret P
set_option maxRecDepth 20000 in
theorem t_X8_simple_50 {p : Program} {l : Launch} {e : Env} {s : State} {m : MethodId} {args : Array Value} {below : List Frame} {meth : Method} {c : Code} {g : xG} (X : xX p s m args c meth cX8_simple RX8 4 g) (hr : meth.sig.returnType = (some .boolean)) {P : xP} : xAt p l e { frames := 2, cells := 0, slots := 0, locals := 43 } s m args below meth c g 4 xFT xN 0 0 (MQ below (xQc g xFT xN P) args s 0 0 (xFr g)) (k_X8_simple_50 P) 50 := by
  unfold k_X8_simple_50
  exact r_zret (pc := 50) X hr d_X8_simple_50
def k_X8_simple_65 (P : xP) : xK := x_zret P
set_option maxRecDepth 20000 in
theorem t_X8_simple_65 {p : Program} {l : Launch} {e : Env} {s : State} {m : MethodId} {args : Array Value} {below : List Frame} {meth : Method} {c : Code} {g : xG} (X : xX p s m args c meth cX8_simple RX8 4 g) (hr : meth.sig.returnType = (some .boolean)) {P : xP} : xAt p l e { frames := 2, cells := 0, slots := 0, locals := 43 } s m args below meth c g 4 xFT xN 0 0 (MQ below (xQc g xFT xN P) args s 0 0 (xFr g)) (k_X8_simple_65 P) 65 := by
  unfold k_X8_simple_65
  exact r_zret (pc := 65) X hr d_X8_simple_65
def k_X8_simple_85 (P : xP) : xK := x_zret P
set_option maxRecDepth 20000 in
theorem t_X8_simple_85 {p : Program} {l : Launch} {e : Env} {s : State} {m : MethodId} {args : Array Value} {below : List Frame} {meth : Method} {c : Code} {g : xG} (X : xX p s m args c meth cX8_simple RX8 4 g) (hr : meth.sig.returnType = (some .boolean)) {P : xP} : xAt p l e { frames := 2, cells := 0, slots := 0, locals := 43 } s m args below meth c g 4 xFT xN 0 0 (MQ below (xQc g xFT xN P) args s 0 0 (xFr g)) (k_X8_simple_85 P) 85 := by
  unfold k_X8_simple_85
  exact r_zret (pc := 85) X hr d_X8_simple_85
def k_X8_simple_100 (P : xP) : xK := x_zret P
set_option maxRecDepth 20000 in
theorem t_X8_simple_100 {p : Program} {l : Launch} {e : Env} {s : State} {m : MethodId} {args : Array Value} {below : List Frame} {meth : Method} {c : Code} {g : xG} (X : xX p s m args c meth cX8_simple RX8 4 g) (hr : meth.sig.returnType = (some .boolean)) {P : xP} : xAt p l e { frames := 2, cells := 0, slots := 0, locals := 43 } s m args below meth c g 4 xFT xN 0 0 (MQ below (xQc g xFT xN P) args s 0 0 (xFr g)) (k_X8_simple_100 P) 100 := by
  unfold k_X8_simple_100
  exact r_zret (pc := 100) X hr d_X8_simple_100
def k_X8_simple_115 (P : xP) : xK := x_zret P
set_option maxRecDepth 20000 in
theorem t_X8_simple_115 {p : Program} {l : Launch} {e : Env} {s : State} {m : MethodId} {args : Array Value} {below : List Frame} {meth : Method} {c : Code} {g : xG} (X : xX p s m args c meth cX8_simple RX8 4 g) (hr : meth.sig.returnType = (some .boolean)) {P : xP} : xAt p l e { frames := 2, cells := 0, slots := 0, locals := 43 } s m args below meth c g 4 xFT xN 0 0 (MQ below (xQc g xFT xN P) args s 0 0 (xFr g)) (k_X8_simple_115 P) 115 := by
  unfold k_X8_simple_115
  exact r_zret (pc := 115) X hr d_X8_simple_115
def k_X8_simple_0 (P : xP) : xK := x_iload 2 (x_tsw 0 [x_aload 0 (x_getF xN xFT 4 12 (x_iload 1 (x_iald xN (x_if_ne (x_push (.int 0) ((k_X8_simple_50 P))) (x_push (.int 1) ((k_X8_simple_50 P))))))), x_aload 0 (x_iload 1 (x_cv1 xN 4 (w_RI f_X4_nextOf) (x_push (.int (-1)) (x_icmp_ne (x_push (.int 0) ((k_X8_simple_65 P))) (x_push (.int 1) ((k_X8_simple_65 P))))))), x_aload 0 (x_aload 0 (x_getF xN xFT 4 13 (x_iload 1 (x_iald xN (x_cv1 xN 4 (w_RI f_X4_groupSize) (x_push (.int 1) (x_icmp_ne (x_push (.int 0) ((k_X8_simple_85 P))) (x_push (.int 1) ((k_X8_simple_85 P)))))))))), x_aload 0 (x_iload 1 (x_cv1 xN 4 (w_RI f_X4_kindOf) (x_iload 3 (x_icmp_ne (x_push (.int 0) ((k_X8_simple_100 P))) (x_push (.int 1) ((k_X8_simple_100 P))))))), x_aload 0 (x_iload 1 (x_cv1 xN 4 (w_RI f_X4_nextOf) (x_iload 3 (x_icmp_ne (x_push (.int 0) ((k_X8_simple_115 P))) (x_push (.int 1) ((k_X8_simple_115 P)))))))] (x_iload 2 (x_push (.int 16) (x_icmp_lt (x_iload 2 (x_push (.int 13) (x_icmp_lt (x_aload 0 (x_getF xN xFT 4 11 (x_iload 1 (x_iald xN (x_iload 2 (x_push (.int 10) (x_isub (x_iload 3 (x_cs3 (w_III f_X8_compares) (x_zret P)))))))))) (x_aload 0 (x_getF xN xFT 4 12 (x_iload 1 (x_iald xN (x_iload 2 (x_push (.int 13) (x_isub (x_iload 3 (x_cs3 (w_III f_X8_compares) (x_zret P))))))))))))) (x_iload 1 (x_iload 2 (x_push (.int 16) (x_isub (x_iload 3 (x_cs3 (w_III f_X8_compares) (x_zret P)))))))))))
set_option maxRecDepth 20000 in
theorem t_X8_simple_0 {p : Program} {l : Launch} {e : Env} {s : State} {m : MethodId} {args : Array Value} {below : List Frame} {meth : Method} {c : Code} {g : xG} (X : xX p s m args c meth cX8_simple RX8 4 g) (hr : meth.sig.returnType = (some .boolean)) {P : xP} : xAt p l e { frames := 2, cells := 0, slots := 0, locals := 43 } s m args below meth c g 4 xFT xN 0 0 (MQ below (xQc g xFT xN P) args s 0 0 (xFr g)) (k_X8_simple_0 P) 0 := by
  unfold k_X8_simple_0
  refine r_iload_n (pc := 0) X d_X8_simple_0 fn2 ?_
  refine r_tsw (pc := 1) (offs := [35, 50, 65, 85, 100]) (td := 116) X d_X8_simple_1 (by decide +kernel) (by decide +kernel) ?_ (show xswOK _ _ _ _ _ _ _ _ _ _ _ _ _ _ _ _ _ _ _ _ from ⟨⟨36, by decide, ?_⟩, ⟨⟨51, by decide, ?_⟩, ⟨⟨66, by decide, ?_⟩, ⟨⟨86, by decide, ?_⟩, ⟨⟨101, by decide, ?_⟩, trivial⟩⟩⟩⟩⟩)
  · refine r_iload_n (pc := 116) X d_X8_simple_116 fn2 ?_
    refine r_bipush (pc := 117) X d_X8_simple_117 (by decide +kernel) ?_
    refine r_icmp_lt (pc := 119) (tgt := 132) X d_X8_simple_119 (by decide +kernel) ?_ ?_
    · refine r_iload_n (pc := 132) X d_X8_simple_132 fn2 ?_
      refine r_bipush (pc := 133) X d_X8_simple_133 (by decide +kernel) ?_
      refine r_icmp_lt (pc := 135) (tgt := 153) X d_X8_simple_135 (by decide +kernel) ?_ ?_
      · refine r_aload_n (pc := 153) X d_X8_simple_153 fn0 ?_
        refine r_getF (pc := 154) X xok4 (by decide +kernel) (by decide +kernel) fl_RX8_57 d_X8_simple_154 ?_
        refine r_iload_n (pc := 157) X d_X8_simple_157 fn1 ?_
        refine r_iald (pc := 158) X d_X8_simple_158 ?_
        refine r_iload_n (pc := 159) X d_X8_simple_159 fn2 ?_
        refine r_bipush (pc := 160) X d_X8_simple_160 (by decide +kernel) ?_
        refine r_isub (pc := 162) X d_X8_simple_162 ?_
        refine r_iload_n (pc := 163) X d_X8_simple_163 fn3 ?_
        refine r_cs3 (pc := 164) X (con_X8_compares l) sf_X8_compares ml_RX8_53 (by decide +kernel) (by decide +kernel) d_X8_simple_164 ?_
        exact r_zret (pc := 167) X hr d_X8_simple_167
      · refine r_aload_n (pc := 138) X d_X8_simple_138 fn0 ?_
        refine r_getF (pc := 139) X xok4 (by decide +kernel) (by decide +kernel) fl_RX8_35 d_X8_simple_139 ?_
        refine r_iload_n (pc := 142) X d_X8_simple_142 fn1 ?_
        refine r_iald (pc := 143) X d_X8_simple_143 ?_
        refine r_iload_n (pc := 144) X d_X8_simple_144 fn2 ?_
        refine r_bipush (pc := 145) X d_X8_simple_145 (by decide +kernel) ?_
        refine r_isub (pc := 147) X d_X8_simple_147 ?_
        refine r_iload_n (pc := 148) X d_X8_simple_148 fn3 ?_
        refine r_cs3 (pc := 149) X (con_X8_compares l) sf_X8_compares ml_RX8_53 (by decide +kernel) (by decide +kernel) d_X8_simple_149 ?_
        exact r_zret (pc := 152) X hr d_X8_simple_152
    · refine r_iload_n (pc := 122) X d_X8_simple_122 fn1 ?_
      refine r_iload_n (pc := 123) X d_X8_simple_123 fn2 ?_
      refine r_bipush (pc := 124) X d_X8_simple_124 (by decide +kernel) ?_
      refine r_isub (pc := 126) X d_X8_simple_126 ?_
      refine r_iload_n (pc := 127) X d_X8_simple_127 fn3 ?_
      refine r_cs3 (pc := 128) X (con_X8_compares l) sf_X8_compares ml_RX8_53 (by decide +kernel) (by decide +kernel) d_X8_simple_128 ?_
      exact r_zret (pc := 131) X hr d_X8_simple_131
  · refine r_aload_n (pc := 36) X d_X8_simple_36 fn0 ?_
    refine r_getF (pc := 37) X xok4 (by decide +kernel) (by decide +kernel) fl_RX8_35 d_X8_simple_37 ?_
    refine r_iload_n (pc := 40) X d_X8_simple_40 fn1 ?_
    refine r_iald (pc := 41) X d_X8_simple_41 ?_
    refine r_if_ne (pc := 42) (tgt := 49) X d_X8_simple_42 (by decide +kernel) ?_ ?_
    · refine r_iconst (pc := 49) X d_X8_simple_49 (by decide +kernel) ?_
      exact t_X8_simple_50 X hr
    · refine r_iconst (pc := 45) X d_X8_simple_45 (by decide +kernel) ?_
      refine r_goto (pc := 46) (tgt := 50) X d_X8_simple_46 (by decide +kernel) ?_
      exact t_X8_simple_50 X hr
  · refine r_aload_n (pc := 51) X d_X8_simple_51 fn0 ?_
    refine r_iload_n (pc := 52) X d_X8_simple_52 fn1 ?_
    refine r_cv1 (pc := 53) X xok4 (by decide +kernel) rfl (con_X4_nextOf l) mf_X4_nextOf ml_RX8_40 (by decide +kernel) (by decide +kernel) d_X8_simple_53 ?_
    refine r_iconst (pc := 56) X d_X8_simple_56 (by decide +kernel) ?_
    refine r_icmp_ne (pc := 57) (tgt := 64) X d_X8_simple_57 (by decide +kernel) ?_ ?_
    · refine r_iconst (pc := 64) X d_X8_simple_64 (by decide +kernel) ?_
      exact t_X8_simple_65 X hr
    · refine r_iconst (pc := 60) X d_X8_simple_60 (by decide +kernel) ?_
      refine r_goto (pc := 61) (tgt := 65) X d_X8_simple_61 (by decide +kernel) ?_
      exact t_X8_simple_65 X hr
  · refine r_aload_n (pc := 66) X d_X8_simple_66 fn0 ?_
    refine r_aload_n (pc := 67) X d_X8_simple_67 fn0 ?_
    refine r_getF (pc := 68) X xok4 (by decide +kernel) (by decide +kernel) fl_RX8_44 d_X8_simple_68 ?_
    refine r_iload_n (pc := 71) X d_X8_simple_71 fn1 ?_
    refine r_iald (pc := 72) X d_X8_simple_72 ?_
    refine r_cv1 (pc := 73) X xok4 (by decide +kernel) rfl (con_X4_groupSize l) mf_X4_groupSize ml_RX8_47 (by decide +kernel) (by decide +kernel) d_X8_simple_73 ?_
    refine r_iconst (pc := 76) X d_X8_simple_76 (by decide +kernel) ?_
    refine r_icmp_ne (pc := 77) (tgt := 84) X d_X8_simple_77 (by decide +kernel) ?_ ?_
    · refine r_iconst (pc := 84) X d_X8_simple_84 (by decide +kernel) ?_
      exact t_X8_simple_85 X hr
    · refine r_iconst (pc := 80) X d_X8_simple_80 (by decide +kernel) ?_
      refine r_goto (pc := 81) (tgt := 85) X d_X8_simple_81 (by decide +kernel) ?_
      exact t_X8_simple_85 X hr
  · refine r_aload_n (pc := 86) X d_X8_simple_86 fn0 ?_
    refine r_iload_n (pc := 87) X d_X8_simple_87 fn1 ?_
    refine r_cv1 (pc := 88) X xok4 (by decide +kernel) rfl (con_X4_kindOf l) mf_X4_kindOf ml_RX8_50 (by decide +kernel) (by decide +kernel) d_X8_simple_88 ?_
    refine r_iload_n (pc := 91) X d_X8_simple_91 fn3 ?_
    refine r_icmp_ne (pc := 92) (tgt := 99) X d_X8_simple_92 (by decide +kernel) ?_ ?_
    · refine r_iconst (pc := 99) X d_X8_simple_99 (by decide +kernel) ?_
      exact t_X8_simple_100 X hr
    · refine r_iconst (pc := 95) X d_X8_simple_95 (by decide +kernel) ?_
      refine r_goto (pc := 96) (tgt := 100) X d_X8_simple_96 (by decide +kernel) ?_
      exact t_X8_simple_100 X hr
  · refine r_aload_n (pc := 101) X d_X8_simple_101 fn0 ?_
    refine r_iload_n (pc := 102) X d_X8_simple_102 fn1 ?_
    refine r_cv1 (pc := 103) X xok4 (by decide +kernel) rfl (con_X4_nextOf l) mf_X4_nextOf ml_RX8_40 (by decide +kernel) (by decide +kernel) d_X8_simple_103 ?_
    refine r_iload_n (pc := 106) X d_X8_simple_106 fn3 ?_
    refine r_icmp_ne (pc := 107) (tgt := 114) X d_X8_simple_107 (by decide +kernel) ?_ ?_
    · refine r_iconst (pc := 114) X d_X8_simple_114 (by decide +kernel) ?_
      exact t_X8_simple_115 X hr
    · refine r_iconst (pc := 110) X d_X8_simple_110 (by decide +kernel) ?_
      refine r_goto (pc := 111) (tgt := 115) X d_X8_simple_111 (by decide +kernel) ?_
      exact t_X8_simple_115 X hr
def f_X8_simple (a0 : Nat) (a1 : Int32) (a2 : Int32) (a3 : Int32) (A : xH) (P : xP) : Prop := k_X8_simple_0 P [some (.ref a0), some (.int a1), some (.int a2), some (.int a3)] [] A
set_option maxRecDepth 20000 in
theorem con_X8_simple (l : Launch) : xCon l yX8_simple cX8_simple 4 (some .boolean) 2 43 xN xN 0 xFT xFT (w_RIII f_X8_simple) :=
  xc_RIII (plainFor_of_name pn_RX8) (by decide +kernel) (fun p e s m args below meth c g a0 a1 a2 a3 A P h X hr _ => ⟨_, h, t_X8_simple_0 X hr⟩)
theorem d_X8_holdsOf_0 : decode cX8_holdsOf 0 = .ok (.iconst 0, 1) := by decide +kernel
theorem d_X8_holdsOf_1 : decode cX8_holdsOf 1 = .ok (.istore_n 3, 1) := by decide +kernel
theorem d_X8_holdsOf_2 : decode cX8_holdsOf 2 = .ok (.iconst 0, 1) := by decide +kernel
theorem d_X8_holdsOf_3 : decode cX8_holdsOf 3 = .ok (.istore 4, 2) := by decide +kernel
theorem d_X8_holdsOf_5 : decode cX8_holdsOf 5 = .ok (.iload 4, 2) := by decide +kernel
theorem d_X8_holdsOf_7 : decode cX8_holdsOf 7 = .ok (.aload_n 0, 1) := by decide +kernel
theorem d_X8_holdsOf_8 : decode cX8_holdsOf 8 = .ok (.getfield 18, 3) := by decide +kernel
theorem d_X8_holdsOf_11 : decode cX8_holdsOf 11 = .ok (.if_icmp .ge 111, 3) := by decide +kernel
theorem d_X8_holdsOf_14 : decode cX8_holdsOf 14 = .ok (.iload_n 3, 1) := by decide +kernel
theorem d_X8_holdsOf_15 : decode cX8_holdsOf 15 = .ok (.iconst 1, 1) := by decide +kernel
theorem d_X8_holdsOf_16 : decode cX8_holdsOf 16 = .ok (.iand, 1) := by decide +kernel
theorem d_X8_holdsOf_17 : decode cX8_holdsOf 17 = .ok (.istore 5, 2) := by decide +kernel
theorem d_X8_holdsOf_19 : decode cX8_holdsOf 19 = .ok (.aload_n 0, 1) := by decide +kernel
theorem d_X8_holdsOf_20 : decode cX8_holdsOf 20 = .ok (.getfield 9, 3) := by decide +kernel
theorem d_X8_holdsOf_23 : decode cX8_holdsOf 23 = .ok (.iload 4, 2) := by decide +kernel
theorem d_X8_holdsOf_25 : decode cX8_holdsOf 25 = .ok (.iaload, 1) := by decide +kernel
theorem d_X8_holdsOf_26 : decode cX8_holdsOf 26 = .ok (.iconst 5, 1) := by decide +kernel
theorem d_X8_holdsOf_27 : decode cX8_holdsOf 27 = .ok (.if_icmp .ne 10, 3) := by decide +kernel
theorem d_X8_holdsOf_30 : decode cX8_holdsOf 30 = .ok (.iload_n 3, 1) := by decide +kernel
theorem d_X8_holdsOf_31 : decode cX8_holdsOf 31 = .ok (.iconst 1, 1) := by decide +kernel
theorem d_X8_holdsOf_32 : decode cX8_holdsOf 32 = .ok (.ixor, 1) := by decide +kernel
theorem d_X8_holdsOf_33 : decode cX8_holdsOf 33 = .ok (.istore_n 3, 1) := by decide +kernel
theorem d_X8_holdsOf_34 : decode cX8_holdsOf 34 = .ok (.goto 82, 3) := by decide +kernel
theorem d_X8_holdsOf_37 : decode cX8_holdsOf 37 = .ok (.aload_n 0, 1) := by decide +kernel
theorem d_X8_holdsOf_38 : decode cX8_holdsOf 38 = .ok (.getfield 9, 3) := by decide +kernel
theorem d_X8_holdsOf_41 : decode cX8_holdsOf 41 = .ok (.iload 4, 2) := by decide +kernel
theorem d_X8_holdsOf_43 : decode cX8_holdsOf 43 = .ok (.iaload, 1) := by decide +kernel
theorem d_X8_holdsOf_44 : decode cX8_holdsOf 44 = .ok (.bipush 6, 2) := by decide +kernel
theorem d_X8_holdsOf_46 : decode cX8_holdsOf 46 = .ok (.if_icmp .ne 16, 3) := by decide +kernel
theorem d_X8_holdsOf_49 : decode cX8_holdsOf 49 = .ok (.iload_n 3, 1) := by decide +kernel
theorem d_X8_holdsOf_50 : decode cX8_holdsOf 50 = .ok (.iconst 1, 1) := by decide +kernel
theorem d_X8_holdsOf_51 : decode cX8_holdsOf 51 = .ok (.iushr, 1) := by decide +kernel
theorem d_X8_holdsOf_52 : decode cX8_holdsOf 52 = .ok (.iload 5, 2) := by decide +kernel
theorem d_X8_holdsOf_54 : decode cX8_holdsOf 54 = .ok (.bipush (-2), 2) := by decide +kernel
theorem d_X8_holdsOf_56 : decode cX8_holdsOf 56 = .ok (.ior, 1) := by decide +kernel
theorem d_X8_holdsOf_57 : decode cX8_holdsOf 57 = .ok (.iand, 1) := by decide +kernel
theorem d_X8_holdsOf_58 : decode cX8_holdsOf 58 = .ok (.istore_n 3, 1) := by decide +kernel
theorem d_X8_holdsOf_59 : decode cX8_holdsOf 59 = .ok (.goto 57, 3) := by decide +kernel
theorem d_X8_holdsOf_62 : decode cX8_holdsOf 62 = .ok (.aload_n 0, 1) := by decide +kernel
theorem d_X8_holdsOf_63 : decode cX8_holdsOf 63 = .ok (.getfield 9, 3) := by decide +kernel
theorem d_X8_holdsOf_66 : decode cX8_holdsOf 66 = .ok (.iload 4, 2) := by decide +kernel
theorem d_X8_holdsOf_68 : decode cX8_holdsOf 68 = .ok (.iaload, 1) := by decide +kernel
theorem d_X8_holdsOf_69 : decode cX8_holdsOf 69 = .ok (.bipush 7, 2) := by decide +kernel
theorem d_X8_holdsOf_71 : decode cX8_holdsOf 71 = .ok (.if_icmp .ne 13, 3) := by decide +kernel
theorem d_X8_holdsOf_74 : decode cX8_holdsOf 74 = .ok (.iload_n 3, 1) := by decide +kernel
theorem d_X8_holdsOf_75 : decode cX8_holdsOf 75 = .ok (.iconst 1, 1) := by decide +kernel
theorem d_X8_holdsOf_76 : decode cX8_holdsOf 76 = .ok (.iushr, 1) := by decide +kernel
theorem d_X8_holdsOf_77 : decode cX8_holdsOf 77 = .ok (.iload 5, 2) := by decide +kernel
theorem d_X8_holdsOf_79 : decode cX8_holdsOf 79 = .ok (.ior, 1) := by decide +kernel
theorem d_X8_holdsOf_80 : decode cX8_holdsOf 80 = .ok (.istore_n 3, 1) := by decide +kernel
theorem d_X8_holdsOf_81 : decode cX8_holdsOf 81 = .ok (.goto 35, 3) := by decide +kernel
theorem d_X8_holdsOf_84 : decode cX8_holdsOf 84 = .ok (.iload_n 3, 1) := by decide +kernel
theorem d_X8_holdsOf_85 : decode cX8_holdsOf 85 = .ok (.iconst 1, 1) := by decide +kernel
theorem d_X8_holdsOf_86 : decode cX8_holdsOf 86 = .ok (.ishl, 1) := by decide +kernel
theorem d_X8_holdsOf_87 : decode cX8_holdsOf 87 = .ok (.aload_n 1, 1) := by decide +kernel
theorem d_X8_holdsOf_88 : decode cX8_holdsOf 88 = .ok (.iload_n 2, 1) := by decide +kernel
theorem d_X8_holdsOf_89 : decode cX8_holdsOf 89 = .ok (.aload_n 0, 1) := by decide +kernel
theorem d_X8_holdsOf_90 : decode cX8_holdsOf 90 = .ok (.getfield 9, 3) := by decide +kernel
theorem d_X8_holdsOf_93 : decode cX8_holdsOf 93 = .ok (.iload 4, 2) := by decide +kernel
theorem d_X8_holdsOf_95 : decode cX8_holdsOf 95 = .ok (.iaload, 1) := by decide +kernel
theorem d_X8_holdsOf_96 : decode cX8_holdsOf 96 = .ok (.aload_n 0, 1) := by decide +kernel
theorem d_X8_holdsOf_97 : decode cX8_holdsOf 97 = .ok (.getfield 15, 3) := by decide +kernel
theorem d_X8_holdsOf_100 : decode cX8_holdsOf 100 = .ok (.iload 4, 2) := by decide +kernel
theorem d_X8_holdsOf_102 : decode cX8_holdsOf 102 = .ok (.iaload, 1) := by decide +kernel
theorem d_X8_holdsOf_103 : decode cX8_holdsOf 103 = .ok (.invokestatic 31, 3) := by decide +kernel
theorem d_X8_holdsOf_106 : decode cX8_holdsOf 106 = .ok (.ifCond .eq 7, 3) := by decide +kernel
theorem d_X8_holdsOf_109 : decode cX8_holdsOf 109 = .ok (.iconst 1, 1) := by decide +kernel
theorem d_X8_holdsOf_110 : decode cX8_holdsOf 110 = .ok (.goto 4, 3) := by decide +kernel
theorem d_X8_holdsOf_113 : decode cX8_holdsOf 113 = .ok (.iconst 0, 1) := by decide +kernel
theorem d_X8_holdsOf_114 : decode cX8_holdsOf 114 = .ok (.ior, 1) := by decide +kernel
theorem d_X8_holdsOf_115 : decode cX8_holdsOf 115 = .ok (.istore_n 3, 1) := by decide +kernel
theorem d_X8_holdsOf_116 : decode cX8_holdsOf 116 = .ok (.iinc 4 1, 3) := by decide +kernel
theorem d_X8_holdsOf_119 : decode cX8_holdsOf 119 = .ok (.goto (-114), 3) := by decide +kernel
theorem d_X8_holdsOf_122 : decode cX8_holdsOf 122 = .ok (.iload_n 3, 1) := by decide +kernel
theorem d_X8_holdsOf_123 : decode cX8_holdsOf 123 = .ok (.iconst 1, 1) := by decide +kernel
theorem d_X8_holdsOf_124 : decode cX8_holdsOf 124 = .ok (.iand, 1) := by decide +kernel
theorem d_X8_holdsOf_125 : decode cX8_holdsOf 125 = .ok (.iconst 1, 1) := by decide +kernel
theorem d_X8_holdsOf_126 : decode cX8_holdsOf 126 = .ok (.if_icmp .ne 7, 3) := by decide +kernel
theorem d_X8_holdsOf_129 : decode cX8_holdsOf 129 = .ok (.iconst 1, 1) := by decide +kernel
theorem d_X8_holdsOf_130 : decode cX8_holdsOf 130 = .ok (.goto 4, 3) := by decide +kernel
theorem d_X8_holdsOf_133 : decode cX8_holdsOf 133 = .ok (.iconst 0, 1) := by decide +kernel
theorem d_X8_holdsOf_134 : decode cX8_holdsOf 134 = .ok (.ireturn, 1) := by decide +kernel
def k_X8_holdsOf_0 (P : xP) (C5 : xK) : xK := x_push (.int 0) (x_istore 3 (x_push (.int 0) (x_istore 4 (C5))))
set_option maxRecDepth 20000 in
theorem t_X8_holdsOf_0 {p : Program} {l : Launch} {e : Env} {s : State} {m : MethodId} {args : Array Value} {below : List Frame} {meth : Method} {c : Code} {g : xG} (X : xX p s m args c meth cX8_holdsOf RX8 6 g) (hr : meth.sig.returnType = (some .boolean)) {P : xP} {C5 : xK} (h5 : xAt p l e { frames := 3, cells := 0, slots := 0, locals := 66 } s m args below meth c g 6 xFT xN 0 0 (MQ below (xQc g xFT xN P) args s 0 0 (xFr g)) C5 5) : xAt p l e { frames := 3, cells := 0, slots := 0, locals := 66 } s m args below meth c g 6 xFT xN 0 0 (MQ below (xQc g xFT xN P) args s 0 0 (xFr g)) (k_X8_holdsOf_0 P C5) 0 := by
  unfold k_X8_holdsOf_0
  refine r_iconst (pc := 0) X d_X8_holdsOf_0 (by decide +kernel) ?_
  refine r_istore_n (pc := 1) X d_X8_holdsOf_1 fn3 (by decide +kernel) ?_
  refine r_iconst (pc := 2) X d_X8_holdsOf_2 (by decide +kernel) ?_
  refine r_istore (pc := 3) X d_X8_holdsOf_3 (by decide +kernel) ?_
  exact h5
def k_X8_holdsOf_134 (P : xP) : xK := x_zret P
set_option maxRecDepth 20000 in
theorem t_X8_holdsOf_134 {p : Program} {l : Launch} {e : Env} {s : State} {m : MethodId} {args : Array Value} {below : List Frame} {meth : Method} {c : Code} {g : xG} (X : xX p s m args c meth cX8_holdsOf RX8 6 g) (hr : meth.sig.returnType = (some .boolean)) {P : xP} : xAt p l e { frames := 3, cells := 0, slots := 0, locals := 66 } s m args below meth c g 6 xFT xN 0 0 (MQ below (xQc g xFT xN P) args s 0 0 (xFr g)) (k_X8_holdsOf_134 P) 134 := by
  unfold k_X8_holdsOf_134
  exact r_zret (pc := 134) X hr d_X8_holdsOf_134
def k_X8_holdsOf_116 (P : xP) (C5 : xK) : xK := x_iinc 4 1 (C5)
set_option maxRecDepth 20000 in
theorem t_X8_holdsOf_116 {p : Program} {l : Launch} {e : Env} {s : State} {m : MethodId} {args : Array Value} {below : List Frame} {meth : Method} {c : Code} {g : xG} (X : xX p s m args c meth cX8_holdsOf RX8 6 g) (hr : meth.sig.returnType = (some .boolean)) {P : xP} {C5 : xK} (h5 : xAt p l e { frames := 3, cells := 0, slots := 0, locals := 66 } s m args below meth c g 6 xFT xN 0 0 (MQ below (xQc g xFT xN P) args s 0 0 (xFr g)) C5 5) : xAt p l e { frames := 3, cells := 0, slots := 0, locals := 66 } s m args below meth c g 6 xFT xN 0 0 (MQ below (xQc g xFT xN P) args s 0 0 (xFr g)) (k_X8_holdsOf_116 P C5) 116 := by
  unfold k_X8_holdsOf_116
  refine r_iinc (pc := 116) X d_X8_holdsOf_116 (by decide +kernel) (by decide +kernel) ?_
  refine r_goto (pc := 119) (tgt := 5) X d_X8_holdsOf_119 (by decide +kernel) ?_
  exact h5
def k_X8_holdsOf_114 (P : xP) (C5 : xK) : xK := x_ior (x_istore 3 ((k_X8_holdsOf_116 P C5)))
set_option maxRecDepth 20000 in
theorem t_X8_holdsOf_114 {p : Program} {l : Launch} {e : Env} {s : State} {m : MethodId} {args : Array Value} {below : List Frame} {meth : Method} {c : Code} {g : xG} (X : xX p s m args c meth cX8_holdsOf RX8 6 g) (hr : meth.sig.returnType = (some .boolean)) {P : xP} {C5 : xK} (h5 : xAt p l e { frames := 3, cells := 0, slots := 0, locals := 66 } s m args below meth c g 6 xFT xN 0 0 (MQ below (xQc g xFT xN P) args s 0 0 (xFr g)) C5 5) : xAt p l e { frames := 3, cells := 0, slots := 0, locals := 66 } s m args below meth c g 6 xFT xN 0 0 (MQ below (xQc g xFT xN P) args s 0 0 (xFr g)) (k_X8_holdsOf_114 P C5) 114 := by
  unfold k_X8_holdsOf_114
  refine r_ior (pc := 114) X d_X8_holdsOf_114 ?_
  refine r_istore_n (pc := 115) X d_X8_holdsOf_115 fn3 (by decide +kernel) ?_
  exact t_X8_holdsOf_116 X hr h5
def k_X8_holdsOf_5 (P : xP) (C5 : xK) : xK := x_iload 4 (x_aload 0 (x_getI xN 8 2 (x_icmp_ge (x_iload 3 (x_push (.int 1) (x_iand (x_push (.int 1) (x_icmp_ne (x_push (.int 0) ((k_X8_holdsOf_134 P))) (x_push (.int 1) ((k_X8_holdsOf_134 P)))))))) (x_iload 3 (x_push (.int 1) (x_iand (x_istore 5 (x_aload 0 (x_getF xN xFT 8 0 (x_iload 4 (x_iald xN (x_push (.int 5) (x_icmp_ne (x_aload 0 (x_getF xN xFT 8 0 (x_iload 4 (x_iald xN (x_push (.int 6) (x_icmp_ne (x_aload 0 (x_getF xN xFT 8 0 (x_iload 4 (x_iald xN (x_push (.int 7) (x_icmp_ne (x_iload 3 (x_push (.int 1) (x_ishl (x_aload 1 (x_iload 2 (x_aload 0 (x_getF xN xFT 8 0 (x_iload 4 (x_iald xN (x_aload 0 (x_getF xN xFT 8 1 (x_iload 4 (x_iald xN (x_cs4 (w_RIII f_X8_simple) (x_if_eq (x_push (.int 0) ((k_X8_holdsOf_114 P C5))) (x_push (.int 1) ((k_X8_holdsOf_114 P C5)))))))))))))))))) (x_iload 3 (x_push (.int 1) (x_iushr (x_iload 5 (x_ior (x_istore 3 ((k_X8_holdsOf_116 P C5)))))))))))))) (x_iload 3 (x_push (.int 1) (x_iushr (x_iload 5 (x_push (.int (-2)) (x_ior (x_iand (x_istore 3 ((k_X8_holdsOf_116 P C5)))))))))))))))) (x_iload 3 (x_push (.int 1) (x_ixor (x_istore 3 ((k_X8_holdsOf_116 P C5)))))))))))))))))))
set_option maxRecDepth 20000 in
theorem t_X8_holdsOf_5 {p : Program} {l : Launch} {e : Env} {s : State} {m : MethodId} {args : Array Value} {below : List Frame} {meth : Method} {c : Code} {g : xG} (X : xX p s m args c meth cX8_holdsOf RX8 6 g) (hr : meth.sig.returnType = (some .boolean)) {P : xP} {C5 : xK} (h5 : xAt p l e { frames := 3, cells := 0, slots := 0, locals := 66 } s m args below meth c g 6 xFT xN 0 0 (MQ below (xQc g xFT xN P) args s 0 0 (xFr g)) C5 5) : xAt p l e { frames := 3, cells := 0, slots := 0, locals := 66 } s m args below meth c g 6 xFT xN 0 0 (MQ below (xQc g xFT xN P) args s 0 0 (xFr g)) (k_X8_holdsOf_5 P C5) 5 := by
  unfold k_X8_holdsOf_5
  refine r_iload (pc := 5) X d_X8_holdsOf_5 ?_
  refine r_aload_n (pc := 7) X d_X8_holdsOf_7 fn0 ?_
  refine r_getI (pc := 8) X xok8 (by decide +kernel) (by decide +kernel) fl_RX8_18 d_X8_holdsOf_8 ?_
  refine r_icmp_ge (pc := 11) (tgt := 122) X d_X8_holdsOf_11 (by decide +kernel) ?_ ?_
  · refine r_iload_n (pc := 122) X d_X8_holdsOf_122 fn3 ?_
    refine r_iconst (pc := 123) X d_X8_holdsOf_123 (by decide +kernel) ?_
    refine r_iand (pc := 124) X d_X8_holdsOf_124 ?_
    refine r_iconst (pc := 125) X d_X8_holdsOf_125 (by decide +kernel) ?_
    refine r_icmp_ne (pc := 126) (tgt := 133) X d_X8_holdsOf_126 (by decide +kernel) ?_ ?_
    · refine r_iconst (pc := 133) X d_X8_holdsOf_133 (by decide +kernel) ?_
      exact t_X8_holdsOf_134 X hr
    · refine r_iconst (pc := 129) X d_X8_holdsOf_129 (by decide +kernel) ?_
      refine r_goto (pc := 130) (tgt := 134) X d_X8_holdsOf_130 (by decide +kernel) ?_
      exact t_X8_holdsOf_134 X hr
  · refine r_iload_n (pc := 14) X d_X8_holdsOf_14 fn3 ?_
    refine r_iconst (pc := 15) X d_X8_holdsOf_15 (by decide +kernel) ?_
    refine r_iand (pc := 16) X d_X8_holdsOf_16 ?_
    refine r_istore (pc := 17) X d_X8_holdsOf_17 (by decide +kernel) ?_
    refine r_aload_n (pc := 19) X d_X8_holdsOf_19 fn0 ?_
    refine r_getF (pc := 20) X xok8 (by decide +kernel) (by decide +kernel) fl_RX8_9 d_X8_holdsOf_20 ?_
    refine r_iload (pc := 23) X d_X8_holdsOf_23 ?_
    refine r_iald (pc := 25) X d_X8_holdsOf_25 ?_
    refine r_iconst (pc := 26) X d_X8_holdsOf_26 (by decide +kernel) ?_
    refine r_icmp_ne (pc := 27) (tgt := 37) X d_X8_holdsOf_27 (by decide +kernel) ?_ ?_
    · refine r_aload_n (pc := 37) X d_X8_holdsOf_37 fn0 ?_
      refine r_getF (pc := 38) X xok8 (by decide +kernel) (by decide +kernel) fl_RX8_9 d_X8_holdsOf_38 ?_
      refine r_iload (pc := 41) X d_X8_holdsOf_41 ?_
      refine r_iald (pc := 43) X d_X8_holdsOf_43 ?_
      refine r_bipush (pc := 44) X d_X8_holdsOf_44 (by decide +kernel) ?_
      refine r_icmp_ne (pc := 46) (tgt := 62) X d_X8_holdsOf_46 (by decide +kernel) ?_ ?_
      · refine r_aload_n (pc := 62) X d_X8_holdsOf_62 fn0 ?_
        refine r_getF (pc := 63) X xok8 (by decide +kernel) (by decide +kernel) fl_RX8_9 d_X8_holdsOf_63 ?_
        refine r_iload (pc := 66) X d_X8_holdsOf_66 ?_
        refine r_iald (pc := 68) X d_X8_holdsOf_68 ?_
        refine r_bipush (pc := 69) X d_X8_holdsOf_69 (by decide +kernel) ?_
        refine r_icmp_ne (pc := 71) (tgt := 84) X d_X8_holdsOf_71 (by decide +kernel) ?_ ?_
        · refine r_iload_n (pc := 84) X d_X8_holdsOf_84 fn3 ?_
          refine r_iconst (pc := 85) X d_X8_holdsOf_85 (by decide +kernel) ?_
          refine r_ishl (pc := 86) X d_X8_holdsOf_86 ?_
          refine r_aload_n (pc := 87) X d_X8_holdsOf_87 fn1 ?_
          refine r_iload_n (pc := 88) X d_X8_holdsOf_88 fn2 ?_
          refine r_aload_n (pc := 89) X d_X8_holdsOf_89 fn0 ?_
          refine r_getF (pc := 90) X xok8 (by decide +kernel) (by decide +kernel) fl_RX8_9 d_X8_holdsOf_90 ?_
          refine r_iload (pc := 93) X d_X8_holdsOf_93 ?_
          refine r_iald (pc := 95) X d_X8_holdsOf_95 ?_
          refine r_aload_n (pc := 96) X d_X8_holdsOf_96 fn0 ?_
          refine r_getF (pc := 97) X xok8 (by decide +kernel) (by decide +kernel) fl_RX8_15 d_X8_holdsOf_97 ?_
          refine r_iload (pc := 100) X d_X8_holdsOf_100 ?_
          refine r_iald (pc := 102) X d_X8_holdsOf_102 ?_
          refine r_cs4 (pc := 103) X (con_X8_simple l) sf_X8_simple ml_RX8_31 (by decide +kernel) (by decide +kernel) d_X8_holdsOf_103 ?_
          refine r_if_eq (pc := 106) (tgt := 113) X d_X8_holdsOf_106 (by decide +kernel) ?_ ?_
          · refine r_iconst (pc := 113) X d_X8_holdsOf_113 (by decide +kernel) ?_
            exact t_X8_holdsOf_114 X hr h5
          · refine r_iconst (pc := 109) X d_X8_holdsOf_109 (by decide +kernel) ?_
            refine r_goto (pc := 110) (tgt := 114) X d_X8_holdsOf_110 (by decide +kernel) ?_
            exact t_X8_holdsOf_114 X hr h5
        · refine r_iload_n (pc := 74) X d_X8_holdsOf_74 fn3 ?_
          refine r_iconst (pc := 75) X d_X8_holdsOf_75 (by decide +kernel) ?_
          refine r_iushr (pc := 76) X d_X8_holdsOf_76 ?_
          refine r_iload (pc := 77) X d_X8_holdsOf_77 ?_
          refine r_ior (pc := 79) X d_X8_holdsOf_79 ?_
          refine r_istore_n (pc := 80) X d_X8_holdsOf_80 fn3 (by decide +kernel) ?_
          refine r_goto (pc := 81) (tgt := 116) X d_X8_holdsOf_81 (by decide +kernel) ?_
          exact t_X8_holdsOf_116 X hr h5
      · refine r_iload_n (pc := 49) X d_X8_holdsOf_49 fn3 ?_
        refine r_iconst (pc := 50) X d_X8_holdsOf_50 (by decide +kernel) ?_
        refine r_iushr (pc := 51) X d_X8_holdsOf_51 ?_
        refine r_iload (pc := 52) X d_X8_holdsOf_52 ?_
        refine r_bipush (pc := 54) X d_X8_holdsOf_54 (by decide +kernel) ?_
        refine r_ior (pc := 56) X d_X8_holdsOf_56 ?_
        refine r_iand (pc := 57) X d_X8_holdsOf_57 ?_
        refine r_istore_n (pc := 58) X d_X8_holdsOf_58 fn3 (by decide +kernel) ?_
        refine r_goto (pc := 59) (tgt := 116) X d_X8_holdsOf_59 (by decide +kernel) ?_
        exact t_X8_holdsOf_116 X hr h5
    · refine r_iload_n (pc := 30) X d_X8_holdsOf_30 fn3 ?_
      refine r_iconst (pc := 31) X d_X8_holdsOf_31 (by decide +kernel) ?_
      refine r_ixor (pc := 32) X d_X8_holdsOf_32 ?_
      refine r_istore_n (pc := 33) X d_X8_holdsOf_33 fn3 (by decide +kernel) ?_
      refine r_goto (pc := 34) (tgt := 116) X d_X8_holdsOf_34 (by decide +kernel) ?_
      exact t_X8_holdsOf_116 X hr h5
set_option maxRecDepth 20000 in
theorem m_X8_holdsOf {l : Launch} {f : Nat → Nat → Int32 → xH → xP → Prop}  {I5 : Nat → Nat → Int32 → xH → xP → xM → xK}
    (v0 : ∀ (a0 : Nat) (a1 : Nat) (a2 : Int32) (A : xH) (P : xP), f a0 a1 a2 A P → k_X8_holdsOf_0 P (xE (I5 a0 a1 a2 A P)) [some (.ref a0), some (.ref a1), some (.int a2), none, none, none] [] A)
    (v5 : ∀ (a0 : Nat) (a1 : Nat) (a2 : Int32) (A : xH) (P : xP), f a0 a1 a2 A P → ∀ (μ : xM) (L : xL) (st : List Value) (B : xH), I5 a0 a1 a2 A P μ L st B → k_X8_holdsOf_5 P (xB (I5 a0 a1 a2 A P) μ) L st B) : xCon l yX8_holdsOf cX8_holdsOf 6 (some .boolean) 3 66 xN xN 0 xFT xFT (w_RRI f) := by
  refine xc_RRI (plainFor_of_name pn_RX8) (by decide +kernel) (fun p e s m args below meth c g a0 a1 a2 A P h X hr _ => ?_)
  have h5 := x_loop1 (p := p) (l := l) (e := e) (R := { frames := 3, cells := 0, slots := 0, locals := 66 }) (s := s) (m := m) (args := args) (below := below) (meth := meth) (c := c) (g := g) (nL := 6) (F := xFT) (n := xN) (cells := 0) (slots := 0) (Q := MQ below (xQc g xFT xN P) args s 0 0 (xFr g)) (I := I5 a0 a1 a2 A P) (pc1 := 5) (fun μ i5 => xAt_mono (t_X8_holdsOf_5 (P := P) X hr i5) (v5 a0 a1 a2 A P h μ))
  exact ⟨_, v0 a0 a1 a2 A P h, t_X8_holdsOf_0 X hr h5⟩
def cmpB (s a b : Nat) : Bool := if s = 60 then decide (a < b) else if s = 61 then decide (a = b) else decide (b < a)
def lfV (v : xV) (i : Nat) (c : Nat × Nat × Nat) : Bool := if c.1 = 0 then decide (vdi v i = 0) else if c.1 = 1 then decide (vnx v i = 15) else if c.1 = 2 then decide (cnt (fun j => vcl v j = vcl v i) (vN v) = 1) else if c.1 = 3 then decide (vrk v (vri v i) = c.2.2 - 8) else if c.1 = 4 then decide (vnx v i = c.2.2) else if c.1 = 5 then cmpB c.2.1 (vri v i) c.2.2 else if c.1 = 6 then cmpB c.2.1 (vdi v i) c.2.2 else cmpB c.2.1 i c.2.2
def tvS (b : Bool) (k : Nat) (l : List Bool) : List Bool := if k = 20 then (match l with
    | x :: r => (!x) :: r
    | [] => []) else if k = 21 then (match l with
    | x :: y :: r => (y && x) :: r
    | l => l) else if k = 22 then (match l with
    | x :: y :: r => (y || x) :: r
    | l => l) else b :: l
def tvF (v : xV) (i : Nat) (c : Nat → Nat × Nat × Nat) : Nat → List Bool
  | 0 => []
  | k + 1 => tvS (lfV v i (c k)) (c k).1 (tvF v i c k)
def hdB : List Bool → Bool
  | [] => false
  | x :: _ => x
/-- whether a sentence holds of an item -/
def tvR (v : xV) (i : Nat) (s : xQ) : Bool := hdB (tvF v i s.2.2 s.1)
theorem tvF_len {v : xV} {i n : Nat} {c : Nat → Nat × Nat × Nat} (h : okSq (n, c)) : ∀ k, k ≤ n → (tvF v i c k).length = pdC c k
  | 0, _ => rfl
  | k + 1, hk => by
    have ih := tvF_len (v := v) (i := i) h k (by omega)
    obtain ⟨-, h1, h2, -⟩ := h k (by show k < n; omega)
    have h1 : (c k).1 = 20 → 1 ≤ pdC c k := h1
    have h2 : (c k).1 = 21 ∨ (c k).1 = 22 → 2 ≤ pdC c k := h2
    simp only [tvF, pdC, tvS]
    generalize tvF v i c k = l at *
    by_cases e : (c k).1 = 20
    · rw [if_pos e, if_pos e]
      have := h1 e
      cases l with
      | nil => simp at ih; omega
      | cons x r => simpa using ih
    · rw [if_neg e, if_neg e]
      by_cases e1 : (c k).1 = 21
      · rw [if_pos e1, if_pos (Or.inl e1)]
        have := h2 (Or.inl e1)
        match l, ih with
        | [], ih => simp at ih; omega
        | [_], ih => simp at ih; omega
        | x :: y :: r, ih => simp only [List.length_cons] at ih ⊢; omega
      · rw [if_neg e1]
        by_cases e2 : (c k).1 = 22
        · rw [if_pos e2, if_pos (Or.inr e2)]
          have := h2 (Or.inr e2)
          match l, ih with
          | [], ih => simp at ih; omega
          | [_], ih => simp at ih; omega
          | x :: y :: r, ih => simp only [List.length_cons] at ih ⊢; omega
        · rw [if_neg e2, if_neg (by omega), List.length_cons, ih]
def encB : List Bool → Nat
  | [] => 0
  | x :: r => 2 * encB r + x.toNat
theorem encB_lt : ∀ l : List Bool, encB l < 2 ^ l.length
  | [] => by simp [encB]
  | x :: r => by
    have := encB_lt r
    have hx : x.toNat ≤ 1 := by cases x <;> decide
    simp only [encB, List.length_cons, Nat.pow_succ]
    omega
theorem encB_20 {l : List Bool} (h : l.length ≤ 20) : encB l < 1048577 := by
  have := encB_lt l
  have h2 : 2 ^ l.length ≤ 2 ^ 20 := Nat.pow_le_pow_right (by omega) h
  omega
theorem and_two {a b c d : Nat} (hb : b < 2) (hd : d < 2) : (2 * a + b) &&& (2 * c + d) = 2 * (a &&& c) + (b &&& d) := by
  have hbd : b &&& d < 2 ^ 1 := Nat.and_lt_two_pow _ hd
  apply Nat.eq_of_testBit_eq
  intro i
  have e := fun (x : Nat) {y : Nat} (hy : y < 2 ^ 1) => Nat.testBit_two_pow_mul_add (i := 1) x hy i
  rw [Nat.pow_one] at e
  rw [Nat.testBit_and, e a hb, e c hd, e (a &&& c) hbd]
  by_cases q : i < 1
  · simp only [if_pos q, Nat.testBit_and]
  · simp only [if_neg q, Nat.testBit_and]
theorem or_two {a b c d : Nat} (hb : b < 2) (hd : d < 2) : (2 * a + b) ||| (2 * c + d) = 2 * (a ||| c) + (b ||| d) := by
  have hbd : b ||| d < 2 ^ 1 := Nat.or_lt_two_pow hb hd
  apply Nat.eq_of_testBit_eq
  intro i
  have e := fun (x : Nat) {y : Nat} (hy : y < 2 ^ 1) => Nat.testBit_two_pow_mul_add (i := 1) x hy i
  rw [Nat.pow_one] at e
  rw [Nat.testBit_or, e a hb, e c hd, e (a ||| c) hbd]
  by_cases q : i < 1
  · simp only [if_pos q, Nat.testBit_or]
  · simp only [if_neg q, Nat.testBit_or]
theorem xor_two {a b c d : Nat} (hb : b < 2) (hd : d < 2) : (2 * a + b) ^^^ (2 * c + d) = 2 * (a ^^^ c) + (b ^^^ d) := by
  have hbd : b ^^^ d < 2 ^ 1 := Nat.xor_lt_two_pow hb hd
  apply Nat.eq_of_testBit_eq
  intro i
  have e := fun (x : Nat) {y : Nat} (hy : y < 2 ^ 1) => Nat.testBit_two_pow_mul_add (i := 1) x hy i
  rw [Nat.pow_one] at e
  rw [Nat.testBit_xor, e a hb, e c hd, e (a ^^^ c) hbd]
  by_cases q : i < 1
  · simp only [if_pos q, Nat.testBit_xor]
  · simp only [if_neg q, Nat.testBit_xor]
theorem nI_or {a b : Nat} (ha : a < 2 ^ 31) (hb : b < 2 ^ 31) : nI a ||| nI b = nI (a ||| b) := by
  have hab : a ||| b < 2 ^ 31 := Nat.or_lt_two_pow ha hb
  apply Int32.toBitVec_inj.mp
  apply BitVec.eq_of_toNat_eq
  show (BitVec.ofNat 32 a ||| BitVec.ofNat 32 b).toNat = (BitVec.ofNat 32 (a ||| b)).toNat
  rw [BitVec.toNat_or, BitVec.toNat_ofNat, BitVec.toNat_ofNat, BitVec.toNat_ofNat, Nat.mod_eq_of_lt (a := a) (by omega), Nat.mod_eq_of_lt (a := b) (by omega), Nat.mod_eq_of_lt (by omega)]
theorem nI_xor {a b : Nat} (ha : a < 2 ^ 31) (hb : b < 2 ^ 31) : nI a ^^^ nI b = nI (a ^^^ b) := by
  have hab : a ^^^ b < 2 ^ 31 := Nat.xor_lt_two_pow ha hb
  apply Int32.toBitVec_inj.mp
  apply BitVec.eq_of_toNat_eq
  show (BitVec.ofNat 32 a ^^^ BitVec.ofNat 32 b).toNat = (BitVec.ofNat 32 (a ^^^ b)).toNat
  rw [BitVec.toNat_xor, BitVec.toNat_ofNat, BitVec.toNat_ofNat, BitVec.toNat_ofNat, Nat.mod_eq_of_lt (a := a) (by omega), Nat.mod_eq_of_lt (a := b) (by omega), Nat.mod_eq_of_lt (by omega)]
theorem nI_m2 {a : Nat} (ha : a < 2 ^ 31) : nI a &&& (-nI 2) = nI (2 * (a / 2)) := by
  apply Int32.toBitVec_inj.mp
  apply BitVec.eq_of_toNat_eq
  show (BitVec.ofNat 32 a &&& (-nI 2).toBitVec).toNat = (BitVec.ofNat 32 (2 * (a / 2))).toNat
  rw [BitVec.toNat_and, BitVec.toNat_ofNat, BitVec.toNat_ofNat, Nat.mod_eq_of_lt (a := a) (by omega), Nat.mod_eq_of_lt (by omega), show (-nI 2).toBitVec.toNat = 2 * (2 ^ 31 - 1) + 0 by decide +kernel]
  have e : a = 2 * (a / 2) + a % 2 := by omega
  have e2 : a % 2 &&& 0 = 0 := Nat.and_zero _
  conv => lhs; rw [e]
  rw [and_two (Nat.mod_lt _ (by decide)) (by decide), e2, Nat.and_two_pow_sub_one_eq_mod, Nat.mod_eq_of_lt (by omega)]
  rfl
theorem nI_m1a {a : Int32} : a &&& (-1) = a := by
  apply Int32.toBitVec_inj.mp
  show a.toBitVec &&& (-1 : Int32).toBitVec = a.toBitVec
  rw [show (-1 : Int32).toBitVec = BitVec.allOnes 32 by decide +kernel, BitVec.and_allOnes]
theorem enc_and {x : Bool} {r : List Bool} (h : encB (x :: r) < 2 ^ 31) : nI (encB (x :: r)) &&& 1 = nI x.toNat := by
  rw [pk_andN (by omega) 1 (by decide +kernel)]
  have : encB (x :: r) % 2 ^ 1 = x.toNat := by
    have hx : x.toNat ≤ 1 := by cases x <;> decide
    simp only [encB, Nat.pow_one]; omega
  rw [this]
theorem enc_shr {x : Bool} {r : List Bool} (h : encB (x :: r) < 2 ^ 31) : xius (nI (encB (x :: r))) 1 = nI (encB r) := by
  unfold xius
  rw [pk_ushrN (by omega) 1 1 (by decide +kernel)]
  have : encB (x :: r) / 2 ^ 1 = encB r := by
    have hx : x.toNat ≤ 1 := by cases x <;> decide
    simp only [encB, Nat.pow_one]; omega
  rw [this]
theorem enc_not {x : Bool} {r : List Bool} (h : encB (x :: r) < 2 ^ 31) : nI (encB (x :: r)) ^^^ 1 = nI (encB ((!x) :: r)) := by
  rw [show (1 : Int32) = nI 1 from rfl, nI_xor h (by decide)]
  have : encB (x :: r) ^^^ 1 = encB ((!x) :: r) := by
    have e := xor_two (a := encB r) (b := x.toNat) (c := 0) (d := 1) (by cases x <;> decide) (by decide)
    simp only [encB]
    rw [show 2 * 0 + 1 = 1 from rfl, Nat.xor_zero] at e
    rw [e]
    cases x <;> rfl
  rw [this]
theorem enc_or {x y : Bool} {r : List Bool} (h : encB (x :: y :: r) < 2 ^ 31) : nI (encB (y :: r)) ||| nI x.toNat = nI (encB ((y || x) :: r)) := by
  have hy : encB (y :: r) < 2 ^ 31 := by simp only [encB] at h ⊢; omega
  rw [nI_or hy (by cases x <;> decide)]
  have : encB (y :: r) ||| x.toNat = encB ((y || x) :: r) := by
    have e := or_two (a := encB r) (b := y.toNat) (c := 0) (d := x.toNat) (by cases y <;> decide) (by cases x <;> decide)
    simp only [encB]
    rw [show 2 * 0 + x.toNat = x.toNat by omega, Nat.or_zero] at e
    rw [e]
    cases x <;> cases y <;> rfl
  rw [this]
theorem enc_and2 {x y : Bool} {r : List Bool} (h : encB (x :: y :: r) < 2 ^ 31) : nI (encB (y :: r)) &&& (nI x.toNat ||| (-nI 2)) = nI (encB ((y && x) :: r)) := by
  have hy : encB (y :: r) < 2 ^ 31 := by simp only [encB] at h ⊢; omega
  cases x
  · rw [show nI false.toNat ||| (-nI 2) = -nI 2 by decide +kernel, nI_m2 hy, Bool.and_false]
    have : 2 * (encB (y :: r) / 2) = encB (false :: r) := by
      have hx : y.toNat ≤ 1 := by cases y <;> decide
      have e : false.toNat = 0 := rfl
      simp only [encB, e]; omega
    rw [this]
  · rw [show nI true.toNat ||| (-nI 2) = -1 by decide +kernel, nI_m1a, Bool.and_true]
theorem enc_push {b : Bool} {l : List Bool} (h : encB l < 2 ^ 29) : (nI (encB l) <<< ((1 : Int32) &&& 31)) ||| nI b.toNat = nI (encB (b :: l)) := by
  rw [pk_shlN _ 1 (by decide +kernel) (by omega), nI_or (by omega) (by cases b <;> decide)]
  have : encB l * 2 ^ 1 ||| b.toNat = encB (b :: l) := by
    have e := or_two (a := encB l) (b := 0) (c := 0) (d := b.toNat) (by decide) (by cases b <;> decide)
    simp only [encB]
    rw [show 2 * 0 + b.toNat = b.toNat by omega, Nat.or_zero, Nat.zero_or, show 2 * encB l + 0 = encB l * 2 ^ 1 by omega] at e
    rw [e]
  rw [this]

