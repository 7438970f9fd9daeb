theorem d_X4_isSymbol_0 : decode cX4_isSymbol 0 = .ok (.iload_n 1, 1) := by decide +kernel
theorem d_X4_isSymbol_1 : decode cX4_isSymbol 1 = .ok (.bipush 8, 2) := by decide +kernel
theorem d_X4_isSymbol_3 : decode cX4_isSymbol 3 = .ok (.isub, 1) := by decide +kernel
theorem d_X4_isSymbol_4 : decode cX4_isSymbol 4 = .ok (.istore_n 2, 1) := by decide +kernel
theorem d_X4_isSymbol_5 : decode cX4_isSymbol 5 = .ok (.iload_n 1, 1) := by decide +kernel
theorem d_X4_isSymbol_6 : decode cX4_isSymbol 6 = .ok (.ifCond .lt 11, 3) := by decide +kernel
theorem d_X4_isSymbol_9 : decode cX4_isSymbol 9 = .ok (.iload_n 1, 1) := by decide +kernel
theorem d_X4_isSymbol_10 : decode cX4_isSymbol 10 = .ok (.aload_n 0, 1) := by decide +kernel
theorem d_X4_isSymbol_11 : decode cX4_isSymbol 11 = .ok (.getfield 47, 3) := by decide +kernel
theorem d_X4_isSymbol_14 : decode cX4_isSymbol 14 = .ok (.if_icmp .lt 15, 3) := by decide +kernel
theorem d_X4_isSymbol_17 : decode cX4_isSymbol 17 = .ok (.iload_n 2, 1) := by decide +kernel
theorem d_X4_isSymbol_18 : decode cX4_isSymbol 18 = .ok (.ifCond .lt 15, 3) := by decide +kernel
theorem d_X4_isSymbol_21 : decode cX4_isSymbol 21 = .ok (.iload_n 2, 1) := by decide +kernel
theorem d_X4_isSymbol_22 : decode cX4_isSymbol 22 = .ok (.aload_n 0, 1) := by decide +kernel
theorem d_X4_isSymbol_23 : decode cX4_isSymbol 23 = .ok (.getfield 50, 3) := by decide +kernel
theorem d_X4_isSymbol_26 : decode cX4_isSymbol 26 = .ok (.if_icmp .ge 7, 3) := by decide +kernel
theorem d_X4_isSymbol_29 : decode cX4_isSymbol 29 = .ok (.iconst 1, 1) := by decide +kernel
theorem d_X4_isSymbol_30 : decode cX4_isSymbol 30 = .ok (.goto 4, 3) := by decide +kernel
theorem d_X4_isSymbol_33 : decode cX4_isSymbol 33 = .ok (.iconst 0, 1) := by decide +kernel
theorem d_X4_isSymbol_34 : decode cX4_isSymbol 34 = .ok (.ireturn, 1) := by decide +kernel
def k_X4_isSymbol_34 (P : xP) : xK := x_zret P
set_option maxRecDepth 20000 in
theorem t_X4_isSymbol_34 {p : Program} {l : Launch} {e : Env} {s : State} {m : MethodId} {args : Array Value} {below : List Frame} {meth : Method} {c : Code} {g : xG} (X : xX p s m args c meth cX4_isSymbol RX4 3 g) (hr : meth.sig.returnType = (some .boolean)) {P : xP} : xAt p l e { frames := 0, cells := 0, slots := 0, locals := 0 } s m args below meth c g 3 xFT xN 0 0 (MQ below (xQc g xFT xN P) args s 0 0 (xFr g)) (k_X4_isSymbol_34 P) 34 := by
  unfold k_X4_isSymbol_34
  exact r_zret (pc := 34) X hr d_X4_isSymbol_34
def k_X4_isSymbol_33 (P : xP) : xK := x_push (.int 0) ((k_X4_isSymbol_34 P))
set_option maxRecDepth 20000 in
theorem t_X4_isSymbol_33 {p : Program} {l : Launch} {e : Env} {s : State} {m : MethodId} {args : Array Value} {below : List Frame} {meth : Method} {c : Code} {g : xG} (X : xX p s m args c meth cX4_isSymbol RX4 3 g) (hr : meth.sig.returnType = (some .boolean)) {P : xP} : xAt p l e { frames := 0, cells := 0, slots := 0, locals := 0 } s m args below meth c g 3 xFT xN 0 0 (MQ below (xQc g xFT xN P) args s 0 0 (xFr g)) (k_X4_isSymbol_33 P) 33 := by
  unfold k_X4_isSymbol_33
  refine r_iconst (pc := 33) X d_X4_isSymbol_33 (by decide +kernel) ?_
  exact t_X4_isSymbol_34 X hr
def k_X4_isSymbol_29 (P : xP) : xK := x_push (.int 1) ((k_X4_isSymbol_34 P))
set_option maxRecDepth 20000 in
theorem t_X4_isSymbol_29 {p : Program} {l : Launch} {e : Env} {s : State} {m : MethodId} {args : Array Value} {below : List Frame} {meth : Method} {c : Code} {g : xG} (X : xX p s m args c meth cX4_isSymbol RX4 3 g) (hr : meth.sig.returnType = (some .boolean)) {P : xP} : xAt p l e { frames := 0, cells := 0, slots := 0, locals := 0 } s m args below meth c g 3 xFT xN 0 0 (MQ below (xQc g xFT xN P) args s 0 0 (xFr g)) (k_X4_isSymbol_29 P) 29 := by
  unfold k_X4_isSymbol_29
  refine r_iconst (pc := 29) X d_X4_isSymbol_29 (by decide +kernel) ?_
  refine r_goto (pc := 30) (tgt := 34) X d_X4_isSymbol_30 (by decide +kernel) ?_
  exact t_X4_isSymbol_34 X hr
def k_X4_isSymbol_17 (P : xP) : xK := x_iload 2 (x_if_lt ((k_X4_isSymbol_33 P)) (x_iload 2 (x_aload 0 (x_getI xN 4 1 (x_icmp_ge ((k_X4_isSymbol_33 P)) ((k_X4_isSymbol_29 P)))))))
set_option maxRecDepth 20000 in
theorem t_X4_isSymbol_17 {p : Program} {l : Launch} {e : Env} {s : State} {m : MethodId} {args : Array Value} {below : List Frame} {meth : Method} {c : Code} {g : xG} (X : xX p s m args c meth cX4_isSymbol RX4 3 g) (hr : meth.sig.returnType = (some .boolean)) {P : xP} : xAt p l e { frames := 0, cells := 0, slots := 0, locals := 0 } s m args below meth c g 3 xFT xN 0 0 (MQ below (xQc g xFT xN P) args s 0 0 (xFr g)) (k_X4_isSymbol_17 P) 17 := by
  unfold k_X4_isSymbol_17
  refine r_iload_n (pc := 17) X d_X4_isSymbol_17 fn2 ?_
  refine r_if_lt (pc := 18) (tgt := 33) X d_X4_isSymbol_18 (by decide +kernel) ?_ ?_
  · exact t_X4_isSymbol_33 X hr
  · refine r_iload_n (pc := 21) X d_X4_isSymbol_21 fn2 ?_
    refine r_aload_n (pc := 22) X d_X4_isSymbol_22 fn0 ?_
    refine r_getI (pc := 23) X xok4 (by decide +kernel) (by decide +kernel) fl_RX4_50 d_X4_isSymbol_23 ?_
    refine r_icmp_ge (pc := 26) (tgt := 33) X d_X4_isSymbol_26 (by decide +kernel) ?_ ?_
    · exact t_X4_isSymbol_33 X hr
    · exact t_X4_isSymbol_29 X hr
def k_X4_isSymbol_0 (P : xP) : xK := x_iload 1 (x_push (.int 8) (x_isub (x_istore 2 (x_iload 1 (x_if_lt ((k_X4_isSymbol_17 P)) (x_iload 1 (x_aload 0 (x_getI xN 4 0 (x_icmp_lt ((k_X4_isSymbol_29 P)) ((k_X4_isSymbol_17 P)))))))))))
set_option maxRecDepth 20000 in
theorem t_X4_isSymbol_0 {p : Program} {l : Launch} {e : Env} {s : State} {m : MethodId} {args : Array Value} {below : List Frame} {meth : Method} {c : Code} {g : xG} (X : xX p s m args c meth cX4_isSymbol RX4 3 g) (hr : meth.sig.returnType = (some .boolean)) {P : xP} : xAt p l e { frames := 0, cells := 0, slots := 0, locals := 0 } s m args below meth c g 3 xFT xN 0 0 (MQ below (xQc g xFT xN P) args s 0 0 (xFr g)) (k_X4_isSymbol_0 P) 0 := by
  unfold k_X4_isSymbol_0
  refine r_iload_n (pc := 0) X d_X4_isSymbol_0 fn1 ?_
  refine r_bipush (pc := 1) X d_X4_isSymbol_1 (by decide +kernel) ?_
  refine r_isub (pc := 3) X d_X4_isSymbol_3 ?_
  refine r_istore_n (pc := 4) X d_X4_isSymbol_4 fn2 (by decide +kernel) ?_
  refine r_iload_n (pc := 5) X d_X4_isSymbol_5 fn1 ?_
  refine r_if_lt (pc := 6) (tgt := 17) X d_X4_isSymbol_6 (by decide +kernel) ?_ ?_
  · exact t_X4_isSymbol_17 X hr
  · refine r_iload_n (pc := 9) X d_X4_isSymbol_9 fn1 ?_
    refine r_aload_n (pc := 10) X d_X4_isSymbol_10 fn0 ?_
    refine r_getI (pc := 11) X xok4 (by decide +kernel) (by decide +kernel) fl_RX4_47 d_X4_isSymbol_11 ?_
    refine r_icmp_lt (pc := 14) (tgt := 29) X d_X4_isSymbol_14 (by decide +kernel) ?_ ?_
    · exact t_X4_isSymbol_29 X hr
    · exact t_X4_isSymbol_17 X hr
def f_X4_isSymbol (a0 : Nat) (a1 : Int32) (A : xH) (P : xP) : Prop := k_X4_isSymbol_0 P [some (.ref a0), some (.int a1), none] [] A
set_option maxRecDepth 20000 in
theorem con_X4_isSymbol (l : Launch) : xCon l yX4_isSymbol cX4_isSymbol 3 (some .boolean) 0 0 xN xN 0 xFT xFT (w_RI f_X4_isSymbol) :=
  xc_RI (plainFor_of_name pn_RX4) (by decide +kernel) (fun p e s m args below meth c g a0 a1 A P h X hr _ => ⟨_, h, t_X4_isSymbol_0 X hr⟩)
theorem d_X4_clear_0 : decode cX4_clear 0 = .ok (.aload_n 0, 1) := by decide +kernel
theorem d_X4_clear_1 : decode cX4_clear 1 = .ok (.iconst 0, 1) := by decide +kernel
theorem d_X4_clear_2 : decode cX4_clear 2 = .ok (.putfield 47, 3) := by decide +kernel
theorem d_X4_clear_5 : decode cX4_clear 5 = .ok (.aload_n 0, 1) := by decide +kernel
theorem d_X4_clear_6 : decode cX4_clear 6 = .ok (.iconst 0, 1) := by decide +kernel
theorem d_X4_clear_7 : decode cX4_clear 7 = .ok (.putfield 50, 3) := by decide +kernel
theorem d_X4_clear_10 : decode cX4_clear 10 = .ok (.aload_n 0, 1) := by decide +kernel
theorem d_X4_clear_11 : decode cX4_clear 11 = .ok (.iconst 0, 1) := by decide +kernel
theorem d_X4_clear_12 : decode cX4_clear 12 = .ok (.putfield 53, 3) := by decide +kernel
theorem d_X4_clear_15 : decode cX4_clear 15 = .ok (.aload_n 0, 1) := by decide +kernel
theorem d_X4_clear_16 : decode cX4_clear 16 = .ok (.iconst 0, 1) := by decide +kernel
theorem d_X4_clear_17 : decode cX4_clear 17 = .ok (.putfield 56, 3) := by decide +kernel
theorem d_X4_clear_20 : decode cX4_clear 20 = .ok (.aload_n 0, 1) := by decide +kernel
theorem d_X4_clear_21 : decode cX4_clear 21 = .ok (.invokevirtual 44, 3) := by decide +kernel
theorem d_X4_clear_24 : decode cX4_clear 24 = .ok (.return_, 1) := by decide +kernel
def k_X4_clear_0 (P : xP) : xK := x_aload 0 (x_push (.int 0) (x_putI xN 4 0 (x_aload 0 (x_push (.int 0) (x_putI xN 4 1 (x_aload 0 (x_push (.int 0) (x_putI xN 4 2 (x_aload 0 (x_push (.int 0) (x_putI xN 4 4 (x_aload 0 (x_cv0 xN 4 (w_R f_X4_renumber) (x_vret P))))))))))))))
set_option maxRecDepth 20000 in
theorem t_X4_clear_0 {p : Program} {l : Launch} {e : Env} {s : State} {m : MethodId} {args : Array Value} {below : List Frame} {meth : Method} {c : Code} {g : xG} (X : xX p s m args c meth cX4_clear RX4 1 g) (hr : meth.sig.returnType = none) {P : xP} : xAt p l e { frames := 1, cells := 0, slots := 0, locals := 22 } s m args below meth c g 1 xFT xN 0 0 (MQ below (xQc g xFT xN P) args s 0 0 (xFr g)) (k_X4_clear_0 P) 0 := by
  unfold k_X4_clear_0
  refine r_aload_n (pc := 0) X d_X4_clear_0 fn0 ?_
  refine r_iconst (pc := 1) X d_X4_clear_1 (by decide +kernel) ?_
  refine r_putI (pc := 2) X xok4 (by decide +kernel) (by decide +kernel) (by decide +kernel) (by decide +kernel) fl_RX4_47 d_X4_clear_2 ?_
  refine r_aload_n (pc := 5) X d_X4_clear_5 fn0 ?_
  refine r_iconst (pc := 6) X d_X4_clear_6 (by decide +kernel) ?_
  refine r_putI (pc := 7) X xok4 (by decide +kernel) (by decide +kernel) (by decide +kernel) (by decide +kernel) fl_RX4_50 d_X4_clear_7 ?_
  refine r_aload_n (pc := 10) X d_X4_clear_10 fn0 ?_
  refine r_iconst (pc := 11) X d_X4_clear_11 (by decide +kernel) ?_
  refine r_putI (pc := 12) X xok4 (by decide +kernel) (by decide +kernel) (by decide +kernel) (by decide +kernel) fl_RX4_53 d_X4_clear_12 ?_
  refine r_aload_n (pc := 15) X d_X4_clear_15 fn0 ?_
  refine r_iconst (pc := 16) X d_X4_clear_16 (by decide +kernel) ?_
  refine r_putI (pc := 17) X xok4 (by decide +kernel) (by decide +kernel) (by decide +kernel) (by decide +kernel) fl_RX4_56 d_X4_clear_17 ?_
  refine r_aload_n (pc := 20) X d_X4_clear_20 fn0 ?_
  refine r_cv0 (pc := 21) X xok4 (by decide +kernel) rfl (con_X4_renumber l) mf_X4_renumber ml_RX4_44 (by decide +kernel) (by decide +kernel) d_X4_clear_21 ?_
  exact r_vret (pc := 24) X hr d_X4_clear_24
set_option maxRecDepth 20000 in
theorem m_X4_clear {l : Launch} {f : Nat → xH → xP → Prop} 
    (v0 : ∀ (a0 : Nat) (A : xH) (P : xP), f a0 A P → k_X4_clear_0 P [some (.ref a0)] [] A) : xCon l yX4_clear cX4_clear 1 none 1 22 xN xN 0 xFT xFT (w_R f) := by
  refine xc_R (plainFor_of_name pn_RX4) (by decide +kernel) (fun p e s m args below meth c g a0 A P h X hr _ => ?_)
  exact ⟨_, v0 a0 A P h, t_X4_clear_0 X hr⟩
theorem d_X4_appendRule_0 : decode cX4_appendRule 0 = .ok (.iload_n 1, 1) := by decide +kernel
theorem d_X4_appendRule_1 : decode cX4_appendRule 1 = .ok (.ifCond .lt 20, 3) := by decide +kernel
theorem d_X4_appendRule_4 : decode cX4_appendRule 4 = .ok (.iload_n 1, 1) := by decide +kernel
theorem d_X4_appendRule_5 : decode cX4_appendRule 5 = .ok (.aload_n 0, 1) := by decide +kernel
theorem d_X4_appendRule_6 : decode cX4_appendRule 6 = .ok (.getfield 50, 3) := by decide +kernel
theorem d_X4_appendRule_9 : decode cX4_appendRule 9 = .ok (.if_icmp .ge 12, 3) := by decide +kernel
theorem d_X4_appendRule_12 : decode cX4_appendRule 12 = .ok (.iload_n 2, 1) := by decide +kernel
theorem d_X4_appendRule_13 : decode cX4_appendRule 13 = .ok (.ifCond .lt 8, 3) := by decide +kernel
theorem d_X4_appendRule_16 : decode cX4_appendRule 16 = .ok (.iload_n 2, 1) := by decide +kernel
theorem d_X4_appendRule_17 : decode cX4_appendRule 17 = .ok (.iconst 3, 1) := by decide +kernel
theorem d_X4_appendRule_18 : decode cX4_appendRule 18 = .ok (.if_icmp .le 5, 3) := by decide +kernel
theorem d_X4_appendRule_21 : decode cX4_appendRule 21 = .ok (.iconst (-1), 1) := by decide +kernel
theorem d_X4_appendRule_22 : decode cX4_appendRule 22 = .ok (.ireturn, 1) := by decide +kernel
theorem d_X4_appendRule_23 : decode cX4_appendRule 23 = .ok (.iload_n 2, 1) := by decide +kernel
theorem d_X4_appendRule_24 : decode cX4_appendRule 24 = .ok (.ifCond .le 11, 3) := by decide +kernel
theorem d_X4_appendRule_27 : decode cX4_appendRule 27 = .ok (.aload_n 0, 1) := by decide +kernel
theorem d_X4_appendRule_28 : decode cX4_appendRule 28 = .ok (.iload_n 3, 1) := by decide +kernel
theorem d_X4_appendRule_29 : decode cX4_appendRule 29 = .ok (.invokevirtual 77, 3) := by decide +kernel
theorem d_X4_appendRule_32 : decode cX4_appendRule 32 = .ok (.ifCond .eq 31, 3) := by decide +kernel
theorem d_X4_appendRule_35 : decode cX4_appendRule 35 = .ok (.iload_n 2, 1) := by decide +kernel
theorem d_X4_appendRule_36 : decode cX4_appendRule 36 = .ok (.iconst 1, 1) := by decide +kernel
theorem d_X4_appendRule_37 : decode cX4_appendRule 37 = .ok (.if_icmp .le 12, 3) := by decide +kernel
theorem d_X4_appendRule_40 : decode cX4_appendRule 40 = .ok (.aload_n 0, 1) := by decide +kernel
theorem d_X4_appendRule_41 : decode cX4_appendRule 41 = .ok (.iload 4, 2) := by decide +kernel
theorem d_X4_appendRule_43 : decode cX4_appendRule 43 = .ok (.invokevirtual 77, 3) := by decide +kernel
theorem d_X4_appendRule_46 : decode cX4_appendRule 46 = .ok (.ifCond .eq 17, 3) := by decide +kernel
theorem d_X4_appendRule_49 : decode cX4_appendRule 49 = .ok (.iload_n 2, 1) := by decide +kernel
theorem d_X4_appendRule_50 : decode cX4_appendRule 50 = .ok (.iconst 2, 1) := by decide +kernel
theorem d_X4_appendRule_51 : decode cX4_appendRule 51 = .ok (.if_icmp .le 14, 3) := by decide +kernel
theorem d_X4_appendRule_54 : decode cX4_appendRule 54 = .ok (.aload_n 0, 1) := by decide +kernel
theorem d_X4_appendRule_55 : decode cX4_appendRule 55 = .ok (.iload 5, 2) := by decide +kernel
theorem d_X4_appendRule_57 : decode cX4_appendRule 57 = .ok (.invokevirtual 77, 3) := by decide +kernel
theorem d_X4_appendRule_60 : decode cX4_appendRule 60 = .ok (.ifCond .ne 5, 3) := by decide +kernel
theorem d_X4_appendRule_63 : decode cX4_appendRule 63 = .ok (.iconst (-1), 1) := by decide +kernel
theorem d_X4_appendRule_64 : decode cX4_appendRule 64 = .ok (.ireturn, 1) := by decide +kernel
theorem d_X4_appendRule_65 : decode cX4_appendRule 65 = .ok (.aload_n 0, 1) := by decide +kernel
theorem d_X4_appendRule_66 : decode cX4_appendRule 66 = .ok (.getfield 53, 3) := by decide +kernel
theorem d_X4_appendRule_69 : decode cX4_appendRule 69 = .ok (.bipush 10, 2) := by decide +kernel
theorem d_X4_appendRule_71 : decode cX4_appendRule 71 = .ok (.if_icmp .lt 5, 3) := by decide +kernel
theorem d_X4_appendRule_74 : decode cX4_appendRule 74 = .ok (.iconst 1, 1) := by decide +kernel
theorem d_X4_appendRule_75 : decode cX4_appendRule 75 = .ok (.ireturn, 1) := by decide +kernel
theorem d_X4_appendRule_76 : decode cX4_appendRule 76 = .ok (.aload_n 0, 1) := by decide +kernel
theorem d_X4_appendRule_77 : decode cX4_appendRule 77 = .ok (.getfield 22, 3) := by decide +kernel
theorem d_X4_appendRule_80 : decode cX4_appendRule 80 = .ok (.aload_n 0, 1) := by decide +kernel
theorem d_X4_appendRule_81 : decode cX4_appendRule 81 = .ok (.getfield 53, 3) := by decide +kernel
theorem d_X4_appendRule_84 : decode cX4_appendRule 84 = .ok (.iload_n 1, 1) := by decide +kernel
theorem d_X4_appendRule_85 : decode cX4_appendRule 85 = .ok (.iastore, 1) := by decide +kernel
theorem d_X4_appendRule_86 : decode cX4_appendRule 86 = .ok (.aload_n 0, 1) := by decide +kernel
theorem d_X4_appendRule_87 : decode cX4_appendRule 87 = .ok (.getfield 26, 3) := by decide +kernel
theorem d_X4_appendRule_90 : decode cX4_appendRule 90 = .ok (.aload_n 0, 1) := by decide +kernel
theorem d_X4_appendRule_91 : decode cX4_appendRule 91 = .ok (.getfield 53, 3) := by decide +kernel
theorem d_X4_appendRule_94 : decode cX4_appendRule 94 = .ok (.iload_n 2, 1) := by decide +kernel
theorem d_X4_appendRule_95 : decode cX4_appendRule 95 = .ok (.iastore, 1) := by decide +kernel
theorem d_X4_appendRule_96 : decode cX4_appendRule 96 = .ok (.aload_n 0, 1) := by decide +kernel
theorem d_X4_appendRule_97 : decode cX4_appendRule 97 = .ok (.getfield 32, 3) := by decide +kernel
theorem d_X4_appendRule_100 : decode cX4_appendRule 100 = .ok (.aload_n 0, 1) := by decide +kernel
theorem d_X4_appendRule_101 : decode cX4_appendRule 101 = .ok (.getfield 53, 3) := by decide +kernel
theorem d_X4_appendRule_104 : decode cX4_appendRule 104 = .ok (.iconst 3, 1) := by decide +kernel
theorem d_X4_appendRule_105 : decode cX4_appendRule 105 = .ok (.imul, 1) := by decide +kernel
theorem d_X4_appendRule_106 : decode cX4_appendRule 106 = .ok (.iload_n 3, 1) := by decide +kernel
theorem d_X4_appendRule_107 : decode cX4_appendRule 107 = .ok (.iastore, 1) := by decide +kernel
theorem d_X4_appendRule_108 : decode cX4_appendRule 108 = .ok (.aload_n 0, 1) := by decide +kernel
theorem d_X4_appendRule_109 : decode cX4_appendRule 109 = .ok (.getfield 32, 3) := by decide +kernel
theorem d_X4_appendRule_112 : decode cX4_appendRule 112 = .ok (.aload_n 0, 1) := by decide +kernel
theorem d_X4_appendRule_113 : decode cX4_appendRule 113 = .ok (.getfield 53, 3) := by decide +kernel
theorem d_X4_appendRule_116 : decode cX4_appendRule 116 = .ok (.iconst 3, 1) := by decide +kernel
theorem d_X4_appendRule_117 : decode cX4_appendRule 117 = .ok (.imul, 1) := by decide +kernel
theorem d_X4_appendRule_118 : decode cX4_appendRule 118 = .ok (.iconst 1, 1) := by decide +kernel
theorem d_X4_appendRule_119 : decode cX4_appendRule 119 = .ok (.iadd, 1) := by decide +kernel
theorem d_X4_appendRule_120 : decode cX4_appendRule 120 = .ok (.iload 4, 2) := by decide +kernel
theorem d_X4_appendRule_122 : decode cX4_appendRule 122 = .ok (.iastore, 1) := by decide +kernel
theorem d_X4_appendRule_123 : decode cX4_appendRule 123 = .ok (.aload_n 0, 1) := by decide +kernel
theorem d_X4_appendRule_124 : decode cX4_appendRule 124 = .ok (.getfield 32, 3) := by decide +kernel
theorem d_X4_appendRule_127 : decode cX4_appendRule 127 = .ok (.aload_n 0, 1) := by decide +kernel
theorem d_X4_appendRule_128 : decode cX4_appendRule 128 = .ok (.getfield 53, 3) := by decide +kernel
theorem d_X4_appendRule_131 : decode cX4_appendRule 131 = .ok (.iconst 3, 1) := by decide +kernel
theorem d_X4_appendRule_132 : decode cX4_appendRule 132 = .ok (.imul, 1) := by decide +kernel
theorem d_X4_appendRule_133 : decode cX4_appendRule 133 = .ok (.iconst 2, 1) := by decide +kernel
theorem d_X4_appendRule_134 : decode cX4_appendRule 134 = .ok (.iadd, 1) := by decide +kernel
theorem d_X4_appendRule_135 : decode cX4_appendRule 135 = .ok (.iload 5, 2) := by decide +kernel
theorem d_X4_appendRule_137 : decode cX4_appendRule 137 = .ok (.iastore, 1) := by decide +kernel
theorem d_X4_appendRule_138 : decode cX4_appendRule 138 = .ok (.aload_n 0, 1) := by decide +kernel
theorem d_X4_appendRule_139 : decode cX4_appendRule 139 = .ok (.dup, 1) := by decide +kernel
theorem d_X4_appendRule_140 : decode cX4_appendRule 140 = .ok (.getfield 53, 3) := by decide +kernel
theorem d_X4_appendRule_143 : decode cX4_appendRule 143 = .ok (.iconst 1, 1) := by decide +kernel
theorem d_X4_appendRule_144 : decode cX4_appendRule 144 = .ok (.iadd, 1) := by decide +kernel
theorem d_X4_appendRule_145 : decode cX4_appendRule 145 = .ok (.putfield 53, 3) := by decide +kernel
theorem d_X4_appendRule_148 : decode cX4_appendRule 148 = .ok (.aload_n 0, 1) := by decide +kernel
theorem d_X4_appendRule_149 : decode cX4_appendRule 149 = .ok (.invokevirtual 44, 3) := by decide +kernel
theorem d_X4_appendRule_152 : decode cX4_appendRule 152 = .ok (.iconst 0, 1) := by decide +kernel
theorem d_X4_appendRule_153 : decode cX4_appendRule 153 = .ok (.ireturn, 1) := by decide +kernel
def k_X4_appendRule_21 (P : xP) : xK := x_push (.int (-1)) (x_iret P)
set_option maxRecDepth 20000 in
theorem t_X4_appendRule_21 {p : Program} {l : Launch} {e : Env} {s : State} {m : MethodId} {args : Array Value} {below : List Frame} {meth : Method} {c : Code} {g : xG} (X : xX p s m args c meth cX4_appendRule RX4 6 g) (hr : meth.sig.returnType = (some .int)) {P : xP} : xAt p l e { frames := 1, cells := 0, slots := 0, locals := 22 } s m args below meth c g 6 xFT xN 0 0 (MQ below (xQc g xFT xN P) args s 0 0 (xFr g)) (k_X4_appendRule_21 P) 21 := by
  unfold k_X4_appendRule_21
  refine r_iconst (pc := 21) X d_X4_appendRule_21 (by decide +kernel) ?_
  exact r_iret (pc := 22) X hr d_X4_appendRule_22
def k_X4_appendRule_65 (P : xP) : xK := x_aload 0 (x_getI xN 4 2 (x_push (.int 10) (x_icmp_lt (x_aload 0 (x_getF xN xFT 4 7 (x_aload 0 (x_getI xN 4 2 (x_iload 1 (x_iast xN (x_aload 0 (x_getF xN xFT 4 8 (x_aload 0 (x_getI xN 4 2 (x_iload 2 (x_iast xN (x_aload 0 (x_getF xN xFT 4 10 (x_aload 0 (x_getI xN 4 2 (x_push (.int 3) (x_imul (x_iload 3 (x_iast xN (x_aload 0 (x_getF xN xFT 4 10 (x_aload 0 (x_getI xN 4 2 (x_push (.int 3) (x_imul (x_push (.int 1) (x_iadd (x_iload 4 (x_iast xN (x_aload 0 (x_getF xN xFT 4 10 (x_aload 0 (x_getI xN 4 2 (x_push (.int 3) (x_imul (x_push (.int 2) (x_iadd (x_iload 5 (x_iast xN (x_aload 0 (x_dup (x_getI xN 4 2 (x_push (.int 1) (x_iadd (x_putI xN 4 2 (x_aload 0 (x_cv0 xN 4 (w_R f_X4_renumber) (x_push (.int 0) (x_iret P)))))))))))))))))))))))))))))))))))))))))))))))))) (x_push (.int 1) (x_iret P)))))
set_option maxRecDepth 20000 in
theorem t_X4_appendRule_65 {p : Program} {l : Launch} {e : Env} {s : State} {m : MethodId} {args : Array Value} {below : List Frame} {meth : Method} {c : Code} {g : xG} (X : xX p s m args c meth cX4_appendRule RX4 6 g) (hr : meth.sig.returnType = (some .int)) {P : xP} : xAt p l e { frames := 1, cells := 0, slots := 0, locals := 22 } s m args below meth c g 6 xFT xN 0 0 (MQ below (xQc g xFT xN P) args s 0 0 (xFr g)) (k_X4_appendRule_65 P) 65 := by
  unfold k_X4_appendRule_65
  refine r_aload_n (pc := 65) X d_X4_appendRule_65 fn0 ?_
  refine r_getI (pc := 66) X xok4 (by decide +kernel) (by decide +kernel) fl_RX4_53 d_X4_appendRule_66 ?_
  refine r_bipush (pc := 69) X d_X4_appendRule_69 (by decide +kernel) ?_
  refine r_icmp_lt (pc := 71) (tgt := 76) X d_X4_appendRule_71 (by decide +kernel) ?_ ?_
  · refine r_aload_n (pc := 76) X d_X4_appendRule_76 fn0 ?_
    refine r_getF (pc := 77) X xok4 (by decide +kernel) (by decide +kernel) fl_RX4_22 d_X4_appendRule_77 ?_
    refine r_aload_n (pc := 80) X d_X4_appendRule_80 fn0 ?_
    refine r_getI (pc := 81) X xok4 (by decide +kernel) (by decide +kernel) fl_RX4_53 d_X4_appendRule_81 ?_
    refine r_iload_n (pc := 84) X d_X4_appendRule_84 fn1 ?_
    refine r_iast (pc := 85) X d_X4_appendRule_85 ?_
    refine r_aload_n (pc := 86) X d_X4_appendRule_86 fn0 ?_
    refine r_getF (pc := 87) X xok4 (by decide +kernel) (by decide +kernel) fl_RX4_26 d_X4_appendRule_87 ?_
    refine r_aload_n (pc := 90) X d_X4_appendRule_90 fn0 ?_
    refine r_getI (pc := 91) X xok4 (by decide +kernel) (by decide +kernel) fl_RX4_53 d_X4_appendRule_91 ?_
    refine r_iload_n (pc := 94) X d_X4_appendRule_94 fn2 ?_
    refine r_iast (pc := 95) X d_X4_appendRule_95 ?_
    refine r_aload_n (pc := 96) X d_X4_appendRule_96 fn0 ?_
    refine r_getF (pc := 97) X xok4 (by decide +kernel) (by decide +kernel) fl_RX4_32 d_X4_appendRule_97 ?_
    refine r_aload_n (pc := 100) X d_X4_appendRule_100 fn0 ?_
    refine r_getI (pc := 101) X xok4 (by decide +kernel) (by decide +kernel) fl_RX4_53 d_X4_appendRule_101 ?_
    refine r_iconst (pc := 104) X d_X4_appendRule_104 (by decide +kernel) ?_
    refine r_imul (pc := 105) X d_X4_appendRule_105 ?_
    refine r_iload_n (pc := 106) X d_X4_appendRule_106 fn3 ?_
    refine r_iast (pc := 107) X d_X4_appendRule_107 ?_
    refine r_aload_n (pc := 108) X d_X4_appendRule_108 fn0 ?_
    refine r_getF (pc := 109) X xok4 (by decide +kernel) (by decide +kernel) fl_RX4_32 d_X4_appendRule_109 ?_
    refine r_aload_n (pc := 112) X d_X4_appendRule_112 fn0 ?_
    refine r_getI (pc := 113) X xok4 (by decide +kernel) (by decide +kernel) fl_RX4_53 d_X4_appendRule_113 ?_
    refine r_iconst (pc := 116) X d_X4_appendRule_116 (by decide +kernel) ?_
    refine r_imul (pc := 117) X d_X4_appendRule_117 ?_
    refine r_iconst (pc := 118) X d_X4_appendRule_118 (by decide +kernel) ?_
    refine r_iadd (pc := 119) X d_X4_appendRule_119 ?_
    refine r_iload (pc := 120) X d_X4_appendRule_120 ?_
    refine r_iast (pc := 122) X d_X4_appendRule_122 ?_
    refine r_aload_n (pc := 123) X d_X4_appendRule_123 fn0 ?_
    refine r_getF (pc := 124) X xok4 (by decide +kernel) (by decide +kernel) fl_RX4_32 d_X4_appendRule_124 ?_
    refine r_aload_n (pc := 127) X d_X4_appendRule_127 fn0 ?_
    refine r_getI (pc := 128) X xok4 (by decide +kernel) (by decide +kernel) fl_RX4_53 d_X4_appendRule_128 ?_
    refine r_iconst (pc := 131) X d_X4_appendRule_131 (by decide +kernel) ?_
    refine r_imul (pc := 132) X d_X4_appendRule_132 ?_
    refine r_iconst (pc := 133) X d_X4_appendRule_133 (by decide +kernel) ?_
    refine r_iadd (pc := 134) X d_X4_appendRule_134 ?_
    refine r_iload (pc := 135) X d_X4_appendRule_135 ?_
    refine r_iast (pc := 137) X d_X4_appendRule_137 ?_
    refine r_aload_n (pc := 138) X d_X4_appendRule_138 fn0 ?_
    refine r_dup (pc := 139) X d_X4_appendRule_139 ?_
    refine r_getI (pc := 140) X xok4 (by decide +kernel) (by decide +kernel) fl_RX4_53 d_X4_appendRule_140 ?_
    refine r_iconst (pc := 143) X d_X4_appendRule_143 (by decide +kernel) ?_
    refine r_iadd (pc := 144) X d_X4_appendRule_144 ?_
    refine r_putI (pc := 145) X xok4 (by decide +kernel) (by decide +kernel) (by decide +kernel) (by decide +kernel) fl_RX4_53 d_X4_appendRule_145 ?_
    refine r_aload_n (pc := 148) X d_X4_appendRule_148 fn0 ?_
    refine r_cv0 (pc := 149) X xok4 (by decide +kernel) rfl (con_X4_renumber l) mf_X4_renumber ml_RX4_44 (by decide +kernel) (by decide +kernel) d_X4_appendRule_149 ?_
    refine r_iconst (pc := 152) X d_X4_appendRule_152 (by decide +kernel) ?_
    exact r_iret (pc := 153) X hr d_X4_appendRule_153
  · refine r_iconst (pc := 74) X d_X4_appendRule_74 (by decide +kernel) ?_
    exact r_iret (pc := 75) X hr d_X4_appendRule_75
def k_X4_appendRule_63 (P : xP) : xK := x_push (.int (-1)) (x_iret P)
set_option maxRecDepth 20000 in
theorem t_X4_appendRule_63 {p : Program} {l : Launch} {e : Env} {s : State} {m : MethodId} {args : Array Value} {below : List Frame} {meth : Method} {c : Code} {g : xG} (X : xX p s m args c meth cX4_appendRule RX4 6 g) (hr : meth.sig.returnType = (some .int)) {P : xP} : xAt p l e { frames := 1, cells := 0, slots := 0, locals := 22 } s m args below meth c g 6 xFT xN 0 0 (MQ below (xQc g xFT xN P) args s 0 0 (xFr g)) (k_X4_appendRule_63 P) 63 := by
  unfold k_X4_appendRule_63
  refine r_iconst (pc := 63) X d_X4_appendRule_63 (by decide +kernel) ?_
  exact r_iret (pc := 64) X hr d_X4_appendRule_64
def k_X4_appendRule_49 (P : xP) : xK := x_iload 2 (x_push (.int 2) (x_icmp_le ((k_X4_appendRule_65 P)) (x_aload 0 (x_iload 5 (x_cv1 xN 4 (w_RI f_X4_isSymbol) (x_if_ne ((k_X4_appendRule_65 P)) ((k_X4_appendRule_63 P))))))))
set_option maxRecDepth 20000 in
theorem t_X4_appendRule_49 {p : Program} {l : Launch} {e : Env} {s : State} {m : MethodId} {args : Array Value} {below : List Frame} {meth : Method} {c : Code} {g : xG} (X : xX p s m args c meth cX4_appendRule RX4 6 g) (hr : meth.sig.returnType = (some .int)) {P : xP} : xAt p l e { frames := 1, cells := 0, slots := 0, locals := 22 } s m args below meth c g 6 xFT xN 0 0 (MQ below (xQc g xFT xN P) args s 0 0 (xFr g)) (k_X4_appendRule_49 P) 49 := by
  unfold k_X4_appendRule_49
  refine r_iload_n (pc := 49) X d_X4_appendRule_49 fn2 ?_
  refine r_iconst (pc := 50) X d_X4_appendRule_50 (by decide +kernel) ?_
  refine r_icmp_le (pc := 51) (tgt := 65) X d_X4_appendRule_51 (by decide +kernel) ?_ ?_
  · exact t_X4_appendRule_65 X hr
  · refine r_aload_n (pc := 54) X d_X4_appendRule_54 fn0 ?_
    refine r_iload (pc := 55) X d_X4_appendRule_55 ?_
    refine r_cv1 (pc := 57) X xok4 (by decide +kernel) rfl (con_X4_isSymbol l) mf_X4_isSymbol ml_RX4_77 (by decide +kernel) (by decide +kernel) d_X4_appendRule_57 ?_
    refine r_if_ne (pc := 60) (tgt := 65) X d_X4_appendRule_60 (by decide +kernel) ?_ ?_
    · exact t_X4_appendRule_65 X hr
    · exact t_X4_appendRule_63 X hr
def k_X4_appendRule_35 (P : xP) : xK := x_iload 2 (x_push (.int 1) (x_icmp_le ((k_X4_appendRule_49 P)) (x_aload 0 (x_iload 4 (x_cv1 xN 4 (w_RI f_X4_isSymbol) (x_if_eq ((k_X4_appendRule_63 P)) ((k_X4_appendRule_49 P))))))))
set_option maxRecDepth 20000 in
theorem t_X4_appendRule_35 {p : Program} {l : Launch} {e : Env} {s : State} {m : MethodId} {args : Array Value} {below : List Frame} {meth : Method} {c : Code} {g : xG} (X : xX p s m args c meth cX4_appendRule RX4 6 g) (hr : meth.sig.returnType = (some .int)) {P : xP} : xAt p l e { frames := 1, cells := 0, slots := 0, locals := 22 } s m args below meth c g 6 xFT xN 0 0 (MQ below (xQc g xFT xN P) args s 0 0 (xFr g)) (k_X4_appendRule_35 P) 35 := by
  unfold k_X4_appendRule_35
  refine r_iload_n (pc := 35) X d_X4_appendRule_35 fn2 ?_
  refine r_iconst (pc := 36) X d_X4_appendRule_36 (by decide +kernel) ?_
  refine r_icmp_le (pc := 37) (tgt := 49) X d_X4_appendRule_37 (by decide +kernel) ?_ ?_
  · exact t_X4_appendRule_49 X hr
  · refine r_aload_n (pc := 40) X d_X4_appendRule_40 fn0 ?_
    refine r_iload (pc := 41) X d_X4_appendRule_41 ?_
    refine r_cv1 (pc := 43) X xok4 (by decide +kernel) rfl (con_X4_isSymbol l) mf_X4_isSymbol ml_RX4_77 (by decide +kernel) (by decide +kernel) d_X4_appendRule_43 ?_
    refine r_if_eq (pc := 46) (tgt := 63) X d_X4_appendRule_46 (by decide +kernel) ?_ ?_
    · exact t_X4_appendRule_63 X hr
    · exact t_X4_appendRule_49 X hr
def k_X4_appendRule_0 (P : xP) : xK := x_iload 1 (x_if_lt ((k_X4_appendRule_21 P)) (x_iload 1 (x_aload 0 (x_getI xN 4 1 (x_icmp_ge ((k_X4_appendRule_21 P)) (x_iload 2 (x_if_lt ((k_X4_appendRule_21 P)) (x_iload 2 (x_push (.int 3) (x_icmp_le (x_iload 2 (x_if_le ((k_X4_appendRule_35 P)) (x_aload 0 (x_iload 3 (x_cv1 xN 4 (w_RI f_X4_isSymbol) (x_if_eq ((k_X4_appendRule_63 P)) ((k_X4_appendRule_35 P)))))))) ((k_X4_appendRule_21 P))))))))))))
set_option maxRecDepth 20000 in
theorem t_X4_appendRule_0 {p : Program} {l : Launch} {e : Env} {s : State} {m : MethodId} {args : Array Value} {below : List Frame} {meth : Method} {c : Code} {g : xG} (X : xX p s m args c meth cX4_appendRule RX4 6 g) (hr : meth.sig.returnType = (some .int)) {P : xP} : xAt p l e { frames := 1, cells := 0, slots := 0, locals := 22 } s m args below meth c g 6 xFT xN 0 0 (MQ below (xQc g xFT xN P) args s 0 0 (xFr g)) (k_X4_appendRule_0 P) 0 := by
  unfold k_X4_appendRule_0
  refine r_iload_n (pc := 0) X d_X4_appendRule_0 fn1 ?_
  refine r_if_lt (pc := 1) (tgt := 21) X d_X4_appendRule_1 (by decide +kernel) ?_ ?_
  · exact t_X4_appendRule_21 X hr
  · refine r_iload_n (pc := 4) X d_X4_appendRule_4 fn1 ?_
    refine r_aload_n (pc := 5) X d_X4_appendRule_5 fn0 ?_
    refine r_getI (pc := 6) X xok4 (by decide +kernel) (by decide +kernel) fl_RX4_50 d_X4_appendRule_6 ?_
    refine r_icmp_ge (pc := 9) (tgt := 21) X d_X4_appendRule_9 (by decide +kernel) ?_ ?_
    · exact t_X4_appendRule_21 X hr
    · refine r_iload_n (pc := 12) X d_X4_appendRule_12 fn2 ?_
      refine r_if_lt (pc := 13) (tgt := 21) X d_X4_appendRule_13 (by decide +kernel) ?_ ?_
      · exact t_X4_appendRule_21 X hr
      · refine r_iload_n (pc := 16) X d_X4_appendRule_16 fn2 ?_
        refine r_iconst (pc := 17) X d_X4_appendRule_17 (by decide +kernel) ?_
        refine r_icmp_le (pc := 18) (tgt := 23) X d_X4_appendRule_18 (by decide +kernel) ?_ ?_
        · refine r_iload_n (pc := 23) X d_X4_appendRule_23 fn2 ?_
          refine r_if_le (pc := 24) (tgt := 35) X d_X4_appendRule_24 (by decide +kernel) ?_ ?_
          · exact t_X4_appendRule_35 X hr
          · refine r_aload_n (pc := 27) X d_X4_appendRule_27 fn0 ?_
            refine r_iload_n (pc := 28) X d_X4_appendRule_28 fn3 ?_
            refine r_cv1 (pc := 29) X xok4 (by decide +kernel) rfl (con_X4_isSymbol l) mf_X4_isSymbol ml_RX4_77 (by decide +kernel) (by decide +kernel) d_X4_appendRule_29 ?_
            refine r_if_eq (pc := 32) (tgt := 63) X d_X4_appendRule_32 (by decide +kernel) ?_ ?_
            · exact t_X4_appendRule_63 X hr
            · exact t_X4_appendRule_35 X hr
        · exact t_X4_appendRule_21 X hr
set_option maxRecDepth 20000 in
theorem m_X4_appendRule {l : Launch} {f : Nat → Int32 → Int32 → Int32 → Int32 → Int32 → xH → xP → Prop} 
    (v0 : ∀ (a0 : Nat) (a1 : Int32) (a2 : Int32) (a3 : Int32) (a4 : Int32) (a5 : Int32) (A : xH) (P : xP), f a0 a1 a2 a3 a4 a5 A P → k_X4_appendRule_0 P [some (.ref a0), some (.int a1), some (.int a2), some (.int a3), some (.int a4), some (.int a5)] [] A) : xCon l yX4_appendRule cX4_appendRule 6 (some .int) 1 22 xN xN 0 xFT xFT (w_RIIIII f) := by
  refine xc_RIIIII (plainFor_of_name pn_RX4) (by decide +kernel) (fun p e s m args below meth c g a0 a1 a2 a3 a4 a5 A P h X hr _ => ?_)
  exact ⟨_, v0 a0 a1 a2 a3 a4 a5 A P h, t_X4_appendRule_0 X hr⟩
theorem d_X4_removeRule_0 : decode cX4_removeRule 0 = .ok (.iload_n 1, 1) := by decide +kernel
theorem d_X4_removeRule_1 : decode cX4_removeRule 1 = .ok (.ifCond .lt 11, 3) := by decide +kernel
theorem d_X4_removeRule_4 : decode cX4_removeRule 4 = .ok (.iload_n 1, 1) := by decide +kernel
theorem d_X4_removeRule_5 : decode cX4_removeRule 5 = .ok (.aload_n 0, 1) := by decide +kernel
theorem d_X4_removeRule_6 : decode cX4_removeRule 6 = .ok (.getfield 53, 3) := by decide +kernel
theorem d_X4_removeRule_9 : decode cX4_removeRule 9 = .ok (.if_icmp .lt 5, 3) := by decide +kernel
theorem d_X4_removeRule_12 : decode cX4_removeRule 12 = .ok (.iconst (-1), 1) := by decide +kernel
theorem d_X4_removeRule_13 : decode cX4_removeRule 13 = .ok (.ireturn, 1) := by decide +kernel
theorem d_X4_removeRule_14 : decode cX4_removeRule 14 = .ok (.iload_n 1, 1) := by decide +kernel
theorem d_X4_removeRule_15 : decode cX4_removeRule 15 = .ok (.iconst 1, 1) := by decide +kernel
theorem d_X4_removeRule_16 : decode cX4_removeRule 16 = .ok (.iadd, 1) := by decide +kernel
theorem d_X4_removeRule_17 : decode cX4_removeRule 17 = .ok (.istore_n 2, 1) := by decide +kernel
theorem d_X4_removeRule_18 : decode cX4_removeRule 18 = .ok (.iload_n 2, 1) := by decide +kernel
theorem d_X4_removeRule_19 : decode cX4_removeRule 19 = .ok (.aload_n 0, 1) := by decide +kernel
theorem d_X4_removeRule_20 : decode cX4_removeRule 20 = .ok (.getfield 53, 3) := by decide +kernel
theorem d_X4_removeRule_23 : decode cX4_removeRule 23 = .ok (.if_icmp .ge 72, 3) := by decide +kernel
theorem d_X4_removeRule_26 : decode cX4_removeRule 26 = .ok (.aload_n 0, 1) := by decide +kernel
theorem d_X4_removeRule_27 : decode cX4_removeRule 27 = .ok (.getfield 22, 3) := by decide +kernel
theorem d_X4_removeRule_30 : decode cX4_removeRule 30 = .ok (.iload_n 2, 1) := by decide +kernel
theorem d_X4_removeRule_31 : decode cX4_removeRule 31 = .ok (.iconst 1, 1) := by decide +kernel
theorem d_X4_removeRule_32 : decode cX4_removeRule 32 = .ok (.isub, 1) := by decide +kernel
theorem d_X4_removeRule_33 : decode cX4_removeRule 33 = .ok (.aload_n 0, 1) := by decide +kernel
theorem d_X4_removeRule_34 : decode cX4_removeRule 34 = .ok (.getfield 22, 3) := by decide +kernel
theorem d_X4_removeRule_37 : decode cX4_removeRule 37 = .ok (.iload_n 2, 1) := by decide +kernel
theorem d_X4_removeRule_38 : decode cX4_removeRule 38 = .ok (.iaload, 1) := by decide +kernel
theorem d_X4_removeRule_39 : decode cX4_removeRule 39 = .ok (.iastore, 1) := by decide +kernel
theorem d_X4_removeRule_40 : decode cX4_removeRule 40 = .ok (.aload_n 0, 1) := by decide +kernel
theorem d_X4_removeRule_41 : decode cX4_removeRule 41 = .ok (.getfield 26, 3) := by decide +kernel
theorem d_X4_removeRule_44 : decode cX4_removeRule 44 = .ok (.iload_n 2, 1) := by decide +kernel
theorem d_X4_removeRule_45 : decode cX4_removeRule 45 = .ok (.iconst 1, 1) := by decide +kernel
theorem d_X4_removeRule_46 : decode cX4_removeRule 46 = .ok (.isub, 1) := by decide +kernel
theorem d_X4_removeRule_47 : decode cX4_removeRule 47 = .ok (.aload_n 0, 1) := by decide +kernel
theorem d_X4_removeRule_48 : decode cX4_removeRule 48 = .ok (.getfield 26, 3) := by decide +kernel
theorem d_X4_removeRule_51 : decode cX4_removeRule 51 = .ok (.iload_n 2, 1) := by decide +kernel
theorem d_X4_removeRule_52 : decode cX4_removeRule 52 = .ok (.iaload, 1) := by decide +kernel
theorem d_X4_removeRule_53 : decode cX4_removeRule 53 = .ok (.iastore, 1) := by decide +kernel
theorem d_X4_removeRule_54 : decode cX4_removeRule 54 = .ok (.iconst 0, 1) := by decide +kernel
theorem d_X4_removeRule_55 : decode cX4_removeRule 55 = .ok (.istore_n 3, 1) := by decide +kernel
theorem d_X4_removeRule_56 : decode cX4_removeRule 56 = .ok (.iload_n 3, 1) := by decide +kernel
theorem d_X4_removeRule_57 : decode cX4_removeRule 57 = .ok (.iconst 3, 1) := by decide +kernel
theorem d_X4_removeRule_58 : decode cX4_removeRule 58 = .ok (.if_icmp .ge 31, 3) := by decide +kernel
theorem d_X4_removeRule_61 : decode cX4_removeRule 61 = .ok (.aload_n 0, 1) := by decide +kernel
theorem d_X4_removeRule_62 : decode cX4_removeRule 62 = .ok (.getfield 32, 3) := by decide +kernel
theorem d_X4_removeRule_65 : decode cX4_removeRule 65 = .ok (.iload_n 2, 1) := by decide +kernel
theorem d_X4_removeRule_66 : decode cX4_removeRule 66 = .ok (.iconst 1, 1) := by decide +kernel
theorem d_X4_removeRule_67 : decode cX4_removeRule 67 = .ok (.isub, 1) := by decide +kernel
theorem d_X4_removeRule_68 : decode cX4_removeRule 68 = .ok (.iconst 3, 1) := by decide +kernel
theorem d_X4_removeRule_69 : decode cX4_removeRule 69 = .ok (.imul, 1) := by decide +kernel
theorem d_X4_removeRule_70 : decode cX4_removeRule 70 = .ok (.iload_n 3, 1) := by decide +kernel
theorem d_X4_removeRule_71 : decode cX4_removeRule 71 = .ok (.iadd, 1) := by decide +kernel
theorem d_X4_removeRule_72 : decode cX4_removeRule 72 = .ok (.aload_n 0, 1) := by decide +kernel
theorem d_X4_removeRule_73 : decode cX4_removeRule 73 = .ok (.getfield 32, 3) := by decide +kernel
theorem d_X4_removeRule_76 : decode cX4_removeRule 76 = .ok (.iload_n 2, 1) := by decide +kernel
theorem d_X4_removeRule_77 : decode cX4_removeRule 77 = .ok (.iconst 3, 1) := by decide +kernel
theorem d_X4_removeRule_78 : decode cX4_removeRule 78 = .ok (.imul, 1) := by decide +kernel
theorem d_X4_removeRule_79 : decode cX4_removeRule 79 = .ok (.iload_n 3, 1) := by decide +kernel
theorem d_X4_removeRule_80 : decode cX4_removeRule 80 = .ok (.iadd, 1) := by decide +kernel
theorem d_X4_removeRule_81 : decode cX4_removeRule 81 = .ok (.iaload, 1) := by decide +kernel
theorem d_X4_removeRule_82 : decode cX4_removeRule 82 = .ok (.iastore, 1) := by decide +kernel
theorem d_X4_removeRule_83 : decode cX4_removeRule 83 = .ok (.iinc 3 1, 3) := by decide +kernel
theorem d_X4_removeRule_86 : decode cX4_removeRule 86 = .ok (.goto (-30), 3) := by decide +kernel
theorem d_X4_removeRule_89 : decode cX4_removeRule 89 = .ok (.iinc 2 1, 3) := by decide +kernel
theorem d_X4_removeRule_92 : decode cX4_removeRule 92 = .ok (.goto (-74), 3) := by decide +kernel
theorem d_X4_removeRule_95 : decode cX4_removeRule 95 = .ok (.aload_n 0, 1) := by decide +kernel
theorem d_X4_removeRule_96 : decode cX4_removeRule 96 = .ok (.dup, 1) := by decide +kernel
theorem d_X4_removeRule_97 : decode cX4_removeRule 97 = .ok (.getfield 53, 3) := by decide +kernel
theorem d_X4_removeRule_100 : decode cX4_removeRule 100 = .ok (.iconst 1, 1) := by decide +kernel
theorem d_X4_removeRule_101 : decode cX4_removeRule 101 = .ok (.isub, 1) := by decide +kernel
theorem d_X4_removeRule_102 : decode cX4_removeRule 102 = .ok (.putfield 53, 3) := by decide +kernel
theorem d_X4_removeRule_105 : decode cX4_removeRule 105 = .ok (.aload_n 0, 1) := by decide +kernel
theorem d_X4_removeRule_106 : decode cX4_removeRule 106 = .ok (.invokevirtual 44, 3) := by decide +kernel
theorem d_X4_removeRule_109 : decode cX4_removeRule 109 = .ok (.iconst 0, 1) := by decide +kernel
theorem d_X4_removeRule_110 : decode cX4_removeRule 110 = .ok (.ireturn, 1) := by decide +kernel
def k_X4_removeRule_12 (P : xP) : xK := x_push (.int (-1)) (x_iret P)
set_option maxRecDepth 20000 in
theorem t_X4_removeRule_12 {p : Program} {l : Launch} {e : Env} {s : State} {m : MethodId} {args : Array Value} {below : List Frame} {meth : Method} {c : Code} {g : xG} (X : xX p s m args c meth cX4_removeRule RX4 4 g) (hr : meth.sig.returnType = (some .int)) {P : xP} : xAt p l e { frames := 1, cells := 0, slots := 0, locals := 22 } s m args below meth c g 4 xFT xN 0 0 (MQ below (xQc g xFT xN P) args s 0 0 (xFr g)) (k_X4_removeRule_12 P) 12 := by
  unfold k_X4_removeRule_12
  refine r_iconst (pc := 12) X d_X4_removeRule_12 (by decide +kernel) ?_
  exact r_iret (pc := 13) X hr d_X4_removeRule_13
def k_X4_removeRule_0 (P : xP) (C18 : xK) : xK := x_iload 1 (x_if_lt ((k_X4_removeRule_12 P)) (x_iload 1 (x_aload 0 (x_getI xN 4 2 (x_icmp_lt (x_iload 1 (x_push (.int 1) (x_iadd (x_istore 2 (C18))))) ((k_X4_removeRule_12 P)))))))
set_option maxRecDepth 20000 in
theorem t_X4_removeRule_0 {p : Program} {l : Launch} {e : Env} {s : State} {m : MethodId} {args : Array Value} {below : List Frame} {meth : Method} {c : Code} {g : xG} (X : xX p s m args c meth cX4_removeRule RX4 4 g) (hr : meth.sig.returnType = (some .int)) {P : xP} {C18 : xK} (h18 : xAt p l e { frames := 1, cells := 0, slots := 0, locals := 22 } s m args below meth c g 4 xFT xN 0 0 (MQ below (xQc g xFT xN P) args s 0 0 (xFr g)) C18 18) : xAt p l e { frames := 1, cells := 0, slots := 0, locals := 22 } s m args below meth c g 4 xFT xN 0 0 (MQ below (xQc g xFT xN P) args s 0 0 (xFr g)) (k_X4_removeRule_0 P C18) 0 := by
  unfold k_X4_removeRule_0
  refine r_iload_n (pc := 0) X d_X4_removeRule_0 fn1 ?_
  refine r_if_lt (pc := 1) (tgt := 12) X d_X4_removeRule_1 (by decide +kernel) ?_ ?_
  · exact t_X4_removeRule_12 X hr
  · refine r_iload_n (pc := 4) X d_X4_removeRule_4 fn1 ?_
    refine r_aload_n (pc := 5) X d_X4_removeRule_5 fn0 ?_
    refine r_getI (pc := 6) X xok4 (by decide +kernel) (by decide +kernel) fl_RX4_53 d_X4_removeRule_6 ?_
    refine r_icmp_lt (pc := 9) (tgt := 14) X d_X4_removeRule_9 (by decide +kernel) ?_ ?_
    · refine r_iload_n (pc := 14) X d_X4_removeRule_14 fn1 ?_
      refine r_iconst (pc := 15) X d_X4_removeRule_15 (by decide +kernel) ?_
      refine r_iadd (pc := 16) X d_X4_removeRule_16 ?_
      refine r_istore_n (pc := 17) X d_X4_removeRule_17 fn2 (by decide +kernel) ?_
      exact h18
    · exact t_X4_removeRule_12 X hr
def k_X4_removeRule_18 (P : xP) (C56 : xK) : xK := x_iload 2 (x_aload 0 (x_getI xN 4 2 (x_icmp_ge (x_aload 0 (x_dup (x_getI xN 4 2 (x_push (.int 1) (x_isub (x_putI xN 4 2 (x_aload 0 (x_cv0 xN 4 (w_R f_X4_renumber) (x_push (.int 0) (x_iret P)))))))))) (x_aload 0 (x_getF xN xFT 4 7 (x_iload 2 (x_push (.int 1) (x_isub (x_aload 0 (x_getF xN xFT 4 7 (x_iload 2 (x_iald xN (x_iast xN (x_aload 0 (x_getF xN xFT 4 8 (x_iload 2 (x_push (.int 1) (x_isub (x_aload 0 (x_getF xN xFT 4 8 (x_iload 2 (x_iald xN (x_iast xN (x_push (.int 0) (x_istore 3 (C56))))))))))))))))))))))))))
set_option maxRecDepth 20000 in
theorem t_X4_removeRule_18 {p : Program} {l : Launch} {e : Env} {s : State} {m : MethodId} {args : Array Value} {below : List Frame} {meth : Method} {c : Code} {g : xG} (X : xX p s m args c meth cX4_removeRule RX4 4 g) (hr : meth.sig.returnType = (some .int)) {P : xP} {C56 : xK} (h56 : xAt p l e { frames := 1, cells := 0, slots := 0, locals := 22 } s m args below meth c g 4 xFT xN 0 0 (MQ below (xQc g xFT xN P) args s 0 0 (xFr g)) C56 56) : xAt p l e { frames := 1, cells := 0, slots := 0, locals := 22 } s m args below meth c g 4 xFT xN 0 0 (MQ below (xQc g xFT xN P) args s 0 0 (xFr g)) (k_X4_removeRule_18 P C56) 18 := by
  unfold k_X4_removeRule_18
  refine r_iload_n (pc := 18) X d_X4_removeRule_18 fn2 ?_
  refine r_aload_n (pc := 19) X d_X4_removeRule_19 fn0 ?_
  refine r_getI (pc := 20) X xok4 (by decide +kernel) (by decide +kernel) fl_RX4_53 d_X4_removeRule_20 ?_
  refine r_icmp_ge (pc := 23) (tgt := 95) X d_X4_removeRule_23 (by decide +kernel) ?_ ?_
  · refine r_aload_n (pc := 95) X d_X4_removeRule_95 fn0 ?_
    refine r_dup (pc := 96) X d_X4_removeRule_96 ?_
    refine r_getI (pc := 97) X xok4 (by decide +kernel) (by decide +kernel) fl_RX4_53 d_X4_removeRule_97 ?_
    refine r_iconst (pc := 100) X d_X4_removeRule_100 (by decide +kernel) ?_
    refine r_isub (pc := 101) X d_X4_removeRule_101 ?_
    refine r_putI (pc := 102) X xok4 (by decide +kernel) (by decide +kernel) (by decide +kernel) (by decide +kernel) fl_RX4_53 d_X4_removeRule_102 ?_
    refine r_aload_n (pc := 105) X d_X4_removeRule_105 fn0 ?_
    refine r_cv0 (pc := 106) X xok4 (by decide +kernel) rfl (con_X4_renumber l) mf_X4_renumber ml_RX4_44 (by decide +kernel) (by decide +kernel) d_X4_removeRule_106 ?_
    refine r_iconst (pc := 109) X d_X4_removeRule_109 (by decide +kernel) ?_
    exact r_iret (pc := 110) X hr d_X4_removeRule_110
  · refine r_aload_n (pc := 26) X d_X4_removeRule_26 fn0 ?_
    refine r_getF (pc := 27) X xok4 (by decide +kernel) (by decide +kernel) fl_RX4_22 d_X4_removeRule_27 ?_
    refine r_iload_n (pc := 30) X d_X4_removeRule_30 fn2 ?_
    refine r_iconst (pc := 31) X d_X4_removeRule_31 (by decide +kernel) ?_
    refine r_isub (pc := 32) X d_X4_removeRule_32 ?_
    refine r_aload_n (pc := 33) X d_X4_removeRule_33 fn0 ?_
    refine r_getF (pc := 34) X xok4 (by decide +kernel) (by decide +kernel) fl_RX4_22 d_X4_removeRule_34 ?_
    refine r_iload_n (pc := 37) X d_X4_removeRule_37 fn2 ?_
    refine r_iald (pc := 38) X d_X4_removeRule_38 ?_
    refine r_iast (pc := 39) X d_X4_removeRule_39 ?_
    refine r_aload_n (pc := 40) X d_X4_removeRule_40 fn0 ?_
    refine r_getF (pc := 41) X xok4 (by decide +kernel) (by decide +kernel) fl_RX4_26 d_X4_removeRule_41 ?_
    refine r_iload_n (pc := 44) X d_X4_removeRule_44 fn2 ?_
    refine r_iconst (pc := 45) X d_X4_removeRule_45 (by decide +kernel) ?_
    refine r_isub (pc := 46) X d_X4_removeRule_46 ?_
    refine r_aload_n (pc := 47) X d_X4_removeRule_47 fn0 ?_
    refine r_getF (pc := 48) X xok4 (by decide +kernel) (by decide +kernel) fl_RX4_26 d_X4_removeRule_48 ?_
    refine r_iload_n (pc := 51) X d_X4_removeRule_51 fn2 ?_
    refine r_iald (pc := 52) X d_X4_removeRule_52 ?_
    refine r_iast (pc := 53) X d_X4_removeRule_53 ?_
    refine r_iconst (pc := 54) X d_X4_removeRule_54 (by decide +kernel) ?_
    refine r_istore_n (pc := 55) X d_X4_removeRule_55 fn3 (by decide +kernel) ?_
    exact h56
def k_X4_removeRule_56 (P : xP) (C18 : xK) (C56 : xK) : xK := x_iload 3 (x_push (.int 3) (x_icmp_ge (x_iinc 2 1 (C18)) (x_aload 0 (x_getF xN xFT 4 10 (x_iload 2 (x_push (.int 1) (x_isub (x_push (.int 3) (x_imul (x_iload 3 (x_iadd (x_aload 0 (x_getF xN xFT 4 10 (x_iload 2 (x_push (.int 3) (x_imul (x_iload 3 (x_iadd (x_iald xN (x_iast xN (x_iinc 3 1 (C56))))))))))))))))))))))
set_option maxRecDepth 20000 in
theorem t_X4_removeRule_56 {p : Program} {l : Launch} {e : Env} {s : State} {m : MethodId} {args : Array Value} {below : List Frame} {meth : Method} {c : Code} {g : xG} (X : xX p s m args c meth cX4_removeRule RX4 4 g) (hr : meth.sig.returnType = (some .int)) {P : xP} {C18 : xK} {C56 : xK} (h18 : xAt p l e { frames := 1, cells := 0, slots := 0, locals := 22 } s m args below meth c g 4 xFT xN 0 0 (MQ below (xQc g xFT xN P) args s 0 0 (xFr g)) C18 18) (h56 : xAt p l e { frames := 1, cells := 0, slots := 0, locals := 22 } s m args below meth c g 4 xFT xN 0 0 (MQ below (xQc g xFT xN P) args s 0 0 (xFr g)) C56 56) : xAt p l e { frames := 1, cells := 0, slots := 0, locals := 22 } s m args below meth c g 4 xFT xN 0 0 (MQ below (xQc g xFT xN P) args s 0 0 (xFr g)) (k_X4_removeRule_56 P C18 C56) 56 := by
  unfold k_X4_removeRule_56
  refine r_iload_n (pc := 56) X d_X4_removeRule_56 fn3 ?_
  refine r_iconst (pc := 57) X d_X4_removeRule_57 (by decide +kernel) ?_
  refine r_icmp_ge (pc := 58) (tgt := 89) X d_X4_removeRule_58 (by decide +kernel) ?_ ?_
  · refine r_iinc (pc := 89) X d_X4_removeRule_89 (by decide +kernel) (by decide +kernel) ?_
    refine r_goto (pc := 92) (tgt := 18) X d_X4_removeRule_92 (by decide +kernel) ?_
    exact h18
  · refine r_aload_n (pc := 61) X d_X4_removeRule_61 fn0 ?_
    refine r_getF (pc := 62) X xok4 (by decide +kernel) (by decide +kernel) fl_RX4_32 d_X4_removeRule_62 ?_
    refine r_iload_n (pc := 65) X d_X4_removeRule_65 fn2 ?_
    refine r_iconst (pc := 66) X d_X4_removeRule_66 (by decide +kernel) ?_
    refine r_isub (pc := 67) X d_X4_removeRule_67 ?_
    refine r_iconst (pc := 68) X d_X4_removeRule_68 (by decide +kernel) ?_
    refine r_imul (pc := 69) X d_X4_removeRule_69 ?_
    refine r_iload_n (pc := 70) X d_X4_removeRule_70 fn3 ?_
    refine r_iadd (pc := 71) X d_X4_removeRule_71 ?_
    refine r_aload_n (pc := 72) X d_X4_removeRule_72 fn0 ?_
    refine r_getF (pc := 73) X xok4 (by decide +kernel) (by decide +kernel) fl_RX4_32 d_X4_removeRule_73 ?_
    refine r_iload_n (pc := 76) X d_X4_removeRule_76 fn2 ?_
    refine r_iconst (pc := 77) X d_X4_removeRule_77 (by decide +kernel) ?_
    refine r_imul (pc := 78) X d_X4_removeRule_78 ?_
    refine r_iload_n (pc := 79) X d_X4_removeRule_79 fn3 ?_
    refine r_iadd (pc := 80) X d_X4_removeRule_80 ?_
    refine r_iald (pc := 81) X d_X4_removeRule_81 ?_
    refine r_iast (pc := 82) X d_X4_removeRule_82 ?_
    refine r_iinc (pc := 83) X d_X4_removeRule_83 (by decide +kernel) (by decide +kernel) ?_
    refine r_goto (pc := 86) (tgt := 56) X d_X4_removeRule_86 (by decide +kernel) ?_
    exact h56
set_option maxRecDepth 20000 in
theorem m_X4_removeRule {l : Launch} {f : Nat → Int32 → xH → xP → Prop}  {I18 : Nat → Int32 → xH → xP → xM → xK} {I56 : Nat → Int32 → xH → xP → xM → xK}
    (v0 : ∀ (a0 : Nat) (a1 : Int32) (A : xH) (P : xP), f a0 a1 A P → k_X4_removeRule_0 P (xE (I18 a0 a1 A P)) [some (.ref a0), some (.int a1), none, none] [] A)
    (v18 : ∀ (a0 : Nat) (a1 : Int32) (A : xH) (P : xP), f a0 a1 A P → ∀ (μ : xM) (L : xL) (st : List Value) (B : xH), I18 a0 a1 A P μ L st B → k_X4_removeRule_18 P (xB (I56 a0 a1 A P) μ) L st B)
    (v56 : ∀ (a0 : Nat) (a1 : Int32) (A : xH) (P : xP), f a0 a1 A P → ∀ (μ : xM) (L : xL) (st : List Value) (B : xH), I56 a0 a1 A P μ L st B → k_X4_removeRule_56 P (xB (I18 a0 a1 A P) μ) (xB (I56 a0 a1 A P) μ) L st B) : xCon l yX4_removeRule cX4_removeRule 4 (some .int) 1 22 xN xN 0 xFT xFT (w_RI f) := by
  refine xc_RI (plainFor_of_name pn_RX4) (by decide +kernel) (fun p e s m args below meth c g a0 a1 A P h X hr _ => ?_)
  obtain ⟨h18, h56⟩ := x_loop2 (p := p) (l := l) (e := e) (R := { frames := 1, cells := 0, slots := 0, locals := 22 }) (s := s) (m := m) (args := args) (below := below) (meth := meth) (c := c) (g := g) (nL := 4) (F := xFT) (n := xN) (cells := 0) (slots := 0) (Q := MQ below (xQc g xFT xN P) args s 0 0 (xFr g)) (I1 := I18 a0 a1 A P) (I2 := I56 a0 a1 A P) (pc1 := 18) (pc2 := 56) (fun μ i18 i56 => xAt_mono (t_X4_removeRule_18 (P := P) X hr i56) (v18 a0 a1 A P h μ)) (fun μ i18 i56 => xAt_mono (t_X4_removeRule_56 (P := P) X hr i18 i56) (v56 a0 a1 A P h μ))
  exact ⟨_, v0 a0 a1 A P h, t_X4_removeRule_0 X hr h18⟩
theorem d_X4_copyFrom_0 : decode cX4_copyFrom 0 = .ok (.aload_n 0, 1) := by decide +kernel
theorem d_X4_copyFrom_1 : decode cX4_copyFrom 1 = .ok (.aload_n 1, 1) := by decide +kernel
theorem d_X4_copyFrom_2 : decode cX4_copyFrom 2 = .ok (.getfield 47, 3) := by decide +kernel
theorem d_X4_copyFrom_5 : decode cX4_copyFrom 5 = .ok (.putfield 47, 3) := by decide +kernel
theorem d_X4_copyFrom_8 : decode cX4_copyFrom 8 = .ok (.aload_n 0, 1) := by decide +kernel
theorem d_X4_copyFrom_9 : decode cX4_copyFrom 9 = .ok (.aload_n 1, 1) := by decide +kernel
theorem d_X4_copyFrom_10 : decode cX4_copyFrom 10 = .ok (.getfield 50, 3) := by decide +kernel
theorem d_X4_copyFrom_13 : decode cX4_copyFrom 13 = .ok (.putfield 50, 3) := by decide +kernel
theorem d_X4_copyFrom_16 : decode cX4_copyFrom 16 = .ok (.aload_n 0, 1) := by decide +kernel
theorem d_X4_copyFrom_17 : decode cX4_copyFrom 17 = .ok (.aload_n 1, 1) := by decide +kernel
theorem d_X4_copyFrom_18 : decode cX4_copyFrom 18 = .ok (.getfield 53, 3) := by decide +kernel
theorem d_X4_copyFrom_21 : decode cX4_copyFrom 21 = .ok (.putfield 53, 3) := by decide +kernel
theorem d_X4_copyFrom_24 : decode cX4_copyFrom 24 = .ok (.aload_n 0, 1) := by decide +kernel
theorem d_X4_copyFrom_25 : decode cX4_copyFrom 25 = .ok (.aload_n 1, 1) := by decide +kernel
theorem d_X4_copyFrom_26 : decode cX4_copyFrom 26 = .ok (.getfield 9, 3) := by decide +kernel
theorem d_X4_copyFrom_29 : decode cX4_copyFrom 29 = .ok (.putfield 9, 3) := by decide +kernel
theorem d_X4_copyFrom_32 : decode cX4_copyFrom 32 = .ok (.aload_n 0, 1) := by decide +kernel
theorem d_X4_copyFrom_33 : decode cX4_copyFrom 33 = .ok (.aload_n 1, 1) := by decide +kernel
theorem d_X4_copyFrom_34 : decode cX4_copyFrom 34 = .ok (.getfield 56, 3) := by decide +kernel
theorem d_X4_copyFrom_37 : decode cX4_copyFrom 37 = .ok (.putfield 56, 3) := by decide +kernel
theorem d_X4_copyFrom_40 : decode cX4_copyFrom 40 = .ok (.aload_n 1, 1) := by decide +kernel
theorem d_X4_copyFrom_41 : decode cX4_copyFrom 41 = .ok (.getfield 15, 3) := by decide +kernel
theorem d_X4_copyFrom_44 : decode cX4_copyFrom 44 = .ok (.iconst 0, 1) := by decide +kernel
theorem d_X4_copyFrom_45 : decode cX4_copyFrom 45 = .ok (.aload_n 0, 1) := by decide +kernel
theorem d_X4_copyFrom_46 : decode cX4_copyFrom 46 = .ok (.getfield 15, 3) := by decide +kernel
theorem d_X4_copyFrom_49 : decode cX4_copyFrom 49 = .ok (.iconst 0, 1) := by decide +kernel
theorem d_X4_copyFrom_50 : decode cX4_copyFrom 50 = .ok (.aload_n 0, 1) := by decide +kernel
theorem d_X4_copyFrom_51 : decode cX4_copyFrom 51 = .ok (.getfield 15, 3) := by decide +kernel
theorem d_X4_copyFrom_54 : decode cX4_copyFrom 54 = .ok (.arraylength, 1) := by decide +kernel
theorem d_X4_copyFrom_55 : decode cX4_copyFrom 55 = .ok (.invokestatic 59, 3) := by decide +kernel
theorem d_X4_copyFrom_58 : decode cX4_copyFrom 58 = .ok (.aload_n 1, 1) := by decide +kernel
theorem d_X4_copyFrom_59 : decode cX4_copyFrom 59 = .ok (.getfield 19, 3) := by decide +kernel
theorem d_X4_copyFrom_62 : decode cX4_copyFrom 62 = .ok (.iconst 0, 1) := by decide +kernel
theorem d_X4_copyFrom_63 : decode cX4_copyFrom 63 = .ok (.aload_n 0, 1) := by decide +kernel
theorem d_X4_copyFrom_64 : decode cX4_copyFrom 64 = .ok (.getfield 19, 3) := by decide +kernel
theorem d_X4_copyFrom_67 : decode cX4_copyFrom 67 = .ok (.iconst 0, 1) := by decide +kernel
theorem d_X4_copyFrom_68 : decode cX4_copyFrom 68 = .ok (.aload_n 0, 1) := by decide +kernel
theorem d_X4_copyFrom_69 : decode cX4_copyFrom 69 = .ok (.getfield 19, 3) := by decide +kernel
theorem d_X4_copyFrom_72 : decode cX4_copyFrom 72 = .ok (.arraylength, 1) := by decide +kernel
theorem d_X4_copyFrom_73 : decode cX4_copyFrom 73 = .ok (.invokestatic 59, 3) := by decide +kernel
theorem d_X4_copyFrom_76 : decode cX4_copyFrom 76 = .ok (.aload_n 1, 1) := by decide +kernel
theorem d_X4_copyFrom_77 : decode cX4_copyFrom 77 = .ok (.getfield 22, 3) := by decide +kernel
theorem d_X4_copyFrom_80 : decode cX4_copyFrom 80 = .ok (.iconst 0, 1) := by decide +kernel
theorem d_X4_copyFrom_81 : decode cX4_copyFrom 81 = .ok (.aload_n 0, 1) := by decide +kernel
theorem d_X4_copyFrom_82 : decode cX4_copyFrom 82 = .ok (.getfield 22, 3) := by decide +kernel
theorem d_X4_copyFrom_85 : decode cX4_copyFrom 85 = .ok (.iconst 0, 1) := by decide +kernel
theorem d_X4_copyFrom_86 : decode cX4_copyFrom 86 = .ok (.aload_n 0, 1) := by decide +kernel
theorem d_X4_copyFrom_87 : decode cX4_copyFrom 87 = .ok (.getfield 22, 3) := by decide +kernel
theorem d_X4_copyFrom_90 : decode cX4_copyFrom 90 = .ok (.arraylength, 1) := by decide +kernel
theorem d_X4_copyFrom_91 : decode cX4_copyFrom 91 = .ok (.invokestatic 59, 3) := by decide +kernel
theorem d_X4_copyFrom_94 : decode cX4_copyFrom 94 = .ok (.aload_n 1, 1) := by decide +kernel
theorem d_X4_copyFrom_95 : decode cX4_copyFrom 95 = .ok (.getfield 26, 3) := by decide +kernel
theorem d_X4_copyFrom_98 : decode cX4_copyFrom 98 = .ok (.iconst 0, 1) := by decide +kernel
theorem d_X4_copyFrom_99 : decode cX4_copyFrom 99 = .ok (.aload_n 0, 1) := by decide +kernel
theorem d_X4_copyFrom_100 : decode cX4_copyFrom 100 = .ok (.getfield 26, 3) := by decide +kernel
theorem d_X4_copyFrom_103 : decode cX4_copyFrom 103 = .ok (.iconst 0, 1) := by decide +kernel
theorem d_X4_copyFrom_104 : decode cX4_copyFrom 104 = .ok (.aload_n 0, 1) := by decide +kernel
theorem d_X4_copyFrom_105 : decode cX4_copyFrom 105 = .ok (.getfield 26, 3) := by decide +kernel
theorem d_X4_copyFrom_108 : decode cX4_copyFrom 108 = .ok (.arraylength, 1) := by decide +kernel
theorem d_X4_copyFrom_109 : decode cX4_copyFrom 109 = .ok (.invokestatic 59, 3) := by decide +kernel
theorem d_X4_copyFrom_112 : decode cX4_copyFrom 112 = .ok (.aload_n 1, 1) := by decide +kernel
theorem d_X4_copyFrom_113 : decode cX4_copyFrom 113 = .ok (.getfield 29, 3) := by decide +kernel
theorem d_X4_copyFrom_116 : decode cX4_copyFrom 116 = .ok (.iconst 0, 1) := by decide +kernel
theorem d_X4_copyFrom_117 : decode cX4_copyFrom 117 = .ok (.aload_n 0, 1) := by decide +kernel
theorem d_X4_copyFrom_118 : decode cX4_copyFrom 118 = .ok (.getfield 29, 3) := by decide +kernel
theorem d_X4_copyFrom_121 : decode cX4_copyFrom 121 = .ok (.iconst 0, 1) := by decide +kernel
theorem d_X4_copyFrom_122 : decode cX4_copyFrom 122 = .ok (.aload_n 0, 1) := by decide +kernel
theorem d_X4_copyFrom_123 : decode cX4_copyFrom 123 = .ok (.getfield 29, 3) := by decide +kernel
theorem d_X4_copyFrom_126 : decode cX4_copyFrom 126 = .ok (.arraylength, 1) := by decide +kernel
theorem d_X4_copyFrom_127 : decode cX4_copyFrom 127 = .ok (.invokestatic 59, 3) := by decide +kernel
theorem d_X4_copyFrom_130 : decode cX4_copyFrom 130 = .ok (.aload_n 1, 1) := by decide +kernel
theorem d_X4_copyFrom_131 : decode cX4_copyFrom 131 = .ok (.getfield 32, 3) := by decide +kernel
theorem d_X4_copyFrom_134 : decode cX4_copyFrom 134 = .ok (.iconst 0, 1) := by decide +kernel
theorem d_X4_copyFrom_135 : decode cX4_copyFrom 135 = .ok (.aload_n 0, 1) := by decide +kernel
theorem d_X4_copyFrom_136 : decode cX4_copyFrom 136 = .ok (.getfield 32, 3) := by decide +kernel
theorem d_X4_copyFrom_139 : decode cX4_copyFrom 139 = .ok (.iconst 0, 1) := by decide +kernel
theorem d_X4_copyFrom_140 : decode cX4_copyFrom 140 = .ok (.aload_n 0, 1) := by decide +kernel
theorem d_X4_copyFrom_141 : decode cX4_copyFrom 141 = .ok (.getfield 32, 3) := by decide +kernel
theorem d_X4_copyFrom_144 : decode cX4_copyFrom 144 = .ok (.arraylength, 1) := by decide +kernel
theorem d_X4_copyFrom_145 : decode cX4_copyFrom 145 = .ok (.invokestatic 59, 3) := by decide +kernel
theorem d_X4_copyFrom_148 : decode cX4_copyFrom 148 = .ok (.aload_n 1, 1) := by decide +kernel
theorem d_X4_copyFrom_149 : decode cX4_copyFrom 149 = .ok (.getfield 35, 3) := by decide +kernel
theorem d_X4_copyFrom_152 : decode cX4_copyFrom 152 = .ok (.iconst 0, 1) := by decide +kernel
theorem d_X4_copyFrom_153 : decode cX4_copyFrom 153 = .ok (.aload_n 0, 1) := by decide +kernel
theorem d_X4_copyFrom_154 : decode cX4_copyFrom 154 = .ok (.getfield 35, 3) := by decide +kernel
theorem d_X4_copyFrom_157 : decode cX4_copyFrom 157 = .ok (.iconst 0, 1) := by decide +kernel
theorem d_X4_copyFrom_158 : decode cX4_copyFrom 158 = .ok (.aload_n 0, 1) := by decide +kernel
theorem d_X4_copyFrom_159 : decode cX4_copyFrom 159 = .ok (.getfield 35, 3) := by decide +kernel
theorem d_X4_copyFrom_162 : decode cX4_copyFrom 162 = .ok (.arraylength, 1) := by decide +kernel
theorem d_X4_copyFrom_163 : decode cX4_copyFrom 163 = .ok (.invokestatic 59, 3) := by decide +kernel
theorem d_X4_copyFrom_166 : decode cX4_copyFrom 166 = .ok (.aload_n 1, 1) := by decide +kernel
theorem d_X4_copyFrom_167 : decode cX4_copyFrom 167 = .ok (.getfield 38, 3) := by decide +kernel
theorem d_X4_copyFrom_170 : decode cX4_copyFrom 170 = .ok (.iconst 0, 1) := by decide +kernel
theorem d_X4_copyFrom_171 : decode cX4_copyFrom 171 = .ok (.aload_n 0, 1) := by decide +kernel
theorem d_X4_copyFrom_172 : decode cX4_copyFrom 172 = .ok (.getfield 38, 3) := by decide +kernel
theorem d_X4_copyFrom_175 : decode cX4_copyFrom 175 = .ok (.iconst 0, 1) := by decide +kernel
theorem d_X4_copyFrom_176 : decode cX4_copyFrom 176 = .ok (.aload_n 0, 1) := by decide +kernel
theorem d_X4_copyFrom_177 : decode cX4_copyFrom 177 = .ok (.getfield 38, 3) := by decide +kernel
theorem d_X4_copyFrom_180 : decode cX4_copyFrom 180 = .ok (.arraylength, 1) := by decide +kernel
theorem d_X4_copyFrom_181 : decode cX4_copyFrom 181 = .ok (.invokestatic 59, 3) := by decide +kernel
theorem d_X4_copyFrom_184 : decode cX4_copyFrom 184 = .ok (.aload_n 1, 1) := by decide +kernel
theorem d_X4_copyFrom_185 : decode cX4_copyFrom 185 = .ok (.getfield 41, 3) := by decide +kernel
theorem d_X4_copyFrom_188 : decode cX4_copyFrom 188 = .ok (.iconst 0, 1) := by decide +kernel
theorem d_X4_copyFrom_189 : decode cX4_copyFrom 189 = .ok (.aload_n 0, 1) := by decide +kernel
theorem d_X4_copyFrom_190 : decode cX4_copyFrom 190 = .ok (.getfield 41, 3) := by decide +kernel
theorem d_X4_copyFrom_193 : decode cX4_copyFrom 193 = .ok (.iconst 0, 1) := by decide +kernel
theorem d_X4_copyFrom_194 : decode cX4_copyFrom 194 = .ok (.aload_n 0, 1) := by decide +kernel
theorem d_X4_copyFrom_195 : decode cX4_copyFrom 195 = .ok (.getfield 41, 3) := by decide +kernel
theorem d_X4_copyFrom_198 : decode cX4_copyFrom 198 = .ok (.arraylength, 1) := by decide +kernel
theorem d_X4_copyFrom_199 : decode cX4_copyFrom 199 = .ok (.invokestatic 59, 3) := by decide +kernel
theorem d_X4_copyFrom_202 : decode cX4_copyFrom 202 = .ok (.return_, 1) := by decide +kernel
def k_X4_copyFrom_0 (P : xP) : xK := x_aload 0 (x_aload 1 (x_getI xN 4 0 (x_putI xN 4 0 (x_aload 0 (x_aload 1 (x_getI xN 4 1 (x_putI xN 4 1 (x_aload 0 (x_aload 1 (x_getI xN 4 2 (x_putI xN 4 2 (x_aload 0 (x_aload 1 (x_getI xN 4 3 (x_putI xN 4 3 (x_aload 0 (x_aload 1 (x_getI xN 4 4 (x_putI xN 4 4 (x_aload 1 (x_getF xN xFT 4 5 (x_push (.int 0) (x_aload 0 (x_getF xN xFT 4 5 (x_push (.int 0) (x_aload 0 (x_getF xN xFT 4 5 (x_alen xN (x_copyl xN (x_aload 1 (x_getF xN xFT 4 6 (x_push (.int 0) (x_aload 0 (x_getF xN xFT 4 6 (x_push (.int 0) (x_aload 0 (x_getF xN xFT 4 6 (x_alen xN (x_copyl xN (x_aload 1 (x_getF xN xFT 4 7 (x_push (.int 0) (x_aload 0 (x_getF xN xFT 4 7 (x_push (.int 0) (x_aload 0 (x_getF xN xFT 4 7 (x_alen xN (x_copyi xN (x_aload 1 (x_getF xN xFT 4 8 (x_push (.int 0) (x_aload 0 (x_getF xN xFT 4 8 (x_push (.int 0) (x_aload 0 (x_getF xN xFT 4 8 (x_alen xN (x_copyi xN (x_aload 1 (x_getF xN xFT 4 9 (x_push (.int 0) (x_aload 0 (x_getF xN xFT 4 9 (x_push (.int 0) (x_aload 0 (x_getF xN xFT 4 9 (x_alen xN (x_copyi xN (x_aload 1 (x_getF xN xFT 4 10 (x_push (.int 0) (x_aload 0 (x_getF xN xFT 4 10 (x_push (.int 0) (x_aload 0 (x_getF xN xFT 4 10 (x_alen xN (x_copyi xN (x_aload 1 (x_getF xN xFT 4 11 (x_push (.int 0) (x_aload 0 (x_getF xN xFT 4 11 (x_push (.int 0) (x_aload 0 (x_getF xN xFT 4 11 (x_alen xN (x_copyi xN (x_aload 1 (x_getF xN xFT 4 12 (x_push (.int 0) (x_aload 0 (x_getF xN xFT 4 12 (x_push (.int 0) (x_aload 0 (x_getF xN xFT 4 12 (x_alen xN (x_copyi xN (x_aload 1 (x_getF xN xFT 4 13 (x_push (.int 0) (x_aload 0 (x_getF xN xFT 4 13 (x_push (.int 0) (x_aload 0 (x_getF xN xFT 4 13 (x_alen xN (x_copyi xN (x_vret P))))))))))))))))))))))))))))))))))))))))))))))))))))))))))))))))))))))))))))))))))))))))))))))))))))))))))))))
set_option maxRecDepth 20000 in
theorem t_X4_copyFrom_0 {p : Program} {l : Launch} {e : Env} {s : State} {m : MethodId} {args : Array Value} {below : List Frame} {meth : Method} {c : Code} {g : xG} (X : xX p s m args c meth cX4_copyFrom RX4 2 g) (hr : meth.sig.returnType = none) {P : xP} : xAt p l e { frames := 1, cells := 0, slots := 0, locals := 100 } s m args below meth c g 2 xFT xN 0 0 (MQ below (xQc g xFT xN P) args s 0 0 (xFr g)) (k_X4_copyFrom_0 P) 0 := by
  unfold k_X4_copyFrom_0
  refine r_aload_n (pc := 0) X d_X4_copyFrom_0 fn0 ?_
  refine r_aload_n (pc := 1) X d_X4_copyFrom_1 fn1 ?_
  refine r_getI (pc := 2) X xok4 (by decide +kernel) (by decide +kernel) fl_RX4_47 d_X4_copyFrom_2 ?_
  refine r_putI (pc := 5) X xok4 (by decide +kernel) (by decide +kernel) (by decide +kernel) (by decide +kernel) fl_RX4_47 d_X4_copyFrom_5 ?_
  refine r_aload_n (pc := 8) X d_X4_copyFrom_8 fn0 ?_
  refine r_aload_n (pc := 9) X d_X4_copyFrom_9 fn1 ?_
  refine r_getI (pc := 10) X xok4 (by decide +kernel) (by decide +kernel) fl_RX4_50 d_X4_copyFrom_10 ?_
  refine r_putI (pc := 13) X xok4 (by decide +kernel) (by decide +kernel) (by decide +kernel) (by decide +kernel) fl_RX4_50 d_X4_copyFrom_13 ?_
  refine r_aload_n (pc := 16) X d_X4_copyFrom_16 fn0 ?_
  refine r_aload_n (pc := 17) X d_X4_copyFrom_17 fn1 ?_
  refine r_getI (pc := 18) X xok4 (by decide +kernel) (by decide +kernel) fl_RX4_53 d_X4_copyFrom_18 ?_
  refine r_putI (pc := 21) X xok4 (by decide +kernel) (by decide +kernel) (by decide +kernel) (by decide +kernel) fl_RX4_53 d_X4_copyFrom_21 ?_
  refine r_aload_n (pc := 24) X d_X4_copyFrom_24 fn0 ?_
  refine r_aload_n (pc := 25) X d_X4_copyFrom_25 fn1 ?_
  refine r_getI (pc := 26) X xok4 (by decide +kernel) (by decide +kernel) fl_RX4_9 d_X4_copyFrom_26 ?_
  refine r_putI (pc := 29) X xok4 (by decide +kernel) (by decide +kernel) (by decide +kernel) (by decide +kernel) fl_RX4_9 d_X4_copyFrom_29 ?_
  refine r_aload_n (pc := 32) X d_X4_copyFrom_32 fn0 ?_
  refine r_aload_n (pc := 33) X d_X4_copyFrom_33 fn1 ?_
  refine r_getI (pc := 34) X xok4 (by decide +kernel) (by decide +kernel) fl_RX4_56 d_X4_copyFrom_34 ?_
  refine r_putI (pc := 37) X xok4 (by decide +kernel) (by decide +kernel) (by decide +kernel) (by decide +kernel) fl_RX4_56 d_X4_copyFrom_37 ?_
  refine r_aload_n (pc := 40) X d_X4_copyFrom_40 fn1 ?_
  refine r_getF (pc := 41) X xok4 (by decide +kernel) (by decide +kernel) fl_RX4_15 d_X4_copyFrom_41 ?_
  refine r_iconst (pc := 44) X d_X4_copyFrom_44 (by decide +kernel) ?_
  refine r_aload_n (pc := 45) X d_X4_copyFrom_45 fn0 ?_
  refine r_getF (pc := 46) X xok4 (by decide +kernel) (by decide +kernel) fl_RX4_15 d_X4_copyFrom_46 ?_
  refine r_iconst (pc := 49) X d_X4_copyFrom_49 (by decide +kernel) ?_
  refine r_aload_n (pc := 50) X d_X4_copyFrom_50 fn0 ?_
  refine r_getF (pc := 51) X xok4 (by decide +kernel) (by decide +kernel) fl_RX4_15 d_X4_copyFrom_51 ?_
  refine r_alen (pc := 54) X d_X4_copyFrom_54 ?_
  refine r_copyl (pc := 55) X rfl ac_RX4_59 (by decide +kernel) (by decide +kernel) d_X4_copyFrom_55 ?_
  refine r_aload_n (pc := 58) X d_X4_copyFrom_58 fn1 ?_
  refine r_getF (pc := 59) X xok4 (by decide +kernel) (by decide +kernel) fl_RX4_19 d_X4_copyFrom_59 ?_
  refine r_iconst (pc := 62) X d_X4_copyFrom_62 (by decide +kernel) ?_
  refine r_aload_n (pc := 63) X d_X4_copyFrom_63 fn0 ?_
  refine r_getF (pc := 64) X xok4 (by decide +kernel) (by decide +kernel) fl_RX4_19 d_X4_copyFrom_64 ?_
  refine r_iconst (pc := 67) X d_X4_copyFrom_67 (by decide +kernel) ?_
  refine r_aload_n (pc := 68) X d_X4_copyFrom_68 fn0 ?_
  refine r_getF (pc := 69) X xok4 (by decide +kernel) (by decide +kernel) fl_RX4_19 d_X4_copyFrom_69 ?_
  refine r_alen (pc := 72) X d_X4_copyFrom_72 ?_
  refine r_copyl (pc := 73) X rfl ac_RX4_59 (by decide +kernel) (by decide +kernel) d_X4_copyFrom_73 ?_
  refine r_aload_n (pc := 76) X d_X4_copyFrom_76 fn1 ?_
  refine r_getF (pc := 77) X xok4 (by decide +kernel) (by decide +kernel) fl_RX4_22 d_X4_copyFrom_77 ?_
  refine r_iconst (pc := 80) X d_X4_copyFrom_80 (by decide +kernel) ?_
  refine r_aload_n (pc := 81) X d_X4_copyFrom_81 fn0 ?_
  refine r_getF (pc := 82) X xok4 (by decide +kernel) (by decide +kernel) fl_RX4_22 d_X4_copyFrom_82 ?_
  refine r_iconst (pc := 85) X d_X4_copyFrom_85 (by decide +kernel) ?_
  refine r_aload_n (pc := 86) X d_X4_copyFrom_86 fn0 ?_
  refine r_getF (pc := 87) X xok4 (by decide +kernel) (by decide +kernel) fl_RX4_22 d_X4_copyFrom_87 ?_
  refine r_alen (pc := 90) X d_X4_copyFrom_90 ?_
  refine r_copyi (pc := 91) X rfl ac_RX4_59 (by decide +kernel) (by decide +kernel) d_X4_copyFrom_91 ?_
  refine r_aload_n (pc := 94) X d_X4_copyFrom_94 fn1 ?_
  refine r_getF (pc := 95) X xok4 (by decide +kernel) (by decide +kernel) fl_RX4_26 d_X4_copyFrom_95 ?_
  refine r_iconst (pc := 98) X d_X4_copyFrom_98 (by decide +kernel) ?_
  refine r_aload_n (pc := 99) X d_X4_copyFrom_99 fn0 ?_
  refine r_getF (pc := 100) X xok4 (by decide +kernel) (by decide +kernel) fl_RX4_26 d_X4_copyFrom_100 ?_
  refine r_iconst (pc := 103) X d_X4_copyFrom_103 (by decide +kernel) ?_
  refine r_aload_n (pc := 104) X d_X4_copyFrom_104 fn0 ?_
  refine r_getF (pc := 105) X xok4 (by decide +kernel) (by decide +kernel) fl_RX4_26 d_X4_copyFrom_105 ?_
  refine r_alen (pc := 108) X d_X4_copyFrom_108 ?_
  refine r_copyi (pc := 109) X rfl ac_RX4_59 (by decide +kernel) (by decide +kernel) d_X4_copyFrom_109 ?_
  refine r_aload_n (pc := 112) X d_X4_copyFrom_112 fn1 ?_
  refine r_getF (pc := 113) X xok4 (by decide +kernel) (by decide +kernel) fl_RX4_29 d_X4_copyFrom_113 ?_
  refine r_iconst (pc := 116) X d_X4_copyFrom_116 (by decide +kernel) ?_
  refine r_aload_n (pc := 117) X d_X4_copyFrom_117 fn0 ?_
  refine r_getF (pc := 118) X xok4 (by decide +kernel) (by decide +kernel) fl_RX4_29 d_X4_copyFrom_118 ?_
  refine r_iconst (pc := 121) X d_X4_copyFrom_121 (by decide +kernel) ?_
  refine r_aload_n (pc := 122) X d_X4_copyFrom_122 fn0 ?_
  refine r_getF (pc := 123) X xok4 (by decide +kernel) (by decide +kernel) fl_RX4_29 d_X4_copyFrom_123 ?_
  refine r_alen (pc := 126) X d_X4_copyFrom_126 ?_
  refine r_copyi (pc := 127) X rfl ac_RX4_59 (by decide +kernel) (by decide +kernel) d_X4_copyFrom_127 ?_
  refine r_aload_n (pc := 130) X d_X4_copyFrom_130 fn1 ?_
  refine r_getF (pc := 131) X xok4 (by decide +kernel) (by decide +kernel) fl_RX4_32 d_X4_copyFrom_131 ?_
  refine r_iconst (pc := 134) X d_X4_copyFrom_134 (by decide +kernel) ?_
  refine r_aload_n (pc := 135) X d_X4_copyFrom_135 fn0 ?_
  refine r_getF (pc := 136) X xok4 (by decide +kernel) (by decide +kernel) fl_RX4_32 d_X4_copyFrom_136 ?_
  refine r_iconst (pc := 139) X d_X4_copyFrom_139 (by decide +kernel) ?_
  refine r_aload_n (pc := 140) X d_X4_copyFrom_140 fn0 ?_
  refine r_getF (pc := 141) X xok4 (by decide +kernel) (by decide +kernel) fl_RX4_32 d_X4_copyFrom_141 ?_
  refine r_alen (pc := 144) X d_X4_copyFrom_144 ?_
  refine r_copyi (pc := 145) X rfl ac_RX4_59 (by decide +kernel) (by decide +kernel) d_X4_copyFrom_145 ?_
  refine r_aload_n (pc := 148) X d_X4_copyFrom_148 fn1 ?_
  refine r_getF (pc := 149) X xok4 (by decide +kernel) (by decide +kernel) fl_RX4_35 d_X4_copyFrom_149 ?_
  refine r_iconst (pc := 152) X d_X4_copyFrom_152 (by decide +kernel) ?_
  refine r_aload_n (pc := 153) X d_X4_copyFrom_153 fn0 ?_
  refine r_getF (pc := 154) X xok4 (by decide +kernel) (by decide +kernel) fl_RX4_35 d_X4_copyFrom_154 ?_
  refine r_iconst (pc := 157) X d_X4_copyFrom_157 (by decide +kernel) ?_
  refine r_aload_n (pc := 158) X d_X4_copyFrom_158 fn0 ?_
  refine r_getF (pc := 159) X xok4 (by decide +kernel) (by decide +kernel) fl_RX4_35 d_X4_copyFrom_159 ?_
  refine r_alen (pc := 162) X d_X4_copyFrom_162 ?_
  refine r_copyi (pc := 163) X rfl ac_RX4_59 (by decide +kernel) (by decide +kernel) d_X4_copyFrom_163 ?_
  refine r_aload_n (pc := 166) X d_X4_copyFrom_166 fn1 ?_
  refine r_getF (pc := 167) X xok4 (by decide +kernel) (by decide +kernel) fl_RX4_38 d_X4_copyFrom_167 ?_
  refine r_iconst (pc := 170) X d_X4_copyFrom_170 (by decide +kernel) ?_
  refine r_aload_n (pc := 171) X d_X4_copyFrom_171 fn0 ?_
  refine r_getF (pc := 172) X xok4 (by decide +kernel) (by decide +kernel) fl_RX4_38 d_X4_copyFrom_172 ?_
  refine r_iconst (pc := 175) X d_X4_copyFrom_175 (by decide +kernel) ?_
  refine r_aload_n (pc := 176) X d_X4_copyFrom_176 fn0 ?_
  refine r_getF (pc := 177) X xok4 (by decide +kernel) (by decide +kernel) fl_RX4_38 d_X4_copyFrom_177 ?_
  refine r_alen (pc := 180) X d_X4_copyFrom_180 ?_
  refine r_copyi (pc := 181) X rfl ac_RX4_59 (by decide +kernel) (by decide +kernel) d_X4_copyFrom_181 ?_
  refine r_aload_n (pc := 184) X d_X4_copyFrom_184 fn1 ?_
  refine r_getF (pc := 185) X xok4 (by decide +kernel) (by decide +kernel) fl_RX4_41 d_X4_copyFrom_185 ?_
  refine r_iconst (pc := 188) X d_X4_copyFrom_188 (by decide +kernel) ?_
  refine r_aload_n (pc := 189) X d_X4_copyFrom_189 fn0 ?_
  refine r_getF (pc := 190) X xok4 (by decide +kernel) (by decide +kernel) fl_RX4_41 d_X4_copyFrom_190 ?_
  refine r_iconst (pc := 193) X d_X4_copyFrom_193 (by decide +kernel) ?_
  refine r_aload_n (pc := 194) X d_X4_copyFrom_194 fn0 ?_
  refine r_getF (pc := 195) X xok4 (by decide +kernel) (by decide +kernel) fl_RX4_41 d_X4_copyFrom_195 ?_
  refine r_alen (pc := 198) X d_X4_copyFrom_198 ?_
  refine r_copyi (pc := 199) X rfl ac_RX4_59 (by decide +kernel) (by decide +kernel) d_X4_copyFrom_199 ?_
  exact r_vret (pc := 202) X hr d_X4_copyFrom_202
set_option maxRecDepth 20000 in
theorem m_X4_copyFrom {l : Launch} {f : Nat → Nat → xH → xP → Prop} 
    (v0 : ∀ (a0 : Nat) (a1 : Nat) (A : xH) (P : xP), f a0 a1 A P → k_X4_copyFrom_0 P [some (.ref a0), some (.ref a1)] [] A) : xCon l yX4_copyFrom cX4_copyFrom 2 none 1 100 xN xN 0 xFT xFT (w_RR f) := by
  refine xc_RR (plainFor_of_name pn_RX4) (by decide +kernel) (fun p e s m args below meth c g a0 a1 A P h X hr _ => ?_)
  exact ⟨_, v0 a0 a1 A P h, t_X4_copyFrom_0 X hr⟩
def vempty (v : xV) : xV := ((0, 0, 0, 0), vsn v, vkn v, vrk v, vrs v, vsy v, fun i => i)
def f_X4_clear (b : Nat) (A : xH) (P : xP) : Prop := xMod b ∧ ∀ B v, isM B b (vempty v) → xoff A B b (b + 9) → P none B
theorem con_X4_clear (l : Launch) : xCon l yX4_clear cX4_clear 1 none 1 22 xN xN 0 xFT xFT (w_R f_X4_clear) := by
  refine m_X4_clear ?_
  rintro b A P ⟨hM, hP⟩
  have m1 := hM.1
  simp only [k_X4_clear_0, f_X4_renumber, w_R, x_aload, x_cv0, x_push, x_putI, x_vret, xFT, xbool0, xbool1, Nat.reduceAdd, Nat.zero_add, xgl_0, xgl_s, xgl_n, xst_0, xst_1n, xst_1i, xst_1r, xst_1l, xst_s, set_0, set_s, true_and, and_true, xres, xcat_nil, xcat_i, xcat_r, xcat_l, Nat.add_zero, xble0, xble1, xble2, xble3, xble4, xble5, xble6, xble7, xble8, m1, f_X4_renumber]
  refine ⟨vempty ((0, 0, 0, 0), fun _ => 0, fun _ => 0, fun _ => 0, fun _ => 0, fun _ _ => 0, fun i => i), ⟨hM, ⟨by decide, by decide, by decide, by decide, fun r hr => absurd hr (Nat.not_lt_zero r)⟩, ⟨?_, ?_, ?_, ?_⟩, fun j hj => absurd hj (Nat.not_lt_zero j), fun j hj => absurd hj (Nat.not_lt_zero j), fun r hr => absurd hr (Nat.not_lt_zero r)⟩, fun B hB hf => hP B _ hB (xoff_tr (xoff_si (xoff_si (xoff_si (xoff_si xoff_rf (by omega) (by omega)) (by omega) (by omega)) (by omega) (by omega)) (by omega) (by omega)) hf)⟩
  all_goals simp [xi_si, vempty, vS, vK, vR, vD, nI_0]
/-- a symbol, by the number that tells it -/
def symI (v : xV) (x : Int32) : Prop := ∃ c : Nat, x = nI c ∧ (c < vS v ∨ (8 ≤ c ∧ c < 8 + vK v))
def symN (x : Int32) : Nat := x.toNatClampNeg
theorem isSym_spec {A : xH} {b : Nat} {v : xV} {x : Int32} {P : xP} (hM : isM A b v) (h1 : symI v x → P (some (.int 1)) A) (h2 : ¬ symI v x → P (some (.int 0)) A) : f_X4_isSymbol b x A P := by
  obtain ⟨⟨⟨m1, -⟩, ⟨w1, w2, -⟩, ⟨k0, k1, -⟩, -⟩, -⟩ := hM
  unfold f_X4_isSymbol
  simp only [k_X4_isSymbol_0, k_X4_isSymbol_17, k_X4_isSymbol_29, k_X4_isSymbol_33, k_X4_isSymbol_34, x_aload, x_getI, x_icmp_ge, x_icmp_lt, x_if_lt, x_iload, x_istore, x_isub, x_push, x_zret, xFT, xbool0, xbool1, Nat.reduceAdd, Nat.zero_add, xgl_0, xgl_s, xgl_n, xst_0, xst_1n, xst_1i, xst_1r, xst_1l, xst_s, set_0, set_s, true_and, and_true, xres, xcat_nil, xcat_i, xcat_r, xcat_l, Nat.add_zero, xble0, xble1, xble2, xble3, xble4, xble5, xble6, xble7, xble8, m1, k0, k1]
  have e8 : (8 : Int32).toInt = 8 := by decide +kernel
  have r1 := i_sub x 8
  have r2 := i_rng (x - 8)
  have r3 := i_rng x
  have yes : 0 ≤ x.toInt → x.toInt < vS v → P (some (.int 1)) A := fun a1 a2 => h1 ⟨x.toInt.toNat, by rw [← Int32.toInt_inj, nI_toInt (by omega)]; omega, Or.inl (by omega)⟩
  have yes2 : 0 ≤ (x - 8).toInt → (x - 8).toInt < vK v → P (some (.int 1)) A := fun a1 a2 => h1 ⟨x.toInt.toNat, by rw [← Int32.toInt_inj, nI_toInt (by omega)]; omega, Or.inr (by omega)⟩
  have no : (x.toInt < 0 ∨ (vS v : Int) ≤ x.toInt) → ((x - 8).toInt < 0 ∨ (vK v : Int) ≤ (x - 8).toInt) → P (some (.int 0)) A := fun a1 a2 => h2 (by
    rintro ⟨c, rfl, hc⟩
    rw [nI_toInt (by omega)] at *
    omega)
  have k17 : (x.toInt < 0 ∨ (vS v : Int) ≤ x.toInt) → (x - 8 < 0 → P (some (.int 0)) A) ∧ (¬ x - 8 < 0 → (nI (vK v) ≤ x - 8 → P (some (.int 0)) A) ∧ (¬ nI (vK v) ≤ x - 8 → P (some (.int 1)) A)) := by
    intro a
    refine ⟨fun h => ?_, fun h => ⟨fun h3 => ?_, fun h3 => ?_⟩⟩
    · simp (disch := omega) only [Int32.lt_iff_toInt_lt, Int32.le_iff_toInt_le, ← Int32.toInt_inj, nI_toInt, Int32.reduceToInt, n_m1, ne_eq, not_true_eq_false, not_false_eq_true] at h
      exact no a (Or.inl h)
    · simp (disch := omega) only [Int32.lt_iff_toInt_lt, Int32.le_iff_toInt_le, ← Int32.toInt_inj, nI_toInt, Int32.reduceToInt, n_m1, ne_eq, not_true_eq_false, not_false_eq_true] at h h3
      exact no a (Or.inr h3)
    · simp (disch := omega) only [Int32.lt_iff_toInt_lt, Int32.le_iff_toInt_le, ← Int32.toInt_inj, nI_toInt, Int32.reduceToInt, n_m1, ne_eq, not_true_eq_false, not_false_eq_true] at h h3
      exact yes2 (by omega) (by omega)
  refine ⟨fun h => ?_, fun h => ⟨fun h3 => ?_, fun h3 => ?_⟩⟩
  · simp (disch := omega) only [Int32.lt_iff_toInt_lt, Int32.le_iff_toInt_le, ← Int32.toInt_inj, nI_toInt, Int32.reduceToInt, n_m1, ne_eq, not_true_eq_false, not_false_eq_true] at h
    exact k17 (Or.inl h)
  · simp (disch := omega) only [Int32.lt_iff_toInt_lt, Int32.le_iff_toInt_le, ← Int32.toInt_inj, nI_toInt, Int32.reduceToInt, n_m1, ne_eq, not_true_eq_false, not_false_eq_true] at h h3
    exact yes (by omega) h3
  · simp (disch := omega) only [Int32.lt_iff_toInt_lt, Int32.le_iff_toInt_le, ← Int32.toInt_inj, nI_toInt, Int32.reduceToInt, n_m1, ne_eq, not_true_eq_false, not_false_eq_true] at h h3
    exact k17 (Or.inr (by omega))
/-- a rule more -/
def vadd (v : xV) (k sz c0 c1 c2 : Nat) : xV := ((vS v, vK v, vR v + 1, vD v), vsn v, vkn v, (fun r => if r = vR v then k else vrk v r), (fun r => if r = vR v then sz else vrs v r), (fun r t => if r = vR v then (if t = 0 then c0 else if t = 1 then c1 else c2) else vsy v r t), fun i => i)
/-- what a rule to be added is told by -/
def addOK (v : xV) (k sz s0 s1 s2 : Int32) : Prop := (∃ k' : Nat, k = nI k' ∧ k' < vK v) ∧ (∃ z : Nat, sz = nI z ∧ z ≤ 3 ∧ (0 < z → symI v s0) ∧ (1 < z → symI v s1) ∧ (2 < z → symI v s2))
theorem vR_add {v : xV} {k sz c0 c1 c2 : Nat} : vR (vadd v k sz c0 c1 c2) = vR v + 1 := rfl
theorem vrk_add {v : xV} {k sz c0 c1 c2 r : Nat} : vrk (vadd v k sz c0 c1 c2) r = if r = vR v then k else vrk v r := rfl
theorem vrs_add {v : xV} {k sz c0 c1 c2 r : Nat} : vrs (vadd v k sz c0 c1 c2) r = if r = vR v then sz else vrs v r := rfl
theorem vsy_add {v : xV} {k sz c0 c1 c2 r t : Nat} : vsy (vadd v k sz c0 c1 c2) r t = if r = vR v then (if t = 0 then c0 else if t = 1 then c1 else c2) else vsy v r t := rfl
theorem symI_N {v : xV} {s : Int32} (w1 : vS v ≤ 4) (w2 : vK v ≤ 5) (h : symI v s) : s = nI (symN s) ∧ (symN s < vS v ∨ (8 ≤ symN s ∧ symN s < 8 + vK v)) := by
  obtain ⟨c, rfl, hc⟩ := h
  unfold symN
  rw [n_cl (by omega)]
  exact ⟨rfl, hc⟩
def f_X4_appendRule (b : Nat) (k sz s0 s1 s2 : Int32) (A : xH) (P : xP) : Prop := ∃ v, isM A b v ∧
  (addOK v k sz s0 s1 s2 → (vR v = 10 → P (some (.int 1)) A) ∧ (vR v < 10 → ∀ B, isM B b (vadd v (symN k) (symN sz) (symN s0) (symN s1) (symN s2)) → xoff A B b (b + 9) → P (some (.int 0)) B)) ∧
  (¬ addOK v k sz s0 s1 s2 → P (some (.int (-1))) A)
theorem con_X4_appendRule (l : Launch) : xCon l yX4_appendRule cX4_appendRule 6 (some .int) 1 22 xN xN 0 xFT xFT (w_RIIIII f_X4_appendRule) := by
  refine m_X4_appendRule ?_
  rintro b k sz s0 s1 s2 A P ⟨v, hM, hP, hP2⟩
  have hM0 := hM
  obtain ⟨⟨⟨m1, ⟨-, -, l7, l8, -, l10, -⟩, ⟨-, -, t7, t8, -, t10, -⟩, ⟨-, -, s7, s8, -, s10, -⟩, -⟩, ⟨w1, w2, w3, w4, w5⟩, ⟨k0, k1, k2, k4⟩, g4, g5, g6⟩, -⟩ := hM
  -- the rule is laid behind the others
  have key : addOK v k sz s0 s1 s2 → k_X4_appendRule_65 P [some (.ref b), some (.int k), some (.int sz), some (.int s0), some (.int s1), some (.int s2)] [] A := by
    intro ok
    have hP := hP ok
    obtain ⟨⟨k', rfl, hk'⟩, ⟨z, rfl, hz, y0, y1, y2⟩⟩ := ok
    simp only [k_X4_appendRule_0, k_X4_appendRule_21, k_X4_appendRule_35, k_X4_appendRule_49, k_X4_appendRule_63, k_X4_appendRule_65, f_X4_renumber, w_R, w_RI, x_aload, x_cv0, x_cv1, x_dup, x_getF, x_getI, x_iadd, x_iast, x_icmp_ge, x_icmp_le, x_icmp_lt, x_if_eq, x_if_le, x_if_lt, x_if_ne, x_iload, x_imul, x_iret, x_push, x_putI, xFT, xbool0, xbool1, Nat.reduceAdd, Nat.zero_add, xgl_0, xgl_s, xgl_n, xst_0, xst_1n, xst_1i, xst_1r, xst_1l, xst_s, set_0, set_s, true_and, and_true, xres, xcat_nil, xcat_i, xcat_r, xcat_l, Nat.add_zero, xble0, xble1, xble2, xble3, xble4, xble5, xble6, xble7, xble8, m1, l7, l8, l10, t7, t8, t10, s7, s8, s10, k2, xi_si, show ¬ b = b + 3 by omega, show ¬ b = b + 4 by omega, show ¬ b = b + 6 by omega, false_and, if_false, f_X4_renumber, show (3 : Int32) = nI 3 from rfl, show (1 : Int32) = nI 1 from rfl, show (2 : Int32) = nI 2 from rfl, show (10 : Int32) = nI 10 from rfl, pk_mul, nI_add]
    refine ⟨fun h => ?_, fun h => hP.1 ?_⟩
    · simp (disch := omega) only [Int32.lt_iff_toInt_lt, Int32.le_iff_toInt_le, ← Int32.toInt_inj, nI_toInt, Int32.reduceToInt, n_m1, ne_eq, not_true_eq_false, not_false_eq_true] at h
      have hR : vR v < 10 := by omega
      have hP := hP.2 hR
      rw [n_cl (by omega), n_cl (by omega), n_cl (by omega), n_cl (by omega)]
      have i1 := (n_in (j := vR v) (n := 10) (by omega) (by omega)).mpr hR
      refine ⟨i1, i1, (n_in (by omega) (by omega)).mpr (by omega), (n_in (by omega) (by omega)).mpr (by omega), (n_in (by omega) (by omega)).mpr (by omega), vadd v (symN (nI k')) (symN (nI z)) (symN s0) (symN s1) (symN s2), ⟨hM0.1.1, ⟨w1, w2, ?_, w4, ?_⟩, ⟨?_, ?_, ?_, ?_⟩, g4, g5, ?_⟩, fun B hB hf => hP B hB (xoff_tr (xoff_si (xoff_si (xoff_si (xoff_si (xoff_si (xoff_si xoff_rf (by omega) (by omega)) (by omega) (by omega)) (by omega) (by omega)) (by omega) (by omega)) (by omega) (by omega)) (by omega) (by omega)) hf)⟩
      · rw [vR_add]; omega
      · intro r hr
        rw [vR_add] at hr
        have ek : symN (nI k') = k' := n_cl (by omega)
        have ez : symN (nI z) = z := n_cl (by omega)
        rw [vrk_add, vrs_add, ek, ez]
        by_cases e : r = vR v
        · rw [if_pos e, if_pos e]
          refine ⟨hk', hz, fun t ht => ?_⟩
          rw [vsy_add, if_pos e]
          show _ < vS v ∨ (8 ≤ _ ∧ _ < 8 + vK v)
          by_cases t0 : t = 0
          · rw [if_pos t0]; exact (symI_N w1 w2 (y0 (by omega))).2
          · rw [if_neg t0]
            by_cases t1 : t = 1
            · rw [if_pos t1]; exact (symI_N w1 w2 (y1 (by omega))).2
            · rw [if_neg t1]; exact (symI_N w1 w2 (y2 (by omega))).2
        · rw [if_neg e, if_neg e]
          have := w5 r (by omega)
          refine ⟨this.1, this.2.1, fun t ht => ?_⟩
          rw [vsy_add, if_neg e]
          exact this.2.2 t ht
      · simp [xi_si, k0, vadd, vS]
      · simp [xi_si, k1, vadd, vK]
      · simp [xi_si, vadd, vR]
      · simp [xi_si, k4, vadd, vD]
      · intro r hr
        rw [vR_add] at hr
        have ek : symN (nI k') = k' := n_cl (by omega)
        have ez : symN (nI z) = z := n_cl (by omega)
        simp only [xi_si, show ¬ b + 3 = b by omega, show ¬ b + 4 = b by omega, show ¬ b + 6 = b by omega, show ¬ b + 3 = b + 6 by omega, show ¬ b + 4 = b + 6 by omega, show ¬ b + 3 = b + 4 by omega, show ¬ b + 4 = b + 3 by omega, show ¬ b + 6 = b + 3 by omega, show ¬ b + 6 = b + 4 by omega, false_and, if_false, true_and, vrk_add, vrs_add, vsy_add, ek, ez]
        by_cases e : r = vR v
        · subst e
          simp only [if_true]
          refine ⟨trivial, trivial, fun t ht => ?_⟩
          by_cases t0 : t = 0
          · subst t0
            rw [if_neg (by omega), if_neg (by omega), if_pos (by omega), if_pos rfl]
            exact (symI_N w1 w2 (y0 (by omega))).1
          · by_cases t1 : t = 1
            · subst t1
              rw [if_neg (by omega), if_pos rfl, if_neg (by omega), if_pos rfl]
              exact (symI_N w1 w2 (y1 (by omega))).1
            · rw [if_pos (by omega), if_neg t0, if_neg t1]
              exact (symI_N w1 w2 (y2 (by omega))).1
        · simp only [e, if_false]
          have h6 := g6 r (by omega)
          have h5 := w5 r (by omega)
          refine ⟨h6.1, h6.2.1, fun t ht => ?_⟩
          rw [if_neg (by omega), if_neg (by omega), if_neg (by omega)]
          exact h6.2.2 t ht
    · simp (disch := omega) only [Int32.lt_iff_toInt_lt, Int32.le_iff_toInt_le, ← Int32.toInt_inj, nI_toInt, Int32.reduceToInt, n_m1, ne_eq, not_true_eq_false, not_false_eq_true] at h
      omega
  have bad : ¬ addOK v k sz s0 s1 s2 → P (some (.int (-1))) A := hP2
  by_cases hk : ¬ ∃ k' : Nat, k = nI k' ∧ k' < vK v
  · have b1 := bad (fun q => hk q.1)
    simp only [k_X4_appendRule_0, k_X4_appendRule_21, k_X4_appendRule_63, f_X4_renumber, w_R, w_RI, x_aload, x_cv0, x_cv1, x_dup, x_getF, x_getI, x_iadd, x_iast, x_icmp_ge, x_icmp_le, x_icmp_lt, x_if_eq, x_if_le, x_if_lt, x_if_ne, x_iload, x_imul, x_iret, x_push, x_putI, xFT, xbool0, xbool1, Nat.reduceAdd, Nat.zero_add, xgl_0, xgl_s, xgl_n, xst_0, xst_1n, xst_1i, xst_1r, xst_1l, xst_s, set_0, set_s, true_and, and_true, xres, xcat_nil, xcat_i, xcat_r, xcat_l, Nat.add_zero, xble0, xble1, xble2, xble3, xble4, xble5, xble6, xble7, xble8, m1, k1]
    refine ⟨fun _ => b1, fun a1 => ⟨fun _ => b1, fun a2 => ?_⟩⟩
    obtain ⟨k', hk0, rfl⟩ := nI_of a1
    simp (disch := omega) only [Int32.lt_iff_toInt_lt, Int32.le_iff_toInt_le, ← Int32.toInt_inj, nI_toInt, Int32.reduceToInt, n_m1, ne_eq, not_true_eq_false, not_false_eq_true] at a2
    exact absurd ⟨k', rfl, by omega⟩ hk
  by_cases hz : ¬ ∃ z : Nat, sz = nI z ∧ z ≤ 3
  · have b1 := bad (fun q => hz (by obtain ⟨-, z, h1, h2, -⟩ := q; exact ⟨z, h1, h2⟩))
    simp only [k_X4_appendRule_0, k_X4_appendRule_21, k_X4_appendRule_63, f_X4_renumber, w_R, w_RI, x_aload, x_cv0, x_cv1, x_dup, x_getF, x_getI, x_iadd, x_iast, x_icmp_ge, x_icmp_le, x_icmp_lt, x_if_eq, x_if_le, x_if_lt, x_if_ne, x_iload, x_imul, x_iret, x_push, x_putI, xFT, xbool0, xbool1, Nat.reduceAdd, Nat.zero_add, xgl_0, xgl_s, xgl_n, xst_0, xst_1n, xst_1i, xst_1r, xst_1l, xst_s, set_0, set_s, true_and, and_true, xres, xcat_nil, xcat_i, xcat_r, xcat_l, Nat.add_zero, xble0, xble1, xble2, xble3, xble4, xble5, xble6, xble7, xble8, m1, k1]
    refine ⟨fun _ => b1, fun a1 => ⟨fun _ => b1, fun a2 => ⟨fun _ => b1, fun a3 => ⟨fun a4 => ?_, fun _ => b1⟩⟩⟩⟩
    obtain ⟨z, hz0, rfl⟩ := nI_of a3
    simp (disch := omega) only [Int32.lt_iff_toInt_lt, Int32.le_iff_toInt_le, ← Int32.toInt_inj, nI_toInt, Int32.reduceToInt, n_m1, ne_eq, not_true_eq_false, not_false_eq_true] at a4
    exact absurd ⟨z, rfl, by omega⟩ hz
  obtain ⟨k', rfl, hk'⟩ := Classical.not_not.mp hk
  obtain ⟨z, rfl, hzz⟩ := Classical.not_not.mp hz
  clear hz
  have hz := hzz
  have ok : (0 < z → symI v s0) → (1 < z → symI v s1) → (2 < z → symI v s2) → addOK v (nI k') (nI z) s0 s1 s2 := fun y0 y1 y2 => ⟨⟨k', rfl, hk'⟩, ⟨z, rfl, hz, y0, y1, y2⟩⟩
  have nok : (0 < z ∧ ¬ symI v s0) ∨ (1 < z ∧ ¬ symI v s1) ∨ (2 < z ∧ ¬ symI v s2) → ¬ addOK v (nI k') (nI z) s0 s1 s2 := by
    rintro h ⟨-, ⟨z2, e2, hz2, h0, h1, h2⟩⟩
    simp (disch := omega) only [Int32.lt_iff_toInt_lt, Int32.le_iff_toInt_le, ← Int32.toInt_inj, nI_toInt, Int32.reduceToInt, n_m1, ne_eq, not_true_eq_false, not_false_eq_true] at e2
    have : z2 = z := by omega
    subst this
    rcases h with ⟨a, c⟩ | ⟨a, c⟩ | ⟨a, c⟩
    · exact c (h0 a)
    · exact c (h1 a)
    · exact c (h2 a)
  have k49 : (0 < z → symI v s0) → (1 < z → symI v s1) → k_X4_appendRule_49 P [some (.ref b), some (.int (nI k')), some (.int (nI z)), some (.int s0), some (.int s1), some (.int s2)] [] A := by
    intro y0 y1
    simp only [k_X4_appendRule_0, k_X4_appendRule_21, k_X4_appendRule_35, k_X4_appendRule_49, k_X4_appendRule_63, f_X4_renumber, w_R, w_RI, x_aload, x_cv0, x_cv1, x_dup, x_getF, x_getI, x_iadd, x_iast, x_icmp_ge, x_icmp_le, x_icmp_lt, x_if_eq, x_if_le, x_if_lt, x_if_ne, x_iload, x_imul, x_iret, x_push, x_putI, xFT, xbool0, xbool1, Nat.reduceAdd, Nat.zero_add, xgl_0, xgl_s, xgl_n, xst_0, xst_1n, xst_1i, xst_1r, xst_1l, xst_s, set_0, set_s, true_and, and_true, xres, xcat_nil, xcat_i, xcat_r, xcat_l, Nat.add_zero, xble0, xble1, xble2, xble3, xble4, xble5, xble6, xble7, xble8, m1]
    refine ⟨fun h => ?_, fun h => ?_⟩
    · simp (disch := omega) only [Int32.lt_iff_toInt_lt, Int32.le_iff_toInt_le, ← Int32.toInt_inj, nI_toInt, Int32.reduceToInt, n_m1, ne_eq, not_true_eq_false, not_false_eq_true] at h
      exact key (ok y0 y1 (fun q => by omega))
    · simp (disch := omega) only [Int32.lt_iff_toInt_lt, Int32.le_iff_toInt_le, ← Int32.toInt_inj, nI_toInt, Int32.reduceToInt, n_m1, ne_eq, not_true_eq_false, not_false_eq_true] at h
      refine isSym_spec hM0 (fun y2 => ⟨fun _ => key (ok y0 y1 (fun _ => y2)), fun e => absurd e (by decide)⟩) (fun y2 => ⟨fun e => absurd rfl e, fun _ => bad (nok (Or.inr (Or.inr ⟨by omega, y2⟩)))⟩)
  have k35 : (0 < z → symI v s0) → k_X4_appendRule_35 P [some (.ref b), some (.int (nI k')), some (.int (nI z)), some (.int s0), some (.int s1), some (.int s2)] [] A := by
    intro y0
    simp only [k_X4_appendRule_0, k_X4_appendRule_21, k_X4_appendRule_35, k_X4_appendRule_63, f_X4_renumber, w_R, w_RI, x_aload, x_cv0, x_cv1, x_dup, x_getF, x_getI, x_iadd, x_iast, x_icmp_ge, x_icmp_le, x_icmp_lt, x_if_eq, x_if_le, x_if_lt, x_if_ne, x_iload, x_imul, x_iret, x_push, x_putI, xFT, xbool0, xbool1, Nat.reduceAdd, Nat.zero_add, xgl_0, xgl_s, xgl_n, xst_0, xst_1n, xst_1i, xst_1r, xst_1l, xst_s, set_0, set_s, true_and, and_true, xres, xcat_nil, xcat_i, xcat_r, xcat_l, Nat.add_zero, xble0, xble1, xble2, xble3, xble4, xble5, xble6, xble7, xble8, m1]
    refine ⟨fun h => ?_, fun h => ?_⟩
    · simp (disch := omega) only [Int32.lt_iff_toInt_lt, Int32.le_iff_toInt_le, ← Int32.toInt_inj, nI_toInt, Int32.reduceToInt, n_m1, ne_eq, not_true_eq_false, not_false_eq_true] at h
      exact k49 y0 (fun q => by omega)
    · simp (disch := omega) only [Int32.lt_iff_toInt_lt, Int32.le_iff_toInt_le, ← Int32.toInt_inj, nI_toInt, Int32.reduceToInt, n_m1, ne_eq, not_true_eq_false, not_false_eq_true] at h
      refine isSym_spec hM0 (fun y1 => ⟨fun e => absurd e (by decide), fun _ => k49 y0 (fun _ => y1)⟩) (fun y1 => ⟨fun _ => bad (nok (Or.inr (Or.inl ⟨by omega, y1⟩))), fun e => absurd rfl e⟩)
  simp only [k_X4_appendRule_0, k_X4_appendRule_21, k_X4_appendRule_63, f_X4_renumber, w_R, w_RI, x_aload, x_cv0, x_cv1, x_dup, x_getF, x_getI, x_iadd, x_iast, x_icmp_ge, x_icmp_le, x_icmp_lt, x_if_eq, x_if_le, x_if_lt, x_if_ne, x_iload, x_imul, x_iret, x_push, x_putI, xFT, xbool0, xbool1, Nat.reduceAdd, Nat.zero_add, xgl_0, xgl_s, xgl_n, xst_0, xst_1n, xst_1i, xst_1r, xst_1l, xst_s, set_0, set_s, true_and, and_true, xres, xcat_nil, xcat_i, xcat_r, xcat_l, Nat.add_zero, xble0, xble1, xble2, xble3, xble4, xble5, xble6, xble7, xble8, m1, k1]
  refine ⟨fun h => absurd h (nI_pos (by omega)), fun _ => ⟨fun h => ?_, fun _ => ⟨fun h => absurd h (nI_pos (by omega)), fun _ => ⟨fun _ => ⟨fun h => ?_, fun h => ?_⟩, fun h => ?_⟩⟩⟩⟩
  · simp (disch := omega) only [Int32.lt_iff_toInt_lt, Int32.le_iff_toInt_le, ← Int32.toInt_inj, nI_toInt, Int32.reduceToInt, n_m1, ne_eq, not_true_eq_false, not_false_eq_true] at h
    omega
  · simp (disch := omega) only [Int32.lt_iff_toInt_lt, Int32.le_iff_toInt_le, ← Int32.toInt_inj, nI_toInt, Int32.reduceToInt, n_m1, ne_eq, not_true_eq_false, not_false_eq_true] at h
    exact k35 (fun q => by omega)
  · simp (disch := omega) only [Int32.lt_iff_toInt_lt, Int32.le_iff_toInt_le, ← Int32.toInt_inj, nI_toInt, Int32.reduceToInt, n_m1, ne_eq, not_true_eq_false, not_false_eq_true] at h
    refine isSym_spec hM0 (fun y0 => ⟨fun e => absurd e (by decide), fun _ => k35 (fun _ => y0)⟩) (fun y0 => ⟨fun _ => bad (nok (Or.inl ⟨by omega, y0⟩)), fun e => absurd rfl e⟩)
  · simp (disch := omega) only [Int32.lt_iff_toInt_lt, Int32.le_iff_toInt_le, ← Int32.toInt_inj, nI_toInt, Int32.reduceToInt, n_m1, ne_eq, not_true_eq_false, not_false_eq_true] at h
    omega
/-- a rule less -/
def vdrop (v : xV) (r : Nat) : xV := ((vS v, vK v, vR v - 1, vD v), vsn v, vkn v, (fun q => if q < r then vrk v q else vrk v (q + 1)), (fun q => if q < r then vrs v q else vrs v (q + 1)), (fun q t => if q < r then vsy v q t else vsy v (q + 1) t), fun i => i)
def f_X4_removeRule (b : Nat) (x : Int32) (A : xH) (P : xP) : Prop := ∃ v, isM A b v ∧ (∀ r : Nat, x = nI r → r < vR v → ∀ B, isM B b (vdrop v r) → xoff A B b (b + 9) → P (some (.int 0)) B) ∧ ((¬ ∃ r : Nat, x = nI r ∧ r < vR v) → P (some (.int (-1))) A)
theorem con_X4_removeRule (l : Launch) : xCon l yX4_removeRule cX4_removeRule 4 (some .int) 1 22 xN xN 0 xFT xFT (w_RI f_X4_removeRule) := by
  refine m_X4_removeRule
    (I18 := fun b x A P μ L st B => ∃ v r z o, isM A b v ∧ x = nI r ∧ r < vR v ∧ (∀ B, isM B b (vdrop v r) → xoff A B b (b + 9) → P (some (.int 0)) B) ∧ r < z ∧ z ≤ vR v ∧ st = [] ∧ xoff A B b (b + 9) ∧ (∀ j, xi B b j = xi A b j) ∧ (∀ j, xl B (b + 1) j = xl A (b + 1) j) ∧ (∀ j, xl B (b + 2) j = xl A (b + 2) j) ∧
      (∀ q, xi B (b + 3) q = if r ≤ q ∧ q + 1 < z then xi A (b + 3) (q + 1) else xi A (b + 3) q) ∧ (∀ q, xi B (b + 4) q = if r ≤ q ∧ q + 1 < z then xi A (b + 4) (q + 1) else xi A (b + 4) q) ∧
      (∀ q, xi B (b + 6) q = if r * 3 ≤ q ∧ q + 3 < z * 3 then xi A (b + 6) (q + 3) else xi A (b + 6) q) ∧
      L = [some (.ref b), some (.int (nI r)), some (.int (nI z)), o] ∧ μ = (vR v - z, 5, 0))
    (I56 := fun b x A P μ L st B => ∃ v r z t, isM A b v ∧ x = nI r ∧ r < vR v ∧ (∀ B, isM B b (vdrop v r) → xoff A B b (b + 9) → P (some (.int 0)) B) ∧ r < z ∧ z < vR v ∧ t ≤ 3 ∧ st = [] ∧ xoff A B b (b + 9) ∧ (∀ j, xi B b j = xi A b j) ∧ (∀ j, xl B (b + 1) j = xl A (b + 1) j) ∧ (∀ j, xl B (b + 2) j = xl A (b + 2) j) ∧
      (∀ q, xi B (b + 3) q = if r ≤ q ∧ q < z then xi A (b + 3) (q + 1) else xi A (b + 3) q) ∧ (∀ q, xi B (b + 4) q = if r ≤ q ∧ q < z then xi A (b + 4) (q + 1) else xi A (b + 4) q) ∧
      (∀ q, xi B (b + 6) q = if r * 3 ≤ q ∧ q + 3 < z * 3 + t then xi A (b + 6) (q + 3) else xi A (b + 6) q) ∧
      L = [some (.ref b), some (.int (nI r)), some (.int (nI z)), some (.int (nI t))] ∧ μ = (vR v - z, 3 - t, 0)) ?_ ?_ ?_
  · rintro b x A P ⟨v, hM, hP, hP2⟩
    have hM0 := hM
    obtain ⟨⟨⟨m1, -⟩, ⟨w1, w2, w3, w4, w5⟩, ⟨k0, k1, k2, k4⟩, g4, g5, g6⟩, -⟩ := hM
    simp only [k_X4_removeRule_0, k_X4_removeRule_18, k_X4_removeRule_56, k_X4_removeRule_12, f_X4_renumber, w_R, x_aload, x_cv0, x_dup, x_getF, x_getI, x_iadd, x_iald, x_iast, x_icmp_ge, x_icmp_lt, x_if_lt, x_iinc, x_iload, x_imul, x_iret, x_istore, x_isub, x_push, x_putI, xFT, xbool0, xbool1, Nat.reduceAdd, Nat.zero_add, xgl_0, xgl_s, xgl_n, xst_0, xst_1n, xst_1i, xst_1r, xst_1l, xst_s, set_0, set_s, true_and, and_true, xres, xcat_nil, xcat_i, xcat_r, xcat_l, Nat.add_zero, xble0, xble1, xble2, xble3, xble4, xble5, xble6, xble7, xble8, m1, k2]
    refine ⟨fun h => hP2 ?_, fun h1 => ⟨fun h2 => ?_, fun h => hP2 ?_⟩⟩
    · rintro ⟨r, rfl, hr⟩
      exact nI_pos (by omega) h
    · obtain ⟨r, hr, rfl⟩ := nI_of h1
      simp (disch := omega) only [Int32.lt_iff_toInt_lt, Int32.le_iff_toInt_le, ← Int32.toInt_inj, nI_toInt, Int32.reduceToInt, n_m1, ne_eq, not_true_eq_false, not_false_eq_true] at h2
      have h2 : r < vR v := by omega
      rw [show (1 : Int32) = nI 1 from rfl, nI_add]
      refine xE0 (vR v - (r + 1), 5, 0) ⟨v, r, r + 1, none, hM0, rfl, h2, hP r rfl h2, by omega, by omega, rfl, xoff_rf, fun _ => rfl, fun _ => rfl, fun _ => rfl, fun q => ?_, fun q => ?_, fun q => ?_, rfl, rfl⟩
      · rw [if_neg (by omega)]
      · rw [if_neg (by omega)]
      · rw [if_neg (by omega)]
    · rintro ⟨r, rfl, hr⟩
      simp (disch := omega) only [Int32.lt_iff_toInt_lt, Int32.le_iff_toInt_le, ← Int32.toInt_inj, nI_toInt, Int32.reduceToInt, n_m1, ne_eq, not_true_eq_false, not_false_eq_true] at h
      omega
  · rintro b x A P - μ L st B ⟨v, r, z, o, hM, rfl, hr, hP, z1, z2, rfl, hf, e0, el1, el2, e3, e4, e6, rfl, rfl⟩
    have hM0 := hM
    obtain ⟨⟨⟨m1, ⟨-, -, l7, l8, -, l10, -⟩, ⟨-, -, t7, t8, -, t10, -⟩, ⟨-, -, s7, s8, -, s10, -⟩, -⟩, ⟨w1, w2, w3, w4, w5⟩, ⟨k0, k1, k2, k4⟩, g4, g5, g6⟩, -⟩ := hM
    simp only [k_X4_removeRule_0, k_X4_removeRule_18, k_X4_removeRule_56, k_X4_removeRule_12, f_X4_renumber, w_R, x_aload, x_cv0, x_dup, x_getF, x_getI, x_iadd, x_iald, x_iast, x_icmp_ge, x_icmp_lt, x_if_lt, x_iinc, x_iload, x_imul, x_iret, x_istore, x_isub, x_push, x_putI, xFT, xbool0, xbool1, Nat.reduceAdd, Nat.zero_add, xgl_0, xgl_s, xgl_n, xst_0, xst_1n, xst_1i, xst_1r, xst_1l, xst_s, set_0, set_s, true_and, and_true, xres, xcat_nil, xcat_i, xcat_r, xcat_l, Nat.add_zero, xble0, xble1, xble2, xble3, xble4, xble5, xble6, xble7, xble8, m1, l7, l8, t7, t8, s7, s8, e0, k2, f_X4_renumber, xi_si, show ¬ b + 4 = b + 3 by omega, false_and, if_false, show (1 : Int32) = nI 1 from rfl]
    refine ⟨fun h => ?_, fun h => ?_⟩
    · simp (disch := omega) only [Int32.lt_iff_toInt_lt, Int32.le_iff_toInt_le, ← Int32.toInt_inj, nI_toInt, Int32.reduceToInt, n_m1, ne_eq, not_true_eq_false, not_false_eq_true] at h
      have hz : z = vR v := by omega
      subst hz
      rw [n_sub (by omega)]
      refine ⟨vdrop v r, ⟨hM0.1.1, ⟨w1, w2, ?_, w4, ?_⟩, ⟨?_, ?_, ?_, ?_⟩, fun j hj => ?_, fun j hj => ?_, ?_⟩, fun C hC hf2 => hP C hC (xoff_tr (xoff_si hf (by omega) (by omega)) hf2)⟩
      · show vR v - 1 ≤ 10; omega
      · intro q hq
        change q < vR v - 1 at hq
        show (if q < r then vrk v q else vrk v (q + 1)) < vK v ∧ (if q < r then vrs v q else vrs v (q + 1)) ≤ 3 ∧ ∀ t, t < (if q < r then vrs v q else vrs v (q + 1)) → (if q < r then vsy v q t else vsy v (q + 1) t) < vS v ∨ (8 ≤ (if q < r then vsy v q t else vsy v (q + 1) t) ∧ (if q < r then vsy v q t else vsy v (q + 1) t) < 8 + vK v)
        by_cases e : q < r
        · simp only [if_pos e]; exact w5 q (by omega)
        · simp only [if_neg e]; exact w5 (q + 1) (by omega)
      · rw [xi_si, if_neg (by omega), e0, k0]; rfl
      · rw [xi_si, if_neg (by omega), e0, k1]; rfl
      · rw [xi_si, if_pos ⟨rfl, rfl⟩]; rfl
      · rw [xi_si, if_neg (by omega), e0, k4]; rfl
      · rw [xl_si, el1]; exact g4 j hj
      · rw [xl_si, el2]; exact g5 j hj
      · intro q hq
        change q < vR v - 1 at hq
        rw [xi_si, if_neg (by omega), xi_si, if_neg (by omega), e3, e4]
        show _ = nI (if q < r then vrk v q else vrk v (q + 1)) ∧ _ = nI (if q < r then vrs v q else vrs v (q + 1)) ∧ ∀ t, t < (if q < r then vrs v q else vrs v (q + 1)) → _ = nI (if q < r then vsy v q t else vsy v (q + 1) t)
        by_cases e : q < r
        · have h6 := g6 q (by omega)
          have h5 := w5 q (by omega)
          simp only [if_pos e]
          rw [if_neg (by omega), if_neg (by omega)]
          refine ⟨h6.1, h6.2.1, fun t ht => ?_⟩
          rw [xi_si, if_neg (by omega), e6, if_neg (by omega)]
          exact h6.2.2 t ht
        · have h6 := g6 (q + 1) (by omega)
          have h5 := w5 (q + 1) (by omega)
          simp only [if_neg e]
          rw [if_pos (by omega), if_pos (by omega)]
          refine ⟨h6.1, h6.2.1, fun t ht => ?_⟩
          rw [xi_si, if_neg (by omega), e6, if_pos (by omega), ← h6.2.2 t ht]
          congr 1
          omega
    · simp (disch := omega) only [Int32.lt_iff_toInt_lt, Int32.le_iff_toInt_le, ← Int32.toInt_inj, nI_toInt, Int32.reduceToInt, n_m1, ne_eq, not_true_eq_false, not_false_eq_true] at h
      have hz : z < vR v := by omega
      rw [n_sub (by omega), n_cl (by omega), n_cl (by omega)]
      have i1 := (n_in (j := z) (n := 10) (by omega) (by omega)).mpr (by omega)
      have i2 := (n_in (j := z - 1) (n := 10) (by omega) (by omega)).mpr (by omega)
      refine ⟨i1, i2, i1, i2, xB2 (c := 3 - 0) (by omega) ⟨v, r, z, 0, hM0, rfl, hr, hP, z1, hz, by omega, rfl, xoff_si (xoff_si hf (by omega) (by omega)) (by omega) (by omega), fun j => ?_, el1, el2, fun q => ?_, fun q => ?_, fun q => ?_, rfl, rfl⟩⟩
      · rw [xi_si, if_neg (by omega), xi_si, if_neg (by omega)]; exact e0 j
      · rw [xi_si, if_neg (by omega), xi_si]
        by_cases e : q = z - 1
        · subst e
          rw [if_pos ⟨rfl, rfl⟩, e3, if_neg (by omega), if_pos (by omega)]
          congr 1; omega
        · rw [if_neg (fun a => e a.2), e3]
          by_cases e2 : r ≤ q ∧ q < z
          · rw [if_pos e2, if_pos (by omega)]
          · rw [if_neg e2, if_neg (by omega)]
      · rw [xi_si]
        by_cases e : q = z - 1
        · subst e
          rw [if_pos ⟨rfl, rfl⟩, e4, if_neg (by omega), if_pos (by omega)]
          congr 1; omega
        · rw [if_neg (fun a => e a.2), xi_si, if_neg (by omega), e4]
          by_cases e2 : r ≤ q ∧ q < z
          · rw [if_pos e2, if_pos (by omega)]
          · rw [if_neg e2, if_neg (by omega)]
      · rw [xi_si, if_neg (by omega), xi_si, if_neg (by omega), e6]
        by_cases e2 : r * 3 ≤ q ∧ q + 3 < z * 3
        · rw [if_pos e2, if_pos (by omega)]
        · rw [if_neg e2, if_neg (by omega)]
  · rintro b x A P - μ L st B ⟨v, r, z, t, hM, rfl, hr, hP, z1, z2, ht, rfl, hf, e0, el1, el2, e3, e4, e6, rfl, rfl⟩
    have hM0 := hM
    obtain ⟨⟨⟨m1, ⟨-, -, l7, l8, -, l10, -⟩, ⟨-, -, t7, t8, -, t10, -⟩, ⟨-, -, s7, s8, -, s10, -⟩, -⟩, ⟨w1, w2, w3, w4, w5⟩, ⟨k0, k1, k2, k4⟩, g4, g5, g6⟩, -⟩ := hM
    simp only [k_X4_removeRule_0, k_X4_removeRule_18, k_X4_removeRule_56, k_X4_removeRule_12, f_X4_renumber, w_R, x_aload, x_cv0, x_dup, x_getF, x_getI, x_iadd, x_iald, x_iast, x_icmp_ge, x_icmp_lt, x_if_lt, x_iinc, x_iload, x_imul, x_iret, x_istore, x_isub, x_push, x_putI, xFT, xbool0, xbool1, Nat.reduceAdd, Nat.zero_add, xgl_0, xgl_s, xgl_n, xst_0, xst_1n, xst_1i, xst_1r, xst_1l, xst_s, set_0, set_s, true_and, and_true, xres, xcat_nil, xcat_i, xcat_r, xcat_l, Nat.add_zero, xble0, xble1, xble2, xble3, xble4, xble5, xble6, xble7, xble8, m1, l10, t10, s10, show (3 : Int32) = nI 3 from rfl, show (1 : Int32) = nI 1 from rfl]
    refine ⟨fun h => ?_, fun h => ?_⟩
    · simp (disch := omega) only [Int32.lt_iff_toInt_lt, Int32.le_iff_toInt_le, ← Int32.toInt_inj, nI_toInt, Int32.reduceToInt, n_m1, ne_eq, not_true_eq_false, not_false_eq_true] at h
      have : t = 3 := by omega
      subst this
      refine xB1 (b := vR v - (z + 1)) (by omega) ⟨v, r, z + 1, some (.int (nI 3)), hM0, rfl, hr, hP, by omega, by omega, rfl, hf, e0, el1, el2, fun q => ?_, fun q => ?_, fun q => ?_, by rw [nI_add], rfl⟩
      · rw [e3]
        by_cases e2 : r ≤ q ∧ q < z
        · rw [if_pos e2, if_pos (by omega)]
        · rw [if_neg e2, if_neg (by omega)]
      · rw [e4]
        by_cases e2 : r ≤ q ∧ q < z
        · rw [if_pos e2, if_pos (by omega)]
        · rw [if_neg e2, if_neg (by omega)]
      · rw [e6]
        by_cases e2 : r * 3 ≤ q ∧ q + 3 < z * 3 + 3
        · rw [if_pos e2, if_pos (by omega)]
        · rw [if_neg e2, if_neg (by omega)]
    · simp (disch := omega) only [Int32.lt_iff_toInt_lt, Int32.le_iff_toInt_le, ← Int32.toInt_inj, nI_toInt, Int32.reduceToInt, n_m1, ne_eq, not_true_eq_false, not_false_eq_true] at h
      rw [n_sub (by omega), pk_mul, pk_mul, nI_add, nI_add, n_cl (by omega), n_cl (by omega), nI_add]
      refine ⟨(n_in (by omega) (by omega)).mpr (by omega), (n_in (by omega) (by omega)).mpr (by omega), xB2 (c := 3 - (t + 1)) (by omega) ⟨v, r, z, t + 1, hM0, rfl, hr, hP, z1, z2, by omega, rfl, xoff_si hf (by omega) (by omega), fun j => ?_, el1, el2, fun q => ?_, fun q => ?_, fun q => ?_, rfl, rfl⟩⟩
      · rw [xi_si, if_neg (by omega)]; exact e0 j
      · rw [xi_si, if_neg (by omega)]; exact e3 q
      · rw [xi_si, if_neg (by omega)]; exact e4 q
      · rw [xi_si]
        by_cases e : q = (z - 1) * 3 + t
        · subst e
          rw [if_pos ⟨rfl, rfl⟩, e6, if_neg (by omega), if_pos (by omega)]
          congr 1; omega
        · rw [if_neg (fun a => e a.2), e6]
          by_cases e2 : r * 3 ≤ q ∧ q + 3 < z * 3 + t
          · rw [if_pos e2, if_pos (by omega)]
          · rw [if_neg e2, if_neg (by omega)]
/-- the numbers of Model's cells apart -/
def f_X4_copyFrom (b o : Nat) (A : xH) (P : xP) : Prop := ∃ v, isM A o v ∧ xMod b ∧ (b + 10 ≤ o ∨ o + 10 ≤ b) ∧ ∀ B, isM B b v → xoff A B b (b + 9) → P none B
theorem xi_cpi {A : xH} {q d sp dp k c j : Nat} : xi (xcpi A q d sp dp k) c j = if c = d then va_cpy (xi A q) (xi A d) sp dp k j else xi A c j := rfl
theorem xl_cpi {A : xH} {q d sp dp k c j : Nat} : xl (xcpi A q d sp dp k) c j = xl A c j := rfl
theorem xi_cpl {A : xH} {q d sp dp k c j : Nat} : xi (xcpl A q d sp dp k) c j = xi A c j := rfl
theorem xl_cpl {A : xH} {q d sp dp k c j : Nat} : xl (xcpl A q d sp dp k) c j = if c = d then va_cpy (xl A q) (xl A d) sp dp k j else xl A c j := rfl
theorem xoff_cpi {A B : xH} {lo hi q d sp dp k : Nat} (h : xoff A B lo hi) (h1 : lo ≤ d) (h2 : d ≤ hi) : xoff A (xcpi B q d sp dp k) lo hi := by
  refine ⟨fun c hc => ⟨?_, (h.1 c hc).2⟩, h.2⟩
  rw [← (h.1 c hc).1]
  funext j
  simp [xcpi, show c ≠ d by omega]
theorem xoff_cpl {A B : xH} {lo hi q d sp dp k : Nat} (h : xoff A B lo hi) (h1 : lo ≤ d) (h2 : d ≤ hi) : xoff A (xcpl B q d sp dp k) lo hi := by
  refine ⟨fun c hc => ⟨(h.1 c hc).1, ?_⟩, h.2⟩
  rw [← (h.1 c hc).2]
  funext j
  simp [xcpl, show c ≠ d by omega]
theorem cpy0 {α : Type} {f g : Nat → α} {n j : Nat} (h : j < n) : va_cpy f g 0 0 n j = f j := by
  unfold va_cpy
  rw [if_pos (by omega)]
  congr 1
  omega
theorem cpi_ne {A : xH} {q d sp dp k c j : Nat} (h : c ≠ d) : xi (xcpi A q d sp dp k) c j = xi A c j := by rw [xi_cpi, if_neg h]
theorem cpi_eq {A : xH} {q d k j : Nat} (h : j < k) : xi (xcpi A q d 0 0 k) d j = xi A q j := by rw [xi_cpi, if_pos rfl, cpy0 h]
theorem cpl_ne {A : xH} {q d sp dp k c j : Nat} (h : c ≠ d) : xl (xcpl A q d sp dp k) c j = xl A c j := by rw [xl_cpl, if_neg h]
theorem cpl_eq {A : xH} {q d k j : Nat} (h : j < k) : xl (xcpl A q d 0 0 k) d j = xl A q j := by rw [xl_cpl, if_pos rfl, cpy0 h]
theorem si_ne {A : xH} {c k d j : Nat} {x : Int32} (h : d ≠ c ∨ j ≠ k) : xi (xsi A c k x) d j = xi A d j := by rw [xi_si, if_neg (by omega)]
theorem si_eq {A : xH} {c k : Nat} {x : Int32} : xi (xsi A c k x) c k = x := by rw [xi_si, if_pos ⟨rfl, rfl⟩]
set_option maxRecDepth 20000 in
set_option maxHeartbeats 1000000 in
theorem con_X4_copyFrom (l : Launch) : xCon l yX4_copyFrom cX4_copyFrom 2 none 1 100 xN xN 0 xFT xFT (w_RR f_X4_copyFrom) := by
  refine m_X4_copyFrom ?_
  rintro b o A P ⟨v, hM, hMb, hd, hP⟩
  have hM0 := hM
  obtain ⟨⟨⟨m1, ⟨l5, l6, l7, l8, l9, l10, l11, l12, l13⟩, ⟨t5, t6, t7, t8, t9, t10, t11, t12, t13⟩, ⟨s5, s6, s7, s8, s9, s10, s11, s12, s13⟩, -⟩, ⟨w1, w2, w3, w4, w5⟩, ⟨k0, k1, k2, k4⟩, g4, g5, g6⟩, hc, ⟨i1, i2, i3, i4⟩, hg⟩ := hM
  obtain ⟨n1, ⟨a5, a6, a7, a8, a9, a10, a11, a12, a13⟩, ⟨u5, u6, u7, u8, u9, u10, u11, u12, u13⟩, ⟨z5, z6, z7, z8, z9, z10, z11, z12, z13⟩, zb⟩ := hMb
  simp only [k_X4_copyFrom_0, x_alen, x_aload, x_copyi, x_copyl, x_getF, x_getI, x_push, x_putI, x_vret, xFT, xbool0, xbool1, Nat.reduceAdd, Nat.zero_add, xgl_0, xgl_s, xgl_n, xst_0, xst_1n, xst_1i, xst_1r, xst_1l, xst_s, set_0, set_s, true_and, and_true, xres, xcat_nil, xcat_i, xcat_r, xcat_l, Nat.add_zero, xble0, xble1, xble2, xble3, xble4, xble5, xble6, xble7, xble8, m1, n1, l5, l6, l7, l8, l9, l10, l11, l12, l13, a5, a6, a7, a8, a9, a10, a11, a12, a13, xcpOK, t5, t6, t7, t8, t9, t10, t11, t12, t13, u5, u6, u7, u8, u9, u10, u11, u12, u13, s5, s6, s7, s8, s9, s10, s11, s12, s13, z5, z6, z7, z8, z9, z10, z11, z12, z13]
  refine ⟨by decide +kernel, by decide +kernel, ⟨by decide +kernel, by decide +kernel, by decide +kernel, by decide +kernel, by decide +kernel⟩, by decide +kernel, by decide +kernel, ⟨by decide +kernel, by decide +kernel, by decide +kernel, by decide +kernel, by decide +kernel⟩, by decide +kernel, by decide +kernel, ⟨by decide +kernel, by decide +kernel, by decide +kernel, by decide +kernel, by decide +kernel⟩, by decide +kernel, by decide +kernel, ⟨by decide +kernel, by decide +kernel, by decide +kernel, by decide +kernel, by decide +kernel⟩, by decide +kernel, by decide +kernel, ⟨by decide +kernel, by decide +kernel, by decide +kernel, by decide +kernel, by decide +kernel⟩, by decide +kernel, by decide +kernel, ⟨by decide +kernel, by decide +kernel, by decide +kernel, by decide +kernel, by decide +kernel⟩, by decide +kernel, by decide +kernel, ⟨by decide +kernel, by decide +kernel, by decide +kernel, by decide +kernel, by decide +kernel⟩, by decide +kernel, by decide +kernel, ⟨by decide +kernel, by decide +kernel, by decide +kernel, by decide +kernel, by decide +kernel⟩, by decide +kernel, by decide +kernel, ⟨by decide +kernel, by decide +kernel, by decide +kernel, by decide +kernel, by decide +kernel⟩, ?_⟩
  simp only [show Int32.toNatClampNeg 0 = 0 from rfl, show (Int32.ofNat 4).toNatClampNeg = 4 from by decide +kernel, show (Int32.ofNat 5).toNatClampNeg = 5 from by decide +kernel, show (Int32.ofNat 10).toNatClampNeg = 10 from by decide +kernel, show (Int32.ofNat 30).toNatClampNeg = 30 from by decide +kernel, show (Int32.ofNat 42).toNatClampNeg = 42 from by decide +kernel]
  refine hP _ ⟨⟨⟨n1, ⟨a5, a6, a7, a8, a9, a10, a11, a12, a13⟩, ⟨u5, u6, u7, u8, u9, u10, u11, u12, u13⟩, ⟨z5, z6, z7, z8, z9, z10, z11, z12, z13⟩, zb⟩, ⟨w1, w2, w3, w4, w5⟩, ⟨?_, ?_, ?_, ?_⟩, ?_, ?_, ?_⟩, hc, ⟨?_, ?_, ?_, ?_⟩, ?_⟩ ?_
  · simp (disch := omega) only [cpi_ne, cpi_eq, cpl_ne, cpl_eq, si_ne, si_eq, xi_cpl, xl_cpi, xl_si]; exact k0
  · simp (disch := omega) only [cpi_ne, cpi_eq, cpl_ne, cpl_eq, si_ne, si_eq, xi_cpl, xl_cpi, xl_si]; exact k1
  · simp (disch := omega) only [cpi_ne, cpi_eq, cpl_ne, cpl_eq, si_ne, si_eq, xi_cpl, xl_cpi, xl_si]; exact k2
  · simp (disch := omega) only [cpi_ne, cpi_eq, cpl_ne, cpl_eq, si_ne, si_eq, xi_cpl, xl_cpi, xl_si]; exact k4
  · intro j hj; simp (disch := omega) only [cpi_ne, cpi_eq, cpl_ne, cpl_eq, si_ne, si_eq, xi_cpl, xl_cpi, xl_si]; exact g4 j hj
  · intro j hj; simp (disch := omega) only [cpi_ne, cpi_eq, cpl_ne, cpl_eq, si_ne, si_eq, xi_cpl, xl_cpi, xl_si]; exact g5 j hj
  · intro r hr
    have h5 := w5 r hr
    have h6 := g6 r hr
    refine ⟨?_, ?_, fun t ht => ?_⟩
    · simp (disch := omega) only [cpi_ne, cpi_eq, cpl_ne, cpl_eq, si_ne, si_eq, xi_cpl, xl_cpi, xl_si]; exact h6.1
    · simp (disch := omega) only [cpi_ne, cpi_eq, cpl_ne, cpl_eq, si_ne, si_eq, xi_cpl, xl_cpi, xl_si]; exact h6.2.1
    · simp (disch := omega) only [cpi_ne, cpi_eq, cpl_ne, cpl_eq, si_ne, si_eq, xi_cpl, xl_cpi, xl_si]; exact h6.2.2 t ht
  · simp (disch := omega) only [cpi_ne, cpi_eq, cpl_ne, cpl_eq, si_ne, si_eq, xi_cpl, xl_cpi, xl_si]; exact i1
  · intro r hr; simp (disch := omega) only [cpi_ne, cpi_eq, cpl_ne, cpl_eq, si_ne, si_eq, xi_cpl, xl_cpi, xl_si]; exact i2 r hr
  · refine ⟨?_, ?_, ?_, ?_⟩
    · simp (disch := omega) only [cpi_ne, cpi_eq, cpl_ne, cpl_eq, si_ne, si_eq, xi_cpl, xl_cpi, xl_si]; exact i3.1
    · simp (disch := omega) only [cpi_ne, cpi_eq, cpl_ne, cpl_eq, si_ne, si_eq, xi_cpl, xl_cpi, xl_si]; exact i3.2.1
    · simp (disch := omega) only [cpi_ne, cpi_eq, cpl_ne, cpl_eq, si_ne, si_eq, xi_cpl, xl_cpi, xl_si]; exact i3.2.2.1
    · simp (disch := omega) only [cpi_ne, cpi_eq, cpl_ne, cpl_eq, si_ne, si_eq, xi_cpl, xl_cpi, xl_si]; exact i3.2.2.2
  · intro r hr d hd2
    have hN := isM_N hM0
    have hm := vfst_mono v hr
    have hlt : vfst v r + d < 42 := by
      have : vN v = vfst v (vR v) := rfl
      omega
    constructor
    · simp (disch := omega) only [cpi_ne, cpi_eq, cpl_ne, cpl_eq, si_ne, si_eq, xi_cpl, xl_cpi, xl_si]; exact (i4 r hr d hd2).1
    · simp (disch := omega) only [cpi_ne, cpi_eq, cpl_ne, cpl_eq, si_ne, si_eq, xi_cpl, xl_cpi, xl_si]; exact (i4 r hr d hd2).2
  · intro j hj; simp (disch := omega) only [cpi_ne, cpi_eq, cpl_ne, cpl_eq, si_ne, si_eq, xi_cpl, xl_cpi, xl_si]; exact hg j hj
  · exact xoff_cpi (xoff_cpi (xoff_cpi (xoff_cpi (xoff_cpi (xoff_cpi (xoff_cpi (xoff_cpl (xoff_cpl (xoff_si (xoff_si (xoff_si (xoff_si (xoff_si xoff_rf (by omega) (by omega)) (by omega) (by omega)) (by omega) (by omega)) (by omega) (by omega)) (by omega) (by omega)) (by omega) (by omega)) (by omega) (by omega)) (by omega) (by omega)) (by omega) (by omega)) (by omega) (by omega)) (by omega) (by omega)) (by omega) (by omega)) (by omega) (by omega)) (by omega) (by omega)

