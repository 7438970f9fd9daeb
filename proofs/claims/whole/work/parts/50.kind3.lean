theorem d_X3_learnBegins_0 : decode cX3_learnBegins 0 = .ok (.iconst 0, 1) := by decide +kernel
theorem d_X3_learnBegins_1 : decode cX3_learnBegins 1 = .ok (.istore_n 2, 1) := by decide +kernel
theorem d_X3_learnBegins_2 : decode cX3_learnBegins 2 = .ok (.iload_n 2, 1) := by decide +kernel
theorem d_X3_learnBegins_3 : decode cX3_learnBegins 3 = .ok (.bipush 64, 2) := by decide +kernel
theorem d_X3_learnBegins_5 : decode cX3_learnBegins 5 = .ok (.if_icmp .ge 94, 3) := by decide +kernel
theorem d_X3_learnBegins_8 : decode cX3_learnBegins 8 = .ok (.iconst 0, 1) := by decide +kernel
theorem d_X3_learnBegins_9 : decode cX3_learnBegins 9 = .ok (.istore_n 3, 1) := by decide +kernel
theorem d_X3_learnBegins_10 : decode cX3_learnBegins 10 = .ok (.iconst 0, 1) := by decide +kernel
theorem d_X3_learnBegins_11 : decode cX3_learnBegins 11 = .ok (.istore 4, 2) := by decide +kernel
theorem d_X3_learnBegins_13 : decode cX3_learnBegins 13 = .ok (.iload 4, 2) := by decide +kernel
theorem d_X3_learnBegins_15 : decode cX3_learnBegins 15 = .ok (.aload_n 1, 1) := by decide +kernel
theorem d_X3_learnBegins_16 : decode cX3_learnBegins 16 = .ok (.getfield 51, 3) := by decide +kernel
theorem d_X3_learnBegins_19 : decode cX3_learnBegins 19 = .ok (.if_icmp .ge 67, 3) := by decide +kernel
theorem d_X3_learnBegins_22 : decode cX3_learnBegins 22 = .ok (.aload_n 1, 1) := by decide +kernel
theorem d_X3_learnBegins_23 : decode cX3_learnBegins 23 = .ok (.getfield 60, 3) := by decide +kernel
theorem d_X3_learnBegins_26 : decode cX3_learnBegins 26 = .ok (.iload 4, 2) := by decide +kernel
theorem d_X3_learnBegins_28 : decode cX3_learnBegins 28 = .ok (.iaload, 1) := by decide +kernel
theorem d_X3_learnBegins_29 : decode cX3_learnBegins 29 = .ok (.istore 5, 2) := by decide +kernel
theorem d_X3_learnBegins_31 : decode cX3_learnBegins 31 = .ok (.aload_n 0, 1) := by decide +kernel
theorem d_X3_learnBegins_32 : decode cX3_learnBegins 32 = .ok (.getfield 9, 3) := by decide +kernel
theorem d_X3_learnBegins_35 : decode cX3_learnBegins 35 = .ok (.iload 5, 2) := by decide +kernel
theorem d_X3_learnBegins_37 : decode cX3_learnBegins 37 = .ok (.iaload, 1) := by decide +kernel
theorem d_X3_learnBegins_38 : decode cX3_learnBegins 38 = .ok (.aload_n 0, 1) := by decide +kernel
theorem d_X3_learnBegins_39 : decode cX3_learnBegins 39 = .ok (.aload_n 1, 1) := by decide +kernel
theorem d_X3_learnBegins_40 : decode cX3_learnBegins 40 = .ok (.iload 4, 2) := by decide +kernel
theorem d_X3_learnBegins_42 : decode cX3_learnBegins 42 = .ok (.iconst 0, 1) := by decide +kernel
theorem d_X3_learnBegins_43 : decode cX3_learnBegins 43 = .ok (.invokevirtual 80, 3) := by decide +kernel
theorem d_X3_learnBegins_46 : decode cX3_learnBegins 46 = .ok (.ior, 1) := by decide +kernel
theorem d_X3_learnBegins_47 : decode cX3_learnBegins 47 = .ok (.istore 6, 2) := by decide +kernel
theorem d_X3_learnBegins_49 : decode cX3_learnBegins 49 = .ok (.iload_n 3, 1) := by decide +kernel
theorem d_X3_learnBegins_50 : decode cX3_learnBegins 50 = .ok (.ifCond .ne 15, 3) := by decide +kernel
theorem d_X3_learnBegins_53 : decode cX3_learnBegins 53 = .ok (.iload 6, 2) := by decide +kernel
theorem d_X3_learnBegins_55 : decode cX3_learnBegins 55 = .ok (.aload_n 0, 1) := by decide +kernel
theorem d_X3_learnBegins_56 : decode cX3_learnBegins 56 = .ok (.getfield 9, 3) := by decide +kernel
theorem d_X3_learnBegins_59 : decode cX3_learnBegins 59 = .ok (.iload 5, 2) := by decide +kernel
theorem d_X3_learnBegins_61 : decode cX3_learnBegins 61 = .ok (.iaload, 1) := by decide +kernel
theorem d_X3_learnBegins_62 : decode cX3_learnBegins 62 = .ok (.if_icmp .eq 7, 3) := by decide +kernel
theorem d_X3_learnBegins_65 : decode cX3_learnBegins 65 = .ok (.iconst 1, 1) := by decide +kernel
theorem d_X3_learnBegins_66 : decode cX3_learnBegins 66 = .ok (.goto 4, 3) := by decide +kernel
theorem d_X3_learnBegins_69 : decode cX3_learnBegins 69 = .ok (.iconst 0, 1) := by decide +kernel
theorem d_X3_learnBegins_70 : decode cX3_learnBegins 70 = .ok (.istore_n 3, 1) := by decide +kernel
theorem d_X3_learnBegins_71 : decode cX3_learnBegins 71 = .ok (.aload_n 0, 1) := by decide +kernel
theorem d_X3_learnBegins_72 : decode cX3_learnBegins 72 = .ok (.getfield 9, 3) := by decide +kernel
theorem d_X3_learnBegins_75 : decode cX3_learnBegins 75 = .ok (.iload 5, 2) := by decide +kernel
theorem d_X3_learnBegins_77 : decode cX3_learnBegins 77 = .ok (.iload 6, 2) := by decide +kernel
theorem d_X3_learnBegins_79 : decode cX3_learnBegins 79 = .ok (.iastore, 1) := by decide +kernel
theorem d_X3_learnBegins_80 : decode cX3_learnBegins 80 = .ok (.iinc 4 1, 3) := by decide +kernel
theorem d_X3_learnBegins_83 : decode cX3_learnBegins 83 = .ok (.goto (-70), 3) := by decide +kernel
theorem d_X3_learnBegins_86 : decode cX3_learnBegins 86 = .ok (.iload_n 3, 1) := by decide +kernel
theorem d_X3_learnBegins_87 : decode cX3_learnBegins 87 = .ok (.ifCond .ne 6, 3) := by decide +kernel
theorem d_X3_learnBegins_90 : decode cX3_learnBegins 90 = .ok (.goto 9, 3) := by decide +kernel
theorem d_X3_learnBegins_93 : decode cX3_learnBegins 93 = .ok (.iinc 2 1, 3) := by decide +kernel
theorem d_X3_learnBegins_96 : decode cX3_learnBegins 96 = .ok (.goto (-94), 3) := by decide +kernel
theorem d_X3_learnBegins_99 : decode cX3_learnBegins 99 = .ok (.return_, 1) := by decide +kernel
def k_X3_learnBegins_0 (P : xP) (C2 : xK) : xK := x_push (.int 0) (x_istore 2 (C2))
set_option maxRecDepth 20000 in
theorem t_X3_learnBegins_0 {p : Program} {l : Launch} {e : Env} {s : State} {m : MethodId} {args : Array Value} {below : List Frame} {meth : Method} {c : Code} {g : xG} (X : xX p s m args c meth cX3_learnBegins RX3 7 g) (hr : meth.sig.returnType = none) {P : xP} {C2 : xK} (h2 : xAt p l e { frames := 2, cells := 0, slots := 0, locals := 48 } s m args below meth c g 7 xFT xN 0 0 (MQ below (xQc g xFT xN P) args s 0 0 (xFr g)) C2 2) : xAt p l e { frames := 2, cells := 0, slots := 0, locals := 48 } s m args below meth c g 7 xFT xN 0 0 (MQ below (xQc g xFT xN P) args s 0 0 (xFr g)) (k_X3_learnBegins_0 P C2) 0 := by
  unfold k_X3_learnBegins_0
  refine r_iconst (pc := 0) X d_X3_learnBegins_0 (by decide +kernel) ?_
  refine r_istore_n (pc := 1) X d_X3_learnBegins_1 fn2 (by decide +kernel) ?_
  exact h2
def k_X3_learnBegins_99 (P : xP) : xK := x_vret P
set_option maxRecDepth 20000 in
theorem t_X3_learnBegins_99 {p : Program} {l : Launch} {e : Env} {s : State} {m : MethodId} {args : Array Value} {below : List Frame} {meth : Method} {c : Code} {g : xG} (X : xX p s m args c meth cX3_learnBegins RX3 7 g) (hr : meth.sig.returnType = none) {P : xP} : xAt p l e { frames := 2, cells := 0, slots := 0, locals := 48 } s m args below meth c g 7 xFT xN 0 0 (MQ below (xQc g xFT xN P) args s 0 0 (xFr g)) (k_X3_learnBegins_99 P) 99 := by
  unfold k_X3_learnBegins_99
  exact r_vret (pc := 99) X hr d_X3_learnBegins_99
def k_X3_learnBegins_2 (P : xP) (C13 : xK) : xK := x_iload 2 (x_push (.int 64) (x_icmp_ge ((k_X3_learnBegins_99 P)) (x_push (.int 0) (x_istore 3 (x_push (.int 0) (x_istore 4 (C13)))))))
set_option maxRecDepth 20000 in
theorem t_X3_learnBegins_2 {p : Program} {l : Launch} {e : Env} {s : State} {m : MethodId} {args : Array Value} {below : List Frame} {meth : Method} {c : Code} {g : xG} (X : xX p s m args c meth cX3_learnBegins RX3 7 g) (hr : meth.sig.returnType = none) {P : xP} {C13 : xK} (h13 : xAt p l e { frames := 2, cells := 0, slots := 0, locals := 48 } s m args below meth c g 7 xFT xN 0 0 (MQ below (xQc g xFT xN P) args s 0 0 (xFr g)) C13 13) : xAt p l e { frames := 2, cells := 0, slots := 0, locals := 48 } s m args below meth c g 7 xFT xN 0 0 (MQ below (xQc g xFT xN P) args s 0 0 (xFr g)) (k_X3_learnBegins_2 P C13) 2 := by
  unfold k_X3_learnBegins_2
  refine r_iload_n (pc := 2) X d_X3_learnBegins_2 fn2 ?_
  refine r_bipush (pc := 3) X d_X3_learnBegins_3 (by decide +kernel) ?_
  refine r_icmp_ge (pc := 5) (tgt := 99) X d_X3_learnBegins_5 (by decide +kernel) ?_ ?_
  · exact t_X3_learnBegins_99 X hr
  · refine r_iconst (pc := 8) X d_X3_learnBegins_8 (by decide +kernel) ?_
    refine r_istore_n (pc := 9) X d_X3_learnBegins_9 fn3 (by decide +kernel) ?_
    refine r_iconst (pc := 10) X d_X3_learnBegins_10 (by decide +kernel) ?_
    refine r_istore (pc := 11) X d_X3_learnBegins_11 (by decide +kernel) ?_
    exact h13
def k_X3_learnBegins_70 (P : xP) (C13 : xK) : xK := x_istore 3 (x_aload 0 (y_getF 35 36 (x_iload 5 (x_iload 6 (y_iast 36 5 (x_iinc 4 1 (C13)))))))
set_option maxRecDepth 20000 in
theorem t_X3_learnBegins_70 {p : Program} {l : Launch} {e : Env} {s : State} {m : MethodId} {args : Array Value} {below : List Frame} {meth : Method} {c : Code} {g : xG} (X : xX p s m args c meth cX3_learnBegins RX3 7 g) (hr : meth.sig.returnType = none) {P : xP} {C13 : xK} (h13 : xAt p l e { frames := 2, cells := 0, slots := 0, locals := 48 } s m args below meth c g 7 xFT xN 0 0 (MQ below (xQc g xFT xN P) args s 0 0 (xFr g)) C13 13) : xAt p l e { frames := 2, cells := 0, slots := 0, locals := 48 } s m args below meth c g 7 xFT xN 0 0 (MQ below (xQc g xFT xN P) args s 0 0 (xFr g)) (k_X3_learnBegins_70 P C13) 70 := by
  unfold k_X3_learnBegins_70
  refine r_istore_n (pc := 70) X d_X3_learnBegins_70 fn3 (by decide +kernel) ?_
  refine r_aload_n (pc := 71) X d_X3_learnBegins_71 fn0 ?_
  refine s_getF (pc := 72) (ci := 3) (k := 4) X xok3 (by decide +kernel) ob_35 trivial ly_35_4 (by decide +kernel) fl_RX3_9 d_X3_learnBegins_72 ?_
  refine r_iload (pc := 75) X d_X3_learnBegins_75 ?_
  refine r_iload (pc := 77) X d_X3_learnBegins_77 ?_
  refine s_iast (pc := 79) X tn_36 ln_36 d_X3_learnBegins_79 ?_
  refine r_iinc (pc := 80) X d_X3_learnBegins_80 (by decide +kernel) (by decide +kernel) ?_
  refine r_goto (pc := 83) (tgt := 13) X d_X3_learnBegins_83 (by decide +kernel) ?_
  exact h13
def k_X3_learnBegins_65 (P : xP) (C13 : xK) : xK := x_push (.int 1) ((k_X3_learnBegins_70 P C13))
set_option maxRecDepth 20000 in
theorem t_X3_learnBegins_65 {p : Program} {l : Launch} {e : Env} {s : State} {m : MethodId} {args : Array Value} {below : List Frame} {meth : Method} {c : Code} {g : xG} (X : xX p s m args c meth cX3_learnBegins RX3 7 g) (hr : meth.sig.returnType = none) {P : xP} {C13 : xK} (h13 : xAt p l e { frames := 2, cells := 0, slots := 0, locals := 48 } s m args below meth c g 7 xFT xN 0 0 (MQ below (xQc g xFT xN P) args s 0 0 (xFr g)) C13 13) : xAt p l e { frames := 2, cells := 0, slots := 0, locals := 48 } s m args below meth c g 7 xFT xN 0 0 (MQ below (xQc g xFT xN P) args s 0 0 (xFr g)) (k_X3_learnBegins_65 P C13) 65 := by
  unfold k_X3_learnBegins_65
  refine r_iconst (pc := 65) X d_X3_learnBegins_65 (by decide +kernel) ?_
  refine r_goto (pc := 66) (tgt := 70) X d_X3_learnBegins_66 (by decide +kernel) ?_
  exact t_X3_learnBegins_70 X hr h13
def k_X3_learnBegins_13 (P : xP) (C2 : xK) (C13 : xK) : xK := x_iload 4 (x_aload 1 (x_getI xN 4 2 (x_icmp_ge (x_iload 3 (x_if_ne (x_iinc 2 1 (C2)) ((k_X3_learnBegins_99 P)))) (x_aload 1 (x_getF xN xFT 4 7 (x_iload 4 (x_iald xN (x_istore 5 (x_aload 0 (y_getF 35 36 (x_iload 5 (y_iald 36 5 (x_aload 0 (x_aload 1 (x_iload 4 (x_push (.int 0) (y_cv3 35 (w_RRII f_X3_beginsFrom) (x_ior (x_istore 6 (x_iload 3 (x_if_ne ((k_X3_learnBegins_65 P C13)) (x_iload 6 (x_aload 0 (y_getF 35 36 (x_iload 5 (y_iald 36 5 (x_icmp_eq (x_push (.int 0) ((k_X3_learnBegins_70 P C13))) ((k_X3_learnBegins_65 P C13)))))))))))))))))))))))))))))
set_option maxRecDepth 20000 in
theorem t_X3_learnBegins_13 {p : Program} {l : Launch} {e : Env} {s : State} {m : MethodId} {args : Array Value} {below : List Frame} {meth : Method} {c : Code} {g : xG} (X : xX p s m args c meth cX3_learnBegins RX3 7 g) (hr : meth.sig.returnType = none) {P : xP} {C2 : xK} {C13 : xK} (h2 : xAt p l e { frames := 2, cells := 0, slots := 0, locals := 48 } s m args below meth c g 7 xFT xN 0 0 (MQ below (xQc g xFT xN P) args s 0 0 (xFr g)) C2 2) (h13 : xAt p l e { frames := 2, cells := 0, slots := 0, locals := 48 } s m args below meth c g 7 xFT xN 0 0 (MQ below (xQc g xFT xN P) args s 0 0 (xFr g)) C13 13) : xAt p l e { frames := 2, cells := 0, slots := 0, locals := 48 } s m args below meth c g 7 xFT xN 0 0 (MQ below (xQc g xFT xN P) args s 0 0 (xFr g)) (k_X3_learnBegins_13 P C2 C13) 13 := by
  unfold k_X3_learnBegins_13
  refine r_iload (pc := 13) X d_X3_learnBegins_13 ?_
  refine r_aload_n (pc := 15) X d_X3_learnBegins_15 fn1 ?_
  refine r_getI (pc := 16) X xok4 (by decide +kernel) (by decide +kernel) fl_RX3_51 d_X3_learnBegins_16 ?_
  refine r_icmp_ge (pc := 19) (tgt := 86) X d_X3_learnBegins_19 (by decide +kernel) ?_ ?_
  · refine r_iload_n (pc := 86) X d_X3_learnBegins_86 fn3 ?_
    refine r_if_ne (pc := 87) (tgt := 93) X d_X3_learnBegins_87 (by decide +kernel) ?_ ?_
    · refine r_iinc (pc := 93) X d_X3_learnBegins_93 (by decide +kernel) (by decide +kernel) ?_
      refine r_goto (pc := 96) (tgt := 2) X d_X3_learnBegins_96 (by decide +kernel) ?_
      exact h2
    · refine r_goto (pc := 90) (tgt := 99) X d_X3_learnBegins_90 (by decide +kernel) ?_
      exact t_X3_learnBegins_99 X hr
  · refine r_aload_n (pc := 22) X d_X3_learnBegins_22 fn1 ?_
    refine r_getF (pc := 23) X xok4 (by decide +kernel) (by decide +kernel) fl_RX3_60 d_X3_learnBegins_23 ?_
    refine r_iload (pc := 26) X d_X3_learnBegins_26 ?_
    refine r_iald (pc := 28) X d_X3_learnBegins_28 ?_
    refine r_istore (pc := 29) X d_X3_learnBegins_29 (by decide +kernel) ?_
    refine r_aload_n (pc := 31) X d_X3_learnBegins_31 fn0 ?_
    refine s_getF (pc := 32) (ci := 3) (k := 4) X xok3 (by decide +kernel) ob_35 trivial ly_35_4 (by decide +kernel) fl_RX3_9 d_X3_learnBegins_32 ?_
    refine r_iload (pc := 35) X d_X3_learnBegins_35 ?_
    refine s_iald (pc := 37) X tn_36 ln_36 d_X3_learnBegins_37 ?_
    refine r_aload_n (pc := 38) X d_X3_learnBegins_38 fn0 ?_
    refine r_aload_n (pc := 39) X d_X3_learnBegins_39 fn1 ?_
    refine r_iload (pc := 40) X d_X3_learnBegins_40 ?_
    refine r_iconst (pc := 42) X d_X3_learnBegins_42 (by decide +kernel) ?_
    refine s_cv3 (pc := 43) (ci := 3) X xok3 (by decide +kernel) ob_35 rfl (con_X3_beginsFrom l) mf_X3_beginsFrom ml_RX3_80 (by decide +kernel) (by decide +kernel) d_X3_learnBegins_43 ?_
    refine r_ior (pc := 46) X d_X3_learnBegins_46 ?_
    refine r_istore (pc := 47) X d_X3_learnBegins_47 (by decide +kernel) ?_
    refine r_iload_n (pc := 49) X d_X3_learnBegins_49 fn3 ?_
    refine r_if_ne (pc := 50) (tgt := 65) X d_X3_learnBegins_50 (by decide +kernel) ?_ ?_
    · exact t_X3_learnBegins_65 X hr h13
    · refine r_iload (pc := 53) X d_X3_learnBegins_53 ?_
      refine r_aload_n (pc := 55) X d_X3_learnBegins_55 fn0 ?_
      refine s_getF (pc := 56) (ci := 3) (k := 4) X xok3 (by decide +kernel) ob_35 trivial ly_35_4 (by decide +kernel) fl_RX3_9 d_X3_learnBegins_56 ?_
      refine r_iload (pc := 59) X d_X3_learnBegins_59 ?_
      refine s_iald (pc := 61) X tn_36 ln_36 d_X3_learnBegins_61 ?_
      refine r_icmp_eq (pc := 62) (tgt := 69) X d_X3_learnBegins_62 (by decide +kernel) ?_ ?_
      · refine r_iconst (pc := 69) X d_X3_learnBegins_69 (by decide +kernel) ?_
        exact t_X3_learnBegins_70 X hr h13
      · exact t_X3_learnBegins_65 X hr h13
set_option maxRecDepth 20000 in
theorem m_X3_learnBegins {l : Launch} {f : Nat → Nat → xH → xP → Prop}  {I2 : Nat → Nat → xH → xP → xM → xK} {I13 : Nat → Nat → xH → xP → xM → xK}
    (v0 : ∀ (a0 : Nat) (a1 : Nat) (A : xH) (P : xP), f a0 a1 A P → k_X3_learnBegins_0 P (xE (I2 a0 a1 A P)) [some (.ref a0), some (.ref a1), none, none, none, none, none] [] A)
    (v2 : ∀ (a0 : Nat) (a1 : Nat) (A : xH) (P : xP), f a0 a1 A P → ∀ (μ : xM) (L : xL) (st : List Value) (B : xH), I2 a0 a1 A P μ L st B → k_X3_learnBegins_2 P (xB (I13 a0 a1 A P) μ) L st B)
    (v13 : ∀ (a0 : Nat) (a1 : Nat) (A : xH) (P : xP), f a0 a1 A P → ∀ (μ : xM) (L : xL) (st : List Value) (B : xH), I13 a0 a1 A P μ L st B → k_X3_learnBegins_13 P (xB (I2 a0 a1 A P) μ) (xB (I13 a0 a1 A P) μ) L st B) : xCon l yX3_learnBegins cX3_learnBegins 7 none 2 48 xN xN 0 xFT xFT (w_RR f) := by
  refine xc_RR (plainFor_of_name pn_RX3) (by decide +kernel) (fun p e s m args below meth c g a0 a1 A P h X hr _ => ?_)
  obtain ⟨h2, h13⟩ := x_loop2 (p := p) (l := l) (e := e) (R := { frames := 2, cells := 0, slots := 0, locals := 48 }) (s := s) (m := m) (args := args) (below := below) (meth := meth) (c := c) (g := g) (nL := 7) (F := xFT) (n := xN) (cells := 0) (slots := 0) (Q := MQ below (xQc g xFT xN P) args s 0 0 (xFr g)) (I1 := I2 a0 a1 A P) (I2 := I13 a0 a1 A P) (pc1 := 2) (pc2 := 13) (fun μ i2 i13 => xAt_mono (t_X3_learnBegins_2 (P := P) X hr i13) (v2 a0 a1 A P h μ)) (fun μ i2 i13 => xAt_mono (t_X3_learnBegins_13 (P := P) X hr i2 i13) (v13 a0 a1 A P h μ))
  exact ⟨_, v0 a0 a1 A P h, t_X3_learnBegins_0 X hr h2⟩
theorem d_X3_learnFollows_0 : decode cX3_learnFollows 0 = .ok (.iconst 0, 1) := by decide +kernel
theorem d_X3_learnFollows_1 : decode cX3_learnFollows 1 = .ok (.istore_n 3, 1) := by decide +kernel
theorem d_X3_learnFollows_2 : decode cX3_learnFollows 2 = .ok (.iload_n 3, 1) := by decide +kernel
theorem d_X3_learnFollows_3 : decode cX3_learnFollows 3 = .ok (.bipush 64, 2) := by decide +kernel
theorem d_X3_learnFollows_5 : decode cX3_learnFollows 5 = .ok (.if_icmp .ge 180, 3) := by decide +kernel
theorem d_X3_learnFollows_8 : decode cX3_learnFollows 8 = .ok (.iconst 0, 1) := by decide +kernel
theorem d_X3_learnFollows_9 : decode cX3_learnFollows 9 = .ok (.istore 4, 2) := by decide +kernel
theorem d_X3_learnFollows_11 : decode cX3_learnFollows 11 = .ok (.iconst 0, 1) := by decide +kernel
theorem d_X3_learnFollows_12 : decode cX3_learnFollows 12 = .ok (.istore 5, 2) := by decide +kernel
theorem d_X3_learnFollows_14 : decode cX3_learnFollows 14 = .ok (.iload 5, 2) := by decide +kernel
theorem d_X3_learnFollows_16 : decode cX3_learnFollows 16 = .ok (.aload_n 1, 1) := by decide +kernel
theorem d_X3_learnFollows_17 : decode cX3_learnFollows 17 = .ok (.getfield 51, 3) := by decide +kernel
theorem d_X3_learnFollows_20 : decode cX3_learnFollows 20 = .ok (.if_icmp .ge 151, 3) := by decide +kernel
theorem d_X3_learnFollows_23 : decode cX3_learnFollows 23 = .ok (.aload_n 1, 1) := by decide +kernel
theorem d_X3_learnFollows_24 : decode cX3_learnFollows 24 = .ok (.getfield 60, 3) := by decide +kernel
theorem d_X3_learnFollows_27 : decode cX3_learnFollows 27 = .ok (.iload 5, 2) := by decide +kernel
theorem d_X3_learnFollows_29 : decode cX3_learnFollows 29 = .ok (.iaload, 1) := by decide +kernel
theorem d_X3_learnFollows_30 : decode cX3_learnFollows 30 = .ok (.istore 6, 2) := by decide +kernel
theorem d_X3_learnFollows_32 : decode cX3_learnFollows 32 = .ok (.iconst 0, 1) := by decide +kernel
theorem d_X3_learnFollows_33 : decode cX3_learnFollows 33 = .ok (.istore 7, 2) := by decide +kernel
theorem d_X3_learnFollows_35 : decode cX3_learnFollows 35 = .ok (.iload 7, 2) := by decide +kernel
theorem d_X3_learnFollows_37 : decode cX3_learnFollows 37 = .ok (.aload_n 1, 1) := by decide +kernel
theorem d_X3_learnFollows_38 : decode cX3_learnFollows 38 = .ok (.getfield 63, 3) := by decide +kernel
theorem d_X3_learnFollows_41 : decode cX3_learnFollows 41 = .ok (.iload 5, 2) := by decide +kernel
theorem d_X3_learnFollows_43 : decode cX3_learnFollows 43 = .ok (.iaload, 1) := by decide +kernel
theorem d_X3_learnFollows_44 : decode cX3_learnFollows 44 = .ok (.if_icmp .ge 121, 3) := by decide +kernel
theorem d_X3_learnFollows_47 : decode cX3_learnFollows 47 = .ok (.iload_n 2, 1) := by decide +kernel
theorem d_X3_learnFollows_48 : decode cX3_learnFollows 48 = .ok (.iload 6, 2) := by decide +kernel
theorem d_X3_learnFollows_50 : decode cX3_learnFollows 50 = .ok (.ishr, 1) := by decide +kernel
theorem d_X3_learnFollows_51 : decode cX3_learnFollows 51 = .ok (.iconst 1, 1) := by decide +kernel
theorem d_X3_learnFollows_52 : decode cX3_learnFollows 52 = .ok (.iand, 1) := by decide +kernel
theorem d_X3_learnFollows_53 : decode cX3_learnFollows 53 = .ok (.iconst 1, 1) := by decide +kernel
theorem d_X3_learnFollows_54 : decode cX3_learnFollows 54 = .ok (.if_icmp .ne 111, 3) := by decide +kernel
theorem d_X3_learnFollows_57 : decode cX3_learnFollows 57 = .ok (.aload_n 1, 1) := by decide +kernel
theorem d_X3_learnFollows_58 : decode cX3_learnFollows 58 = .ok (.iload 5, 2) := by decide +kernel
theorem d_X3_learnFollows_60 : decode cX3_learnFollows 60 = .ok (.iload 7, 2) := by decide +kernel
theorem d_X3_learnFollows_62 : decode cX3_learnFollows 62 = .ok (.invokevirtual 66, 3) := by decide +kernel
theorem d_X3_learnFollows_65 : decode cX3_learnFollows 65 = .ok (.bipush 8, 2) := by decide +kernel
theorem d_X3_learnFollows_67 : decode cX3_learnFollows 67 = .ok (.isub, 1) := by decide +kernel
theorem d_X3_learnFollows_68 : decode cX3_learnFollows 68 = .ok (.istore 8, 2) := by decide +kernel
theorem d_X3_learnFollows_70 : decode cX3_learnFollows 70 = .ok (.iload 8, 2) := by decide +kernel
theorem d_X3_learnFollows_72 : decode cX3_learnFollows 72 = .ok (.ifCond .lt 87, 3) := by decide +kernel
theorem d_X3_learnFollows_75 : decode cX3_learnFollows 75 = .ok (.aload_n 0, 1) := by decide +kernel
theorem d_X3_learnFollows_76 : decode cX3_learnFollows 76 = .ok (.getfield 15, 3) := by decide +kernel
theorem d_X3_learnFollows_79 : decode cX3_learnFollows 79 = .ok (.iload 8, 2) := by decide +kernel
theorem d_X3_learnFollows_81 : decode cX3_learnFollows 81 = .ok (.iaload, 1) := by decide +kernel
theorem d_X3_learnFollows_82 : decode cX3_learnFollows 82 = .ok (.aload_n 0, 1) := by decide +kernel
theorem d_X3_learnFollows_83 : decode cX3_learnFollows 83 = .ok (.aload_n 1, 1) := by decide +kernel
theorem d_X3_learnFollows_84 : decode cX3_learnFollows 84 = .ok (.iload 5, 2) := by decide +kernel
theorem d_X3_learnFollows_86 : decode cX3_learnFollows 86 = .ok (.iload 7, 2) := by decide +kernel
theorem d_X3_learnFollows_88 : decode cX3_learnFollows 88 = .ok (.iconst 1, 1) := by decide +kernel
theorem d_X3_learnFollows_89 : decode cX3_learnFollows 89 = .ok (.iadd, 1) := by decide +kernel
theorem d_X3_learnFollows_90 : decode cX3_learnFollows 90 = .ok (.invokevirtual 80, 3) := by decide +kernel
theorem d_X3_learnFollows_93 : decode cX3_learnFollows 93 = .ok (.ior, 1) := by decide +kernel
theorem d_X3_learnFollows_94 : decode cX3_learnFollows 94 = .ok (.istore 9, 2) := by decide +kernel
theorem d_X3_learnFollows_96 : decode cX3_learnFollows 96 = .ok (.iload 9, 2) := by decide +kernel
theorem d_X3_learnFollows_98 : decode cX3_learnFollows 98 = .ok (.aload_n 0, 1) := by decide +kernel
theorem d_X3_learnFollows_99 : decode cX3_learnFollows 99 = .ok (.aload_n 1, 1) := by decide +kernel
theorem d_X3_learnFollows_100 : decode cX3_learnFollows 100 = .ok (.iload 5, 2) := by decide +kernel
theorem d_X3_learnFollows_102 : decode cX3_learnFollows 102 = .ok (.iload 7, 2) := by decide +kernel
theorem d_X3_learnFollows_104 : decode cX3_learnFollows 104 = .ok (.iconst 1, 1) := by decide +kernel
theorem d_X3_learnFollows_105 : decode cX3_learnFollows 105 = .ok (.iadd, 1) := by decide +kernel
theorem d_X3_learnFollows_106 : decode cX3_learnFollows 106 = .ok (.invokevirtual 84, 3) := by decide +kernel
theorem d_X3_learnFollows_109 : decode cX3_learnFollows 109 = .ok (.ifCond .eq 13, 3) := by decide +kernel
theorem d_X3_learnFollows_112 : decode cX3_learnFollows 112 = .ok (.aload_n 0, 1) := by decide +kernel
theorem d_X3_learnFollows_113 : decode cX3_learnFollows 113 = .ok (.getfield 15, 3) := by decide +kernel
theorem d_X3_learnFollows_116 : decode cX3_learnFollows 116 = .ok (.iload 6, 2) := by decide +kernel
theorem d_X3_learnFollows_118 : decode cX3_learnFollows 118 = .ok (.iaload, 1) := by decide +kernel
theorem d_X3_learnFollows_119 : decode cX3_learnFollows 119 = .ok (.goto 4, 3) := by decide +kernel
theorem d_X3_learnFollows_122 : decode cX3_learnFollows 122 = .ok (.iconst 0, 1) := by decide +kernel
theorem d_X3_learnFollows_123 : decode cX3_learnFollows 123 = .ok (.ior, 1) := by decide +kernel
theorem d_X3_learnFollows_124 : decode cX3_learnFollows 124 = .ok (.istore 9, 2) := by decide +kernel
theorem d_X3_learnFollows_126 : decode cX3_learnFollows 126 = .ok (.iload 4, 2) := by decide +kernel
theorem d_X3_learnFollows_128 : decode cX3_learnFollows 128 = .ok (.ifCond .ne 15, 3) := by decide +kernel
theorem d_X3_learnFollows_131 : decode cX3_learnFollows 131 = .ok (.iload 9, 2) := by decide +kernel
theorem d_X3_learnFollows_133 : decode cX3_learnFollows 133 = .ok (.aload_n 0, 1) := by decide +kernel
theorem d_X3_learnFollows_134 : decode cX3_learnFollows 134 = .ok (.getfield 15, 3) := by decide +kernel
theorem d_X3_learnFollows_137 : decode cX3_learnFollows 137 = .ok (.iload 8, 2) := by decide +kernel
theorem d_X3_learnFollows_139 : decode cX3_learnFollows 139 = .ok (.iaload, 1) := by decide +kernel
theorem d_X3_learnFollows_140 : decode cX3_learnFollows 140 = .ok (.if_icmp .eq 7, 3) := by decide +kernel
theorem d_X3_learnFollows_143 : decode cX3_learnFollows 143 = .ok (.iconst 1, 1) := by decide +kernel
theorem d_X3_learnFollows_144 : decode cX3_learnFollows 144 = .ok (.goto 4, 3) := by decide +kernel
theorem d_X3_learnFollows_147 : decode cX3_learnFollows 147 = .ok (.iconst 0, 1) := by decide +kernel
theorem d_X3_learnFollows_148 : decode cX3_learnFollows 148 = .ok (.istore 4, 2) := by decide +kernel
theorem d_X3_learnFollows_150 : decode cX3_learnFollows 150 = .ok (.aload_n 0, 1) := by decide +kernel
theorem d_X3_learnFollows_151 : decode cX3_learnFollows 151 = .ok (.getfield 15, 3) := by decide +kernel
theorem d_X3_learnFollows_154 : decode cX3_learnFollows 154 = .ok (.iload 8, 2) := by decide +kernel
theorem d_X3_learnFollows_156 : decode cX3_learnFollows 156 = .ok (.iload 9, 2) := by decide +kernel
theorem d_X3_learnFollows_158 : decode cX3_learnFollows 158 = .ok (.iastore, 1) := by decide +kernel
theorem d_X3_learnFollows_159 : decode cX3_learnFollows 159 = .ok (.iinc 7 1, 3) := by decide +kernel
theorem d_X3_learnFollows_162 : decode cX3_learnFollows 162 = .ok (.goto (-127), 3) := by decide +kernel
theorem d_X3_learnFollows_165 : decode cX3_learnFollows 165 = .ok (.iinc 5 1, 3) := by decide +kernel
theorem d_X3_learnFollows_168 : decode cX3_learnFollows 168 = .ok (.goto (-154), 3) := by decide +kernel
theorem d_X3_learnFollows_171 : decode cX3_learnFollows 171 = .ok (.iload 4, 2) := by decide +kernel
theorem d_X3_learnFollows_173 : decode cX3_learnFollows 173 = .ok (.ifCond .ne 6, 3) := by decide +kernel
theorem d_X3_learnFollows_176 : decode cX3_learnFollows 176 = .ok (.goto 9, 3) := by decide +kernel
theorem d_X3_learnFollows_179 : decode cX3_learnFollows 179 = .ok (.iinc 3 1, 3) := by decide +kernel
theorem d_X3_learnFollows_182 : decode cX3_learnFollows 182 = .ok (.goto (-180), 3) := by decide +kernel
theorem d_X3_learnFollows_185 : decode cX3_learnFollows 185 = .ok (.return_, 1) := by decide +kernel
def k_X3_learnFollows_0 (P : xP) (C2 : xK) : xK := x_push (.int 0) (x_istore 3 (C2))
set_option maxRecDepth 20000 in
theorem t_X3_learnFollows_0 {p : Program} {l : Launch} {e : Env} {s : State} {m : MethodId} {args : Array Value} {below : List Frame} {meth : Method} {c : Code} {g : xG} (X : xX p s m args c meth cX3_learnFollows RX3 10 g) (hr : meth.sig.returnType = none) {P : xP} {C2 : xK} (h2 : xAt p l e { frames := 2, cells := 0, slots := 0, locals := 48 } s m args below meth c g 10 xFT xN 0 0 (MQ below (xQc g xFT xN P) args s 0 0 (xFr g)) C2 2) : xAt p l e { frames := 2, cells := 0, slots := 0, locals := 48 } s m args below meth c g 10 xFT xN 0 0 (MQ below (xQc g xFT xN P) args s 0 0 (xFr g)) (k_X3_learnFollows_0 P C2) 0 := by
  unfold k_X3_learnFollows_0
  refine r_iconst (pc := 0) X d_X3_learnFollows_0 (by decide +kernel) ?_
  refine r_istore_n (pc := 1) X d_X3_learnFollows_1 fn3 (by decide +kernel) ?_
  exact h2
def k_X3_learnFollows_185 (P : xP) : xK := x_vret P
set_option maxRecDepth 20000 in
theorem t_X3_learnFollows_185 {p : Program} {l : Launch} {e : Env} {s : State} {m : MethodId} {args : Array Value} {below : List Frame} {meth : Method} {c : Code} {g : xG} (X : xX p s m args c meth cX3_learnFollows RX3 10 g) (hr : meth.sig.returnType = none) {P : xP} : xAt p l e { frames := 2, cells := 0, slots := 0, locals := 48 } s m args below meth c g 10 xFT xN 0 0 (MQ below (xQc g xFT xN P) args s 0 0 (xFr g)) (k_X3_learnFollows_185 P) 185 := by
  unfold k_X3_learnFollows_185
  exact r_vret (pc := 185) X hr d_X3_learnFollows_185
def k_X3_learnFollows_2 (P : xP) (C14 : xK) : xK := x_iload 3 (x_push (.int 64) (x_icmp_ge ((k_X3_learnFollows_185 P)) (x_push (.int 0) (x_istore 4 (x_push (.int 0) (x_istore 5 (C14)))))))
set_option maxRecDepth 20000 in
theorem t_X3_learnFollows_2 {p : Program} {l : Launch} {e : Env} {s : State} {m : MethodId} {args : Array Value} {below : List Frame} {meth : Method} {c : Code} {g : xG} (X : xX p s m args c meth cX3_learnFollows RX3 10 g) (hr : meth.sig.returnType = none) {P : xP} {C14 : xK} (h14 : xAt p l e { frames := 2, cells := 0, slots := 0, locals := 48 } s m args below meth c g 10 xFT xN 0 0 (MQ below (xQc g xFT xN P) args s 0 0 (xFr g)) C14 14) : xAt p l e { frames := 2, cells := 0, slots := 0, locals := 48 } s m args below meth c g 10 xFT xN 0 0 (MQ below (xQc g xFT xN P) args s 0 0 (xFr g)) (k_X3_learnFollows_2 P C14) 2 := by
  unfold k_X3_learnFollows_2
  refine r_iload_n (pc := 2) X d_X3_learnFollows_2 fn3 ?_
  refine r_bipush (pc := 3) X d_X3_learnFollows_3 (by decide +kernel) ?_
  refine r_icmp_ge (pc := 5) (tgt := 185) X d_X3_learnFollows_5 (by decide +kernel) ?_ ?_
  · exact t_X3_learnFollows_185 X hr
  · refine r_iconst (pc := 8) X d_X3_learnFollows_8 (by decide +kernel) ?_
    refine r_istore (pc := 9) X d_X3_learnFollows_9 (by decide +kernel) ?_
    refine r_iconst (pc := 11) X d_X3_learnFollows_11 (by decide +kernel) ?_
    refine r_istore (pc := 12) X d_X3_learnFollows_12 (by decide +kernel) ?_
    exact h14
def k_X3_learnFollows_14 (P : xP) (C2 : xK) (C35 : xK) : xK := x_iload 5 (x_aload 1 (x_getI xN 4 2 (x_icmp_ge (x_iload 4 (x_if_ne (x_iinc 3 1 (C2)) ((k_X3_learnFollows_185 P)))) (x_aload 1 (x_getF xN xFT 4 7 (x_iload 5 (x_iald xN (x_istore 6 (x_push (.int 0) (x_istore 7 (C35)))))))))))
set_option maxRecDepth 20000 in
theorem t_X3_learnFollows_14 {p : Program} {l : Launch} {e : Env} {s : State} {m : MethodId} {args : Array Value} {below : List Frame} {meth : Method} {c : Code} {g : xG} (X : xX p s m args c meth cX3_learnFollows RX3 10 g) (hr : meth.sig.returnType = none) {P : xP} {C2 : xK} {C35 : xK} (h2 : xAt p l e { frames := 2, cells := 0, slots := 0, locals := 48 } s m args below meth c g 10 xFT xN 0 0 (MQ below (xQc g xFT xN P) args s 0 0 (xFr g)) C2 2) (h35 : xAt p l e { frames := 2, cells := 0, slots := 0, locals := 48 } s m args below meth c g 10 xFT xN 0 0 (MQ below (xQc g xFT xN P) args s 0 0 (xFr g)) C35 35) : xAt p l e { frames := 2, cells := 0, slots := 0, locals := 48 } s m args below meth c g 10 xFT xN 0 0 (MQ below (xQc g xFT xN P) args s 0 0 (xFr g)) (k_X3_learnFollows_14 P C2 C35) 14 := by
  unfold k_X3_learnFollows_14
  refine r_iload (pc := 14) X d_X3_learnFollows_14 ?_
  refine r_aload_n (pc := 16) X d_X3_learnFollows_16 fn1 ?_
  refine r_getI (pc := 17) X xok4 (by decide +kernel) (by decide +kernel) fl_RX3_51 d_X3_learnFollows_17 ?_
  refine r_icmp_ge (pc := 20) (tgt := 171) X d_X3_learnFollows_20 (by decide +kernel) ?_ ?_
  · refine r_iload (pc := 171) X d_X3_learnFollows_171 ?_
    refine r_if_ne (pc := 173) (tgt := 179) X d_X3_learnFollows_173 (by decide +kernel) ?_ ?_
    · refine r_iinc (pc := 179) X d_X3_learnFollows_179 (by decide +kernel) (by decide +kernel) ?_
      refine r_goto (pc := 182) (tgt := 2) X d_X3_learnFollows_182 (by decide +kernel) ?_
      exact h2
    · refine r_goto (pc := 176) (tgt := 185) X d_X3_learnFollows_176 (by decide +kernel) ?_
      exact t_X3_learnFollows_185 X hr
  · refine r_aload_n (pc := 23) X d_X3_learnFollows_23 fn1 ?_
    refine r_getF (pc := 24) X xok4 (by decide +kernel) (by decide +kernel) fl_RX3_60 d_X3_learnFollows_24 ?_
    refine r_iload (pc := 27) X d_X3_learnFollows_27 ?_
    refine r_iald (pc := 29) X d_X3_learnFollows_29 ?_
    refine r_istore (pc := 30) X d_X3_learnFollows_30 (by decide +kernel) ?_
    refine r_iconst (pc := 32) X d_X3_learnFollows_32 (by decide +kernel) ?_
    refine r_istore (pc := 33) X d_X3_learnFollows_33 (by decide +kernel) ?_
    exact h35
def k_X3_learnFollows_165 (P : xP) (C14 : xK) : xK := x_iinc 5 1 (C14)
set_option maxRecDepth 20000 in
theorem t_X3_learnFollows_165 {p : Program} {l : Launch} {e : Env} {s : State} {m : MethodId} {args : Array Value} {below : List Frame} {meth : Method} {c : Code} {g : xG} (X : xX p s m args c meth cX3_learnFollows RX3 10 g) (hr : meth.sig.returnType = none) {P : xP} {C14 : xK} (h14 : xAt p l e { frames := 2, cells := 0, slots := 0, locals := 48 } s m args below meth c g 10 xFT xN 0 0 (MQ below (xQc g xFT xN P) args s 0 0 (xFr g)) C14 14) : xAt p l e { frames := 2, cells := 0, slots := 0, locals := 48 } s m args below meth c g 10 xFT xN 0 0 (MQ below (xQc g xFT xN P) args s 0 0 (xFr g)) (k_X3_learnFollows_165 P C14) 165 := by
  unfold k_X3_learnFollows_165
  refine r_iinc (pc := 165) X d_X3_learnFollows_165 (by decide +kernel) (by decide +kernel) ?_
  refine r_goto (pc := 168) (tgt := 14) X d_X3_learnFollows_168 (by decide +kernel) ?_
  exact h14
def k_X3_learnFollows_159 (P : xP) (C35 : xK) : xK := x_iinc 7 1 (C35)
set_option maxRecDepth 20000 in
theorem t_X3_learnFollows_159 {p : Program} {l : Launch} {e : Env} {s : State} {m : MethodId} {args : Array Value} {below : List Frame} {meth : Method} {c : Code} {g : xG} (X : xX p s m args c meth cX3_learnFollows RX3 10 g) (hr : meth.sig.returnType = none) {P : xP} {C35 : xK} (h35 : xAt p l e { frames := 2, cells := 0, slots := 0, locals := 48 } s m args below meth c g 10 xFT xN 0 0 (MQ below (xQc g xFT xN P) args s 0 0 (xFr g)) C35 35) : xAt p l e { frames := 2, cells := 0, slots := 0, locals := 48 } s m args below meth c g 10 xFT xN 0 0 (MQ below (xQc g xFT xN P) args s 0 0 (xFr g)) (k_X3_learnFollows_159 P C35) 159 := by
  unfold k_X3_learnFollows_159
  refine r_iinc (pc := 159) X d_X3_learnFollows_159 (by decide +kernel) (by decide +kernel) ?_
  refine r_goto (pc := 162) (tgt := 35) X d_X3_learnFollows_162 (by decide +kernel) ?_
  exact h35
def k_X3_learnFollows_148 (P : xP) (C35 : xK) : xK := x_istore 4 (x_aload 0 (y_getF 35 37 (x_iload 8 (x_iload 9 (y_iast 37 5 ((k_X3_learnFollows_159 P C35)))))))
set_option maxRecDepth 20000 in
theorem t_X3_learnFollows_148 {p : Program} {l : Launch} {e : Env} {s : State} {m : MethodId} {args : Array Value} {below : List Frame} {meth : Method} {c : Code} {g : xG} (X : xX p s m args c meth cX3_learnFollows RX3 10 g) (hr : meth.sig.returnType = none) {P : xP} {C35 : xK} (h35 : xAt p l e { frames := 2, cells := 0, slots := 0, locals := 48 } s m args below meth c g 10 xFT xN 0 0 (MQ below (xQc g xFT xN P) args s 0 0 (xFr g)) C35 35) : xAt p l e { frames := 2, cells := 0, slots := 0, locals := 48 } s m args below meth c g 10 xFT xN 0 0 (MQ below (xQc g xFT xN P) args s 0 0 (xFr g)) (k_X3_learnFollows_148 P C35) 148 := by
  unfold k_X3_learnFollows_148
  refine r_istore (pc := 148) X d_X3_learnFollows_148 (by decide +kernel) ?_
  refine r_aload_n (pc := 150) X d_X3_learnFollows_150 fn0 ?_
  refine s_getF (pc := 151) (ci := 3) (k := 5) X xok3 (by decide +kernel) ob_35 trivial ly_35_5 (by decide +kernel) fl_RX3_15 d_X3_learnFollows_151 ?_
  refine r_iload (pc := 154) X d_X3_learnFollows_154 ?_
  refine r_iload (pc := 156) X d_X3_learnFollows_156 ?_
  refine s_iast (pc := 158) X tn_37 ln_37 d_X3_learnFollows_158 ?_
  exact t_X3_learnFollows_159 X hr h35
def k_X3_learnFollows_143 (P : xP) (C35 : xK) : xK := x_push (.int 1) ((k_X3_learnFollows_148 P C35))
set_option maxRecDepth 20000 in
theorem t_X3_learnFollows_143 {p : Program} {l : Launch} {e : Env} {s : State} {m : MethodId} {args : Array Value} {below : List Frame} {meth : Method} {c : Code} {g : xG} (X : xX p s m args c meth cX3_learnFollows RX3 10 g) (hr : meth.sig.returnType = none) {P : xP} {C35 : xK} (h35 : xAt p l e { frames := 2, cells := 0, slots := 0, locals := 48 } s m args below meth c g 10 xFT xN 0 0 (MQ below (xQc g xFT xN P) args s 0 0 (xFr g)) C35 35) : xAt p l e { frames := 2, cells := 0, slots := 0, locals := 48 } s m args below meth c g 10 xFT xN 0 0 (MQ below (xQc g xFT xN P) args s 0 0 (xFr g)) (k_X3_learnFollows_143 P C35) 143 := by
  unfold k_X3_learnFollows_143
  refine r_iconst (pc := 143) X d_X3_learnFollows_143 (by decide +kernel) ?_
  refine r_goto (pc := 144) (tgt := 148) X d_X3_learnFollows_144 (by decide +kernel) ?_
  exact t_X3_learnFollows_148 X hr h35
def k_X3_learnFollows_123 (P : xP) (C35 : xK) : xK := x_ior (x_istore 9 (x_iload 4 (x_if_ne ((k_X3_learnFollows_143 P C35)) (x_iload 9 (x_aload 0 (y_getF 35 37 (x_iload 8 (y_iald 37 5 (x_icmp_eq (x_push (.int 0) ((k_X3_learnFollows_148 P C35))) ((k_X3_learnFollows_143 P C35)))))))))))
set_option maxRecDepth 20000 in
theorem t_X3_learnFollows_123 {p : Program} {l : Launch} {e : Env} {s : State} {m : MethodId} {args : Array Value} {below : List Frame} {meth : Method} {c : Code} {g : xG} (X : xX p s m args c meth cX3_learnFollows RX3 10 g) (hr : meth.sig.returnType = none) {P : xP} {C35 : xK} (h35 : xAt p l e { frames := 2, cells := 0, slots := 0, locals := 48 } s m args below meth c g 10 xFT xN 0 0 (MQ below (xQc g xFT xN P) args s 0 0 (xFr g)) C35 35) : xAt p l e { frames := 2, cells := 0, slots := 0, locals := 48 } s m args below meth c g 10 xFT xN 0 0 (MQ below (xQc g xFT xN P) args s 0 0 (xFr g)) (k_X3_learnFollows_123 P C35) 123 := by
  unfold k_X3_learnFollows_123
  refine r_ior (pc := 123) X d_X3_learnFollows_123 ?_
  refine r_istore (pc := 124) X d_X3_learnFollows_124 (by decide +kernel) ?_
  refine r_iload (pc := 126) X d_X3_learnFollows_126 ?_
  refine r_if_ne (pc := 128) (tgt := 143) X d_X3_learnFollows_128 (by decide +kernel) ?_ ?_
  · exact t_X3_learnFollows_143 X hr h35
  · refine r_iload (pc := 131) X d_X3_learnFollows_131 ?_
    refine r_aload_n (pc := 133) X d_X3_learnFollows_133 fn0 ?_
    refine s_getF (pc := 134) (ci := 3) (k := 5) X xok3 (by decide +kernel) ob_35 trivial ly_35_5 (by decide +kernel) fl_RX3_15 d_X3_learnFollows_134 ?_
    refine r_iload (pc := 137) X d_X3_learnFollows_137 ?_
    refine s_iald (pc := 139) X tn_37 ln_37 d_X3_learnFollows_139 ?_
    refine r_icmp_eq (pc := 140) (tgt := 147) X d_X3_learnFollows_140 (by decide +kernel) ?_ ?_
    · refine r_iconst (pc := 147) X d_X3_learnFollows_147 (by decide +kernel) ?_
      exact t_X3_learnFollows_148 X hr h35
    · exact t_X3_learnFollows_143 X hr h35
def k_X3_learnFollows_35 (P : xP) (C14 : xK) (C35 : xK) : xK := x_iload 7 (x_aload 1 (x_getF xN xFT 4 8 (x_iload 5 (x_iald xN (x_icmp_ge ((k_X3_learnFollows_165 P C14)) (x_iload 2 (x_iload 6 (x_ishr (x_push (.int 1) (x_iand (x_push (.int 1) (x_icmp_ne ((k_X3_learnFollows_165 P C14)) (x_aload 1 (x_iload 5 (x_iload 7 (x_cv2 xN 4 (w_RII f_X4_symbolAt) (x_push (.int 8) (x_isub (x_istore 8 (x_iload 8 (x_if_lt ((k_X3_learnFollows_159 P C35)) (x_aload 0 (y_getF 35 37 (x_iload 8 (y_iald 37 5 (x_aload 0 (x_aload 1 (x_iload 5 (x_iload 7 (x_push (.int 1) (x_iadd (y_cv3 35 (w_RRII f_X3_beginsFrom) (x_ior (x_istore 9 (x_iload 9 (x_aload 0 (x_aload 1 (x_iload 5 (x_iload 7 (x_push (.int 1) (x_iadd (y_cv3 35 (w_RRII f_X3_emptyFrom) (x_if_eq (x_push (.int 0) ((k_X3_learnFollows_123 P C35))) (x_aload 0 (y_getF 35 37 (x_iload 6 (y_iald 37 5 ((k_X3_learnFollows_123 P C35)))))))))))))))))))))))))))))))))))))))))))))))))
set_option maxRecDepth 20000 in
theorem t_X3_learnFollows_35 {p : Program} {l : Launch} {e : Env} {s : State} {m : MethodId} {args : Array Value} {below : List Frame} {meth : Method} {c : Code} {g : xG} (X : xX p s m args c meth cX3_learnFollows RX3 10 g) (hr : meth.sig.returnType = none) {P : xP} {C14 : xK} {C35 : xK} (h14 : xAt p l e { frames := 2, cells := 0, slots := 0, locals := 48 } s m args below meth c g 10 xFT xN 0 0 (MQ below (xQc g xFT xN P) args s 0 0 (xFr g)) C14 14) (h35 : xAt p l e { frames := 2, cells := 0, slots := 0, locals := 48 } s m args below meth c g 10 xFT xN 0 0 (MQ below (xQc g xFT xN P) args s 0 0 (xFr g)) C35 35) : xAt p l e { frames := 2, cells := 0, slots := 0, locals := 48 } s m args below meth c g 10 xFT xN 0 0 (MQ below (xQc g xFT xN P) args s 0 0 (xFr g)) (k_X3_learnFollows_35 P C14 C35) 35 := by
  unfold k_X3_learnFollows_35
  refine r_iload (pc := 35) X d_X3_learnFollows_35 ?_
  refine r_aload_n (pc := 37) X d_X3_learnFollows_37 fn1 ?_
  refine r_getF (pc := 38) X xok4 (by decide +kernel) (by decide +kernel) fl_RX3_63 d_X3_learnFollows_38 ?_
  refine r_iload (pc := 41) X d_X3_learnFollows_41 ?_
  refine r_iald (pc := 43) X d_X3_learnFollows_43 ?_
  refine r_icmp_ge (pc := 44) (tgt := 165) X d_X3_learnFollows_44 (by decide +kernel) ?_ ?_
  · exact t_X3_learnFollows_165 X hr h14
  · refine r_iload_n (pc := 47) X d_X3_learnFollows_47 fn2 ?_
    refine r_iload (pc := 48) X d_X3_learnFollows_48 ?_
    refine r_ishr (pc := 50) X d_X3_learnFollows_50 ?_
    refine r_iconst (pc := 51) X d_X3_learnFollows_51 (by decide +kernel) ?_
    refine r_iand (pc := 52) X d_X3_learnFollows_52 ?_
    refine r_iconst (pc := 53) X d_X3_learnFollows_53 (by decide +kernel) ?_
    refine r_icmp_ne (pc := 54) (tgt := 165) X d_X3_learnFollows_54 (by decide +kernel) ?_ ?_
    · exact t_X3_learnFollows_165 X hr h14
    · refine r_aload_n (pc := 57) X d_X3_learnFollows_57 fn1 ?_
      refine r_iload (pc := 58) X d_X3_learnFollows_58 ?_
      refine r_iload (pc := 60) X d_X3_learnFollows_60 ?_
      refine r_cv2 (pc := 62) X xok4 (by decide +kernel) rfl (con_X4_symbolAt l) mf_X4_symbolAt ml_RX3_66 (by decide +kernel) (by decide +kernel) d_X3_learnFollows_62 ?_
      refine r_bipush (pc := 65) X d_X3_learnFollows_65 (by decide +kernel) ?_
      refine r_isub (pc := 67) X d_X3_learnFollows_67 ?_
      refine r_istore (pc := 68) X d_X3_learnFollows_68 (by decide +kernel) ?_
      refine r_iload (pc := 70) X d_X3_learnFollows_70 ?_
      refine r_if_lt (pc := 72) (tgt := 159) X d_X3_learnFollows_72 (by decide +kernel) ?_ ?_
      · exact t_X3_learnFollows_159 X hr h35
      · refine r_aload_n (pc := 75) X d_X3_learnFollows_75 fn0 ?_
        refine s_getF (pc := 76) (ci := 3) (k := 5) X xok3 (by decide +kernel) ob_35 trivial ly_35_5 (by decide +kernel) fl_RX3_15 d_X3_learnFollows_76 ?_
        refine r_iload (pc := 79) X d_X3_learnFollows_79 ?_
        refine s_iald (pc := 81) X tn_37 ln_37 d_X3_learnFollows_81 ?_
        refine r_aload_n (pc := 82) X d_X3_learnFollows_82 fn0 ?_
        refine r_aload_n (pc := 83) X d_X3_learnFollows_83 fn1 ?_
        refine r_iload (pc := 84) X d_X3_learnFollows_84 ?_
        refine r_iload (pc := 86) X d_X3_learnFollows_86 ?_
        refine r_iconst (pc := 88) X d_X3_learnFollows_88 (by decide +kernel) ?_
        refine r_iadd (pc := 89) X d_X3_learnFollows_89 ?_
        refine s_cv3 (pc := 90) (ci := 3) X xok3 (by decide +kernel) ob_35 rfl (con_X3_beginsFrom l) mf_X3_beginsFrom ml_RX3_80 (by decide +kernel) (by decide +kernel) d_X3_learnFollows_90 ?_
        refine r_ior (pc := 93) X d_X3_learnFollows_93 ?_
        refine r_istore (pc := 94) X d_X3_learnFollows_94 (by decide +kernel) ?_
        refine r_iload (pc := 96) X d_X3_learnFollows_96 ?_
        refine r_aload_n (pc := 98) X d_X3_learnFollows_98 fn0 ?_
        refine r_aload_n (pc := 99) X d_X3_learnFollows_99 fn1 ?_
        refine r_iload (pc := 100) X d_X3_learnFollows_100 ?_
        refine r_iload (pc := 102) X d_X3_learnFollows_102 ?_
        refine r_iconst (pc := 104) X d_X3_learnFollows_104 (by decide +kernel) ?_
        refine r_iadd (pc := 105) X d_X3_learnFollows_105 ?_
        refine s_cv3 (pc := 106) (ci := 3) X xok3 (by decide +kernel) ob_35 rfl (con_X3_emptyFrom l) mf_X3_emptyFrom ml_RX3_84 (by decide +kernel) (by decide +kernel) d_X3_learnFollows_106 ?_
        refine r_if_eq (pc := 109) (tgt := 122) X d_X3_learnFollows_109 (by decide +kernel) ?_ ?_
        · refine r_iconst (pc := 122) X d_X3_learnFollows_122 (by decide +kernel) ?_
          exact t_X3_learnFollows_123 X hr h35
        · refine r_aload_n (pc := 112) X d_X3_learnFollows_112 fn0 ?_
          refine s_getF (pc := 113) (ci := 3) (k := 5) X xok3 (by decide +kernel) ob_35 trivial ly_35_5 (by decide +kernel) fl_RX3_15 d_X3_learnFollows_113 ?_
          refine r_iload (pc := 116) X d_X3_learnFollows_116 ?_
          refine s_iald (pc := 118) X tn_37 ln_37 d_X3_learnFollows_118 ?_
          refine r_goto (pc := 119) (tgt := 123) X d_X3_learnFollows_119 (by decide +kernel) ?_
          exact t_X3_learnFollows_123 X hr h35
set_option maxRecDepth 20000 in
theorem m_X3_learnFollows {l : Launch} {f : Nat → Nat → Int32 → xH → xP → Prop}  {I2 : Nat → Nat → Int32 → xH → xP → xM → xK} {I14 : Nat → Nat → Int32 → xH → xP → xM → xK} {I35 : Nat → Nat → Int32 → xH → xP → xM → xK}
    (v0 : ∀ (a0 : Nat) (a1 : Nat) (a2 : Int32) (A : xH) (P : xP), f a0 a1 a2 A P → k_X3_learnFollows_0 P (xE (I2 a0 a1 a2 A P)) [some (.ref a0), some (.ref a1), some (.int a2), none, none, none, none, none, none, none] [] A)
    (v2 : ∀ (a0 : Nat) (a1 : Nat) (a2 : Int32) (A : xH) (P : xP), f a0 a1 a2 A P → ∀ (μ : xM) (L : xL) (st : List Value) (B : xH), I2 a0 a1 a2 A P μ L st B → k_X3_learnFollows_2 P (xB (I14 a0 a1 a2 A P) μ) L st B)
    (v14 : ∀ (a0 : Nat) (a1 : Nat) (a2 : Int32) (A : xH) (P : xP), f a0 a1 a2 A P → ∀ (μ : xM) (L : xL) (st : List Value) (B : xH), I14 a0 a1 a2 A P μ L st B → k_X3_learnFollows_14 P (xB (I2 a0 a1 a2 A P) μ) (xB (I35 a0 a1 a2 A P) μ) L st B)
    (v35 : ∀ (a0 : Nat) (a1 : Nat) (a2 : Int32) (A : xH) (P : xP), f a0 a1 a2 A P → ∀ (μ : xM) (L : xL) (st : List Value) (B : xH), I35 a0 a1 a2 A P μ L st B → k_X3_learnFollows_35 P (xB (I14 a0 a1 a2 A P) μ) (xB (I35 a0 a1 a2 A P) μ) L st B) : xCon l yX3_learnFollows cX3_learnFollows 10 none 2 48 xN xN 0 xFT xFT (w_RRI f) := by
  refine xc_RRI (plainFor_of_name pn_RX3) (by decide +kernel) (fun p e s m args below meth c g a0 a1 a2 A P h X hr _ => ?_)
  obtain ⟨h2, h14, h35⟩ := x_loop3 (p := p) (l := l) (e := e) (R := { frames := 2, cells := 0, slots := 0, locals := 48 }) (s := s) (m := m) (args := args) (below := below) (meth := meth) (c := c) (g := g) (nL := 10) (F := xFT) (n := xN) (cells := 0) (slots := 0) (Q := MQ below (xQc g xFT xN P) args s 0 0 (xFr g)) (I1 := I2 a0 a1 a2 A P) (I2 := I14 a0 a1 a2 A P) (I3 := I35 a0 a1 a2 A P) (pc1 := 2) (pc2 := 14) (pc3 := 35) (fun μ i2 i14 i35 => xAt_mono (t_X3_learnFollows_2 (P := P) X hr i14) (v2 a0 a1 a2 A P h μ)) (fun μ i2 i14 i35 => xAt_mono (t_X3_learnFollows_14 (P := P) X hr i2 i35) (v14 a0 a1 a2 A P h μ)) (fun μ i2 i14 i35 => xAt_mono (t_X3_learnFollows_35 (P := P) X hr i14 i35) (v35 a0 a1 a2 A P h μ))
  exact ⟨_, v0 a0 a1 a2 A P h, t_X3_learnFollows_0 X hr h2⟩
theorem d_X3_learnEndless_0 : decode cX3_learnEndless 0 = .ok (.iconst 0, 1) := by decide +kernel
theorem d_X3_learnEndless_1 : decode cX3_learnEndless 1 = .ok (.istore_n 2, 1) := by decide +kernel
theorem d_X3_learnEndless_2 : decode cX3_learnEndless 2 = .ok (.iload_n 2, 1) := by decide +kernel
theorem d_X3_learnEndless_3 : decode cX3_learnEndless 3 = .ok (.aload_n 1, 1) := by decide +kernel
theorem d_X3_learnEndless_4 : decode cX3_learnEndless 4 = .ok (.getfield 51, 3) := by decide +kernel
theorem d_X3_learnEndless_7 : decode cX3_learnEndless 7 = .ok (.if_icmp .ge 71, 3) := by decide +kernel
theorem d_X3_learnEndless_10 : decode cX3_learnEndless 10 = .ok (.iconst 0, 1) := by decide +kernel
theorem d_X3_learnEndless_11 : decode cX3_learnEndless 11 = .ok (.istore_n 3, 1) := by decide +kernel
theorem d_X3_learnEndless_12 : decode cX3_learnEndless 12 = .ok (.iload_n 3, 1) := by decide +kernel
theorem d_X3_learnEndless_13 : decode cX3_learnEndless 13 = .ok (.aload_n 1, 1) := by decide +kernel
theorem d_X3_learnEndless_14 : decode cX3_learnEndless 14 = .ok (.getfield 63, 3) := by decide +kernel
theorem d_X3_learnEndless_17 : decode cX3_learnEndless 17 = .ok (.iload_n 2, 1) := by decide +kernel
theorem d_X3_learnEndless_18 : decode cX3_learnEndless 18 = .ok (.iaload, 1) := by decide +kernel
theorem d_X3_learnEndless_19 : decode cX3_learnEndless 19 = .ok (.if_icmp .ge 53, 3) := by decide +kernel
theorem d_X3_learnEndless_22 : decode cX3_learnEndless 22 = .ok (.aload_n 1, 1) := by decide +kernel
theorem d_X3_learnEndless_23 : decode cX3_learnEndless 23 = .ok (.iload_n 2, 1) := by decide +kernel
theorem d_X3_learnEndless_24 : decode cX3_learnEndless 24 = .ok (.iload_n 3, 1) := by decide +kernel
theorem d_X3_learnEndless_25 : decode cX3_learnEndless 25 = .ok (.invokevirtual 66, 3) := by decide +kernel
theorem d_X3_learnEndless_28 : decode cX3_learnEndless 28 = .ok (.bipush 8, 2) := by decide +kernel
theorem d_X3_learnEndless_30 : decode cX3_learnEndless 30 = .ok (.isub, 1) := by decide +kernel
theorem d_X3_learnEndless_31 : decode cX3_learnEndless 31 = .ok (.istore 4, 2) := by decide +kernel
theorem d_X3_learnEndless_33 : decode cX3_learnEndless 33 = .ok (.iload 4, 2) := by decide +kernel
theorem d_X3_learnEndless_35 : decode cX3_learnEndless 35 = .ok (.ifCond .lt 31, 3) := by decide +kernel
theorem d_X3_learnEndless_38 : decode cX3_learnEndless 38 = .ok (.aload_n 0, 1) := by decide +kernel
theorem d_X3_learnEndless_39 : decode cX3_learnEndless 39 = .ok (.aload_n 1, 1) := by decide +kernel
theorem d_X3_learnEndless_40 : decode cX3_learnEndless 40 = .ok (.iload_n 2, 1) := by decide +kernel
theorem d_X3_learnEndless_41 : decode cX3_learnEndless 41 = .ok (.iload_n 3, 1) := by decide +kernel
theorem d_X3_learnEndless_42 : decode cX3_learnEndless 42 = .ok (.invokevirtual 88, 3) := by decide +kernel
theorem d_X3_learnEndless_45 : decode cX3_learnEndless 45 = .ok (.ifCond .eq 21, 3) := by decide +kernel
theorem d_X3_learnEndless_48 : decode cX3_learnEndless 48 = .ok (.aload_n 0, 1) := by decide +kernel
theorem d_X3_learnEndless_49 : decode cX3_learnEndless 49 = .ok (.getfield 18, 3) := by decide +kernel
theorem d_X3_learnEndless_52 : decode cX3_learnEndless 52 = .ok (.aload_n 1, 1) := by decide +kernel
theorem d_X3_learnEndless_53 : decode cX3_learnEndless 53 = .ok (.getfield 60, 3) := by decide +kernel
theorem d_X3_learnEndless_56 : decode cX3_learnEndless 56 = .ok (.iload_n 2, 1) := by decide +kernel
theorem d_X3_learnEndless_57 : decode cX3_learnEndless 57 = .ok (.iaload, 1) := by decide +kernel
theorem d_X3_learnEndless_58 : decode cX3_learnEndless 58 = .ok (.dup2, 1) := by decide +kernel
theorem d_X3_learnEndless_59 : decode cX3_learnEndless 59 = .ok (.iaload, 1) := by decide +kernel
theorem d_X3_learnEndless_60 : decode cX3_learnEndless 60 = .ok (.iconst 1, 1) := by decide +kernel
theorem d_X3_learnEndless_61 : decode cX3_learnEndless 61 = .ok (.iload 4, 2) := by decide +kernel
theorem d_X3_learnEndless_63 : decode cX3_learnEndless 63 = .ok (.ishl, 1) := by decide +kernel
theorem d_X3_learnEndless_64 : decode cX3_learnEndless 64 = .ok (.ior, 1) := by decide +kernel
theorem d_X3_learnEndless_65 : decode cX3_learnEndless 65 = .ok (.iastore, 1) := by decide +kernel
theorem d_X3_learnEndless_66 : decode cX3_learnEndless 66 = .ok (.iinc 3 1, 3) := by decide +kernel
theorem d_X3_learnEndless_69 : decode cX3_learnEndless 69 = .ok (.goto (-57), 3) := by decide +kernel
theorem d_X3_learnEndless_72 : decode cX3_learnEndless 72 = .ok (.iinc 2 1, 3) := by decide +kernel
theorem d_X3_learnEndless_75 : decode cX3_learnEndless 75 = .ok (.goto (-73), 3) := by decide +kernel
theorem d_X3_learnEndless_78 : decode cX3_learnEndless 78 = .ok (.iconst 0, 1) := by decide +kernel
theorem d_X3_learnEndless_79 : decode cX3_learnEndless 79 = .ok (.istore_n 2, 1) := by decide +kernel
theorem d_X3_learnEndless_80 : decode cX3_learnEndless 80 = .ok (.iload_n 2, 1) := by decide +kernel
theorem d_X3_learnEndless_81 : decode cX3_learnEndless 81 = .ok (.aload_n 1, 1) := by decide +kernel
theorem d_X3_learnEndless_82 : decode cX3_learnEndless 82 = .ok (.getfield 70, 3) := by decide +kernel
theorem d_X3_learnEndless_85 : decode cX3_learnEndless 85 = .ok (.if_icmp .ge 58, 3) := by decide +kernel
theorem d_X3_learnEndless_88 : decode cX3_learnEndless 88 = .ok (.iconst 0, 1) := by decide +kernel
theorem d_X3_learnEndless_89 : decode cX3_learnEndless 89 = .ok (.istore_n 3, 1) := by decide +kernel
theorem d_X3_learnEndless_90 : decode cX3_learnEndless 90 = .ok (.iload_n 3, 1) := by decide +kernel
theorem d_X3_learnEndless_91 : decode cX3_learnEndless 91 = .ok (.aload_n 1, 1) := by decide +kernel
theorem d_X3_learnEndless_92 : decode cX3_learnEndless 92 = .ok (.getfield 70, 3) := by decide +kernel
theorem d_X3_learnEndless_95 : decode cX3_learnEndless 95 = .ok (.if_icmp .ge 42, 3) := by decide +kernel
theorem d_X3_learnEndless_98 : decode cX3_learnEndless 98 = .ok (.aload_n 0, 1) := by decide +kernel
theorem d_X3_learnEndless_99 : decode cX3_learnEndless 99 = .ok (.getfield 18, 3) := by decide +kernel
theorem d_X3_learnEndless_102 : decode cX3_learnEndless 102 = .ok (.iload_n 3, 1) := by decide +kernel
theorem d_X3_learnEndless_103 : decode cX3_learnEndless 103 = .ok (.dup2, 1) := by decide +kernel
theorem d_X3_learnEndless_104 : decode cX3_learnEndless 104 = .ok (.iaload, 1) := by decide +kernel
theorem d_X3_learnEndless_105 : decode cX3_learnEndless 105 = .ok (.aload_n 0, 1) := by decide +kernel
theorem d_X3_learnEndless_106 : decode cX3_learnEndless 106 = .ok (.getfield 18, 3) := by decide +kernel
theorem d_X3_learnEndless_109 : decode cX3_learnEndless 109 = .ok (.iload_n 3, 1) := by decide +kernel
theorem d_X3_learnEndless_110 : decode cX3_learnEndless 110 = .ok (.iaload, 1) := by decide +kernel
theorem d_X3_learnEndless_111 : decode cX3_learnEndless 111 = .ok (.iload_n 2, 1) := by decide +kernel
theorem d_X3_learnEndless_112 : decode cX3_learnEndless 112 = .ok (.ishr, 1) := by decide +kernel
theorem d_X3_learnEndless_113 : decode cX3_learnEndless 113 = .ok (.iconst 1, 1) := by decide +kernel
theorem d_X3_learnEndless_114 : decode cX3_learnEndless 114 = .ok (.iand, 1) := by decide +kernel
theorem d_X3_learnEndless_115 : decode cX3_learnEndless 115 = .ok (.iconst 1, 1) := by decide +kernel
theorem d_X3_learnEndless_116 : decode cX3_learnEndless 116 = .ok (.if_icmp .ne 12, 3) := by decide +kernel
theorem d_X3_learnEndless_119 : decode cX3_learnEndless 119 = .ok (.aload_n 0, 1) := by decide +kernel
theorem d_X3_learnEndless_120 : decode cX3_learnEndless 120 = .ok (.getfield 18, 3) := by decide +kernel
theorem d_X3_learnEndless_123 : decode cX3_learnEndless 123 = .ok (.iload_n 2, 1) := by decide +kernel
theorem d_X3_learnEndless_124 : decode cX3_learnEndless 124 = .ok (.iaload, 1) := by decide +kernel
theorem d_X3_learnEndless_125 : decode cX3_learnEndless 125 = .ok (.goto 4, 3) := by decide +kernel
theorem d_X3_learnEndless_128 : decode cX3_learnEndless 128 = .ok (.iconst 0, 1) := by decide +kernel
theorem d_X3_learnEndless_129 : decode cX3_learnEndless 129 = .ok (.ior, 1) := by decide +kernel
theorem d_X3_learnEndless_130 : decode cX3_learnEndless 130 = .ok (.iastore, 1) := by decide +kernel
theorem d_X3_learnEndless_131 : decode cX3_learnEndless 131 = .ok (.iinc 3 1, 3) := by decide +kernel
theorem d_X3_learnEndless_134 : decode cX3_learnEndless 134 = .ok (.goto (-44), 3) := by decide +kernel
theorem d_X3_learnEndless_137 : decode cX3_learnEndless 137 = .ok (.iinc 2 1, 3) := by decide +kernel
theorem d_X3_learnEndless_140 : decode cX3_learnEndless 140 = .ok (.goto (-60), 3) := by decide +kernel
theorem d_X3_learnEndless_143 : decode cX3_learnEndless 143 = .ok (.aload_n 0, 1) := by decide +kernel
theorem d_X3_learnEndless_144 : decode cX3_learnEndless 144 = .ok (.iconst 0, 1) := by decide +kernel
theorem d_X3_learnEndless_145 : decode cX3_learnEndless 145 = .ok (.putfield 91, 3) := by decide +kernel
theorem d_X3_learnEndless_148 : decode cX3_learnEndless 148 = .ok (.iconst 0, 1) := by decide +kernel
theorem d_X3_learnEndless_149 : decode cX3_learnEndless 149 = .ok (.istore_n 2, 1) := by decide +kernel
theorem d_X3_learnEndless_150 : decode cX3_learnEndless 150 = .ok (.iload_n 2, 1) := by decide +kernel
theorem d_X3_learnEndless_151 : decode cX3_learnEndless 151 = .ok (.aload_n 1, 1) := by decide +kernel
theorem d_X3_learnEndless_152 : decode cX3_learnEndless 152 = .ok (.getfield 70, 3) := by decide +kernel
theorem d_X3_learnEndless_155 : decode cX3_learnEndless 155 = .ok (.if_icmp .ge 28, 3) := by decide +kernel
theorem d_X3_learnEndless_158 : decode cX3_learnEndless 158 = .ok (.aload_n 0, 1) := by decide +kernel
theorem d_X3_learnEndless_159 : decode cX3_learnEndless 159 = .ok (.dup, 1) := by decide +kernel
theorem d_X3_learnEndless_160 : decode cX3_learnEndless 160 = .ok (.getfield 91, 3) := by decide +kernel
theorem d_X3_learnEndless_163 : decode cX3_learnEndless 163 = .ok (.aload_n 0, 1) := by decide +kernel
theorem d_X3_learnEndless_164 : decode cX3_learnEndless 164 = .ok (.getfield 18, 3) := by decide +kernel
theorem d_X3_learnEndless_167 : decode cX3_learnEndless 167 = .ok (.iload_n 2, 1) := by decide +kernel
theorem d_X3_learnEndless_168 : decode cX3_learnEndless 168 = .ok (.iaload, 1) := by decide +kernel
theorem d_X3_learnEndless_169 : decode cX3_learnEndless 169 = .ok (.iconst 1, 1) := by decide +kernel
theorem d_X3_learnEndless_170 : decode cX3_learnEndless 170 = .ok (.iload_n 2, 1) := by decide +kernel
theorem d_X3_learnEndless_171 : decode cX3_learnEndless 171 = .ok (.ishl, 1) := by decide +kernel
theorem d_X3_learnEndless_172 : decode cX3_learnEndless 172 = .ok (.iand, 1) := by decide +kernel
theorem d_X3_learnEndless_173 : decode cX3_learnEndless 173 = .ok (.ior, 1) := by decide +kernel
theorem d_X3_learnEndless_174 : decode cX3_learnEndless 174 = .ok (.putfield 91, 3) := by decide +kernel
theorem d_X3_learnEndless_177 : decode cX3_learnEndless 177 = .ok (.iinc 2 1, 3) := by decide +kernel
theorem d_X3_learnEndless_180 : decode cX3_learnEndless 180 = .ok (.goto (-30), 3) := by decide +kernel
theorem d_X3_learnEndless_183 : decode cX3_learnEndless 183 = .ok (.return_, 1) := by decide +kernel
def k_X3_learnEndless_0 (P : xP) (C2 : xK) : xK := x_push (.int 0) (x_istore 2 (C2))
set_option maxRecDepth 20000 in
theorem t_X3_learnEndless_0 {p : Program} {l : Launch} {e : Env} {s : State} {m : MethodId} {args : Array Value} {below : List Frame} {meth : Method} {c : Code} {g : xG} (X : xX p s m args c meth cX3_learnEndless RX3 5 g) (hr : meth.sig.returnType = none) {P : xP} {C2 : xK} (h2 : xAt p l e { frames := 2, cells := 0, slots := 0, locals := 47 } s m args below meth c g 5 xFT xN 0 0 (MQ below (xQc g xFT xN P) args s 0 0 (xFr g)) C2 2) : xAt p l e { frames := 2, cells := 0, slots := 0, locals := 47 } s m args below meth c g 5 xFT xN 0 0 (MQ below (xQc g xFT xN P) args s 0 0 (xFr g)) (k_X3_learnEndless_0 P C2) 0 := by
  unfold k_X3_learnEndless_0
  refine r_iconst (pc := 0) X d_X3_learnEndless_0 (by decide +kernel) ?_
  refine r_istore_n (pc := 1) X d_X3_learnEndless_1 fn2 (by decide +kernel) ?_
  exact h2
def k_X3_learnEndless_2 (P : xP) (C12 : xK) (C80 : xK) : xK := x_iload 2 (x_aload 1 (x_getI xN 4 2 (x_icmp_ge (x_push (.int 0) (x_istore 2 (C80))) (x_push (.int 0) (x_istore 3 (C12))))))
set_option maxRecDepth 20000 in
theorem t_X3_learnEndless_2 {p : Program} {l : Launch} {e : Env} {s : State} {m : MethodId} {args : Array Value} {below : List Frame} {meth : Method} {c : Code} {g : xG} (X : xX p s m args c meth cX3_learnEndless RX3 5 g) (hr : meth.sig.returnType = none) {P : xP} {C12 : xK} {C80 : xK} (h12 : xAt p l e { frames := 2, cells := 0, slots := 0, locals := 47 } s m args below meth c g 5 xFT xN 0 0 (MQ below (xQc g xFT xN P) args s 0 0 (xFr g)) C12 12) (h80 : xAt p l e { frames := 2, cells := 0, slots := 0, locals := 47 } s m args below meth c g 5 xFT xN 0 0 (MQ below (xQc g xFT xN P) args s 0 0 (xFr g)) C80 80) : xAt p l e { frames := 2, cells := 0, slots := 0, locals := 47 } s m args below meth c g 5 xFT xN 0 0 (MQ below (xQc g xFT xN P) args s 0 0 (xFr g)) (k_X3_learnEndless_2 P C12 C80) 2 := by
  unfold k_X3_learnEndless_2
  refine r_iload_n (pc := 2) X d_X3_learnEndless_2 fn2 ?_
  refine r_aload_n (pc := 3) X d_X3_learnEndless_3 fn1 ?_
  refine r_getI (pc := 4) X xok4 (by decide +kernel) (by decide +kernel) fl_RX3_51 d_X3_learnEndless_4 ?_
  refine r_icmp_ge (pc := 7) (tgt := 78) X d_X3_learnEndless_7 (by decide +kernel) ?_ ?_
  · refine r_iconst (pc := 78) X d_X3_learnEndless_78 (by decide +kernel) ?_
    refine r_istore_n (pc := 79) X d_X3_learnEndless_79 fn2 (by decide +kernel) ?_
    exact h80
  · refine r_iconst (pc := 10) X d_X3_learnEndless_10 (by decide +kernel) ?_
    refine r_istore_n (pc := 11) X d_X3_learnEndless_11 fn3 (by decide +kernel) ?_
    exact h12
def k_X3_learnEndless_66 (P : xP) (C12 : xK) : xK := x_iinc 3 1 (C12)
set_option maxRecDepth 20000 in
theorem t_X3_learnEndless_66 {p : Program} {l : Launch} {e : Env} {s : State} {m : MethodId} {args : Array Value} {below : List Frame} {meth : Method} {c : Code} {g : xG} (X : xX p s m args c meth cX3_learnEndless RX3 5 g) (hr : meth.sig.returnType = none) {P : xP} {C12 : xK} (h12 : xAt p l e { frames := 2, cells := 0, slots := 0, locals := 47 } s m args below meth c g 5 xFT xN 0 0 (MQ below (xQc g xFT xN P) args s 0 0 (xFr g)) C12 12) : xAt p l e { frames := 2, cells := 0, slots := 0, locals := 47 } s m args below meth c g 5 xFT xN 0 0 (MQ below (xQc g xFT xN P) args s 0 0 (xFr g)) (k_X3_learnEndless_66 P C12) 66 := by
  unfold k_X3_learnEndless_66
  refine r_iinc (pc := 66) X d_X3_learnEndless_66 (by decide +kernel) (by decide +kernel) ?_
  refine r_goto (pc := 69) (tgt := 12) X d_X3_learnEndless_69 (by decide +kernel) ?_
  exact h12
def k_X3_learnEndless_12 (P : xP) (C2 : xK) (C12 : xK) : xK := x_iload 3 (x_aload 1 (x_getF xN xFT 4 8 (x_iload 2 (x_iald xN (x_icmp_ge (x_iinc 2 1 (C2)) (x_aload 1 (x_iload 2 (x_iload 3 (x_cv2 xN 4 (w_RII f_X4_symbolAt) (x_push (.int 8) (x_isub (x_istore 4 (x_iload 4 (x_if_lt ((k_X3_learnEndless_66 P C12)) (x_aload 0 (x_aload 1 (x_iload 2 (x_iload 3 (y_cv3 35 (w_RRII f_X3_emptyBut) (x_if_eq ((k_X3_learnEndless_66 P C12)) (x_aload 0 (y_getF 35 38 (x_aload 1 (x_getF xN xFT 4 7 (x_iload 2 (x_iald xN (x_dup2 (y_iald 38 5 (x_push (.int 1) (x_iload 4 (x_ishl (x_ior (y_iast 38 5 ((k_X3_learnEndless_66 P C12)))))))))))))))))))))))))))))))))))
set_option maxRecDepth 20000 in
theorem t_X3_learnEndless_12 {p : Program} {l : Launch} {e : Env} {s : State} {m : MethodId} {args : Array Value} {below : List Frame} {meth : Method} {c : Code} {g : xG} (X : xX p s m args c meth cX3_learnEndless RX3 5 g) (hr : meth.sig.returnType = none) {P : xP} {C2 : xK} {C12 : xK} (h2 : xAt p l e { frames := 2, cells := 0, slots := 0, locals := 47 } s m args below meth c g 5 xFT xN 0 0 (MQ below (xQc g xFT xN P) args s 0 0 (xFr g)) C2 2) (h12 : xAt p l e { frames := 2, cells := 0, slots := 0, locals := 47 } s m args below meth c g 5 xFT xN 0 0 (MQ below (xQc g xFT xN P) args s 0 0 (xFr g)) C12 12) : xAt p l e { frames := 2, cells := 0, slots := 0, locals := 47 } s m args below meth c g 5 xFT xN 0 0 (MQ below (xQc g xFT xN P) args s 0 0 (xFr g)) (k_X3_learnEndless_12 P C2 C12) 12 := by
  unfold k_X3_learnEndless_12
  refine r_iload_n (pc := 12) X d_X3_learnEndless_12 fn3 ?_
  refine r_aload_n (pc := 13) X d_X3_learnEndless_13 fn1 ?_
  refine r_getF (pc := 14) X xok4 (by decide +kernel) (by decide +kernel) fl_RX3_63 d_X3_learnEndless_14 ?_
  refine r_iload_n (pc := 17) X d_X3_learnEndless_17 fn2 ?_
  refine r_iald (pc := 18) X d_X3_learnEndless_18 ?_
  refine r_icmp_ge (pc := 19) (tgt := 72) X d_X3_learnEndless_19 (by decide +kernel) ?_ ?_
  · refine r_iinc (pc := 72) X d_X3_learnEndless_72 (by decide +kernel) (by decide +kernel) ?_
    refine r_goto (pc := 75) (tgt := 2) X d_X3_learnEndless_75 (by decide +kernel) ?_
    exact h2
  · refine r_aload_n (pc := 22) X d_X3_learnEndless_22 fn1 ?_
    refine r_iload_n (pc := 23) X d_X3_learnEndless_23 fn2 ?_
    refine r_iload_n (pc := 24) X d_X3_learnEndless_24 fn3 ?_
    refine r_cv2 (pc := 25) X xok4 (by decide +kernel) rfl (con_X4_symbolAt l) mf_X4_symbolAt ml_RX3_66 (by decide +kernel) (by decide +kernel) d_X3_learnEndless_25 ?_
    refine r_bipush (pc := 28) X d_X3_learnEndless_28 (by decide +kernel) ?_
    refine r_isub (pc := 30) X d_X3_learnEndless_30 ?_
    refine r_istore (pc := 31) X d_X3_learnEndless_31 (by decide +kernel) ?_
    refine r_iload (pc := 33) X d_X3_learnEndless_33 ?_
    refine r_if_lt (pc := 35) (tgt := 66) X d_X3_learnEndless_35 (by decide +kernel) ?_ ?_
    · exact t_X3_learnEndless_66 X hr h12
    · refine r_aload_n (pc := 38) X d_X3_learnEndless_38 fn0 ?_
      refine r_aload_n (pc := 39) X d_X3_learnEndless_39 fn1 ?_
      refine r_iload_n (pc := 40) X d_X3_learnEndless_40 fn2 ?_
      refine r_iload_n (pc := 41) X d_X3_learnEndless_41 fn3 ?_
      refine s_cv3 (pc := 42) (ci := 3) X xok3 (by decide +kernel) ob_35 rfl (con_X3_emptyBut l) mf_X3_emptyBut ml_RX3_88 (by decide +kernel) (by decide +kernel) d_X3_learnEndless_42 ?_
      refine r_if_eq (pc := 45) (tgt := 66) X d_X3_learnEndless_45 (by decide +kernel) ?_ ?_
      · exact t_X3_learnEndless_66 X hr h12
      · refine r_aload_n (pc := 48) X d_X3_learnEndless_48 fn0 ?_
        refine s_getF (pc := 49) (ci := 3) (k := 6) X xok3 (by decide +kernel) ob_35 trivial ly_35_6 (by decide +kernel) fl_RX3_18 d_X3_learnEndless_49 ?_
        refine r_aload_n (pc := 52) X d_X3_learnEndless_52 fn1 ?_
        refine r_getF (pc := 53) X xok4 (by decide +kernel) (by decide +kernel) fl_RX3_60 d_X3_learnEndless_53 ?_
        refine r_iload_n (pc := 56) X d_X3_learnEndless_56 fn2 ?_
        refine r_iald (pc := 57) X d_X3_learnEndless_57 ?_
        refine r_dup2 (pc := 58) X d_X3_learnEndless_58 ?_
        refine s_iald (pc := 59) X tn_38 ln_38 d_X3_learnEndless_59 ?_
        refine r_iconst (pc := 60) X d_X3_learnEndless_60 (by decide +kernel) ?_
        refine r_iload (pc := 61) X d_X3_learnEndless_61 ?_
        refine r_ishl (pc := 63) X d_X3_learnEndless_63 ?_
        refine r_ior (pc := 64) X d_X3_learnEndless_64 ?_
        refine s_iast (pc := 65) X tn_38 ln_38 d_X3_learnEndless_65 ?_
        exact t_X3_learnEndless_66 X hr h12
def k_X3_learnEndless_80 (P : xP) (C90 : xK) (C150 : xK) : xK := x_iload 2 (x_aload 1 (x_getI xN 4 1 (x_icmp_ge (x_aload 0 (x_push (.int 0) (y_putI 35 2 (x_push (.int 0) (x_istore 2 (C150)))))) (x_push (.int 0) (x_istore 3 (C90))))))
set_option maxRecDepth 20000 in
theorem t_X3_learnEndless_80 {p : Program} {l : Launch} {e : Env} {s : State} {m : MethodId} {args : Array Value} {below : List Frame} {meth : Method} {c : Code} {g : xG} (X : xX p s m args c meth cX3_learnEndless RX3 5 g) (hr : meth.sig.returnType = none) {P : xP} {C90 : xK} {C150 : xK} (h90 : xAt p l e { frames := 2, cells := 0, slots := 0, locals := 47 } s m args below meth c g 5 xFT xN 0 0 (MQ below (xQc g xFT xN P) args s 0 0 (xFr g)) C90 90) (h150 : xAt p l e { frames := 2, cells := 0, slots := 0, locals := 47 } s m args below meth c g 5 xFT xN 0 0 (MQ below (xQc g xFT xN P) args s 0 0 (xFr g)) C150 150) : xAt p l e { frames := 2, cells := 0, slots := 0, locals := 47 } s m args below meth c g 5 xFT xN 0 0 (MQ below (xQc g xFT xN P) args s 0 0 (xFr g)) (k_X3_learnEndless_80 P C90 C150) 80 := by
  unfold k_X3_learnEndless_80
  refine r_iload_n (pc := 80) X d_X3_learnEndless_80 fn2 ?_
  refine r_aload_n (pc := 81) X d_X3_learnEndless_81 fn1 ?_
  refine r_getI (pc := 82) X xok4 (by decide +kernel) (by decide +kernel) fl_RX3_70 d_X3_learnEndless_82 ?_
  refine r_icmp_ge (pc := 85) (tgt := 143) X d_X3_learnEndless_85 (by decide +kernel) ?_ ?_
  · refine r_aload_n (pc := 143) X d_X3_learnEndless_143 fn0 ?_
    refine r_iconst (pc := 144) X d_X3_learnEndless_144 (by decide +kernel) ?_
    refine s_putI (pc := 145) (ci := 3) X xok3 (by decide +kernel) ob_35 (by decide +kernel) (by decide +kernel) (by decide +kernel) fl_RX3_91 d_X3_learnEndless_145 ?_
    refine r_iconst (pc := 148) X d_X3_learnEndless_148 (by decide +kernel) ?_
    refine r_istore_n (pc := 149) X d_X3_learnEndless_149 fn2 (by decide +kernel) ?_
    exact h150
  · refine r_iconst (pc := 88) X d_X3_learnEndless_88 (by decide +kernel) ?_
    refine r_istore_n (pc := 89) X d_X3_learnEndless_89 fn3 (by decide +kernel) ?_
    exact h90
def k_X3_learnEndless_129 (P : xP) (C90 : xK) : xK := x_ior (x_iast xN (x_iinc 3 1 (C90)))
set_option maxRecDepth 20000 in
theorem t_X3_learnEndless_129 {p : Program} {l : Launch} {e : Env} {s : State} {m : MethodId} {args : Array Value} {below : List Frame} {meth : Method} {c : Code} {g : xG} (X : xX p s m args c meth cX3_learnEndless RX3 5 g) (hr : meth.sig.returnType = none) {P : xP} {C90 : xK} (h90 : xAt p l e { frames := 2, cells := 0, slots := 0, locals := 47 } s m args below meth c g 5 xFT xN 0 0 (MQ below (xQc g xFT xN P) args s 0 0 (xFr g)) C90 90) : xAt p l e { frames := 2, cells := 0, slots := 0, locals := 47 } s m args below meth c g 5 xFT xN 0 0 (MQ below (xQc g xFT xN P) args s 0 0 (xFr g)) (k_X3_learnEndless_129 P C90) 129 := by
  unfold k_X3_learnEndless_129
  refine r_ior (pc := 129) X d_X3_learnEndless_129 ?_
  refine r_iast (pc := 130) X d_X3_learnEndless_130 ?_
  refine r_iinc (pc := 131) X d_X3_learnEndless_131 (by decide +kernel) (by decide +kernel) ?_
  refine r_goto (pc := 134) (tgt := 90) X d_X3_learnEndless_134 (by decide +kernel) ?_
  exact h90
def k_X3_learnEndless_90 (P : xP) (C80 : xK) (C90 : xK) : xK := x_iload 3 (x_aload 1 (x_getI xN 4 1 (x_icmp_ge (x_iinc 2 1 (C80)) (x_aload 0 (y_getF 35 38 (x_iload 3 (x_dup2 (y_iald 38 5 (x_aload 0 (y_getF 35 38 (x_iload 3 (y_iald 38 5 (x_iload 2 (x_ishr (x_push (.int 1) (x_iand (x_push (.int 1) (x_icmp_ne (x_push (.int 0) ((k_X3_learnEndless_129 P C90))) (x_aload 0 (y_getF 35 38 (x_iload 2 (y_iald 38 5 ((k_X3_learnEndless_129 P C90))))))))))))))))))))))))
set_option maxRecDepth 20000 in
theorem t_X3_learnEndless_90 {p : Program} {l : Launch} {e : Env} {s : State} {m : MethodId} {args : Array Value} {below : List Frame} {meth : Method} {c : Code} {g : xG} (X : xX p s m args c meth cX3_learnEndless RX3 5 g) (hr : meth.sig.returnType = none) {P : xP} {C80 : xK} {C90 : xK} (h80 : xAt p l e { frames := 2, cells := 0, slots := 0, locals := 47 } s m args below meth c g 5 xFT xN 0 0 (MQ below (xQc g xFT xN P) args s 0 0 (xFr g)) C80 80) (h90 : xAt p l e { frames := 2, cells := 0, slots := 0, locals := 47 } s m args below meth c g 5 xFT xN 0 0 (MQ below (xQc g xFT xN P) args s 0 0 (xFr g)) C90 90) : xAt p l e { frames := 2, cells := 0, slots := 0, locals := 47 } s m args below meth c g 5 xFT xN 0 0 (MQ below (xQc g xFT xN P) args s 0 0 (xFr g)) (k_X3_learnEndless_90 P C80 C90) 90 := by
  unfold k_X3_learnEndless_90
  refine r_iload_n (pc := 90) X d_X3_learnEndless_90 fn3 ?_
  refine r_aload_n (pc := 91) X d_X3_learnEndless_91 fn1 ?_
  refine r_getI (pc := 92) X xok4 (by decide +kernel) (by decide +kernel) fl_RX3_70 d_X3_learnEndless_92 ?_
  refine r_icmp_ge (pc := 95) (tgt := 137) X d_X3_learnEndless_95 (by decide +kernel) ?_ ?_
  · refine r_iinc (pc := 137) X d_X3_learnEndless_137 (by decide +kernel) (by decide +kernel) ?_
    refine r_goto (pc := 140) (tgt := 80) X d_X3_learnEndless_140 (by decide +kernel) ?_
    exact h80
  · refine r_aload_n (pc := 98) X d_X3_learnEndless_98 fn0 ?_
    refine s_getF (pc := 99) (ci := 3) (k := 6) X xok3 (by decide +kernel) ob_35 trivial ly_35_6 (by decide +kernel) fl_RX3_18 d_X3_learnEndless_99 ?_
    refine r_iload_n (pc := 102) X d_X3_learnEndless_102 fn3 ?_
    refine r_dup2 (pc := 103) X d_X3_learnEndless_103 ?_
    refine s_iald (pc := 104) X tn_38 ln_38 d_X3_learnEndless_104 ?_
    refine r_aload_n (pc := 105) X d_X3_learnEndless_105 fn0 ?_
    refine s_getF (pc := 106) (ci := 3) (k := 6) X xok3 (by decide +kernel) ob_35 trivial ly_35_6 (by decide +kernel) fl_RX3_18 d_X3_learnEndless_106 ?_
    refine r_iload_n (pc := 109) X d_X3_learnEndless_109 fn3 ?_
    refine s_iald (pc := 110) X tn_38 ln_38 d_X3_learnEndless_110 ?_
    refine r_iload_n (pc := 111) X d_X3_learnEndless_111 fn2 ?_
    refine r_ishr (pc := 112) X d_X3_learnEndless_112 ?_
    refine r_iconst (pc := 113) X d_X3_learnEndless_113 (by decide +kernel) ?_
    refine r_iand (pc := 114) X d_X3_learnEndless_114 ?_
    refine r_iconst (pc := 115) X d_X3_learnEndless_115 (by decide +kernel) ?_
    refine r_icmp_ne (pc := 116) (tgt := 128) X d_X3_learnEndless_116 (by decide +kernel) ?_ ?_
    · refine r_iconst (pc := 128) X d_X3_learnEndless_128 (by decide +kernel) ?_
      exact t_X3_learnEndless_129 X hr h90
    · refine r_aload_n (pc := 119) X d_X3_learnEndless_119 fn0 ?_
      refine s_getF (pc := 120) (ci := 3) (k := 6) X xok3 (by decide +kernel) ob_35 trivial ly_35_6 (by decide +kernel) fl_RX3_18 d_X3_learnEndless_120 ?_
      refine r_iload_n (pc := 123) X d_X3_learnEndless_123 fn2 ?_
      refine s_iald (pc := 124) X tn_38 ln_38 d_X3_learnEndless_124 ?_
      refine r_goto (pc := 125) (tgt := 129) X d_X3_learnEndless_125 (by decide +kernel) ?_
      exact t_X3_learnEndless_129 X hr h90
def k_X3_learnEndless_150 (P : xP) (C150 : xK) : xK := x_iload 2 (x_aload 1 (x_getI xN 4 1 (x_icmp_ge (x_vret P) (x_aload 0 (x_dup (y_getI 35 2 (x_aload 0 (y_getF 35 38 (x_iload 2 (y_iald 38 5 (x_push (.int 1) (x_iload 2 (x_ishl (x_iand (x_ior (y_putI 35 2 (x_iinc 2 1 (C150))))))))))))))))))
set_option maxRecDepth 20000 in
theorem t_X3_learnEndless_150 {p : Program} {l : Launch} {e : Env} {s : State} {m : MethodId} {args : Array Value} {below : List Frame} {meth : Method} {c : Code} {g : xG} (X : xX p s m args c meth cX3_learnEndless RX3 5 g) (hr : meth.sig.returnType = none) {P : xP} {C150 : xK} (h150 : xAt p l e { frames := 2, cells := 0, slots := 0, locals := 47 } s m args below meth c g 5 xFT xN 0 0 (MQ below (xQc g xFT xN P) args s 0 0 (xFr g)) C150 150) : xAt p l e { frames := 2, cells := 0, slots := 0, locals := 47 } s m args below meth c g 5 xFT xN 0 0 (MQ below (xQc g xFT xN P) args s 0 0 (xFr g)) (k_X3_learnEndless_150 P C150) 150 := by
  unfold k_X3_learnEndless_150
  refine r_iload_n (pc := 150) X d_X3_learnEndless_150 fn2 ?_
  refine r_aload_n (pc := 151) X d_X3_learnEndless_151 fn1 ?_
  refine r_getI (pc := 152) X xok4 (by decide +kernel) (by decide +kernel) fl_RX3_70 d_X3_learnEndless_152 ?_
  refine r_icmp_ge (pc := 155) (tgt := 183) X d_X3_learnEndless_155 (by decide +kernel) ?_ ?_
  · exact r_vret (pc := 183) X hr d_X3_learnEndless_183
  · refine r_aload_n (pc := 158) X d_X3_learnEndless_158 fn0 ?_
    refine r_dup (pc := 159) X d_X3_learnEndless_159 ?_
    refine s_getI (pc := 160) (ci := 3) X xok3 (by decide +kernel) ob_35 (by decide +kernel) fl_RX3_91 d_X3_learnEndless_160 ?_
    refine r_aload_n (pc := 163) X d_X3_learnEndless_163 fn0 ?_
    refine s_getF (pc := 164) (ci := 3) (k := 6) X xok3 (by decide +kernel) ob_35 trivial ly_35_6 (by decide +kernel) fl_RX3_18 d_X3_learnEndless_164 ?_
    refine r_iload_n (pc := 167) X d_X3_learnEndless_167 fn2 ?_
    refine s_iald (pc := 168) X tn_38 ln_38 d_X3_learnEndless_168 ?_
    refine r_iconst (pc := 169) X d_X3_learnEndless_169 (by decide +kernel) ?_
    refine r_iload_n (pc := 170) X d_X3_learnEndless_170 fn2 ?_
    refine r_ishl (pc := 171) X d_X3_learnEndless_171 ?_
    refine r_iand (pc := 172) X d_X3_learnEndless_172 ?_
    refine r_ior (pc := 173) X d_X3_learnEndless_173 ?_
    refine s_putI (pc := 174) (ci := 3) X xok3 (by decide +kernel) ob_35 (by decide +kernel) (by decide +kernel) (by decide +kernel) fl_RX3_91 d_X3_learnEndless_174 ?_
    refine r_iinc (pc := 177) X d_X3_learnEndless_177 (by decide +kernel) (by decide +kernel) ?_
    refine r_goto (pc := 180) (tgt := 150) X d_X3_learnEndless_180 (by decide +kernel) ?_
    exact h150
set_option maxRecDepth 20000 in
theorem m_X3_learnEndless {l : Launch} {f : Nat → Nat → xH → xP → Prop}  {I2 : Nat → Nat → xH → xP → xM → xK} {I12 : Nat → Nat → xH → xP → xM → xK} {I80 : Nat → Nat → xH → xP → xM → xK} {I90 : Nat → Nat → xH → xP → xM → xK} {I150 : Nat → Nat → xH → xP → xM → xK}
    (v0 : ∀ (a0 : Nat) (a1 : Nat) (A : xH) (P : xP), f a0 a1 A P → k_X3_learnEndless_0 P (xE (I2 a0 a1 A P)) [some (.ref a0), some (.ref a1), none, none, none] [] A)
    (v2 : ∀ (a0 : Nat) (a1 : Nat) (A : xH) (P : xP), f a0 a1 A P → ∀ (μ : xM) (L : xL) (st : List Value) (B : xH), I2 a0 a1 A P μ L st B → k_X3_learnEndless_2 P (xB (I12 a0 a1 A P) μ) (xE (I80 a0 a1 A P)) L st B)
    (v12 : ∀ (a0 : Nat) (a1 : Nat) (A : xH) (P : xP), f a0 a1 A P → ∀ (μ : xM) (L : xL) (st : List Value) (B : xH), I12 a0 a1 A P μ L st B → k_X3_learnEndless_12 P (xB (I2 a0 a1 A P) μ) (xB (I12 a0 a1 A P) μ) L st B)
    (v80 : ∀ (a0 : Nat) (a1 : Nat) (A : xH) (P : xP), f a0 a1 A P → ∀ (μ : xM) (L : xL) (st : List Value) (B : xH), I80 a0 a1 A P μ L st B → k_X3_learnEndless_80 P (xB (I90 a0 a1 A P) μ) (xE (I150 a0 a1 A P)) L st B)
    (v90 : ∀ (a0 : Nat) (a1 : Nat) (A : xH) (P : xP), f a0 a1 A P → ∀ (μ : xM) (L : xL) (st : List Value) (B : xH), I90 a0 a1 A P μ L st B → k_X3_learnEndless_90 P (xB (I80 a0 a1 A P) μ) (xB (I90 a0 a1 A P) μ) L st B)
    (v150 : ∀ (a0 : Nat) (a1 : Nat) (A : xH) (P : xP), f a0 a1 A P → ∀ (μ : xM) (L : xL) (st : List Value) (B : xH), I150 a0 a1 A P μ L st B → k_X3_learnEndless_150 P (xB (I150 a0 a1 A P) μ) L st B) : xCon l yX3_learnEndless cX3_learnEndless 5 none 2 47 xN xN 0 xFT xFT (w_RR f) := by
  refine xc_RR (plainFor_of_name pn_RX3) (by decide +kernel) (fun p e s m args below meth c g a0 a1 A P h X hr _ => ?_)
  have h150 := x_loop1 (p := p) (l := l) (e := e) (R := { frames := 2, cells := 0, slots := 0, locals := 47 }) (s := s) (m := m) (args := args) (below := below) (meth := meth) (c := c) (g := g) (nL := 5) (F := xFT) (n := xN) (cells := 0) (slots := 0) (Q := MQ below (xQc g xFT xN P) args s 0 0 (xFr g)) (I := I150 a0 a1 A P) (pc1 := 150) (fun μ i150 => xAt_mono (t_X3_learnEndless_150 (P := P) X hr i150) (v150 a0 a1 A P h μ))
  obtain ⟨h80, h90⟩ := x_loop2 (p := p) (l := l) (e := e) (R := { frames := 2, cells := 0, slots := 0, locals := 47 }) (s := s) (m := m) (args := args) (below := below) (meth := meth) (c := c) (g := g) (nL := 5) (F := xFT) (n := xN) (cells := 0) (slots := 0) (Q := MQ below (xQc g xFT xN P) args s 0 0 (xFr g)) (I1 := I80 a0 a1 A P) (I2 := I90 a0 a1 A P) (pc1 := 80) (pc2 := 90) (fun μ i80 i90 => xAt_mono (t_X3_learnEndless_80 (P := P) X hr i90 h150) (v80 a0 a1 A P h μ)) (fun μ i80 i90 => xAt_mono (t_X3_learnEndless_90 (P := P) X hr i80 i90) (v90 a0 a1 A P h μ))
  obtain ⟨h2, h12⟩ := x_loop2 (p := p) (l := l) (e := e) (R := { frames := 2, cells := 0, slots := 0, locals := 47 }) (s := s) (m := m) (args := args) (below := below) (meth := meth) (c := c) (g := g) (nL := 5) (F := xFT) (n := xN) (cells := 0) (slots := 0) (Q := MQ below (xQc g xFT xN P) args s 0 0 (xFr g)) (I1 := I2 a0 a1 A P) (I2 := I12 a0 a1 A P) (pc1 := 2) (pc2 := 12) (fun μ i2 i12 => xAt_mono (t_X3_learnEndless_2 (P := P) X hr i12 h80) (v2 a0 a1 A P h μ)) (fun μ i2 i12 => xAt_mono (t_X3_learnEndless_12 (P := P) X hr i2 i12) (v12 a0 a1 A P h μ))
  exact ⟨_, v0 a0 a1 A P h, t_X3_learnEndless_0 X hr h2⟩
/-- begins: a round -/
def bgR (v : xV) (em : Int32) (g : Nat → Int32) : Nat → Nat → Int32
  | 0 => g
  | r + 1 => fun k => if k = vrk v r then bgR v em g r k ||| bF v r em (bgR v em g r) (vrs v r) 0 else bgR v em g r k
def bgU (v : xV) (em : Int32) (g : Nat → Int32) : Nat → Int32 := bgR v em g (vR v)
theorem or_fix {g : Nat → Int32} {K : Nat} {x : Int32} (h : g K ||| x = g K) : (fun k => if k = K then g k ||| x else g k) = g := by
  funext k
  by_cases e : k = K
  · subst e; rw [if_pos rfl]; exact h
  · rw [if_neg e]
def f_X3_learnBegins (q m : Nat) (A : xH) (P : xP) : Prop := q = 35 ∧ m = 8 ∧ ∃ v, isM A 8 v ∧ P none (xsA A 36 (iter (bgU v (xi A 35 1)) 64 (xi A 36)))
def lb2 (A : xH) (P : xP) : xM → xK := fun μ L st B => ∃ v n o1 o2 o3 o4, isM A 8 v ∧ P none (xsA A 36 (iter (bgU v (xi A 35 1)) 64 (xi A 36))) ∧ n ≤ 64 ∧ B = xsA A 36 (iter (bgU v (xi A 35 1)) n (xi A 36)) ∧ st = [] ∧ L = [some (.ref 35), some (.ref 8), some (.int (nI n)), o1, o2, o3, o4] ∧ μ = (64 - n, 20, 0)
def lb13 (A : xH) (P : xP) : xM → xK := fun μ L st B => ∃ v n r mo o3 o4, isM A 8 v ∧ P none (xsA A 36 (iter (bgU v (xi A 35 1)) 64 (xi A 36))) ∧ n < 64 ∧ r ≤ vR v ∧ (mo = false → bgR v (xi A 35 1) (iter (bgU v (xi A 35 1)) n (xi A 36)) r = iter (bgU v (xi A 35 1)) n (xi A 36)) ∧ B = xsA A 36 (bgR v (xi A 35 1) (iter (bgU v (xi A 35 1)) n (xi A 36)) r) ∧ st = [] ∧ L = [some (.ref 35), some (.ref 8), some (.int (nI n)), some (.int (bI mo)), some (.int (nI r)), o3, o4] ∧ μ = (64 - n, vR v - r, 0)
theorem isM_36 {A : xH} {v : xV} {c : Nat} {f : Nat → Int32} (h : isM A 8 v) (hc : 18 ≤ c) : isM (xsA A c f) 8 v := isM_fr h (fr_sA (S := fun d _ => d = c) fr_rf (fun _ => rfl)) (by omega)
set_option maxRecDepth 20000 in
theorem con_X3_learnBegins (l : Launch) : xCon l yX3_learnBegins cX3_learnBegins 7 none 2 48 xN xN 0 xFT xFT (w_RR f_X3_learnBegins) := by
  refine m_X3_learnBegins (I2 := fun q m A P => lb2 A P) (I13 := fun q m A P => lb13 A P) ?_ ?_ ?_
  · rintro q m A P ⟨rfl, rfl, v, hM, hP⟩
    simp (disch := omega) only [k_X3_learnBegins_0, k_X3_learnBegins_2, k_X3_learnBegins_13, k_X3_learnBegins_65, k_X3_learnBegins_70, k_X3_learnBegins_99, w_RRII, x_aload, x_getF, x_getI, x_iald, x_icmp_eq, x_icmp_ge, x_if_ne, x_iinc, x_iload, x_ior, x_istore, x_push, x_vret, y_cv3, y_getF, y_iald, y_iast, xFT, xbool0, xbool1, Nat.reduceAdd, Nat.zero_add, xgl_0, xgl_s, xgl_n, xst_0, xst_1n, xst_1i, xst_1r, xst_1l, xst_s, set_0, set_s, true_and, and_true, xres, xcat_nil, xcat_i, xcat_r, xcat_l, Nat.add_zero, xble0, xble1, xble2, xble3, xble4, xble5, xble6, xble7, xble8, pk_mul, nI_add, nI_1, nI_leI, nI_ltI, nI_eq, n_in, n_cl, z_eq, z_lt, z_le, z_gt, z_ge, z_qe, o_eq, o_lt, o_le, o_gt, o_ge, vp0, vp1, cl0, cl1, n_sub, n_sub1, n_pm1, n_a0, n_0a, ofn, lN0, Nat.reduceLT, Nat.reduceLeDiff, Nat.reduceMul, Nat.reduceSub, Nat.reduceEqDiff, ne_eq, true_implies, false_implies, not_true_eq_false, not_false_eq_true, and_self, and_true, true_and, and_false, false_and, implies_true, if_true, if_false, i00, i10, i01, i11, ob_0, ob_1, tn_2, ln_2, ob_3, tn_4, ln_4, ob_5, tn_6, ln_6, tn_7, ln_7, ob_8, tn_9, ln_9, tn_10, ln_10, tn_11, ln_11, tn_12, ln_12, tn_13, ln_13, tn_14, ln_14, tn_15, ln_15, tn_16, ln_16, tn_17, ln_17, ob_18, tn_19, ln_19, tn_20, ln_20, tn_21, ln_21, tn_22, ln_22, tn_23, ln_23, tn_24, ln_24, tn_25, ln_25, tn_26, ln_26, tn_27, ln_27, ob_28, tn_29, ln_29, tn_30, ln_30, ob_31, tn_32, ln_32, tn_33, ln_33, ob_34, ob_35, tn_36, ln_36, tn_37, ln_37, tn_38, ln_38, ob_39, tn_40, ln_40, tn_41, ln_41, tn_42, ln_42, tn_43, ln_43, tn_44, ln_44, tn_45, ln_45, tn_46, ln_46, tn_47, ln_47, tn_48, ln_48, tn_49, ln_49, tn_50, ln_50, tn_51, ln_51, ob_52, tn_53, ln_53, tn_54, ln_54, tn_55, ln_55, tn_56, ln_56, ob_57, tn_58, ln_58, tn_59, ln_59, tn_60, ln_60, tn_61, ln_61, tn_62, ln_62, tn_63, ln_63, tn_64, ln_64, tn_65, ln_65, ob_66, tn_67, ln_67, tn_68, ln_68, tn_69, ln_69, tn_70, ln_70, tn_71, ln_71, tn_72, ln_72, tn_73, ln_73, ob_74, tn_75, ln_75, tn_76, ln_76, tn_77, ln_77, tn_78, ln_78, tn_79, ln_79, tn_80, ln_80, tn_81, ln_81, tn_82, ln_82, tn_83, ln_83, ob_84, tn_85, ln_85, tn_86, ln_86, tn_87, ln_87, tn_88, ln_88, tn_89, ln_89, tn_90, ln_90, tn_91, ln_91, tn_92, ln_92, tn_93, ln_93, ob_94, tn_95, ln_95, tn_96, ln_96, tn_97, ln_97, tn_98, ln_98, tn_99, ln_99, tn_100, ln_100, tn_101, ln_101, tn_102, ln_102, tn_103, ln_103, ob_104, tn_105, ln_105, tn_106, ln_106, tn_107, ln_107, tn_108, ln_108, tn_109, ln_109, tn_110, ln_110, tn_111, ln_111, tn_112, ln_112, tn_113, ln_113, ob_114, tn_115, ln_115, tn_116, ln_116, tn_117, ln_117, tn_118, ln_118, tn_119, ln_119, tn_120, ln_120, tn_121, ln_121, tn_122, ln_122, tn_123, ln_123, ob_124, tn_125, ln_125, tn_126, ln_126, tn_127, ln_127, tn_128, ln_128, tn_129, ln_129, tn_130, ln_130, tn_131, ln_131, tn_132, ln_132, tn_133, ln_133, ob_134, tn_135, ln_135, tn_136, ln_136, tn_137, ln_137, tn_138, ln_138, tn_139, ln_139, tn_140, ln_140, tn_141, ln_141, tn_142, ln_142, tn_143, ln_143, ob_144, tn_145, ln_145, tn_146, ln_146, tn_147, ln_147, tn_148, ln_148, tn_149, ln_149, tn_150, ln_150, tn_151, ln_151, tn_152, ln_152, tn_153, ln_153, ob_154, tn_155, ln_155, tn_156, ln_156, tn_157, ln_157, tn_158, ln_158, tn_159, ln_159, tn_160, ln_160, tn_161, ln_161, tn_162, ln_162, tn_163, ln_163, ob_164, tn_165, ln_165, tn_166, ln_166, ob_167, tn_168, ln_168, tn_169, ln_169, tn_170, ln_170, tn_171, ln_171, tn_172, ln_172, tn_173, ln_173, tn_174, ln_174, tn_175, ln_175, tn_176, ln_176, ob_177, tn_178, ln_178, tn_179, ln_179, ob_180, tn_181, ln_181, tn_182, ln_182, tn_183, ln_183, tn_184, ln_184, tn_185, ln_185, tn_186, ln_186, tn_187, ln_187, tn_188, ln_188, tn_189, ln_189, tn_190, ln_190, tn_191, ln_191, tn_192, ln_192, tn_193, ln_193, tn_194, ln_194, tn_195, ln_195, tn_196, ln_196, tn_197, ln_197, tn_198, ln_198, tn_199, ln_199, tn_200, ln_200, tn_201, ln_201, tn_202, ln_202, tn_203, ln_203, tn_204, ln_204, tn_205, ln_205, tn_206, ln_206, tn_207, ln_207, tn_208, ln_208, tn_209, ln_209, tn_210, ln_210, tn_211, ln_211, tn_212, ln_212, tn_213, ln_213, tn_214, ln_214, tn_215, ln_215, tn_216, ln_216, tn_217, ln_217, tn_218, ln_218, tn_219, ln_219, tn_220, ln_220, tn_221, ln_221, tn_222, ln_222, tn_223, ln_223, tn_224, ln_224, tn_225, ln_225, tn_226, ln_226, tn_227, ln_227, tn_228, ln_228, tn_229, ln_229, tn_230, ln_230, lx2, lx3, lx4, lx5, lx6, lx7, lx8, lx9, lx10, lx14, lx15, lx16, lx18, lx20, lx24, lx25, lx27, lx32, lx36, lx40, lx41, lx42, lx43, lx45, lx48, lx52, lx54, lx56, lx57, lx58, lx60, lx61, lx62, lx63, lx64, lx66, lx69, lx73, lx80, lx81, lx84, lx85, lx87, lx94, lx96, lx97, lx120, lx128, lx135, lx160, lx162, lx163, lx165, lx200, lx232, lx242, lx243, lx255, lx256, lx320, lx325, lx400, lx405, lx464, lx512, lx600, lx640, lx752, lx900, lx940, lx1000, lx1024, lx1764, lx3360, lx3840, lx5000, lx6400, lx9050, lx9998, lx9999, lx10000, lx25600, lx76800, lx99999]
    exact xE0 (64, 20, 0) ⟨v, 0, none, none, none, none, hM, hP, by omega, (xsA_self fun _ => rfl).symm, rfl, rfl, rfl⟩
  · rintro q m A P - μ L st B ⟨v, n, o1, o2, o3, o4, hM, hP, hn, rfl, rfl, rfl, rfl⟩
    have hR := hM.1.2.1.2.2.1
    simp (disch := omega) only [k_X3_learnBegins_0, k_X3_learnBegins_2, k_X3_learnBegins_13, k_X3_learnBegins_65, k_X3_learnBegins_70, k_X3_learnBegins_99, w_RRII, x_aload, x_getF, x_getI, x_iald, x_icmp_eq, x_icmp_ge, x_if_ne, x_iinc, x_iload, x_ior, x_istore, x_push, x_vret, y_cv3, y_getF, y_iald, y_iast, xFT, xbool0, xbool1, Nat.reduceAdd, Nat.zero_add, xgl_0, xgl_s, xgl_n, xst_0, xst_1n, xst_1i, xst_1r, xst_1l, xst_s, set_0, set_s, true_and, and_true, xres, xcat_nil, xcat_i, xcat_r, xcat_l, Nat.add_zero, xble0, xble1, xble2, xble3, xble4, xble5, xble6, xble7, xble8, ob_8, ly_8_5, ly_8_6, ly_8_7, ly_8_8, ly_8_9, ly_8_10, ly_8_11, ly_8_12, ly_8_13, pk_mul, nI_add, nI_1, nI_leI, nI_ltI, nI_eq, n_in, n_cl, z_eq, z_lt, z_le, z_gt, z_ge, z_qe, o_eq, o_lt, o_le, o_gt, o_ge, vp0, vp1, cl0, cl1, n_sub, n_sub1, n_pm1, n_a0, n_0a, ofn, lN0, Nat.reduceLT, Nat.reduceLeDiff, Nat.reduceMul, Nat.reduceSub, Nat.reduceEqDiff, ne_eq, true_implies, false_implies, not_true_eq_false, not_false_eq_true, and_self, and_true, true_and, and_false, false_and, implies_true, if_true, if_false, i00, i10, i01, i11, ob_0, ob_1, tn_2, ln_2, ob_3, tn_4, ln_4, ob_5, tn_6, ln_6, tn_7, ln_7, ob_8, tn_9, ln_9, tn_10, ln_10, tn_11, ln_11, tn_12, ln_12, tn_13, ln_13, tn_14, ln_14, tn_15, ln_15, tn_16, ln_16, tn_17, ln_17, ob_18, tn_19, ln_19, tn_20, ln_20, tn_21, ln_21, tn_22, ln_22, tn_23, ln_23, tn_24, ln_24, tn_25, ln_25, tn_26, ln_26, tn_27, ln_27, ob_28, tn_29, ln_29, tn_30, ln_30, ob_31, tn_32, ln_32, tn_33, ln_33, ob_34, ob_35, tn_36, ln_36, tn_37, ln_37, tn_38, ln_38, ob_39, tn_40, ln_40, tn_41, ln_41, tn_42, ln_42, tn_43, ln_43, tn_44, ln_44, tn_45, ln_45, tn_46, ln_46, tn_47, ln_47, tn_48, ln_48, tn_49, ln_49, tn_50, ln_50, tn_51, ln_51, ob_52, tn_53, ln_53, tn_54, ln_54, tn_55, ln_55, tn_56, ln_56, ob_57, tn_58, ln_58, tn_59, ln_59, tn_60, ln_60, tn_61, ln_61, tn_62, ln_62, tn_63, ln_63, tn_64, ln_64, tn_65, ln_65, ob_66, tn_67, ln_67, tn_68, ln_68, tn_69, ln_69, tn_70, ln_70, tn_71, ln_71, tn_72, ln_72, tn_73, ln_73, ob_74, tn_75, ln_75, tn_76, ln_76, tn_77, ln_77, tn_78, ln_78, tn_79, ln_79, tn_80, ln_80, tn_81, ln_81, tn_82, ln_82, tn_83, ln_83, ob_84, tn_85, ln_85, tn_86, ln_86, tn_87, ln_87, tn_88, ln_88, tn_89, ln_89, tn_90, ln_90, tn_91, ln_91, tn_92, ln_92, tn_93, ln_93, ob_94, tn_95, ln_95, tn_96, ln_96, tn_97, ln_97, tn_98, ln_98, tn_99, ln_99, tn_100, ln_100, tn_101, ln_101, tn_102, ln_102, tn_103, ln_103, ob_104, tn_105, ln_105, tn_106, ln_106, tn_107, ln_107, tn_108, ln_108, tn_109, ln_109, tn_110, ln_110, tn_111, ln_111, tn_112, ln_112, tn_113, ln_113, ob_114, tn_115, ln_115, tn_116, ln_116, tn_117, ln_117, tn_118, ln_118, tn_119, ln_119, tn_120, ln_120, tn_121, ln_121, tn_122, ln_122, tn_123, ln_123, ob_124, tn_125, ln_125, tn_126, ln_126, tn_127, ln_127, tn_128, ln_128, tn_129, ln_129, tn_130, ln_130, tn_131, ln_131, tn_132, ln_132, tn_133, ln_133, ob_134, tn_135, ln_135, tn_136, ln_136, tn_137, ln_137, tn_138, ln_138, tn_139, ln_139, tn_140, ln_140, tn_141, ln_141, tn_142, ln_142, tn_143, ln_143, ob_144, tn_145, ln_145, tn_146, ln_146, tn_147, ln_147, tn_148, ln_148, tn_149, ln_149, tn_150, ln_150, tn_151, ln_151, tn_152, ln_152, tn_153, ln_153, ob_154, tn_155, ln_155, tn_156, ln_156, tn_157, ln_157, tn_158, ln_158, tn_159, ln_159, tn_160, ln_160, tn_161, ln_161, tn_162, ln_162, tn_163, ln_163, ob_164, tn_165, ln_165, tn_166, ln_166, ob_167, tn_168, ln_168, tn_169, ln_169, tn_170, ln_170, tn_171, ln_171, tn_172, ln_172, tn_173, ln_173, tn_174, ln_174, tn_175, ln_175, tn_176, ln_176, ob_177, tn_178, ln_178, tn_179, ln_179, ob_180, tn_181, ln_181, tn_182, ln_182, tn_183, ln_183, tn_184, ln_184, tn_185, ln_185, tn_186, ln_186, tn_187, ln_187, tn_188, ln_188, tn_189, ln_189, tn_190, ln_190, tn_191, ln_191, tn_192, ln_192, tn_193, ln_193, tn_194, ln_194, tn_195, ln_195, tn_196, ln_196, tn_197, ln_197, tn_198, ln_198, tn_199, ln_199, tn_200, ln_200, tn_201, ln_201, tn_202, ln_202, tn_203, ln_203, tn_204, ln_204, tn_205, ln_205, tn_206, ln_206, tn_207, ln_207, tn_208, ln_208, tn_209, ln_209, tn_210, ln_210, tn_211, ln_211, tn_212, ln_212, tn_213, ln_213, tn_214, ln_214, tn_215, ln_215, tn_216, ln_216, tn_217, ln_217, tn_218, ln_218, tn_219, ln_219, tn_220, ln_220, tn_221, ln_221, tn_222, ln_222, tn_223, ln_223, tn_224, ln_224, tn_225, ln_225, tn_226, ln_226, tn_227, ln_227, tn_228, ln_228, tn_229, ln_229, tn_230, ln_230, lx2, lx3, lx4, lx5, lx6, lx7, lx8, lx9, lx10, lx14, lx15, lx16, lx18, lx20, lx24, lx25, lx27, lx32, lx36, lx40, lx41, lx42, lx43, lx45, lx48, lx52, lx54, lx56, lx57, lx58, lx60, lx61, lx62, lx63, lx64, lx66, lx69, lx73, lx80, lx81, lx84, lx85, lx87, lx94, lx96, lx97, lx120, lx128, lx135, lx160, lx162, lx163, lx165, lx200, lx232, lx242, lx243, lx255, lx256, lx320, lx325, lx400, lx405, lx464, lx512, lx600, lx640, lx752, lx900, lx940, lx1000, lx1024, lx1764, lx3360, lx3840, lx5000, lx6400, lx9050, lx9998, lx9999, lx10000, lx25600, lx76800, lx99999]
    refine ⟨fun a => ?_, fun a => ?_⟩
    · rw [show n = 64 by omega]; exact hP
    · exact xB2 (c := vR v - 0) (by omega) ⟨v, n, 0, false, o3, o4, hM, hP, by omega, Nat.zero_le _, fun _ => rfl, rfl, rfl, rfl, rfl⟩
  · rintro q m A P - μ L st B ⟨v, n, r, mo, o3, o4, hM, hP, hn, hr, hmo, rfl, rfl, rfl, rfl⟩
    have hR := hM.1.2.1.2.2.1
    obtain ⟨-, -, e2, -, -, er⟩ := M8 hM
    simp (disch := omega) only [k_X3_learnBegins_0, k_X3_learnBegins_2, k_X3_learnBegins_13, k_X3_learnBegins_65, k_X3_learnBegins_70, k_X3_learnBegins_99, w_RRII, x_aload, x_getF, x_getI, x_iald, x_icmp_eq, x_icmp_ge, x_if_ne, x_iinc, x_iload, x_ior, x_istore, x_push, x_vret, y_cv3, y_getF, y_iald, y_iast, xFT, xbool0, xbool1, Nat.reduceAdd, Nat.zero_add, xgl_0, xgl_s, xgl_n, xst_0, xst_1n, xst_1i, xst_1r, xst_1l, xst_s, set_0, set_s, true_and, and_true, xres, xcat_nil, xcat_i, xcat_r, xcat_l, Nat.add_zero, xble0, xble1, xble2, xble3, xble4, xble5, xble6, xble7, xble8, ob_8, ly_8_5, ly_8_6, ly_8_7, ly_8_8, ly_8_9, ly_8_10, ly_8_11, ly_8_12, ly_8_13, pk_mul, nI_add, nI_1, nI_leI, nI_ltI, nI_eq, n_in, n_cl, z_eq, z_lt, z_le, z_gt, z_ge, z_qe, o_eq, o_lt, o_le, o_gt, o_ge, vp0, vp1, cl0, cl1, n_sub, n_sub1, n_pm1, n_a0, n_0a, ofn, lN0, Nat.reduceLT, Nat.reduceLeDiff, Nat.reduceMul, Nat.reduceSub, Nat.reduceEqDiff, ne_eq, true_implies, false_implies, not_true_eq_false, not_false_eq_true, and_self, and_true, true_and, and_false, false_and, implies_true, if_true, if_false, i00, i10, i01, i11, ob_0, ob_1, tn_2, ln_2, ob_3, tn_4, ln_4, ob_5, tn_6, ln_6, tn_7, ln_7, ob_8, tn_9, ln_9, tn_10, ln_10, tn_11, ln_11, tn_12, ln_12, tn_13, ln_13, tn_14, ln_14, tn_15, ln_15, tn_16, ln_16, tn_17, ln_17, ob_18, tn_19, ln_19, tn_20, ln_20, tn_21, ln_21, tn_22, ln_22, tn_23, ln_23, tn_24, ln_24, tn_25, ln_25, tn_26, ln_26, tn_27, ln_27, ob_28, tn_29, ln_29, tn_30, ln_30, ob_31, tn_32, ln_32, tn_33, ln_33, ob_34, ob_35, tn_36, ln_36, tn_37, ln_37, tn_38, ln_38, ob_39, tn_40, ln_40, tn_41, ln_41, tn_42, ln_42, tn_43, ln_43, tn_44, ln_44, tn_45, ln_45, tn_46, ln_46, tn_47, ln_47, tn_48, ln_48, tn_49, ln_49, tn_50, ln_50, tn_51, ln_51, ob_52, tn_53, ln_53, tn_54, ln_54, tn_55, ln_55, tn_56, ln_56, ob_57, tn_58, ln_58, tn_59, ln_59, tn_60, ln_60, tn_61, ln_61, tn_62, ln_62, tn_63, ln_63, tn_64, ln_64, tn_65, ln_65, ob_66, tn_67, ln_67, tn_68, ln_68, tn_69, ln_69, tn_70, ln_70, tn_71, ln_71, tn_72, ln_72, tn_73, ln_73, ob_74, tn_75, ln_75, tn_76, ln_76, tn_77, ln_77, tn_78, ln_78, tn_79, ln_79, tn_80, ln_80, tn_81, ln_81, tn_82, ln_82, tn_83, ln_83, ob_84, tn_85, ln_85, tn_86, ln_86, tn_87, ln_87, tn_88, ln_88, tn_89, ln_89, tn_90, ln_90, tn_91, ln_91, tn_92, ln_92, tn_93, ln_93, ob_94, tn_95, ln_95, tn_96, ln_96, tn_97, ln_97, tn_98, ln_98, tn_99, ln_99, tn_100, ln_100, tn_101, ln_101, tn_102, ln_102, tn_103, ln_103, ob_104, tn_105, ln_105, tn_106, ln_106, tn_107, ln_107, tn_108, ln_108, tn_109, ln_109, tn_110, ln_110, tn_111, ln_111, tn_112, ln_112, tn_113, ln_113, ob_114, tn_115, ln_115, tn_116, ln_116, tn_117, ln_117, tn_118, ln_118, tn_119, ln_119, tn_120, ln_120, tn_121, ln_121, tn_122, ln_122, tn_123, ln_123, ob_124, tn_125, ln_125, tn_126, ln_126, tn_127, ln_127, tn_128, ln_128, tn_129, ln_129, tn_130, ln_130, tn_131, ln_131, tn_132, ln_132, tn_133, ln_133, ob_134, tn_135, ln_135, tn_136, ln_136, tn_137, ln_137, tn_138, ln_138, tn_139, ln_139, tn_140, ln_140, tn_141, ln_141, tn_142, ln_142, tn_143, ln_143, ob_144, tn_145, ln_145, tn_146, ln_146, tn_147, ln_147, tn_148, ln_148, tn_149, ln_149, tn_150, ln_150, tn_151, ln_151, tn_152, ln_152, tn_153, ln_153, ob_154, tn_155, ln_155, tn_156, ln_156, tn_157, ln_157, tn_158, ln_158, tn_159, ln_159, tn_160, ln_160, tn_161, ln_161, tn_162, ln_162, tn_163, ln_163, ob_164, tn_165, ln_165, tn_166, ln_166, ob_167, tn_168, ln_168, tn_169, ln_169, tn_170, ln_170, tn_171, ln_171, tn_172, ln_172, tn_173, ln_173, tn_174, ln_174, tn_175, ln_175, tn_176, ln_176, ob_177, tn_178, ln_178, tn_179, ln_179, ob_180, tn_181, ln_181, tn_182, ln_182, tn_183, ln_183, tn_184, ln_184, tn_185, ln_185, tn_186, ln_186, tn_187, ln_187, tn_188, ln_188, tn_189, ln_189, tn_190, ln_190, tn_191, ln_191, tn_192, ln_192, tn_193, ln_193, tn_194, ln_194, tn_195, ln_195, tn_196, ln_196, tn_197, ln_197, tn_198, ln_198, tn_199, ln_199, tn_200, ln_200, tn_201, ln_201, tn_202, ln_202, tn_203, ln_203, tn_204, ln_204, tn_205, ln_205, tn_206, ln_206, tn_207, ln_207, tn_208, ln_208, tn_209, ln_209, tn_210, ln_210, tn_211, ln_211, tn_212, ln_212, tn_213, ln_213, tn_214, ln_214, tn_215, ln_215, tn_216, ln_216, tn_217, ln_217, tn_218, ln_218, tn_219, ln_219, tn_220, ln_220, tn_221, ln_221, tn_222, ln_222, tn_223, ln_223, tn_224, ln_224, tn_225, ln_225, tn_226, ln_226, tn_227, ln_227, tn_228, ln_228, tn_229, ln_229, tn_230, ln_230, lx2, lx3, lx4, lx5, lx6, lx7, lx8, lx9, lx10, lx14, lx15, lx16, lx18, lx20, lx24, lx25, lx27, lx32, lx36, lx40, lx41, lx42, lx43, lx45, lx48, lx52, lx54, lx56, lx57, lx58, lx60, lx61, lx62, lx63, lx64, lx66, lx69, lx73, lx80, lx81, lx84, lx85, lx87, lx94, lx96, lx97, lx120, lx128, lx135, lx160, lx162, lx163, lx165, lx200, lx232, lx242, lx243, lx255, lx256, lx320, lx325, lx400, lx405, lx464, lx512, lx600, lx640, lx752, lx900, lx940, lx1000, lx1024, lx1764, lx3360, lx3840, lx5000, lx6400, lx9050, lx9998, lx9999, lx10000, lx25600, lx76800, lx99999, si_ne, si_eq, sl_ne, sl_eq, xl_si, xi_sl, sA_ne, sA_eq, xl_sA, e2, bI_t]
    refine ⟨fun a => ?_, fun a => ?_⟩
    · have : r = vR v := by omega
      subst this
      refine ⟨fun z => ?_, fun z => ?_⟩
      · exact xB1 (b := 64 - (n + 1)) (by omega) ⟨v, n + 1, _, _, _, _, hM, hP, by omega, rfl, rfl, rfl, rfl⟩
      · have h1 := hmo z
        have := iter_fix (f := bgU v (xi A 35 1)) (x := xi A 36) (n := n) h1 64 (by omega)
        rw [this] at hP
        rw [h1]; exact hP
    · have hw := wf_r hM.1.2.1 (show r < vR v by omega)
      simp (disch := omega) only [(er r (by omega)).1, show r < 10 by omega, show vrk v r < 5 by omega, pk_mul, nI_add, nI_1, nI_leI, nI_ltI, nI_eq, n_in, n_cl, z_eq, z_lt, z_le, z_gt, z_ge, z_qe, o_eq, o_lt, o_le, o_gt, o_ge, vp0, vp1, cl0, cl1, n_sub, n_sub1, n_pm1, n_a0, n_0a, ofn, lN0, Nat.reduceLT, Nat.reduceLeDiff, Nat.reduceMul, Nat.reduceSub, Nat.reduceEqDiff, ne_eq, true_implies, false_implies, not_true_eq_false, not_false_eq_true, and_self, and_true, true_and, and_false, false_and, implies_true, if_true, if_false, i00, i10, i01, i11, ob_0, ob_1, tn_2, ln_2, ob_3, tn_4, ln_4, ob_5, tn_6, ln_6, tn_7, ln_7, ob_8, tn_9, ln_9, tn_10, ln_10, tn_11, ln_11, tn_12, ln_12, tn_13, ln_13, tn_14, ln_14, tn_15, ln_15, tn_16, ln_16, tn_17, ln_17, ob_18, tn_19, ln_19, tn_20, ln_20, tn_21, ln_21, tn_22, ln_22, tn_23, ln_23, tn_24, ln_24, tn_25, ln_25, tn_26, ln_26, tn_27, ln_27, ob_28, tn_29, ln_29, tn_30, ln_30, ob_31, tn_32, ln_32, tn_33, ln_33, ob_34, ob_35, tn_36, ln_36, tn_37, ln_37, tn_38, ln_38, ob_39, tn_40, ln_40, tn_41, ln_41, tn_42, ln_42, tn_43, ln_43, tn_44, ln_44, tn_45, ln_45, tn_46, ln_46, tn_47, ln_47, tn_48, ln_48, tn_49, ln_49, tn_50, ln_50, tn_51, ln_51, ob_52, tn_53, ln_53, tn_54, ln_54, tn_55, ln_55, tn_56, ln_56, ob_57, tn_58, ln_58, tn_59, ln_59, tn_60, ln_60, tn_61, ln_61, tn_62, ln_62, tn_63, ln_63, tn_64, ln_64, tn_65, ln_65, ob_66, tn_67, ln_67, tn_68, ln_68, tn_69, ln_69, tn_70, ln_70, tn_71, ln_71, tn_72, ln_72, tn_73, ln_73, ob_74, tn_75, ln_75, tn_76, ln_76, tn_77, ln_77, tn_78, ln_78, tn_79, ln_79, tn_80, ln_80, tn_81, ln_81, tn_82, ln_82, tn_83, ln_83, ob_84, tn_85, ln_85, tn_86, ln_86, tn_87, ln_87, tn_88, ln_88, tn_89, ln_89, tn_90, ln_90, tn_91, ln_91, tn_92, ln_92, tn_93, ln_93, ob_94, tn_95, ln_95, tn_96, ln_96, tn_97, ln_97, tn_98, ln_98, tn_99, ln_99, tn_100, ln_100, tn_101, ln_101, tn_102, ln_102, tn_103, ln_103, ob_104, tn_105, ln_105, tn_106, ln_106, tn_107, ln_107, tn_108, ln_108, tn_109, ln_109, tn_110, ln_110, tn_111, ln_111, tn_112, ln_112, tn_113, ln_113, ob_114, tn_115, ln_115, tn_116, ln_116, tn_117, ln_117, tn_118, ln_118, tn_119, ln_119, tn_120, ln_120, tn_121, ln_121, tn_122, ln_122, tn_123, ln_123, ob_124, tn_125, ln_125, tn_126, ln_126, tn_127, ln_127, tn_128, ln_128, tn_129, ln_129, tn_130, ln_130, tn_131, ln_131, tn_132, ln_132, tn_133, ln_133, ob_134, tn_135, ln_135, tn_136, ln_136, tn_137, ln_137, tn_138, ln_138, tn_139, ln_139, tn_140, ln_140, tn_141, ln_141, tn_142, ln_142, tn_143, ln_143, ob_144, tn_145, ln_145, tn_146, ln_146, tn_147, ln_147, tn_148, ln_148, tn_149, ln_149, tn_150, ln_150, tn_151, ln_151, tn_152, ln_152, tn_153, ln_153, ob_154, tn_155, ln_155, tn_156, ln_156, tn_157, ln_157, tn_158, ln_158, tn_159, ln_159, tn_160, ln_160, tn_161, ln_161, tn_162, ln_162, tn_163, ln_163, ob_164, tn_165, ln_165, tn_166, ln_166, ob_167, tn_168, ln_168, tn_169, ln_169, tn_170, ln_170, tn_171, ln_171, tn_172, ln_172, tn_173, ln_173, tn_174, ln_174, tn_175, ln_175, tn_176, ln_176, ob_177, tn_178, ln_178, tn_179, ln_179, ob_180, tn_181, ln_181, tn_182, ln_182, tn_183, ln_183, tn_184, ln_184, tn_185, ln_185, tn_186, ln_186, tn_187, ln_187, tn_188, ln_188, tn_189, ln_189, tn_190, ln_190, tn_191, ln_191, tn_192, ln_192, tn_193, ln_193, tn_194, ln_194, tn_195, ln_195, tn_196, ln_196, tn_197, ln_197, tn_198, ln_198, tn_199, ln_199, tn_200, ln_200, tn_201, ln_201, tn_202, ln_202, tn_203, ln_203, tn_204, ln_204, tn_205, ln_205, tn_206, ln_206, tn_207, ln_207, tn_208, ln_208, tn_209, ln_209, tn_210, ln_210, tn_211, ln_211, tn_212, ln_212, tn_213, ln_213, tn_214, ln_214, tn_215, ln_215, tn_216, ln_216, tn_217, ln_217, tn_218, ln_218, tn_219, ln_219, tn_220, ln_220, tn_221, ln_221, tn_222, ln_222, tn_223, ln_223, tn_224, ln_224, tn_225, ln_225, tn_226, ln_226, tn_227, ln_227, tn_228, ln_228, tn_229, ln_229, tn_230, ln_230, lx2, lx3, lx4, lx5, lx6, lx7, lx8, lx9, lx10, lx14, lx15, lx16, lx18, lx20, lx24, lx25, lx27, lx32, lx36, lx40, lx41, lx42, lx43, lx45, lx48, lx52, lx54, lx56, lx57, lx58, lx60, lx61, lx62, lx63, lx64, lx66, lx69, lx73, lx80, lx81, lx84, lx85, lx87, lx94, lx96, lx97, lx120, lx128, lx135, lx160, lx162, lx163, lx165, lx200, lx232, lx242, lx243, lx255, lx256, lx320, lx325, lx400, lx405, lx464, lx512, lx600, lx640, lx752, lx900, lx940, lx1000, lx1024, lx1764, lx3360, lx3840, lx5000, lx6400, lx9050, lx9998, lx9999, lx10000, lx25600, lx76800, lx99999]
      refine ⟨rfl, rfl, v, r, 0, isM_36 hM (by omega), by omega, rfl, rfl, Nat.zero_le _, ?_⟩
      have e36 : xi (xsA A 36 (bgR v (xi A 35 1) (iter (bgU v (xi A 35 1)) n (xi A 36)) r)) 36 = bgR v (xi A 35 1) (iter (bgU v (xi A 35 1)) n (xi A 36)) r := funext fun k => sA_eq
      have e35 : xi (xsA A 36 (bgR v (xi A 35 1) (iter (bgU v (xi A 35 1)) n (xi A 36)) r)) 35 1 = xi A 35 1 := sA_ne (by omega)
      rw [e36, e35, Nat.sub_zero]
      simp (disch := omega) only [k_X3_learnBegins_0, k_X3_learnBegins_2, k_X3_learnBegins_13, k_X3_learnBegins_65, k_X3_learnBegins_70, k_X3_learnBegins_99, w_RRII, x_aload, x_getF, x_getI, x_iald, x_icmp_eq, x_icmp_ge, x_if_ne, x_iinc, x_iload, x_ior, x_istore, x_push, x_vret, y_cv3, y_getF, y_iald, y_iast, xFT, xbool0, xbool1, Nat.reduceAdd, Nat.zero_add, xgl_0, xgl_s, xgl_n, xst_0, xst_1n, xst_1i, xst_1r, xst_1l, xst_s, set_0, set_s, true_and, and_true, xres, xcat_nil, xcat_i, xcat_r, xcat_l, Nat.add_zero, xble0, xble1, xble2, xble3, xble4, xble5, xble6, xble7, xble8, ob_8, ly_8_5, ly_8_6, ly_8_7, ly_8_8, ly_8_9, ly_8_10, ly_8_11, ly_8_12, ly_8_13, pk_mul, nI_add, nI_1, nI_leI, nI_ltI, nI_eq, n_in, n_cl, z_eq, z_lt, z_le, z_gt, z_ge, z_qe, o_eq, o_lt, o_le, o_gt, o_ge, vp0, vp1, cl0, cl1, n_sub, n_sub1, n_pm1, n_a0, n_0a, ofn, lN0, Nat.reduceLT, Nat.reduceLeDiff, Nat.reduceMul, Nat.reduceSub, Nat.reduceEqDiff, ne_eq, true_implies, false_implies, not_true_eq_false, not_false_eq_true, and_self, and_true, true_and, and_false, false_and, implies_true, if_true, if_false, i00, i10, i01, i11, ob_0, ob_1, tn_2, ln_2, ob_3, tn_4, ln_4, ob_5, tn_6, ln_6, tn_7, ln_7, ob_8, tn_9, ln_9, tn_10, ln_10, tn_11, ln_11, tn_12, ln_12, tn_13, ln_13, tn_14, ln_14, tn_15, ln_15, tn_16, ln_16, tn_17, ln_17, ob_18, tn_19, ln_19, tn_20, ln_20, tn_21, ln_21, tn_22, ln_22, tn_23, ln_23, tn_24, ln_24, tn_25, ln_25, tn_26, ln_26, tn_27, ln_27, ob_28, tn_29, ln_29, tn_30, ln_30, ob_31, tn_32, ln_32, tn_33, ln_33, ob_34, ob_35, tn_36, ln_36, tn_37, ln_37, tn_38, ln_38, ob_39, tn_40, ln_40, tn_41, ln_41, tn_42, ln_42, tn_43, ln_43, tn_44, ln_44, tn_45, ln_45, tn_46, ln_46, tn_47, ln_47, tn_48, ln_48, tn_49, ln_49, tn_50, ln_50, tn_51, ln_51, ob_52, tn_53, ln_53, tn_54, ln_54, tn_55, ln_55, tn_56, ln_56, ob_57, tn_58, ln_58, tn_59, ln_59, tn_60, ln_60, tn_61, ln_61, tn_62, ln_62, tn_63, ln_63, tn_64, ln_64, tn_65, ln_65, ob_66, tn_67, ln_67, tn_68, ln_68, tn_69, ln_69, tn_70, ln_70, tn_71, ln_71, tn_72, ln_72, tn_73, ln_73, ob_74, tn_75, ln_75, tn_76, ln_76, tn_77, ln_77, tn_78, ln_78, tn_79, ln_79, tn_80, ln_80, tn_81, ln_81, tn_82, ln_82, tn_83, ln_83, ob_84, tn_85, ln_85, tn_86, ln_86, tn_87, ln_87, tn_88, ln_88, tn_89, ln_89, tn_90, ln_90, tn_91, ln_91, tn_92, ln_92, tn_93, ln_93, ob_94, tn_95, ln_95, tn_96, ln_96, tn_97, ln_97, tn_98, ln_98, tn_99, ln_99, tn_100, ln_100, tn_101, ln_101, tn_102, ln_102, tn_103, ln_103, ob_104, tn_105, ln_105, tn_106, ln_106, tn_107, ln_107, tn_108, ln_108, tn_109, ln_109, tn_110, ln_110, tn_111, ln_111, tn_112, ln_112, tn_113, ln_113, ob_114, tn_115, ln_115, tn_116, ln_116, tn_117, ln_117, tn_118, ln_118, tn_119, ln_119, tn_120, ln_120, tn_121, ln_121, tn_122, ln_122, tn_123, ln_123, ob_124, tn_125, ln_125, tn_126, ln_126, tn_127, ln_127, tn_128, ln_128, tn_129, ln_129, tn_130, ln_130, tn_131, ln_131, tn_132, ln_132, tn_133, ln_133, ob_134, tn_135, ln_135, tn_136, ln_136, tn_137, ln_137, tn_138, ln_138, tn_139, ln_139, tn_140, ln_140, tn_141, ln_141, tn_142, ln_142, tn_143, ln_143, ob_144, tn_145, ln_145, tn_146, ln_146, tn_147, ln_147, tn_148, ln_148, tn_149, ln_149, tn_150, ln_150, tn_151, ln_151, tn_152, ln_152, tn_153, ln_153, ob_154, tn_155, ln_155, tn_156, ln_156, tn_157, ln_157, tn_158, ln_158, tn_159, ln_159, tn_160, ln_160, tn_161, ln_161, tn_162, ln_162, tn_163, ln_163, ob_164, tn_165, ln_165, tn_166, ln_166, ob_167, tn_168, ln_168, tn_169, ln_169, tn_170, ln_170, tn_171, ln_171, tn_172, ln_172, tn_173, ln_173, tn_174, ln_174, tn_175, ln_175, tn_176, ln_176, ob_177, tn_178, ln_178, tn_179, ln_179, ob_180, tn_181, ln_181, tn_182, ln_182, tn_183, ln_183, tn_184, ln_184, tn_185, ln_185, tn_186, ln_186, tn_187, ln_187, tn_188, ln_188, tn_189, ln_189, tn_190, ln_190, tn_191, ln_191, tn_192, ln_192, tn_193, ln_193, tn_194, ln_194, tn_195, ln_195, tn_196, ln_196, tn_197, ln_197, tn_198, ln_198, tn_199, ln_199, tn_200, ln_200, tn_201, ln_201, tn_202, ln_202, tn_203, ln_203, tn_204, ln_204, tn_205, ln_205, tn_206, ln_206, tn_207, ln_207, tn_208, ln_208, tn_209, ln_209, tn_210, ln_210, tn_211, ln_211, tn_212, ln_212, tn_213, ln_213, tn_214, ln_214, tn_215, ln_215, tn_216, ln_216, tn_217, ln_217, tn_218, ln_218, tn_219, ln_219, tn_220, ln_220, tn_221, ln_221, tn_222, ln_222, tn_223, ln_223, tn_224, ln_224, tn_225, ln_225, tn_226, ln_226, tn_227, ln_227, tn_228, ln_228, tn_229, ln_229, tn_230, ln_230, lx2, lx3, lx4, lx5, lx6, lx7, lx8, lx9, lx10, lx14, lx15, lx16, lx18, lx20, lx24, lx25, lx27, lx32, lx36, lx40, lx41, lx42, lx43, lx45, lx48, lx52, lx54, lx56, lx57, lx58, lx60, lx61, lx62, lx63, lx64, lx66, lx69, lx73, lx80, lx81, lx84, lx85, lx87, lx94, lx96, lx97, lx120, lx128, lx135, lx160, lx162, lx163, lx165, lx200, lx232, lx242, lx243, lx255, lx256, lx320, lx325, lx400, lx405, lx464, lx512, lx600, lx640, lx752, lx900, lx940, lx1000, lx1024, lx1764, lx3360, lx3840, lx5000, lx6400, lx9050, lx9998, lx9999, lx10000, lx25600, lx76800, lx99999, si_ne, si_eq, sl_ne, sl_eq, xl_si, xi_sl, sA_ne, sA_eq, xl_sA, bI_t, xsi_sA, show vrk v r < 5 by omega]
      have nx : ∀ b, (b = false → mo = false ∧ bgR v (xi A 35 1) (iter (bgU v (xi A 35 1)) n (xi A 36)) r (vrk v r) ||| bF v r (xi A 35 1) (bgR v (xi A 35 1) (iter (bgU v (xi A 35 1)) n (xi A 36)) r) (vrs v r) 0 = bgR v (xi A 35 1) (iter (bgU v (xi A 35 1)) n (xi A 36)) r (vrk v r)) → xB (lb13 A P) (64 - n, vR v - r, 0) [some (.ref 35), some (.ref 8), some (.int (nI n)), some (.int (bI b)), some (.int (nI (r + 1))), some (.int (nI (vrk v r))), some (.int (bgR v (xi A 35 1) (iter (bgU v (xi A 35 1)) n (xi A 36)) r (vrk v r) ||| bF v r (xi A 35 1) (bgR v (xi A 35 1) (iter (bgU v (xi A 35 1)) n (xi A 36)) r) (vrs v r) 0))] [] (xsA A 36 (fun j => if j = vrk v r then bgR v (xi A 35 1) (iter (bgU v (xi A 35 1)) n (xi A 36)) r (vrk v r) ||| bF v r (xi A 35 1) (bgR v (xi A 35 1) (iter (bgU v (xi A 35 1)) n (xi A 36)) r) (vrs v r) 0 else bgR v (xi A 35 1) (iter (bgU v (xi A 35 1)) n (xi A 36)) r j)) := fun b hb => by
        refine xB2 (c := vR v - (r + 1)) (by omega) ⟨v, n, r + 1, b, _, _, hM, hP, hn, by omega, fun q => ?_, xsA_congr fun j => ?_, rfl, rfl, rfl⟩
        · have h1 := hb q
          simp only [bgR]
          rw [or_fix h1.2]
          exact hmo h1.1
        · simp only [bgR]
          by_cases e : j = vrk v r
          · rw [if_pos e, if_pos e, e]
          · rw [if_neg e, if_neg e]
      refine ⟨fun z => nx true (fun q => by cases q), fun z => ⟨fun w => nx false fun _ => ⟨z, w⟩, fun w => nx true (fun q => by cases q)⟩⟩
/-- follows: a rule's symbols, a round -/
def flT (v : xV) (em : Int32) (bg : Nat → Int32) (r : Nat) (g : Nat → Int32) : Nat → Nat → Int32
  | 0 => g
  | t + 1 => if vsy v r t < 8 then flT v em bg r g t else fun k => if k = vsy v r t - 8 then flT v em bg r g t k ||| bF v r em bg (vrs v r - (t + 1)) (t + 1) ||| (if eF v r em (vrs v r - (t + 1)) (t + 1) then flT v em bg r g t (vrk v r) else 0) else flT v em bg r g t k
def flR (v : xV) (em : Int32) (bg : Nat → Int32) (mk : Int32) (g : Nat → Int32) : Nat → Nat → Int32
  | 0 => g
  | r + 1 => if tst mk (vrk v r) then flT v em bg r (flR v em bg mk g r) (vrs v r) else flR v em bg mk g r
def flU (v : xV) (em : Int32) (bg : Nat → Int32) (mk : Int32) (g : Nat → Int32) : Nat → Int32 := flR v em bg mk g (vR v)
def lfI (A : xH) (P : xP) (v : xV) (mk : Int32) : Prop := isM A 8 v ∧ P none (xsA A 37 (iter (flU v (xi A 35 1) (xi A 36) mk) 64 (xi A 37)))
def f_X3_learnFollows (q m : Nat) (y : Int32) (A : xH) (P : xP) : Prop := q = 35 ∧ m = 8 ∧ ∃ v, lfI A P v y
def lfG (A : xH) (v : xV) (mk : Int32) (n : Nat) : Nat → Int32 := iter (flU v (xi A 35 1) (xi A 36) mk) n (xi A 37)
def lf2 (y : Int32) (A : xH) (P : xP) : xM → xK := fun μ L st B => ∃ v n o1 o2 o3 o4 o5 o6, lfI A P v y ∧ n ≤ 64 ∧ B = xsA A 37 (lfG A v y n) ∧ st = [] ∧ L = [some (.ref 35), some (.ref 8), some (.int y), some (.int (nI n)), o1, o2, o3, o4, o5, o6] ∧ μ = (64 - n, 40, 0)
def lf14 (y : Int32) (A : xH) (P : xP) : xM → xK := fun μ L st B => ∃ v n r mo o3 o4 o5 o6, lfI A P v y ∧ n < 64 ∧ r ≤ vR v ∧ (mo = false → flR v (xi A 35 1) (xi A 36) y (lfG A v y n) r = lfG A v y n) ∧ B = xsA A 37 (flR v (xi A 35 1) (xi A 36) y (lfG A v y n) r) ∧ st = [] ∧ L = [some (.ref 35), some (.ref 8), some (.int y), some (.int (nI n)), some (.int (bI mo)), some (.int (nI r)), o3, o4, o5, o6] ∧ μ = (64 - n, 2 * (vR v - r), 0)
def lf35 (y : Int32) (A : xH) (P : xP) : xM → xK := fun μ L st B => ∃ v n r t mo o5 o6, lfI A P v y ∧ n < 64 ∧ r < vR v ∧ t ≤ vrs v r ∧ (0 < t → tst y (vrk v r) = true) ∧ (mo = false → flT v (xi A 35 1) (xi A 36) r (flR v (xi A 35 1) (xi A 36) y (lfG A v y n) r) t = lfG A v y n) ∧ B = xsA A 37 (flT v (xi A 35 1) (xi A 36) r (flR v (xi A 35 1) (xi A 36) y (lfG A v y n) r) t) ∧ st = [] ∧ L = [some (.ref 35), some (.ref 8), some (.int y), some (.int (nI n)), some (.int (bI mo)), some (.int (nI r)), some (.int (nI (vrk v r))), some (.int (nI t)), o5, o6] ∧ μ = (64 - n, 2 * (vR v - r) - 1, vrs v r - t)
set_option maxRecDepth 20000 in
theorem con_X3_learnFollows (l : Launch) : xCon l yX3_learnFollows cX3_learnFollows 10 none 2 48 xN xN 0 xFT xFT (w_RRI f_X3_learnFollows) := by
  refine m_X3_learnFollows (I2 := fun q m y A P => lf2 y A P) (I14 := fun q m y A P => lf14 y A P) (I35 := fun q m y A P => lf35 y A P) ?_ ?_ ?_ ?_
  · rintro q m y A P ⟨rfl, rfl, v, hI⟩
    simp (disch := omega) only [k_X3_learnFollows_0, k_X3_learnFollows_2, k_X3_learnFollows_14, k_X3_learnFollows_35, k_X3_learnFollows_123, k_X3_learnFollows_143, k_X3_learnFollows_148, k_X3_learnFollows_159, k_X3_learnFollows_165, k_X3_learnFollows_185, w_RII, w_RRII, x_aload, x_cv2, x_getF, x_getI, x_iadd, x_iald, x_iand, x_icmp_eq, x_icmp_ge, x_icmp_ne, x_if_eq, x_if_lt, x_if_ne, x_iinc, x_iload, x_ior, x_ishr, x_istore, x_isub, x_push, x_vret, y_cv3, y_getF, y_iald, y_iast, xFT, xbool0, xbool1, Nat.reduceAdd, Nat.zero_add, xgl_0, xgl_s, xgl_n, xst_0, xst_1n, xst_1i, xst_1r, xst_1l, xst_s, set_0, set_s, true_and, and_true, xres, xcat_nil, xcat_i, xcat_r, xcat_l, Nat.add_zero, xble0, xble1, xble2, xble3, xble4, xble5, xble6, xble7, xble8, pk_mul, nI_add, nI_1, nI_leI, nI_ltI, nI_eq, n_in, n_cl, z_eq, z_lt, z_le, z_gt, z_ge, z_qe, o_eq, o_lt, o_le, o_gt, o_ge, vp0, vp1, cl0, cl1, n_sub, n_sub1, n_pm1, n_a0, n_0a, ofn, lN0, Nat.reduceLT, Nat.reduceLeDiff, Nat.reduceMul, Nat.reduceSub, Nat.reduceEqDiff, ne_eq, true_implies, false_implies, not_true_eq_false, not_false_eq_true, and_self, and_true, true_and, and_false, false_and, implies_true, if_true, if_false, i00, i10, i01, i11, ob_0, ob_1, tn_2, ln_2, ob_3, tn_4, ln_4, ob_5, tn_6, ln_6, tn_7, ln_7, ob_8, tn_9, ln_9, tn_10, ln_10, tn_11, ln_11, tn_12, ln_12, tn_13, ln_13, tn_14, ln_14, tn_15, ln_15, tn_16, ln_16, tn_17, ln_17, ob_18, tn_19, ln_19, tn_20, ln_20, tn_21, ln_21, tn_22, ln_22, tn_23, ln_23, tn_24, ln_24, tn_25, ln_25, tn_26, ln_26, tn_27, ln_27, ob_28, tn_29, ln_29, tn_30, ln_30, ob_31, tn_32, ln_32, tn_33, ln_33, ob_34, ob_35, tn_36, ln_36, tn_37, ln_37, tn_38, ln_38, ob_39, tn_40, ln_40, tn_41, ln_41, tn_42, ln_42, tn_43, ln_43, tn_44, ln_44, tn_45, ln_45, tn_46, ln_46, tn_47, ln_47, tn_48, ln_48, tn_49, ln_49, tn_50, ln_50, tn_51, ln_51, ob_52, tn_53, ln_53, tn_54, ln_54, tn_55, ln_55, tn_56, ln_56, ob_57, tn_58, ln_58, tn_59, ln_59, tn_60, ln_60, tn_61, ln_61, tn_62, ln_62, tn_63, ln_63, tn_64, ln_64, tn_65, ln_65, ob_66, tn_67, ln_67, tn_68, ln_68, tn_69, ln_69, tn_70, ln_70, tn_71, ln_71, tn_72, ln_72, tn_73, ln_73, ob_74, tn_75, ln_75, tn_76, ln_76, tn_77, ln_77, tn_78, ln_78, tn_79, ln_79, tn_80, ln_80, tn_81, ln_81, tn_82, ln_82, tn_83, ln_83, ob_84, tn_85, ln_85, tn_86, ln_86, tn_87, ln_87, tn_88, ln_88, tn_89, ln_89, tn_90, ln_90, tn_91, ln_91, tn_92, ln_92, tn_93, ln_93, ob_94, tn_95, ln_95, tn_96, ln_96, tn_97, ln_97, tn_98, ln_98, tn_99, ln_99, tn_100, ln_100, tn_101, ln_101, tn_102, ln_102, tn_103, ln_103, ob_104, tn_105, ln_105, tn_106, ln_106, tn_107, ln_107, tn_108, ln_108, tn_109, ln_109, tn_110, ln_110, tn_111, ln_111, tn_112, ln_112, tn_113, ln_113, ob_114, tn_115, ln_115, tn_116, ln_116, tn_117, ln_117, tn_118, ln_118, tn_119, ln_119, tn_120, ln_120, tn_121, ln_121, tn_122, ln_122, tn_123, ln_123, ob_124, tn_125, ln_125, tn_126, ln_126, tn_127, ln_127, tn_128, ln_128, tn_129, ln_129, tn_130, ln_130, tn_131, ln_131, tn_132, ln_132, tn_133, ln_133, ob_134, tn_135, ln_135, tn_136, ln_136, tn_137, ln_137, tn_138, ln_138, tn_139, ln_139, tn_140, ln_140, tn_141, ln_141, tn_142, ln_142, tn_143, ln_143, ob_144, tn_145, ln_145, tn_146, ln_146, tn_147, ln_147, tn_148, ln_148, tn_149, ln_149, tn_150, ln_150, tn_151, ln_151, tn_152, ln_152, tn_153, ln_153, ob_154, tn_155, ln_155, tn_156, ln_156, tn_157, ln_157, tn_158, ln_158, tn_159, ln_159, tn_160, ln_160, tn_161, ln_161, tn_162, ln_162, tn_163, ln_163, ob_164, tn_165, ln_165, tn_166, ln_166, ob_167, tn_168, ln_168, tn_169, ln_169, tn_170, ln_170, tn_171, ln_171, tn_172, ln_172, tn_173, ln_173, tn_174, ln_174, tn_175, ln_175, tn_176, ln_176, ob_177, tn_178, ln_178, tn_179, ln_179, ob_180, tn_181, ln_181, tn_182, ln_182, tn_183, ln_183, tn_184, ln_184, tn_185, ln_185, tn_186, ln_186, tn_187, ln_187, tn_188, ln_188, tn_189, ln_189, tn_190, ln_190, tn_191, ln_191, tn_192, ln_192, tn_193, ln_193, tn_194, ln_194, tn_195, ln_195, tn_196, ln_196, tn_197, ln_197, tn_198, ln_198, tn_199, ln_199, tn_200, ln_200, tn_201, ln_201, tn_202, ln_202, tn_203, ln_203, tn_204, ln_204, tn_205, ln_205, tn_206, ln_206, tn_207, ln_207, tn_208, ln_208, tn_209, ln_209, tn_210, ln_210, tn_211, ln_211, tn_212, ln_212, tn_213, ln_213, tn_214, ln_214, tn_215, ln_215, tn_216, ln_216, tn_217, ln_217, tn_218, ln_218, tn_219, ln_219, tn_220, ln_220, tn_221, ln_221, tn_222, ln_222, tn_223, ln_223, tn_224, ln_224, tn_225, ln_225, tn_226, ln_226, tn_227, ln_227, tn_228, ln_228, tn_229, ln_229, tn_230, ln_230, lx2, lx3, lx4, lx5, lx6, lx7, lx8, lx9, lx10, lx14, lx15, lx16, lx18, lx20, lx24, lx25, lx27, lx32, lx36, lx40, lx41, lx42, lx43, lx45, lx48, lx52, lx54, lx56, lx57, lx58, lx60, lx61, lx62, lx63, lx64, lx66, lx69, lx73, lx80, lx81, lx84, lx85, lx87, lx94, lx96, lx97, lx120, lx128, lx135, lx160, lx162, lx163, lx165, lx200, lx232, lx242, lx243, lx255, lx256, lx320, lx325, lx400, lx405, lx464, lx512, lx600, lx640, lx752, lx900, lx940, lx1000, lx1024, lx1764, lx3360, lx3840, lx5000, lx6400, lx9050, lx9998, lx9999, lx10000, lx25600, lx76800, lx99999]
    exact xE0 (64, 40, 0) ⟨v, 0, none, none, none, none, none, none, hI, by omega, (xsA_self fun _ => rfl).symm, rfl, rfl, rfl⟩
  · rintro q m y A P - μ L st B ⟨v, n, o1, o2, o3, o4, o5, o6, hI, hn, rfl, rfl, rfl, rfl⟩
    have hR := hI.1.1.2.1.2.2.1
    simp (disch := omega) only [k_X3_learnFollows_0, k_X3_learnFollows_2, k_X3_learnFollows_14, k_X3_learnFollows_35, k_X3_learnFollows_123, k_X3_learnFollows_143, k_X3_learnFollows_148, k_X3_learnFollows_159, k_X3_learnFollows_165, k_X3_learnFollows_185, w_RII, w_RRII, x_aload, x_cv2, x_getF, x_getI, x_iadd, x_iald, x_iand, x_icmp_eq, x_icmp_ge, x_icmp_ne, x_if_eq, x_if_lt, x_if_ne, x_iinc, x_iload, x_ior, x_ishr, x_istore, x_isub, x_push, x_vret, y_cv3, y_getF, y_iald, y_iast, xFT, xbool0, xbool1, Nat.reduceAdd, Nat.zero_add, xgl_0, xgl_s, xgl_n, xst_0, xst_1n, xst_1i, xst_1r, xst_1l, xst_s, set_0, set_s, true_and, and_true, xres, xcat_nil, xcat_i, xcat_r, xcat_l, Nat.add_zero, xble0, xble1, xble2, xble3, xble4, xble5, xble6, xble7, xble8, ob_8, ly_8_5, ly_8_6, ly_8_7, ly_8_8, ly_8_9, ly_8_10, ly_8_11, ly_8_12, ly_8_13, pk_mul, nI_add, nI_1, nI_leI, nI_ltI, nI_eq, n_in, n_cl, z_eq, z_lt, z_le, z_gt, z_ge, z_qe, o_eq, o_lt, o_le, o_gt, o_ge, vp0, vp1, cl0, cl1, n_sub, n_sub1, n_pm1, n_a0, n_0a, ofn, lN0, Nat.reduceLT, Nat.reduceLeDiff, Nat.reduceMul, Nat.reduceSub, Nat.reduceEqDiff, ne_eq, true_implies, false_implies, not_true_eq_false, not_false_eq_true, and_self, and_true, true_and, and_false, false_and, implies_true, if_true, if_false, i00, i10, i01, i11, ob_0, ob_1, tn_2, ln_2, ob_3, tn_4, ln_4, ob_5, tn_6, ln_6, tn_7, ln_7, ob_8, tn_9, ln_9, tn_10, ln_10, tn_11, ln_11, tn_12, ln_12, tn_13, ln_13, tn_14, ln_14, tn_15, ln_15, tn_16, ln_16, tn_17, ln_17, ob_18, tn_19, ln_19, tn_20, ln_20, tn_21, ln_21, tn_22, ln_22, tn_23, ln_23, tn_24, ln_24, tn_25, ln_25, tn_26, ln_26, tn_27, ln_27, ob_28, tn_29, ln_29, tn_30, ln_30, ob_31, tn_32, ln_32, tn_33, ln_33, ob_34, ob_35, tn_36, ln_36, tn_37, ln_37, tn_38, ln_38, ob_39, tn_40, ln_40, tn_41, ln_41, tn_42, ln_42, tn_43, ln_43, tn_44, ln_44, tn_45, ln_45, tn_46, ln_46, tn_47, ln_47, tn_48, ln_48, tn_49, ln_49, tn_50, ln_50, tn_51, ln_51, ob_52, tn_53, ln_53, tn_54, ln_54, tn_55, ln_55, tn_56, ln_56, ob_57, tn_58, ln_58, tn_59, ln_59, tn_60, ln_60, tn_61, ln_61, tn_62, ln_62, tn_63, ln_63, tn_64, ln_64, tn_65, ln_65, ob_66, tn_67, ln_67, tn_68, ln_68, tn_69, ln_69, tn_70, ln_70, tn_71, ln_71, tn_72, ln_72, tn_73, ln_73, ob_74, tn_75, ln_75, tn_76, ln_76, tn_77, ln_77, tn_78, ln_78, tn_79, ln_79, tn_80, ln_80, tn_81, ln_81, tn_82, ln_82, tn_83, ln_83, ob_84, tn_85, ln_85, tn_86, ln_86, tn_87, ln_87, tn_88, ln_88, tn_89, ln_89, tn_90, ln_90, tn_91, ln_91, tn_92, ln_92, tn_93, ln_93, ob_94, tn_95, ln_95, tn_96, ln_96, tn_97, ln_97, tn_98, ln_98, tn_99, ln_99, tn_100, ln_100, tn_101, ln_101, tn_102, ln_102, tn_103, ln_103, ob_104, tn_105, ln_105, tn_106, ln_106, tn_107, ln_107, tn_108, ln_108, tn_109, ln_109, tn_110, ln_110, tn_111, ln_111, tn_112, ln_112, tn_113, ln_113, ob_114, tn_115, ln_115, tn_116, ln_116, tn_117, ln_117, tn_118, ln_118, tn_119, ln_119, tn_120, ln_120, tn_121, ln_121, tn_122, ln_122, tn_123, ln_123, ob_124, tn_125, ln_125, tn_126, ln_126, tn_127, ln_127, tn_128, ln_128, tn_129, ln_129, tn_130, ln_130, tn_131, ln_131, tn_132, ln_132, tn_133, ln_133, ob_134, tn_135, ln_135, tn_136, ln_136, tn_137, ln_137, tn_138, ln_138, tn_139, ln_139, tn_140, ln_140, tn_141, ln_141, tn_142, ln_142, tn_143, ln_143, ob_144, tn_145, ln_145, tn_146, ln_146, tn_147, ln_147, tn_148, ln_148, tn_149, ln_149, tn_150, ln_150, tn_151, ln_151, tn_152, ln_152, tn_153, ln_153, ob_154, tn_155, ln_155, tn_156, ln_156, tn_157, ln_157, tn_158, ln_158, tn_159, ln_159, tn_160, ln_160, tn_161, ln_161, tn_162, ln_162, tn_163, ln_163, ob_164, tn_165, ln_165, tn_166, ln_166, ob_167, tn_168, ln_168, tn_169, ln_169, tn_170, ln_170, tn_171, ln_171, tn_172, ln_172, tn_173, ln_173, tn_174, ln_174, tn_175, ln_175, tn_176, ln_176, ob_177, tn_178, ln_178, tn_179, ln_179, ob_180, tn_181, ln_181, tn_182, ln_182, tn_183, ln_183, tn_184, ln_184, tn_185, ln_185, tn_186, ln_186, tn_187, ln_187, tn_188, ln_188, tn_189, ln_189, tn_190, ln_190, tn_191, ln_191, tn_192, ln_192, tn_193, ln_193, tn_194, ln_194, tn_195, ln_195, tn_196, ln_196, tn_197, ln_197, tn_198, ln_198, tn_199, ln_199, tn_200, ln_200, tn_201, ln_201, tn_202, ln_202, tn_203, ln_203, tn_204, ln_204, tn_205, ln_205, tn_206, ln_206, tn_207, ln_207, tn_208, ln_208, tn_209, ln_209, tn_210, ln_210, tn_211, ln_211, tn_212, ln_212, tn_213, ln_213, tn_214, ln_214, tn_215, ln_215, tn_216, ln_216, tn_217, ln_217, tn_218, ln_218, tn_219, ln_219, tn_220, ln_220, tn_221, ln_221, tn_222, ln_222, tn_223, ln_223, tn_224, ln_224, tn_225, ln_225, tn_226, ln_226, tn_227, ln_227, tn_228, ln_228, tn_229, ln_229, tn_230, ln_230, lx2, lx3, lx4, lx5, lx6, lx7, lx8, lx9, lx10, lx14, lx15, lx16, lx18, lx20, lx24, lx25, lx27, lx32, lx36, lx40, lx41, lx42, lx43, lx45, lx48, lx52, lx54, lx56, lx57, lx58, lx60, lx61, lx62, lx63, lx64, lx66, lx69, lx73, lx80, lx81, lx84, lx85, lx87, lx94, lx96, lx97, lx120, lx128, lx135, lx160, lx162, lx163, lx165, lx200, lx232, lx242, lx243, lx255, lx256, lx320, lx325, lx400, lx405, lx464, lx512, lx600, lx640, lx752, lx900, lx940, lx1000, lx1024, lx1764, lx3360, lx3840, lx5000, lx6400, lx9050, lx9998, lx9999, lx10000, lx25600, lx76800, lx99999]
    refine ⟨fun a => ?_, fun a => ?_⟩
    · rw [show n = 64 by omega]; exact hI.2
    · exact xB2 (c := 2 * (vR v - 0)) (by omega) ⟨v, n, 0, false, o3, o4, o5, o6, hI, by omega, Nat.zero_le _, fun _ => rfl, rfl, rfl, rfl, rfl⟩
  · rintro q m y A P - μ L st B ⟨v, n, r, mo, o3, o4, o5, o6, hI, hn, hr, hmo, rfl, rfl, rfl, rfl⟩
    have hR := hI.1.1.2.1.2.2.1
    obtain ⟨-, -, e2, -, -, er⟩ := M8 hI.1
    simp (disch := omega) only [k_X3_learnFollows_0, k_X3_learnFollows_2, k_X3_learnFollows_14, k_X3_learnFollows_35, k_X3_learnFollows_123, k_X3_learnFollows_143, k_X3_learnFollows_148, k_X3_learnFollows_159, k_X3_learnFollows_165, k_X3_learnFollows_185, w_RII, w_RRII, x_aload, x_cv2, x_getF, x_getI, x_iadd, x_iald, x_iand, x_icmp_eq, x_icmp_ge, x_icmp_ne, x_if_eq, x_if_lt, x_if_ne, x_iinc, x_iload, x_ior, x_ishr, x_istore, x_isub, x_push, x_vret, y_cv3, y_getF, y_iald, y_iast, xFT, xbool0, xbool1, Nat.reduceAdd, Nat.zero_add, xgl_0, xgl_s, xgl_n, xst_0, xst_1n, xst_1i, xst_1r, xst_1l, xst_s, set_0, set_s, true_and, and_true, xres, xcat_nil, xcat_i, xcat_r, xcat_l, Nat.add_zero, xble0, xble1, xble2, xble3, xble4, xble5, xble6, xble7, xble8, ob_8, ly_8_5, ly_8_6, ly_8_7, ly_8_8, ly_8_9, ly_8_10, ly_8_11, ly_8_12, ly_8_13, pk_mul, nI_add, nI_1, nI_leI, nI_ltI, nI_eq, n_in, n_cl, z_eq, z_lt, z_le, z_gt, z_ge, z_qe, o_eq, o_lt, o_le, o_gt, o_ge, vp0, vp1, cl0, cl1, n_sub, n_sub1, n_pm1, n_a0, n_0a, ofn, lN0, Nat.reduceLT, Nat.reduceLeDiff, Nat.reduceMul, Nat.reduceSub, Nat.reduceEqDiff, ne_eq, true_implies, false_implies, not_true_eq_false, not_false_eq_true, and_self, and_true, true_and, and_false, false_and, implies_true, if_true, if_false, i00, i10, i01, i11, ob_0, ob_1, tn_2, ln_2, ob_3, tn_4, ln_4, ob_5, tn_6, ln_6, tn_7, ln_7, ob_8, tn_9, ln_9, tn_10, ln_10, tn_11, ln_11, tn_12, ln_12, tn_13, ln_13, tn_14, ln_14, tn_15, ln_15, tn_16, ln_16, tn_17, ln_17, ob_18, tn_19, ln_19, tn_20, ln_20, tn_21, ln_21, tn_22, ln_22, tn_23, ln_23, tn_24, ln_24, tn_25, ln_25, tn_26, ln_26, tn_27, ln_27, ob_28, tn_29, ln_29, tn_30, ln_30, ob_31, tn_32, ln_32, tn_33, ln_33, ob_34, ob_35, tn_36, ln_36, tn_37, ln_37, tn_38, ln_38, ob_39, tn_40, ln_40, tn_41, ln_41, tn_42, ln_42, tn_43, ln_43, tn_44, ln_44, tn_45, ln_45, tn_46, ln_46, tn_47, ln_47, tn_48, ln_48, tn_49, ln_49, tn_50, ln_50, tn_51, ln_51, ob_52, tn_53, ln_53, tn_54, ln_54, tn_55, ln_55, tn_56, ln_56, ob_57, tn_58, ln_58, tn_59, ln_59, tn_60, ln_60, tn_61, ln_61, tn_62, ln_62, tn_63, ln_63, tn_64, ln_64, tn_65, ln_65, ob_66, tn_67, ln_67, tn_68, ln_68, tn_69, ln_69, tn_70, ln_70, tn_71, ln_71, tn_72, ln_72, tn_73, ln_73, ob_74, tn_75, ln_75, tn_76, ln_76, tn_77, ln_77, tn_78, ln_78, tn_79, ln_79, tn_80, ln_80, tn_81, ln_81, tn_82, ln_82, tn_83, ln_83, ob_84, tn_85, ln_85, tn_86, ln_86, tn_87, ln_87, tn_88, ln_88, tn_89, ln_89, tn_90, ln_90, tn_91, ln_91, tn_92, ln_92, tn_93, ln_93, ob_94, tn_95, ln_95, tn_96, ln_96, tn_97, ln_97, tn_98, ln_98, tn_99, ln_99, tn_100, ln_100, tn_101, ln_101, tn_102, ln_102, tn_103, ln_103, ob_104, tn_105, ln_105, tn_106, ln_106, tn_107, ln_107, tn_108, ln_108, tn_109, ln_109, tn_110, ln_110, tn_111, ln_111, tn_112, ln_112, tn_113, ln_113, ob_114, tn_115, ln_115, tn_116, ln_116, tn_117, ln_117, tn_118, ln_118, tn_119, ln_119, tn_120, ln_120, tn_121, ln_121, tn_122, ln_122, tn_123, ln_123, ob_124, tn_125, ln_125, tn_126, ln_126, tn_127, ln_127, tn_128, ln_128, tn_129, ln_129, tn_130, ln_130, tn_131, ln_131, tn_132, ln_132, tn_133, ln_133, ob_134, tn_135, ln_135, tn_136, ln_136, tn_137, ln_137, tn_138, ln_138, tn_139, ln_139, tn_140, ln_140, tn_141, ln_141, tn_142, ln_142, tn_143, ln_143, ob_144, tn_145, ln_145, tn_146, ln_146, tn_147, ln_147, tn_148, ln_148, tn_149, ln_149, tn_150, ln_150, tn_151, ln_151, tn_152, ln_152, tn_153, ln_153, ob_154, tn_155, ln_155, tn_156, ln_156, tn_157, ln_157, tn_158, ln_158, tn_159, ln_159, tn_160, ln_160, tn_161, ln_161, tn_162, ln_162, tn_163, ln_163, ob_164, tn_165, ln_165, tn_166, ln_166, ob_167, tn_168, ln_168, tn_169, ln_169, tn_170, ln_170, tn_171, ln_171, tn_172, ln_172, tn_173, ln_173, tn_174, ln_174, tn_175, ln_175, tn_176, ln_176, ob_177, tn_178, ln_178, tn_179, ln_179, ob_180, tn_181, ln_181, tn_182, ln_182, tn_183, ln_183, tn_184, ln_184, tn_185, ln_185, tn_186, ln_186, tn_187, ln_187, tn_188, ln_188, tn_189, ln_189, tn_190, ln_190, tn_191, ln_191, tn_192, ln_192, tn_193, ln_193, tn_194, ln_194, tn_195, ln_195, tn_196, ln_196, tn_197, ln_197, tn_198, ln_198, tn_199, ln_199, tn_200, ln_200, tn_201, ln_201, tn_202, ln_202, tn_203, ln_203, tn_204, ln_204, tn_205, ln_205, tn_206, ln_206, tn_207, ln_207, tn_208, ln_208, tn_209, ln_209, tn_210, ln_210, tn_211, ln_211, tn_212, ln_212, tn_213, ln_213, tn_214, ln_214, tn_215, ln_215, tn_216, ln_216, tn_217, ln_217, tn_218, ln_218, tn_219, ln_219, tn_220, ln_220, tn_221, ln_221, tn_222, ln_222, tn_223, ln_223, tn_224, ln_224, tn_225, ln_225, tn_226, ln_226, tn_227, ln_227, tn_228, ln_228, tn_229, ln_229, tn_230, ln_230, lx2, lx3, lx4, lx5, lx6, lx7, lx8, lx9, lx10, lx14, lx15, lx16, lx18, lx20, lx24, lx25, lx27, lx32, lx36, lx40, lx41, lx42, lx43, lx45, lx48, lx52, lx54, lx56, lx57, lx58, lx60, lx61, lx62, lx63, lx64, lx66, lx69, lx73, lx80, lx81, lx84, lx85, lx87, lx94, lx96, lx97, lx120, lx128, lx135, lx160, lx162, lx163, lx165, lx200, lx232, lx242, lx243, lx255, lx256, lx320, lx325, lx400, lx405, lx464, lx512, lx600, lx640, lx752, lx900, lx940, lx1000, lx1024, lx1764, lx3360, lx3840, lx5000, lx6400, lx9050, lx9998, lx9999, lx10000, lx25600, lx76800, lx99999, si_ne, si_eq, sl_ne, sl_eq, xl_si, xi_sl, sA_ne, sA_eq, xl_sA, e2, bI_t]
    refine ⟨fun a => ?_, fun a => ?_⟩
    · have : r = vR v := by omega
      subst this
      refine ⟨fun z => ?_, fun z => ?_⟩
      · exact xB1 (b := 64 - (n + 1)) (by omega) ⟨v, n + 1, _, _, _, _, _, _, hI, by omega, rfl, rfl, rfl, rfl⟩
      · have h1 := hmo z
        have := iter_fix (f := flU v (xi A 35 1) (xi A 36) y) (x := xi A 37) (n := n) h1 64 (by omega)
        have hP := hI.2
        rw [this] at hP
        rw [h1]; exact hP
    · have hw := wf_r hI.1.1.2.1 (show r < vR v by omega)
      simp (disch := omega) only [(er r (by omega)).1, show r < 10 by omega, pk_mul, nI_add, nI_1, nI_leI, nI_ltI, nI_eq, n_in, n_cl, z_eq, z_lt, z_le, z_gt, z_ge, z_qe, o_eq, o_lt, o_le, o_gt, o_ge, vp0, vp1, cl0, cl1, n_sub, n_sub1, n_pm1, n_a0, n_0a, ofn, lN0, Nat.reduceLT, Nat.reduceLeDiff, Nat.reduceMul, Nat.reduceSub, Nat.reduceEqDiff, ne_eq, true_implies, false_implies, not_true_eq_false, not_false_eq_true, and_self, and_true, true_and, and_false, false_and, implies_true, if_true, if_false, i00, i10, i01, i11, ob_0, ob_1, tn_2, ln_2, ob_3, tn_4, ln_4, ob_5, tn_6, ln_6, tn_7, ln_7, ob_8, tn_9, ln_9, tn_10, ln_10, tn_11, ln_11, tn_12, ln_12, tn_13, ln_13, tn_14, ln_14, tn_15, ln_15, tn_16, ln_16, tn_17, ln_17, ob_18, tn_19, ln_19, tn_20, ln_20, tn_21, ln_21, tn_22, ln_22, tn_23, ln_23, tn_24, ln_24, tn_25, ln_25, tn_26, ln_26, tn_27, ln_27, ob_28, tn_29, ln_29, tn_30, ln_30, ob_31, tn_32, ln_32, tn_33, ln_33, ob_34, ob_35, tn_36, ln_36, tn_37, ln_37, tn_38, ln_38, ob_39, tn_40, ln_40, tn_41, ln_41, tn_42, ln_42, tn_43, ln_43, tn_44, ln_44, tn_45, ln_45, tn_46, ln_46, tn_47, ln_47, tn_48, ln_48, tn_49, ln_49, tn_50, ln_50, tn_51, ln_51, ob_52, tn_53, ln_53, tn_54, ln_54, tn_55, ln_55, tn_56, ln_56, ob_57, tn_58, ln_58, tn_59, ln_59, tn_60, ln_60, tn_61, ln_61, tn_62, ln_62, tn_63, ln_63, tn_64, ln_64, tn_65, ln_65, ob_66, tn_67, ln_67, tn_68, ln_68, tn_69, ln_69, tn_70, ln_70, tn_71, ln_71, tn_72, ln_72, tn_73, ln_73, ob_74, tn_75, ln_75, tn_76, ln_76, tn_77, ln_77, tn_78, ln_78, tn_79, ln_79, tn_80, ln_80, tn_81, ln_81, tn_82, ln_82, tn_83, ln_83, ob_84, tn_85, ln_85, tn_86, ln_86, tn_87, ln_87, tn_88, ln_88, tn_89, ln_89, tn_90, ln_90, tn_91, ln_91, tn_92, ln_92, tn_93, ln_93, ob_94, tn_95, ln_95, tn_96, ln_96, tn_97, ln_97, tn_98, ln_98, tn_99, ln_99, tn_100, ln_100, tn_101, ln_101, tn_102, ln_102, tn_103, ln_103, ob_104, tn_105, ln_105, tn_106, ln_106, tn_107, ln_107, tn_108, ln_108, tn_109, ln_109, tn_110, ln_110, tn_111, ln_111, tn_112, ln_112, tn_113, ln_113, ob_114, tn_115, ln_115, tn_116, ln_116, tn_117, ln_117, tn_118, ln_118, tn_119, ln_119, tn_120, ln_120, tn_121, ln_121, tn_122, ln_122, tn_123, ln_123, ob_124, tn_125, ln_125, tn_126, ln_126, tn_127, ln_127, tn_128, ln_128, tn_129, ln_129, tn_130, ln_130, tn_131, ln_131, tn_132, ln_132, tn_133, ln_133, ob_134, tn_135, ln_135, tn_136, ln_136, tn_137, ln_137, tn_138, ln_138, tn_139, ln_139, tn_140, ln_140, tn_141, ln_141, tn_142, ln_142, tn_143, ln_143, ob_144, tn_145, ln_145, tn_146, ln_146, tn_147, ln_147, tn_148, ln_148, tn_149, ln_149, tn_150, ln_150, tn_151, ln_151, tn_152, ln_152, tn_153, ln_153, ob_154, tn_155, ln_155, tn_156, ln_156, tn_157, ln_157, tn_158, ln_158, tn_159, ln_159, tn_160, ln_160, tn_161, ln_161, tn_162, ln_162, tn_163, ln_163, ob_164, tn_165, ln_165, tn_166, ln_166, ob_167, tn_168, ln_168, tn_169, ln_169, tn_170, ln_170, tn_171, ln_171, tn_172, ln_172, tn_173, ln_173, tn_174, ln_174, tn_175, ln_175, tn_176, ln_176, ob_177, tn_178, ln_178, tn_179, ln_179, ob_180, tn_181, ln_181, tn_182, ln_182, tn_183, ln_183, tn_184, ln_184, tn_185, ln_185, tn_186, ln_186, tn_187, ln_187, tn_188, ln_188, tn_189, ln_189, tn_190, ln_190, tn_191, ln_191, tn_192, ln_192, tn_193, ln_193, tn_194, ln_194, tn_195, ln_195, tn_196, ln_196, tn_197, ln_197, tn_198, ln_198, tn_199, ln_199, tn_200, ln_200, tn_201, ln_201, tn_202, ln_202, tn_203, ln_203, tn_204, ln_204, tn_205, ln_205, tn_206, ln_206, tn_207, ln_207, tn_208, ln_208, tn_209, ln_209, tn_210, ln_210, tn_211, ln_211, tn_212, ln_212, tn_213, ln_213, tn_214, ln_214, tn_215, ln_215, tn_216, ln_216, tn_217, ln_217, tn_218, ln_218, tn_219, ln_219, tn_220, ln_220, tn_221, ln_221, tn_222, ln_222, tn_223, ln_223, tn_224, ln_224, tn_225, ln_225, tn_226, ln_226, tn_227, ln_227, tn_228, ln_228, tn_229, ln_229, tn_230, ln_230, lx2, lx3, lx4, lx5, lx6, lx7, lx8, lx9, lx10, lx14, lx15, lx16, lx18, lx20, lx24, lx25, lx27, lx32, lx36, lx40, lx41, lx42, lx43, lx45, lx48, lx52, lx54, lx56, lx57, lx58, lx60, lx61, lx62, lx63, lx64, lx66, lx69, lx73, lx80, lx81, lx84, lx85, lx87, lx94, lx96, lx97, lx120, lx128, lx135, lx160, lx162, lx163, lx165, lx200, lx232, lx242, lx243, lx255, lx256, lx320, lx325, lx400, lx405, lx464, lx512, lx600, lx640, lx752, lx900, lx940, lx1000, lx1024, lx1764, lx3360, lx3840, lx5000, lx6400, lx9050, lx9998, lx9999, lx10000, lx25600, lx76800, lx99999]
      exact xB2 (c := 2 * (vR v - r) - 1) (by omega) ⟨v, n, r, 0, mo, o5, o6, hI, hn, by omega, Nat.zero_le _, fun q => absurd q (by omega), hmo, rfl, rfl, rfl, rfl⟩
  · rintro q m y A P - μ L st B ⟨v, n, r, t, mo, o5, o6, hI, hn, hr, ht, htt, hmo, rfl, rfl, rfl, rfl⟩
    have hR := hI.1.1.2.1.2.2.1
    obtain ⟨-, -, e2, -, -, er⟩ := M8 hI.1
    have hw := wf_r hI.1.1.2.1 hr
    have hB : isM (xsA A 37 (flT v (xi A 35 1) (xi A 36) r (flR v (xi A 35 1) (xi A 36) y (lfG A v y n) r) t)) 8 v := isM_36 hI.1 (by omega)
    have end1 : flR v (xi A 35 1) (xi A 36) y (lfG A v y n) (r + 1) = flT v (xi A 35 1) (xi A 36) r (flR v (xi A 35 1) (xi A 36) y (lfG A v y n) r) t → xB (lf14 y A P) (64 - n, 2 * (vR v - r) - 1, vrs v r - t) [some (.ref 35), some (.ref 8), some (.int y), some (.int (nI n)), some (.int (bI mo)), some (.int (nI (r + 1))), some (.int (nI (vrk v r))), some (.int (nI t)), o5, o6] [] (xsA A 37 (flT v (xi A 35 1) (xi A 36) r (flR v (xi A 35 1) (xi A 36) y (lfG A v y n) r) t)) := fun e =>
      xB2 (c := 2 * (vR v - (r + 1))) (by omega) ⟨v, n, r + 1, mo, _, _, _, _, hI, hn, by omega, fun q => e.trans (hmo q), by rw [e], rfl, rfl, rfl⟩
    simp (disch := omega) only [k_X3_learnFollows_0, k_X3_learnFollows_2, k_X3_learnFollows_14, k_X3_learnFollows_35, k_X3_learnFollows_143, k_X3_learnFollows_148, k_X3_learnFollows_159, k_X3_learnFollows_165, k_X3_learnFollows_185, w_RII, w_RRII, x_aload, x_cv2, x_getF, x_getI, x_iadd, x_iald, x_iand, x_icmp_eq, x_icmp_ge, x_icmp_ne, x_if_eq, x_if_lt, x_if_ne, x_iinc, x_iload, x_ior, x_ishr, x_istore, x_isub, x_push, x_vret, y_cv3, y_getF, y_iald, y_iast, xFT, xbool0, xbool1, Nat.reduceAdd, Nat.zero_add, xgl_0, xgl_s, xgl_n, xst_0, xst_1n, xst_1i, xst_1r, xst_1l, xst_s, set_0, set_s, true_and, and_true, xres, xcat_nil, xcat_i, xcat_r, xcat_l, Nat.add_zero, xble0, xble1, xble2, xble3, xble4, xble5, xble6, xble7, xble8, ob_8, ly_8_5, ly_8_6, ly_8_7, ly_8_8, ly_8_9, ly_8_10, ly_8_11, ly_8_12, ly_8_13, pk_mul, nI_add, nI_1, nI_leI, nI_ltI, nI_eq, n_in, n_cl, z_eq, z_lt, z_le, z_gt, z_ge, z_qe, o_eq, o_lt, o_le, o_gt, o_ge, vp0, vp1, cl0, cl1, n_sub, n_sub1, n_pm1, n_a0, n_0a, ofn, lN0, Nat.reduceLT, Nat.reduceLeDiff, Nat.reduceMul, Nat.reduceSub, Nat.reduceEqDiff, ne_eq, true_implies, false_implies, not_true_eq_false, not_false_eq_true, and_self, and_true, true_and, and_false, false_and, implies_true, if_true, if_false, i00, i10, i01, i11, ob_0, ob_1, tn_2, ln_2, ob_3, tn_4, ln_4, ob_5, tn_6, ln_6, tn_7, ln_7, ob_8, tn_9, ln_9, tn_10, ln_10, tn_11, ln_11, tn_12, ln_12, tn_13, ln_13, tn_14, ln_14, tn_15, ln_15, tn_16, ln_16, tn_17, ln_17, ob_18, tn_19, ln_19, tn_20, ln_20, tn_21, ln_21, tn_22, ln_22, tn_23, ln_23, tn_24, ln_24, tn_25, ln_25, tn_26, ln_26, tn_27, ln_27, ob_28, tn_29, ln_29, tn_30, ln_30, ob_31, tn_32, ln_32, tn_33, ln_33, ob_34, ob_35, tn_36, ln_36, tn_37, ln_37, tn_38, ln_38, ob_39, tn_40, ln_40, tn_41, ln_41, tn_42, ln_42, tn_43, ln_43, tn_44, ln_44, tn_45, ln_45, tn_46, ln_46, tn_47, ln_47, tn_48, ln_48, tn_49, ln_49, tn_50, ln_50, tn_51, ln_51, ob_52, tn_53, ln_53, tn_54, ln_54, tn_55, ln_55, tn_56, ln_56, ob_57, tn_58, ln_58, tn_59, ln_59, tn_60, ln_60, tn_61, ln_61, tn_62, ln_62, tn_63, ln_63, tn_64, ln_64, tn_65, ln_65, ob_66, tn_67, ln_67, tn_68, ln_68, tn_69, ln_69, tn_70, ln_70, tn_71, ln_71, tn_72, ln_72, tn_73, ln_73, ob_74, tn_75, ln_75, tn_76, ln_76, tn_77, ln_77, tn_78, ln_78, tn_79, ln_79, tn_80, ln_80, tn_81, ln_81, tn_82, ln_82, tn_83, ln_83, ob_84, tn_85, ln_85, tn_86, ln_86, tn_87, ln_87, tn_88, ln_88, tn_89, ln_89, tn_90, ln_90, tn_91, ln_91, tn_92, ln_92, tn_93, ln_93, ob_94, tn_95, ln_95, tn_96, ln_96, tn_97, ln_97, tn_98, ln_98, tn_99, ln_99, tn_100, ln_100, tn_101, ln_101, tn_102, ln_102, tn_103, ln_103, ob_104, tn_105, ln_105, tn_106, ln_106, tn_107, ln_107, tn_108, ln_108, tn_109, ln_109, tn_110, ln_110, tn_111, ln_111, tn_112, ln_112, tn_113, ln_113, ob_114, tn_115, ln_115, tn_116, ln_116, tn_117, ln_117, tn_118, ln_118, tn_119, ln_119, tn_120, ln_120, tn_121, ln_121, tn_122, ln_122, tn_123, ln_123, ob_124, tn_125, ln_125, tn_126, ln_126, tn_127, ln_127, tn_128, ln_128, tn_129, ln_129, tn_130, ln_130, tn_131, ln_131, tn_132, ln_132, tn_133, ln_133, ob_134, tn_135, ln_135, tn_136, ln_136, tn_137, ln_137, tn_138, ln_138, tn_139, ln_139, tn_140, ln_140, tn_141, ln_141, tn_142, ln_142, tn_143, ln_143, ob_144, tn_145, ln_145, tn_146, ln_146, tn_147, ln_147, tn_148, ln_148, tn_149, ln_149, tn_150, ln_150, tn_151, ln_151, tn_152, ln_152, tn_153, ln_153, ob_154, tn_155, ln_155, tn_156, ln_156, tn_157, ln_157, tn_158, ln_158, tn_159, ln_159, tn_160, ln_160, tn_161, ln_161, tn_162, ln_162, tn_163, ln_163, ob_164, tn_165, ln_165, tn_166, ln_166, ob_167, tn_168, ln_168, tn_169, ln_169, tn_170, ln_170, tn_171, ln_171, tn_172, ln_172, tn_173, ln_173, tn_174, ln_174, tn_175, ln_175, tn_176, ln_176, ob_177, tn_178, ln_178, tn_179, ln_179, ob_180, tn_181, ln_181, tn_182, ln_182, tn_183, ln_183, tn_184, ln_184, tn_185, ln_185, tn_186, ln_186, tn_187, ln_187, tn_188, ln_188, tn_189, ln_189, tn_190, ln_190, tn_191, ln_191, tn_192, ln_192, tn_193, ln_193, tn_194, ln_194, tn_195, ln_195, tn_196, ln_196, tn_197, ln_197, tn_198, ln_198, tn_199, ln_199, tn_200, ln_200, tn_201, ln_201, tn_202, ln_202, tn_203, ln_203, tn_204, ln_204, tn_205, ln_205, tn_206, ln_206, tn_207, ln_207, tn_208, ln_208, tn_209, ln_209, tn_210, ln_210, tn_211, ln_211, tn_212, ln_212, tn_213, ln_213, tn_214, ln_214, tn_215, ln_215, tn_216, ln_216, tn_217, ln_217, tn_218, ln_218, tn_219, ln_219, tn_220, ln_220, tn_221, ln_221, tn_222, ln_222, tn_223, ln_223, tn_224, ln_224, tn_225, ln_225, tn_226, ln_226, tn_227, ln_227, tn_228, ln_228, tn_229, ln_229, tn_230, ln_230, lx2, lx3, lx4, lx5, lx6, lx7, lx8, lx9, lx10, lx14, lx15, lx16, lx18, lx20, lx24, lx25, lx27, lx32, lx36, lx40, lx41, lx42, lx43, lx45, lx48, lx52, lx54, lx56, lx57, lx58, lx60, lx61, lx62, lx63, lx64, lx66, lx69, lx73, lx80, lx81, lx84, lx85, lx87, lx94, lx96, lx97, lx120, lx128, lx135, lx160, lx162, lx163, lx165, lx200, lx232, lx242, lx243, lx255, lx256, lx320, lx325, lx400, lx405, lx464, lx512, lx600, lx640, lx752, lx900, lx940, lx1000, lx1024, lx1764, lx3360, lx3840, lx5000, lx6400, lx9050, lx9998, lx9999, lx10000, lx25600, lx76800, lx99999, si_ne, si_eq, sl_ne, sl_eq, xl_si, xi_sl, sA_ne, sA_eq, xl_sA, (er r hr).2.1, tst_and, bI_1t, show r < 10 by omega]
    refine ⟨fun a => end1 ?_, fun a => ⟨fun z => end1 ?_, fun z => sy_C hB hr (by omega) ?_⟩⟩
    · have : t = vrs v r := by omega
      subst this
      simp only [flR]
      by_cases z : tst y (vrk v r) = true
      · rw [if_pos z]
      · rw [if_neg z]
        have : vrs v r = 0 := by
          rcases Nat.eq_zero_or_pos (vrs v r) with w | w
          · exact w
          · exact absurd (htt w) z
        rw [this]; rfl
    · have t0 : t = 0 := by
        rcases Nat.eq_zero_or_pos t with w | w
        · exact w
        · exact absurd (htt w) z
      subst t0
      simp only [flR]
      rw [if_neg z]; rfl
    · have z : tst y (vrk v r) = true := by simpa using z
      have hs := wf_s hI.1.1.2.1 hr (show t < vrs v r by omega)
      simp (disch := omega) only [k_X3_learnFollows_0, k_X3_learnFollows_2, k_X3_learnFollows_14, k_X3_learnFollows_35, k_X3_learnFollows_143, k_X3_learnFollows_148, k_X3_learnFollows_159, k_X3_learnFollows_165, k_X3_learnFollows_185, w_RII, w_RRII, x_aload, x_cv2, x_getF, x_getI, x_iadd, x_iald, x_iand, x_icmp_eq, x_icmp_ge, x_icmp_ne, x_if_eq, x_if_lt, x_if_ne, x_iinc, x_iload, x_ior, x_ishr, x_istore, x_isub, x_push, x_vret, y_cv3, y_getF, y_iald, y_iast, xFT, xbool0, xbool1, Nat.reduceAdd, Nat.zero_add, xgl_0, xgl_s, xgl_n, xst_0, xst_1n, xst_1i, xst_1r, xst_1l, xst_s, set_0, set_s, true_and, and_true, xres, xcat_nil, xcat_i, xcat_r, xcat_l, Nat.add_zero, xble0, xble1, xble2, xble3, xble4, xble5, xble6, xble7, xble8, ob_8, ly_8_5, ly_8_6, ly_8_7, ly_8_8, ly_8_9, ly_8_10, ly_8_11, ly_8_12, ly_8_13, pk_mul, nI_add, nI_1, nI_leI, nI_ltI, nI_eq, n_in, n_cl, z_eq, z_lt, z_le, z_gt, z_ge, z_qe, o_eq, o_lt, o_le, o_gt, o_ge, vp0, vp1, cl0, cl1, n_sub, n_sub1, n_pm1, n_a0, n_0a, ofn, lN0, Nat.reduceLT, Nat.reduceLeDiff, Nat.reduceMul, Nat.reduceSub, Nat.reduceEqDiff, ne_eq, true_implies, false_implies, not_true_eq_false, not_false_eq_true, and_self, and_true, true_and, and_false, false_and, implies_true, if_true, if_false, i00, i10, i01, i11, ob_0, ob_1, tn_2, ln_2, ob_3, tn_4, ln_4, ob_5, tn_6, ln_6, tn_7, ln_7, ob_8, tn_9, ln_9, tn_10, ln_10, tn_11, ln_11, tn_12, ln_12, tn_13, ln_13, tn_14, ln_14, tn_15, ln_15, tn_16, ln_16, tn_17, ln_17, ob_18, tn_19, ln_19, tn_20, ln_20, tn_21, ln_21, tn_22, ln_22, tn_23, ln_23, tn_24, ln_24, tn_25, ln_25, tn_26, ln_26, tn_27, ln_27, ob_28, tn_29, ln_29, tn_30, ln_30, ob_31, tn_32, ln_32, tn_33, ln_33, ob_34, ob_35, tn_36, ln_36, tn_37, ln_37, tn_38, ln_38, ob_39, tn_40, ln_40, tn_41, ln_41, tn_42, ln_42, tn_43, ln_43, tn_44, ln_44, tn_45, ln_45, tn_46, ln_46, tn_47, ln_47, tn_48, ln_48, tn_49, ln_49, tn_50, ln_50, tn_51, ln_51, ob_52, tn_53, ln_53, tn_54, ln_54, tn_55, ln_55, tn_56, ln_56, ob_57, tn_58, ln_58, tn_59, ln_59, tn_60, ln_60, tn_61, ln_61, tn_62, ln_62, tn_63, ln_63, tn_64, ln_64, tn_65, ln_65, ob_66, tn_67, ln_67, tn_68, ln_68, tn_69, ln_69, tn_70, ln_70, tn_71, ln_71, tn_72, ln_72, tn_73, ln_73, ob_74, tn_75, ln_75, tn_76, ln_76, tn_77, ln_77, tn_78, ln_78, tn_79, ln_79, tn_80, ln_80, tn_81, ln_81, tn_82, ln_82, tn_83, ln_83, ob_84, tn_85, ln_85, tn_86, ln_86, tn_87, ln_87, tn_88, ln_88, tn_89, ln_89, tn_90, ln_90, tn_91, ln_91, tn_92, ln_92, tn_93, ln_93, ob_94, tn_95, ln_95, tn_96, ln_96, tn_97, ln_97, tn_98, ln_98, tn_99, ln_99, tn_100, ln_100, tn_101, ln_101, tn_102, ln_102, tn_103, ln_103, ob_104, tn_105, ln_105, tn_106, ln_106, tn_107, ln_107, tn_108, ln_108, tn_109, ln_109, tn_110, ln_110, tn_111, ln_111, tn_112, ln_112, tn_113, ln_113, ob_114, tn_115, ln_115, tn_116, ln_116, tn_117, ln_117, tn_118, ln_118, tn_119, ln_119, tn_120, ln_120, tn_121, ln_121, tn_122, ln_122, tn_123, ln_123, ob_124, tn_125, ln_125, tn_126, ln_126, tn_127, ln_127, tn_128, ln_128, tn_129, ln_129, tn_130, ln_130, tn_131, ln_131, tn_132, ln_132, tn_133, ln_133, ob_134, tn_135, ln_135, tn_136, ln_136, tn_137, ln_137, tn_138, ln_138, tn_139, ln_139, tn_140, ln_140, tn_141, ln_141, tn_142, ln_142, tn_143, ln_143, ob_144, tn_145, ln_145, tn_146, ln_146, tn_147, ln_147, tn_148, ln_148, tn_149, ln_149, tn_150, ln_150, tn_151, ln_151, tn_152, ln_152, tn_153, ln_153, ob_154, tn_155, ln_155, tn_156, ln_156, tn_157, ln_157, tn_158, ln_158, tn_159, ln_159, tn_160, ln_160, tn_161, ln_161, tn_162, ln_162, tn_163, ln_163, ob_164, tn_165, ln_165, tn_166, ln_166, ob_167, tn_168, ln_168, tn_169, ln_169, tn_170, ln_170, tn_171, ln_171, tn_172, ln_172, tn_173, ln_173, tn_174, ln_174, tn_175, ln_175, tn_176, ln_176, ob_177, tn_178, ln_178, tn_179, ln_179, ob_180, tn_181, ln_181, tn_182, ln_182, tn_183, ln_183, tn_184, ln_184, tn_185, ln_185, tn_186, ln_186, tn_187, ln_187, tn_188, ln_188, tn_189, ln_189, tn_190, ln_190, tn_191, ln_191, tn_192, ln_192, tn_193, ln_193, tn_194, ln_194, tn_195, ln_195, tn_196, ln_196, tn_197, ln_197, tn_198, ln_198, tn_199, ln_199, tn_200, ln_200, tn_201, ln_201, tn_202, ln_202, tn_203, ln_203, tn_204, ln_204, tn_205, ln_205, tn_206, ln_206, tn_207, ln_207, tn_208, ln_208, tn_209, ln_209, tn_210, ln_210, tn_211, ln_211, tn_212, ln_212, tn_213, ln_213, tn_214, ln_214, tn_215, ln_215, tn_216, ln_216, tn_217, ln_217, tn_218, ln_218, tn_219, ln_219, tn_220, ln_220, tn_221, ln_221, tn_222, ln_222, tn_223, ln_223, tn_224, ln_224, tn_225, ln_225, tn_226, ln_226, tn_227, ln_227, tn_228, ln_228, tn_229, ln_229, tn_230, ln_230, lx2, lx3, lx4, lx5, lx6, lx7, lx8, lx9, lx10, lx14, lx15, lx16, lx18, lx20, lx24, lx25, lx27, lx32, lx36, lx40, lx41, lx42, lx43, lx45, lx48, lx52, lx54, lx56, lx57, lx58, lx60, lx61, lx62, lx63, lx64, lx66, lx69, lx73, lx80, lx81, lx84, lx85, lx87, lx94, lx96, lx97, lx120, lx128, lx135, lx160, lx162, lx163, lx165, lx200, lx232, lx242, lx243, lx255, lx256, lx320, lx325, lx400, lx405, lx464, lx512, lx600, lx640, lx752, lx900, lx940, lx1000, lx1024, lx1764, lx3360, lx3840, lx5000, lx6400, lx9050, lx9998, lx9999, lx10000, lx25600, lx76800, lx99999, si_ne, si_eq, sl_ne, sl_eq, xl_si, xi_sl, sA_ne, sA_eq, xl_sA]
      have lt8 : (nI (vsy v r t) - nI 8 < 0) ↔ vsy v r t < 8 := by
        have := sub8_ge (s := vsy v r t) (by omega)
        rw [← Int32.not_le, this]; omega
      rw [lt8]
      refine ⟨fun g => ?_, fun g => ?_⟩
      · have e : flT v (xi A 35 1) (xi A 36) r (flR v (xi A 35 1) (xi A 36) y (lfG A v y n) r) (t + 1) = flT v (xi A 35 1) (xi A 36) r (flR v (xi A 35 1) (xi A 36) y (lfG A v y n) r) t := by simp only [flT]; rw [if_pos g]
        exact xB3 (d := vrs v r - (t + 1)) (by omega) ⟨v, n, r, t + 1, mo, _, _, hI, hn, hr, by omega, fun _ => z, by rw [e]; exact hmo, by rw [e], rfl, rfl, rfl⟩
      · rw [n_sub (by omega)]
        simp (disch := omega) only [pk_mul, nI_add, nI_1, nI_leI, nI_ltI, nI_eq, n_in, n_cl, z_eq, z_lt, z_le, z_gt, z_ge, z_qe, o_eq, o_lt, o_le, o_gt, o_ge, vp0, vp1, cl0, cl1, n_sub, n_sub1, n_pm1, n_a0, n_0a, ofn, lN0, Nat.reduceLT, Nat.reduceLeDiff, Nat.reduceMul, Nat.reduceSub, Nat.reduceEqDiff, ne_eq, true_implies, false_implies, not_true_eq_false, not_false_eq_true, and_self, and_true, true_and, and_false, false_and, implies_true, if_true, if_false, i00, i10, i01, i11, ob_0, ob_1, tn_2, ln_2, ob_3, tn_4, ln_4, ob_5, tn_6, ln_6, tn_7, ln_7, ob_8, tn_9, ln_9, tn_10, ln_10, tn_11, ln_11, tn_12, ln_12, tn_13, ln_13, tn_14, ln_14, tn_15, ln_15, tn_16, ln_16, tn_17, ln_17, ob_18, tn_19, ln_19, tn_20, ln_20, tn_21, ln_21, tn_22, ln_22, tn_23, ln_23, tn_24, ln_24, tn_25, ln_25, tn_26, ln_26, tn_27, ln_27, ob_28, tn_29, ln_29, tn_30, ln_30, ob_31, tn_32, ln_32, tn_33, ln_33, ob_34, ob_35, tn_36, ln_36, tn_37, ln_37, tn_38, ln_38, ob_39, tn_40, ln_40, tn_41, ln_41, tn_42, ln_42, tn_43, ln_43, tn_44, ln_44, tn_45, ln_45, tn_46, ln_46, tn_47, ln_47, tn_48, ln_48, tn_49, ln_49, tn_50, ln_50, tn_51, ln_51, ob_52, tn_53, ln_53, tn_54, ln_54, tn_55, ln_55, tn_56, ln_56, ob_57, tn_58, ln_58, tn_59, ln_59, tn_60, ln_60, tn_61, ln_61, tn_62, ln_62, tn_63, ln_63, tn_64, ln_64, tn_65, ln_65, ob_66, tn_67, ln_67, tn_68, ln_68, tn_69, ln_69, tn_70, ln_70, tn_71, ln_71, tn_72, ln_72, tn_73, ln_73, ob_74, tn_75, ln_75, tn_76, ln_76, tn_77, ln_77, tn_78, ln_78, tn_79, ln_79, tn_80, ln_80, tn_81, ln_81, tn_82, ln_82, tn_83, ln_83, ob_84, tn_85, ln_85, tn_86, ln_86, tn_87, ln_87, tn_88, ln_88, tn_89, ln_89, tn_90, ln_90, tn_91, ln_91, tn_92, ln_92, tn_93, ln_93, ob_94, tn_95, ln_95, tn_96, ln_96, tn_97, ln_97, tn_98, ln_98, tn_99, ln_99, tn_100, ln_100, tn_101, ln_101, tn_102, ln_102, tn_103, ln_103, ob_104, tn_105, ln_105, tn_106, ln_106, tn_107, ln_107, tn_108, ln_108, tn_109, ln_109, tn_110, ln_110, tn_111, ln_111, tn_112, ln_112, tn_113, ln_113, ob_114, tn_115, ln_115, tn_116, ln_116, tn_117, ln_117, tn_118, ln_118, tn_119, ln_119, tn_120, ln_120, tn_121, ln_121, tn_122, ln_122, tn_123, ln_123, ob_124, tn_125, ln_125, tn_126, ln_126, tn_127, ln_127, tn_128, ln_128, tn_129, ln_129, tn_130, ln_130, tn_131, ln_131, tn_132, ln_132, tn_133, ln_133, ob_134, tn_135, ln_135, tn_136, ln_136, tn_137, ln_137, tn_138, ln_138, tn_139, ln_139, tn_140, ln_140, tn_141, ln_141, tn_142, ln_142, tn_143, ln_143, ob_144, tn_145, ln_145, tn_146, ln_146, tn_147, ln_147, tn_148, ln_148, tn_149, ln_149, tn_150, ln_150, tn_151, ln_151, tn_152, ln_152, tn_153, ln_153, ob_154, tn_155, ln_155, tn_156, ln_156, tn_157, ln_157, tn_158, ln_158, tn_159, ln_159, tn_160, ln_160, tn_161, ln_161, tn_162, ln_162, tn_163, ln_163, ob_164, tn_165, ln_165, tn_166, ln_166, ob_167, tn_168, ln_168, tn_169, ln_169, tn_170, ln_170, tn_171, ln_171, tn_172, ln_172, tn_173, ln_173, tn_174, ln_174, tn_175, ln_175, tn_176, ln_176, ob_177, tn_178, ln_178, tn_179, ln_179, ob_180, tn_181, ln_181, tn_182, ln_182, tn_183, ln_183, tn_184, ln_184, tn_185, ln_185, tn_186, ln_186, tn_187, ln_187, tn_188, ln_188, tn_189, ln_189, tn_190, ln_190, tn_191, ln_191, tn_192, ln_192, tn_193, ln_193, tn_194, ln_194, tn_195, ln_195, tn_196, ln_196, tn_197, ln_197, tn_198, ln_198, tn_199, ln_199, tn_200, ln_200, tn_201, ln_201, tn_202, ln_202, tn_203, ln_203, tn_204, ln_204, tn_205, ln_205, tn_206, ln_206, tn_207, ln_207, tn_208, ln_208, tn_209, ln_209, tn_210, ln_210, tn_211, ln_211, tn_212, ln_212, tn_213, ln_213, tn_214, ln_214, tn_215, ln_215, tn_216, ln_216, tn_217, ln_217, tn_218, ln_218, tn_219, ln_219, tn_220, ln_220, tn_221, ln_221, tn_222, ln_222, tn_223, ln_223, tn_224, ln_224, tn_225, ln_225, tn_226, ln_226, tn_227, ln_227, tn_228, ln_228, tn_229, ln_229, tn_230, ln_230, lx2, lx3, lx4, lx5, lx6, lx7, lx8, lx9, lx10, lx14, lx15, lx16, lx18, lx20, lx24, lx25, lx27, lx32, lx36, lx40, lx41, lx42, lx43, lx45, lx48, lx52, lx54, lx56, lx57, lx58, lx60, lx61, lx62, lx63, lx64, lx66, lx69, lx73, lx80, lx81, lx84, lx85, lx87, lx94, lx96, lx97, lx120, lx128, lx135, lx160, lx162, lx163, lx165, lx200, lx232, lx242, lx243, lx255, lx256, lx320, lx325, lx400, lx405, lx464, lx512, lx600, lx640, lx752, lx900, lx940, lx1000, lx1024, lx1764, lx3360, lx3840, lx5000, lx6400, lx9050, lx9998, lx9999, lx10000, lx25600, lx76800, lx99999, show vsy v r t - 8 < 5 by omega]
        have e35 : xi (xsA A 37 (flT v (xi A 35 1) (xi A 36) r (flR v (xi A 35 1) (xi A 36) y (lfG A v y n) r) t)) 35 1 = xi A 35 1 := sA_ne (by omega)
        have e36 : xi (xsA A 37 (flT v (xi A 35 1) (xi A 36) r (flR v (xi A 35 1) (xi A 36) y (lfG A v y n) r) t)) 36 = xi A 36 := funext fun k => sA_ne (by omega)
        refine ⟨rfl, rfl, v, r, t + 1, hB, hr, rfl, rfl, by omega, ?_⟩
        rw [e35, e36]
        simp (disch := omega) only [k_X3_learnFollows_0, k_X3_learnFollows_2, k_X3_learnFollows_14, k_X3_learnFollows_35, k_X3_learnFollows_143, k_X3_learnFollows_148, k_X3_learnFollows_159, k_X3_learnFollows_165, k_X3_learnFollows_185, w_RII, w_RRII, x_aload, x_cv2, x_getF, x_getI, x_iadd, x_iald, x_iand, x_icmp_eq, x_icmp_ge, x_icmp_ne, x_if_eq, x_if_lt, x_if_ne, x_iinc, x_iload, x_ior, x_ishr, x_istore, x_isub, x_push, x_vret, y_cv3, y_getF, y_iald, y_iast, xFT, xbool0, xbool1, Nat.reduceAdd, Nat.zero_add, xgl_0, xgl_s, xgl_n, xst_0, xst_1n, xst_1i, xst_1r, xst_1l, xst_s, set_0, set_s, true_and, and_true, xres, xcat_nil, xcat_i, xcat_r, xcat_l, Nat.add_zero, xble0, xble1, xble2, xble3, xble4, xble5, xble6, xble7, xble8, ob_8, ly_8_5, ly_8_6, ly_8_7, ly_8_8, ly_8_9, ly_8_10, ly_8_11, ly_8_12, ly_8_13, pk_mul, nI_add, nI_1, nI_leI, nI_ltI, nI_eq, n_in, n_cl, z_eq, z_lt, z_le, z_gt, z_ge, z_qe, o_eq, o_lt, o_le, o_gt, o_ge, vp0, vp1, cl0, cl1, n_sub, n_sub1, n_pm1, n_a0, n_0a, ofn, lN0, Nat.reduceLT, Nat.reduceLeDiff, Nat.reduceMul, Nat.reduceSub, Nat.reduceEqDiff, ne_eq, true_implies, false_implies, not_true_eq_false, not_false_eq_true, and_self, and_true, true_and, and_false, false_and, implies_true, if_true, if_false, i00, i10, i01, i11, ob_0, ob_1, tn_2, ln_2, ob_3, tn_4, ln_4, ob_5, tn_6, ln_6, tn_7, ln_7, ob_8, tn_9, ln_9, tn_10, ln_10, tn_11, ln_11, tn_12, ln_12, tn_13, ln_13, tn_14, ln_14, tn_15, ln_15, tn_16, ln_16, tn_17, ln_17, ob_18, tn_19, ln_19, tn_20, ln_20, tn_21, ln_21, tn_22, ln_22, tn_23, ln_23, tn_24, ln_24, tn_25, ln_25, tn_26, ln_26, tn_27, ln_27, ob_28, tn_29, ln_29, tn_30, ln_30, ob_31, tn_32, ln_32, tn_33, ln_33, ob_34, ob_35, tn_36, ln_36, tn_37, ln_37, tn_38, ln_38, ob_39, tn_40, ln_40, tn_41, ln_41, tn_42, ln_42, tn_43, ln_43, tn_44, ln_44, tn_45, ln_45, tn_46, ln_46, tn_47, ln_47, tn_48, ln_48, tn_49, ln_49, tn_50, ln_50, tn_51, ln_51, ob_52, tn_53, ln_53, tn_54, ln_54, tn_55, ln_55, tn_56, ln_56, ob_57, tn_58, ln_58, tn_59, ln_59, tn_60, ln_60, tn_61, ln_61, tn_62, ln_62, tn_63, ln_63, tn_64, ln_64, tn_65, ln_65, ob_66, tn_67, ln_67, tn_68, ln_68, tn_69, ln_69, tn_70, ln_70, tn_71, ln_71, tn_72, ln_72, tn_73, ln_73, ob_74, tn_75, ln_75, tn_76, ln_76, tn_77, ln_77, tn_78, ln_78, tn_79, ln_79, tn_80, ln_80, tn_81, ln_81, tn_82, ln_82, tn_83, ln_83, ob_84, tn_85, ln_85, tn_86, ln_86, tn_87, ln_87, tn_88, ln_88, tn_89, ln_89, tn_90, ln_90, tn_91, ln_91, tn_92, ln_92, tn_93, ln_93, ob_94, tn_95, ln_95, tn_96, ln_96, tn_97, ln_97, tn_98, ln_98, tn_99, ln_99, tn_100, ln_100, tn_101, ln_101, tn_102, ln_102, tn_103, ln_103, ob_104, tn_105, ln_105, tn_106, ln_106, tn_107, ln_107, tn_108, ln_108, tn_109, ln_109, tn_110, ln_110, tn_111, ln_111, tn_112, ln_112, tn_113, ln_113, ob_114, tn_115, ln_115, tn_116, ln_116, tn_117, ln_117, tn_118, ln_118, tn_119, ln_119, tn_120, ln_120, tn_121, ln_121, tn_122, ln_122, tn_123, ln_123, ob_124, tn_125, ln_125, tn_126, ln_126, tn_127, ln_127, tn_128, ln_128, tn_129, ln_129, tn_130, ln_130, tn_131, ln_131, tn_132, ln_132, tn_133, ln_133, ob_134, tn_135, ln_135, tn_136, ln_136, tn_137, ln_137, tn_138, ln_138, tn_139, ln_139, tn_140, ln_140, tn_141, ln_141, tn_142, ln_142, tn_143, ln_143, ob_144, tn_145, ln_145, tn_146, ln_146, tn_147, ln_147, tn_148, ln_148, tn_149, ln_149, tn_150, ln_150, tn_151, ln_151, tn_152, ln_152, tn_153, ln_153, ob_154, tn_155, ln_155, tn_156, ln_156, tn_157, ln_157, tn_158, ln_158, tn_159, ln_159, tn_160, ln_160, tn_161, ln_161, tn_162, ln_162, tn_163, ln_163, ob_164, tn_165, ln_165, tn_166, ln_166, ob_167, tn_168, ln_168, tn_169, ln_169, tn_170, ln_170, tn_171, ln_171, tn_172, ln_172, tn_173, ln_173, tn_174, ln_174, tn_175, ln_175, tn_176, ln_176, ob_177, tn_178, ln_178, tn_179, ln_179, ob_180, tn_181, ln_181, tn_182, ln_182, tn_183, ln_183, tn_184, ln_184, tn_185, ln_185, tn_186, ln_186, tn_187, ln_187, tn_188, ln_188, tn_189, ln_189, tn_190, ln_190, tn_191, ln_191, tn_192, ln_192, tn_193, ln_193, tn_194, ln_194, tn_195, ln_195, tn_196, ln_196, tn_197, ln_197, tn_198, ln_198, tn_199, ln_199, tn_200, ln_200, tn_201, ln_201, tn_202, ln_202, tn_203, ln_203, tn_204, ln_204, tn_205, ln_205, tn_206, ln_206, tn_207, ln_207, tn_208, ln_208, tn_209, ln_209, tn_210, ln_210, tn_211, ln_211, tn_212, ln_212, tn_213, ln_213, tn_214, ln_214, tn_215, ln_215, tn_216, ln_216, tn_217, ln_217, tn_218, ln_218, tn_219, ln_219, tn_220, ln_220, tn_221, ln_221, tn_222, ln_222, tn_223, ln_223, tn_224, ln_224, tn_225, ln_225, tn_226, ln_226, tn_227, ln_227, tn_228, ln_228, tn_229, ln_229, tn_230, ln_230, lx2, lx3, lx4, lx5, lx6, lx7, lx8, lx9, lx10, lx14, lx15, lx16, lx18, lx20, lx24, lx25, lx27, lx32, lx36, lx40, lx41, lx42, lx43, lx45, lx48, lx52, lx54, lx56, lx57, lx58, lx60, lx61, lx62, lx63, lx64, lx66, lx69, lx73, lx80, lx81, lx84, lx85, lx87, lx94, lx96, lx97, lx120, lx128, lx135, lx160, lx162, lx163, lx165, lx200, lx232, lx242, lx243, lx255, lx256, lx320, lx325, lx400, lx405, lx464, lx512, lx600, lx640, lx752, lx900, lx940, lx1000, lx1024, lx1764, lx3360, lx3840, lx5000, lx6400, lx9050, lx9998, lx9999, lx10000, lx25600, lx76800, lx99999]
        refine ⟨rfl, rfl, v, r, t + 1, hB, hr, rfl, rfl, by omega, ?_⟩
        rw [e35]
        have e : flT v (xi A 35 1) (xi A 36) r (flR v (xi A 35 1) (xi A 36) y (lfG A v y n) r) (t + 1) = fun k => if k = vsy v r t - 8 then flT v (xi A 35 1) (xi A 36) r (flR v (xi A 35 1) (xi A 36) y (lfG A v y n) r) t k ||| bF v r (xi A 35 1) (xi A 36) (vrs v r - (t + 1)) (t + 1) ||| (if eF v r (xi A 35 1) (vrs v r - (t + 1)) (t + 1) then flT v (xi A 35 1) (xi A 36) r (flR v (xi A 35 1) (xi A 36) y (lfG A v y n) r) t (vrk v r) else 0) else flT v (xi A 35 1) (xi A 36) r (flR v (xi A 35 1) (xi A 36) y (lfG A v y n) r) t k := by simp only [flT]; rw [if_neg g]
        have j123 : ∀ w, w = (if eF v r (xi A 35 1) (vrs v r - (t + 1)) (t + 1) then flT v (xi A 35 1) (xi A 36) r (flR v (xi A 35 1) (xi A 36) y (lfG A v y n) r) t (vrk v r) else 0) → k_X3_learnFollows_123 P (xB (lf35 y A P) (64 - n, 2 * (vR v - r) - 1, vrs v r - t)) [some (.ref 35), some (.ref 8), some (.int y), some (.int (nI n)), some (.int (bI mo)), some (.int (nI r)), some (.int (nI (vrk v r))), some (.int (nI t)), some (.int (nI (vsy v r t - 8))), some (.int (flT v (xi A 35 1) (xi A 36) r (flR v (xi A 35 1) (xi A 36) y (lfG A v y n) r) t (vsy v r t - 8) ||| bF v r (xi A 35 1) (xi A 36) (vrs v r - (t + 1)) (t + 1)))] [.int w, .int (flT v (xi A 35 1) (xi A 36) r (flR v (xi A 35 1) (xi A 36) y (lfG A v y n) r) t (vsy v r t - 8) ||| bF v r (xi A 35 1) (xi A 36) (vrs v r - (t + 1)) (t + 1))] (xsA A 37 (flT v (xi A 35 1) (xi A 36) r (flR v (xi A 35 1) (xi A 36) y (lfG A v y n) r) t)) := by
          intro w hw2
          simp (disch := omega) only [k_X3_learnFollows_0, k_X3_learnFollows_2, k_X3_learnFollows_14, k_X3_learnFollows_35, k_X3_learnFollows_123, k_X3_learnFollows_143, k_X3_learnFollows_148, k_X3_learnFollows_159, k_X3_learnFollows_165, k_X3_learnFollows_185, w_RII, w_RRII, x_aload, x_cv2, x_getF, x_getI, x_iadd, x_iald, x_iand, x_icmp_eq, x_icmp_ge, x_icmp_ne, x_if_eq, x_if_lt, x_if_ne, x_iinc, x_iload, x_ior, x_ishr, x_istore, x_isub, x_push, x_vret, y_cv3, y_getF, y_iald, y_iast, xFT, xbool0, xbool1, Nat.reduceAdd, Nat.zero_add, xgl_0, xgl_s, xgl_n, xst_0, xst_1n, xst_1i, xst_1r, xst_1l, xst_s, set_0, set_s, true_and, and_true, xres, xcat_nil, xcat_i, xcat_r, xcat_l, Nat.add_zero, xble0, xble1, xble2, xble3, xble4, xble5, xble6, xble7, xble8, ob_8, ly_8_5, ly_8_6, ly_8_7, ly_8_8, ly_8_9, ly_8_10, ly_8_11, ly_8_12, ly_8_13, pk_mul, nI_add, nI_1, nI_leI, nI_ltI, nI_eq, n_in, n_cl, z_eq, z_lt, z_le, z_gt, z_ge, z_qe, o_eq, o_lt, o_le, o_gt, o_ge, vp0, vp1, cl0, cl1, n_sub, n_sub1, n_pm1, n_a0, n_0a, ofn, lN0, Nat.reduceLT, Nat.reduceLeDiff, Nat.reduceMul, Nat.reduceSub, Nat.reduceEqDiff, ne_eq, true_implies, false_implies, not_true_eq_false, not_false_eq_true, and_self, and_true, true_and, and_false, false_and, implies_true, if_true, if_false, i00, i10, i01, i11, ob_0, ob_1, tn_2, ln_2, ob_3, tn_4, ln_4, ob_5, tn_6, ln_6, tn_7, ln_7, ob_8, tn_9, ln_9, tn_10, ln_10, tn_11, ln_11, tn_12, ln_12, tn_13, ln_13, tn_14, ln_14, tn_15, ln_15, tn_16, ln_16, tn_17, ln_17, ob_18, tn_19, ln_19, tn_20, ln_20, tn_21, ln_21, tn_22, ln_22, tn_23, ln_23, tn_24, ln_24, tn_25, ln_25, tn_26, ln_26, tn_27, ln_27, ob_28, tn_29, ln_29, tn_30, ln_30, ob_31, tn_32, ln_32, tn_33, ln_33, ob_34, ob_35, tn_36, ln_36, tn_37, ln_37, tn_38, ln_38, ob_39, tn_40, ln_40, tn_41, ln_41, tn_42, ln_42, tn_43, ln_43, tn_44, ln_44, tn_45, ln_45, tn_46, ln_46, tn_47, ln_47, tn_48, ln_48, tn_49, ln_49, tn_50, ln_50, tn_51, ln_51, ob_52, tn_53, ln_53, tn_54, ln_54, tn_55, ln_55, tn_56, ln_56, ob_57, tn_58, ln_58, tn_59, ln_59, tn_60, ln_60, tn_61, ln_61, tn_62, ln_62, tn_63, ln_63, tn_64, ln_64, tn_65, ln_65, ob_66, tn_67, ln_67, tn_68, ln_68, tn_69, ln_69, tn_70, ln_70, tn_71, ln_71, tn_72, ln_72, tn_73, ln_73, ob_74, tn_75, ln_75, tn_76, ln_76, tn_77, ln_77, tn_78, ln_78, tn_79, ln_79, tn_80, ln_80, tn_81, ln_81, tn_82, ln_82, tn_83, ln_83, ob_84, tn_85, ln_85, tn_86, ln_86, tn_87, ln_87, tn_88, ln_88, tn_89, ln_89, tn_90, ln_90, tn_91, ln_91, tn_92, ln_92, tn_93, ln_93, ob_94, tn_95, ln_95, tn_96, ln_96, tn_97, ln_97, tn_98, ln_98, tn_99, ln_99, tn_100, ln_100, tn_101, ln_101, tn_102, ln_102, tn_103, ln_103, ob_104, tn_105, ln_105, tn_106, ln_106, tn_107, ln_107, tn_108, ln_108, tn_109, ln_109, tn_110, ln_110, tn_111, ln_111, tn_112, ln_112, tn_113, ln_113, ob_114, tn_115, ln_115, tn_116, ln_116, tn_117, ln_117, tn_118, ln_118, tn_119, ln_119, tn_120, ln_120, tn_121, ln_121, tn_122, ln_122, tn_123, ln_123, ob_124, tn_125, ln_125, tn_126, ln_126, tn_127, ln_127, tn_128, ln_128, tn_129, ln_129, tn_130, ln_130, tn_131, ln_131, tn_132, ln_132, tn_133, ln_133, ob_134, tn_135, ln_135, tn_136, ln_136, tn_137, ln_137, tn_138, ln_138, tn_139, ln_139, tn_140, ln_140, tn_141, ln_141, tn_142, ln_142, tn_143, ln_143, ob_144, tn_145, ln_145, tn_146, ln_146, tn_147, ln_147, tn_148, ln_148, tn_149, ln_149, tn_150, ln_150, tn_151, ln_151, tn_152, ln_152, tn_153, ln_153, ob_154, tn_155, ln_155, tn_156, ln_156, tn_157, ln_157, tn_158, ln_158, tn_159, ln_159, tn_160, ln_160, tn_161, ln_161, tn_162, ln_162, tn_163, ln_163, ob_164, tn_165, ln_165, tn_166, ln_166, ob_167, tn_168, ln_168, tn_169, ln_169, tn_170, ln_170, tn_171, ln_171, tn_172, ln_172, tn_173, ln_173, tn_174, ln_174, tn_175, ln_175, tn_176, ln_176, ob_177, tn_178, ln_178, tn_179, ln_179, ob_180, tn_181, ln_181, tn_182, ln_182, tn_183, ln_183, tn_184, ln_184, tn_185, ln_185, tn_186, ln_186, tn_187, ln_187, tn_188, ln_188, tn_189, ln_189, tn_190, ln_190, tn_191, ln_191, tn_192, ln_192, tn_193, ln_193, tn_194, ln_194, tn_195, ln_195, tn_196, ln_196, tn_197, ln_197, tn_198, ln_198, tn_199, ln_199, tn_200, ln_200, tn_201, ln_201, tn_202, ln_202, tn_203, ln_203, tn_204, ln_204, tn_205, ln_205, tn_206, ln_206, tn_207, ln_207, tn_208, ln_208, tn_209, ln_209, tn_210, ln_210, tn_211, ln_211, tn_212, ln_212, tn_213, ln_213, tn_214, ln_214, tn_215, ln_215, tn_216, ln_216, tn_217, ln_217, tn_218, ln_218, tn_219, ln_219, tn_220, ln_220, tn_221, ln_221, tn_222, ln_222, tn_223, ln_223, tn_224, ln_224, tn_225, ln_225, tn_226, ln_226, tn_227, ln_227, tn_228, ln_228, tn_229, ln_229, tn_230, ln_230, lx2, lx3, lx4, lx5, lx6, lx7, lx8, lx9, lx10, lx14, lx15, lx16, lx18, lx20, lx24, lx25, lx27, lx32, lx36, lx40, lx41, lx42, lx43, lx45, lx48, lx52, lx54, lx56, lx57, lx58, lx60, lx61, lx62, lx63, lx64, lx66, lx69, lx73, lx80, lx81, lx84, lx85, lx87, lx94, lx96, lx97, lx120, lx128, lx135, lx160, lx162, lx163, lx165, lx200, lx232, lx242, lx243, lx255, lx256, lx320, lx325, lx400, lx405, lx464, lx512, lx600, lx640, lx752, lx900, lx940, lx1000, lx1024, lx1764, lx3360, lx3840, lx5000, lx6400, lx9050, lx9998, lx9999, lx10000, lx25600, lx76800, lx99999, si_ne, si_eq, sl_ne, sl_eq, xl_si, xi_sl, sA_ne, sA_eq, xl_sA, bI_t, xsi_sA, show vsy v r t - 8 < 5 by omega]
          have nx : ∀ b, (b = false → mo = false ∧ flT v (xi A 35 1) (xi A 36) r (flR v (xi A 35 1) (xi A 36) y (lfG A v y n) r) t (vsy v r t - 8) ||| bF v r (xi A 35 1) (xi A 36) (vrs v r - (t + 1)) (t + 1) ||| w = flT v (xi A 35 1) (xi A 36) r (flR v (xi A 35 1) (xi A 36) y (lfG A v y n) r) t (vsy v r t - 8)) → ∀ o5 o6, xB (lf35 y A P) (64 - n, 2 * (vR v - r) - 1, vrs v r - t) [some (.ref 35), some (.ref 8), some (.int y), some (.int (nI n)), some (.int (bI b)), some (.int (nI r)), some (.int (nI (vrk v r))), some (.int (nI (t + 1))), o5, o6] [] (xsA A 37 (fun j => if j = vsy v r t - 8 then flT v (xi A 35 1) (xi A 36) r (flR v (xi A 35 1) (xi A 36) y (lfG A v y n) r) t (vsy v r t - 8) ||| bF v r (xi A 35 1) (xi A 36) (vrs v r - (t + 1)) (t + 1) ||| w else flT v (xi A 35 1) (xi A 36) r (flR v (xi A 35 1) (xi A 36) y (lfG A v y n) r) t j)) := fun b hb o5 o6 => by
            refine xB3 (d := vrs v r - (t + 1)) (by omega) ⟨v, n, r, t + 1, b, _, _, hI, hn, hr, by omega, fun _ => z, fun q => ?_, xsA_congr fun j => ?_, rfl, rfl, rfl⟩
            · have h1 := hb q
              rw [e, ← hw2]
              rw [Int32.or_assoc] at h1
              have := or_fix (g := flT v (xi A 35 1) (xi A 36) r (flR v (xi A 35 1) (xi A 36) y (lfG A v y n) r) t) h1.2
              refine Eq.trans (funext fun k => ?_) (this.trans (hmo h1.1))
              rw [Int32.or_assoc]
            · rw [e, ← hw2]
              dsimp only
              by_cases e5 : j = vsy v r t - 8
              · rw [if_pos e5, if_pos e5, e5]
              · rw [if_neg e5, if_neg e5]
          refine ⟨fun z => nx true (fun q => by cases q) _ _, fun z => ⟨fun w => nx false (fun _ => ⟨z, w⟩) _ _, fun w => nx true (fun q => by cases q) _ _⟩⟩
        simp (disch := omega) only [k_X3_learnFollows_0, k_X3_learnFollows_2, k_X3_learnFollows_14, k_X3_learnFollows_35, k_X3_learnFollows_143, k_X3_learnFollows_148, k_X3_learnFollows_159, k_X3_learnFollows_165, k_X3_learnFollows_185, w_RII, w_RRII, x_aload, x_cv2, x_getF, x_getI, x_iadd, x_iald, x_iand, x_icmp_eq, x_icmp_ge, x_icmp_ne, x_if_eq, x_if_lt, x_if_ne, x_iinc, x_iload, x_ior, x_ishr, x_istore, x_isub, x_push, x_vret, y_cv3, y_getF, y_iald, y_iast, xFT, xbool0, xbool1, Nat.reduceAdd, Nat.zero_add, xgl_0, xgl_s, xgl_n, xst_0, xst_1n, xst_1i, xst_1r, xst_1l, xst_s, set_0, set_s, true_and, and_true, xres, xcat_nil, xcat_i, xcat_r, xcat_l, Nat.add_zero, xble0, xble1, xble2, xble3, xble4, xble5, xble6, xble7, xble8, ob_8, ly_8_5, ly_8_6, ly_8_7, ly_8_8, ly_8_9, ly_8_10, ly_8_11, ly_8_12, ly_8_13, pk_mul, nI_add, nI_1, nI_leI, nI_ltI, nI_eq, n_in, n_cl, z_eq, z_lt, z_le, z_gt, z_ge, z_qe, o_eq, o_lt, o_le, o_gt, o_ge, vp0, vp1, cl0, cl1, n_sub, n_sub1, n_pm1, n_a0, n_0a, ofn, lN0, Nat.reduceLT, Nat.reduceLeDiff, Nat.reduceMul, Nat.reduceSub, Nat.reduceEqDiff, ne_eq, true_implies, false_implies, not_true_eq_false, not_false_eq_true, and_self, and_true, true_and, and_false, false_and, implies_true, if_true, if_false, i00, i10, i01, i11, ob_0, ob_1, tn_2, ln_2, ob_3, tn_4, ln_4, ob_5, tn_6, ln_6, tn_7, ln_7, ob_8, tn_9, ln_9, tn_10, ln_10, tn_11, ln_11, tn_12, ln_12, tn_13, ln_13, tn_14, ln_14, tn_15, ln_15, tn_16, ln_16, tn_17, ln_17, ob_18, tn_19, ln_19, tn_20, ln_20, tn_21, ln_21, tn_22, ln_22, tn_23, ln_23, tn_24, ln_24, tn_25, ln_25, tn_26, ln_26, tn_27, ln_27, ob_28, tn_29, ln_29, tn_30, ln_30, ob_31, tn_32, ln_32, tn_33, ln_33, ob_34, ob_35, tn_36, ln_36, tn_37, ln_37, tn_38, ln_38, ob_39, tn_40, ln_40, tn_41, ln_41, tn_42, ln_42, tn_43, ln_43, tn_44, ln_44, tn_45, ln_45, tn_46, ln_46, tn_47, ln_47, tn_48, ln_48, tn_49, ln_49, tn_50, ln_50, tn_51, ln_51, ob_52, tn_53, ln_53, tn_54, ln_54, tn_55, ln_55, tn_56, ln_56, ob_57, tn_58, ln_58, tn_59, ln_59, tn_60, ln_60, tn_61, ln_61, tn_62, ln_62, tn_63, ln_63, tn_64, ln_64, tn_65, ln_65, ob_66, tn_67, ln_67, tn_68, ln_68, tn_69, ln_69, tn_70, ln_70, tn_71, ln_71, tn_72, ln_72, tn_73, ln_73, ob_74, tn_75, ln_75, tn_76, ln_76, tn_77, ln_77, tn_78, ln_78, tn_79, ln_79, tn_80, ln_80, tn_81, ln_81, tn_82, ln_82, tn_83, ln_83, ob_84, tn_85, ln_85, tn_86, ln_86, tn_87, ln_87, tn_88, ln_88, tn_89, ln_89, tn_90, ln_90, tn_91, ln_91, tn_92, ln_92, tn_93, ln_93, ob_94, tn_95, ln_95, tn_96, ln_96, tn_97, ln_97, tn_98, ln_98, tn_99, ln_99, tn_100, ln_100, tn_101, ln_101, tn_102, ln_102, tn_103, ln_103, ob_104, tn_105, ln_105, tn_106, ln_106, tn_107, ln_107, tn_108, ln_108, tn_109, ln_109, tn_110, ln_110, tn_111, ln_111, tn_112, ln_112, tn_113, ln_113, ob_114, tn_115, ln_115, tn_116, ln_116, tn_117, ln_117, tn_118, ln_118, tn_119, ln_119, tn_120, ln_120, tn_121, ln_121, tn_122, ln_122, tn_123, ln_123, ob_124, tn_125, ln_125, tn_126, ln_126, tn_127, ln_127, tn_128, ln_128, tn_129, ln_129, tn_130, ln_130, tn_131, ln_131, tn_132, ln_132, tn_133, ln_133, ob_134, tn_135, ln_135, tn_136, ln_136, tn_137, ln_137, tn_138, ln_138, tn_139, ln_139, tn_140, ln_140, tn_141, ln_141, tn_142, ln_142, tn_143, ln_143, ob_144, tn_145, ln_145, tn_146, ln_146, tn_147, ln_147, tn_148, ln_148, tn_149, ln_149, tn_150, ln_150, tn_151, ln_151, tn_152, ln_152, tn_153, ln_153, ob_154, tn_155, ln_155, tn_156, ln_156, tn_157, ln_157, tn_158, ln_158, tn_159, ln_159, tn_160, ln_160, tn_161, ln_161, tn_162, ln_162, tn_163, ln_163, ob_164, tn_165, ln_165, tn_166, ln_166, ob_167, tn_168, ln_168, tn_169, ln_169, tn_170, ln_170, tn_171, ln_171, tn_172, ln_172, tn_173, ln_173, tn_174, ln_174, tn_175, ln_175, tn_176, ln_176, ob_177, tn_178, ln_178, tn_179, ln_179, ob_180, tn_181, ln_181, tn_182, ln_182, tn_183, ln_183, tn_184, ln_184, tn_185, ln_185, tn_186, ln_186, tn_187, ln_187, tn_188, ln_188, tn_189, ln_189, tn_190, ln_190, tn_191, ln_191, tn_192, ln_192, tn_193, ln_193, tn_194, ln_194, tn_195, ln_195, tn_196, ln_196, tn_197, ln_197, tn_198, ln_198, tn_199, ln_199, tn_200, ln_200, tn_201, ln_201, tn_202, ln_202, tn_203, ln_203, tn_204, ln_204, tn_205, ln_205, tn_206, ln_206, tn_207, ln_207, tn_208, ln_208, tn_209, ln_209, tn_210, ln_210, tn_211, ln_211, tn_212, ln_212, tn_213, ln_213, tn_214, ln_214, tn_215, ln_215, tn_216, ln_216, tn_217, ln_217, tn_218, ln_218, tn_219, ln_219, tn_220, ln_220, tn_221, ln_221, tn_222, ln_222, tn_223, ln_223, tn_224, ln_224, tn_225, ln_225, tn_226, ln_226, tn_227, ln_227, tn_228, ln_228, tn_229, ln_229, tn_230, ln_230, lx2, lx3, lx4, lx5, lx6, lx7, lx8, lx9, lx10, lx14, lx15, lx16, lx18, lx20, lx24, lx25, lx27, lx32, lx36, lx40, lx41, lx42, lx43, lx45, lx48, lx52, lx54, lx56, lx57, lx58, lx60, lx61, lx62, lx63, lx64, lx66, lx69, lx73, lx80, lx81, lx84, lx85, lx87, lx94, lx96, lx97, lx120, lx128, lx135, lx160, lx162, lx163, lx165, lx200, lx232, lx242, lx243, lx255, lx256, lx320, lx325, lx400, lx405, lx464, lx512, lx600, lx640, lx752, lx900, lx940, lx1000, lx1024, lx1764, lx3360, lx3840, lx5000, lx6400, lx9050, lx9998, lx9999, lx10000, lx25600, lx76800, lx99999, si_ne, si_eq, sl_ne, sl_eq, xl_si, xi_sl, sA_ne, sA_eq, xl_sA, bI_t, show vrk v r < 5 by omega]
        refine ⟨fun w => j123 _ ?_, fun w => j123 _ ?_⟩
        · rw [w]; rfl
        · have w : eF v r (xi A 35 1) (vrs v r - (t + 1)) (t + 1) = true := by simpa using w
          rw [if_pos w]

