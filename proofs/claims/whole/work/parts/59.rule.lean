/-! ===== rule() and item(), on both sides ===== -/
theorem d_X12_rule_0 : decode cX12_rule 0 = .ok (.aload_n 0, 1) := by decide +kernel
theorem d_X12_rule_1 : decode cX12_rule 1 = .ok (.iload_n 1, 1) := by decide +kernel
theorem d_X12_rule_2 : decode cX12_rule 2 = .ok (.invokevirtual 341, 3) := by decide +kernel
theorem d_X12_rule_5 : decode cX12_rule 5 = .ok (.ifCond .ne 5, 3) := by decide +kernel
theorem d_X12_rule_8 : decode cX12_rule 8 = .ok (.iconst (-1), 1) := by decide +kernel
theorem d_X12_rule_9 : decode cX12_rule 9 = .ok (.ireturn, 1) := by decide +kernel
theorem d_X12_rule_10 : decode cX12_rule 10 = .ok (.aload_n 0, 1) := by decide +kernel
theorem d_X12_rule_11 : decode cX12_rule 11 = .ok (.invokevirtual 338, 3) := by decide +kernel
theorem d_X12_rule_14 : decode cX12_rule 14 = .ok (.iload_n 2, 1) := by decide +kernel
theorem d_X12_rule_15 : decode cX12_rule 15 = .ok (.iconst 5, 1) := by decide +kernel
theorem d_X12_rule_16 : decode cX12_rule 16 = .ok (.if_icmp .ne 12, 3) := by decide +kernel
theorem d_X12_rule_19 : decode cX12_rule 19 = .ok (.aload_n 0, 1) := by decide +kernel
theorem d_X12_rule_20 : decode cX12_rule 20 = .ok (.getfield 59, 3) := by decide +kernel
theorem d_X12_rule_23 : decode cX12_rule 23 = .ok (.iload_n 1, 1) := by decide +kernel
theorem d_X12_rule_24 : decode cX12_rule 24 = .ok (.iaload, 1) := by decide +kernel
theorem d_X12_rule_25 : decode cX12_rule 25 = .ok (.goto 28, 3) := by decide +kernel
theorem d_X12_rule_28 : decode cX12_rule 28 = .ok (.iload_n 2, 1) := by decide +kernel
theorem d_X12_rule_29 : decode cX12_rule 29 = .ok (.iconst 0, 1) := by decide +kernel
theorem d_X12_rule_30 : decode cX12_rule 30 = .ok (.iconst 4, 1) := by decide +kernel
theorem d_X12_rule_31 : decode cX12_rule 31 = .ok (.invokestatic 264, 3) := by decide +kernel
theorem d_X12_rule_34 : decode cX12_rule 34 = .ok (.ifCond .eq 18, 3) := by decide +kernel
theorem d_X12_rule_37 : decode cX12_rule 37 = .ok (.aload_n 0, 1) := by decide +kernel
theorem d_X12_rule_38 : decode cX12_rule 38 = .ok (.getfield 30, 3) := by decide +kernel
theorem d_X12_rule_41 : decode cX12_rule 41 = .ok (.iconst 4, 1) := by decide +kernel
theorem d_X12_rule_42 : decode cX12_rule 42 = .ok (.iconst 5, 1) := by decide +kernel
theorem d_X12_rule_43 : decode cX12_rule 43 = .ok (.iload_n 1, 1) := by decide +kernel
theorem d_X12_rule_44 : decode cX12_rule 44 = .ok (.imul, 1) := by decide +kernel
theorem d_X12_rule_45 : decode cX12_rule 45 = .ok (.iadd, 1) := by decide +kernel
theorem d_X12_rule_46 : decode cX12_rule 46 = .ok (.iload_n 2, 1) := by decide +kernel
theorem d_X12_rule_47 : decode cX12_rule 47 = .ok (.iadd, 1) := by decide +kernel
theorem d_X12_rule_48 : decode cX12_rule 48 = .ok (.iaload, 1) := by decide +kernel
theorem d_X12_rule_49 : decode cX12_rule 49 = .ok (.goto 4, 3) := by decide +kernel
theorem d_X12_rule_52 : decode cX12_rule 52 = .ok (.iconst (-1), 1) := by decide +kernel
theorem d_X12_rule_53 : decode cX12_rule 53 = .ok (.ireturn, 1) := by decide +kernel
def k_X12_rule_53 (P : xP) : xK := x_iret P
set_option maxRecDepth 20000 in
theorem t_X12_rule_53 {p : Program} {l : Launch} {e : Env} {s : State} {m : MethodId} {args : Array Value} {below : List Frame} {meth : Method} {c : Code} {g : xG} (X : xX p s m args c meth cX12_rule RX12 3 g) (hr : meth.sig.returnType = (some .int)) {P : xP} : xAt p l e { frames := 2, cells := 0, slots := 0, locals := 44 } s m args below meth c g 3 xFT xN 0 0 (MQ below (xQc g xFT xN P) args s 0 0 (xFr g)) (k_X12_rule_53 P) 53 := by
  unfold k_X12_rule_53
  exact r_iret (pc := 53) X hr d_X12_rule_53
def k_X12_rule_0 (P : xP) : xK := x_aload 0 (x_iload 1 (y_cv1 180 (w_RI f_X12_isRule) (x_if_ne (x_aload 0 (y_cv0 180 (w_R f_X12_laysItems) (x_iload 2 (x_push (.int 5) (x_icmp_ne (x_iload 2 (x_push (.int 0) (x_push (.int 4) (x_cs3 (w_III f_X12_isIn) (x_if_eq (x_push (.int (-1)) ((k_X12_rule_53 P))) (x_aload 0 (y_getF 180 182 (x_push (.int 4) (x_push (.int 5) (x_iload 1 (x_imul (x_iadd (x_iload 2 (x_iadd (y_iald 182 232 ((k_X12_rule_53 P))))))))))))))))) (x_aload 0 (y_getF 180 191 (x_iload 1 (y_iald 191 10 ((k_X12_rule_53 P))))))))))) (x_push (.int (-1)) (x_iret P)))))
set_option maxRecDepth 20000 in
theorem t_X12_rule_0 {p : Program} {l : Launch} {e : Env} {s : State} {m : MethodId} {args : Array Value} {below : List Frame} {meth : Method} {c : Code} {g : xG} (X : xX p s m args c meth cX12_rule RX12 3 g) (hr : meth.sig.returnType = (some .int)) {P : xP} : xAt p l e { frames := 2, cells := 0, slots := 0, locals := 44 } s m args below meth c g 3 xFT xN 0 0 (MQ below (xQc g xFT xN P) args s 0 0 (xFr g)) (k_X12_rule_0 P) 0 := by
  unfold k_X12_rule_0
  refine r_aload_n (pc := 0) X d_X12_rule_0 fn0 ?_
  refine r_iload_n (pc := 1) X d_X12_rule_1 fn1 ?_
  refine s_cv1 (pc := 2) (ci := 12) X xok12 (by decide +kernel) ob_180 rfl (con_X12_isRule l) mf_X12_isRule ml_RX12_341 (by decide +kernel) (by decide +kernel) d_X12_rule_2 ?_
  refine r_if_ne (pc := 5) (tgt := 10) X d_X12_rule_5 (by decide +kernel) ?_ ?_
  · refine r_aload_n (pc := 10) X d_X12_rule_10 fn0 ?_
    refine s_cv0 (pc := 11) (ci := 12) X xok12 (by decide +kernel) ob_180 rfl (con_X12_laysItems l) mf_X12_laysItems ml_RX12_338 (by decide +kernel) (by decide +kernel) d_X12_rule_11 ?_
    refine r_iload_n (pc := 14) X d_X12_rule_14 fn2 ?_
    refine r_iconst (pc := 15) X d_X12_rule_15 (by decide +kernel) ?_
    refine r_icmp_ne (pc := 16) (tgt := 28) X d_X12_rule_16 (by decide +kernel) ?_ ?_
    · refine r_iload_n (pc := 28) X d_X12_rule_28 fn2 ?_
      refine r_iconst (pc := 29) X d_X12_rule_29 (by decide +kernel) ?_
      refine r_iconst (pc := 30) X d_X12_rule_30 (by decide +kernel) ?_
      refine r_cs3 (pc := 31) X (con_X12_isIn l) sf_X12_isIn ml_RX12_264 (by decide +kernel) (by decide +kernel) d_X12_rule_31 ?_
      refine r_if_eq (pc := 34) (tgt := 52) X d_X12_rule_34 (by decide +kernel) ?_ ?_
      · refine r_iconst (pc := 52) X d_X12_rule_52 (by decide +kernel) ?_
        exact t_X12_rule_53 X hr
      · refine r_aload_n (pc := 37) X d_X12_rule_37 fn0 ?_
        refine s_getF (pc := 38) (ci := 12) (k := 5) X xok12 (by decide +kernel) ob_180 trivial ly_180_5 (by decide +kernel) fl_RX12_30 d_X12_rule_38 ?_
        refine r_iconst (pc := 41) X d_X12_rule_41 (by decide +kernel) ?_
        refine r_iconst (pc := 42) X d_X12_rule_42 (by decide +kernel) ?_
        refine r_iload_n (pc := 43) X d_X12_rule_43 fn1 ?_
        refine r_imul (pc := 44) X d_X12_rule_44 ?_
        refine r_iadd (pc := 45) X d_X12_rule_45 ?_
        refine r_iload_n (pc := 46) X d_X12_rule_46 fn2 ?_
        refine r_iadd (pc := 47) X d_X12_rule_47 ?_
        refine s_iald (pc := 48) X tn_182 ln_182 d_X12_rule_48 ?_
        refine r_goto (pc := 49) (tgt := 53) X d_X12_rule_49 (by decide +kernel) ?_
        exact t_X12_rule_53 X hr
    · refine r_aload_n (pc := 19) X d_X12_rule_19 fn0 ?_
      refine s_getF (pc := 20) (ci := 12) (k := 23) X xok12 (by decide +kernel) ob_180 trivial ly_180_23 (by decide +kernel) fl_RX12_59 d_X12_rule_20 ?_
      refine r_iload_n (pc := 23) X d_X12_rule_23 fn1 ?_
      refine s_iald (pc := 24) X tn_191 ln_191 d_X12_rule_24 ?_
      refine r_goto (pc := 25) (tgt := 53) X d_X12_rule_25 (by decide +kernel) ?_
      exact t_X12_rule_53 X hr
  · refine r_iconst (pc := 8) X d_X12_rule_8 (by decide +kernel) ?_
    exact r_iret (pc := 9) X hr d_X12_rule_9
def f_X12_rule (a0 : Nat) (a1 : Int32) (a2 : Int32) (A : xH) (P : xP) : Prop := k_X12_rule_0 P [some (.ref a0), some (.int a1), some (.int a2)] [] A
set_option maxRecDepth 20000 in
theorem con_X12_rule (l : Launch) : xCon l yX12_rule cX12_rule 3 (some .int) 2 44 xN xN 0 xFT xFT (w_RII f_X12_rule) :=
  xc_RII (plainFor_of_name pn_RX12) (by decide +kernel) (fun p e s m args below meth c g a0 a1 a2 A P h X hr _ => ⟨_, h, t_X12_rule_0 X hr⟩)
theorem d_X11_rule_0 : decode cX11_rule 0 = .ok (.iload_n 1, 1) := by decide +kernel
theorem d_X11_rule_1 : decode cX11_rule 1 = .ok (.ifCond .lt 14, 3) := by decide +kernel
theorem d_X11_rule_4 : decode cX11_rule 4 = .ok (.iload_n 1, 1) := by decide +kernel
theorem d_X11_rule_5 : decode cX11_rule 5 = .ok (.aload_n 0, 1) := by decide +kernel
theorem d_X11_rule_6 : decode cX11_rule 6 = .ok (.getfield 28, 3) := by decide +kernel
theorem d_X11_rule_9 : decode cX11_rule 9 = .ok (.getfield 142, 3) := by decide +kernel
theorem d_X11_rule_12 : decode cX11_rule 12 = .ok (.if_icmp .lt 5, 3) := by decide +kernel
theorem d_X11_rule_15 : decode cX11_rule 15 = .ok (.iconst (-1), 1) := by decide +kernel
theorem d_X11_rule_16 : decode cX11_rule 16 = .ok (.ireturn, 1) := by decide +kernel
theorem d_X11_rule_17 : decode cX11_rule 17 = .ok (.iload_n 2, 1) := by decide +kernel
theorem d_X11_rule_18 : decode cX11_rule 18 = .ok (.ifCond .ne 13, 3) := by decide +kernel
theorem d_X11_rule_21 : decode cX11_rule 21 = .ok (.aload_n 0, 1) := by decide +kernel
theorem d_X11_rule_22 : decode cX11_rule 22 = .ok (.getfield 28, 3) := by decide +kernel
theorem d_X11_rule_25 : decode cX11_rule 25 = .ok (.getfield 145, 3) := by decide +kernel
theorem d_X11_rule_28 : decode cX11_rule 28 = .ok (.iload_n 1, 1) := by decide +kernel
theorem d_X11_rule_29 : decode cX11_rule 29 = .ok (.iaload, 1) := by decide +kernel
theorem d_X11_rule_30 : decode cX11_rule 30 = .ok (.ireturn, 1) := by decide +kernel
theorem d_X11_rule_31 : decode cX11_rule 31 = .ok (.iload_n 2, 1) := by decide +kernel
theorem d_X11_rule_32 : decode cX11_rule 32 = .ok (.iconst 1, 1) := by decide +kernel
theorem d_X11_rule_33 : decode cX11_rule 33 = .ok (.if_icmp .ne 13, 3) := by decide +kernel
theorem d_X11_rule_36 : decode cX11_rule 36 = .ok (.aload_n 0, 1) := by decide +kernel
theorem d_X11_rule_37 : decode cX11_rule 37 = .ok (.getfield 28, 3) := by decide +kernel
theorem d_X11_rule_40 : decode cX11_rule 40 = .ok (.getfield 148, 3) := by decide +kernel
theorem d_X11_rule_43 : decode cX11_rule 43 = .ok (.iload_n 1, 1) := by decide +kernel
theorem d_X11_rule_44 : decode cX11_rule 44 = .ok (.iaload, 1) := by decide +kernel
theorem d_X11_rule_45 : decode cX11_rule 45 = .ok (.ireturn, 1) := by decide +kernel
theorem d_X11_rule_46 : decode cX11_rule 46 = .ok (.iload_n 2, 1) := by decide +kernel
theorem d_X11_rule_47 : decode cX11_rule 47 = .ok (.iconst 2, 1) := by decide +kernel
theorem d_X11_rule_48 : decode cX11_rule 48 = .ok (.if_icmp .lt 20, 3) := by decide +kernel
theorem d_X11_rule_51 : decode cX11_rule 51 = .ok (.iload_n 2, 1) := by decide +kernel
theorem d_X11_rule_52 : decode cX11_rule 52 = .ok (.iconst 4, 1) := by decide +kernel
theorem d_X11_rule_53 : decode cX11_rule 53 = .ok (.if_icmp .gt 15, 3) := by decide +kernel
theorem d_X11_rule_56 : decode cX11_rule 56 = .ok (.aload_n 0, 1) := by decide +kernel
theorem d_X11_rule_57 : decode cX11_rule 57 = .ok (.getfield 28, 3) := by decide +kernel
theorem d_X11_rule_60 : decode cX11_rule 60 = .ok (.iload_n 1, 1) := by decide +kernel
theorem d_X11_rule_61 : decode cX11_rule 61 = .ok (.iload_n 2, 1) := by decide +kernel
theorem d_X11_rule_62 : decode cX11_rule 62 = .ok (.iconst 2, 1) := by decide +kernel
theorem d_X11_rule_63 : decode cX11_rule 63 = .ok (.isub, 1) := by decide +kernel
theorem d_X11_rule_64 : decode cX11_rule 64 = .ok (.invokevirtual 151, 3) := by decide +kernel
theorem d_X11_rule_67 : decode cX11_rule 67 = .ok (.ireturn, 1) := by decide +kernel
theorem d_X11_rule_68 : decode cX11_rule 68 = .ok (.iload_n 2, 1) := by decide +kernel
theorem d_X11_rule_69 : decode cX11_rule 69 = .ok (.iconst 5, 1) := by decide +kernel
theorem d_X11_rule_70 : decode cX11_rule 70 = .ok (.if_icmp .ne 15, 3) := by decide +kernel
theorem d_X11_rule_73 : decode cX11_rule 73 = .ok (.aload_n 0, 1) := by decide +kernel
theorem d_X11_rule_74 : decode cX11_rule 74 = .ok (.getfield 28, 3) := by decide +kernel
theorem d_X11_rule_77 : decode cX11_rule 77 = .ok (.getfield 155, 3) := by decide +kernel
theorem d_X11_rule_80 : decode cX11_rule 80 = .ok (.iload_n 1, 1) := by decide +kernel
theorem d_X11_rule_81 : decode cX11_rule 81 = .ok (.iaload, 1) := by decide +kernel
theorem d_X11_rule_82 : decode cX11_rule 82 = .ok (.goto 4, 3) := by decide +kernel
theorem d_X11_rule_85 : decode cX11_rule 85 = .ok (.iconst (-1), 1) := by decide +kernel
theorem d_X11_rule_86 : decode cX11_rule 86 = .ok (.ireturn, 1) := by decide +kernel
def k_X11_rule_15 (P : xP) : xK := x_push (.int (-1)) (x_iret P)
set_option maxRecDepth 20000 in
theorem t_X11_rule_15 {p : Program} {l : Launch} {e : Env} {s : State} {m : MethodId} {args : Array Value} {below : List Frame} {meth : Method} {c : Code} {g : xG} (X : xX p s m args c meth cX11_rule RX11 3 g) (hr : meth.sig.returnType = (some .int)) {P : xP} : xAt p l e { frames := 1, cells := 0, slots := 0, locals := 22 } s m args below meth c g 3 xFT xN 0 0 (MQ below (xQc g xFT xN P) args s 0 0 (xFr g)) (k_X11_rule_15 P) 15 := by
  unfold k_X11_rule_15
  refine r_iconst (pc := 15) X d_X11_rule_15 (by decide +kernel) ?_
  exact r_iret (pc := 16) X hr d_X11_rule_16
def k_X11_rule_86 (P : xP) : xK := x_iret P
set_option maxRecDepth 20000 in
theorem t_X11_rule_86 {p : Program} {l : Launch} {e : Env} {s : State} {m : MethodId} {args : Array Value} {below : List Frame} {meth : Method} {c : Code} {g : xG} (X : xX p s m args c meth cX11_rule RX11 3 g) (hr : meth.sig.returnType = (some .int)) {P : xP} : xAt p l e { frames := 1, cells := 0, slots := 0, locals := 22 } s m args below meth c g 3 xFT xN 0 0 (MQ below (xQc g xFT xN P) args s 0 0 (xFr g)) (k_X11_rule_86 P) 86 := by
  unfold k_X11_rule_86
  exact r_iret (pc := 86) X hr d_X11_rule_86
def k_X11_rule_68 (P : xP) : xK := x_iload 2 (x_push (.int 5) (x_icmp_ne (x_push (.int (-1)) ((k_X11_rule_86 P))) (x_aload 0 (y_getF 0 8 (y_getF 8 13 (x_iload 1 (y_iald 13 10 ((k_X11_rule_86 P)))))))))
set_option maxRecDepth 20000 in
theorem t_X11_rule_68 {p : Program} {l : Launch} {e : Env} {s : State} {m : MethodId} {args : Array Value} {below : List Frame} {meth : Method} {c : Code} {g : xG} (X : xX p s m args c meth cX11_rule RX11 3 g) (hr : meth.sig.returnType = (some .int)) {P : xP} : xAt p l e { frames := 1, cells := 0, slots := 0, locals := 22 } s m args below meth c g 3 xFT xN 0 0 (MQ below (xQc g xFT xN P) args s 0 0 (xFr g)) (k_X11_rule_68 P) 68 := by
  unfold k_X11_rule_68
  refine r_iload_n (pc := 68) X d_X11_rule_68 fn2 ?_
  refine r_iconst (pc := 69) X d_X11_rule_69 (by decide +kernel) ?_
  refine r_icmp_ne (pc := 70) (tgt := 85) X d_X11_rule_70 (by decide +kernel) ?_ ?_
  · refine r_iconst (pc := 85) X d_X11_rule_85 (by decide +kernel) ?_
    exact t_X11_rule_86 X hr
  · refine r_aload_n (pc := 73) X d_X11_rule_73 fn0 ?_
    refine s_getF (pc := 74) (ci := 11) (k := 2) X xok11 (by decide +kernel) ob_0 trivial ly_0_2 (by decide +kernel) fl_RX11_28 d_X11_rule_74 ?_
    refine s_getF (pc := 77) (ci := 4) (k := 9) X xok4 (by decide +kernel) ob_8 trivial ly_8_9 (by decide +kernel) fl_RX11_155 d_X11_rule_77 ?_
    refine r_iload_n (pc := 80) X d_X11_rule_80 fn1 ?_
    refine s_iald (pc := 81) X tn_13 ln_13 d_X11_rule_81 ?_
    refine r_goto (pc := 82) (tgt := 86) X d_X11_rule_82 (by decide +kernel) ?_
    exact t_X11_rule_86 X hr
def k_X11_rule_0 (P : xP) : xK := x_iload 1 (x_if_lt ((k_X11_rule_15 P)) (x_iload 1 (x_aload 0 (y_getF 0 8 (y_getI 8 2 (x_icmp_lt (x_iload 2 (x_if_ne (x_iload 2 (x_push (.int 1) (x_icmp_ne (x_iload 2 (x_push (.int 2) (x_icmp_lt ((k_X11_rule_68 P)) (x_iload 2 (x_push (.int 4) (x_icmp_gt ((k_X11_rule_68 P)) (x_aload 0 (y_getF 0 8 (x_iload 1 (x_iload 2 (x_push (.int 2) (x_isub (y_cv2 8 (w_RII f_X4_symbolAt) (x_iret P)))))))))))))) (x_aload 0 (y_getF 0 8 (y_getF 8 12 (x_iload 1 (y_iald 12 10 (x_iret P))))))))) (x_aload 0 (y_getF 0 8 (y_getF 8 11 (x_iload 1 (y_iald 11 10 (x_iret P)))))))) ((k_X11_rule_15 P))))))))
set_option maxRecDepth 20000 in
theorem t_X11_rule_0 {p : Program} {l : Launch} {e : Env} {s : State} {m : MethodId} {args : Array Value} {below : List Frame} {meth : Method} {c : Code} {g : xG} (X : xX p s m args c meth cX11_rule RX11 3 g) (hr : meth.sig.returnType = (some .int)) {P : xP} : xAt p l e { frames := 1, cells := 0, slots := 0, locals := 22 } s m args below meth c g 3 xFT xN 0 0 (MQ below (xQc g xFT xN P) args s 0 0 (xFr g)) (k_X11_rule_0 P) 0 := by
  unfold k_X11_rule_0
  refine r_iload_n (pc := 0) X d_X11_rule_0 fn1 ?_
  refine r_if_lt (pc := 1) (tgt := 15) X d_X11_rule_1 (by decide +kernel) ?_ ?_
  · exact t_X11_rule_15 X hr
  · refine r_iload_n (pc := 4) X d_X11_rule_4 fn1 ?_
    refine r_aload_n (pc := 5) X d_X11_rule_5 fn0 ?_
    refine s_getF (pc := 6) (ci := 11) (k := 2) X xok11 (by decide +kernel) ob_0 trivial ly_0_2 (by decide +kernel) fl_RX11_28 d_X11_rule_6 ?_
    refine s_getI (pc := 9) (ci := 4) X xok4 (by decide +kernel) ob_8 (by decide +kernel) fl_RX11_142 d_X11_rule_9 ?_
    refine r_icmp_lt (pc := 12) (tgt := 17) X d_X11_rule_12 (by decide +kernel) ?_ ?_
    · refine r_iload_n (pc := 17) X d_X11_rule_17 fn2 ?_
      refine r_if_ne (pc := 18) (tgt := 31) X d_X11_rule_18 (by decide +kernel) ?_ ?_
      · refine r_iload_n (pc := 31) X d_X11_rule_31 fn2 ?_
        refine r_iconst (pc := 32) X d_X11_rule_32 (by decide +kernel) ?_
        refine r_icmp_ne (pc := 33) (tgt := 46) X d_X11_rule_33 (by decide +kernel) ?_ ?_
        · refine r_iload_n (pc := 46) X d_X11_rule_46 fn2 ?_
          refine r_iconst (pc := 47) X d_X11_rule_47 (by decide +kernel) ?_
          refine r_icmp_lt (pc := 48) (tgt := 68) X d_X11_rule_48 (by decide +kernel) ?_ ?_
          · exact t_X11_rule_68 X hr
          · refine r_iload_n (pc := 51) X d_X11_rule_51 fn2 ?_
            refine r_iconst (pc := 52) X d_X11_rule_52 (by decide +kernel) ?_
            refine r_icmp_gt (pc := 53) (tgt := 68) X d_X11_rule_53 (by decide +kernel) ?_ ?_
            · exact t_X11_rule_68 X hr
            · refine r_aload_n (pc := 56) X d_X11_rule_56 fn0 ?_
              refine s_getF (pc := 57) (ci := 11) (k := 2) X xok11 (by decide +kernel) ob_0 trivial ly_0_2 (by decide +kernel) fl_RX11_28 d_X11_rule_57 ?_
              refine r_iload_n (pc := 60) X d_X11_rule_60 fn1 ?_
              refine r_iload_n (pc := 61) X d_X11_rule_61 fn2 ?_
              refine r_iconst (pc := 62) X d_X11_rule_62 (by decide +kernel) ?_
              refine r_isub (pc := 63) X d_X11_rule_63 ?_
              refine s_cv2 (pc := 64) (ci := 4) X xok4 (by decide +kernel) ob_8 rfl (con_X4_symbolAt l) mf_X4_symbolAt ml_RX11_151 (by decide +kernel) (by decide +kernel) d_X11_rule_64 ?_
              exact r_iret (pc := 67) X hr d_X11_rule_67
        · refine r_aload_n (pc := 36) X d_X11_rule_36 fn0 ?_
          refine s_getF (pc := 37) (ci := 11) (k := 2) X xok11 (by decide +kernel) ob_0 trivial ly_0_2 (by decide +kernel) fl_RX11_28 d_X11_rule_37 ?_
          refine s_getF (pc := 40) (ci := 4) (k := 8) X xok4 (by decide +kernel) ob_8 trivial ly_8_8 (by decide +kernel) fl_RX11_148 d_X11_rule_40 ?_
          refine r_iload_n (pc := 43) X d_X11_rule_43 fn1 ?_
          refine s_iald (pc := 44) X tn_12 ln_12 d_X11_rule_44 ?_
          exact r_iret (pc := 45) X hr d_X11_rule_45
      · refine r_aload_n (pc := 21) X d_X11_rule_21 fn0 ?_
        refine s_getF (pc := 22) (ci := 11) (k := 2) X xok11 (by decide +kernel) ob_0 trivial ly_0_2 (by decide +kernel) fl_RX11_28 d_X11_rule_22 ?_
        refine s_getF (pc := 25) (ci := 4) (k := 7) X xok4 (by decide +kernel) ob_8 trivial ly_8_7 (by decide +kernel) fl_RX11_145 d_X11_rule_25 ?_
        refine r_iload_n (pc := 28) X d_X11_rule_28 fn1 ?_
        refine s_iald (pc := 29) X tn_11 ln_11 d_X11_rule_29 ?_
        exact r_iret (pc := 30) X hr d_X11_rule_30
    · exact t_X11_rule_15 X hr
def f_X11_rule (a0 : Nat) (a1 : Int32) (a2 : Int32) (A : xH) (P : xP) : Prop := k_X11_rule_0 P [some (.ref a0), some (.int a1), some (.int a2)] [] A
set_option maxRecDepth 20000 in
theorem con_X11_rule (l : Launch) : xCon l yX11_rule cX11_rule 3 (some .int) 1 22 xN xN 0 xFT xFT (w_RII f_X11_rule) :=
  xc_RII (plainFor_of_name pn_RX11) (by decide +kernel) (fun p e s m args below meth c g a0 a1 a2 A P h X hr _ => ⟨_, h, t_X11_rule_0 X hr⟩)
theorem d_X12_item_0 : decode cX12_item 0 = .ok (.aload_n 0, 1) := by decide +kernel
theorem d_X12_item_1 : decode cX12_item 1 = .ok (.iload_n 1, 1) := by decide +kernel
theorem d_X12_item_2 : decode cX12_item 2 = .ok (.invokevirtual 344, 3) := by decide +kernel
theorem d_X12_item_5 : decode cX12_item 5 = .ok (.ifCond .ne 5, 3) := by decide +kernel
theorem d_X12_item_8 : decode cX12_item 8 = .ok (.iconst (-1), 1) := by decide +kernel
theorem d_X12_item_9 : decode cX12_item 9 = .ok (.ireturn, 1) := by decide +kernel
theorem d_X12_item_10 : decode cX12_item 10 = .ok (.iload_n 2, 1) := by decide +kernel
theorem d_X12_item_11 : decode cX12_item 11 = .ok (.tableswitch 78 0 4 #[33, 40, 47, 54, 64], 33) := by decide +kernel
theorem d_X12_item_44 : decode cX12_item 44 = .ok (.aload_n 0, 1) := by decide +kernel
theorem d_X12_item_45 : decode cX12_item 45 = .ok (.getfield 50, 3) := by decide +kernel
theorem d_X12_item_48 : decode cX12_item 48 = .ok (.iload_n 1, 1) := by decide +kernel
theorem d_X12_item_49 : decode cX12_item 49 = .ok (.iaload, 1) := by decide +kernel
theorem d_X12_item_50 : decode cX12_item 50 = .ok (.ireturn, 1) := by decide +kernel
theorem d_X12_item_51 : decode cX12_item 51 = .ok (.aload_n 0, 1) := by decide +kernel
theorem d_X12_item_52 : decode cX12_item 52 = .ok (.getfield 53, 3) := by decide +kernel
theorem d_X12_item_55 : decode cX12_item 55 = .ok (.iload_n 1, 1) := by decide +kernel
theorem d_X12_item_56 : decode cX12_item 56 = .ok (.iaload, 1) := by decide +kernel
theorem d_X12_item_57 : decode cX12_item 57 = .ok (.ireturn, 1) := by decide +kernel
theorem d_X12_item_58 : decode cX12_item 58 = .ok (.aload_n 0, 1) := by decide +kernel
theorem d_X12_item_59 : decode cX12_item 59 = .ok (.getfield 56, 3) := by decide +kernel
theorem d_X12_item_62 : decode cX12_item 62 = .ok (.iload_n 1, 1) := by decide +kernel
theorem d_X12_item_63 : decode cX12_item 63 = .ok (.iaload, 1) := by decide +kernel
theorem d_X12_item_64 : decode cX12_item 64 = .ok (.ireturn, 1) := by decide +kernel
theorem d_X12_item_65 : decode cX12_item 65 = .ok (.aload_n 0, 1) := by decide +kernel
theorem d_X12_item_66 : decode cX12_item 66 = .ok (.getfield 30, 3) := by decide +kernel
theorem d_X12_item_69 : decode cX12_item 69 = .ok (.bipush 54, 2) := by decide +kernel
theorem d_X12_item_71 : decode cX12_item 71 = .ok (.iload_n 1, 1) := by decide +kernel
theorem d_X12_item_72 : decode cX12_item 72 = .ok (.iadd, 1) := by decide +kernel
theorem d_X12_item_73 : decode cX12_item 73 = .ok (.iaload, 1) := by decide +kernel
theorem d_X12_item_74 : decode cX12_item 74 = .ok (.ireturn, 1) := by decide +kernel
theorem d_X12_item_75 : decode cX12_item 75 = .ok (.aload_n 0, 1) := by decide +kernel
theorem d_X12_item_76 : decode cX12_item 76 = .ok (.aload_n 0, 1) := by decide +kernel
theorem d_X12_item_77 : decode cX12_item 77 = .ok (.getfield 30, 3) := by decide +kernel
theorem d_X12_item_80 : decode cX12_item 80 = .ok (.bipush 54, 2) := by decide +kernel
theorem d_X12_item_82 : decode cX12_item 82 = .ok (.iload_n 1, 1) := by decide +kernel
theorem d_X12_item_83 : decode cX12_item 83 = .ok (.iadd, 1) := by decide +kernel
theorem d_X12_item_84 : decode cX12_item 84 = .ok (.iaload, 1) := by decide +kernel
theorem d_X12_item_85 : decode cX12_item 85 = .ok (.invokevirtual 347, 3) := by decide +kernel
theorem d_X12_item_88 : decode cX12_item 88 = .ok (.ireturn, 1) := by decide +kernel
theorem d_X12_item_89 : decode cX12_item 89 = .ok (.iconst (-1), 1) := by decide +kernel
theorem d_X12_item_90 : decode cX12_item 90 = .ok (.ireturn, 1) := by decide +kernel
def k_X12_item_0 (P : xP) : xK := x_aload 0 (x_iload 1 (y_cv1 180 (w_RI f_X12_isItem) (x_if_ne (x_iload 2 (x_tsw 0 [x_aload 0 (y_getF 180 188 (x_iload 1 (y_iald 188 42 (x_iret P)))), x_aload 0 (y_getF 180 189 (x_iload 1 (y_iald 189 42 (x_iret P)))), x_aload 0 (y_getF 180 190 (x_iload 1 (y_iald 190 42 (x_iret P)))), x_aload 0 (y_getF 180 182 (x_push (.int 54) (x_iload 1 (x_iadd (y_iald 182 232 (x_iret P)))))), x_aload 0 (x_aload 0 (y_getF 180 182 (x_push (.int 54) (x_iload 1 (x_iadd (y_iald 182 232 (y_cv1 180 (w_RI f_X12_inClass) (x_iret P))))))))] (x_push (.int (-1)) (x_iret P)))) (x_push (.int (-1)) (x_iret P)))))
set_option maxRecDepth 20000 in
theorem t_X12_item_0 {p : Program} {l : Launch} {e : Env} {s : State} {m : MethodId} {args : Array Value} {below : List Frame} {meth : Method} {c : Code} {g : xG} (X : xX p s m args c meth cX12_item RX12 3 g) (hr : meth.sig.returnType = (some .int)) {P : xP} : xAt p l e { frames := 3, cells := 0, slots := 0, locals := 65 } s m args below meth c g 3 xFT xN 0 0 (MQ below (xQc g xFT xN P) args s 0 0 (xFr g)) (k_X12_item_0 P) 0 := by
  unfold k_X12_item_0
  refine r_aload_n (pc := 0) X d_X12_item_0 fn0 ?_
  refine r_iload_n (pc := 1) X d_X12_item_1 fn1 ?_
  refine s_cv1 (pc := 2) (ci := 12) X xok12 (by decide +kernel) ob_180 rfl (con_X12_isItem l) mf_X12_isItem ml_RX12_344 (by decide +kernel) (by decide +kernel) d_X12_item_2 ?_
  refine r_if_ne (pc := 5) (tgt := 10) X d_X12_item_5 (by decide +kernel) ?_ ?_
  · refine r_iload_n (pc := 10) X d_X12_item_10 fn2 ?_
    refine r_tsw (pc := 11) (offs := [33, 40, 47, 54, 64]) (td := 89) X d_X12_item_11 (by decide +kernel) (by decide +kernel) ?_ (show xswOK _ _ _ _ _ _ _ _ _ _ _ _ _ _ _ _ _ _ _ _ from ⟨⟨44, by decide, ?_⟩, ⟨⟨51, by decide, ?_⟩, ⟨⟨58, by decide, ?_⟩, ⟨⟨65, by decide, ?_⟩, ⟨⟨75, by decide, ?_⟩, trivial⟩⟩⟩⟩⟩)
    · refine r_iconst (pc := 89) X d_X12_item_89 (by decide +kernel) ?_
      exact r_iret (pc := 90) X hr d_X12_item_90
    · refine r_aload_n (pc := 44) X d_X12_item_44 fn0 ?_
      refine s_getF (pc := 45) (ci := 12) (k := 20) X xok12 (by decide +kernel) ob_180 trivial ly_180_20 (by decide +kernel) fl_RX12_50 d_X12_item_45 ?_
      refine r_iload_n (pc := 48) X d_X12_item_48 fn1 ?_
      refine s_iald (pc := 49) X tn_188 ln_188 d_X12_item_49 ?_
      exact r_iret (pc := 50) X hr d_X12_item_50
    · refine r_aload_n (pc := 51) X d_X12_item_51 fn0 ?_
      refine s_getF (pc := 52) (ci := 12) (k := 21) X xok12 (by decide +kernel) ob_180 trivial ly_180_21 (by decide +kernel) fl_RX12_53 d_X12_item_52 ?_
      refine r_iload_n (pc := 55) X d_X12_item_55 fn1 ?_
      refine s_iald (pc := 56) X tn_189 ln_189 d_X12_item_56 ?_
      exact r_iret (pc := 57) X hr d_X12_item_57
    · refine r_aload_n (pc := 58) X d_X12_item_58 fn0 ?_
      refine s_getF (pc := 59) (ci := 12) (k := 22) X xok12 (by decide +kernel) ob_180 trivial ly_180_22 (by decide +kernel) fl_RX12_56 d_X12_item_59 ?_
      refine r_iload_n (pc := 62) X d_X12_item_62 fn1 ?_
      refine s_iald (pc := 63) X tn_190 ln_190 d_X12_item_63 ?_
      exact r_iret (pc := 64) X hr d_X12_item_64
    · refine r_aload_n (pc := 65) X d_X12_item_65 fn0 ?_
      refine s_getF (pc := 66) (ci := 12) (k := 5) X xok12 (by decide +kernel) ob_180 trivial ly_180_5 (by decide +kernel) fl_RX12_30 d_X12_item_66 ?_
      refine r_bipush (pc := 69) X d_X12_item_69 (by decide +kernel) ?_
      refine r_iload_n (pc := 71) X d_X12_item_71 fn1 ?_
      refine r_iadd (pc := 72) X d_X12_item_72 ?_
      refine s_iald (pc := 73) X tn_182 ln_182 d_X12_item_73 ?_
      exact r_iret (pc := 74) X hr d_X12_item_74
    · refine r_aload_n (pc := 75) X d_X12_item_75 fn0 ?_
      refine r_aload_n (pc := 76) X d_X12_item_76 fn0 ?_
      refine s_getF (pc := 77) (ci := 12) (k := 5) X xok12 (by decide +kernel) ob_180 trivial ly_180_5 (by decide +kernel) fl_RX12_30 d_X12_item_77 ?_
      refine r_bipush (pc := 80) X d_X12_item_80 (by decide +kernel) ?_
      refine r_iload_n (pc := 82) X d_X12_item_82 fn1 ?_
      refine r_iadd (pc := 83) X d_X12_item_83 ?_
      refine s_iald (pc := 84) X tn_182 ln_182 d_X12_item_84 ?_
      refine s_cv1 (pc := 85) (ci := 12) X xok12 (by decide +kernel) ob_180 rfl (con_X12_inClass l) mf_X12_inClass ml_RX12_347 (by decide +kernel) (by decide +kernel) d_X12_item_85 ?_
      exact r_iret (pc := 88) X hr d_X12_item_88
  · refine r_iconst (pc := 8) X d_X12_item_8 (by decide +kernel) ?_
    exact r_iret (pc := 9) X hr d_X12_item_9
def f_X12_item (a0 : Nat) (a1 : Int32) (a2 : Int32) (A : xH) (P : xP) : Prop := k_X12_item_0 P [some (.ref a0), some (.int a1), some (.int a2)] [] A
set_option maxRecDepth 20000 in
theorem con_X12_item (l : Launch) : xCon l yX12_item cX12_item 3 (some .int) 3 65 xN xN 0 xFT xFT (w_RII f_X12_item) :=
  xc_RII (plainFor_of_name pn_RX12) (by decide +kernel) (fun p e s m args below meth c g a0 a1 a2 A P h X hr _ => ⟨_, h, t_X12_item_0 X hr⟩)
theorem d_X11_item_0 : decode cX11_item 0 = .ok (.iload_n 1, 1) := by decide +kernel
theorem d_X11_item_1 : decode cX11_item 1 = .ok (.ifCond .lt 14, 3) := by decide +kernel
theorem d_X11_item_4 : decode cX11_item 4 = .ok (.iload_n 1, 1) := by decide +kernel
theorem d_X11_item_5 : decode cX11_item 5 = .ok (.aload_n 0, 1) := by decide +kernel
theorem d_X11_item_6 : decode cX11_item 6 = .ok (.getfield 28, 3) := by decide +kernel
theorem d_X11_item_9 : decode cX11_item 9 = .ok (.getfield 187, 3) := by decide +kernel
theorem d_X11_item_12 : decode cX11_item 12 = .ok (.if_icmp .lt 5, 3) := by decide +kernel
theorem d_X11_item_15 : decode cX11_item 15 = .ok (.iconst (-1), 1) := by decide +kernel
theorem d_X11_item_16 : decode cX11_item 16 = .ok (.ireturn, 1) := by decide +kernel
theorem d_X11_item_17 : decode cX11_item 17 = .ok (.iload_n 2, 1) := by decide +kernel
theorem d_X11_item_18 : decode cX11_item 18 = .ok (.tableswitch 90 0 4 #[34, 44, 54, 63, 73], 34) := by decide +kernel
theorem d_X11_item_52 : decode cX11_item 52 = .ok (.aload_n 0, 1) := by decide +kernel
theorem d_X11_item_53 : decode cX11_item 53 = .ok (.getfield 28, 3) := by decide +kernel
theorem d_X11_item_56 : decode cX11_item 56 = .ok (.getfield 190, 3) := by decide +kernel
theorem d_X11_item_59 : decode cX11_item 59 = .ok (.iload_n 1, 1) := by decide +kernel
theorem d_X11_item_60 : decode cX11_item 60 = .ok (.iaload, 1) := by decide +kernel
theorem d_X11_item_61 : decode cX11_item 61 = .ok (.ireturn, 1) := by decide +kernel
theorem d_X11_item_62 : decode cX11_item 62 = .ok (.aload_n 0, 1) := by decide +kernel
theorem d_X11_item_63 : decode cX11_item 63 = .ok (.getfield 28, 3) := by decide +kernel
theorem d_X11_item_66 : decode cX11_item 66 = .ok (.getfield 193, 3) := by decide +kernel
theorem d_X11_item_69 : decode cX11_item 69 = .ok (.iload_n 1, 1) := by decide +kernel
theorem d_X11_item_70 : decode cX11_item 70 = .ok (.iaload, 1) := by decide +kernel
theorem d_X11_item_71 : decode cX11_item 71 = .ok (.ireturn, 1) := by decide +kernel
theorem d_X11_item_72 : decode cX11_item 72 = .ok (.aload_n 0, 1) := by decide +kernel
theorem d_X11_item_73 : decode cX11_item 73 = .ok (.getfield 28, 3) := by decide +kernel
theorem d_X11_item_76 : decode cX11_item 76 = .ok (.iload_n 1, 1) := by decide +kernel
theorem d_X11_item_77 : decode cX11_item 77 = .ok (.invokevirtual 196, 3) := by decide +kernel
theorem d_X11_item_80 : decode cX11_item 80 = .ok (.ireturn, 1) := by decide +kernel
theorem d_X11_item_81 : decode cX11_item 81 = .ok (.aload_n 0, 1) := by decide +kernel
theorem d_X11_item_82 : decode cX11_item 82 = .ok (.getfield 28, 3) := by decide +kernel
theorem d_X11_item_85 : decode cX11_item 85 = .ok (.getfield 199, 3) := by decide +kernel
theorem d_X11_item_88 : decode cX11_item 88 = .ok (.iload_n 1, 1) := by decide +kernel
theorem d_X11_item_89 : decode cX11_item 89 = .ok (.iaload, 1) := by decide +kernel
theorem d_X11_item_90 : decode cX11_item 90 = .ok (.ireturn, 1) := by decide +kernel
theorem d_X11_item_91 : decode cX11_item 91 = .ok (.aload_n 0, 1) := by decide +kernel
theorem d_X11_item_92 : decode cX11_item 92 = .ok (.getfield 28, 3) := by decide +kernel
theorem d_X11_item_95 : decode cX11_item 95 = .ok (.aload_n 0, 1) := by decide +kernel
theorem d_X11_item_96 : decode cX11_item 96 = .ok (.getfield 28, 3) := by decide +kernel
theorem d_X11_item_99 : decode cX11_item 99 = .ok (.getfield 199, 3) := by decide +kernel
theorem d_X11_item_102 : decode cX11_item 102 = .ok (.iload_n 1, 1) := by decide +kernel
theorem d_X11_item_103 : decode cX11_item 103 = .ok (.iaload, 1) := by decide +kernel
theorem d_X11_item_104 : decode cX11_item 104 = .ok (.invokevirtual 202, 3) := by decide +kernel
theorem d_X11_item_107 : decode cX11_item 107 = .ok (.ireturn, 1) := by decide +kernel
theorem d_X11_item_108 : decode cX11_item 108 = .ok (.iconst (-1), 1) := by decide +kernel
theorem d_X11_item_109 : decode cX11_item 109 = .ok (.ireturn, 1) := by decide +kernel
def k_X11_item_15 (P : xP) : xK := x_push (.int (-1)) (x_iret P)
set_option maxRecDepth 20000 in
theorem t_X11_item_15 {p : Program} {l : Launch} {e : Env} {s : State} {m : MethodId} {args : Array Value} {below : List Frame} {meth : Method} {c : Code} {g : xG} (X : xX p s m args c meth cX11_item RX11 3 g) (hr : meth.sig.returnType = (some .int)) {P : xP} : xAt p l e { frames := 2, cells := 0, slots := 0, locals := 43 } s m args below meth c g 3 xFT xN 0 0 (MQ below (xQc g xFT xN P) args s 0 0 (xFr g)) (k_X11_item_15 P) 15 := by
  unfold k_X11_item_15
  refine r_iconst (pc := 15) X d_X11_item_15 (by decide +kernel) ?_
  exact r_iret (pc := 16) X hr d_X11_item_16
def k_X11_item_0 (P : xP) : xK := x_iload 1 (x_if_lt ((k_X11_item_15 P)) (x_iload 1 (x_aload 0 (y_getF 0 8 (y_getI 8 3 (x_icmp_lt (x_iload 2 (x_tsw 0 [x_aload 0 (y_getF 0 8 (y_getF 8 15 (x_iload 1 (y_iald 15 42 (x_iret P))))), x_aload 0 (y_getF 0 8 (y_getF 8 16 (x_iload 1 (y_iald 16 42 (x_iret P))))), x_aload 0 (y_getF 0 8 (x_iload 1 (y_cv1 8 (w_RI f_X4_nextOf) (x_iret P)))), x_aload 0 (y_getF 0 8 (y_getF 8 17 (x_iload 1 (y_iald 17 42 (x_iret P))))), x_aload 0 (y_getF 0 8 (x_aload 0 (y_getF 0 8 (y_getF 8 17 (x_iload 1 (y_iald 17 42 (y_cv1 8 (w_RI f_X4_groupSize) (x_iret P))))))))] (x_push (.int (-1)) (x_iret P)))) ((k_X11_item_15 P))))))))
set_option maxRecDepth 20000 in
theorem t_X11_item_0 {p : Program} {l : Launch} {e : Env} {s : State} {m : MethodId} {args : Array Value} {below : List Frame} {meth : Method} {c : Code} {g : xG} (X : xX p s m args c meth cX11_item RX11 3 g) (hr : meth.sig.returnType = (some .int)) {P : xP} : xAt p l e { frames := 2, cells := 0, slots := 0, locals := 43 } s m args below meth c g 3 xFT xN 0 0 (MQ below (xQc g xFT xN P) args s 0 0 (xFr g)) (k_X11_item_0 P) 0 := by
  unfold k_X11_item_0
  refine r_iload_n (pc := 0) X d_X11_item_0 fn1 ?_
  refine r_if_lt (pc := 1) (tgt := 15) X d_X11_item_1 (by decide +kernel) ?_ ?_
  · exact t_X11_item_15 X hr
  · refine r_iload_n (pc := 4) X d_X11_item_4 fn1 ?_
    refine r_aload_n (pc := 5) X d_X11_item_5 fn0 ?_
    refine s_getF (pc := 6) (ci := 11) (k := 2) X xok11 (by decide +kernel) ob_0 trivial ly_0_2 (by decide +kernel) fl_RX11_28 d_X11_item_6 ?_
    refine s_getI (pc := 9) (ci := 4) X xok4 (by decide +kernel) ob_8 (by decide +kernel) fl_RX11_187 d_X11_item_9 ?_
    refine r_icmp_lt (pc := 12) (tgt := 17) X d_X11_item_12 (by decide +kernel) ?_ ?_
    · refine r_iload_n (pc := 17) X d_X11_item_17 fn2 ?_
      refine r_tsw (pc := 18) (offs := [34, 44, 54, 63, 73]) (td := 108) X d_X11_item_18 (by decide +kernel) (by decide +kernel) ?_ (show xswOK _ _ _ _ _ _ _ _ _ _ _ _ _ _ _ _ _ _ _ _ from ⟨⟨52, by decide, ?_⟩, ⟨⟨62, by decide, ?_⟩, ⟨⟨72, by decide, ?_⟩, ⟨⟨81, by decide, ?_⟩, ⟨⟨91, by decide, ?_⟩, trivial⟩⟩⟩⟩⟩)
      · refine r_iconst (pc := 108) X d_X11_item_108 (by decide +kernel) ?_
        exact r_iret (pc := 109) X hr d_X11_item_109
      · refine r_aload_n (pc := 52) X d_X11_item_52 fn0 ?_
        refine s_getF (pc := 53) (ci := 11) (k := 2) X xok11 (by decide +kernel) ob_0 trivial ly_0_2 (by decide +kernel) fl_RX11_28 d_X11_item_53 ?_
        refine s_getF (pc := 56) (ci := 4) (k := 11) X xok4 (by decide +kernel) ob_8 trivial ly_8_11 (by decide +kernel) fl_RX11_190 d_X11_item_56 ?_
        refine r_iload_n (pc := 59) X d_X11_item_59 fn1 ?_
        refine s_iald (pc := 60) X tn_15 ln_15 d_X11_item_60 ?_
        exact r_iret (pc := 61) X hr d_X11_item_61
      · refine r_aload_n (pc := 62) X d_X11_item_62 fn0 ?_
        refine s_getF (pc := 63) (ci := 11) (k := 2) X xok11 (by decide +kernel) ob_0 trivial ly_0_2 (by decide +kernel) fl_RX11_28 d_X11_item_63 ?_
        refine s_getF (pc := 66) (ci := 4) (k := 12) X xok4 (by decide +kernel) ob_8 trivial ly_8_12 (by decide +kernel) fl_RX11_193 d_X11_item_66 ?_
        refine r_iload_n (pc := 69) X d_X11_item_69 fn1 ?_
        refine s_iald (pc := 70) X tn_16 ln_16 d_X11_item_70 ?_
        exact r_iret (pc := 71) X hr d_X11_item_71
      · refine r_aload_n (pc := 72) X d_X11_item_72 fn0 ?_
        refine s_getF (pc := 73) (ci := 11) (k := 2) X xok11 (by decide +kernel) ob_0 trivial ly_0_2 (by decide +kernel) fl_RX11_28 d_X11_item_73 ?_
        refine r_iload_n (pc := 76) X d_X11_item_76 fn1 ?_
        refine s_cv1 (pc := 77) (ci := 4) X xok4 (by decide +kernel) ob_8 rfl (con_X4_nextOf l) mf_X4_nextOf ml_RX11_196 (by decide +kernel) (by decide +kernel) d_X11_item_77 ?_
        exact r_iret (pc := 80) X hr d_X11_item_80
      · refine r_aload_n (pc := 81) X d_X11_item_81 fn0 ?_
        refine s_getF (pc := 82) (ci := 11) (k := 2) X xok11 (by decide +kernel) ob_0 trivial ly_0_2 (by decide +kernel) fl_RX11_28 d_X11_item_82 ?_
        refine s_getF (pc := 85) (ci := 4) (k := 13) X xok4 (by decide +kernel) ob_8 trivial ly_8_13 (by decide +kernel) fl_RX11_199 d_X11_item_85 ?_
        refine r_iload_n (pc := 88) X d_X11_item_88 fn1 ?_
        refine s_iald (pc := 89) X tn_17 ln_17 d_X11_item_89 ?_
        exact r_iret (pc := 90) X hr d_X11_item_90
      · refine r_aload_n (pc := 91) X d_X11_item_91 fn0 ?_
        refine s_getF (pc := 92) (ci := 11) (k := 2) X xok11 (by decide +kernel) ob_0 trivial ly_0_2 (by decide +kernel) fl_RX11_28 d_X11_item_92 ?_
        refine r_aload_n (pc := 95) X d_X11_item_95 fn0 ?_
        refine s_getF (pc := 96) (ci := 11) (k := 2) X xok11 (by decide +kernel) ob_0 trivial ly_0_2 (by decide +kernel) fl_RX11_28 d_X11_item_96 ?_
        refine s_getF (pc := 99) (ci := 4) (k := 13) X xok4 (by decide +kernel) ob_8 trivial ly_8_13 (by decide +kernel) fl_RX11_199 d_X11_item_99 ?_
        refine r_iload_n (pc := 102) X d_X11_item_102 fn1 ?_
        refine s_iald (pc := 103) X tn_17 ln_17 d_X11_item_103 ?_
        refine s_cv1 (pc := 104) (ci := 4) X xok4 (by decide +kernel) ob_8 rfl (con_X4_groupSize l) mf_X4_groupSize ml_RX11_202 (by decide +kernel) (by decide +kernel) d_X11_item_104 ?_
        exact r_iret (pc := 107) X hr d_X11_item_107
    · exact t_X11_item_15 X hr
def f_X11_item (a0 : Nat) (a1 : Int32) (a2 : Int32) (A : xH) (P : xP) : Prop := k_X11_item_0 P [some (.ref a0), some (.int a1), some (.int a2)] [] A
set_option maxRecDepth 20000 in
theorem con_X11_item (l : Launch) : xCon l yX11_item cX11_item 3 (some .int) 2 43 xN xN 0 xFT xFT (w_RII f_X11_item) :=
  xc_RII (plainFor_of_name pn_RX11) (by decide +kernel) (fun p e s m args below meth c g a0 a1 a2 A P h X hr _ => ⟨_, h, t_X11_item_0 X hr⟩)
/-- an answer for the numbers of a row, -1 for all others -/
def anF (n : Nat) (f : Nat → Int32) (x : Int32) : Int32 := if x < 0 then -1 else if x.toNatClampNeg < n then f x.toNatClampNeg else -1
theorem anF_neg {n : Nat} {f : Nat → Int32} {x : Int32} (h : x < 0) : anF n f x = -1 := if_pos h
theorem anF_in {n k : Nat} {f : Nat → Int32} (h : k < n) (hk : k < 2 ^ 31) : anF n f (nI k) = f k := by
  unfold anF
  rw [if_neg (nI_pos hk), nI_clamp hk, if_pos h]
theorem anF_out {n k : Nat} {f : Nat → Int32} (h : ¬ k < n) (hk : k < 2 ^ 31) : anF n f (nI k) = -1 := by
  unfold anF
  rw [if_neg (nI_pos hk), nI_clamp hk, if_neg h]
theorem anF_no {n : Nat} {f : Nat → Int32} {x : Int32} (hn : n < 2 ^ 31) (h : ¬ ∃ k, k < n ∧ x = nI k) : anF n f x = -1 := by
  rcases n_case x with w | ⟨k, hk, rfl⟩
  · exact anF_neg w
  · exact anF_out (fun q => h ⟨k, q, rfl⟩) hk
theorem neg_lt {x : Int32} {n : Nat} (h : x < 0) (hn : n < 2 ^ 31) : x < nI n := Int32.not_le.mp fun q => by
  rcases Int32.lt_iff_toInt_lt.mp h with w
  have := Int32.le_iff_toInt_le.mp q
  rw [nI_toInt hn] at this
  have h0 : (0 : Int32).toInt = 0 := by decide
  omega
theorem neg_ne {x : Int32} {n : Nat} (h : x < 0) (hn : n < 2 ^ 31) : ¬ x = nI n := fun q => by
  subst q
  exact nI_pos hn h
theorem neg_le {x : Int32} {n : Nat} (h : x < 0) (hn : n < 2 ^ 31) : ¬ nI n ≤ x := Int32.not_le.mpr (neg_lt h hn)
def rsA (v : xV) (r t : Nat) : Int32 := if t < vrs v r then nI (vsy v r t) else -1
def rulN (v : xV) (r t : Nat) : Int32 := if t = 0 then nI (vrk v r) else if t = 1 then nI (vrs v r) else if t ≤ 4 then rsA v r (t - 2) else nI (vfst v r)
def rulA (v : xV) (x y : Int32) : Int32 := anF (vR v) (fun r => anF 6 (rulN v r) y) x
theorem sy_CA {A : xH} {P : xP} {m : Nat} {v : xV} {r t : Nat} (h : isM A m v) (hr : r < vR v) (ht : t < 2 ^ 31) (hP : P (some (.int (rsA v r t))) A) : f_X4_symbolAt m (nI r) (nI t) A P := by
  have h10 := h.1.2.1.2.2.1
  refine ⟨v, h, fun x hx => ?_⟩
  unfold rsA at hP
  split at hP
  · rename_i q
    rw [hx.1 r t rfl rfl hr q]; exact hP
  · rename_i q
    rw [hx.2 ?_]; exact hP
    rintro ⟨r', t', e1, e2, h1, h2⟩
    have h3 := (h.1.2.1.2.2.2.2 r' h1).2.1
    rw [nI_eq (by omega) (by omega)] at e1 e2
    subst e1; subst e2
    exact q h2
theorem rule_C {A : xH} {P : xP} {v : xV} {x y : Int32} (hM : isM A 8 v) (hP : P (some (.int (rulA v x y))) A) : f_X11_rule 0 x y A P := by
  have hw := hM.1.2.1
  have h10 := hw.2.2.1
  have m2 := hM.1.2.2.1.2.2.1
  unfold rulA at hP
  unfold f_X11_rule
  rcases n_case x with w | ⟨k, hk, rfl⟩
  · rw [anF_neg w] at hP
    simp (disch := omega) only [k_X11_rule_0, k_X11_rule_15, k_X11_rule_68, k_X11_rule_86, w_RII, x_aload, x_icmp_gt, x_icmp_lt, x_icmp_ne, x_if_lt, x_if_ne, x_iload, x_iret, x_isub, x_push, y_cv2, y_getF, y_getI, y_iald, xFT, xbool0, xbool1, Nat.reduceAdd, Nat.zero_add, xgl_0, xgl_s, xgl_n, xst_0, xst_1n, xst_1i, xst_1r, xst_1l, xst_s, set_0, set_s, true_and, and_true, xres, xcat_nil, xcat_i, xcat_r, xcat_l, Nat.add_zero, xble0, xble1, xble2, xble3, xble4, xble5, xble6, xble7, xble8, ob_8, ly_8_5, ly_8_6, ly_8_7, ly_8_8, ly_8_9, ly_8_10, ly_8_11, ly_8_12, ly_8_13, pk_mul, nI_add, nI_1, nI_leI, nI_ltI, nI_eq, n_in, n_cl, z_eq, z_lt, z_le, z_gt, z_ge, z_qe, o_eq, o_lt, o_le, o_gt, o_ge, vp0, vp1, cl0, cl1, n_sub, n_sub1, n_pm1, n_a0, n_0a, ofn, lN0, Nat.reduceLT, Nat.reduceLeDiff, Nat.reduceMul, Nat.reduceSub, Nat.reduceEqDiff, ne_eq, true_implies, false_implies, not_true_eq_false, not_false_eq_true, and_self, and_true, true_and, and_false, false_and, implies_true, if_true, if_false, i00, i10, i01, i11, ob_0, ob_1, tn_2, ln_2, ob_3, tn_4, ln_4, ob_5, tn_6, ln_6, tn_7, ln_7, ob_8, tn_9, ln_9, tn_10, ln_10, tn_11, ln_11, tn_12, ln_12, tn_13, ln_13, tn_14, ln_14, tn_15, ln_15, tn_16, ln_16, tn_17, ln_17, ob_18, tn_19, ln_19, tn_20, ln_20, tn_21, ln_21, tn_22, ln_22, tn_23, ln_23, tn_24, ln_24, tn_25, ln_25, tn_26, ln_26, tn_27, ln_27, ob_28, tn_29, ln_29, tn_30, ln_30, ob_31, tn_32, ln_32, tn_33, ln_33, ob_34, ob_35, tn_36, ln_36, tn_37, ln_37, tn_38, ln_38, ob_39, tn_40, ln_40, tn_41, ln_41, tn_42, ln_42, tn_43, ln_43, tn_44, ln_44, tn_45, ln_45, tn_46, ln_46, tn_47, ln_47, tn_48, ln_48, tn_49, ln_49, tn_50, ln_50, tn_51, ln_51, ob_52, tn_53, ln_53, tn_54, ln_54, tn_55, ln_55, tn_56, ln_56, ob_57, tn_58, ln_58, tn_59, ln_59, tn_60, ln_60, tn_61, ln_61, tn_62, ln_62, tn_63, ln_63, tn_64, ln_64, tn_65, ln_65, ob_66, tn_67, ln_67, tn_68, ln_68, tn_69, ln_69, tn_70, ln_70, tn_71, ln_71, tn_72, ln_72, tn_73, ln_73, ob_74, tn_75, ln_75, tn_76, ln_76, tn_77, ln_77, tn_78, ln_78, tn_79, ln_79, tn_80, ln_80, tn_81, ln_81, tn_82, ln_82, tn_83, ln_83, ob_84, tn_85, ln_85, tn_86, ln_86, tn_87, ln_87, tn_88, ln_88, tn_89, ln_89, tn_90, ln_90, tn_91, ln_91, tn_92, ln_92, tn_93, ln_93, ob_94, tn_95, ln_95, tn_96, ln_96, tn_97, ln_97, tn_98, ln_98, tn_99, ln_99, tn_100, ln_100, tn_101, ln_101, tn_102, ln_102, tn_103, ln_103, ob_104, tn_105, ln_105, tn_106, ln_106, tn_107, ln_107, tn_108, ln_108, tn_109, ln_109, tn_110, ln_110, tn_111, ln_111, tn_112, ln_112, tn_113, ln_113, ob_114, tn_115, ln_115, tn_116, ln_116, tn_117, ln_117, tn_118, ln_118, tn_119, ln_119, tn_120, ln_120, tn_121, ln_121, tn_122, ln_122, tn_123, ln_123, ob_124, tn_125, ln_125, tn_126, ln_126, tn_127, ln_127, tn_128, ln_128, tn_129, ln_129, tn_130, ln_130, tn_131, ln_131, tn_132, ln_132, tn_133, ln_133, ob_134, tn_135, ln_135, tn_136, ln_136, tn_137, ln_137, tn_138, ln_138, tn_139, ln_139, tn_140, ln_140, tn_141, ln_141, tn_142, ln_142, tn_143, ln_143, ob_144, tn_145, ln_145, tn_146, ln_146, tn_147, ln_147, tn_148, ln_148, tn_149, ln_149, tn_150, ln_150, tn_151, ln_151, tn_152, ln_152, tn_153, ln_153, ob_154, tn_155, ln_155, tn_156, ln_156, tn_157, ln_157, tn_158, ln_158, tn_159, ln_159, tn_160, ln_160, tn_161, ln_161, tn_162, ln_162, tn_163, ln_163, ob_164, tn_165, ln_165, tn_166, ln_166, ob_167, tn_168, ln_168, tn_169, ln_169, tn_170, ln_170, tn_171, ln_171, tn_172, ln_172, tn_173, ln_173, tn_174, ln_174, tn_175, ln_175, tn_176, ln_176, ob_177, tn_178, ln_178, tn_179, ln_179, ob_180, tn_181, ln_181, tn_182, ln_182, tn_183, ln_183, tn_184, ln_184, tn_185, ln_185, tn_186, ln_186, tn_187, ln_187, tn_188, ln_188, tn_189, ln_189, tn_190, ln_190, tn_191, ln_191, tn_192, ln_192, tn_193, ln_193, tn_194, ln_194, tn_195, ln_195, tn_196, ln_196, tn_197, ln_197, tn_198, ln_198, tn_199, ln_199, tn_200, ln_200, tn_201, ln_201, tn_202, ln_202, tn_203, ln_203, tn_204, ln_204, tn_205, ln_205, tn_206, ln_206, tn_207, ln_207, tn_208, ln_208, tn_209, ln_209, tn_210, ln_210, tn_211, ln_211, tn_212, ln_212, tn_213, ln_213, tn_214, ln_214, tn_215, ln_215, tn_216, ln_216, tn_217, ln_217, tn_218, ln_218, tn_219, ln_219, tn_220, ln_220, tn_221, ln_221, tn_222, ln_222, tn_223, ln_223, tn_224, ln_224, tn_225, ln_225, tn_226, ln_226, tn_227, ln_227, tn_228, ln_228, tn_229, ln_229, tn_230, ln_230, lx2, lx3, lx4, lx5, lx6, lx7, lx8, lx9, lx10, lx14, lx15, lx16, lx18, lx20, lx24, lx25, lx27, lx32, lx36, lx40, lx41, lx42, lx43, lx45, lx48, lx52, lx54, lx56, lx57, lx58, lx60, lx61, lx62, lx63, lx64, lx66, lx69, lx73, lx80, lx81, lx84, lx85, lx87, lx94, lx96, lx97, lx120, lx128, lx135, lx160, lx162, lx163, lx165, lx200, lx232, lx242, lx243, lx255, lx256, lx320, lx325, lx400, lx405, lx464, lx512, lx600, lx640, lx752, lx900, lx940, lx1000, lx1024, lx1764, lx3360, lx3840, lx5000, lx6400, lx9050, lx9998, lx9999, lx10000, lx25600, lx76800, lx99999, m2]
    exact ⟨fun _ => hP, fun n => absurd w n⟩
  · by_cases q : k < vR v
    · rw [anF_in q hk] at hP
      have hr := hM.1.2.2.2.2.2 k q
      have hi : xi A 13 k = nI (vfst v k) := hM.2.2.1.2.1 k q
      rcases n_case y with w | ⟨t, ht, rfl⟩
      · rw [anF_neg w] at hP
        have h0 : ¬ y = 0 := neg_ne w (n := 0) (by omega)
        have h1 : ¬ y = 1 := neg_ne w (n := 1) (by omega)
        have h2 : y < nI 2 := neg_lt w (by omega)
        have h5 : ¬ y = nI 5 := neg_ne w (by omega)
        simp (disch := omega) only [k_X11_rule_0, k_X11_rule_15, k_X11_rule_68, k_X11_rule_86, w_RII, x_aload, x_icmp_gt, x_icmp_lt, x_icmp_ne, x_if_lt, x_if_ne, x_iload, x_iret, x_isub, x_push, y_cv2, y_getF, y_getI, y_iald, xFT, xbool0, xbool1, Nat.reduceAdd, Nat.zero_add, xgl_0, xgl_s, xgl_n, xst_0, xst_1n, xst_1i, xst_1r, xst_1l, xst_s, set_0, set_s, true_and, and_true, xres, xcat_nil, xcat_i, xcat_r, xcat_l, Nat.add_zero, xble0, xble1, xble2, xble3, xble4, xble5, xble6, xble7, xble8, ob_8, ly_8_5, ly_8_6, ly_8_7, ly_8_8, ly_8_9, ly_8_10, ly_8_11, ly_8_12, ly_8_13, pk_mul, nI_add, nI_1, nI_leI, nI_ltI, nI_eq, n_in, n_cl, z_eq, z_lt, z_le, z_gt, z_ge, z_qe, o_eq, o_lt, o_le, o_gt, o_ge, vp0, vp1, cl0, cl1, n_sub, n_sub1, n_pm1, n_a0, n_0a, ofn, lN0, Nat.reduceLT, Nat.reduceLeDiff, Nat.reduceMul, Nat.reduceSub, Nat.reduceEqDiff, ne_eq, true_implies, false_implies, not_true_eq_false, not_false_eq_true, and_self, and_true, true_and, and_false, false_and, implies_true, if_true, if_false, i00, i10, i01, i11, ob_0, ob_1, tn_2, ln_2, ob_3, tn_4, ln_4, ob_5, tn_6, ln_6, tn_7, ln_7, ob_8, tn_9, ln_9, tn_10, ln_10, tn_11, ln_11, tn_12, ln_12, tn_13, ln_13, tn_14, ln_14, tn_15, ln_15, tn_16, ln_16, tn_17, ln_17, ob_18, tn_19, ln_19, tn_20, ln_20, tn_21, ln_21, tn_22, ln_22, tn_23, ln_23, tn_24, ln_24, tn_25, ln_25, tn_26, ln_26, tn_27, ln_27, ob_28, tn_29, ln_29, tn_30, ln_30, ob_31, tn_32, ln_32, tn_33, ln_33, ob_34, ob_35, tn_36, ln_36, tn_37, ln_37, tn_38, ln_38, ob_39, tn_40, ln_40, tn_41, ln_41, tn_42, ln_42, tn_43, ln_43, tn_44, ln_44, tn_45, ln_45, tn_46, ln_46, tn_47, ln_47, tn_48, ln_48, tn_49, ln_49, tn_50, ln_50, tn_51, ln_51, ob_52, tn_53, ln_53, tn_54, ln_54, tn_55, ln_55, tn_56, ln_56, ob_57, tn_58, ln_58, tn_59, ln_59, tn_60, ln_60, tn_61, ln_61, tn_62, ln_62, tn_63, ln_63, tn_64, ln_64, tn_65, ln_65, ob_66, tn_67, ln_67, tn_68, ln_68, tn_69, ln_69, tn_70, ln_70, tn_71, ln_71, tn_72, ln_72, tn_73, ln_73, ob_74, tn_75, ln_75, tn_76, ln_76, tn_77, ln_77, tn_78, ln_78, tn_79, ln_79, tn_80, ln_80, tn_81, ln_81, tn_82, ln_82, tn_83, ln_83, ob_84, tn_85, ln_85, tn_86, ln_86, tn_87, ln_87, tn_88, ln_88, tn_89, ln_89, tn_90, ln_90, tn_91, ln_91, tn_92, ln_92, tn_93, ln_93, ob_94, tn_95, ln_95, tn_96, ln_96, tn_97, ln_97, tn_98, ln_98, tn_99, ln_99, tn_100, ln_100, tn_101, ln_101, tn_102, ln_102, tn_103, ln_103, ob_104, tn_105, ln_105, tn_106, ln_106, tn_107, ln_107, tn_108, ln_108, tn_109, ln_109, tn_110, ln_110, tn_111, ln_111, tn_112, ln_112, tn_113, ln_113, ob_114, tn_115, ln_115, tn_116, ln_116, tn_117, ln_117, tn_118, ln_118, tn_119, ln_119, tn_120, ln_120, tn_121, ln_121, tn_122, ln_122, tn_123, ln_123, ob_124, tn_125, ln_125, tn_126, ln_126, tn_127, ln_127, tn_128, ln_128, tn_129, ln_129, tn_130, ln_130, tn_131, ln_131, tn_132, ln_132, tn_133, ln_133, ob_134, tn_135, ln_135, tn_136, ln_136, tn_137, ln_137, tn_138, ln_138, tn_139, ln_139, tn_140, ln_140, tn_141, ln_141, tn_142, ln_142, tn_143, ln_143, ob_144, tn_145, ln_145, tn_146, ln_146, tn_147, ln_147, tn_148, ln_148, tn_149, ln_149, tn_150, ln_150, tn_151, ln_151, tn_152, ln_152, tn_153, ln_153, ob_154, tn_155, ln_155, tn_156, ln_156, tn_157, ln_157, tn_158, ln_158, tn_159, ln_159, tn_160, ln_160, tn_161, ln_161, tn_162, ln_162, tn_163, ln_163, ob_164, tn_165, ln_165, tn_166, ln_166, ob_167, tn_168, ln_168, tn_169, ln_169, tn_170, ln_170, tn_171, ln_171, tn_172, ln_172, tn_173, ln_173, tn_174, ln_174, tn_175, ln_175, tn_176, ln_176, ob_177, tn_178, ln_178, tn_179, ln_179, ob_180, tn_181, ln_181, tn_182, ln_182, tn_183, ln_183, tn_184, ln_184, tn_185, ln_185, tn_186, ln_186, tn_187, ln_187, tn_188, ln_188, tn_189, ln_189, tn_190, ln_190, tn_191, ln_191, tn_192, ln_192, tn_193, ln_193, tn_194, ln_194, tn_195, ln_195, tn_196, ln_196, tn_197, ln_197, tn_198, ln_198, tn_199, ln_199, tn_200, ln_200, tn_201, ln_201, tn_202, ln_202, tn_203, ln_203, tn_204, ln_204, tn_205, ln_205, tn_206, ln_206, tn_207, ln_207, tn_208, ln_208, tn_209, ln_209, tn_210, ln_210, tn_211, ln_211, tn_212, ln_212, tn_213, ln_213, tn_214, ln_214, tn_215, ln_215, tn_216, ln_216, tn_217, ln_217, tn_218, ln_218, tn_219, ln_219, tn_220, ln_220, tn_221, ln_221, tn_222, ln_222, tn_223, ln_223, tn_224, ln_224, tn_225, ln_225, tn_226, ln_226, tn_227, ln_227, tn_228, ln_228, tn_229, ln_229, tn_230, ln_230, lx2, lx3, lx4, lx5, lx6, lx7, lx8, lx9, lx10, lx14, lx15, lx16, lx18, lx20, lx24, lx25, lx27, lx32, lx36, lx40, lx41, lx42, lx43, lx45, lx48, lx52, lx54, lx56, lx57, lx58, lx60, lx61, lx62, lx63, lx64, lx66, lx69, lx73, lx80, lx81, lx84, lx85, lx87, lx94, lx96, lx97, lx120, lx128, lx135, lx160, lx162, lx163, lx165, lx200, lx232, lx242, lx243, lx255, lx256, lx320, lx325, lx400, lx405, lx464, lx512, lx600, lx640, lx752, lx900, lx940, lx1000, lx1024, lx1764, lx3360, lx3840, lx5000, lx6400, lx9050, lx9998, lx9999, lx10000, lx25600, lx76800, lx99999, m2, h0, h1, h2, h5]
        exact ⟨fun _ => hP, fun n => absurd q n⟩
      · have an := fun z (e : z = anF 6 (rulN v k) (nI t)) => (show P (some (.int z)) A by rw [e]; exact hP)
        simp (disch := omega) only [k_X11_rule_0, k_X11_rule_15, k_X11_rule_68, k_X11_rule_86, w_RII, x_aload, x_icmp_gt, x_icmp_lt, x_icmp_ne, x_if_lt, x_if_ne, x_iload, x_iret, x_isub, x_push, y_cv2, y_getF, y_getI, y_iald, xFT, xbool0, xbool1, Nat.reduceAdd, Nat.zero_add, xgl_0, xgl_s, xgl_n, xst_0, xst_1n, xst_1i, xst_1r, xst_1l, xst_s, set_0, set_s, true_and, and_true, xres, xcat_nil, xcat_i, xcat_r, xcat_l, Nat.add_zero, xble0, xble1, xble2, xble3, xble4, xble5, xble6, xble7, xble8, ob_8, ly_8_5, ly_8_6, ly_8_7, ly_8_8, ly_8_9, ly_8_10, ly_8_11, ly_8_12, ly_8_13, pk_mul, nI_add, nI_1, nI_leI, nI_ltI, nI_eq, n_in, n_cl, z_eq, z_lt, z_le, z_gt, z_ge, z_qe, o_eq, o_lt, o_le, o_gt, o_ge, vp0, vp1, cl0, cl1, n_sub, n_sub1, n_pm1, n_a0, n_0a, ofn, lN0, Nat.reduceLT, Nat.reduceLeDiff, Nat.reduceMul, Nat.reduceSub, Nat.reduceEqDiff, ne_eq, true_implies, false_implies, not_true_eq_false, not_false_eq_true, and_self, and_true, true_and, and_false, false_and, implies_true, if_true, if_false, i00, i10, i01, i11, ob_0, ob_1, tn_2, ln_2, ob_3, tn_4, ln_4, ob_5, tn_6, ln_6, tn_7, ln_7, ob_8, tn_9, ln_9, tn_10, ln_10, tn_11, ln_11, tn_12, ln_12, tn_13, ln_13, tn_14, ln_14, tn_15, ln_15, tn_16, ln_16, tn_17, ln_17, ob_18, tn_19, ln_19, tn_20, ln_20, tn_21, ln_21, tn_22, ln_22, tn_23, ln_23, tn_24, ln_24, tn_25, ln_25, tn_26, ln_26, tn_27, ln_27, ob_28, tn_29, ln_29, tn_30, ln_30, ob_31, tn_32, ln_32, tn_33, ln_33, ob_34, ob_35, tn_36, ln_36, tn_37, ln_37, tn_38, ln_38, ob_39, tn_40, ln_40, tn_41, ln_41, tn_42, ln_42, tn_43, ln_43, tn_44, ln_44, tn_45, ln_45, tn_46, ln_46, tn_47, ln_47, tn_48, ln_48, tn_49, ln_49, tn_50, ln_50, tn_51, ln_51, ob_52, tn_53, ln_53, tn_54, ln_54, tn_55, ln_55, tn_56, ln_56, ob_57, tn_58, ln_58, tn_59, ln_59, tn_60, ln_60, tn_61, ln_61, tn_62, ln_62, tn_63, ln_63, tn_64, ln_64, tn_65, ln_65, ob_66, tn_67, ln_67, tn_68, ln_68, tn_69, ln_69, tn_70, ln_70, tn_71, ln_71, tn_72, ln_72, tn_73, ln_73, ob_74, tn_75, ln_75, tn_76, ln_76, tn_77, ln_77, tn_78, ln_78, tn_79, ln_79, tn_80, ln_80, tn_81, ln_81, tn_82, ln_82, tn_83, ln_83, ob_84, tn_85, ln_85, tn_86, ln_86, tn_87, ln_87, tn_88, ln_88, tn_89, ln_89, tn_90, ln_90, tn_91, ln_91, tn_92, ln_92, tn_93, ln_93, ob_94, tn_95, ln_95, tn_96, ln_96, tn_97, ln_97, tn_98, ln_98, tn_99, ln_99, tn_100, ln_100, tn_101, ln_101, tn_102, ln_102, tn_103, ln_103, ob_104, tn_105, ln_105, tn_106, ln_106, tn_107, ln_107, tn_108, ln_108, tn_109, ln_109, tn_110, ln_110, tn_111, ln_111, tn_112, ln_112, tn_113, ln_113, ob_114, tn_115, ln_115, tn_116, ln_116, tn_117, ln_117, tn_118, ln_118, tn_119, ln_119, tn_120, ln_120, tn_121, ln_121, tn_122, ln_122, tn_123, ln_123, ob_124, tn_125, ln_125, tn_126, ln_126, tn_127, ln_127, tn_128, ln_128, tn_129, ln_129, tn_130, ln_130, tn_131, ln_131, tn_132, ln_132, tn_133, ln_133, ob_134, tn_135, ln_135, tn_136, ln_136, tn_137, ln_137, tn_138, ln_138, tn_139, ln_139, tn_140, ln_140, tn_141, ln_141, tn_142, ln_142, tn_143, ln_143, ob_144, tn_145, ln_145, tn_146, ln_146, tn_147, ln_147, tn_148, ln_148, tn_149, ln_149, tn_150, ln_150, tn_151, ln_151, tn_152, ln_152, tn_153, ln_153, ob_154, tn_155, ln_155, tn_156, ln_156, tn_157, ln_157, tn_158, ln_158, tn_159, ln_159, tn_160, ln_160, tn_161, ln_161, tn_162, ln_162, tn_163, ln_163, ob_164, tn_165, ln_165, tn_166, ln_166, ob_167, tn_168, ln_168, tn_169, ln_169, tn_170, ln_170, tn_171, ln_171, tn_172, ln_172, tn_173, ln_173, tn_174, ln_174, tn_175, ln_175, tn_176, ln_176, ob_177, tn_178, ln_178, tn_179, ln_179, ob_180, tn_181, ln_181, tn_182, ln_182, tn_183, ln_183, tn_184, ln_184, tn_185, ln_185, tn_186, ln_186, tn_187, ln_187, tn_188, ln_188, tn_189, ln_189, tn_190, ln_190, tn_191, ln_191, tn_192, ln_192, tn_193, ln_193, tn_194, ln_194, tn_195, ln_195, tn_196, ln_196, tn_197, ln_197, tn_198, ln_198, tn_199, ln_199, tn_200, ln_200, tn_201, ln_201, tn_202, ln_202, tn_203, ln_203, tn_204, ln_204, tn_205, ln_205, tn_206, ln_206, tn_207, ln_207, tn_208, ln_208, tn_209, ln_209, tn_210, ln_210, tn_211, ln_211, tn_212, ln_212, tn_213, ln_213, tn_214, ln_214, tn_215, ln_215, tn_216, ln_216, tn_217, ln_217, tn_218, ln_218, tn_219, ln_219, tn_220, ln_220, tn_221, ln_221, tn_222, ln_222, tn_223, ln_223, tn_224, ln_224, tn_225, ln_225, tn_226, ln_226, tn_227, ln_227, tn_228, ln_228, tn_229, ln_229, tn_230, ln_230, lx2, lx3, lx4, lx5, lx6, lx7, lx8, lx9, lx10, lx14, lx15, lx16, lx18, lx20, lx24, lx25, lx27, lx32, lx36, lx40, lx41, lx42, lx43, lx45, lx48, lx52, lx54, lx56, lx57, lx58, lx60, lx61, lx62, lx63, lx64, lx66, lx69, lx73, lx80, lx81, lx84, lx85, lx87, lx94, lx96, lx97, lx120, lx128, lx135, lx160, lx162, lx163, lx165, lx200, lx232, lx242, lx243, lx255, lx256, lx320, lx325, lx400, lx405, lx464, lx512, lx600, lx640, lx752, lx900, lx940, lx1000, lx1024, lx1764, lx3360, lx3840, lx5000, lx6400, lx9050, lx9998, lx9999, lx10000, lx25600, lx76800, lx99999, m2, hr.1, hr.2.1, show k < 10 by omega, show 8 + 3 = 11 by rfl, show 8 + 4 = 12 by rfl, show 8 + 5 = 13 by rfl]
        refine ⟨fun _ => ⟨fun t0 => ⟨fun t1 => ⟨fun t2 => ⟨fun t5 => an _ ?_, fun t5 => absurd t5 (by omega)⟩, fun t2 => ⟨fun t4 => ⟨fun t5 => an _ ?_, fun t5 => an _ ?_⟩, fun t4 => ?_⟩⟩, fun t1 => an _ ?_⟩, fun t0 => an _ ?_⟩, fun n => absurd q n⟩
        · exact absurd t2 (by omega)
        · rw [anF_out (by omega) ht]
        · subst t5
          rw [anF_in (by omega) ht, hi]; rfl
        · rw [n_sub (by omega)]
          refine sy_CA hM q (by omega) (an _ ?_)
          rw [anF_in (by omega) ht]
          unfold rulN
          rw [if_neg t0, if_neg t1, if_pos (by omega)]
        · subst t1
          rw [anF_in (by omega) ht]; rfl
        · subst t0
          rw [anF_in (by omega) ht]; rfl
    · rw [anF_out q hk] at hP
      simp (disch := omega) only [k_X11_rule_0, k_X11_rule_15, k_X11_rule_68, k_X11_rule_86, w_RII, x_aload, x_icmp_gt, x_icmp_lt, x_icmp_ne, x_if_lt, x_if_ne, x_iload, x_iret, x_isub, x_push, y_cv2, y_getF, y_getI, y_iald, xFT, xbool0, xbool1, Nat.reduceAdd, Nat.zero_add, xgl_0, xgl_s, xgl_n, xst_0, xst_1n, xst_1i, xst_1r, xst_1l, xst_s, set_0, set_s, true_and, and_true, xres, xcat_nil, xcat_i, xcat_r, xcat_l, Nat.add_zero, xble0, xble1, xble2, xble3, xble4, xble5, xble6, xble7, xble8, ob_8, ly_8_5, ly_8_6, ly_8_7, ly_8_8, ly_8_9, ly_8_10, ly_8_11, ly_8_12, ly_8_13, pk_mul, nI_add, nI_1, nI_leI, nI_ltI, nI_eq, n_in, n_cl, z_eq, z_lt, z_le, z_gt, z_ge, z_qe, o_eq, o_lt, o_le, o_gt, o_ge, vp0, vp1, cl0, cl1, n_sub, n_sub1, n_pm1, n_a0, n_0a, ofn, lN0, Nat.reduceLT, Nat.reduceLeDiff, Nat.reduceMul, Nat.reduceSub, Nat.reduceEqDiff, ne_eq, true_implies, false_implies, not_true_eq_false, not_false_eq_true, and_self, and_true, true_and, and_false, false_and, implies_true, if_true, if_false, i00, i10, i01, i11, ob_0, ob_1, tn_2, ln_2, ob_3, tn_4, ln_4, ob_5, tn_6, ln_6, tn_7, ln_7, ob_8, tn_9, ln_9, tn_10, ln_10, tn_11, ln_11, tn_12, ln_12, tn_13, ln_13, tn_14, ln_14, tn_15, ln_15, tn_16, ln_16, tn_17, ln_17, ob_18, tn_19, ln_19, tn_20, ln_20, tn_21, ln_21, tn_22, ln_22, tn_23, ln_23, tn_24, ln_24, tn_25, ln_25, tn_26, ln_26, tn_27, ln_27, ob_28, tn_29, ln_29, tn_30, ln_30, ob_31, tn_32, ln_32, tn_33, ln_33, ob_34, ob_35, tn_36, ln_36, tn_37, ln_37, tn_38, ln_38, ob_39, tn_40, ln_40, tn_41, ln_41, tn_42, ln_42, tn_43, ln_43, tn_44, ln_44, tn_45, ln_45, tn_46, ln_46, tn_47, ln_47, tn_48, ln_48, tn_49, ln_49, tn_50, ln_50, tn_51, ln_51, ob_52, tn_53, ln_53, tn_54, ln_54, tn_55, ln_55, tn_56, ln_56, ob_57, tn_58, ln_58, tn_59, ln_59, tn_60, ln_60, tn_61, ln_61, tn_62, ln_62, tn_63, ln_63, tn_64, ln_64, tn_65, ln_65, ob_66, tn_67, ln_67, tn_68, ln_68, tn_69, ln_69, tn_70, ln_70, tn_71, ln_71, tn_72, ln_72, tn_73, ln_73, ob_74, tn_75, ln_75, tn_76, ln_76, tn_77, ln_77, tn_78, ln_78, tn_79, ln_79, tn_80, ln_80, tn_81, ln_81, tn_82, ln_82, tn_83, ln_83, ob_84, tn_85, ln_85, tn_86, ln_86, tn_87, ln_87, tn_88, ln_88, tn_89, ln_89, tn_90, ln_90, tn_91, ln_91, tn_92, ln_92, tn_93, ln_93, ob_94, tn_95, ln_95, tn_96, ln_96, tn_97, ln_97, tn_98, ln_98, tn_99, ln_99, tn_100, ln_100, tn_101, ln_101, tn_102, ln_102, tn_103, ln_103, ob_104, tn_105, ln_105, tn_106, ln_106, tn_107, ln_107, tn_108, ln_108, tn_109, ln_109, tn_110, ln_110, tn_111, ln_111, tn_112, ln_112, tn_113, ln_113, ob_114, tn_115, ln_115, tn_116, ln_116, tn_117, ln_117, tn_118, ln_118, tn_119, ln_119, tn_120, ln_120, tn_121, ln_121, tn_122, ln_122, tn_123, ln_123, ob_124, tn_125, ln_125, tn_126, ln_126, tn_127, ln_127, tn_128, ln_128, tn_129, ln_129, tn_130, ln_130, tn_131, ln_131, tn_132, ln_132, tn_133, ln_133, ob_134, tn_135, ln_135, tn_136, ln_136, tn_137, ln_137, tn_138, ln_138, tn_139, ln_139, tn_140, ln_140, tn_141, ln_141, tn_142, ln_142, tn_143, ln_143, ob_144, tn_145, ln_145, tn_146, ln_146, tn_147, ln_147, tn_148, ln_148, tn_149, ln_149, tn_150, ln_150, tn_151, ln_151, tn_152, ln_152, tn_153, ln_153, ob_154, tn_155, ln_155, tn_156, ln_156, tn_157, ln_157, tn_158, ln_158, tn_159, ln_159, tn_160, ln_160, tn_161, ln_161, tn_162, ln_162, tn_163, ln_163, ob_164, tn_165, ln_165, tn_166, ln_166, ob_167, tn_168, ln_168, tn_169, ln_169, tn_170, ln_170, tn_171, ln_171, tn_172, ln_172, tn_173, ln_173, tn_174, ln_174, tn_175, ln_175, tn_176, ln_176, ob_177, tn_178, ln_178, tn_179, ln_179, ob_180, tn_181, ln_181, tn_182, ln_182, tn_183, ln_183, tn_184, ln_184, tn_185, ln_185, tn_186, ln_186, tn_187, ln_187, tn_188, ln_188, tn_189, ln_189, tn_190, ln_190, tn_191, ln_191, tn_192, ln_192, tn_193, ln_193, tn_194, ln_194, tn_195, ln_195, tn_196, ln_196, tn_197, ln_197, tn_198, ln_198, tn_199, ln_199, tn_200, ln_200, tn_201, ln_201, tn_202, ln_202, tn_203, ln_203, tn_204, ln_204, tn_205, ln_205, tn_206, ln_206, tn_207, ln_207, tn_208, ln_208, tn_209, ln_209, tn_210, ln_210, tn_211, ln_211, tn_212, ln_212, tn_213, ln_213, tn_214, ln_214, tn_215, ln_215, tn_216, ln_216, tn_217, ln_217, tn_218, ln_218, tn_219, ln_219, tn_220, ln_220, tn_221, ln_221, tn_222, ln_222, tn_223, ln_223, tn_224, ln_224, tn_225, ln_225, tn_226, ln_226, tn_227, ln_227, tn_228, ln_228, tn_229, ln_229, tn_230, ln_230, lx2, lx3, lx4, lx5, lx6, lx7, lx8, lx9, lx10, lx14, lx15, lx16, lx18, lx20, lx24, lx25, lx27, lx32, lx36, lx40, lx41, lx42, lx43, lx45, lx48, lx52, lx54, lx56, lx57, lx58, lx60, lx61, lx62, lx63, lx64, lx66, lx69, lx73, lx80, lx81, lx84, lx85, lx87, lx94, lx96, lx97, lx120, lx128, lx135, lx160, lx162, lx163, lx165, lx200, lx232, lx242, lx243, lx255, lx256, lx320, lx325, lx400, lx405, lx464, lx512, lx600, lx640, lx752, lx900, lx940, lx1000, lx1024, lx1764, lx3360, lx3840, lx5000, lx6400, lx9050, lx9998, lx9999, lx10000, lx25600, lx76800, lx99999, m2]
      exact ⟨fun n => absurd n q, fun _ => hP⟩
theorem rule_U {A : xH} {P : xP} {v : xV} {x y : Int32} (h : rr A v) (hP : ∀ B, fr SIt A B → rr B v → P (some (.int (rulA v x y))) B) : f_X12_rule 180 x y A P := by
  have h10 := h.1.2.2.1
  unfold rulA at hP
  unfold f_X12_rule
  simp (disch := omega) only [k_X12_rule_0, k_X12_rule_53, w_III, w_R, w_RI, x_aload, x_cs3, x_iadd, x_icmp_ne, x_if_eq, x_if_ne, x_iload, x_imul, x_iret, x_push, y_cv0, y_cv1, y_getF, y_iald, xFT, xbool0, xbool1, Nat.reduceAdd, Nat.zero_add, xgl_0, xgl_s, xgl_n, xst_0, xst_1n, xst_1i, xst_1r, xst_1l, xst_s, set_0, set_s, true_and, and_true, xres, xcat_nil, xcat_i, xcat_r, xcat_l, Nat.add_zero, xble0, xble1, xble2, xble3, xble4, xble5, xble6, xble7, xble8, pk_mul, nI_add, nI_1, nI_leI, nI_ltI, nI_eq, n_in, n_cl, z_eq, z_lt, z_le, z_gt, z_ge, z_qe, o_eq, o_lt, o_le, o_gt, o_ge, vp0, vp1, cl0, cl1, n_sub, n_sub1, n_pm1, n_a0, n_0a, ofn, lN0, Nat.reduceLT, Nat.reduceLeDiff, Nat.reduceMul, Nat.reduceSub, Nat.reduceEqDiff, ne_eq, true_implies, false_implies, not_true_eq_false, not_false_eq_true, and_self, and_true, true_and, and_false, false_and, implies_true, if_true, if_false, i00, i10, i01, i11, ob_0, ob_1, tn_2, ln_2, ob_3, tn_4, ln_4, ob_5, tn_6, ln_6, tn_7, ln_7, ob_8, tn_9, ln_9, tn_10, ln_10, tn_11, ln_11, tn_12, ln_12, tn_13, ln_13, tn_14, ln_14, tn_15, ln_15, tn_16, ln_16, tn_17, ln_17, ob_18, tn_19, ln_19, tn_20, ln_20, tn_21, ln_21, tn_22, ln_22, tn_23, ln_23, tn_24, ln_24, tn_25, ln_25, tn_26, ln_26, tn_27, ln_27, ob_28, tn_29, ln_29, tn_30, ln_30, ob_31, tn_32, ln_32, tn_33, ln_33, ob_34, ob_35, tn_36, ln_36, tn_37, ln_37, tn_38, ln_38, ob_39, tn_40, ln_40, tn_41, ln_41, tn_42, ln_42, tn_43, ln_43, tn_44, ln_44, tn_45, ln_45, tn_46, ln_46, tn_47, ln_47, tn_48, ln_48, tn_49, ln_49, tn_50, ln_50, tn_51, ln_51, ob_52, tn_53, ln_53, tn_54, ln_54, tn_55, ln_55, tn_56, ln_56, ob_57, tn_58, ln_58, tn_59, ln_59, tn_60, ln_60, tn_61, ln_61, tn_62, ln_62, tn_63, ln_63, tn_64, ln_64, tn_65, ln_65, ob_66, tn_67, ln_67, tn_68, ln_68, tn_69, ln_69, tn_70, ln_70, tn_71, ln_71, tn_72, ln_72, tn_73, ln_73, ob_74, tn_75, ln_75, tn_76, ln_76, tn_77, ln_77, tn_78, ln_78, tn_79, ln_79, tn_80, ln_80, tn_81, ln_81, tn_82, ln_82, tn_83, ln_83, ob_84, tn_85, ln_85, tn_86, ln_86, tn_87, ln_87, tn_88, ln_88, tn_89, ln_89, tn_90, ln_90, tn_91, ln_91, tn_92, ln_92, tn_93, ln_93, ob_94, tn_95, ln_95, tn_96, ln_96, tn_97, ln_97, tn_98, ln_98, tn_99, ln_99, tn_100, ln_100, tn_101, ln_101, tn_102, ln_102, tn_103, ln_103, ob_104, tn_105, ln_105, tn_106, ln_106, tn_107, ln_107, tn_108, ln_108, tn_109, ln_109, tn_110, ln_110, tn_111, ln_111, tn_112, ln_112, tn_113, ln_113, ob_114, tn_115, ln_115, tn_116, ln_116, tn_117, ln_117, tn_118, ln_118, tn_119, ln_119, tn_120, ln_120, tn_121, ln_121, tn_122, ln_122, tn_123, ln_123, ob_124, tn_125, ln_125, tn_126, ln_126, tn_127, ln_127, tn_128, ln_128, tn_129, ln_129, tn_130, ln_130, tn_131, ln_131, tn_132, ln_132, tn_133, ln_133, ob_134, tn_135, ln_135, tn_136, ln_136, tn_137, ln_137, tn_138, ln_138, tn_139, ln_139, tn_140, ln_140, tn_141, ln_141, tn_142, ln_142, tn_143, ln_143, ob_144, tn_145, ln_145, tn_146, ln_146, tn_147, ln_147, tn_148, ln_148, tn_149, ln_149, tn_150, ln_150, tn_151, ln_151, tn_152, ln_152, tn_153, ln_153, ob_154, tn_155, ln_155, tn_156, ln_156, tn_157, ln_157, tn_158, ln_158, tn_159, ln_159, tn_160, ln_160, tn_161, ln_161, tn_162, ln_162, tn_163, ln_163, ob_164, tn_165, ln_165, tn_166, ln_166, ob_167, tn_168, ln_168, tn_169, ln_169, tn_170, ln_170, tn_171, ln_171, tn_172, ln_172, tn_173, ln_173, tn_174, ln_174, tn_175, ln_175, tn_176, ln_176, ob_177, tn_178, ln_178, tn_179, ln_179, ob_180, tn_181, ln_181, tn_182, ln_182, tn_183, ln_183, tn_184, ln_184, tn_185, ln_185, tn_186, ln_186, tn_187, ln_187, tn_188, ln_188, tn_189, ln_189, tn_190, ln_190, tn_191, ln_191, tn_192, ln_192, tn_193, ln_193, tn_194, ln_194, tn_195, ln_195, tn_196, ln_196, tn_197, ln_197, tn_198, ln_198, tn_199, ln_199, tn_200, ln_200, tn_201, ln_201, tn_202, ln_202, tn_203, ln_203, tn_204, ln_204, tn_205, ln_205, tn_206, ln_206, tn_207, ln_207, tn_208, ln_208, tn_209, ln_209, tn_210, ln_210, tn_211, ln_211, tn_212, ln_212, tn_213, ln_213, tn_214, ln_214, tn_215, ln_215, tn_216, ln_216, tn_217, ln_217, tn_218, ln_218, tn_219, ln_219, tn_220, ln_220, tn_221, ln_221, tn_222, ln_222, tn_223, ln_223, tn_224, ln_224, tn_225, ln_225, tn_226, ln_226, tn_227, ln_227, tn_228, ln_228, tn_229, ln_229, tn_230, ln_230, lx2, lx3, lx4, lx5, lx6, lx7, lx8, lx9, lx10, lx14, lx15, lx16, lx18, lx20, lx24, lx25, lx27, lx32, lx36, lx40, lx41, lx42, lx43, lx45, lx48, lx52, lx54, lx56, lx57, lx58, lx60, lx61, lx62, lx63, lx64, lx66, lx69, lx73, lx80, lx81, lx84, lx85, lx87, lx94, lx96, lx97, lx120, lx128, lx135, lx160, lx162, lx163, lx165, lx200, lx232, lx242, lx243, lx255, lx256, lx320, lx325, lx400, lx405, lx464, lx512, lx600, lx640, lx752, lx900, lx940, lx1000, lx1024, lx1764, lx3360, lx3840, lx5000, lx6400, lx9050, lx9998, lx9999, lx10000, lx25600, lx76800, lx99999]
  unfold f_X12_isRule
  simp (disch := omega) only [k_X12_isRule_0, w_III, x_aload, x_cs3, x_iload, x_isub, x_push, x_zret, y_getF, y_iald, xFT, xbool0, xbool1, Nat.reduceAdd, Nat.zero_add, xgl_0, xgl_s, xgl_n, xst_0, xst_1n, xst_1i, xst_1r, xst_1l, xst_s, set_0, set_s, true_and, and_true, xres, xcat_nil, xcat_i, xcat_r, xcat_l, Nat.add_zero, xble0, xble1, xble2, xble3, xble4, xble5, xble6, xble7, xble8, pk_mul, nI_add, nI_1, nI_leI, nI_ltI, nI_eq, n_in, n_cl, z_eq, z_lt, z_le, z_gt, z_ge, z_qe, o_eq, o_lt, o_le, o_gt, o_ge, vp0, vp1, cl0, cl1, n_sub, n_sub1, n_pm1, n_a0, n_0a, ofn, lN0, Nat.reduceLT, Nat.reduceLeDiff, Nat.reduceMul, Nat.reduceSub, Nat.reduceEqDiff, ne_eq, true_implies, false_implies, not_true_eq_false, not_false_eq_true, and_self, and_true, true_and, and_false, false_and, implies_true, if_true, if_false, i00, i10, i01, i11, ob_0, ob_1, tn_2, ln_2, ob_3, tn_4, ln_4, ob_5, tn_6, ln_6, tn_7, ln_7, ob_8, tn_9, ln_9, tn_10, ln_10, tn_11, ln_11, tn_12, ln_12, tn_13, ln_13, tn_14, ln_14, tn_15, ln_15, tn_16, ln_16, tn_17, ln_17, ob_18, tn_19, ln_19, tn_20, ln_20, tn_21, ln_21, tn_22, ln_22, tn_23, ln_23, tn_24, ln_24, tn_25, ln_25, tn_26, ln_26, tn_27, ln_27, ob_28, tn_29, ln_29, tn_30, ln_30, ob_31, tn_32, ln_32, tn_33, ln_33, ob_34, ob_35, tn_36, ln_36, tn_37, ln_37, tn_38, ln_38, ob_39, tn_40, ln_40, tn_41, ln_41, tn_42, ln_42, tn_43, ln_43, tn_44, ln_44, tn_45, ln_45, tn_46, ln_46, tn_47, ln_47, tn_48, ln_48, tn_49, ln_49, tn_50, ln_50, tn_51, ln_51, ob_52, tn_53, ln_53, tn_54, ln_54, tn_55, ln_55, tn_56, ln_56, ob_57, tn_58, ln_58, tn_59, ln_59, tn_60, ln_60, tn_61, ln_61, tn_62, ln_62, tn_63, ln_63, tn_64, ln_64, tn_65, ln_65, ob_66, tn_67, ln_67, tn_68, ln_68, tn_69, ln_69, tn_70, ln_70, tn_71, ln_71, tn_72, ln_72, tn_73, ln_73, ob_74, tn_75, ln_75, tn_76, ln_76, tn_77, ln_77, tn_78, ln_78, tn_79, ln_79, tn_80, ln_80, tn_81, ln_81, tn_82, ln_82, tn_83, ln_83, ob_84, tn_85, ln_85, tn_86, ln_86, tn_87, ln_87, tn_88, ln_88, tn_89, ln_89, tn_90, ln_90, tn_91, ln_91, tn_92, ln_92, tn_93, ln_93, ob_94, tn_95, ln_95, tn_96, ln_96, tn_97, ln_97, tn_98, ln_98, tn_99, ln_99, tn_100, ln_100, tn_101, ln_101, tn_102, ln_102, tn_103, ln_103, ob_104, tn_105, ln_105, tn_106, ln_106, tn_107, ln_107, tn_108, ln_108, tn_109, ln_109, tn_110, ln_110, tn_111, ln_111, tn_112, ln_112, tn_113, ln_113, ob_114, tn_115, ln_115, tn_116, ln_116, tn_117, ln_117, tn_118, ln_118, tn_119, ln_119, tn_120, ln_120, tn_121, ln_121, tn_122, ln_122, tn_123, ln_123, ob_124, tn_125, ln_125, tn_126, ln_126, tn_127, ln_127, tn_128, ln_128, tn_129, ln_129, tn_130, ln_130, tn_131, ln_131, tn_132, ln_132, tn_133, ln_133, ob_134, tn_135, ln_135, tn_136, ln_136, tn_137, ln_137, tn_138, ln_138, tn_139, ln_139, tn_140, ln_140, tn_141, ln_141, tn_142, ln_142, tn_143, ln_143, ob_144, tn_145, ln_145, tn_146, ln_146, tn_147, ln_147, tn_148, ln_148, tn_149, ln_149, tn_150, ln_150, tn_151, ln_151, tn_152, ln_152, tn_153, ln_153, ob_154, tn_155, ln_155, tn_156, ln_156, tn_157, ln_157, tn_158, ln_158, tn_159, ln_159, tn_160, ln_160, tn_161, ln_161, tn_162, ln_162, tn_163, ln_163, ob_164, tn_165, ln_165, tn_166, ln_166, ob_167, tn_168, ln_168, tn_169, ln_169, tn_170, ln_170, tn_171, ln_171, tn_172, ln_172, tn_173, ln_173, tn_174, ln_174, tn_175, ln_175, tn_176, ln_176, ob_177, tn_178, ln_178, tn_179, ln_179, ob_180, tn_181, ln_181, tn_182, ln_182, tn_183, ln_183, tn_184, ln_184, tn_185, ln_185, tn_186, ln_186, tn_187, ln_187, tn_188, ln_188, tn_189, ln_189, tn_190, ln_190, tn_191, ln_191, tn_192, ln_192, tn_193, ln_193, tn_194, ln_194, tn_195, ln_195, tn_196, ln_196, tn_197, ln_197, tn_198, ln_198, tn_199, ln_199, tn_200, ln_200, tn_201, ln_201, tn_202, ln_202, tn_203, ln_203, tn_204, ln_204, tn_205, ln_205, tn_206, ln_206, tn_207, ln_207, tn_208, ln_208, tn_209, ln_209, tn_210, ln_210, tn_211, ln_211, tn_212, ln_212, tn_213, ln_213, tn_214, ln_214, tn_215, ln_215, tn_216, ln_216, tn_217, ln_217, tn_218, ln_218, tn_219, ln_219, tn_220, ln_220, tn_221, ln_221, tn_222, ln_222, tn_223, ln_223, tn_224, ln_224, tn_225, ln_225, tn_226, ln_226, tn_227, ln_227, tn_228, ln_228, tn_229, ln_229, tn_230, ln_230, lx2, lx3, lx4, lx5, lx6, lx7, lx8, lx9, lx10, lx14, lx15, lx16, lx18, lx20, lx24, lx25, lx27, lx32, lx36, lx40, lx41, lx42, lx43, lx45, lx48, lx52, lx54, lx56, lx57, lx58, lx60, lx61, lx62, lx63, lx64, lx66, lx69, lx73, lx80, lx81, lx84, lx85, lx87, lx94, lx96, lx97, lx120, lx128, lx135, lx160, lx162, lx163, lx165, lx200, lx232, lx242, lx243, lx255, lx256, lx320, lx325, lx400, lx405, lx464, lx512, lx600, lx640, lx752, lx900, lx940, lx1000, lx1024, lx1764, lx3360, lx3840, lx5000, lx6400, lx9050, lx9998, lx9999, lx10000, lx25600, lx76800, lx99999, h.1.1.2.2.1]
  refine in_case (by omega) (fun k q hx => ?_) (fun hno => ?_)
  · subst hx
    have hk : k < 2 ^ 31 := by omega
    rw [anF_in q hk] at hP
    simp (disch := omega) only [k_X12_isRule_0, w_III, x_aload, x_cs3, x_iload, x_isub, x_push, x_zret, y_getF, y_iald, xFT, xbool0, xbool1, Nat.reduceAdd, Nat.zero_add, xgl_0, xgl_s, xgl_n, xst_0, xst_1n, xst_1i, xst_1r, xst_1l, xst_s, set_0, set_s, true_and, and_true, xres, xcat_nil, xcat_i, xcat_r, xcat_l, Nat.add_zero, xble0, xble1, xble2, xble3, xble4, xble5, xble6, xble7, xble8, k_X12_rule_0, k_X12_rule_53, w_III, w_R, w_RI, x_aload, x_cs3, x_iadd, x_icmp_ne, x_if_eq, x_if_ne, x_iload, x_imul, x_iret, x_push, y_cv0, y_cv1, y_getF, y_iald, xFT, xbool0, xbool1, Nat.reduceAdd, Nat.zero_add, xgl_0, xgl_s, xgl_n, xst_0, xst_1n, xst_1i, xst_1r, xst_1l, xst_s, set_0, set_s, true_and, and_true, xres, xcat_nil, xcat_i, xcat_r, xcat_l, Nat.add_zero, xble0, xble1, xble2, xble3, xble4, xble5, xble6, xble7, xble8, pk_mul, nI_add, nI_1, nI_leI, nI_ltI, nI_eq, n_in, n_cl, z_eq, z_lt, z_le, z_gt, z_ge, z_qe, o_eq, o_lt, o_le, o_gt, o_ge, vp0, vp1, cl0, cl1, n_sub, n_sub1, n_pm1, n_a0, n_0a, ofn, lN0, Nat.reduceLT, Nat.reduceLeDiff, Nat.reduceMul, Nat.reduceSub, Nat.reduceEqDiff, ne_eq, true_implies, false_implies, not_true_eq_false, not_false_eq_true, and_self, and_true, true_and, and_false, false_and, implies_true, if_true, if_false, i00, i10, i01, i11, ob_0, ob_1, tn_2, ln_2, ob_3, tn_4, ln_4, ob_5, tn_6, ln_6, tn_7, ln_7, ob_8, tn_9, ln_9, tn_10, ln_10, tn_11, ln_11, tn_12, ln_12, tn_13, ln_13, tn_14, ln_14, tn_15, ln_15, tn_16, ln_16, tn_17, ln_17, ob_18, tn_19, ln_19, tn_20, ln_20, tn_21, ln_21, tn_22, ln_22, tn_23, ln_23, tn_24, ln_24, tn_25, ln_25, tn_26, ln_26, tn_27, ln_27, ob_28, tn_29, ln_29, tn_30, ln_30, ob_31, tn_32, ln_32, tn_33, ln_33, ob_34, ob_35, tn_36, ln_36, tn_37, ln_37, tn_38, ln_38, ob_39, tn_40, ln_40, tn_41, ln_41, tn_42, ln_42, tn_43, ln_43, tn_44, ln_44, tn_45, ln_45, tn_46, ln_46, tn_47, ln_47, tn_48, ln_48, tn_49, ln_49, tn_50, ln_50, tn_51, ln_51, ob_52, tn_53, ln_53, tn_54, ln_54, tn_55, ln_55, tn_56, ln_56, ob_57, tn_58, ln_58, tn_59, ln_59, tn_60, ln_60, tn_61, ln_61, tn_62, ln_62, tn_63, ln_63, tn_64, ln_64, tn_65, ln_65, ob_66, tn_67, ln_67, tn_68, ln_68, tn_69, ln_69, tn_70, ln_70, tn_71, ln_71, tn_72, ln_72, tn_73, ln_73, ob_74, tn_75, ln_75, tn_76, ln_76, tn_77, ln_77, tn_78, ln_78, tn_79, ln_79, tn_80, ln_80, tn_81, ln_81, tn_82, ln_82, tn_83, ln_83, ob_84, tn_85, ln_85, tn_86, ln_86, tn_87, ln_87, tn_88, ln_88, tn_89, ln_89, tn_90, ln_90, tn_91, ln_91, tn_92, ln_92, tn_93, ln_93, ob_94, tn_95, ln_95, tn_96, ln_96, tn_97, ln_97, tn_98, ln_98, tn_99, ln_99, tn_100, ln_100, tn_101, ln_101, tn_102, ln_102, tn_103, ln_103, ob_104, tn_105, ln_105, tn_106, ln_106, tn_107, ln_107, tn_108, ln_108, tn_109, ln_109, tn_110, ln_110, tn_111, ln_111, tn_112, ln_112, tn_113, ln_113, ob_114, tn_115, ln_115, tn_116, ln_116, tn_117, ln_117, tn_118, ln_118, tn_119, ln_119, tn_120, ln_120, tn_121, ln_121, tn_122, ln_122, tn_123, ln_123, ob_124, tn_125, ln_125, tn_126, ln_126, tn_127, ln_127, tn_128, ln_128, tn_129, ln_129, tn_130, ln_130, tn_131, ln_131, tn_132, ln_132, tn_133, ln_133, ob_134, tn_135, ln_135, tn_136, ln_136, tn_137, ln_137, tn_138, ln_138, tn_139, ln_139, tn_140, ln_140, tn_141, ln_141, tn_142, ln_142, tn_143, ln_143, ob_144, tn_145, ln_145, tn_146, ln_146, tn_147, ln_147, tn_148, ln_148, tn_149, ln_149, tn_150, ln_150, tn_151, ln_151, tn_152, ln_152, tn_153, ln_153, ob_154, tn_155, ln_155, tn_156, ln_156, tn_157, ln_157, tn_158, ln_158, tn_159, ln_159, tn_160, ln_160, tn_161, ln_161, tn_162, ln_162, tn_163, ln_163, ob_164, tn_165, ln_165, tn_166, ln_166, ob_167, tn_168, ln_168, tn_169, ln_169, tn_170, ln_170, tn_171, ln_171, tn_172, ln_172, tn_173, ln_173, tn_174, ln_174, tn_175, ln_175, tn_176, ln_176, ob_177, tn_178, ln_178, tn_179, ln_179, ob_180, tn_181, ln_181, tn_182, ln_182, tn_183, ln_183, tn_184, ln_184, tn_185, ln_185, tn_186, ln_186, tn_187, ln_187, tn_188, ln_188, tn_189, ln_189, tn_190, ln_190, tn_191, ln_191, tn_192, ln_192, tn_193, ln_193, tn_194, ln_194, tn_195, ln_195, tn_196, ln_196, tn_197, ln_197, tn_198, ln_198, tn_199, ln_199, tn_200, ln_200, tn_201, ln_201, tn_202, ln_202, tn_203, ln_203, tn_204, ln_204, tn_205, ln_205, tn_206, ln_206, tn_207, ln_207, tn_208, ln_208, tn_209, ln_209, tn_210, ln_210, tn_211, ln_211, tn_212, ln_212, tn_213, ln_213, tn_214, ln_214, tn_215, ln_215, tn_216, ln_216, tn_217, ln_217, tn_218, ln_218, tn_219, ln_219, tn_220, ln_220, tn_221, ln_221, tn_222, ln_222, tn_223, ln_223, tn_224, ln_224, tn_225, ln_225, tn_226, ln_226, tn_227, ln_227, tn_228, ln_228, tn_229, ln_229, tn_230, ln_230, lx2, lx3, lx4, lx5, lx6, lx7, lx8, lx9, lx10, lx14, lx15, lx16, lx18, lx20, lx24, lx25, lx27, lx32, lx36, lx40, lx41, lx42, lx43, lx45, lx48, lx52, lx54, lx56, lx57, lx58, lx60, lx61, lx62, lx63, lx64, lx66, lx69, lx73, lx80, lx81, lx84, lx85, lx87, lx94, lx96, lx97, lx120, lx128, lx135, lx160, lx162, lx163, lx165, lx200, lx232, lx242, lx243, lx255, lx256, lx320, lx325, lx400, lx405, lx464, lx512, lx600, lx640, lx752, lx900, lx940, lx1000, lx1024, lx1764, lx3360, lx3840, lx5000, lx6400, lx9050, lx9998, lx9999, lx10000, lx25600, lx76800, lx99999]
    refine ⟨rfl, v, h.1, h.2.1, h.2.2.2, fun B hF hI h25 => ?_⟩
    have hB := rr_it h hF hI h25
    have an := fun z (e : z = anF 6 (rulN v k) y) => (show P (some (.int z)) B by rw [e]; exact hP B hF hB)
    have hi : xi B 191 k = nI (vfst v k) := hI.2.1 k q
    rcases n_case y with w | ⟨t, ht, rfl⟩
    · rw [anF_neg w] at an
      have h0 : ¬ 0 ≤ y := neg_le w (n := 0) (by omega)
      have h5 : ¬ y = nI 5 := neg_ne w (by omega)
      simp (disch := omega) only [k_X12_rule_0, k_X12_rule_53, w_III, w_R, w_RI, x_aload, x_cs3, x_iadd, x_icmp_ne, x_if_eq, x_if_ne, x_iload, x_imul, x_iret, x_push, y_cv0, y_cv1, y_getF, y_iald, xFT, xbool0, xbool1, Nat.reduceAdd, Nat.zero_add, xgl_0, xgl_s, xgl_n, xst_0, xst_1n, xst_1i, xst_1r, xst_1l, xst_s, set_0, set_s, true_and, and_true, xres, xcat_nil, xcat_i, xcat_r, xcat_l, Nat.add_zero, xble0, xble1, xble2, xble3, xble4, xble5, xble6, xble7, xble8, pk_mul, nI_add, nI_1, nI_leI, nI_ltI, nI_eq, n_in, n_cl, z_eq, z_lt, z_le, z_gt, z_ge, z_qe, o_eq, o_lt, o_le, o_gt, o_ge, vp0, vp1, cl0, cl1, n_sub, n_sub1, n_pm1, n_a0, n_0a, ofn, lN0, Nat.reduceLT, Nat.reduceLeDiff, Nat.reduceMul, Nat.reduceSub, Nat.reduceEqDiff, ne_eq, true_implies, false_implies, not_true_eq_false, not_false_eq_true, and_self, and_true, true_and, and_false, false_and, implies_true, if_true, if_false, i00, i10, i01, i11, ob_0, ob_1, tn_2, ln_2, ob_3, tn_4, ln_4, ob_5, tn_6, ln_6, tn_7, ln_7, ob_8, tn_9, ln_9, tn_10, ln_10, tn_11, ln_11, tn_12, ln_12, tn_13, ln_13, tn_14, ln_14, tn_15, ln_15, tn_16, ln_16, tn_17, ln_17, ob_18, tn_19, ln_19, tn_20, ln_20, tn_21, ln_21, tn_22, ln_22, tn_23, ln_23, tn_24, ln_24, tn_25, ln_25, tn_26, ln_26, tn_27, ln_27, ob_28, tn_29, ln_29, tn_30, ln_30, ob_31, tn_32, ln_32, tn_33, ln_33, ob_34, ob_35, tn_36, ln_36, tn_37, ln_37, tn_38, ln_38, ob_39, tn_40, ln_40, tn_41, ln_41, tn_42, ln_42, tn_43, ln_43, tn_44, ln_44, tn_45, ln_45, tn_46, ln_46, tn_47, ln_47, tn_48, ln_48, tn_49, ln_49, tn_50, ln_50, tn_51, ln_51, ob_52, tn_53, ln_53, tn_54, ln_54, tn_55, ln_55, tn_56, ln_56, ob_57, tn_58, ln_58, tn_59, ln_59, tn_60, ln_60, tn_61, ln_61, tn_62, ln_62, tn_63, ln_63, tn_64, ln_64, tn_65, ln_65, ob_66, tn_67, ln_67, tn_68, ln_68, tn_69, ln_69, tn_70, ln_70, tn_71, ln_71, tn_72, ln_72, tn_73, ln_73, ob_74, tn_75, ln_75, tn_76, ln_76, tn_77, ln_77, tn_78, ln_78, tn_79, ln_79, tn_80, ln_80, tn_81, ln_81, tn_82, ln_82, tn_83, ln_83, ob_84, tn_85, ln_85, tn_86, ln_86, tn_87, ln_87, tn_88, ln_88, tn_89, ln_89, tn_90, ln_90, tn_91, ln_91, tn_92, ln_92, tn_93, ln_93, ob_94, tn_95, ln_95, tn_96, ln_96, tn_97, ln_97, tn_98, ln_98, tn_99, ln_99, tn_100, ln_100, tn_101, ln_101, tn_102, ln_102, tn_103, ln_103, ob_104, tn_105, ln_105, tn_106, ln_106, tn_107, ln_107, tn_108, ln_108, tn_109, ln_109, tn_110, ln_110, tn_111, ln_111, tn_112, ln_112, tn_113, ln_113, ob_114, tn_115, ln_115, tn_116, ln_116, tn_117, ln_117, tn_118, ln_118, tn_119, ln_119, tn_120, ln_120, tn_121, ln_121, tn_122, ln_122, tn_123, ln_123, ob_124, tn_125, ln_125, tn_126, ln_126, tn_127, ln_127, tn_128, ln_128, tn_129, ln_129, tn_130, ln_130, tn_131, ln_131, tn_132, ln_132, tn_133, ln_133, ob_134, tn_135, ln_135, tn_136, ln_136, tn_137, ln_137, tn_138, ln_138, tn_139, ln_139, tn_140, ln_140, tn_141, ln_141, tn_142, ln_142, tn_143, ln_143, ob_144, tn_145, ln_145, tn_146, ln_146, tn_147, ln_147, tn_148, ln_148, tn_149, ln_149, tn_150, ln_150, tn_151, ln_151, tn_152, ln_152, tn_153, ln_153, ob_154, tn_155, ln_155, tn_156, ln_156, tn_157, ln_157, tn_158, ln_158, tn_159, ln_159, tn_160, ln_160, tn_161, ln_161, tn_162, ln_162, tn_163, ln_163, ob_164, tn_165, ln_165, tn_166, ln_166, ob_167, tn_168, ln_168, tn_169, ln_169, tn_170, ln_170, tn_171, ln_171, tn_172, ln_172, tn_173, ln_173, tn_174, ln_174, tn_175, ln_175, tn_176, ln_176, ob_177, tn_178, ln_178, tn_179, ln_179, ob_180, tn_181, ln_181, tn_182, ln_182, tn_183, ln_183, tn_184, ln_184, tn_185, ln_185, tn_186, ln_186, tn_187, ln_187, tn_188, ln_188, tn_189, ln_189, tn_190, ln_190, tn_191, ln_191, tn_192, ln_192, tn_193, ln_193, tn_194, ln_194, tn_195, ln_195, tn_196, ln_196, tn_197, ln_197, tn_198, ln_198, tn_199, ln_199, tn_200, ln_200, tn_201, ln_201, tn_202, ln_202, tn_203, ln_203, tn_204, ln_204, tn_205, ln_205, tn_206, ln_206, tn_207, ln_207, tn_208, ln_208, tn_209, ln_209, tn_210, ln_210, tn_211, ln_211, tn_212, ln_212, tn_213, ln_213, tn_214, ln_214, tn_215, ln_215, tn_216, ln_216, tn_217, ln_217, tn_218, ln_218, tn_219, ln_219, tn_220, ln_220, tn_221, ln_221, tn_222, ln_222, tn_223, ln_223, tn_224, ln_224, tn_225, ln_225, tn_226, ln_226, tn_227, ln_227, tn_228, ln_228, tn_229, ln_229, tn_230, ln_230, lx2, lx3, lx4, lx5, lx6, lx7, lx8, lx9, lx10, lx14, lx15, lx16, lx18, lx20, lx24, lx25, lx27, lx32, lx36, lx40, lx41, lx42, lx43, lx45, lx48, lx52, lx54, lx56, lx57, lx58, lx60, lx61, lx62, lx63, lx64, lx66, lx69, lx73, lx80, lx81, lx84, lx85, lx87, lx94, lx96, lx97, lx120, lx128, lx135, lx160, lx162, lx163, lx165, lx200, lx232, lx242, lx243, lx255, lx256, lx320, lx325, lx400, lx405, lx464, lx512, lx600, lx640, lx752, lx900, lx940, lx1000, lx1024, lx1764, lx3360, lx3840, lx5000, lx6400, lx9050, lx9998, lx9999, lx10000, lx25600, lx76800, lx99999, isIn_U, h0, h5, decide_false, bI_0]
      exact an _ rfl
    · simp (disch := omega) only [k_X12_rule_0, k_X12_rule_53, w_III, w_R, w_RI, x_aload, x_cs3, x_iadd, x_icmp_ne, x_if_eq, x_if_ne, x_iload, x_imul, x_iret, x_push, y_cv0, y_cv1, y_getF, y_iald, xFT, xbool0, xbool1, Nat.reduceAdd, Nat.zero_add, xgl_0, xgl_s, xgl_n, xst_0, xst_1n, xst_1i, xst_1r, xst_1l, xst_s, set_0, set_s, true_and, and_true, xres, xcat_nil, xcat_i, xcat_r, xcat_l, Nat.add_zero, xble0, xble1, xble2, xble3, xble4, xble5, xble6, xble7, xble8, pk_mul, nI_add, nI_1, nI_leI, nI_ltI, nI_eq, n_in, n_cl, z_eq, z_lt, z_le, z_gt, z_ge, z_qe, o_eq, o_lt, o_le, o_gt, o_ge, vp0, vp1, cl0, cl1, n_sub, n_sub1, n_pm1, n_a0, n_0a, ofn, lN0, Nat.reduceLT, Nat.reduceLeDiff, Nat.reduceMul, Nat.reduceSub, Nat.reduceEqDiff, ne_eq, true_implies, false_implies, not_true_eq_false, not_false_eq_true, and_self, and_true, true_and, and_false, false_and, implies_true, if_true, if_false, i00, i10, i01, i11, ob_0, ob_1, tn_2, ln_2, ob_3, tn_4, ln_4, ob_5, tn_6, ln_6, tn_7, ln_7, ob_8, tn_9, ln_9, tn_10, ln_10, tn_11, ln_11, tn_12, ln_12, tn_13, ln_13, tn_14, ln_14, tn_15, ln_15, tn_16, ln_16, tn_17, ln_17, ob_18, tn_19, ln_19, tn_20, ln_20, tn_21, ln_21, tn_22, ln_22, tn_23, ln_23, tn_24, ln_24, tn_25, ln_25, tn_26, ln_26, tn_27, ln_27, ob_28, tn_29, ln_29, tn_30, ln_30, ob_31, tn_32, ln_32, tn_33, ln_33, ob_34, ob_35, tn_36, ln_36, tn_37, ln_37, tn_38, ln_38, ob_39, tn_40, ln_40, tn_41, ln_41, tn_42, ln_42, tn_43, ln_43, tn_44, ln_44, tn_45, ln_45, tn_46, ln_46, tn_47, ln_47, tn_48, ln_48, tn_49, ln_49, tn_50, ln_50, tn_51, ln_51, ob_52, tn_53, ln_53, tn_54, ln_54, tn_55, ln_55, tn_56, ln_56, ob_57, tn_58, ln_58, tn_59, ln_59, tn_60, ln_60, tn_61, ln_61, tn_62, ln_62, tn_63, ln_63, tn_64, ln_64, tn_65, ln_65, ob_66, tn_67, ln_67, tn_68, ln_68, tn_69, ln_69, tn_70, ln_70, tn_71, ln_71, tn_72, ln_72, tn_73, ln_73, ob_74, tn_75, ln_75, tn_76, ln_76, tn_77, ln_77, tn_78, ln_78, tn_79, ln_79, tn_80, ln_80, tn_81, ln_81, tn_82, ln_82, tn_83, ln_83, ob_84, tn_85, ln_85, tn_86, ln_86, tn_87, ln_87, tn_88, ln_88, tn_89, ln_89, tn_90, ln_90, tn_91, ln_91, tn_92, ln_92, tn_93, ln_93, ob_94, tn_95, ln_95, tn_96, ln_96, tn_97, ln_97, tn_98, ln_98, tn_99, ln_99, tn_100, ln_100, tn_101, ln_101, tn_102, ln_102, tn_103, ln_103, ob_104, tn_105, ln_105, tn_106, ln_106, tn_107, ln_107, tn_108, ln_108, tn_109, ln_109, tn_110, ln_110, tn_111, ln_111, tn_112, ln_112, tn_113, ln_113, ob_114, tn_115, ln_115, tn_116, ln_116, tn_117, ln_117, tn_118, ln_118, tn_119, ln_119, tn_120, ln_120, tn_121, ln_121, tn_122, ln_122, tn_123, ln_123, ob_124, tn_125, ln_125, tn_126, ln_126, tn_127, ln_127, tn_128, ln_128, tn_129, ln_129, tn_130, ln_130, tn_131, ln_131, tn_132, ln_132, tn_133, ln_133, ob_134, tn_135, ln_135, tn_136, ln_136, tn_137, ln_137, tn_138, ln_138, tn_139, ln_139, tn_140, ln_140, tn_141, ln_141, tn_142, ln_142, tn_143, ln_143, ob_144, tn_145, ln_145, tn_146, ln_146, tn_147, ln_147, tn_148, ln_148, tn_149, ln_149, tn_150, ln_150, tn_151, ln_151, tn_152, ln_152, tn_153, ln_153, ob_154, tn_155, ln_155, tn_156, ln_156, tn_157, ln_157, tn_158, ln_158, tn_159, ln_159, tn_160, ln_160, tn_161, ln_161, tn_162, ln_162, tn_163, ln_163, ob_164, tn_165, ln_165, tn_166, ln_166, ob_167, tn_168, ln_168, tn_169, ln_169, tn_170, ln_170, tn_171, ln_171, tn_172, ln_172, tn_173, ln_173, tn_174, ln_174, tn_175, ln_175, tn_176, ln_176, ob_177, tn_178, ln_178, tn_179, ln_179, ob_180, tn_181, ln_181, tn_182, ln_182, tn_183, ln_183, tn_184, ln_184, tn_185, ln_185, tn_186, ln_186, tn_187, ln_187, tn_188, ln_188, tn_189, ln_189, tn_190, ln_190, tn_191, ln_191, tn_192, ln_192, tn_193, ln_193, tn_194, ln_194, tn_195, ln_195, tn_196, ln_196, tn_197, ln_197, tn_198, ln_198, tn_199, ln_199, tn_200, ln_200, tn_201, ln_201, tn_202, ln_202, tn_203, ln_203, tn_204, ln_204, tn_205, ln_205, tn_206, ln_206, tn_207, ln_207, tn_208, ln_208, tn_209, ln_209, tn_210, ln_210, tn_211, ln_211, tn_212, ln_212, tn_213, ln_213, tn_214, ln_214, tn_215, ln_215, tn_216, ln_216, tn_217, ln_217, tn_218, ln_218, tn_219, ln_219, tn_220, ln_220, tn_221, ln_221, tn_222, ln_222, tn_223, ln_223, tn_224, ln_224, tn_225, ln_225, tn_226, ln_226, tn_227, ln_227, tn_228, ln_228, tn_229, ln_229, tn_230, ln_230, lx2, lx3, lx4, lx5, lx6, lx7, lx8, lx9, lx10, lx14, lx15, lx16, lx18, lx20, lx24, lx25, lx27, lx32, lx36, lx40, lx41, lx42, lx43, lx45, lx48, lx52, lx54, lx56, lx57, lx58, lx60, lx61, lx62, lx63, lx64, lx66, lx69, lx73, lx80, lx81, lx84, lx85, lx87, lx94, lx96, lx97, lx120, lx128, lx135, lx160, lx162, lx163, lx165, lx200, lx232, lx242, lx243, lx255, lx256, lx320, lx325, lx400, lx405, lx464, lx512, lx600, lx640, lx752, lx900, lx940, lx1000, lx1024, lx1764, lx3360, lx3840, lx5000, lx6400, lx9050, lx9998, lx9999, lx10000, lx25600, lx76800, lx99999, isIn_U, bI_dt]
      refine ⟨fun t5 => ⟨fun t4 => an _ ?_, fun t4 => ?_⟩, fun t5 => ⟨by omega, an _ ?_⟩⟩
      · rw [anF_out (by omega) ht]
      · have t4 : t ≤ 4 := by omega
        have h3 := (h.2.1.2.2.2.2 k q).2.1
        simp (disch := omega) only [pk_mul, nI_add, nI_1, nI_leI, nI_ltI, nI_eq, n_in, n_cl, z_eq, z_lt, z_le, z_gt, z_ge, z_qe, o_eq, o_lt, o_le, o_gt, o_ge, vp0, vp1, cl0, cl1, n_sub, n_sub1, n_pm1, n_a0, n_0a, ofn, lN0, Nat.reduceLT, Nat.reduceLeDiff, Nat.reduceMul, Nat.reduceSub, Nat.reduceEqDiff, ne_eq, true_implies, false_implies, not_true_eq_false, not_false_eq_true, and_self, and_true, true_and, and_false, false_and, implies_true, if_true, if_false, i00, i10, i01, i11, ob_0, ob_1, tn_2, ln_2, ob_3, tn_4, ln_4, ob_5, tn_6, ln_6, tn_7, ln_7, ob_8, tn_9, ln_9, tn_10, ln_10, tn_11, ln_11, tn_12, ln_12, tn_13, ln_13, tn_14, ln_14, tn_15, ln_15, tn_16, ln_16, tn_17, ln_17, ob_18, tn_19, ln_19, tn_20, ln_20, tn_21, ln_21, tn_22, ln_22, tn_23, ln_23, tn_24, ln_24, tn_25, ln_25, tn_26, ln_26, tn_27, ln_27, ob_28, tn_29, ln_29, tn_30, ln_30, ob_31, tn_32, ln_32, tn_33, ln_33, ob_34, ob_35, tn_36, ln_36, tn_37, ln_37, tn_38, ln_38, ob_39, tn_40, ln_40, tn_41, ln_41, tn_42, ln_42, tn_43, ln_43, tn_44, ln_44, tn_45, ln_45, tn_46, ln_46, tn_47, ln_47, tn_48, ln_48, tn_49, ln_49, tn_50, ln_50, tn_51, ln_51, ob_52, tn_53, ln_53, tn_54, ln_54, tn_55, ln_55, tn_56, ln_56, ob_57, tn_58, ln_58, tn_59, ln_59, tn_60, ln_60, tn_61, ln_61, tn_62, ln_62, tn_63, ln_63, tn_64, ln_64, tn_65, ln_65, ob_66, tn_67, ln_67, tn_68, ln_68, tn_69, ln_69, tn_70, ln_70, tn_71, ln_71, tn_72, ln_72, tn_73, ln_73, ob_74, tn_75, ln_75, tn_76, ln_76, tn_77, ln_77, tn_78, ln_78, tn_79, ln_79, tn_80, ln_80, tn_81, ln_81, tn_82, ln_82, tn_83, ln_83, ob_84, tn_85, ln_85, tn_86, ln_86, tn_87, ln_87, tn_88, ln_88, tn_89, ln_89, tn_90, ln_90, tn_91, ln_91, tn_92, ln_92, tn_93, ln_93, ob_94, tn_95, ln_95, tn_96, ln_96, tn_97, ln_97, tn_98, ln_98, tn_99, ln_99, tn_100, ln_100, tn_101, ln_101, tn_102, ln_102, tn_103, ln_103, ob_104, tn_105, ln_105, tn_106, ln_106, tn_107, ln_107, tn_108, ln_108, tn_109, ln_109, tn_110, ln_110, tn_111, ln_111, tn_112, ln_112, tn_113, ln_113, ob_114, tn_115, ln_115, tn_116, ln_116, tn_117, ln_117, tn_118, ln_118, tn_119, ln_119, tn_120, ln_120, tn_121, ln_121, tn_122, ln_122, tn_123, ln_123, ob_124, tn_125, ln_125, tn_126, ln_126, tn_127, ln_127, tn_128, ln_128, tn_129, ln_129, tn_130, ln_130, tn_131, ln_131, tn_132, ln_132, tn_133, ln_133, ob_134, tn_135, ln_135, tn_136, ln_136, tn_137, ln_137, tn_138, ln_138, tn_139, ln_139, tn_140, ln_140, tn_141, ln_141, tn_142, ln_142, tn_143, ln_143, ob_144, tn_145, ln_145, tn_146, ln_146, tn_147, ln_147, tn_148, ln_148, tn_149, ln_149, tn_150, ln_150, tn_151, ln_151, tn_152, ln_152, tn_153, ln_153, ob_154, tn_155, ln_155, tn_156, ln_156, tn_157, ln_157, tn_158, ln_158, tn_159, ln_159, tn_160, ln_160, tn_161, ln_161, tn_162, ln_162, tn_163, ln_163, ob_164, tn_165, ln_165, tn_166, ln_166, ob_167, tn_168, ln_168, tn_169, ln_169, tn_170, ln_170, tn_171, ln_171, tn_172, ln_172, tn_173, ln_173, tn_174, ln_174, tn_175, ln_175, tn_176, ln_176, ob_177, tn_178, ln_178, tn_179, ln_179, ob_180, tn_181, ln_181, tn_182, ln_182, tn_183, ln_183, tn_184, ln_184, tn_185, ln_185, tn_186, ln_186, tn_187, ln_187, tn_188, ln_188, tn_189, ln_189, tn_190, ln_190, tn_191, ln_191, tn_192, ln_192, tn_193, ln_193, tn_194, ln_194, tn_195, ln_195, tn_196, ln_196, tn_197, ln_197, tn_198, ln_198, tn_199, ln_199, tn_200, ln_200, tn_201, ln_201, tn_202, ln_202, tn_203, ln_203, tn_204, ln_204, tn_205, ln_205, tn_206, ln_206, tn_207, ln_207, tn_208, ln_208, tn_209, ln_209, tn_210, ln_210, tn_211, ln_211, tn_212, ln_212, tn_213, ln_213, tn_214, ln_214, tn_215, ln_215, tn_216, ln_216, tn_217, ln_217, tn_218, ln_218, tn_219, ln_219, tn_220, ln_220, tn_221, ln_221, tn_222, ln_222, tn_223, ln_223, tn_224, ln_224, tn_225, ln_225, tn_226, ln_226, tn_227, ln_227, tn_228, ln_228, tn_229, ln_229, tn_230, ln_230, lx2, lx3, lx4, lx5, lx6, lx7, lx8, lx9, lx10, lx14, lx15, lx16, lx18, lx20, lx24, lx25, lx27, lx32, lx36, lx40, lx41, lx42, lx43, lx45, lx48, lx52, lx54, lx56, lx57, lx58, lx60, lx61, lx62, lx63, lx64, lx66, lx69, lx73, lx80, lx81, lx84, lx85, lx87, lx94, lx96, lx97, lx120, lx128, lx135, lx160, lx162, lx163, lx165, lx200, lx232, lx242, lx243, lx255, lx256, lx320, lx325, lx400, lx405, lx464, lx512, lx600, lx640, lx752, lx900, lx940, lx1000, lx1024, lx1764, lx3360, lx3840, lx5000, lx6400, lx9050, lx9998, lx9999, lx10000, lx25600, lx76800, lx99999]
        refine ⟨by omega, an _ ?_⟩
        rw [anF_in (by omega) ht]
        unfold rulN
        have ew := hB.1.2.2.2.2.1 k q
        rcases Nat.eq_zero_or_pos t with t0 | t0
        · subst t0; rw [if_pos rfl]; exact ew.1
        · by_cases t1 : t = 1
          · subst t1; rw [if_neg (by omega), if_pos rfl]; exact ew.2.1
          · rw [if_neg (by omega), if_neg t1, if_pos t4]
            have := ew.2.2 (t - 2) (by omega)
            rw [show 4 + 5 * k + 2 + (t - 2) = 4 + 5 * k + t by omega] at this
            exact this
      · subst t5
        rw [anF_in (by omega) ht, hi]; rfl
  · rw [anF_no (by omega) hno] at hP
    simp (disch := omega) only [k_X12_isRule_0, w_III, x_aload, x_cs3, x_iload, x_isub, x_push, x_zret, y_getF, y_iald, xFT, xbool0, xbool1, Nat.reduceAdd, Nat.zero_add, xgl_0, xgl_s, xgl_n, xst_0, xst_1n, xst_1i, xst_1r, xst_1l, xst_s, set_0, set_s, true_and, and_true, xres, xcat_nil, xcat_i, xcat_r, xcat_l, Nat.add_zero, xble0, xble1, xble2, xble3, xble4, xble5, xble6, xble7, xble8, k_X12_rule_0, k_X12_rule_53, w_III, w_R, w_RI, x_aload, x_cs3, x_iadd, x_icmp_ne, x_if_eq, x_if_ne, x_iload, x_imul, x_iret, x_push, y_cv0, y_cv1, y_getF, y_iald, xFT, xbool0, xbool1, Nat.reduceAdd, Nat.zero_add, xgl_0, xgl_s, xgl_n, xst_0, xst_1n, xst_1i, xst_1r, xst_1l, xst_s, set_0, set_s, true_and, and_true, xres, xcat_nil, xcat_i, xcat_r, xcat_l, Nat.add_zero, xble0, xble1, xble2, xble3, xble4, xble5, xble6, xble7, xble8, pk_mul, nI_add, nI_1, nI_leI, nI_ltI, nI_eq, n_in, n_cl, z_eq, z_lt, z_le, z_gt, z_ge, z_qe, o_eq, o_lt, o_le, o_gt, o_ge, vp0, vp1, cl0, cl1, n_sub, n_sub1, n_pm1, n_a0, n_0a, ofn, lN0, Nat.reduceLT, Nat.reduceLeDiff, Nat.reduceMul, Nat.reduceSub, Nat.reduceEqDiff, ne_eq, true_implies, false_implies, not_true_eq_false, not_false_eq_true, and_self, and_true, true_and, and_false, false_and, implies_true, if_true, if_false, i00, i10, i01, i11, ob_0, ob_1, tn_2, ln_2, ob_3, tn_4, ln_4, ob_5, tn_6, ln_6, tn_7, ln_7, ob_8, tn_9, ln_9, tn_10, ln_10, tn_11, ln_11, tn_12, ln_12, tn_13, ln_13, tn_14, ln_14, tn_15, ln_15, tn_16, ln_16, tn_17, ln_17, ob_18, tn_19, ln_19, tn_20, ln_20, tn_21, ln_21, tn_22, ln_22, tn_23, ln_23, tn_24, ln_24, tn_25, ln_25, tn_26, ln_26, tn_27, ln_27, ob_28, tn_29, ln_29, tn_30, ln_30, ob_31, tn_32, ln_32, tn_33, ln_33, ob_34, ob_35, tn_36, ln_36, tn_37, ln_37, tn_38, ln_38, ob_39, tn_40, ln_40, tn_41, ln_41, tn_42, ln_42, tn_43, ln_43, tn_44, ln_44, tn_45, ln_45, tn_46, ln_46, tn_47, ln_47, tn_48, ln_48, tn_49, ln_49, tn_50, ln_50, tn_51, ln_51, ob_52, tn_53, ln_53, tn_54, ln_54, tn_55, ln_55, tn_56, ln_56, ob_57, tn_58, ln_58, tn_59, ln_59, tn_60, ln_60, tn_61, ln_61, tn_62, ln_62, tn_63, ln_63, tn_64, ln_64, tn_65, ln_65, ob_66, tn_67, ln_67, tn_68, ln_68, tn_69, ln_69, tn_70, ln_70, tn_71, ln_71, tn_72, ln_72, tn_73, ln_73, ob_74, tn_75, ln_75, tn_76, ln_76, tn_77, ln_77, tn_78, ln_78, tn_79, ln_79, tn_80, ln_80, tn_81, ln_81, tn_82, ln_82, tn_83, ln_83, ob_84, tn_85, ln_85, tn_86, ln_86, tn_87, ln_87, tn_88, ln_88, tn_89, ln_89, tn_90, ln_90, tn_91, ln_91, tn_92, ln_92, tn_93, ln_93, ob_94, tn_95, ln_95, tn_96, ln_96, tn_97, ln_97, tn_98, ln_98, tn_99, ln_99, tn_100, ln_100, tn_101, ln_101, tn_102, ln_102, tn_103, ln_103, ob_104, tn_105, ln_105, tn_106, ln_106, tn_107, ln_107, tn_108, ln_108, tn_109, ln_109, tn_110, ln_110, tn_111, ln_111, tn_112, ln_112, tn_113, ln_113, ob_114, tn_115, ln_115, tn_116, ln_116, tn_117, ln_117, tn_118, ln_118, tn_119, ln_119, tn_120, ln_120, tn_121, ln_121, tn_122, ln_122, tn_123, ln_123, ob_124, tn_125, ln_125, tn_126, ln_126, tn_127, ln_127, tn_128, ln_128, tn_129, ln_129, tn_130, ln_130, tn_131, ln_131, tn_132, ln_132, tn_133, ln_133, ob_134, tn_135, ln_135, tn_136, ln_136, tn_137, ln_137, tn_138, ln_138, tn_139, ln_139, tn_140, ln_140, tn_141, ln_141, tn_142, ln_142, tn_143, ln_143, ob_144, tn_145, ln_145, tn_146, ln_146, tn_147, ln_147, tn_148, ln_148, tn_149, ln_149, tn_150, ln_150, tn_151, ln_151, tn_152, ln_152, tn_153, ln_153, ob_154, tn_155, ln_155, tn_156, ln_156, tn_157, ln_157, tn_158, ln_158, tn_159, ln_159, tn_160, ln_160, tn_161, ln_161, tn_162, ln_162, tn_163, ln_163, ob_164, tn_165, ln_165, tn_166, ln_166, ob_167, tn_168, ln_168, tn_169, ln_169, tn_170, ln_170, tn_171, ln_171, tn_172, ln_172, tn_173, ln_173, tn_174, ln_174, tn_175, ln_175, tn_176, ln_176, ob_177, tn_178, ln_178, tn_179, ln_179, ob_180, tn_181, ln_181, tn_182, ln_182, tn_183, ln_183, tn_184, ln_184, tn_185, ln_185, tn_186, ln_186, tn_187, ln_187, tn_188, ln_188, tn_189, ln_189, tn_190, ln_190, tn_191, ln_191, tn_192, ln_192, tn_193, ln_193, tn_194, ln_194, tn_195, ln_195, tn_196, ln_196, tn_197, ln_197, tn_198, ln_198, tn_199, ln_199, tn_200, ln_200, tn_201, ln_201, tn_202, ln_202, tn_203, ln_203, tn_204, ln_204, tn_205, ln_205, tn_206, ln_206, tn_207, ln_207, tn_208, ln_208, tn_209, ln_209, tn_210, ln_210, tn_211, ln_211, tn_212, ln_212, tn_213, ln_213, tn_214, ln_214, tn_215, ln_215, tn_216, ln_216, tn_217, ln_217, tn_218, ln_218, tn_219, ln_219, tn_220, ln_220, tn_221, ln_221, tn_222, ln_222, tn_223, ln_223, tn_224, ln_224, tn_225, ln_225, tn_226, ln_226, tn_227, ln_227, tn_228, ln_228, tn_229, ln_229, tn_230, ln_230, lx2, lx3, lx4, lx5, lx6, lx7, lx8, lx9, lx10, lx14, lx15, lx16, lx18, lx20, lx24, lx25, lx27, lx32, lx36, lx40, lx41, lx42, lx43, lx45, lx48, lx52, lx54, lx56, lx57, lx58, lx60, lx61, lx62, lx63, lx64, lx66, lx69, lx73, lx80, lx81, lx84, lx85, lx87, lx94, lx96, lx97, lx120, lx128, lx135, lx160, lx162, lx163, lx165, lx200, lx232, lx242, lx243, lx255, lx256, lx320, lx325, lx400, lx405, lx464, lx512, lx600, lx640, lx752, lx900, lx940, lx1000, lx1024, lx1764, lx3360, lx3840, lx5000, lx6400, lx9050, lx9998, lx9999, lx10000, lx25600, lx76800, lx99999]
    exact hP A fr_rf h

