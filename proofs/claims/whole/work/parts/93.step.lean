/-! ===== the class's steps, as sets ===== -/
theorem d_X7_addStep_0 : decode cX7_addStep 0 = .ok (.aload_n 0, 1) := by decide +kernel
theorem d_X7_addStep_1 : decode cX7_addStep 1 = .ok (.getfield 18, 3) := by decide +kernel
theorem d_X7_addStep_4 : decode cX7_addStep 4 = .ok (.iload_n 1, 1) := by decide +kernel
theorem d_X7_addStep_5 : decode cX7_addStep 5 = .ok (.bipush 24, 2) := by decide +kernel
theorem d_X7_addStep_7 : decode cX7_addStep 7 = .ok (.imul, 1) := by decide +kernel
theorem d_X7_addStep_8 : decode cX7_addStep 8 = .ok (.iload_n 2, 1) := by decide +kernel
theorem d_X7_addStep_9 : decode cX7_addStep 9 = .ok (.iadd, 1) := by decide +kernel
theorem d_X7_addStep_10 : decode cX7_addStep 10 = .ok (.iconst 2, 1) := by decide +kernel
theorem d_X7_addStep_11 : decode cX7_addStep 11 = .ok (.imul, 1) := by decide +kernel
theorem d_X7_addStep_12 : decode cX7_addStep 12 = .ok (.iload_n 3, 1) := by decide +kernel
theorem d_X7_addStep_13 : decode cX7_addStep 13 = .ok (.bipush 6, 2) := by decide +kernel
theorem d_X7_addStep_15 : decode cX7_addStep 15 = .ok (.ishr, 1) := by decide +kernel
theorem d_X7_addStep_16 : decode cX7_addStep 16 = .ok (.iadd, 1) := by decide +kernel
theorem d_X7_addStep_17 : decode cX7_addStep 17 = .ok (.dup2, 1) := by decide +kernel
theorem d_X7_addStep_18 : decode cX7_addStep 18 = .ok (.laload, 1) := by decide +kernel
theorem d_X7_addStep_19 : decode cX7_addStep 19 = .ok (.lconst 1, 1) := by decide +kernel
theorem d_X7_addStep_20 : decode cX7_addStep 20 = .ok (.iload_n 3, 1) := by decide +kernel
theorem d_X7_addStep_21 : decode cX7_addStep 21 = .ok (.bipush 63, 2) := by decide +kernel
theorem d_X7_addStep_23 : decode cX7_addStep 23 = .ok (.iand, 1) := by decide +kernel
theorem d_X7_addStep_24 : decode cX7_addStep 24 = .ok (.lshl, 1) := by decide +kernel
theorem d_X7_addStep_25 : decode cX7_addStep 25 = .ok (.lor, 1) := by decide +kernel
theorem d_X7_addStep_26 : decode cX7_addStep 26 = .ok (.lastore, 1) := by decide +kernel
theorem d_X7_addStep_27 : decode cX7_addStep 27 = .ok (.aload_n 0, 1) := by decide +kernel
theorem d_X7_addStep_28 : decode cX7_addStep 28 = .ok (.getfield 22, 3) := by decide +kernel
theorem d_X7_addStep_31 : decode cX7_addStep 31 = .ok (.iload_n 3, 1) := by decide +kernel
theorem d_X7_addStep_32 : decode cX7_addStep 32 = .ok (.iconst 5, 1) := by decide +kernel
theorem d_X7_addStep_33 : decode cX7_addStep 33 = .ok (.imul, 1) := by decide +kernel
theorem d_X7_addStep_34 : decode cX7_addStep 34 = .ok (.iload_n 2, 1) := by decide +kernel
theorem d_X7_addStep_35 : decode cX7_addStep 35 = .ok (.iconst 4, 1) := by decide +kernel
theorem d_X7_addStep_36 : decode cX7_addStep 36 = .ok (.if_icmp .ge 7, 3) := by decide +kernel
theorem d_X7_addStep_39 : decode cX7_addStep 39 = .ok (.iload_n 2, 1) := by decide +kernel
theorem d_X7_addStep_40 : decode cX7_addStep 40 = .ok (.goto 4, 3) := by decide +kernel
theorem d_X7_addStep_43 : decode cX7_addStep 43 = .ok (.iconst 4, 1) := by decide +kernel
theorem d_X7_addStep_44 : decode cX7_addStep 44 = .ok (.iadd, 1) := by decide +kernel
theorem d_X7_addStep_45 : decode cX7_addStep 45 = .ok (.iconst 2, 1) := by decide +kernel
theorem d_X7_addStep_46 : decode cX7_addStep 46 = .ok (.imul, 1) := by decide +kernel
theorem d_X7_addStep_47 : decode cX7_addStep 47 = .ok (.iload_n 1, 1) := by decide +kernel
theorem d_X7_addStep_48 : decode cX7_addStep 48 = .ok (.bipush 6, 2) := by decide +kernel
theorem d_X7_addStep_50 : decode cX7_addStep 50 = .ok (.ishr, 1) := by decide +kernel
theorem d_X7_addStep_51 : decode cX7_addStep 51 = .ok (.iadd, 1) := by decide +kernel
theorem d_X7_addStep_52 : decode cX7_addStep 52 = .ok (.dup2, 1) := by decide +kernel
theorem d_X7_addStep_53 : decode cX7_addStep 53 = .ok (.laload, 1) := by decide +kernel
theorem d_X7_addStep_54 : decode cX7_addStep 54 = .ok (.lconst 1, 1) := by decide +kernel
theorem d_X7_addStep_55 : decode cX7_addStep 55 = .ok (.iload_n 1, 1) := by decide +kernel
theorem d_X7_addStep_56 : decode cX7_addStep 56 = .ok (.bipush 63, 2) := by decide +kernel
theorem d_X7_addStep_58 : decode cX7_addStep 58 = .ok (.iand, 1) := by decide +kernel
theorem d_X7_addStep_59 : decode cX7_addStep 59 = .ok (.lshl, 1) := by decide +kernel
theorem d_X7_addStep_60 : decode cX7_addStep 60 = .ok (.lor, 1) := by decide +kernel
theorem d_X7_addStep_61 : decode cX7_addStep 61 = .ok (.lastore, 1) := by decide +kernel
theorem d_X7_addStep_62 : decode cX7_addStep 62 = .ok (.return_, 1) := by decide +kernel
def k_X7_addStep_44 (P : xP) : xK := x_iadd (x_push (.int 2) (x_imul (x_iload 1 (x_push (.int 6) (x_ishr (x_iadd (x_dup2 (x_lald xN (x_push (.long 1) (x_iload 1 (x_push (.int 63) (x_iand (x_lshl (x_lor (x_last xN (x_vret P))))))))))))))))
set_option maxRecDepth 20000 in
theorem t_X7_addStep_44 {p : Program} {l : Launch} {e : Env} {s : State} {m : MethodId} {args : Array Value} {below : List Frame} {meth : Method} {c : Code} {g : xG} (X : xX p s m args c meth cX7_addStep RX7 4 g) (hr : meth.sig.returnType = none) {P : xP} : xAt p l e { frames := 0, cells := 0, slots := 0, locals := 0 } s m args below meth c g 4 xFT xN 0 0 (MQ below (xQc g xFT xN P) args s 0 0 (xFr g)) (k_X7_addStep_44 P) 44 := by
  unfold k_X7_addStep_44
  refine r_iadd (pc := 44) X d_X7_addStep_44 ?_
  refine r_iconst (pc := 45) X d_X7_addStep_45 (by decide +kernel) ?_
  refine r_imul (pc := 46) X d_X7_addStep_46 ?_
  refine r_iload_n (pc := 47) X d_X7_addStep_47 fn1 ?_
  refine r_bipush (pc := 48) X d_X7_addStep_48 (by decide +kernel) ?_
  refine r_ishr (pc := 50) X d_X7_addStep_50 ?_
  refine r_iadd (pc := 51) X d_X7_addStep_51 ?_
  refine r_dup2 (pc := 52) X d_X7_addStep_52 ?_
  refine r_lald (pc := 53) X d_X7_addStep_53 ?_
  refine r_lconst (pc := 54) X d_X7_addStep_54 (by decide +kernel) ?_
  refine r_iload_n (pc := 55) X d_X7_addStep_55 fn1 ?_
  refine r_bipush (pc := 56) X d_X7_addStep_56 (by decide +kernel) ?_
  refine r_iand (pc := 58) X d_X7_addStep_58 ?_
  refine r_lshl (pc := 59) X d_X7_addStep_59 ?_
  refine r_lor (pc := 60) X d_X7_addStep_60 ?_
  refine r_last (pc := 61) X d_X7_addStep_61 ?_
  exact r_vret (pc := 62) X hr d_X7_addStep_62
def k_X7_addStep_0 (P : xP) : xK := x_aload 0 (y_getF 39 42 (x_iload 1 (x_push (.int 24) (x_imul (x_iload 2 (x_iadd (x_push (.int 2) (x_imul (x_iload 3 (x_push (.int 6) (x_ishr (x_iadd (x_dup2 (y_lald 42 3840 (x_push (.long 1) (x_iload 3 (x_push (.int 63) (x_iand (x_lshl (x_lor (y_last 42 3840 (x_aload 0 (y_getF 39 43 (x_iload 3 (x_push (.int 5) (x_imul (x_iload 2 (x_push (.int 4) (x_icmp_ge (x_push (.int 4) ((k_X7_addStep_44 P))) (x_iload 2 ((k_X7_addStep_44 P))))))))))))))))))))))))))))))))
set_option maxRecDepth 20000 in
theorem t_X7_addStep_0 {p : Program} {l : Launch} {e : Env} {s : State} {m : MethodId} {args : Array Value} {below : List Frame} {meth : Method} {c : Code} {g : xG} (X : xX p s m args c meth cX7_addStep RX7 4 g) (hr : meth.sig.returnType = none) {P : xP} : xAt p l e { frames := 0, cells := 0, slots := 0, locals := 0 } s m args below meth c g 4 xFT xN 0 0 (MQ below (xQc g xFT xN P) args s 0 0 (xFr g)) (k_X7_addStep_0 P) 0 := by
  unfold k_X7_addStep_0
  refine r_aload_n (pc := 0) X d_X7_addStep_0 fn0 ?_
  refine s_getF (pc := 1) (ci := 7) (k := 5) X xok7 (by decide +kernel) ob_39 trivial ly_39_5 (by decide +kernel) fl_RX7_18 d_X7_addStep_1 ?_
  refine r_iload_n (pc := 4) X d_X7_addStep_4 fn1 ?_
  refine r_bipush (pc := 5) X d_X7_addStep_5 (by decide +kernel) ?_
  refine r_imul (pc := 7) X d_X7_addStep_7 ?_
  refine r_iload_n (pc := 8) X d_X7_addStep_8 fn2 ?_
  refine r_iadd (pc := 9) X d_X7_addStep_9 ?_
  refine r_iconst (pc := 10) X d_X7_addStep_10 (by decide +kernel) ?_
  refine r_imul (pc := 11) X d_X7_addStep_11 ?_
  refine r_iload_n (pc := 12) X d_X7_addStep_12 fn3 ?_
  refine r_bipush (pc := 13) X d_X7_addStep_13 (by decide +kernel) ?_
  refine r_ishr (pc := 15) X d_X7_addStep_15 ?_
  refine r_iadd (pc := 16) X d_X7_addStep_16 ?_
  refine r_dup2 (pc := 17) X d_X7_addStep_17 ?_
  refine s_lald (pc := 18) X tn_42 ln_42 d_X7_addStep_18 ?_
  refine r_lconst (pc := 19) X d_X7_addStep_19 (by decide +kernel) ?_
  refine r_iload_n (pc := 20) X d_X7_addStep_20 fn3 ?_
  refine r_bipush (pc := 21) X d_X7_addStep_21 (by decide +kernel) ?_
  refine r_iand (pc := 23) X d_X7_addStep_23 ?_
  refine r_lshl (pc := 24) X d_X7_addStep_24 ?_
  refine r_lor (pc := 25) X d_X7_addStep_25 ?_
  refine s_last (pc := 26) X tn_42 ln_42 d_X7_addStep_26 ?_
  refine r_aload_n (pc := 27) X d_X7_addStep_27 fn0 ?_
  refine s_getF (pc := 28) (ci := 7) (k := 6) X xok7 (by decide +kernel) ob_39 trivial ly_39_6 (by decide +kernel) fl_RX7_22 d_X7_addStep_28 ?_
  refine r_iload_n (pc := 31) X d_X7_addStep_31 fn3 ?_
  refine r_iconst (pc := 32) X d_X7_addStep_32 (by decide +kernel) ?_
  refine r_imul (pc := 33) X d_X7_addStep_33 ?_
  refine r_iload_n (pc := 34) X d_X7_addStep_34 fn2 ?_
  refine r_iconst (pc := 35) X d_X7_addStep_35 (by decide +kernel) ?_
  refine r_icmp_ge (pc := 36) (tgt := 43) X d_X7_addStep_36 (by decide +kernel) ?_ ?_
  · refine r_iconst (pc := 43) X d_X7_addStep_43 (by decide +kernel) ?_
    exact t_X7_addStep_44 X hr
  · refine r_iload_n (pc := 39) X d_X7_addStep_39 fn2 ?_
    refine r_goto (pc := 40) (tgt := 44) X d_X7_addStep_40 (by decide +kernel) ?_
    exact t_X7_addStep_44 X hr
def f_X7_addStep (a0 : Nat) (a1 : Int32) (a2 : Int32) (a3 : Int32) (A : xH) (P : xP) : Prop := k_X7_addStep_0 P [some (.ref a0), some (.int a1), some (.int a2), some (.int a3)] [] A
set_option maxRecDepth 20000 in
theorem con_X7_addStep (l : Launch) : xCon l yX7_addStep cX7_addStep 4 none 0 0 xN xN 0 xFT xFT (w_RIII f_X7_addStep) :=
  xc_RIII (plainFor_of_name pn_RX7) (by decide +kernel) (fun p e s m args below meth c g a0 a1 a2 a3 A P h X hr _ => ⟨_, h, t_X7_addStep_0 X hr⟩)
theorem d_X7_placeOf_0 : decode cX7_placeOf 0 = .ok (.iload_n 2, 1) := by decide +kernel
theorem d_X7_placeOf_1 : decode cX7_placeOf 1 = .ok (.ifCond .lt 20, 3) := by decide +kernel
theorem d_X7_placeOf_4 : decode cX7_placeOf 4 = .ok (.iload_n 2, 1) := by decide +kernel
theorem d_X7_placeOf_5 : decode cX7_placeOf 5 = .ok (.aload_n 1, 1) := by decide +kernel
theorem d_X7_placeOf_6 : decode cX7_placeOf 6 = .ok (.getfield 82, 3) := by decide +kernel
theorem d_X7_placeOf_9 : decode cX7_placeOf 9 = .ok (.if_icmp .ge 12, 3) := by decide +kernel
theorem d_X7_placeOf_12 : decode cX7_placeOf 12 = .ok (.aload_n 1, 1) := by decide +kernel
theorem d_X7_placeOf_13 : decode cX7_placeOf 13 = .ok (.getfield 87, 3) := by decide +kernel
theorem d_X7_placeOf_16 : decode cX7_placeOf 16 = .ok (.iload_n 2, 1) := by decide +kernel
theorem d_X7_placeOf_17 : decode cX7_placeOf 17 = .ok (.iaload, 1) := by decide +kernel
theorem d_X7_placeOf_18 : decode cX7_placeOf 18 = .ok (.goto 4, 3) := by decide +kernel
theorem d_X7_placeOf_21 : decode cX7_placeOf 21 = .ok (.iconst 0, 1) := by decide +kernel
theorem d_X7_placeOf_22 : decode cX7_placeOf 22 = .ok (.istore 4, 2) := by decide +kernel
theorem d_X7_placeOf_24 : decode cX7_placeOf 24 = .ok (.aload_n 0, 1) := by decide +kernel
theorem d_X7_placeOf_25 : decode cX7_placeOf 25 = .ok (.getfield 35, 3) := by decide +kernel
theorem d_X7_placeOf_28 : decode cX7_placeOf 28 = .ok (.iload 4, 2) := by decide +kernel
theorem d_X7_placeOf_30 : decode cX7_placeOf 30 = .ok (.bipush 42, 2) := by decide +kernel
theorem d_X7_placeOf_32 : decode cX7_placeOf 32 = .ok (.imul, 1) := by decide +kernel
theorem d_X7_placeOf_33 : decode cX7_placeOf 33 = .ok (.aload_n 1, 1) := by decide +kernel
theorem d_X7_placeOf_34 : decode cX7_placeOf 34 = .ok (.getfield 100, 3) := by decide +kernel
theorem d_X7_placeOf_37 : decode cX7_placeOf 37 = .ok (.iconst 1, 1) := by decide +kernel
theorem d_X7_placeOf_38 : decode cX7_placeOf 38 = .ok (.if_icmp .ne 11, 3) := by decide +kernel
theorem d_X7_placeOf_41 : decode cX7_placeOf 41 = .ok (.iload_n 3, 1) := by decide +kernel
theorem d_X7_placeOf_42 : decode cX7_placeOf 42 = .ok (.ifCond .lt 7, 3) := by decide +kernel
theorem d_X7_placeOf_45 : decode cX7_placeOf 45 = .ok (.iload_n 3, 1) := by decide +kernel
theorem d_X7_placeOf_46 : decode cX7_placeOf 46 = .ok (.goto 4, 3) := by decide +kernel
theorem d_X7_placeOf_49 : decode cX7_placeOf 49 = .ok (.iconst 0, 1) := by decide +kernel
theorem d_X7_placeOf_50 : decode cX7_placeOf 50 = .ok (.iadd, 1) := by decide +kernel
theorem d_X7_placeOf_51 : decode cX7_placeOf 51 = .ok (.iaload, 1) := by decide +kernel
theorem d_X7_placeOf_52 : decode cX7_placeOf 52 = .ok (.ireturn, 1) := by decide +kernel
def k_X7_placeOf_50 (P : xP) : xK := x_iadd (x_iald xN (x_iret P))
set_option maxRecDepth 20000 in
theorem t_X7_placeOf_50 {p : Program} {l : Launch} {e : Env} {s : State} {m : MethodId} {args : Array Value} {below : List Frame} {meth : Method} {c : Code} {g : xG} (X : xX p s m args c meth cX7_placeOf RX7 5 g) (hr : meth.sig.returnType = (some .int)) {P : xP} : xAt p l e { frames := 0, cells := 0, slots := 0, locals := 0 } s m args below meth c g 5 xFT xN 0 0 (MQ below (xQc g xFT xN P) args s 0 0 (xFr g)) (k_X7_placeOf_50 P) 50 := by
  unfold k_X7_placeOf_50
  refine r_iadd (pc := 50) X d_X7_placeOf_50 ?_
  refine r_iald (pc := 51) X d_X7_placeOf_51 ?_
  exact r_iret (pc := 52) X hr d_X7_placeOf_52
def k_X7_placeOf_49 (P : xP) : xK := x_push (.int 0) ((k_X7_placeOf_50 P))
set_option maxRecDepth 20000 in
theorem t_X7_placeOf_49 {p : Program} {l : Launch} {e : Env} {s : State} {m : MethodId} {args : Array Value} {below : List Frame} {meth : Method} {c : Code} {g : xG} (X : xX p s m args c meth cX7_placeOf RX7 5 g) (hr : meth.sig.returnType = (some .int)) {P : xP} : xAt p l e { frames := 0, cells := 0, slots := 0, locals := 0 } s m args below meth c g 5 xFT xN 0 0 (MQ below (xQc g xFT xN P) args s 0 0 (xFr g)) (k_X7_placeOf_49 P) 49 := by
  unfold k_X7_placeOf_49
  refine r_iconst (pc := 49) X d_X7_placeOf_49 (by decide +kernel) ?_
  exact t_X7_placeOf_50 X hr
def k_X7_placeOf_22 (P : xP) : xK := x_istore 4 (x_aload 0 (y_getF 39 47 (x_iload 4 (x_push (.int 42) (x_imul (x_aload 1 (x_getI xN 4 4 (x_push (.int 1) (x_icmp_ne ((k_X7_placeOf_49 P)) (x_iload 3 (x_if_lt ((k_X7_placeOf_49 P)) (x_iload 3 ((k_X7_placeOf_50 P))))))))))))))
set_option maxRecDepth 20000 in
theorem t_X7_placeOf_22 {p : Program} {l : Launch} {e : Env} {s : State} {m : MethodId} {args : Array Value} {below : List Frame} {meth : Method} {c : Code} {g : xG} (X : xX p s m args c meth cX7_placeOf RX7 5 g) (hr : meth.sig.returnType = (some .int)) {P : xP} : xAt p l e { frames := 0, cells := 0, slots := 0, locals := 0 } s m args below meth c g 5 xFT xN 0 0 (MQ below (xQc g xFT xN P) args s 0 0 (xFr g)) (k_X7_placeOf_22 P) 22 := by
  unfold k_X7_placeOf_22
  refine r_istore (pc := 22) X d_X7_placeOf_22 (by decide +kernel) ?_
  refine r_aload_n (pc := 24) X d_X7_placeOf_24 fn0 ?_
  refine s_getF (pc := 25) (ci := 7) (k := 10) X xok7 (by decide +kernel) ob_39 trivial ly_39_10 (by decide +kernel) fl_RX7_35 d_X7_placeOf_25 ?_
  refine r_iload (pc := 28) X d_X7_placeOf_28 ?_
  refine r_bipush (pc := 30) X d_X7_placeOf_30 (by decide +kernel) ?_
  refine r_imul (pc := 32) X d_X7_placeOf_32 ?_
  refine r_aload_n (pc := 33) X d_X7_placeOf_33 fn1 ?_
  refine r_getI (pc := 34) X xok4 (by decide +kernel) (by decide +kernel) fl_RX7_100 d_X7_placeOf_34 ?_
  refine r_iconst (pc := 37) X d_X7_placeOf_37 (by decide +kernel) ?_
  refine r_icmp_ne (pc := 38) (tgt := 49) X d_X7_placeOf_38 (by decide +kernel) ?_ ?_
  · exact t_X7_placeOf_49 X hr
  · refine r_iload_n (pc := 41) X d_X7_placeOf_41 fn3 ?_
    refine r_if_lt (pc := 42) (tgt := 49) X d_X7_placeOf_42 (by decide +kernel) ?_ ?_
    · exact t_X7_placeOf_49 X hr
    · refine r_iload_n (pc := 45) X d_X7_placeOf_45 fn3 ?_
      refine r_goto (pc := 46) (tgt := 50) X d_X7_placeOf_46 (by decide +kernel) ?_
      exact t_X7_placeOf_50 X hr
def k_X7_placeOf_21 (P : xP) : xK := x_push (.int 0) ((k_X7_placeOf_22 P))
set_option maxRecDepth 20000 in
theorem t_X7_placeOf_21 {p : Program} {l : Launch} {e : Env} {s : State} {m : MethodId} {args : Array Value} {below : List Frame} {meth : Method} {c : Code} {g : xG} (X : xX p s m args c meth cX7_placeOf RX7 5 g) (hr : meth.sig.returnType = (some .int)) {P : xP} : xAt p l e { frames := 0, cells := 0, slots := 0, locals := 0 } s m args below meth c g 5 xFT xN 0 0 (MQ below (xQc g xFT xN P) args s 0 0 (xFr g)) (k_X7_placeOf_21 P) 21 := by
  unfold k_X7_placeOf_21
  refine r_iconst (pc := 21) X d_X7_placeOf_21 (by decide +kernel) ?_
  exact t_X7_placeOf_22 X hr
def k_X7_placeOf_0 (P : xP) : xK := x_iload 2 (x_if_lt ((k_X7_placeOf_21 P)) (x_iload 2 (x_aload 1 (x_getI xN 4 3 (x_icmp_ge ((k_X7_placeOf_21 P)) (x_aload 1 (x_getF xN xFT 4 13 (x_iload 2 (x_iald xN ((k_X7_placeOf_22 P)))))))))))
set_option maxRecDepth 20000 in
theorem t_X7_placeOf_0 {p : Program} {l : Launch} {e : Env} {s : State} {m : MethodId} {args : Array Value} {below : List Frame} {meth : Method} {c : Code} {g : xG} (X : xX p s m args c meth cX7_placeOf RX7 5 g) (hr : meth.sig.returnType = (some .int)) {P : xP} : xAt p l e { frames := 0, cells := 0, slots := 0, locals := 0 } s m args below meth c g 5 xFT xN 0 0 (MQ below (xQc g xFT xN P) args s 0 0 (xFr g)) (k_X7_placeOf_0 P) 0 := by
  unfold k_X7_placeOf_0
  refine r_iload_n (pc := 0) X d_X7_placeOf_0 fn2 ?_
  refine r_if_lt (pc := 1) (tgt := 21) X d_X7_placeOf_1 (by decide +kernel) ?_ ?_
  · exact t_X7_placeOf_21 X hr
  · refine r_iload_n (pc := 4) X d_X7_placeOf_4 fn2 ?_
    refine r_aload_n (pc := 5) X d_X7_placeOf_5 fn1 ?_
    refine r_getI (pc := 6) X xok4 (by decide +kernel) (by decide +kernel) fl_RX7_82 d_X7_placeOf_6 ?_
    refine r_icmp_ge (pc := 9) (tgt := 21) X d_X7_placeOf_9 (by decide +kernel) ?_ ?_
    · exact t_X7_placeOf_21 X hr
    · refine r_aload_n (pc := 12) X d_X7_placeOf_12 fn1 ?_
      refine r_getF (pc := 13) X xok4 (by decide +kernel) (by decide +kernel) fl_RX7_87 d_X7_placeOf_13 ?_
      refine r_iload_n (pc := 16) X d_X7_placeOf_16 fn2 ?_
      refine r_iald (pc := 17) X d_X7_placeOf_17 ?_
      refine r_goto (pc := 18) (tgt := 22) X d_X7_placeOf_18 (by decide +kernel) ?_
      exact t_X7_placeOf_22 X hr
def f_X7_placeOf (a0 : Nat) (a1 : Nat) (a2 : Int32) (a3 : Int32) (A : xH) (P : xP) : Prop := k_X7_placeOf_0 P [some (.ref a0), some (.ref a1), some (.int a2), some (.int a3), none] [] A
set_option maxRecDepth 20000 in
theorem con_X7_placeOf (l : Launch) : xCon l yX7_placeOf cX7_placeOf 5 (some .int) 0 0 xN xN 0 xFT xFT (w_RRII f_X7_placeOf) :=
  xc_RRII (plainFor_of_name pn_RX7) (by decide +kernel) (fun p e s m args below meth c g a0 a1 a2 a3 A P h X hr _ => ⟨_, h, t_X7_placeOf_0 X hr⟩)
def uS5 (s : Nat) : Nat := if s < 4 then s else 4
theorem uS5_lt {s : Nat} (h : s < 24) : uS5 s < 5 := by unfold uS5; split <;> omega
/-- the sets hold a relation on the first n places -/
def isST (A : xH) (n : Nat) (T : Nat → Nat → Nat → Prop) : Prop := (∀ p s q, p < n → s < 24 → q < 128 → (tl (xl A 42 ((p * 24 + s) * 2 + q / 64)) (q % 64) = true ↔ T p s q)) ∧ ∀ q u p, q < n → u < 5 → p < 128 → (tl (xl A 43 ((q * 5 + u) * 2 + p / 64)) (p % 64) = true ↔ ∃ s, s < 24 ∧ uS5 s = u ∧ T p s q)
theorem isST_congr {A : xH} {n : Nat} {T U : Nat → Nat → Nat → Prop} (h : isST A n T) (e : ∀ p s q, T p s q ↔ U p s q) : isST A n U := by
  refine ⟨fun p s q a b c => (h.1 p s q a b c).trans (e _ _ _), fun q u p a b c => (h.2 q u p a b c).trans ?_⟩
  constructor
  · rintro ⟨s, x, y, z⟩; exact ⟨s, x, y, (e _ _ _).mp z⟩
  · rintro ⟨s, x, y, z⟩; exact ⟨s, x, y, (e _ _ _).mpr z⟩
theorem isST_fr {S : Nat → Nat → Prop} {A B : xH} {n : Nat} {T : Nat → Nat → Nat → Prop} (h : isST A n T) (hf : fr S A B) (hs : ∀ c k, S c k → c ≠ 42 ∧ c ≠ 43) : isST B n T := by
  refine ⟨fun p s q a b c => ?_, fun q u p a b c => ?_⟩
  · rw [fr_l hf fun z => (hs _ _ z).1 rfl]; exact h.1 p s q a b c
  · rw [fr_l hf fun z => (hs _ _ z).2 rfl]; exact h.2 q u p a b c
theorem shr6 {q : Nat} (h : q < 2 ^ 31) : nI q >>> (nI 6 &&& 31) = nI (q / 64) := by
  rw [pk_shrN h _ 6 (by decide +kernel)]
theorem and63 {q : Nat} (h : q < 2 ^ 31) : nI q &&& nI 63 = nI (q % 64) := by
  rw [pk_andN (by omega) 6 (by decide +kernel)]
def SSp (c k : Nat) : Prop := (c = 42 ∨ c = 43) ∧ 0 ≤ k
theorem addStep_C {A : xH} {P : xP} {n p s q : Nat} {T : Nat → Nat → Nat → Prop} (h : isST A n T) (hn : n ≤ 80) (hp : p < n) (hs : s < 24) (hq : q < n) (hP : ∀ B, fr SSp A B → isST B n (fun a b c => T a b c ∨ (a = p ∧ b = s ∧ c = q)) → P none B) : f_X7_addStep 39 (nI p) (nI s) (nI q) A P := by
  unfold f_X7_addStep
  simp (disch := omega) only [k_X7_addStep_0, x_aload, x_dup2, x_iadd, x_iand, x_icmp_ge, x_iload, x_imul, x_ishr, x_lald, x_last, x_lor, x_lshl, x_push, x_vret, y_getF, y_lald, y_last, xFT, xbool0, xbool1, Nat.reduceAdd, Nat.zero_add, xgl_0, xgl_s, xgl_n, xst_0, xst_1n, xst_1i, xst_1r, xst_1l, xst_s, set_0, set_s, true_and, and_true, xres, xcat_nil, xcat_i, xcat_r, xcat_l, Nat.add_zero, xble0, xble1, xble2, xble3, xble4, xble5, xble6, xble7, xble8, pk_mul, nI_add, nI_1, nI_leI, nI_ltI, nI_eq, n_in, n_cl, z_eq, z_lt, z_le, z_gt, z_ge, z_qe, o_eq, o_lt, o_le, o_gt, o_ge, vp0, vp1, cl0, cl1, n_sub, n_sub1, n_pm1, n_a0, n_0a, ofn, lN0, Nat.reduceLT, Nat.reduceLeDiff, Nat.reduceMul, Nat.reduceSub, Nat.reduceEqDiff, ne_eq, true_implies, false_implies, not_true_eq_false, not_false_eq_true, and_self, and_true, true_and, and_false, false_and, implies_true, if_true, if_false, i00, i10, i01, i11, ob_0, ob_1, tn_2, ln_2, ob_3, tn_4, ln_4, ob_5, tn_6, ln_6, tn_7, ln_7, ob_8, tn_9, ln_9, tn_10, ln_10, tn_11, ln_11, tn_12, ln_12, tn_13, ln_13, tn_14, ln_14, tn_15, ln_15, tn_16, ln_16, tn_17, ln_17, ob_18, tn_19, ln_19, tn_20, ln_20, tn_21, ln_21, tn_22, ln_22, tn_23, ln_23, tn_24, ln_24, tn_25, ln_25, tn_26, ln_26, tn_27, ln_27, ob_28, tn_29, ln_29, tn_30, ln_30, ob_31, tn_32, ln_32, tn_33, ln_33, ob_34, ob_35, tn_36, ln_36, tn_37, ln_37, tn_38, ln_38, ob_39, tn_40, ln_40, tn_41, ln_41, tn_42, ln_42, tn_43, ln_43, tn_44, ln_44, tn_45, ln_45, tn_46, ln_46, tn_47, ln_47, tn_48, ln_48, tn_49, ln_49, tn_50, ln_50, tn_51, ln_51, ob_52, tn_53, ln_53, tn_54, ln_54, tn_55, ln_55, tn_56, ln_56, ob_57, tn_58, ln_58, tn_59, ln_59, tn_60, ln_60, tn_61, ln_61, tn_62, ln_62, tn_63, ln_63, tn_64, ln_64, tn_65, ln_65, ob_66, tn_67, ln_67, tn_68, ln_68, tn_69, ln_69, tn_70, ln_70, tn_71, ln_71, tn_72, ln_72, tn_73, ln_73, ob_74, tn_75, ln_75, tn_76, ln_76, tn_77, ln_77, tn_78, ln_78, tn_79, ln_79, tn_80, ln_80, tn_81, ln_81, tn_82, ln_82, tn_83, ln_83, ob_84, tn_85, ln_85, tn_86, ln_86, tn_87, ln_87, tn_88, ln_88, tn_89, ln_89, tn_90, ln_90, tn_91, ln_91, tn_92, ln_92, tn_93, ln_93, ob_94, tn_95, ln_95, tn_96, ln_96, tn_97, ln_97, tn_98, ln_98, tn_99, ln_99, tn_100, ln_100, tn_101, ln_101, tn_102, ln_102, tn_103, ln_103, ob_104, tn_105, ln_105, tn_106, ln_106, tn_107, ln_107, tn_108, ln_108, tn_109, ln_109, tn_110, ln_110, tn_111, ln_111, tn_112, ln_112, tn_113, ln_113, ob_114, tn_115, ln_115, tn_116, ln_116, tn_117, ln_117, tn_118, ln_118, tn_119, ln_119, tn_120, ln_120, tn_121, ln_121, tn_122, ln_122, tn_123, ln_123, ob_124, tn_125, ln_125, tn_126, ln_126, tn_127, ln_127, tn_128, ln_128, tn_129, ln_129, tn_130, ln_130, tn_131, ln_131, tn_132, ln_132, tn_133, ln_133, ob_134, tn_135, ln_135, tn_136, ln_136, tn_137, ln_137, tn_138, ln_138, tn_139, ln_139, tn_140, ln_140, tn_141, ln_141, tn_142, ln_142, tn_143, ln_143, ob_144, tn_145, ln_145, tn_146, ln_146, tn_147, ln_147, tn_148, ln_148, tn_149, ln_149, tn_150, ln_150, tn_151, ln_151, tn_152, ln_152, tn_153, ln_153, ob_154, tn_155, ln_155, tn_156, ln_156, tn_157, ln_157, tn_158, ln_158, tn_159, ln_159, tn_160, ln_160, tn_161, ln_161, tn_162, ln_162, tn_163, ln_163, ob_164, tn_165, ln_165, tn_166, ln_166, ob_167, tn_168, ln_168, tn_169, ln_169, tn_170, ln_170, tn_171, ln_171, tn_172, ln_172, tn_173, ln_173, tn_174, ln_174, tn_175, ln_175, tn_176, ln_176, ob_177, tn_178, ln_178, tn_179, ln_179, ob_180, tn_181, ln_181, tn_182, ln_182, tn_183, ln_183, tn_184, ln_184, tn_185, ln_185, tn_186, ln_186, tn_187, ln_187, tn_188, ln_188, tn_189, ln_189, tn_190, ln_190, tn_191, ln_191, tn_192, ln_192, tn_193, ln_193, tn_194, ln_194, tn_195, ln_195, tn_196, ln_196, tn_197, ln_197, tn_198, ln_198, tn_199, ln_199, tn_200, ln_200, tn_201, ln_201, tn_202, ln_202, tn_203, ln_203, tn_204, ln_204, tn_205, ln_205, tn_206, ln_206, tn_207, ln_207, tn_208, ln_208, tn_209, ln_209, tn_210, ln_210, tn_211, ln_211, tn_212, ln_212, tn_213, ln_213, tn_214, ln_214, tn_215, ln_215, tn_216, ln_216, tn_217, ln_217, tn_218, ln_218, tn_219, ln_219, tn_220, ln_220, tn_221, ln_221, tn_222, ln_222, tn_223, ln_223, tn_224, ln_224, tn_225, ln_225, tn_226, ln_226, tn_227, ln_227, tn_228, ln_228, tn_229, ln_229, tn_230, ln_230, lx2, lx3, lx4, lx5, lx6, lx7, lx8, lx9, lx10, lx14, lx15, lx16, lx18, lx20, lx24, lx25, lx27, lx32, lx36, lx40, lx41, lx42, lx43, lx45, lx48, lx52, lx54, lx56, lx57, lx58, lx60, lx61, lx62, lx63, lx64, lx66, lx69, lx73, lx80, lx81, lx84, lx85, lx87, lx94, lx96, lx97, lx120, lx128, lx135, lx160, lx162, lx163, lx165, lx200, lx232, lx242, lx243, lx255, lx256, lx320, lx325, lx400, lx405, lx464, lx512, lx600, lx640, lx752, lx900, lx940, lx1000, lx1024, lx1764, lx3360, lx3840, lx5000, lx6400, lx9050, lx9998, lx9999, lx10000, lx25600, lx76800, lx99999, si_ne, si_eq, sl_ne, sl_eq, xl_si, xi_sl, sA_ne, sA_eq, xl_sA, shr6, and63]
  have t43 : xtn xN 43 = 2 := tn_43
  have n43 : (xsh 43).2 = 800 := ln_43
  have q63 : q % 64 < 64 := Nat.mod_lt _ (by decide)
  have p63 : p % 64 < 64 := Nat.mod_lt _ (by decide)
  have fin : ∀ u, u = uS5 s → k_X7_addStep_44 P [some (.ref 39), some (.int (nI p)), some (.int (nI s)), some (.int (nI q))] [.int (nI u), .int (nI (q * 5)), .ref 43] (xsl A 42 ((p * 24 + s) * 2 + q / 64) (xl A 42 ((p * 24 + s) * 2 + q / 64) ||| xlsl 1 (nI (q % 64)))) := fun u hu => by
    have hu5 : u < 5 := by rw [hu]; exact uS5_lt hs
    simp (disch := omega) only [k_X7_addStep_0, k_X7_addStep_44, x_aload, x_dup2, x_iadd, x_iand, x_icmp_ge, x_iload, x_imul, x_ishr, x_lald, x_last, x_lor, x_lshl, x_push, x_vret, y_getF, y_lald, y_last, xFT, xbool0, xbool1, Nat.reduceAdd, Nat.zero_add, xgl_0, xgl_s, xgl_n, xst_0, xst_1n, xst_1i, xst_1r, xst_1l, xst_s, set_0, set_s, true_and, and_true, xres, xcat_nil, xcat_i, xcat_r, xcat_l, Nat.add_zero, xble0, xble1, xble2, xble3, xble4, xble5, xble6, xble7, xble8, pk_mul, nI_add, nI_1, nI_leI, nI_ltI, nI_eq, n_in, n_cl, z_eq, z_lt, z_le, z_gt, z_ge, z_qe, o_eq, o_lt, o_le, o_gt, o_ge, vp0, vp1, cl0, cl1, n_sub, n_sub1, n_pm1, n_a0, n_0a, ofn, lN0, Nat.reduceLT, Nat.reduceLeDiff, Nat.reduceMul, Nat.reduceSub, Nat.reduceEqDiff, ne_eq, true_implies, false_implies, not_true_eq_false, not_false_eq_true, and_self, and_true, true_and, and_false, false_and, implies_true, if_true, if_false, i00, i10, i01, i11, ob_0, ob_1, tn_2, ln_2, ob_3, tn_4, ln_4, ob_5, tn_6, ln_6, tn_7, ln_7, ob_8, tn_9, ln_9, tn_10, ln_10, tn_11, ln_11, tn_12, ln_12, tn_13, ln_13, tn_14, ln_14, tn_15, ln_15, tn_16, ln_16, tn_17, ln_17, ob_18, tn_19, ln_19, tn_20, ln_20, tn_21, ln_21, tn_22, ln_22, tn_23, ln_23, tn_24, ln_24, tn_25, ln_25, tn_26, ln_26, tn_27, ln_27, ob_28, tn_29, ln_29, tn_30, ln_30, ob_31, tn_32, ln_32, tn_33, ln_33, ob_34, ob_35, tn_36, ln_36, tn_37, ln_37, tn_38, ln_38, ob_39, tn_40, ln_40, tn_41, ln_41, tn_42, ln_42, tn_43, ln_43, tn_44, ln_44, tn_45, ln_45, tn_46, ln_46, tn_47, ln_47, tn_48, ln_48, tn_49, ln_49, tn_50, ln_50, tn_51, ln_51, ob_52, tn_53, ln_53, tn_54, ln_54, tn_55, ln_55, tn_56, ln_56, ob_57, tn_58, ln_58, tn_59, ln_59, tn_60, ln_60, tn_61, ln_61, tn_62, ln_62, tn_63, ln_63, tn_64, ln_64, tn_65, ln_65, ob_66, tn_67, ln_67, tn_68, ln_68, tn_69, ln_69, tn_70, ln_70, tn_71, ln_71, tn_72, ln_72, tn_73, ln_73, ob_74, tn_75, ln_75, tn_76, ln_76, tn_77, ln_77, tn_78, ln_78, tn_79, ln_79, tn_80, ln_80, tn_81, ln_81, tn_82, ln_82, tn_83, ln_83, ob_84, tn_85, ln_85, tn_86, ln_86, tn_87, ln_87, tn_88, ln_88, tn_89, ln_89, tn_90, ln_90, tn_91, ln_91, tn_92, ln_92, tn_93, ln_93, ob_94, tn_95, ln_95, tn_96, ln_96, tn_97, ln_97, tn_98, ln_98, tn_99, ln_99, tn_100, ln_100, tn_101, ln_101, tn_102, ln_102, tn_103, ln_103, ob_104, tn_105, ln_105, tn_106, ln_106, tn_107, ln_107, tn_108, ln_108, tn_109, ln_109, tn_110, ln_110, tn_111, ln_111, tn_112, ln_112, tn_113, ln_113, ob_114, tn_115, ln_115, tn_116, ln_116, tn_117, ln_117, tn_118, ln_118, tn_119, ln_119, tn_120, ln_120, tn_121, ln_121, tn_122, ln_122, tn_123, ln_123, ob_124, tn_125, ln_125, tn_126, ln_126, tn_127, ln_127, tn_128, ln_128, tn_129, ln_129, tn_130, ln_130, tn_131, ln_131, tn_132, ln_132, tn_133, ln_133, ob_134, tn_135, ln_135, tn_136, ln_136, tn_137, ln_137, tn_138, ln_138, tn_139, ln_139, tn_140, ln_140, tn_141, ln_141, tn_142, ln_142, tn_143, ln_143, ob_144, tn_145, ln_145, tn_146, ln_146, tn_147, ln_147, tn_148, ln_148, tn_149, ln_149, tn_150, ln_150, tn_151, ln_151, tn_152, ln_152, tn_153, ln_153, ob_154, tn_155, ln_155, tn_156, ln_156, tn_157, ln_157, tn_158, ln_158, tn_159, ln_159, tn_160, ln_160, tn_161, ln_161, tn_162, ln_162, tn_163, ln_163, ob_164, tn_165, ln_165, tn_166, ln_166, ob_167, tn_168, ln_168, tn_169, ln_169, tn_170, ln_170, tn_171, ln_171, tn_172, ln_172, tn_173, ln_173, tn_174, ln_174, tn_175, ln_175, tn_176, ln_176, ob_177, tn_178, ln_178, tn_179, ln_179, ob_180, tn_181, ln_181, tn_182, ln_182, tn_183, ln_183, tn_184, ln_184, tn_185, ln_185, tn_186, ln_186, tn_187, ln_187, tn_188, ln_188, tn_189, ln_189, tn_190, ln_190, tn_191, ln_191, tn_192, ln_192, tn_193, ln_193, tn_194, ln_194, tn_195, ln_195, tn_196, ln_196, tn_197, ln_197, tn_198, ln_198, tn_199, ln_199, tn_200, ln_200, tn_201, ln_201, tn_202, ln_202, tn_203, ln_203, tn_204, ln_204, tn_205, ln_205, tn_206, ln_206, tn_207, ln_207, tn_208, ln_208, tn_209, ln_209, tn_210, ln_210, tn_211, ln_211, tn_212, ln_212, tn_213, ln_213, tn_214, ln_214, tn_215, ln_215, tn_216, ln_216, tn_217, ln_217, tn_218, ln_218, tn_219, ln_219, tn_220, ln_220, tn_221, ln_221, tn_222, ln_222, tn_223, ln_223, tn_224, ln_224, tn_225, ln_225, tn_226, ln_226, tn_227, ln_227, tn_228, ln_228, tn_229, ln_229, tn_230, ln_230, lx2, lx3, lx4, lx5, lx6, lx7, lx8, lx9, lx10, lx14, lx15, lx16, lx18, lx20, lx24, lx25, lx27, lx32, lx36, lx40, lx41, lx42, lx43, lx45, lx48, lx52, lx54, lx56, lx57, lx58, lx60, lx61, lx62, lx63, lx64, lx66, lx69, lx73, lx80, lx81, lx84, lx85, lx87, lx94, lx96, lx97, lx120, lx128, lx135, lx160, lx162, lx163, lx165, lx200, lx232, lx242, lx243, lx255, lx256, lx320, lx325, lx400, lx405, lx464, lx512, lx600, lx640, lx752, lx900, lx940, lx1000, lx1024, lx1764, lx3360, lx3840, lx5000, lx6400, lx9050, lx9998, lx9999, lx10000, lx25600, lx76800, lx99999, si_ne, si_eq, sl_ne, sl_eq, xl_si, xi_sl, sA_ne, sA_eq, xl_sA, shr6, and63, t43, n43]
    refine ⟨by omega, by omega, hP _ (fr_sl (fr_sl fr_rf (by unfold SSp; omega)) (by unfold SSp; omega)) ⟨fun p' s' q' a b c => ?_, fun q' u' p' a b c => ?_⟩⟩
    · rw [sl_ne (by omega)]
      have h1 := h.1 p' s' q' a b c
      have q63' : q' % 64 < 64 := Nat.mod_lt _ (by decide)
      by_cases e : (p' * 24 + s') * 2 + q' / 64 = (p * 24 + s) * 2 + q / 64
      · have ep : p' = p := by omega
        have es : s' = s := by omega
        have eq : q' / 64 = q / 64 := by omega
        subst ep; subst es
        rw [eq] at h1 ⊢
        rw [sl_eq, tl_or, tl_bit q63 q63', Bool.or_eq_true, h1, decide_eq_true_eq]
        constructor
        · rintro (w | w)
          · exact Or.inl w
          · exact Or.inr ⟨rfl, rfl, by omega⟩
        · rintro (w | ⟨-, -, w⟩)
          · exact Or.inl w
          · exact Or.inr (by rw [w])
      · rw [sl_ne (Or.inr e), h1]
        constructor
        · exact Or.inl
        · rintro (w | ⟨w1, w2, w3⟩)
          · exact w
          · exact absurd (by rw [w1, w2, w3]) e
    · have h1 := h.2 q' u' p' a b c
      have p63' : p' % 64 < 64 := Nat.mod_lt _ (by decide)
      by_cases e : (q' * 5 + u') * 2 + p' / 64 = (q * 5 + u) * 2 + p / 64
      · have ep : q' = q := by omega
        have es : u' = u := by omega
        have eq : p' / 64 = p / 64 := by omega
        subst ep; subst es
        rw [eq] at h1 ⊢
        rw [sl_eq, tl_or, tl_bit p63 p63', Bool.or_eq_true, h1, decide_eq_true_eq]
        constructor
        · rintro (⟨s', w1, w2, w3⟩ | w)
          · exact ⟨s', w1, w2, Or.inl w3⟩
          · exact ⟨s, hs, hu.symm, Or.inr ⟨by omega, rfl, rfl⟩⟩
        · rintro ⟨s', w1, w2, w3 | ⟨w3, w4, w5⟩⟩
          · exact Or.inl ⟨s', w1, w2, w3⟩
          · exact Or.inr (by rw [w3])
      · rw [sl_ne (Or.inr e), sl_ne (by omega), h1]
        constructor
        · rintro ⟨s', w1, w2, w3⟩; exact ⟨s', w1, w2, Or.inl w3⟩
        · rintro ⟨s', w1, w2, w3 | ⟨w3, w4, w5⟩⟩
          · exact ⟨s', w1, w2, w3⟩
          · exact absurd (by rw [w3, w5, ← w2, w4, ← hu]) e
  refine ⟨by omega, by omega, fun z => ?_, fun z => ?_⟩
  · exact fin 4 (by unfold uS5; rw [if_neg (by omega)])
  · exact fin s (by unfold uS5; rw [if_pos (by omega)])
/-- the place's number -/
def plA (v : xV) (q : Nat) (x : Nat × Nat) : Prop := (plL v)[q]? = some x
theorem plA_of {v : xV} {x : Nat × Nat} (h : x ∈ plL v) : ∃ q, plA v q x ∧ q < (plL v).length := by
  obtain ⟨q, h1⟩ := List.getElem?_of_mem h
  exact ⟨q, h1, (List.getElem?_eq_some_iff.mp h1).1⟩
theorem plA_mem {v : xV} {q : Nat} {x : Nat × Nat} (h : plA v q x) : x ∈ plL v := List.mem_of_getElem? h
theorem placeOf_C {A : xH} {P : xP} {v : xV} {m i c q : Nat} (hM : isM A m v) (hl : lsC A (plL v)) (hq : q < 80) (hi : i < vN v) (hc : c ≤ 42) (hx : plA v q (vcl v i, cD v c)) (hP : P (some (.int (nI q))) A) : f_X7_placeOf 39 m (nI i) (cI c) A P := by
  have hw := hM.1.2.1
  have hN := vN_le hw
  obtain ⟨ob, ⟨l5, l6, l7, l8, l9, l10, l11, l12, l13⟩, ⟨t1, t2, t3, t4, t5, t6, t7, t8, t9⟩, ⟨n1, n2, n3, n4, n5, n6, n7, n8, n9⟩, -⟩ := hM.1.1
  have e3 : xi A m 3 = nI (vN v) := hM.2.2.1.1
  have e4 : xi A m 4 = nI (vD v) := hM.1.2.2.1.2.2.2
  have hD := hw.2.2.2.1
  have hcl : xi A (m + 9) i = nI (vcl v i) := hM.2.2.2 _ (by omega)
  have hci := (hM.2.1 i (by omega)).1
  have t47 : xtn xN 47 = 1 := tn_47
  have n47 : (xsh 47).2 = 1764 := ln_47
  have h47 := (hl.2.2 q hq _ hx).2.2
  have fin : ∀ o : Nat, o < 42 → vcl v i * 42 + o = plX (vcl v i, cD v c) → k_X7_placeOf_50 P [some (.ref 39), some (.ref m), some (.int (nI i)), some (.int (cI c)), some (.int (nI (vcl v i)))] [.int (nI o), .int (nI (vcl v i * 42)), .ref 47] A := fun o ho e => by
    simp (disch := omega) only [k_X7_placeOf_0, k_X7_placeOf_21, k_X7_placeOf_22, k_X7_placeOf_49, k_X7_placeOf_50, x_aload, x_getF, x_getI, x_iadd, x_iald, x_icmp_ge, x_icmp_ne, x_if_lt, x_iload, x_imul, x_iret, x_istore, x_push, y_getF, xFT, xbool0, xbool1, Nat.reduceAdd, Nat.zero_add, xgl_0, xgl_s, xgl_n, xst_0, xst_1n, xst_1i, xst_1r, xst_1l, xst_s, set_0, set_s, true_and, and_true, xres, xcat_nil, xcat_i, xcat_r, xcat_l, Nat.add_zero, xble0, xble1, xble2, xble3, xble4, xble5, xble6, xble7, xble8, pk_mul, nI_add, nI_1, nI_leI, nI_ltI, nI_eq, n_in, n_cl, z_eq, z_lt, z_le, z_gt, z_ge, z_qe, o_eq, o_lt, o_le, o_gt, o_ge, vp0, vp1, cl0, cl1, n_sub, n_sub1, n_pm1, n_a0, n_0a, ofn, lN0, Nat.reduceLT, Nat.reduceLeDiff, Nat.reduceMul, Nat.reduceSub, Nat.reduceEqDiff, ne_eq, true_implies, false_implies, not_true_eq_false, not_false_eq_true, and_self, and_true, true_and, and_false, false_and, implies_true, if_true, if_false, i00, i10, i01, i11, ob_0, ob_1, tn_2, ln_2, ob_3, tn_4, ln_4, ob_5, tn_6, ln_6, tn_7, ln_7, ob_8, tn_9, ln_9, tn_10, ln_10, tn_11, ln_11, tn_12, ln_12, tn_13, ln_13, tn_14, ln_14, tn_15, ln_15, tn_16, ln_16, tn_17, ln_17, ob_18, tn_19, ln_19, tn_20, ln_20, tn_21, ln_21, tn_22, ln_22, tn_23, ln_23, tn_24, ln_24, tn_25, ln_25, tn_26, ln_26, tn_27, ln_27, ob_28, tn_29, ln_29, tn_30, ln_30, ob_31, tn_32, ln_32, tn_33, ln_33, ob_34, ob_35, tn_36, ln_36, tn_37, ln_37, tn_38, ln_38, ob_39, tn_40, ln_40, tn_41, ln_41, tn_42, ln_42, tn_43, ln_43, tn_44, ln_44, tn_45, ln_45, tn_46, ln_46, tn_47, ln_47, tn_48, ln_48, tn_49, ln_49, tn_50, ln_50, tn_51, ln_51, ob_52, tn_53, ln_53, tn_54, ln_54, tn_55, ln_55, tn_56, ln_56, ob_57, tn_58, ln_58, tn_59, ln_59, tn_60, ln_60, tn_61, ln_61, tn_62, ln_62, tn_63, ln_63, tn_64, ln_64, tn_65, ln_65, ob_66, tn_67, ln_67, tn_68, ln_68, tn_69, ln_69, tn_70, ln_70, tn_71, ln_71, tn_72, ln_72, tn_73, ln_73, ob_74, tn_75, ln_75, tn_76, ln_76, tn_77, ln_77, tn_78, ln_78, tn_79, ln_79, tn_80, ln_80, tn_81, ln_81, tn_82, ln_82, tn_83, ln_83, ob_84, tn_85, ln_85, tn_86, ln_86, tn_87, ln_87, tn_88, ln_88, tn_89, ln_89, tn_90, ln_90, tn_91, ln_91, tn_92, ln_92, tn_93, ln_93, ob_94, tn_95, ln_95, tn_96, ln_96, tn_97, ln_97, tn_98, ln_98, tn_99, ln_99, tn_100, ln_100, tn_101, ln_101, tn_102, ln_102, tn_103, ln_103, ob_104, tn_105, ln_105, tn_106, ln_106, tn_107, ln_107, tn_108, ln_108, tn_109, ln_109, tn_110, ln_110, tn_111, ln_111, tn_112, ln_112, tn_113, ln_113, ob_114, tn_115, ln_115, tn_116, ln_116, tn_117, ln_117, tn_118, ln_118, tn_119, ln_119, tn_120, ln_120, tn_121, ln_121, tn_122, ln_122, tn_123, ln_123, ob_124, tn_125, ln_125, tn_126, ln_126, tn_127, ln_127, tn_128, ln_128, tn_129, ln_129, tn_130, ln_130, tn_131, ln_131, tn_132, ln_132, tn_133, ln_133, ob_134, tn_135, ln_135, tn_136, ln_136, tn_137, ln_137, tn_138, ln_138, tn_139, ln_139, tn_140, ln_140, tn_141, ln_141, tn_142, ln_142, tn_143, ln_143, ob_144, tn_145, ln_145, tn_146, ln_146, tn_147, ln_147, tn_148, ln_148, tn_149, ln_149, tn_150, ln_150, tn_151, ln_151, tn_152, ln_152, tn_153, ln_153, ob_154, tn_155, ln_155, tn_156, ln_156, tn_157, ln_157, tn_158, ln_158, tn_159, ln_159, tn_160, ln_160, tn_161, ln_161, tn_162, ln_162, tn_163, ln_163, ob_164, tn_165, ln_165, tn_166, ln_166, ob_167, tn_168, ln_168, tn_169, ln_169, tn_170, ln_170, tn_171, ln_171, tn_172, ln_172, tn_173, ln_173, tn_174, ln_174, tn_175, ln_175, tn_176, ln_176, ob_177, tn_178, ln_178, tn_179, ln_179, ob_180, tn_181, ln_181, tn_182, ln_182, tn_183, ln_183, tn_184, ln_184, tn_185, ln_185, tn_186, ln_186, tn_187, ln_187, tn_188, ln_188, tn_189, ln_189, tn_190, ln_190, tn_191, ln_191, tn_192, ln_192, tn_193, ln_193, tn_194, ln_194, tn_195, ln_195, tn_196, ln_196, tn_197, ln_197, tn_198, ln_198, tn_199, ln_199, tn_200, ln_200, tn_201, ln_201, tn_202, ln_202, tn_203, ln_203, tn_204, ln_204, tn_205, ln_205, tn_206, ln_206, tn_207, ln_207, tn_208, ln_208, tn_209, ln_209, tn_210, ln_210, tn_211, ln_211, tn_212, ln_212, tn_213, ln_213, tn_214, ln_214, tn_215, ln_215, tn_216, ln_216, tn_217, ln_217, tn_218, ln_218, tn_219, ln_219, tn_220, ln_220, tn_221, ln_221, tn_222, ln_222, tn_223, ln_223, tn_224, ln_224, tn_225, ln_225, tn_226, ln_226, tn_227, ln_227, tn_228, ln_228, tn_229, ln_229, tn_230, ln_230, lx2, lx3, lx4, lx5, lx6, lx7, lx8, lx9, lx10, lx14, lx15, lx16, lx18, lx20, lx24, lx25, lx27, lx32, lx36, lx40, lx41, lx42, lx43, lx45, lx48, lx52, lx54, lx56, lx57, lx58, lx60, lx61, lx62, lx63, lx64, lx66, lx69, lx73, lx80, lx81, lx84, lx85, lx87, lx94, lx96, lx97, lx120, lx128, lx135, lx160, lx162, lx163, lx165, lx200, lx232, lx242, lx243, lx255, lx256, lx320, lx325, lx400, lx405, lx464, lx512, lx600, lx640, lx752, lx900, lx940, lx1000, lx1024, lx1764, lx3360, lx3840, lx5000, lx6400, lx9050, lx9998, lx9999, lx10000, lx25600, lx76800, lx99999, t47, n47]
    rw [e, h47]
    refine ⟨by omega, hP⟩
  unfold f_X7_placeOf
  simp (disch := omega) only [k_X7_placeOf_0, k_X7_placeOf_21, k_X7_placeOf_22, x_aload, x_getF, x_getI, x_iadd, x_iald, x_icmp_ge, x_icmp_ne, x_if_lt, x_iload, x_imul, x_iret, x_istore, x_push, y_getF, xFT, xbool0, xbool1, Nat.reduceAdd, Nat.zero_add, xgl_0, xgl_s, xgl_n, xst_0, xst_1n, xst_1i, xst_1r, xst_1l, xst_s, set_0, set_s, true_and, and_true, xres, xcat_nil, xcat_i, xcat_r, xcat_l, Nat.add_zero, xble0, xble1, xble2, xble3, xble4, xble5, xble6, xble7, xble8, pk_mul, nI_add, nI_1, nI_leI, nI_ltI, nI_eq, n_in, n_cl, z_eq, z_lt, z_le, z_gt, z_ge, z_qe, o_eq, o_lt, o_le, o_gt, o_ge, vp0, vp1, cl0, cl1, n_sub, n_sub1, n_pm1, n_a0, n_0a, ofn, lN0, Nat.reduceLT, Nat.reduceLeDiff, Nat.reduceMul, Nat.reduceSub, Nat.reduceEqDiff, ne_eq, true_implies, false_implies, not_true_eq_false, not_false_eq_true, and_self, and_true, true_and, and_false, false_and, implies_true, if_true, if_false, i00, i10, i01, i11, ob_0, ob_1, tn_2, ln_2, ob_3, tn_4, ln_4, ob_5, tn_6, ln_6, tn_7, ln_7, ob_8, tn_9, ln_9, tn_10, ln_10, tn_11, ln_11, tn_12, ln_12, tn_13, ln_13, tn_14, ln_14, tn_15, ln_15, tn_16, ln_16, tn_17, ln_17, ob_18, tn_19, ln_19, tn_20, ln_20, tn_21, ln_21, tn_22, ln_22, tn_23, ln_23, tn_24, ln_24, tn_25, ln_25, tn_26, ln_26, tn_27, ln_27, ob_28, tn_29, ln_29, tn_30, ln_30, ob_31, tn_32, ln_32, tn_33, ln_33, ob_34, ob_35, tn_36, ln_36, tn_37, ln_37, tn_38, ln_38, ob_39, tn_40, ln_40, tn_41, ln_41, tn_42, ln_42, tn_43, ln_43, tn_44, ln_44, tn_45, ln_45, tn_46, ln_46, tn_47, ln_47, tn_48, ln_48, tn_49, ln_49, tn_50, ln_50, tn_51, ln_51, ob_52, tn_53, ln_53, tn_54, ln_54, tn_55, ln_55, tn_56, ln_56, ob_57, tn_58, ln_58, tn_59, ln_59, tn_60, ln_60, tn_61, ln_61, tn_62, ln_62, tn_63, ln_63, tn_64, ln_64, tn_65, ln_65, ob_66, tn_67, ln_67, tn_68, ln_68, tn_69, ln_69, tn_70, ln_70, tn_71, ln_71, tn_72, ln_72, tn_73, ln_73, ob_74, tn_75, ln_75, tn_76, ln_76, tn_77, ln_77, tn_78, ln_78, tn_79, ln_79, tn_80, ln_80, tn_81, ln_81, tn_82, ln_82, tn_83, ln_83, ob_84, tn_85, ln_85, tn_86, ln_86, tn_87, ln_87, tn_88, ln_88, tn_89, ln_89, tn_90, ln_90, tn_91, ln_91, tn_92, ln_92, tn_93, ln_93, ob_94, tn_95, ln_95, tn_96, ln_96, tn_97, ln_97, tn_98, ln_98, tn_99, ln_99, tn_100, ln_100, tn_101, ln_101, tn_102, ln_102, tn_103, ln_103, ob_104, tn_105, ln_105, tn_106, ln_106, tn_107, ln_107, tn_108, ln_108, tn_109, ln_109, tn_110, ln_110, tn_111, ln_111, tn_112, ln_112, tn_113, ln_113, ob_114, tn_115, ln_115, tn_116, ln_116, tn_117, ln_117, tn_118, ln_118, tn_119, ln_119, tn_120, ln_120, tn_121, ln_121, tn_122, ln_122, tn_123, ln_123, ob_124, tn_125, ln_125, tn_126, ln_126, tn_127, ln_127, tn_128, ln_128, tn_129, ln_129, tn_130, ln_130, tn_131, ln_131, tn_132, ln_132, tn_133, ln_133, ob_134, tn_135, ln_135, tn_136, ln_136, tn_137, ln_137, tn_138, ln_138, tn_139, ln_139, tn_140, ln_140, tn_141, ln_141, tn_142, ln_142, tn_143, ln_143, ob_144, tn_145, ln_145, tn_146, ln_146, tn_147, ln_147, tn_148, ln_148, tn_149, ln_149, tn_150, ln_150, tn_151, ln_151, tn_152, ln_152, tn_153, ln_153, ob_154, tn_155, ln_155, tn_156, ln_156, tn_157, ln_157, tn_158, ln_158, tn_159, ln_159, tn_160, ln_160, tn_161, ln_161, tn_162, ln_162, tn_163, ln_163, ob_164, tn_165, ln_165, tn_166, ln_166, ob_167, tn_168, ln_168, tn_169, ln_169, tn_170, ln_170, tn_171, ln_171, tn_172, ln_172, tn_173, ln_173, tn_174, ln_174, tn_175, ln_175, tn_176, ln_176, ob_177, tn_178, ln_178, tn_179, ln_179, ob_180, tn_181, ln_181, tn_182, ln_182, tn_183, ln_183, tn_184, ln_184, tn_185, ln_185, tn_186, ln_186, tn_187, ln_187, tn_188, ln_188, tn_189, ln_189, tn_190, ln_190, tn_191, ln_191, tn_192, ln_192, tn_193, ln_193, tn_194, ln_194, tn_195, ln_195, tn_196, ln_196, tn_197, ln_197, tn_198, ln_198, tn_199, ln_199, tn_200, ln_200, tn_201, ln_201, tn_202, ln_202, tn_203, ln_203, tn_204, ln_204, tn_205, ln_205, tn_206, ln_206, tn_207, ln_207, tn_208, ln_208, tn_209, ln_209, tn_210, ln_210, tn_211, ln_211, tn_212, ln_212, tn_213, ln_213, tn_214, ln_214, tn_215, ln_215, tn_216, ln_216, tn_217, ln_217, tn_218, ln_218, tn_219, ln_219, tn_220, ln_220, tn_221, ln_221, tn_222, ln_222, tn_223, ln_223, tn_224, ln_224, tn_225, ln_225, tn_226, ln_226, tn_227, ln_227, tn_228, ln_228, tn_229, ln_229, tn_230, ln_230, lx2, lx3, lx4, lx5, lx6, lx7, lx8, lx9, lx10, lx14, lx15, lx16, lx18, lx20, lx24, lx25, lx27, lx32, lx36, lx40, lx41, lx42, lx43, lx45, lx48, lx52, lx54, lx56, lx57, lx58, lx60, lx61, lx62, lx63, lx64, lx66, lx69, lx73, lx80, lx81, lx84, lx85, lx87, lx94, lx96, lx97, lx120, lx128, lx135, lx160, lx162, lx163, lx165, lx200, lx232, lx242, lx243, lx255, lx256, lx320, lx325, lx400, lx405, lx464, lx512, lx600, lx640, lx752, lx900, lx940, lx1000, lx1024, lx1764, lx3360, lx3840, lx5000, lx6400, lx9050, lx9998, lx9999, lx10000, lx25600, lx76800, lx99999, ob, l13, t9, n9, e3, e4, hcl]
  have hz : cD v c = 42 → k_X7_placeOf_49 P [some (.ref 39), some (.ref m), some (.int (nI i)), some (.int (cI c)), some (.int (nI (vcl v i)))] [.int (nI (vcl v i * 42)), .ref 47] A := fun e => by
    simp (disch := omega) only [k_X7_placeOf_0, k_X7_placeOf_21, k_X7_placeOf_22, k_X7_placeOf_49, x_aload, x_getF, x_getI, x_iadd, x_iald, x_icmp_ge, x_icmp_ne, x_if_lt, x_iload, x_imul, x_iret, x_istore, x_push, y_getF, xFT, xbool0, xbool1, Nat.reduceAdd, Nat.zero_add, xgl_0, xgl_s, xgl_n, xst_0, xst_1n, xst_1i, xst_1r, xst_1l, xst_s, set_0, set_s, true_and, and_true, xres, xcat_nil, xcat_i, xcat_r, xcat_l, Nat.add_zero, xble0, xble1, xble2, xble3, xble4, xble5, xble6, xble7, xble8, pk_mul, nI_add, nI_1, nI_leI, nI_ltI, nI_eq, n_in, n_cl, z_eq, z_lt, z_le, z_gt, z_ge, z_qe, o_eq, o_lt, o_le, o_gt, o_ge, vp0, vp1, cl0, cl1, n_sub, n_sub1, n_pm1, n_a0, n_0a, ofn, lN0, Nat.reduceLT, Nat.reduceLeDiff, Nat.reduceMul, Nat.reduceSub, Nat.reduceEqDiff, ne_eq, true_implies, false_implies, not_true_eq_false, not_false_eq_true, and_self, and_true, true_and, and_false, false_and, implies_true, if_true, if_false, i00, i10, i01, i11, ob_0, ob_1, tn_2, ln_2, ob_3, tn_4, ln_4, ob_5, tn_6, ln_6, tn_7, ln_7, ob_8, tn_9, ln_9, tn_10, ln_10, tn_11, ln_11, tn_12, ln_12, tn_13, ln_13, tn_14, ln_14, tn_15, ln_15, tn_16, ln_16, tn_17, ln_17, ob_18, tn_19, ln_19, tn_20, ln_20, tn_21, ln_21, tn_22, ln_22, tn_23, ln_23, tn_24, ln_24, tn_25, ln_25, tn_26, ln_26, tn_27, ln_27, ob_28, tn_29, ln_29, tn_30, ln_30, ob_31, tn_32, ln_32, tn_33, ln_33, ob_34, ob_35, tn_36, ln_36, tn_37, ln_37, tn_38, ln_38, ob_39, tn_40, ln_40, tn_41, ln_41, tn_42, ln_42, tn_43, ln_43, tn_44, ln_44, tn_45, ln_45, tn_46, ln_46, tn_47, ln_47, tn_48, ln_48, tn_49, ln_49, tn_50, ln_50, tn_51, ln_51, ob_52, tn_53, ln_53, tn_54, ln_54, tn_55, ln_55, tn_56, ln_56, ob_57, tn_58, ln_58, tn_59, ln_59, tn_60, ln_60, tn_61, ln_61, tn_62, ln_62, tn_63, ln_63, tn_64, ln_64, tn_65, ln_65, ob_66, tn_67, ln_67, tn_68, ln_68, tn_69, ln_69, tn_70, ln_70, tn_71, ln_71, tn_72, ln_72, tn_73, ln_73, ob_74, tn_75, ln_75, tn_76, ln_76, tn_77, ln_77, tn_78, ln_78, tn_79, ln_79, tn_80, ln_80, tn_81, ln_81, tn_82, ln_82, tn_83, ln_83, ob_84, tn_85, ln_85, tn_86, ln_86, tn_87, ln_87, tn_88, ln_88, tn_89, ln_89, tn_90, ln_90, tn_91, ln_91, tn_92, ln_92, tn_93, ln_93, ob_94, tn_95, ln_95, tn_96, ln_96, tn_97, ln_97, tn_98, ln_98, tn_99, ln_99, tn_100, ln_100, tn_101, ln_101, tn_102, ln_102, tn_103, ln_103, ob_104, tn_105, ln_105, tn_106, ln_106, tn_107, ln_107, tn_108, ln_108, tn_109, ln_109, tn_110, ln_110, tn_111, ln_111, tn_112, ln_112, tn_113, ln_113, ob_114, tn_115, ln_115, tn_116, ln_116, tn_117, ln_117, tn_118, ln_118, tn_119, ln_119, tn_120, ln_120, tn_121, ln_121, tn_122, ln_122, tn_123, ln_123, ob_124, tn_125, ln_125, tn_126, ln_126, tn_127, ln_127, tn_128, ln_128, tn_129, ln_129, tn_130, ln_130, tn_131, ln_131, tn_132, ln_132, tn_133, ln_133, ob_134, tn_135, ln_135, tn_136, ln_136, tn_137, ln_137, tn_138, ln_138, tn_139, ln_139, tn_140, ln_140, tn_141, ln_141, tn_142, ln_142, tn_143, ln_143, ob_144, tn_145, ln_145, tn_146, ln_146, tn_147, ln_147, tn_148, ln_148, tn_149, ln_149, tn_150, ln_150, tn_151, ln_151, tn_152, ln_152, tn_153, ln_153, ob_154, tn_155, ln_155, tn_156, ln_156, tn_157, ln_157, tn_158, ln_158, tn_159, ln_159, tn_160, ln_160, tn_161, ln_161, tn_162, ln_162, tn_163, ln_163, ob_164, tn_165, ln_165, tn_166, ln_166, ob_167, tn_168, ln_168, tn_169, ln_169, tn_170, ln_170, tn_171, ln_171, tn_172, ln_172, tn_173, ln_173, tn_174, ln_174, tn_175, ln_175, tn_176, ln_176, ob_177, tn_178, ln_178, tn_179, ln_179, ob_180, tn_181, ln_181, tn_182, ln_182, tn_183, ln_183, tn_184, ln_184, tn_185, ln_185, tn_186, ln_186, tn_187, ln_187, tn_188, ln_188, tn_189, ln_189, tn_190, ln_190, tn_191, ln_191, tn_192, ln_192, tn_193, ln_193, tn_194, ln_194, tn_195, ln_195, tn_196, ln_196, tn_197, ln_197, tn_198, ln_198, tn_199, ln_199, tn_200, ln_200, tn_201, ln_201, tn_202, ln_202, tn_203, ln_203, tn_204, ln_204, tn_205, ln_205, tn_206, ln_206, tn_207, ln_207, tn_208, ln_208, tn_209, ln_209, tn_210, ln_210, tn_211, ln_211, tn_212, ln_212, tn_213, ln_213, tn_214, ln_214, tn_215, ln_215, tn_216, ln_216, tn_217, ln_217, tn_218, ln_218, tn_219, ln_219, tn_220, ln_220, tn_221, ln_221, tn_222, ln_222, tn_223, ln_223, tn_224, ln_224, tn_225, ln_225, tn_226, ln_226, tn_227, ln_227, tn_228, ln_228, tn_229, ln_229, tn_230, ln_230, lx2, lx3, lx4, lx5, lx6, lx7, lx8, lx9, lx10, lx14, lx15, lx16, lx18, lx20, lx24, lx25, lx27, lx32, lx36, lx40, lx41, lx42, lx43, lx45, lx48, lx52, lx54, lx56, lx57, lx58, lx60, lx61, lx62, lx63, lx64, lx66, lx69, lx73, lx80, lx81, lx84, lx85, lx87, lx94, lx96, lx97, lx120, lx128, lx135, lx160, lx162, lx163, lx165, lx200, lx232, lx242, lx243, lx255, lx256, lx320, lx325, lx400, lx405, lx464, lx512, lx600, lx640, lx752, lx900, lx940, lx1000, lx1024, lx1764, lx3360, lx3840, lx5000, lx6400, lx9050, lx9998, lx9999, lx10000, lx25600, lx76800, lx99999]
    exact fin 0 (by omega) (by rw [e]; unfold plX; rw [if_pos rfl]; omega)
  have c42 : cI c < 0 ↔ c = 42 := by
    unfold cI
    split
    · rename_i e; exact ⟨fun _ => e, fun _ => by decide⟩
    · rename_i e; exact ⟨fun w => absurd w (nI_pos (by omega)), fun w => absurd w e⟩
  refine ⟨fun z => absurd hi (by omega), fun _ => ⟨by omega, fun D => hz (if_pos (by omega)), fun D => ⟨fun z => hz ?_, fun z => ?_⟩⟩⟩
  · unfold cD; rw [if_neg (by omega)]; exact c42.mp z
  · have hc2 : ¬ c = 42 := fun w => z (c42.mpr w)
    have ec : cI c = nI c := if_neg hc2
    have ed : cD v c = c := if_neg (by omega)
    have f := fin c (by omega) (by rw [ed]; unfold plX; rw [if_neg (show ¬ c = 42 from hc2)]; show _ = 42 * vcl v i + c; omega)
    rw [ec] at f ⊢
    exact f
/-! ===== every step leads to a place ===== -/
theorem it_nx {v : xV} {i : Nat} (h2 : 2 ≤ i) (hi : i < vN v) (hx : vnx v i ≠ 15) : i + 1 < vN v ∧ vri v (i + 1) = vri v i := by
  obtain ⟨a1, a2, a3⟩ := vri_sp h2 hi
  generalize vri v i = r at *
  generalize vdi v i = d at *
  rw [a3] at hx
  rw [vnx_rd a1 a2] at hx
  have hd : d < vrs v r := by
    apply Classical.byContradiction
    intro q
    rw [if_neg q] at hx
    exact hx rfl
  have hlt := vfst_lt a1
  refine ⟨by omega, ?_⟩
  rw [a3, Nat.add_assoc]
  exact vri_eq a1 hd
theorem pl_D0 {v : xV} {i : Nat} (hw : wfg v) (hc : wfc v) (h2 : 2 ≤ i) (hi : i < vN v) (D : vD v = 0) : (vcl v i, 42) ∈ plL v := by
  have hN := vN_le hw
  have c1 := hc i (by omega)
  exact plG_mem.mpr (Or.inr (Or.inr ⟨c1.2.2.2.1 h2, by show vcl v i < 2 + (vN v - 2); omega, c1.2.1, Or.inl ⟨D, rfl⟩⟩))
theorem pl_D1 {v : xV} {i c : Nat} (hw : wfg v) (hc : wfc v) (h2 : 2 ≤ i) (hi : i < vN v) (D : vD v ≠ 0) (hcN : c < vN v) (hk : caK v c i) : (vcl v i, c) ∈ plL v := by
  have hN := vN_le hw
  have c1 := hc i (by omega)
  exact plG_mem.mpr (Or.inr (Or.inr ⟨c1.2.2.2.1 h2, by show vcl v i < 2 + (vN v - 2); omega, c1.2.1, Or.inr ⟨D, hcN, (pr_iff hw).mpr ⟨i, h2, hi, rfl, hk⟩⟩⟩))
theorem pl_01 (v : xV) : (0, 42) ∈ plL v ∧ (1, 42) ∈ plL v := ⟨plG_mem.mpr (Or.inl rfl), plG_mem.mpr (Or.inr (Or.inl rfl))⟩
theorem vcl_lt {v : xV} {i : Nat} (hw : wfg v) (hc : wfc v) (hi : i < vN v) : vcl v i < vN v := by
  have := vN_le hw
  have := (hc i (by omega)).1
  omega
theorem fst_it {v : xV} {r : Nat} (hr : r < vR v) : 2 ≤ vfst v r ∧ vfst v r < vN v ∧ vri v (vfst v r) = r := by
  have h1 := vfst_ge v r
  have h2 := vfst_lt hr
  have h3 := vri_eq (v := v) (d := 0) hr (Nat.zero_le _)
  rw [Nat.add_zero] at h3
  exact ⟨by omega, by omega, h3⟩
theorem op_pl' {v : xV} {i s : Nat} {Q : Nat × Nat} (hw : wfg v) (hc : wfc v) (hi : i < vN v) (h : opS v i s Q) : Q ∈ plL v ∧ 4 ≤ s ∧ s < 14 := by
  obtain ⟨r, h1, h2, rfl, rfl⟩ := h
  obtain ⟨a, b, c⟩ := fst_it h1
  have h10 := hw.2.2.1
  refine ⟨?_, by omega, by omega⟩
  unfold cD
  by_cases D : vD v = 0
  · rw [if_pos D]; exact pl_D0 hw hc a b D
  · rw [if_neg D]
    exact pl_D1 hw hc a b D (vcl_lt hw hc hi) ⟨i, hi, rfl, by rw [c]; exact h2⟩
theorem pl_D {v : xV} {P : Nat × Nat} (h : P ∈ plL v) (h2 : 2 ≤ P.1) : (vD v = 0 → P.2 = 42) ∧ (vD v ≠ 0 → P.2 < vN v ∧ P.2 ≠ 42 ∨ P.2 < vN v) := by
  rcases plG_mem.mp h with rfl | rfl | ⟨a, b, c, ⟨d, e⟩ | ⟨d, e, -⟩⟩
  · exact absurd h2 (by decide)
  · exact absurd h2 (by decide)
  · exact ⟨fun _ => e, fun w => absurd d w⟩
  · exact ⟨fun w => absurd w d, fun _ => Or.inr e⟩
theorem to_pl {v : xV} {j : Nat} {Q : Nat × Nat} (hw : wfg v) (hc : wfc v) (D : vD v ≠ 0) (h2 : 2 ≤ j) (hj : j < vN v) (hx : vnx v j ≠ 15) (h : toS v j Q) : Q ∈ plL v := by
  obtain ⟨c, h1, ⟨k, k1, k2, k3⟩, rfl⟩ := h
  obtain ⟨n1, n2⟩ := it_nx h2 hj hx
  exact pl_D1 hw hc (by omega) n1 D h1 ⟨k, k1, k2, by rw [n2]; exact k3⟩
theorem it_pl {v : xV} {P : Nat × Nat} {i s : Nat} {Q : Nat × Nat} (hw : wfg v) (hc : wfc v) (hP : P ∈ plL v) (ha : atP v P i) (h : itS v P i s Q) : Q ∈ plL v ∧ s < 24 := by
  obtain ⟨a1, a2, a3, a4⟩ := ha
  have hN := vN_le hw
  have h10 := hw.2.2.1
  have hr := (vri_sp a1 a2).1
  have hP2 : 2 ≤ P.1 := by
    have := (hc i (by omega)).2.2.2.1 a1
    omega
  obtain ⟨d0, d1⟩ := pl_D hP hP2
  rcases h with ⟨-, rfl, j, j1, j2, j3, j4⟩ | ⟨h8, rfl, rfl⟩ | ⟨h8, -, ho⟩
  · refine ⟨?_, by omega⟩
    have hk := (hw.2.2.2.2 _ hr).1
    have h5 := hw.2.1
    rcases j4 with ⟨-, rfl⟩ | ⟨j0, p42, rfl⟩ | ⟨j0, p42, ht⟩
    · exact (pl_01 v).2
    · have D : vD v = 0 := by
        apply Classical.byContradiction
        intro D
        rcases d1 D with ⟨x, -⟩ | x <;> omega
      have j2' : 2 ≤ j := by
        apply Classical.byContradiction
        intro w
        have : j = 1 := by omega
        subst this
        unfold vnx at j2
        rw [if_neg (by omega), if_neg (by omega)] at j2
        omega
      obtain ⟨n1, n2⟩ := it_nx j2' j1 (by omega)
      exact pl_D0 hw hc (by omega) n1 D
    · have D : vD v ≠ 0 := fun D => p42 (d0 D)
      have j2' : 2 ≤ j := by
        apply Classical.byContradiction
        intro w
        have : j = 1 := by omega
        subst this
        unfold vnx at j2
        rw [if_neg (by omega), if_neg (by omega)] at j2
        omega
      exact to_pl hw hc D j2' j1 (by omega) ht
  · obtain ⟨n1, n2⟩ := it_nx a1 a2 (by omega)
    refine ⟨?_, by omega⟩
    by_cases D : vD v = 0
    · rw [d0 D]; exact pl_D0 hw hc (by omega) n1 D
    · have hc2 : P.2 < vN v := by rcases d1 D with ⟨x, -⟩ | x <;> exact x
      rcases a4 with a4 | ⟨k, k1, k2, k3⟩
      · omega
      · exact pl_D1 hw hc (by omega) n1 D hc2 ⟨k, k1, k2, by rw [n2]; exact k3⟩
  · have := op_pl' hw hc a2 ho
    exact ⟨this.1, by omega⟩
theorem st_pl {v : xV} {P : Nat × Nat} {s : Nat} {Q : Nat × Nat} (hw : wfg v) (hc : wfc v) (hP : P ∈ plL v) (h : stS v P s Q) : Q ∈ plL v ∧ s < 24 := by
  rcases h with ⟨-, h⟩ | ⟨i, h1, h2⟩
  · have := op_pl' hw hc (by have := vN_ge v; omega) h
    exact ⟨this.1, by omega⟩
  · exact it_pl hw hc hP h1 h2

