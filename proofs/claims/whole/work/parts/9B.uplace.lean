/-! ===== the reference's places: pairs ===== -/
theorem d_X12_isFrom_0 : decode cX12_isFrom 0 = .ok (.iload_n 1, 1) := by decide +kernel
theorem d_X12_isFrom_1 : decode cX12_isFrom 1 = .ok (.iconst 1, 1) := by decide +kernel
theorem d_X12_isFrom_2 : decode cX12_isFrom 2 = .ok (.if_icmp .le 29, 3) := by decide +kernel
theorem d_X12_isFrom_5 : decode cX12_isFrom 5 = .ok (.aload_n 0, 1) := by decide +kernel
theorem d_X12_isFrom_6 : decode cX12_isFrom 6 = .ok (.getfield 56, 3) := by decide +kernel
theorem d_X12_isFrom_9 : decode cX12_isFrom 9 = .ok (.iload_n 2, 1) := by decide +kernel
theorem d_X12_isFrom_10 : decode cX12_isFrom 10 = .ok (.iaload, 1) := by decide +kernel
theorem d_X12_isFrom_11 : decode cX12_isFrom 11 = .ok (.bipush 8, 2) := by decide +kernel
theorem d_X12_isFrom_13 : decode cX12_isFrom 13 = .ok (.aload_n 0, 1) := by decide +kernel
theorem d_X12_isFrom_14 : decode cX12_isFrom 14 = .ok (.aload_n 0, 1) := by decide +kernel
theorem d_X12_isFrom_15 : decode cX12_isFrom 15 = .ok (.getfield 50, 3) := by decide +kernel
theorem d_X12_isFrom_18 : decode cX12_isFrom 18 = .ok (.iload_n 1, 1) := by decide +kernel
theorem d_X12_isFrom_19 : decode cX12_isFrom 19 = .ok (.iaload, 1) := by decide +kernel
theorem d_X12_isFrom_20 : decode cX12_isFrom 20 = .ok (.invokevirtual 363, 3) := by decide +kernel
theorem d_X12_isFrom_23 : decode cX12_isFrom 23 = .ok (.iadd, 1) := by decide +kernel
theorem d_X12_isFrom_24 : decode cX12_isFrom 24 = .ok (.if_icmp .ne 7, 3) := by decide +kernel
theorem d_X12_isFrom_27 : decode cX12_isFrom 27 = .ok (.iconst 1, 1) := by decide +kernel
theorem d_X12_isFrom_28 : decode cX12_isFrom 28 = .ok (.goto 4, 3) := by decide +kernel
theorem d_X12_isFrom_31 : decode cX12_isFrom 31 = .ok (.iconst 0, 1) := by decide +kernel
theorem d_X12_isFrom_32 : decode cX12_isFrom 32 = .ok (.ireturn, 1) := by decide +kernel
def k_X12_isFrom_32 (P : xP) : xK := x_zret P
set_option maxRecDepth 20000 in
theorem t_X12_isFrom_32 {p : Program} {l : Launch} {e : Env} {s : State} {m : MethodId} {args : Array Value} {below : List Frame} {meth : Method} {c : Code} {g : xG} (X : xX p s m args c meth cX12_isFrom RX12 3 g) (hr : meth.sig.returnType = (some .boolean)) {P : xP} : xAt p l e { frames := 1, cells := 0, slots := 0, locals := 21 } s m args below meth c g 3 xFT xN 0 0 (MQ below (xQc g xFT xN P) args s 0 0 (xFr g)) (k_X12_isFrom_32 P) 32 := by
  unfold k_X12_isFrom_32
  exact r_zret (pc := 32) X hr d_X12_isFrom_32
def k_X12_isFrom_31 (P : xP) : xK := x_push (.int 0) ((k_X12_isFrom_32 P))
set_option maxRecDepth 20000 in
theorem t_X12_isFrom_31 {p : Program} {l : Launch} {e : Env} {s : State} {m : MethodId} {args : Array Value} {below : List Frame} {meth : Method} {c : Code} {g : xG} (X : xX p s m args c meth cX12_isFrom RX12 3 g) (hr : meth.sig.returnType = (some .boolean)) {P : xP} : xAt p l e { frames := 1, cells := 0, slots := 0, locals := 21 } s m args below meth c g 3 xFT xN 0 0 (MQ below (xQc g xFT xN P) args s 0 0 (xFr g)) (k_X12_isFrom_31 P) 31 := by
  unfold k_X12_isFrom_31
  refine r_iconst (pc := 31) X d_X12_isFrom_31 (by decide +kernel) ?_
  exact t_X12_isFrom_32 X hr
def k_X12_isFrom_0 (P : xP) : xK := x_iload 1 (x_push (.int 1) (x_icmp_le ((k_X12_isFrom_31 P)) (x_aload 0 (y_getF 180 190 (x_iload 2 (y_iald 190 42 (x_push (.int 8) (x_aload 0 (x_aload 0 (y_getF 180 188 (x_iload 1 (y_iald 188 42 (y_cv1 180 (w_RI f_X12_kindOf) (x_iadd (x_icmp_ne ((k_X12_isFrom_31 P)) (x_push (.int 1) ((k_X12_isFrom_32 P))))))))))))))))))
set_option maxRecDepth 20000 in
theorem t_X12_isFrom_0 {p : Program} {l : Launch} {e : Env} {s : State} {m : MethodId} {args : Array Value} {below : List Frame} {meth : Method} {c : Code} {g : xG} (X : xX p s m args c meth cX12_isFrom RX12 3 g) (hr : meth.sig.returnType = (some .boolean)) {P : xP} : xAt p l e { frames := 1, cells := 0, slots := 0, locals := 21 } s m args below meth c g 3 xFT xN 0 0 (MQ below (xQc g xFT xN P) args s 0 0 (xFr g)) (k_X12_isFrom_0 P) 0 := by
  unfold k_X12_isFrom_0
  refine r_iload_n (pc := 0) X d_X12_isFrom_0 fn1 ?_
  refine r_iconst (pc := 1) X d_X12_isFrom_1 (by decide +kernel) ?_
  refine r_icmp_le (pc := 2) (tgt := 31) X d_X12_isFrom_2 (by decide +kernel) ?_ ?_
  · exact t_X12_isFrom_31 X hr
  · refine r_aload_n (pc := 5) X d_X12_isFrom_5 fn0 ?_
    refine s_getF (pc := 6) (ci := 12) (k := 22) X xok12 (by decide +kernel) ob_180 trivial ly_180_22 (by decide +kernel) fl_RX12_56 d_X12_isFrom_6 ?_
    refine r_iload_n (pc := 9) X d_X12_isFrom_9 fn2 ?_
    refine s_iald (pc := 10) X tn_190 ln_190 d_X12_isFrom_10 ?_
    refine r_bipush (pc := 11) X d_X12_isFrom_11 (by decide +kernel) ?_
    refine r_aload_n (pc := 13) X d_X12_isFrom_13 fn0 ?_
    refine r_aload_n (pc := 14) X d_X12_isFrom_14 fn0 ?_
    refine s_getF (pc := 15) (ci := 12) (k := 20) X xok12 (by decide +kernel) ob_180 trivial ly_180_20 (by decide +kernel) fl_RX12_50 d_X12_isFrom_15 ?_
    refine r_iload_n (pc := 18) X d_X12_isFrom_18 fn1 ?_
    refine s_iald (pc := 19) X tn_188 ln_188 d_X12_isFrom_19 ?_
    refine s_cv1 (pc := 20) (ci := 12) X xok12 (by decide +kernel) ob_180 rfl (con_X12_kindOf l) mf_X12_kindOf ml_RX12_363 (by decide +kernel) (by decide +kernel) d_X12_isFrom_20 ?_
    refine r_iadd (pc := 23) X d_X12_isFrom_23 ?_
    refine r_icmp_ne (pc := 24) (tgt := 31) X d_X12_isFrom_24 (by decide +kernel) ?_ ?_
    · exact t_X12_isFrom_31 X hr
    · refine r_iconst (pc := 27) X d_X12_isFrom_27 (by decide +kernel) ?_
      refine r_goto (pc := 28) (tgt := 32) X d_X12_isFrom_28 (by decide +kernel) ?_
      exact t_X12_isFrom_32 X hr
def f_X12_isFrom (a0 : Nat) (a1 : Int32) (a2 : Int32) (A : xH) (P : xP) : Prop := k_X12_isFrom_0 P [some (.ref a0), some (.int a1), some (.int a2)] [] A
set_option maxRecDepth 20000 in
theorem con_X12_isFrom (l : Launch) : xCon l yX12_isFrom cX12_isFrom 3 (some .boolean) 1 21 xN xN 0 xFT xFT (w_RII f_X12_isFrom) :=
  xc_RII (plainFor_of_name pn_RX12) (by decide +kernel) (fun p e s m args below meth c g a0 a1 a2 A P h X hr _ => ⟨_, h, t_X12_isFrom_0 X hr⟩)
theorem d_X12_isPair_0 : decode cX12_isPair 0 = .ok (.iconst 0, 1) := by decide +kernel
theorem d_X12_isPair_1 : decode cX12_isPair 1 = .ok (.istore_n 3, 1) := by decide +kernel
theorem d_X12_isPair_2 : decode cX12_isPair 2 = .ok (.iconst 2, 1) := by decide +kernel
theorem d_X12_isPair_3 : decode cX12_isPair 3 = .ok (.istore 4, 2) := by decide +kernel
theorem d_X12_isPair_5 : decode cX12_isPair 5 = .ok (.iload 4, 2) := by decide +kernel
theorem d_X12_isPair_7 : decode cX12_isPair 7 = .ok (.aload_n 0, 1) := by decide +kernel
theorem d_X12_isPair_8 : decode cX12_isPair 8 = .ok (.getfield 328, 3) := by decide +kernel
theorem d_X12_isPair_11 : decode cX12_isPair 11 = .ok (.if_icmp .ge 83, 3) := by decide +kernel
theorem d_X12_isPair_14 : decode cX12_isPair 14 = .ok (.iload_n 3, 1) := by decide +kernel
theorem d_X12_isPair_15 : decode cX12_isPair 15 = .ok (.ifCond .ne 79, 3) := by decide +kernel
theorem d_X12_isPair_18 : decode cX12_isPair 18 = .ok (.aload_n 0, 1) := by decide +kernel
theorem d_X12_isPair_19 : decode cX12_isPair 19 = .ok (.getfield 30, 3) := by decide +kernel
theorem d_X12_isPair_22 : decode cX12_isPair 22 = .ok (.bipush 54, 2) := by decide +kernel
theorem d_X12_isPair_24 : decode cX12_isPair 24 = .ok (.iload 4, 2) := by decide +kernel
theorem d_X12_isPair_26 : decode cX12_isPair 26 = .ok (.iadd, 1) := by decide +kernel
theorem d_X12_isPair_27 : decode cX12_isPair 27 = .ok (.iaload, 1) := by decide +kernel
theorem d_X12_isPair_28 : decode cX12_isPair 28 = .ok (.iload_n 1, 1) := by decide +kernel
theorem d_X12_isPair_29 : decode cX12_isPair 29 = .ok (.if_icmp .eq 6, 3) := by decide +kernel
theorem d_X12_isPair_32 : decode cX12_isPair 32 = .ok (.goto 56, 3) := by decide +kernel
theorem d_X12_isPair_35 : decode cX12_isPair 35 = .ok (.iconst 0, 1) := by decide +kernel
theorem d_X12_isPair_36 : decode cX12_isPair 36 = .ok (.istore 5, 2) := by decide +kernel
theorem d_X12_isPair_38 : decode cX12_isPair 38 = .ok (.iload 5, 2) := by decide +kernel
theorem d_X12_isPair_40 : decode cX12_isPair 40 = .ok (.aload_n 0, 1) := by decide +kernel
theorem d_X12_isPair_41 : decode cX12_isPair 41 = .ok (.getfield 328, 3) := by decide +kernel
theorem d_X12_isPair_44 : decode cX12_isPair 44 = .ok (.if_icmp .ge 44, 3) := by decide +kernel
theorem d_X12_isPair_47 : decode cX12_isPair 47 = .ok (.iload_n 3, 1) := by decide +kernel
theorem d_X12_isPair_48 : decode cX12_isPair 48 = .ok (.ifCond .ne 28, 3) := by decide +kernel
theorem d_X12_isPair_51 : decode cX12_isPair 51 = .ok (.aload_n 0, 1) := by decide +kernel
theorem d_X12_isPair_52 : decode cX12_isPair 52 = .ok (.getfield 30, 3) := by decide +kernel
theorem d_X12_isPair_55 : decode cX12_isPair 55 = .ok (.bipush 54, 2) := by decide +kernel
theorem d_X12_isPair_57 : decode cX12_isPair 57 = .ok (.iload 5, 2) := by decide +kernel
theorem d_X12_isPair_59 : decode cX12_isPair 59 = .ok (.iadd, 1) := by decide +kernel
theorem d_X12_isPair_60 : decode cX12_isPair 60 = .ok (.iaload, 1) := by decide +kernel
theorem d_X12_isPair_61 : decode cX12_isPair 61 = .ok (.iload_n 2, 1) := by decide +kernel
theorem d_X12_isPair_62 : decode cX12_isPair 62 = .ok (.if_icmp .ne 18, 3) := by decide +kernel
theorem d_X12_isPair_65 : decode cX12_isPair 65 = .ok (.aload_n 0, 1) := by decide +kernel
theorem d_X12_isPair_66 : decode cX12_isPair 66 = .ok (.iload 4, 2) := by decide +kernel
theorem d_X12_isPair_68 : decode cX12_isPair 68 = .ok (.iload 5, 2) := by decide +kernel
theorem d_X12_isPair_70 : decode cX12_isPair 70 = .ok (.invokevirtual 390, 3) := by decide +kernel
theorem d_X12_isPair_73 : decode cX12_isPair 73 = .ok (.ifCond .eq 7, 3) := by decide +kernel
theorem d_X12_isPair_76 : decode cX12_isPair 76 = .ok (.iconst 1, 1) := by decide +kernel
theorem d_X12_isPair_77 : decode cX12_isPair 77 = .ok (.goto 4, 3) := by decide +kernel
theorem d_X12_isPair_80 : decode cX12_isPair 80 = .ok (.iconst 0, 1) := by decide +kernel
theorem d_X12_isPair_81 : decode cX12_isPair 81 = .ok (.istore_n 3, 1) := by decide +kernel
theorem d_X12_isPair_82 : decode cX12_isPair 82 = .ok (.iinc 5 1, 3) := by decide +kernel
theorem d_X12_isPair_85 : decode cX12_isPair 85 = .ok (.goto (-47), 3) := by decide +kernel
theorem d_X12_isPair_88 : decode cX12_isPair 88 = .ok (.iinc 4 1, 3) := by decide +kernel
theorem d_X12_isPair_91 : decode cX12_isPair 91 = .ok (.goto (-86), 3) := by decide +kernel
theorem d_X12_isPair_94 : decode cX12_isPair 94 = .ok (.iload_n 3, 1) := by decide +kernel
theorem d_X12_isPair_95 : decode cX12_isPair 95 = .ok (.ireturn, 1) := by decide +kernel
def k_X12_isPair_0 (P : xP) (C5 : xK) : xK := x_push (.int 0) (x_istore 3 (x_push (.int 2) (x_istore 4 (C5))))
set_option maxRecDepth 20000 in
theorem t_X12_isPair_0 {p : Program} {l : Launch} {e : Env} {s : State} {m : MethodId} {args : Array Value} {below : List Frame} {meth : Method} {c : Code} {g : xG} (X : xX p s m args c meth cX12_isPair RX12 6 g) (hr : meth.sig.returnType = (some .boolean)) {P : xP} {C5 : xK} (h5 : xAt p l e { frames := 2, cells := 0, slots := 0, locals := 43 } s m args below meth c g 6 xFT xN 0 0 (MQ below (xQc g xFT xN P) args s 0 0 (xFr g)) C5 5) : xAt p l e { frames := 2, cells := 0, slots := 0, locals := 43 } s m args below meth c g 6 xFT xN 0 0 (MQ below (xQc g xFT xN P) args s 0 0 (xFr g)) (k_X12_isPair_0 P C5) 0 := by
  unfold k_X12_isPair_0
  refine r_iconst (pc := 0) X d_X12_isPair_0 (by decide +kernel) ?_
  refine r_istore_n (pc := 1) X d_X12_isPair_1 fn3 (by decide +kernel) ?_
  refine r_iconst (pc := 2) X d_X12_isPair_2 (by decide +kernel) ?_
  refine r_istore (pc := 3) X d_X12_isPair_3 (by decide +kernel) ?_
  exact h5
def k_X12_isPair_94 (P : xP) : xK := x_iload 3 (x_zret P)
set_option maxRecDepth 20000 in
theorem t_X12_isPair_94 {p : Program} {l : Launch} {e : Env} {s : State} {m : MethodId} {args : Array Value} {below : List Frame} {meth : Method} {c : Code} {g : xG} (X : xX p s m args c meth cX12_isPair RX12 6 g) (hr : meth.sig.returnType = (some .boolean)) {P : xP} : xAt p l e { frames := 2, cells := 0, slots := 0, locals := 43 } s m args below meth c g 6 xFT xN 0 0 (MQ below (xQc g xFT xN P) args s 0 0 (xFr g)) (k_X12_isPair_94 P) 94 := by
  unfold k_X12_isPair_94
  refine r_iload_n (pc := 94) X d_X12_isPair_94 fn3 ?_
  exact r_zret (pc := 95) X hr d_X12_isPair_95
def k_X12_isPair_88 (P : xP) (C5 : xK) : xK := x_iinc 4 1 (C5)
set_option maxRecDepth 20000 in
theorem t_X12_isPair_88 {p : Program} {l : Launch} {e : Env} {s : State} {m : MethodId} {args : Array Value} {below : List Frame} {meth : Method} {c : Code} {g : xG} (X : xX p s m args c meth cX12_isPair RX12 6 g) (hr : meth.sig.returnType = (some .boolean)) {P : xP} {C5 : xK} (h5 : xAt p l e { frames := 2, cells := 0, slots := 0, locals := 43 } s m args below meth c g 6 xFT xN 0 0 (MQ below (xQc g xFT xN P) args s 0 0 (xFr g)) C5 5) : xAt p l e { frames := 2, cells := 0, slots := 0, locals := 43 } s m args below meth c g 6 xFT xN 0 0 (MQ below (xQc g xFT xN P) args s 0 0 (xFr g)) (k_X12_isPair_88 P C5) 88 := by
  unfold k_X12_isPair_88
  refine r_iinc (pc := 88) X d_X12_isPair_88 (by decide +kernel) (by decide +kernel) ?_
  refine r_goto (pc := 91) (tgt := 5) X d_X12_isPair_91 (by decide +kernel) ?_
  exact h5
def k_X12_isPair_5 (P : xP) (C5 : xK) (C38 : xK) : xK := x_iload 4 (x_aload 0 (y_getI 180 24 (x_icmp_ge ((k_X12_isPair_94 P)) (x_iload 3 (x_if_ne ((k_X12_isPair_94 P)) (x_aload 0 (y_getF 180 182 (x_push (.int 54) (x_iload 4 (x_iadd (y_iald 182 232 (x_iload 1 (x_icmp_eq (x_push (.int 0) (x_istore 5 (C38))) ((k_X12_isPair_88 P C5)))))))))))))))
set_option maxRecDepth 20000 in
theorem t_X12_isPair_5 {p : Program} {l : Launch} {e : Env} {s : State} {m : MethodId} {args : Array Value} {below : List Frame} {meth : Method} {c : Code} {g : xG} (X : xX p s m args c meth cX12_isPair RX12 6 g) (hr : meth.sig.returnType = (some .boolean)) {P : xP} {C5 : xK} {C38 : xK} (h5 : xAt p l e { frames := 2, cells := 0, slots := 0, locals := 43 } s m args below meth c g 6 xFT xN 0 0 (MQ below (xQc g xFT xN P) args s 0 0 (xFr g)) C5 5) (h38 : xAt p l e { frames := 2, cells := 0, slots := 0, locals := 43 } s m args below meth c g 6 xFT xN 0 0 (MQ below (xQc g xFT xN P) args s 0 0 (xFr g)) C38 38) : xAt p l e { frames := 2, cells := 0, slots := 0, locals := 43 } s m args below meth c g 6 xFT xN 0 0 (MQ below (xQc g xFT xN P) args s 0 0 (xFr g)) (k_X12_isPair_5 P C5 C38) 5 := by
  unfold k_X12_isPair_5
  refine r_iload (pc := 5) X d_X12_isPair_5 ?_
  refine r_aload_n (pc := 7) X d_X12_isPair_7 fn0 ?_
  refine s_getI (pc := 8) (ci := 12) X xok12 (by decide +kernel) ob_180 (by decide +kernel) fl_RX12_328 d_X12_isPair_8 ?_
  refine r_icmp_ge (pc := 11) (tgt := 94) X d_X12_isPair_11 (by decide +kernel) ?_ ?_
  · exact t_X12_isPair_94 X hr
  · refine r_iload_n (pc := 14) X d_X12_isPair_14 fn3 ?_
    refine r_if_ne (pc := 15) (tgt := 94) X d_X12_isPair_15 (by decide +kernel) ?_ ?_
    · exact t_X12_isPair_94 X hr
    · refine r_aload_n (pc := 18) X d_X12_isPair_18 fn0 ?_
      refine s_getF (pc := 19) (ci := 12) (k := 5) X xok12 (by decide +kernel) ob_180 trivial ly_180_5 (by decide +kernel) fl_RX12_30 d_X12_isPair_19 ?_
      refine r_bipush (pc := 22) X d_X12_isPair_22 (by decide +kernel) ?_
      refine r_iload (pc := 24) X d_X12_isPair_24 ?_
      refine r_iadd (pc := 26) X d_X12_isPair_26 ?_
      refine s_iald (pc := 27) X tn_182 ln_182 d_X12_isPair_27 ?_
      refine r_iload_n (pc := 28) X d_X12_isPair_28 fn1 ?_
      refine r_icmp_eq (pc := 29) (tgt := 35) X d_X12_isPair_29 (by decide +kernel) ?_ ?_
      · refine r_iconst (pc := 35) X d_X12_isPair_35 (by decide +kernel) ?_
        refine r_istore (pc := 36) X d_X12_isPair_36 (by decide +kernel) ?_
        exact h38
      · refine r_goto (pc := 32) (tgt := 88) X d_X12_isPair_32 (by decide +kernel) ?_
        exact t_X12_isPair_88 X hr h5
def k_X12_isPair_81 (P : xP) (C38 : xK) : xK := x_istore 3 (x_iinc 5 1 (C38))
set_option maxRecDepth 20000 in
theorem t_X12_isPair_81 {p : Program} {l : Launch} {e : Env} {s : State} {m : MethodId} {args : Array Value} {below : List Frame} {meth : Method} {c : Code} {g : xG} (X : xX p s m args c meth cX12_isPair RX12 6 g) (hr : meth.sig.returnType = (some .boolean)) {P : xP} {C38 : xK} (h38 : xAt p l e { frames := 2, cells := 0, slots := 0, locals := 43 } s m args below meth c g 6 xFT xN 0 0 (MQ below (xQc g xFT xN P) args s 0 0 (xFr g)) C38 38) : xAt p l e { frames := 2, cells := 0, slots := 0, locals := 43 } s m args below meth c g 6 xFT xN 0 0 (MQ below (xQc g xFT xN P) args s 0 0 (xFr g)) (k_X12_isPair_81 P C38) 81 := by
  unfold k_X12_isPair_81
  refine r_istore_n (pc := 81) X d_X12_isPair_81 fn3 (by decide +kernel) ?_
  refine r_iinc (pc := 82) X d_X12_isPair_82 (by decide +kernel) (by decide +kernel) ?_
  refine r_goto (pc := 85) (tgt := 38) X d_X12_isPair_85 (by decide +kernel) ?_
  exact h38
def k_X12_isPair_76 (P : xP) (C38 : xK) : xK := x_push (.int 1) ((k_X12_isPair_81 P C38))
set_option maxRecDepth 20000 in
theorem t_X12_isPair_76 {p : Program} {l : Launch} {e : Env} {s : State} {m : MethodId} {args : Array Value} {below : List Frame} {meth : Method} {c : Code} {g : xG} (X : xX p s m args c meth cX12_isPair RX12 6 g) (hr : meth.sig.returnType = (some .boolean)) {P : xP} {C38 : xK} (h38 : xAt p l e { frames := 2, cells := 0, slots := 0, locals := 43 } s m args below meth c g 6 xFT xN 0 0 (MQ below (xQc g xFT xN P) args s 0 0 (xFr g)) C38 38) : xAt p l e { frames := 2, cells := 0, slots := 0, locals := 43 } s m args below meth c g 6 xFT xN 0 0 (MQ below (xQc g xFT xN P) args s 0 0 (xFr g)) (k_X12_isPair_76 P C38) 76 := by
  unfold k_X12_isPair_76
  refine r_iconst (pc := 76) X d_X12_isPair_76 (by decide +kernel) ?_
  refine r_goto (pc := 77) (tgt := 81) X d_X12_isPair_77 (by decide +kernel) ?_
  exact t_X12_isPair_81 X hr h38
def k_X12_isPair_80 (P : xP) (C38 : xK) : xK := x_push (.int 0) ((k_X12_isPair_81 P C38))
set_option maxRecDepth 20000 in
theorem t_X12_isPair_80 {p : Program} {l : Launch} {e : Env} {s : State} {m : MethodId} {args : Array Value} {below : List Frame} {meth : Method} {c : Code} {g : xG} (X : xX p s m args c meth cX12_isPair RX12 6 g) (hr : meth.sig.returnType = (some .boolean)) {P : xP} {C38 : xK} (h38 : xAt p l e { frames := 2, cells := 0, slots := 0, locals := 43 } s m args below meth c g 6 xFT xN 0 0 (MQ below (xQc g xFT xN P) args s 0 0 (xFr g)) C38 38) : xAt p l e { frames := 2, cells := 0, slots := 0, locals := 43 } s m args below meth c g 6 xFT xN 0 0 (MQ below (xQc g xFT xN P) args s 0 0 (xFr g)) (k_X12_isPair_80 P C38) 80 := by
  unfold k_X12_isPair_80
  refine r_iconst (pc := 80) X d_X12_isPair_80 (by decide +kernel) ?_
  exact t_X12_isPair_81 X hr h38
def k_X12_isPair_38 (P : xP) (C5 : xK) (C38 : xK) : xK := x_iload 5 (x_aload 0 (y_getI 180 24 (x_icmp_ge ((k_X12_isPair_88 P C5)) (x_iload 3 (x_if_ne ((k_X12_isPair_76 P C38)) (x_aload 0 (y_getF 180 182 (x_push (.int 54) (x_iload 5 (x_iadd (y_iald 182 232 (x_iload 2 (x_icmp_ne ((k_X12_isPair_80 P C38)) (x_aload 0 (x_iload 4 (x_iload 5 (y_cv2 180 (w_RII f_X12_isFrom) (x_if_eq ((k_X12_isPair_80 P C38)) ((k_X12_isPair_76 P C38))))))))))))))))))))
set_option maxRecDepth 20000 in
theorem t_X12_isPair_38 {p : Program} {l : Launch} {e : Env} {s : State} {m : MethodId} {args : Array Value} {below : List Frame} {meth : Method} {c : Code} {g : xG} (X : xX p s m args c meth cX12_isPair RX12 6 g) (hr : meth.sig.returnType = (some .boolean)) {P : xP} {C5 : xK} {C38 : xK} (h5 : xAt p l e { frames := 2, cells := 0, slots := 0, locals := 43 } s m args below meth c g 6 xFT xN 0 0 (MQ below (xQc g xFT xN P) args s 0 0 (xFr g)) C5 5) (h38 : xAt p l e { frames := 2, cells := 0, slots := 0, locals := 43 } s m args below meth c g 6 xFT xN 0 0 (MQ below (xQc g xFT xN P) args s 0 0 (xFr g)) C38 38) : xAt p l e { frames := 2, cells := 0, slots := 0, locals := 43 } s m args below meth c g 6 xFT xN 0 0 (MQ below (xQc g xFT xN P) args s 0 0 (xFr g)) (k_X12_isPair_38 P C5 C38) 38 := by
  unfold k_X12_isPair_38
  refine r_iload (pc := 38) X d_X12_isPair_38 ?_
  refine r_aload_n (pc := 40) X d_X12_isPair_40 fn0 ?_
  refine s_getI (pc := 41) (ci := 12) X xok12 (by decide +kernel) ob_180 (by decide +kernel) fl_RX12_328 d_X12_isPair_41 ?_
  refine r_icmp_ge (pc := 44) (tgt := 88) X d_X12_isPair_44 (by decide +kernel) ?_ ?_
  · exact t_X12_isPair_88 X hr h5
  · refine r_iload_n (pc := 47) X d_X12_isPair_47 fn3 ?_
    refine r_if_ne (pc := 48) (tgt := 76) X d_X12_isPair_48 (by decide +kernel) ?_ ?_
    · exact t_X12_isPair_76 X hr h38
    · refine r_aload_n (pc := 51) X d_X12_isPair_51 fn0 ?_
      refine s_getF (pc := 52) (ci := 12) (k := 5) X xok12 (by decide +kernel) ob_180 trivial ly_180_5 (by decide +kernel) fl_RX12_30 d_X12_isPair_52 ?_
      refine r_bipush (pc := 55) X d_X12_isPair_55 (by decide +kernel) ?_
      refine r_iload (pc := 57) X d_X12_isPair_57 ?_
      refine r_iadd (pc := 59) X d_X12_isPair_59 ?_
      refine s_iald (pc := 60) X tn_182 ln_182 d_X12_isPair_60 ?_
      refine r_iload_n (pc := 61) X d_X12_isPair_61 fn2 ?_
      refine r_icmp_ne (pc := 62) (tgt := 80) X d_X12_isPair_62 (by decide +kernel) ?_ ?_
      · exact t_X12_isPair_80 X hr h38
      · refine r_aload_n (pc := 65) X d_X12_isPair_65 fn0 ?_
        refine r_iload (pc := 66) X d_X12_isPair_66 ?_
        refine r_iload (pc := 68) X d_X12_isPair_68 ?_
        refine s_cv2 (pc := 70) (ci := 12) X xok12 (by decide +kernel) ob_180 rfl (con_X12_isFrom l) mf_X12_isFrom ml_RX12_390 (by decide +kernel) (by decide +kernel) d_X12_isPair_70 ?_
        refine r_if_eq (pc := 73) (tgt := 80) X d_X12_isPair_73 (by decide +kernel) ?_ ?_
        · exact t_X12_isPair_80 X hr h38
        · exact t_X12_isPair_76 X hr h38
set_option maxRecDepth 20000 in
theorem m_X12_isPair {l : Launch} {f : Nat → Int32 → Int32 → xH → xP → Prop}  {I5 : Nat → Int32 → Int32 → xH → xP → xM → xK} {I38 : Nat → Int32 → Int32 → xH → xP → xM → xK}
    (v0 : ∀ (a0 : Nat) (a1 : Int32) (a2 : Int32) (A : xH) (P : xP), f a0 a1 a2 A P → k_X12_isPair_0 P (xE (I5 a0 a1 a2 A P)) [some (.ref a0), some (.int a1), some (.int a2), none, none, none] [] A)
    (v5 : ∀ (a0 : Nat) (a1 : Int32) (a2 : Int32) (A : xH) (P : xP), f a0 a1 a2 A P → ∀ (μ : xM) (L : xL) (st : List Value) (B : xH), I5 a0 a1 a2 A P μ L st B → k_X12_isPair_5 P (xB (I5 a0 a1 a2 A P) μ) (xB (I38 a0 a1 a2 A P) μ) L st B)
    (v38 : ∀ (a0 : Nat) (a1 : Int32) (a2 : Int32) (A : xH) (P : xP), f a0 a1 a2 A P → ∀ (μ : xM) (L : xL) (st : List Value) (B : xH), I38 a0 a1 a2 A P μ L st B → k_X12_isPair_38 P (xB (I5 a0 a1 a2 A P) μ) (xB (I38 a0 a1 a2 A P) μ) L st B) : xCon l yX12_isPair cX12_isPair 6 (some .boolean) 2 43 xN xN 0 xFT xFT (w_RII f) := by
  refine xc_RII (plainFor_of_name pn_RX12) (by decide +kernel) (fun p e s m args below meth c g a0 a1 a2 A P h X hr _ => ?_)
  obtain ⟨h5, h38⟩ := x_loop2 (p := p) (l := l) (e := e) (R := { frames := 2, cells := 0, slots := 0, locals := 43 }) (s := s) (m := m) (args := args) (below := below) (meth := meth) (c := c) (g := g) (nL := 6) (F := xFT) (n := xN) (cells := 0) (slots := 0) (Q := MQ below (xQc g xFT xN P) args s 0 0 (xFr g)) (I1 := I5 a0 a1 a2 A P) (I2 := I38 a0 a1 a2 A P) (pc1 := 5) (pc2 := 38) (fun μ i5 i38 => xAt_mono (t_X12_isPair_5 (P := P) X hr i5 i38) (v5 a0 a1 a2 A P h μ)) (fun μ i5 i38 => xAt_mono (t_X12_isPair_38 (P := P) X hr i5 i38) (v38 a0 a1 a2 A P h μ))
  exact ⟨_, v0 a0 a1 a2 A P h, t_X12_isPair_0 X hr h5⟩
theorem d_X12_newPlace_0 : decode cX12_newPlace 0 = .ok (.aload_n 0, 1) := by decide +kernel
theorem d_X12_newPlace_1 : decode cX12_newPlace 1 = .ok (.getfield 393, 3) := by decide +kernel
theorem d_X12_newPlace_4 : decode cX12_newPlace 4 = .ok (.bipush 80, 2) := by decide +kernel
theorem d_X12_newPlace_6 : decode cX12_newPlace 6 = .ok (.if_icmp .ne 5, 3) := by decide +kernel
theorem d_X12_newPlace_9 : decode cX12_newPlace 9 = .ok (.iconst 0, 1) := by decide +kernel
theorem d_X12_newPlace_10 : decode cX12_newPlace 10 = .ok (.ireturn, 1) := by decide +kernel
theorem d_X12_newPlace_11 : decode cX12_newPlace 11 = .ok (.aload_n 0, 1) := by decide +kernel
theorem d_X12_newPlace_12 : decode cX12_newPlace 12 = .ok (.getfield 71, 3) := by decide +kernel
theorem d_X12_newPlace_15 : decode cX12_newPlace 15 = .ok (.aload_n 0, 1) := by decide +kernel
theorem d_X12_newPlace_16 : decode cX12_newPlace 16 = .ok (.getfield 393, 3) := by decide +kernel
theorem d_X12_newPlace_19 : decode cX12_newPlace 19 = .ok (.iload_n 1, 1) := by decide +kernel
theorem d_X12_newPlace_20 : decode cX12_newPlace 20 = .ok (.iastore, 1) := by decide +kernel
theorem d_X12_newPlace_21 : decode cX12_newPlace 21 = .ok (.aload_n 0, 1) := by decide +kernel
theorem d_X12_newPlace_22 : decode cX12_newPlace 22 = .ok (.getfield 74, 3) := by decide +kernel
theorem d_X12_newPlace_25 : decode cX12_newPlace 25 = .ok (.aload_n 0, 1) := by decide +kernel
theorem d_X12_newPlace_26 : decode cX12_newPlace 26 = .ok (.getfield 393, 3) := by decide +kernel
theorem d_X12_newPlace_29 : decode cX12_newPlace 29 = .ok (.iload_n 2, 1) := by decide +kernel
theorem d_X12_newPlace_30 : decode cX12_newPlace 30 = .ok (.iastore, 1) := by decide +kernel
theorem d_X12_newPlace_31 : decode cX12_newPlace 31 = .ok (.aload_n 0, 1) := by decide +kernel
theorem d_X12_newPlace_32 : decode cX12_newPlace 32 = .ok (.getfield 77, 3) := by decide +kernel
theorem d_X12_newPlace_35 : decode cX12_newPlace 35 = .ok (.bipush 42, 2) := by decide +kernel
theorem d_X12_newPlace_37 : decode cX12_newPlace 37 = .ok (.iload_n 1, 1) := by decide +kernel
theorem d_X12_newPlace_38 : decode cX12_newPlace 38 = .ok (.imul, 1) := by decide +kernel
theorem d_X12_newPlace_39 : decode cX12_newPlace 39 = .ok (.iload_n 2, 1) := by decide +kernel
theorem d_X12_newPlace_40 : decode cX12_newPlace 40 = .ok (.ifCond .ge 7, 3) := by decide +kernel
theorem d_X12_newPlace_43 : decode cX12_newPlace 43 = .ok (.iconst 0, 1) := by decide +kernel
theorem d_X12_newPlace_44 : decode cX12_newPlace 44 = .ok (.goto 4, 3) := by decide +kernel
theorem d_X12_newPlace_47 : decode cX12_newPlace 47 = .ok (.iload_n 2, 1) := by decide +kernel
theorem d_X12_newPlace_48 : decode cX12_newPlace 48 = .ok (.iadd, 1) := by decide +kernel
theorem d_X12_newPlace_49 : decode cX12_newPlace 49 = .ok (.aload_n 0, 1) := by decide +kernel
theorem d_X12_newPlace_50 : decode cX12_newPlace 50 = .ok (.getfield 393, 3) := by decide +kernel
theorem d_X12_newPlace_53 : decode cX12_newPlace 53 = .ok (.iastore, 1) := by decide +kernel
theorem d_X12_newPlace_54 : decode cX12_newPlace 54 = .ok (.aload_n 0, 1) := by decide +kernel
theorem d_X12_newPlace_55 : decode cX12_newPlace 55 = .ok (.dup, 1) := by decide +kernel
theorem d_X12_newPlace_56 : decode cX12_newPlace 56 = .ok (.getfield 393, 3) := by decide +kernel
theorem d_X12_newPlace_59 : decode cX12_newPlace 59 = .ok (.iconst 1, 1) := by decide +kernel
theorem d_X12_newPlace_60 : decode cX12_newPlace 60 = .ok (.iadd, 1) := by decide +kernel
theorem d_X12_newPlace_61 : decode cX12_newPlace 61 = .ok (.putfield 393, 3) := by decide +kernel
theorem d_X12_newPlace_64 : decode cX12_newPlace 64 = .ok (.iconst 1, 1) := by decide +kernel
theorem d_X12_newPlace_65 : decode cX12_newPlace 65 = .ok (.ireturn, 1) := by decide +kernel
def k_X12_newPlace_48 (P : xP) : xK := x_iadd (x_aload 0 (y_getI 180 40 (x_iast xN (x_aload 0 (x_dup (y_getI 180 40 (x_push (.int 1) (x_iadd (y_putI 180 40 (x_push (.int 1) (x_zret P)))))))))))
set_option maxRecDepth 20000 in
theorem t_X12_newPlace_48 {p : Program} {l : Launch} {e : Env} {s : State} {m : MethodId} {args : Array Value} {below : List Frame} {meth : Method} {c : Code} {g : xG} (X : xX p s m args c meth cX12_newPlace RX12 3 g) (hr : meth.sig.returnType = (some .boolean)) {P : xP} : xAt p l e { frames := 0, cells := 0, slots := 0, locals := 0 } s m args below meth c g 3 xFT xN 0 0 (MQ below (xQc g xFT xN P) args s 0 0 (xFr g)) (k_X12_newPlace_48 P) 48 := by
  unfold k_X12_newPlace_48
  refine r_iadd (pc := 48) X d_X12_newPlace_48 ?_
  refine r_aload_n (pc := 49) X d_X12_newPlace_49 fn0 ?_
  refine s_getI (pc := 50) (ci := 12) X xok12 (by decide +kernel) ob_180 (by decide +kernel) fl_RX12_393 d_X12_newPlace_50 ?_
  refine r_iast (pc := 53) X d_X12_newPlace_53 ?_
  refine r_aload_n (pc := 54) X d_X12_newPlace_54 fn0 ?_
  refine r_dup (pc := 55) X d_X12_newPlace_55 ?_
  refine s_getI (pc := 56) (ci := 12) X xok12 (by decide +kernel) ob_180 (by decide +kernel) fl_RX12_393 d_X12_newPlace_56 ?_
  refine r_iconst (pc := 59) X d_X12_newPlace_59 (by decide +kernel) ?_
  refine r_iadd (pc := 60) X d_X12_newPlace_60 ?_
  refine s_putI (pc := 61) (ci := 12) X xok12 (by decide +kernel) ob_180 (by decide +kernel) (by decide +kernel) (by decide +kernel) fl_RX12_393 d_X12_newPlace_61 ?_
  refine r_iconst (pc := 64) X d_X12_newPlace_64 (by decide +kernel) ?_
  exact r_zret (pc := 65) X hr d_X12_newPlace_65
def k_X12_newPlace_0 (P : xP) : xK := x_aload 0 (y_getI 180 40 (x_push (.int 80) (x_icmp_ne (x_aload 0 (y_getF 180 195 (x_aload 0 (y_getI 180 40 (x_iload 1 (y_iast 195 80 (x_aload 0 (y_getF 180 196 (x_aload 0 (y_getI 180 40 (x_iload 2 (y_iast 196 80 (x_aload 0 (y_getF 180 197 (x_push (.int 42) (x_iload 1 (x_imul (x_iload 2 (x_if_ge (x_iload 2 ((k_X12_newPlace_48 P))) (x_push (.int 0) ((k_X12_newPlace_48 P)))))))))))))))))))))) (x_push (.int 0) (x_zret P)))))
set_option maxRecDepth 20000 in
theorem t_X12_newPlace_0 {p : Program} {l : Launch} {e : Env} {s : State} {m : MethodId} {args : Array Value} {below : List Frame} {meth : Method} {c : Code} {g : xG} (X : xX p s m args c meth cX12_newPlace RX12 3 g) (hr : meth.sig.returnType = (some .boolean)) {P : xP} : xAt p l e { frames := 0, cells := 0, slots := 0, locals := 0 } s m args below meth c g 3 xFT xN 0 0 (MQ below (xQc g xFT xN P) args s 0 0 (xFr g)) (k_X12_newPlace_0 P) 0 := by
  unfold k_X12_newPlace_0
  refine r_aload_n (pc := 0) X d_X12_newPlace_0 fn0 ?_
  refine s_getI (pc := 1) (ci := 12) X xok12 (by decide +kernel) ob_180 (by decide +kernel) fl_RX12_393 d_X12_newPlace_1 ?_
  refine r_bipush (pc := 4) X d_X12_newPlace_4 (by decide +kernel) ?_
  refine r_icmp_ne (pc := 6) (tgt := 11) X d_X12_newPlace_6 (by decide +kernel) ?_ ?_
  · refine r_aload_n (pc := 11) X d_X12_newPlace_11 fn0 ?_
    refine s_getF (pc := 12) (ci := 12) (k := 34) X xok12 (by decide +kernel) ob_180 trivial ly_180_34 (by decide +kernel) fl_RX12_71 d_X12_newPlace_12 ?_
    refine r_aload_n (pc := 15) X d_X12_newPlace_15 fn0 ?_
    refine s_getI (pc := 16) (ci := 12) X xok12 (by decide +kernel) ob_180 (by decide +kernel) fl_RX12_393 d_X12_newPlace_16 ?_
    refine r_iload_n (pc := 19) X d_X12_newPlace_19 fn1 ?_
    refine s_iast (pc := 20) X tn_195 ln_195 d_X12_newPlace_20 ?_
    refine r_aload_n (pc := 21) X d_X12_newPlace_21 fn0 ?_
    refine s_getF (pc := 22) (ci := 12) (k := 35) X xok12 (by decide +kernel) ob_180 trivial ly_180_35 (by decide +kernel) fl_RX12_74 d_X12_newPlace_22 ?_
    refine r_aload_n (pc := 25) X d_X12_newPlace_25 fn0 ?_
    refine s_getI (pc := 26) (ci := 12) X xok12 (by decide +kernel) ob_180 (by decide +kernel) fl_RX12_393 d_X12_newPlace_26 ?_
    refine r_iload_n (pc := 29) X d_X12_newPlace_29 fn2 ?_
    refine s_iast (pc := 30) X tn_196 ln_196 d_X12_newPlace_30 ?_
    refine r_aload_n (pc := 31) X d_X12_newPlace_31 fn0 ?_
    refine s_getF (pc := 32) (ci := 12) (k := 36) X xok12 (by decide +kernel) ob_180 trivial ly_180_36 (by decide +kernel) fl_RX12_77 d_X12_newPlace_32 ?_
    refine r_bipush (pc := 35) X d_X12_newPlace_35 (by decide +kernel) ?_
    refine r_iload_n (pc := 37) X d_X12_newPlace_37 fn1 ?_
    refine r_imul (pc := 38) X d_X12_newPlace_38 ?_
    refine r_iload_n (pc := 39) X d_X12_newPlace_39 fn2 ?_
    refine r_if_ge (pc := 40) (tgt := 47) X d_X12_newPlace_40 (by decide +kernel) ?_ ?_
    · refine r_iload_n (pc := 47) X d_X12_newPlace_47 fn2 ?_
      exact t_X12_newPlace_48 X hr
    · refine r_iconst (pc := 43) X d_X12_newPlace_43 (by decide +kernel) ?_
      refine r_goto (pc := 44) (tgt := 48) X d_X12_newPlace_44 (by decide +kernel) ?_
      exact t_X12_newPlace_48 X hr
  · refine r_iconst (pc := 9) X d_X12_newPlace_9 (by decide +kernel) ?_
    exact r_zret (pc := 10) X hr d_X12_newPlace_10
def f_X12_newPlace (a0 : Nat) (a1 : Int32) (a2 : Int32) (A : xH) (P : xP) : Prop := k_X12_newPlace_0 P [some (.ref a0), some (.int a1), some (.int a2)] [] A
set_option maxRecDepth 20000 in
theorem con_X12_newPlace (l : Launch) : xCon l yX12_newPlace cX12_newPlace 3 (some .boolean) 0 0 xN xN 0 xFT xFT (w_RII f_X12_newPlace) :=
  xc_RII (plainFor_of_name pn_RX12) (by decide +kernel) (fun p e s m args below meth c g a0 a1 a2 A P h X hr _ => ⟨_, h, t_X12_newPlace_0 X hr⟩)
def uI (A : xH) (v : xV) : Prop := isR A v ∧ wfg v ∧ wfc v ∧ itU A v
theorem uI_fr {S : Nat → Nat → Prop} {A B : xH} {v : xV} (h : uI A v) (hf : fr S A B) (hs : ∀ c k, S c k → (195 ≤ c ∧ c ≤ 231) ∨ (c = 180 ∧ 26 ≤ k)) : uI B v := ⟨isR_fr h.1 hf (fun c k w => by have := hs c k w; omega), h.2.1, h.2.2.1, itP_fr h.2.2.2 hf (fun c k w => by have := hs c k w; omega)⟩
def frT (v : xV) (i j : Nat) : Prop := 2 ≤ i ∧ vnx v j = 8 + vrk v (vri v i)
theorem bt_t {p : Prop} (h : p) : bt p = true := bt_iff.mpr h
theorem bt_f {p : Prop} (h : ¬ p) : bt p = false := by
  cases e : bt p
  · rfl
  · exact absurd (bt_iff.mp e) h
theorem isFrom_U {A : xH} {P : xP} {v : xV} {i j : Nat} (h : uI A v) (hi : i < vN v) (hj : j < vN v) (hP : P (some (.int (bI (bt (frT v i j))))) A) : f_X12_isFrom 180 (nI i) (nI j) A P := by
  obtain ⟨hR, hw, hc, hI⟩ := h
  have hN := vN_le hw
  obtain ⟨-, -, hI⟩ := hI
  have hi3 := (hI i hi).1
  have hj3 := (hI j hj).2.2
  unfold f_X12_isFrom
  simp (disch := omega) only [k_X12_isFrom_0, k_X12_isFrom_31, k_X12_isFrom_32, w_RI, x_aload, x_iadd, x_icmp_le, x_icmp_ne, x_iload, x_push, x_zret, y_cv1, y_getF, y_iald, xFT, xbool0, xbool1, Nat.reduceAdd, Nat.zero_add, xgl_0, xgl_s, xgl_n, xst_0, xst_1n, xst_1i, xst_1r, xst_1l, xst_s, set_0, set_s, true_and, and_true, xres, xcat_nil, xcat_i, xcat_r, xcat_l, Nat.add_zero, xble0, xble1, xble2, xble3, xble4, xble5, xble6, xble7, xble8, pk_mul, nI_add, nI_1, nI_leI, nI_ltI, nI_eq, n_in, n_cl, z_eq, z_lt, z_le, z_gt, z_ge, z_qe, o_eq, o_lt, o_le, o_gt, o_ge, vp0, vp1, cl0, cl1, n_sub, n_sub1, n_pm1, n_a0, n_0a, ofn, lN0, Nat.reduceLT, Nat.reduceLeDiff, Nat.reduceMul, Nat.reduceSub, Nat.reduceEqDiff, ne_eq, true_implies, false_implies, not_true_eq_false, not_false_eq_true, and_self, and_true, true_and, and_false, false_and, implies_true, if_true, if_false, i00, i10, i01, i11, ob_0, ob_1, tn_2, ln_2, ob_3, tn_4, ln_4, ob_5, tn_6, ln_6, tn_7, ln_7, ob_8, tn_9, ln_9, tn_10, ln_10, tn_11, ln_11, tn_12, ln_12, tn_13, ln_13, tn_14, ln_14, tn_15, ln_15, tn_16, ln_16, tn_17, ln_17, ob_18, tn_19, ln_19, tn_20, ln_20, tn_21, ln_21, tn_22, ln_22, tn_23, ln_23, tn_24, ln_24, tn_25, ln_25, tn_26, ln_26, tn_27, ln_27, ob_28, tn_29, ln_29, tn_30, ln_30, ob_31, tn_32, ln_32, tn_33, ln_33, ob_34, ob_35, tn_36, ln_36, tn_37, ln_37, tn_38, ln_38, ob_39, tn_40, ln_40, tn_41, ln_41, tn_42, ln_42, tn_43, ln_43, tn_44, ln_44, tn_45, ln_45, tn_46, ln_46, tn_47, ln_47, tn_48, ln_48, tn_49, ln_49, tn_50, ln_50, tn_51, ln_51, ob_52, tn_53, ln_53, tn_54, ln_54, tn_55, ln_55, tn_56, ln_56, ob_57, tn_58, ln_58, tn_59, ln_59, tn_60, ln_60, tn_61, ln_61, tn_62, ln_62, tn_63, ln_63, tn_64, ln_64, tn_65, ln_65, ob_66, tn_67, ln_67, tn_68, ln_68, tn_69, ln_69, tn_70, ln_70, tn_71, ln_71, tn_72, ln_72, tn_73, ln_73, ob_74, tn_75, ln_75, tn_76, ln_76, tn_77, ln_77, tn_78, ln_78, tn_79, ln_79, tn_80, ln_80, tn_81, ln_81, tn_82, ln_82, tn_83, ln_83, ob_84, tn_85, ln_85, tn_86, ln_86, tn_87, ln_87, tn_88, ln_88, tn_89, ln_89, tn_90, ln_90, tn_91, ln_91, tn_92, ln_92, tn_93, ln_93, ob_94, tn_95, ln_95, tn_96, ln_96, tn_97, ln_97, tn_98, ln_98, tn_99, ln_99, tn_100, ln_100, tn_101, ln_101, tn_102, ln_102, tn_103, ln_103, ob_104, tn_105, ln_105, tn_106, ln_106, tn_107, ln_107, tn_108, ln_108, tn_109, ln_109, tn_110, ln_110, tn_111, ln_111, tn_112, ln_112, tn_113, ln_113, ob_114, tn_115, ln_115, tn_116, ln_116, tn_117, ln_117, tn_118, ln_118, tn_119, ln_119, tn_120, ln_120, tn_121, ln_121, tn_122, ln_122, tn_123, ln_123, ob_124, tn_125, ln_125, tn_126, ln_126, tn_127, ln_127, tn_128, ln_128, tn_129, ln_129, tn_130, ln_130, tn_131, ln_131, tn_132, ln_132, tn_133, ln_133, ob_134, tn_135, ln_135, tn_136, ln_136, tn_137, ln_137, tn_138, ln_138, tn_139, ln_139, tn_140, ln_140, tn_141, ln_141, tn_142, ln_142, tn_143, ln_143, ob_144, tn_145, ln_145, tn_146, ln_146, tn_147, ln_147, tn_148, ln_148, tn_149, ln_149, tn_150, ln_150, tn_151, ln_151, tn_152, ln_152, tn_153, ln_153, ob_154, tn_155, ln_155, tn_156, ln_156, tn_157, ln_157, tn_158, ln_158, tn_159, ln_159, tn_160, ln_160, tn_161, ln_161, tn_162, ln_162, tn_163, ln_163, ob_164, tn_165, ln_165, tn_166, ln_166, ob_167, tn_168, ln_168, tn_169, ln_169, tn_170, ln_170, tn_171, ln_171, tn_172, ln_172, tn_173, ln_173, tn_174, ln_174, tn_175, ln_175, tn_176, ln_176, ob_177, tn_178, ln_178, tn_179, ln_179, ob_180, tn_181, ln_181, tn_182, ln_182, tn_183, ln_183, tn_184, ln_184, tn_185, ln_185, tn_186, ln_186, tn_187, ln_187, tn_188, ln_188, tn_189, ln_189, tn_190, ln_190, tn_191, ln_191, tn_192, ln_192, tn_193, ln_193, tn_194, ln_194, tn_195, ln_195, tn_196, ln_196, tn_197, ln_197, tn_198, ln_198, tn_199, ln_199, tn_200, ln_200, tn_201, ln_201, tn_202, ln_202, tn_203, ln_203, tn_204, ln_204, tn_205, ln_205, tn_206, ln_206, tn_207, ln_207, tn_208, ln_208, tn_209, ln_209, tn_210, ln_210, tn_211, ln_211, tn_212, ln_212, tn_213, ln_213, tn_214, ln_214, tn_215, ln_215, tn_216, ln_216, tn_217, ln_217, tn_218, ln_218, tn_219, ln_219, tn_220, ln_220, tn_221, ln_221, tn_222, ln_222, tn_223, ln_223, tn_224, ln_224, tn_225, ln_225, tn_226, ln_226, tn_227, ln_227, tn_228, ln_228, tn_229, ln_229, tn_230, ln_230, lx2, lx3, lx4, lx5, lx6, lx7, lx8, lx9, lx10, lx14, lx15, lx16, lx18, lx20, lx24, lx25, lx27, lx32, lx36, lx40, lx41, lx42, lx43, lx45, lx48, lx52, lx54, lx56, lx57, lx58, lx60, lx61, lx62, lx63, lx64, lx66, lx69, lx73, lx80, lx81, lx84, lx85, lx87, lx94, lx96, lx97, lx120, lx128, lx135, lx160, lx162, lx163, lx165, lx200, lx232, lx242, lx243, lx255, lx256, lx320, lx325, lx400, lx405, lx464, lx512, lx600, lx640, lx752, lx900, lx940, lx1000, lx1024, lx1764, lx3360, lx3840, lx5000, lx6400, lx9050, lx9998, lx9999, lx10000, lx25600, lx76800, lx99999, hi3, hj3]
  refine ⟨fun q => ?_, fun q => ⟨by omega, by omega, ?_⟩⟩
  · rw [bt_f (fun w => by have := w.1; omega)] at hP
    exact hP
  · have hs := vri_sp (v := v) (i := i) (by omega) hi
    have hk := (hw.2.2.2.2 _ hs.1).1
    have h10 := hw.2.2.1
    have h5 := hw.2.1
    rw [if_neg (by omega), kindOf_E (by omega), isR_k hR hs.1]
    simp (disch := omega) only [k_X12_isFrom_0, k_X12_isFrom_31, k_X12_isFrom_32, w_RI, x_aload, x_iadd, x_icmp_le, x_icmp_ne, x_iload, x_push, x_zret, y_cv1, y_getF, y_iald, xFT, xbool0, xbool1, Nat.reduceAdd, Nat.zero_add, xgl_0, xgl_s, xgl_n, xst_0, xst_1n, xst_1i, xst_1r, xst_1l, xst_s, set_0, set_s, true_and, and_true, xres, xcat_nil, xcat_i, xcat_r, xcat_l, Nat.add_zero, xble0, xble1, xble2, xble3, xble4, xble5, xble6, xble7, xble8, pk_mul, nI_add, nI_1, nI_leI, nI_ltI, nI_eq, n_in, n_cl, z_eq, z_lt, z_le, z_gt, z_ge, z_qe, o_eq, o_lt, o_le, o_gt, o_ge, vp0, vp1, cl0, cl1, n_sub, n_sub1, n_pm1, n_a0, n_0a, ofn, lN0, Nat.reduceLT, Nat.reduceLeDiff, Nat.reduceMul, Nat.reduceSub, Nat.reduceEqDiff, ne_eq, true_implies, false_implies, not_true_eq_false, not_false_eq_true, and_self, and_true, true_and, and_false, false_and, implies_true, if_true, if_false, i00, i10, i01, i11, ob_0, ob_1, tn_2, ln_2, ob_3, tn_4, ln_4, ob_5, tn_6, ln_6, tn_7, ln_7, ob_8, tn_9, ln_9, tn_10, ln_10, tn_11, ln_11, tn_12, ln_12, tn_13, ln_13, tn_14, ln_14, tn_15, ln_15, tn_16, ln_16, tn_17, ln_17, ob_18, tn_19, ln_19, tn_20, ln_20, tn_21, ln_21, tn_22, ln_22, tn_23, ln_23, tn_24, ln_24, tn_25, ln_25, tn_26, ln_26, tn_27, ln_27, ob_28, tn_29, ln_29, tn_30, ln_30, ob_31, tn_32, ln_32, tn_33, ln_33, ob_34, ob_35, tn_36, ln_36, tn_37, ln_37, tn_38, ln_38, ob_39, tn_40, ln_40, tn_41, ln_41, tn_42, ln_42, tn_43, ln_43, tn_44, ln_44, tn_45, ln_45, tn_46, ln_46, tn_47, ln_47, tn_48, ln_48, tn_49, ln_49, tn_50, ln_50, tn_51, ln_51, ob_52, tn_53, ln_53, tn_54, ln_54, tn_55, ln_55, tn_56, ln_56, ob_57, tn_58, ln_58, tn_59, ln_59, tn_60, ln_60, tn_61, ln_61, tn_62, ln_62, tn_63, ln_63, tn_64, ln_64, tn_65, ln_65, ob_66, tn_67, ln_67, tn_68, ln_68, tn_69, ln_69, tn_70, ln_70, tn_71, ln_71, tn_72, ln_72, tn_73, ln_73, ob_74, tn_75, ln_75, tn_76, ln_76, tn_77, ln_77, tn_78, ln_78, tn_79, ln_79, tn_80, ln_80, tn_81, ln_81, tn_82, ln_82, tn_83, ln_83, ob_84, tn_85, ln_85, tn_86, ln_86, tn_87, ln_87, tn_88, ln_88, tn_89, ln_89, tn_90, ln_90, tn_91, ln_91, tn_92, ln_92, tn_93, ln_93, ob_94, tn_95, ln_95, tn_96, ln_96, tn_97, ln_97, tn_98, ln_98, tn_99, ln_99, tn_100, ln_100, tn_101, ln_101, tn_102, ln_102, tn_103, ln_103, ob_104, tn_105, ln_105, tn_106, ln_106, tn_107, ln_107, tn_108, ln_108, tn_109, ln_109, tn_110, ln_110, tn_111, ln_111, tn_112, ln_112, tn_113, ln_113, ob_114, tn_115, ln_115, tn_116, ln_116, tn_117, ln_117, tn_118, ln_118, tn_119, ln_119, tn_120, ln_120, tn_121, ln_121, tn_122, ln_122, tn_123, ln_123, ob_124, tn_125, ln_125, tn_126, ln_126, tn_127, ln_127, tn_128, ln_128, tn_129, ln_129, tn_130, ln_130, tn_131, ln_131, tn_132, ln_132, tn_133, ln_133, ob_134, tn_135, ln_135, tn_136, ln_136, tn_137, ln_137, tn_138, ln_138, tn_139, ln_139, tn_140, ln_140, tn_141, ln_141, tn_142, ln_142, tn_143, ln_143, ob_144, tn_145, ln_145, tn_146, ln_146, tn_147, ln_147, tn_148, ln_148, tn_149, ln_149, tn_150, ln_150, tn_151, ln_151, tn_152, ln_152, tn_153, ln_153, ob_154, tn_155, ln_155, tn_156, ln_156, tn_157, ln_157, tn_158, ln_158, tn_159, ln_159, tn_160, ln_160, tn_161, ln_161, tn_162, ln_162, tn_163, ln_163, ob_164, tn_165, ln_165, tn_166, ln_166, ob_167, tn_168, ln_168, tn_169, ln_169, tn_170, ln_170, tn_171, ln_171, tn_172, ln_172, tn_173, ln_173, tn_174, ln_174, tn_175, ln_175, tn_176, ln_176, ob_177, tn_178, ln_178, tn_179, ln_179, ob_180, tn_181, ln_181, tn_182, ln_182, tn_183, ln_183, tn_184, ln_184, tn_185, ln_185, tn_186, ln_186, tn_187, ln_187, tn_188, ln_188, tn_189, ln_189, tn_190, ln_190, tn_191, ln_191, tn_192, ln_192, tn_193, ln_193, tn_194, ln_194, tn_195, ln_195, tn_196, ln_196, tn_197, ln_197, tn_198, ln_198, tn_199, ln_199, tn_200, ln_200, tn_201, ln_201, tn_202, ln_202, tn_203, ln_203, tn_204, ln_204, tn_205, ln_205, tn_206, ln_206, tn_207, ln_207, tn_208, ln_208, tn_209, ln_209, tn_210, ln_210, tn_211, ln_211, tn_212, ln_212, tn_213, ln_213, tn_214, ln_214, tn_215, ln_215, tn_216, ln_216, tn_217, ln_217, tn_218, ln_218, tn_219, ln_219, tn_220, ln_220, tn_221, ln_221, tn_222, ln_222, tn_223, ln_223, tn_224, ln_224, tn_225, ln_225, tn_226, ln_226, tn_227, ln_227, tn_228, ln_228, tn_229, ln_229, tn_230, ln_230, lx2, lx3, lx4, lx5, lx6, lx7, lx8, lx9, lx10, lx14, lx15, lx16, lx18, lx20, lx24, lx25, lx27, lx32, lx36, lx40, lx41, lx42, lx43, lx45, lx48, lx52, lx54, lx56, lx57, lx58, lx60, lx61, lx62, lx63, lx64, lx66, lx69, lx73, lx80, lx81, lx84, lx85, lx87, lx94, lx96, lx97, lx120, lx128, lx135, lx160, lx162, lx163, lx165, lx200, lx232, lx242, lx243, lx255, lx256, lx320, lx325, lx400, lx405, lx464, lx512, lx600, lx640, lx752, lx900, lx940, lx1000, lx1024, lx1764, lx3360, lx3840, lx5000, lx6400, lx9050, lx9998, lx9999, lx10000, lx25600, lx76800, lx99999]
    have e := oI_eq (n := vnx v j) (m := 8 + vrk v (vri v i)) (vnx_le hw j) (by omega)
    simp only [e]
    refine ⟨fun w => ?_, fun w => ?_⟩
    · rw [bt_f (fun z => w z.2)] at hP
      exact hP
    · rw [bt_t ⟨by omega, w⟩] at hP
      exact hP
theorem pr_pair {v : xV} (hw : wfg v) {g c : Nat} : prB v g c = true ↔ ∃ i, i < vN v ∧ vcl v i = g ∧ ∃ j, j < vN v ∧ vcl v j = c ∧ frT v i j := by
  rw [pr_iff hw]
  constructor
  · rintro ⟨i, a, b, d, j, e1, e2, e3⟩
    exact ⟨i, b, d, j, e1, e2, a, e3⟩
  · rintro ⟨i, b, d, j, e1, e2, a, e3⟩
    exact ⟨i, a, b, d, j, e1, e2, e3⟩
def f_X12_isPair (q : Nat) (x y : Int32) (A : xH) (P : xP) : Prop := q = 180 ∧ ∃ v g c, x = nI g ∧ y = nI c ∧ g < 42 ∧ c < 42 ∧ uI A v ∧ P (some (.int (bI (prB v g c)))) A
/-- found among the items below i, and the callers below j of item i -/
def ipF (v : xV) (g c i : Nat) : Prop := ∃ i', 2 ≤ i' ∧ i' < i ∧ vcl v i' = g ∧ ∃ j, j < vN v ∧ vcl v j = c ∧ frT v i' j
theorem ip_all {v : xV} (hw : wfg v) {g c : Nat} : prB v g c = true ↔ ipF v g c (vN v) := by
  rw [pr_pair hw]
  constructor
  · rintro ⟨i, a, b, j, e1, e2, e3⟩; exact ⟨i, e3.1, a, b, j, e1, e2, e3⟩
  · rintro ⟨i, -, a, b, j, e1, e2, e3⟩; exact ⟨i, a, b, j, e1, e2, e3⟩
theorem ip_mono {v : xV} {g c i n : Nat} (h : ipF v g c i) (hi : i ≤ n) : ipF v g c n := by
  obtain ⟨i', a, b, d⟩ := h
  exact ⟨i', a, by omega, d⟩
theorem ip_skip {v : xV} {g c i : Nat} (h : ¬ vcl v i = g) : ipF v g c i ↔ ipF v g c (i + 1) := by
  constructor
  · exact fun w => ip_mono w (by omega)
  · rintro ⟨i', a, b, d, w⟩
    refine ⟨i', a, ?_, d, w⟩
    have : i' ≠ i := fun e => h (by rw [← e]; exact d)
    omega
def ip5 (A : xH) (P : xP) : xM → xK := fun μ L st B => ∃ v g c i o, g < 42 ∧ c < 42 ∧ uI A v ∧ P (some (.int (bI (prB v g c)))) A ∧ 2 ≤ i ∧ i ≤ vN v ∧ B = A ∧ st = [] ∧ L = [some (.ref 180), some (.int (nI g)), some (.int (nI c)), some (.int (bI (bt (ipF v g c i)))), some (.int (nI i)), o] ∧ μ = (vN v - i, 0, 0)
def ip38 (A : xH) (P : xP) : xM → xK := fun μ L st B => ∃ v g c i j, g < 42 ∧ c < 42 ∧ uI A v ∧ P (some (.int (bI (prB v g c)))) A ∧ 2 ≤ i ∧ i < vN v ∧ vcl v i = g ∧ ¬ ipF v g c i ∧ j ≤ vN v ∧ B = A ∧ st = [] ∧ L = [some (.ref 180), some (.int (nI g)), some (.int (nI c)), some (.int (bI (bt (∃ j', j' < j ∧ vcl v j' = c ∧ frT v i j')))), some (.int (nI i)), some (.int (nI j))] ∧ μ = (vN v - i - 1, 1, vN v - j)
set_option maxRecDepth 20000 in
theorem con_X12_isPair (l : Launch) : xCon l yX12_isPair cX12_isPair 6 (some .boolean) 2 43 xN xN 0 xFT xFT (w_RII f_X12_isPair) := by
  refine m_X12_isPair (I5 := fun q x y A P => ip5 A P) (I38 := fun q x y A P => ip38 A P) ?_ ?_ ?_
  · rintro q x y A P ⟨rfl, v, g, c, rfl, rfl, hg, hc, hU, hP⟩
    simp (disch := omega) only [k_X12_isPair_0, k_X12_isPair_5, k_X12_isPair_38, k_X12_isPair_76, k_X12_isPair_80, k_X12_isPair_81, k_X12_isPair_88, k_X12_isPair_94, f_X12_isFrom, w_RII, x_aload, x_iadd, x_icmp_eq, x_icmp_ge, x_icmp_ne, x_if_eq, x_if_ne, x_iinc, x_iload, x_istore, x_push, x_zret, y_cv2, y_getF, y_getI, y_iald, xFT, xbool0, xbool1, Nat.reduceAdd, Nat.zero_add, xgl_0, xgl_s, xgl_n, xst_0, xst_1n, xst_1i, xst_1r, xst_1l, xst_s, set_0, set_s, true_and, and_true, xres, xcat_nil, xcat_i, xcat_r, xcat_l, Nat.add_zero, xble0, xble1, xble2, xble3, xble4, xble5, xble6, xble7, xble8, pk_mul, nI_add, nI_1, nI_leI, nI_ltI, nI_eq, n_in, n_cl, z_eq, z_lt, z_le, z_gt, z_ge, z_qe, o_eq, o_lt, o_le, o_gt, o_ge, vp0, vp1, cl0, cl1, n_sub, n_sub1, n_pm1, n_a0, n_0a, ofn, lN0, Nat.reduceLT, Nat.reduceLeDiff, Nat.reduceMul, Nat.reduceSub, Nat.reduceEqDiff, ne_eq, true_implies, false_implies, not_true_eq_false, not_false_eq_true, and_self, and_true, true_and, and_false, false_and, implies_true, if_true, if_false, i00, i10, i01, i11, ob_0, ob_1, tn_2, ln_2, ob_3, tn_4, ln_4, ob_5, tn_6, ln_6, tn_7, ln_7, ob_8, tn_9, ln_9, tn_10, ln_10, tn_11, ln_11, tn_12, ln_12, tn_13, ln_13, tn_14, ln_14, tn_15, ln_15, tn_16, ln_16, tn_17, ln_17, ob_18, tn_19, ln_19, tn_20, ln_20, tn_21, ln_21, tn_22, ln_22, tn_23, ln_23, tn_24, ln_24, tn_25, ln_25, tn_26, ln_26, tn_27, ln_27, ob_28, tn_29, ln_29, tn_30, ln_30, ob_31, tn_32, ln_32, tn_33, ln_33, ob_34, ob_35, tn_36, ln_36, tn_37, ln_37, tn_38, ln_38, ob_39, tn_40, ln_40, tn_41, ln_41, tn_42, ln_42, tn_43, ln_43, tn_44, ln_44, tn_45, ln_45, tn_46, ln_46, tn_47, ln_47, tn_48, ln_48, tn_49, ln_49, tn_50, ln_50, tn_51, ln_51, ob_52, tn_53, ln_53, tn_54, ln_54, tn_55, ln_55, tn_56, ln_56, ob_57, tn_58, ln_58, tn_59, ln_59, tn_60, ln_60, tn_61, ln_61, tn_62, ln_62, tn_63, ln_63, tn_64, ln_64, tn_65, ln_65, ob_66, tn_67, ln_67, tn_68, ln_68, tn_69, ln_69, tn_70, ln_70, tn_71, ln_71, tn_72, ln_72, tn_73, ln_73, ob_74, tn_75, ln_75, tn_76, ln_76, tn_77, ln_77, tn_78, ln_78, tn_79, ln_79, tn_80, ln_80, tn_81, ln_81, tn_82, ln_82, tn_83, ln_83, ob_84, tn_85, ln_85, tn_86, ln_86, tn_87, ln_87, tn_88, ln_88, tn_89, ln_89, tn_90, ln_90, tn_91, ln_91, tn_92, ln_92, tn_93, ln_93, ob_94, tn_95, ln_95, tn_96, ln_96, tn_97, ln_97, tn_98, ln_98, tn_99, ln_99, tn_100, ln_100, tn_101, ln_101, tn_102, ln_102, tn_103, ln_103, ob_104, tn_105, ln_105, tn_106, ln_106, tn_107, ln_107, tn_108, ln_108, tn_109, ln_109, tn_110, ln_110, tn_111, ln_111, tn_112, ln_112, tn_113, ln_113, ob_114, tn_115, ln_115, tn_116, ln_116, tn_117, ln_117, tn_118, ln_118, tn_119, ln_119, tn_120, ln_120, tn_121, ln_121, tn_122, ln_122, tn_123, ln_123, ob_124, tn_125, ln_125, tn_126, ln_126, tn_127, ln_127, tn_128, ln_128, tn_129, ln_129, tn_130, ln_130, tn_131, ln_131, tn_132, ln_132, tn_133, ln_133, ob_134, tn_135, ln_135, tn_136, ln_136, tn_137, ln_137, tn_138, ln_138, tn_139, ln_139, tn_140, ln_140, tn_141, ln_141, tn_142, ln_142, tn_143, ln_143, ob_144, tn_145, ln_145, tn_146, ln_146, tn_147, ln_147, tn_148, ln_148, tn_149, ln_149, tn_150, ln_150, tn_151, ln_151, tn_152, ln_152, tn_153, ln_153, ob_154, tn_155, ln_155, tn_156, ln_156, tn_157, ln_157, tn_158, ln_158, tn_159, ln_159, tn_160, ln_160, tn_161, ln_161, tn_162, ln_162, tn_163, ln_163, ob_164, tn_165, ln_165, tn_166, ln_166, ob_167, tn_168, ln_168, tn_169, ln_169, tn_170, ln_170, tn_171, ln_171, tn_172, ln_172, tn_173, ln_173, tn_174, ln_174, tn_175, ln_175, tn_176, ln_176, ob_177, tn_178, ln_178, tn_179, ln_179, ob_180, tn_181, ln_181, tn_182, ln_182, tn_183, ln_183, tn_184, ln_184, tn_185, ln_185, tn_186, ln_186, tn_187, ln_187, tn_188, ln_188, tn_189, ln_189, tn_190, ln_190, tn_191, ln_191, tn_192, ln_192, tn_193, ln_193, tn_194, ln_194, tn_195, ln_195, tn_196, ln_196, tn_197, ln_197, tn_198, ln_198, tn_199, ln_199, tn_200, ln_200, tn_201, ln_201, tn_202, ln_202, tn_203, ln_203, tn_204, ln_204, tn_205, ln_205, tn_206, ln_206, tn_207, ln_207, tn_208, ln_208, tn_209, ln_209, tn_210, ln_210, tn_211, ln_211, tn_212, ln_212, tn_213, ln_213, tn_214, ln_214, tn_215, ln_215, tn_216, ln_216, tn_217, ln_217, tn_218, ln_218, tn_219, ln_219, tn_220, ln_220, tn_221, ln_221, tn_222, ln_222, tn_223, ln_223, tn_224, ln_224, tn_225, ln_225, tn_226, ln_226, tn_227, ln_227, tn_228, ln_228, tn_229, ln_229, tn_230, ln_230, lx2, lx3, lx4, lx5, lx6, lx7, lx8, lx9, lx10, lx14, lx15, lx16, lx18, lx20, lx24, lx25, lx27, lx32, lx36, lx40, lx41, lx42, lx43, lx45, lx48, lx52, lx54, lx56, lx57, lx58, lx60, lx61, lx62, lx63, lx64, lx66, lx69, lx73, lx80, lx81, lx84, lx85, lx87, lx94, lx96, lx97, lx120, lx128, lx135, lx160, lx162, lx163, lx165, lx200, lx232, lx242, lx243, lx255, lx256, lx320, lx325, lx400, lx405, lx464, lx512, lx600, lx640, lx752, lx900, lx940, lx1000, lx1024, lx1764, lx3360, lx3840, lx5000, lx6400, lx9050, lx9998, lx9999, lx10000, lx25600, lx76800, lx99999]
    refine xE0 (vN v - 2, 0, 0) ⟨v, g, c, 2, none, hg, hc, hU, hP, Nat.le_refl _, vN_ge v, rfl, rfl, ?_, rfl⟩
    rw [bt_f (p := ipF v g c 2) (fun ⟨i, a, b, _⟩ => by omega)]
    rfl
  · rintro q x y A P - μ L st B ⟨v, g, c, i, o, hg, hc, hU, hP, h2, hi, rfl, rfl, rfl, rfl⟩
    have hN := vN_le hU.2.1
    have h24 := hU.2.2.2.1
    simp (disch := omega) only [k_X12_isPair_0, k_X12_isPair_5, k_X12_isPair_38, k_X12_isPair_76, k_X12_isPair_80, k_X12_isPair_81, k_X12_isPair_88, k_X12_isPair_94, w_RII, x_aload, x_iadd, x_icmp_eq, x_icmp_ge, x_icmp_ne, x_if_eq, x_if_ne, x_iinc, x_iload, x_istore, x_push, x_zret, y_cv2, y_getF, y_getI, y_iald, xFT, xbool0, xbool1, Nat.reduceAdd, Nat.zero_add, xgl_0, xgl_s, xgl_n, xst_0, xst_1n, xst_1i, xst_1r, xst_1l, xst_s, set_0, set_s, true_and, and_true, xres, xcat_nil, xcat_i, xcat_r, xcat_l, Nat.add_zero, xble0, xble1, xble2, xble3, xble4, xble5, xble6, xble7, xble8, pk_mul, nI_add, nI_1, nI_leI, nI_ltI, nI_eq, n_in, n_cl, z_eq, z_lt, z_le, z_gt, z_ge, z_qe, o_eq, o_lt, o_le, o_gt, o_ge, vp0, vp1, cl0, cl1, n_sub, n_sub1, n_pm1, n_a0, n_0a, ofn, lN0, Nat.reduceLT, Nat.reduceLeDiff, Nat.reduceMul, Nat.reduceSub, Nat.reduceEqDiff, ne_eq, true_implies, false_implies, not_true_eq_false, not_false_eq_true, and_self, and_true, true_and, and_false, false_and, implies_true, if_true, if_false, i00, i10, i01, i11, ob_0, ob_1, tn_2, ln_2, ob_3, tn_4, ln_4, ob_5, tn_6, ln_6, tn_7, ln_7, ob_8, tn_9, ln_9, tn_10, ln_10, tn_11, ln_11, tn_12, ln_12, tn_13, ln_13, tn_14, ln_14, tn_15, ln_15, tn_16, ln_16, tn_17, ln_17, ob_18, tn_19, ln_19, tn_20, ln_20, tn_21, ln_21, tn_22, ln_22, tn_23, ln_23, tn_24, ln_24, tn_25, ln_25, tn_26, ln_26, tn_27, ln_27, ob_28, tn_29, ln_29, tn_30, ln_30, ob_31, tn_32, ln_32, tn_33, ln_33, ob_34, ob_35, tn_36, ln_36, tn_37, ln_37, tn_38, ln_38, ob_39, tn_40, ln_40, tn_41, ln_41, tn_42, ln_42, tn_43, ln_43, tn_44, ln_44, tn_45, ln_45, tn_46, ln_46, tn_47, ln_47, tn_48, ln_48, tn_49, ln_49, tn_50, ln_50, tn_51, ln_51, ob_52, tn_53, ln_53, tn_54, ln_54, tn_55, ln_55, tn_56, ln_56, ob_57, tn_58, ln_58, tn_59, ln_59, tn_60, ln_60, tn_61, ln_61, tn_62, ln_62, tn_63, ln_63, tn_64, ln_64, tn_65, ln_65, ob_66, tn_67, ln_67, tn_68, ln_68, tn_69, ln_69, tn_70, ln_70, tn_71, ln_71, tn_72, ln_72, tn_73, ln_73, ob_74, tn_75, ln_75, tn_76, ln_76, tn_77, ln_77, tn_78, ln_78, tn_79, ln_79, tn_80, ln_80, tn_81, ln_81, tn_82, ln_82, tn_83, ln_83, ob_84, tn_85, ln_85, tn_86, ln_86, tn_87, ln_87, tn_88, ln_88, tn_89, ln_89, tn_90, ln_90, tn_91, ln_91, tn_92, ln_92, tn_93, ln_93, ob_94, tn_95, ln_95, tn_96, ln_96, tn_97, ln_97, tn_98, ln_98, tn_99, ln_99, tn_100, ln_100, tn_101, ln_101, tn_102, ln_102, tn_103, ln_103, ob_104, tn_105, ln_105, tn_106, ln_106, tn_107, ln_107, tn_108, ln_108, tn_109, ln_109, tn_110, ln_110, tn_111, ln_111, tn_112, ln_112, tn_113, ln_113, ob_114, tn_115, ln_115, tn_116, ln_116, tn_117, ln_117, tn_118, ln_118, tn_119, ln_119, tn_120, ln_120, tn_121, ln_121, tn_122, ln_122, tn_123, ln_123, ob_124, tn_125, ln_125, tn_126, ln_126, tn_127, ln_127, tn_128, ln_128, tn_129, ln_129, tn_130, ln_130, tn_131, ln_131, tn_132, ln_132, tn_133, ln_133, ob_134, tn_135, ln_135, tn_136, ln_136, tn_137, ln_137, tn_138, ln_138, tn_139, ln_139, tn_140, ln_140, tn_141, ln_141, tn_142, ln_142, tn_143, ln_143, ob_144, tn_145, ln_145, tn_146, ln_146, tn_147, ln_147, tn_148, ln_148, tn_149, ln_149, tn_150, ln_150, tn_151, ln_151, tn_152, ln_152, tn_153, ln_153, ob_154, tn_155, ln_155, tn_156, ln_156, tn_157, ln_157, tn_158, ln_158, tn_159, ln_159, tn_160, ln_160, tn_161, ln_161, tn_162, ln_162, tn_163, ln_163, ob_164, tn_165, ln_165, tn_166, ln_166, ob_167, tn_168, ln_168, tn_169, ln_169, tn_170, ln_170, tn_171, ln_171, tn_172, ln_172, tn_173, ln_173, tn_174, ln_174, tn_175, ln_175, tn_176, ln_176, ob_177, tn_178, ln_178, tn_179, ln_179, ob_180, tn_181, ln_181, tn_182, ln_182, tn_183, ln_183, tn_184, ln_184, tn_185, ln_185, tn_186, ln_186, tn_187, ln_187, tn_188, ln_188, tn_189, ln_189, tn_190, ln_190, tn_191, ln_191, tn_192, ln_192, tn_193, ln_193, tn_194, ln_194, tn_195, ln_195, tn_196, ln_196, tn_197, ln_197, tn_198, ln_198, tn_199, ln_199, tn_200, ln_200, tn_201, ln_201, tn_202, ln_202, tn_203, ln_203, tn_204, ln_204, tn_205, ln_205, tn_206, ln_206, tn_207, ln_207, tn_208, ln_208, tn_209, ln_209, tn_210, ln_210, tn_211, ln_211, tn_212, ln_212, tn_213, ln_213, tn_214, ln_214, tn_215, ln_215, tn_216, ln_216, tn_217, ln_217, tn_218, ln_218, tn_219, ln_219, tn_220, ln_220, tn_221, ln_221, tn_222, ln_222, tn_223, ln_223, tn_224, ln_224, tn_225, ln_225, tn_226, ln_226, tn_227, ln_227, tn_228, ln_228, tn_229, ln_229, tn_230, ln_230, lx2, lx3, lx4, lx5, lx6, lx7, lx8, lx9, lx10, lx14, lx15, lx16, lx18, lx20, lx24, lx25, lx27, lx32, lx36, lx40, lx41, lx42, lx43, lx45, lx48, lx52, lx54, lx56, lx57, lx58, lx60, lx61, lx62, lx63, lx64, lx66, lx69, lx73, lx80, lx81, lx84, lx85, lx87, lx94, lx96, lx97, lx120, lx128, lx135, lx160, lx162, lx163, lx165, lx200, lx232, lx242, lx243, lx255, lx256, lx320, lx325, lx400, lx405, lx464, lx512, lx600, lx640, lx752, lx900, lx940, lx1000, lx1024, lx1764, lx3360, lx3840, lx5000, lx6400, lx9050, lx9998, lx9999, lx10000, lx25600, lx76800, lx99999, h24]
    have fin : (ipF v g c i ↔ ipF v g c (vN v)) → P (some (.int (bI (bt (ipF v g c i))))) B := fun w => by
      have e : bt (ipF v g c i) = prB v g c := b_ext (bt_iff.trans (w.trans (ip_all hU.2.1).symm))
      rw [e]; exact hP
    refine ⟨fun a => ⟨bI_bool _, fin (by rw [show i = vN v by omega])⟩, fun a => ⟨fun b => ⟨bI_bool _, fin ?_⟩, fun b => ⟨by omega, ?_⟩⟩⟩
    · have b2 : ipF v g c i := Classical.byContradiction fun w => b (by rw [bt_f w]; rfl)
      exact ⟨fun _ => ip_mono b2 hi, fun _ => b2⟩
    · have b2 : ¬ ipF v g c i := fun w => by rw [bt_t w] at b; exact absurd b (by decide)
      rw [isR_cl hU.1 (by omega), nI_eq (by have := (hU.2.2.1 i (by omega)).1; omega) (by omega)]
      refine ⟨fun d => ?_, fun d => ?_⟩
      · refine xB1 (b := vN v - i - 1) (by omega) ⟨v, g, c, i, 0, hg, hc, hU, hP, h2, by omega, d, b2, Nat.zero_le _, rfl, rfl, ?_, rfl⟩
        rw [bt_f b2, bt_f (p := ∃ j', j' < 0 ∧ vcl v j' = c ∧ frT v i j') (fun ⟨_, z, _⟩ => by omega)]; rfl
      · refine xB1 (b := vN v - (i + 1)) (by omega) ⟨v, g, c, i + 1, o, hg, hc, hU, hP, by omega, by omega, rfl, rfl, ?_, rfl⟩
        rw [bt_congr (ip_skip d)]
  · rintro q x y A P - μ L st B ⟨v, g, c, i, j, hg, hc, hU, hP, h2, hi, hgi, hno, hj, rfl, rfl, rfl, rfl⟩
    have hN := vN_le hU.2.1
    have h24 := hU.2.2.2.1
    simp (disch := omega) only [k_X12_isPair_0, k_X12_isPair_5, k_X12_isPair_38, k_X12_isPair_76, k_X12_isPair_80, k_X12_isPair_81, k_X12_isPair_88, k_X12_isPair_94, w_RII, x_aload, x_iadd, x_icmp_eq, x_icmp_ge, x_icmp_ne, x_if_eq, x_if_ne, x_iinc, x_iload, x_istore, x_push, x_zret, y_cv2, y_getF, y_getI, y_iald, xFT, xbool0, xbool1, Nat.reduceAdd, Nat.zero_add, xgl_0, xgl_s, xgl_n, xst_0, xst_1n, xst_1i, xst_1r, xst_1l, xst_s, set_0, set_s, true_and, and_true, xres, xcat_nil, xcat_i, xcat_r, xcat_l, Nat.add_zero, xble0, xble1, xble2, xble3, xble4, xble5, xble6, xble7, xble8, pk_mul, nI_add, nI_1, nI_leI, nI_ltI, nI_eq, n_in, n_cl, z_eq, z_lt, z_le, z_gt, z_ge, z_qe, o_eq, o_lt, o_le, o_gt, o_ge, vp0, vp1, cl0, cl1, n_sub, n_sub1, n_pm1, n_a0, n_0a, ofn, lN0, Nat.reduceLT, Nat.reduceLeDiff, Nat.reduceMul, Nat.reduceSub, Nat.reduceEqDiff, ne_eq, true_implies, false_implies, not_true_eq_false, not_false_eq_true, and_self, and_true, true_and, and_false, false_and, implies_true, if_true, if_false, i00, i10, i01, i11, ob_0, ob_1, tn_2, ln_2, ob_3, tn_4, ln_4, ob_5, tn_6, ln_6, tn_7, ln_7, ob_8, tn_9, ln_9, tn_10, ln_10, tn_11, ln_11, tn_12, ln_12, tn_13, ln_13, tn_14, ln_14, tn_15, ln_15, tn_16, ln_16, tn_17, ln_17, ob_18, tn_19, ln_19, tn_20, ln_20, tn_21, ln_21, tn_22, ln_22, tn_23, ln_23, tn_24, ln_24, tn_25, ln_25, tn_26, ln_26, tn_27, ln_27, ob_28, tn_29, ln_29, tn_30, ln_30, ob_31, tn_32, ln_32, tn_33, ln_33, ob_34, ob_35, tn_36, ln_36, tn_37, ln_37, tn_38, ln_38, ob_39, tn_40, ln_40, tn_41, ln_41, tn_42, ln_42, tn_43, ln_43, tn_44, ln_44, tn_45, ln_45, tn_46, ln_46, tn_47, ln_47, tn_48, ln_48, tn_49, ln_49, tn_50, ln_50, tn_51, ln_51, ob_52, tn_53, ln_53, tn_54, ln_54, tn_55, ln_55, tn_56, ln_56, ob_57, tn_58, ln_58, tn_59, ln_59, tn_60, ln_60, tn_61, ln_61, tn_62, ln_62, tn_63, ln_63, tn_64, ln_64, tn_65, ln_65, ob_66, tn_67, ln_67, tn_68, ln_68, tn_69, ln_69, tn_70, ln_70, tn_71, ln_71, tn_72, ln_72, tn_73, ln_73, ob_74, tn_75, ln_75, tn_76, ln_76, tn_77, ln_77, tn_78, ln_78, tn_79, ln_79, tn_80, ln_80, tn_81, ln_81, tn_82, ln_82, tn_83, ln_83, ob_84, tn_85, ln_85, tn_86, ln_86, tn_87, ln_87, tn_88, ln_88, tn_89, ln_89, tn_90, ln_90, tn_91, ln_91, tn_92, ln_92, tn_93, ln_93, ob_94, tn_95, ln_95, tn_96, ln_96, tn_97, ln_97, tn_98, ln_98, tn_99, ln_99, tn_100, ln_100, tn_101, ln_101, tn_102, ln_102, tn_103, ln_103, ob_104, tn_105, ln_105, tn_106, ln_106, tn_107, ln_107, tn_108, ln_108, tn_109, ln_109, tn_110, ln_110, tn_111, ln_111, tn_112, ln_112, tn_113, ln_113, ob_114, tn_115, ln_115, tn_116, ln_116, tn_117, ln_117, tn_118, ln_118, tn_119, ln_119, tn_120, ln_120, tn_121, ln_121, tn_122, ln_122, tn_123, ln_123, ob_124, tn_125, ln_125, tn_126, ln_126, tn_127, ln_127, tn_128, ln_128, tn_129, ln_129, tn_130, ln_130, tn_131, ln_131, tn_132, ln_132, tn_133, ln_133, ob_134, tn_135, ln_135, tn_136, ln_136, tn_137, ln_137, tn_138, ln_138, tn_139, ln_139, tn_140, ln_140, tn_141, ln_141, tn_142, ln_142, tn_143, ln_143, ob_144, tn_145, ln_145, tn_146, ln_146, tn_147, ln_147, tn_148, ln_148, tn_149, ln_149, tn_150, ln_150, tn_151, ln_151, tn_152, ln_152, tn_153, ln_153, ob_154, tn_155, ln_155, tn_156, ln_156, tn_157, ln_157, tn_158, ln_158, tn_159, ln_159, tn_160, ln_160, tn_161, ln_161, tn_162, ln_162, tn_163, ln_163, ob_164, tn_165, ln_165, tn_166, ln_166, ob_167, tn_168, ln_168, tn_169, ln_169, tn_170, ln_170, tn_171, ln_171, tn_172, ln_172, tn_173, ln_173, tn_174, ln_174, tn_175, ln_175, tn_176, ln_176, ob_177, tn_178, ln_178, tn_179, ln_179, ob_180, tn_181, ln_181, tn_182, ln_182, tn_183, ln_183, tn_184, ln_184, tn_185, ln_185, tn_186, ln_186, tn_187, ln_187, tn_188, ln_188, tn_189, ln_189, tn_190, ln_190, tn_191, ln_191, tn_192, ln_192, tn_193, ln_193, tn_194, ln_194, tn_195, ln_195, tn_196, ln_196, tn_197, ln_197, tn_198, ln_198, tn_199, ln_199, tn_200, ln_200, tn_201, ln_201, tn_202, ln_202, tn_203, ln_203, tn_204, ln_204, tn_205, ln_205, tn_206, ln_206, tn_207, ln_207, tn_208, ln_208, tn_209, ln_209, tn_210, ln_210, tn_211, ln_211, tn_212, ln_212, tn_213, ln_213, tn_214, ln_214, tn_215, ln_215, tn_216, ln_216, tn_217, ln_217, tn_218, ln_218, tn_219, ln_219, tn_220, ln_220, tn_221, ln_221, tn_222, ln_222, tn_223, ln_223, tn_224, ln_224, tn_225, ln_225, tn_226, ln_226, tn_227, ln_227, tn_228, ln_228, tn_229, ln_229, tn_230, ln_230, lx2, lx3, lx4, lx5, lx6, lx7, lx8, lx9, lx10, lx14, lx15, lx16, lx18, lx20, lx24, lx25, lx27, lx32, lx36, lx40, lx41, lx42, lx43, lx45, lx48, lx52, lx54, lx56, lx57, lx58, lx60, lx61, lx62, lx63, lx64, lx66, lx69, lx73, lx80, lx81, lx84, lx85, lx87, lx94, lx96, lx97, lx120, lx128, lx135, lx160, lx162, lx163, lx165, lx200, lx232, lx242, lx243, lx255, lx256, lx320, lx325, lx400, lx405, lx464, lx512, lx600, lx640, lx752, lx900, lx940, lx1000, lx1024, lx1764, lx3360, lx3840, lx5000, lx6400, lx9050, lx9998, lx9999, lx10000, lx25600, lx76800, lx99999, h24]
    have go : ∀ b, (b = true ↔ ∃ j', j' < j + 1 ∧ vcl v j' = c ∧ frT v i j') → j < vN v → xB (ip38 B P) (vN v - i - 1, 1, vN v - j) [some (.ref 180), some (.int (nI g)), some (.int (nI c)), some (.int (bI b)), some (.int (nI i)), some (.int (nI (j + 1)))] [] B := fun b hb hlt => by
      refine xB3 (d := vN v - (j + 1)) (by omega) ⟨v, g, c, i, j + 1, hg, hc, hU, hP, h2, hi, hgi, hno, by omega, rfl, rfl, ?_, rfl⟩
      rw [b_ext (hb.trans bt_iff.symm)]
    refine ⟨fun a => ?_, fun a => ⟨fun b => ?_, fun b => ⟨by omega, ?_⟩⟩⟩
    · refine xB2 (c := 0) (by omega) ⟨v, g, c, i + 1, some (.int (nI j)), hg, hc, hU, hP, by omega, by omega, rfl, rfl, ?_, rfl⟩
      rw [bt_congr (p := ∃ j', j' < j ∧ vcl v j' = c ∧ frT v i j') (q := ipF v g c (i + 1))]
      constructor
      · rintro ⟨j', w1, w2, w3⟩; exact ⟨i, h2, by omega, hgi, j', by omega, w2, w3⟩
      · rintro ⟨i', w1, w2, w3, j', w4, w5, w6⟩
        by_cases e : i' = i
        · subst e; exact ⟨j', by omega, w5, w6⟩
        · exact absurd ⟨i', w1, by omega, w3, j', w4, w5, w6⟩ hno
    · refine go true ⟨fun _ => ?_, fun _ => rfl⟩ (by omega)
      have b2 : ∃ j', j' < j ∧ vcl v j' = c ∧ frT v i j' := Classical.byContradiction fun w => b (by rw [bt_f w]; rfl)
      obtain ⟨j', w1, w2, w3⟩ := b2
      exact ⟨j', by omega, w2, w3⟩
    · have b2 : ¬ ∃ j', j' < j ∧ vcl v j' = c ∧ frT v i j' := fun w => by rw [bt_t w] at b; exact absurd b (by decide)
      rw [isR_cl hU.1 (by omega), nI_eq (by have := (hU.2.2.1 j (by omega)).1; omega) (by omega)]
      have no : ¬ (vcl v j = c ∧ frT v i j) → (false = true ↔ ∃ j', j' < j + 1 ∧ vcl v j' = c ∧ frT v i j') := fun z => by
        constructor
        · intro h; cases h
        · rintro ⟨j', w1, w2, w3⟩
          by_cases e : j' = j
          · subst e; exact absurd ⟨w2, w3⟩ z
          · exact absurd ⟨j', by omega, w2, w3⟩ b2
      refine ⟨fun d => go false (no fun z => d z.1) (by omega), fun d => isFrom_U hU (by omega) (by omega) ?_⟩
      simp (disch := omega) only [k_X12_isPair_0, k_X12_isPair_5, k_X12_isPair_38, k_X12_isPair_76, k_X12_isPair_80, k_X12_isPair_81, k_X12_isPair_88, k_X12_isPair_94, w_RII, x_aload, x_iadd, x_icmp_eq, x_icmp_ge, x_icmp_ne, x_if_eq, x_if_ne, x_iinc, x_iload, x_istore, x_push, x_zret, y_cv2, y_getF, y_getI, y_iald, xFT, xbool0, xbool1, Nat.reduceAdd, Nat.zero_add, xgl_0, xgl_s, xgl_n, xst_0, xst_1n, xst_1i, xst_1r, xst_1l, xst_s, set_0, set_s, true_and, and_true, xres, xcat_nil, xcat_i, xcat_r, xcat_l, Nat.add_zero, xble0, xble1, xble2, xble3, xble4, xble5, xble6, xble7, xble8, pk_mul, nI_add, nI_1, nI_leI, nI_ltI, nI_eq, n_in, n_cl, z_eq, z_lt, z_le, z_gt, z_ge, z_qe, o_eq, o_lt, o_le, o_gt, o_ge, vp0, vp1, cl0, cl1, n_sub, n_sub1, n_pm1, n_a0, n_0a, ofn, lN0, Nat.reduceLT, Nat.reduceLeDiff, Nat.reduceMul, Nat.reduceSub, Nat.reduceEqDiff, ne_eq, true_implies, false_implies, not_true_eq_false, not_false_eq_true, and_self, and_true, true_and, and_false, false_and, implies_true, if_true, if_false, i00, i10, i01, i11, ob_0, ob_1, tn_2, ln_2, ob_3, tn_4, ln_4, ob_5, tn_6, ln_6, tn_7, ln_7, ob_8, tn_9, ln_9, tn_10, ln_10, tn_11, ln_11, tn_12, ln_12, tn_13, ln_13, tn_14, ln_14, tn_15, ln_15, tn_16, ln_16, tn_17, ln_17, ob_18, tn_19, ln_19, tn_20, ln_20, tn_21, ln_21, tn_22, ln_22, tn_23, ln_23, tn_24, ln_24, tn_25, ln_25, tn_26, ln_26, tn_27, ln_27, ob_28, tn_29, ln_29, tn_30, ln_30, ob_31, tn_32, ln_32, tn_33, ln_33, ob_34, ob_35, tn_36, ln_36, tn_37, ln_37, tn_38, ln_38, ob_39, tn_40, ln_40, tn_41, ln_41, tn_42, ln_42, tn_43, ln_43, tn_44, ln_44, tn_45, ln_45, tn_46, ln_46, tn_47, ln_47, tn_48, ln_48, tn_49, ln_49, tn_50, ln_50, tn_51, ln_51, ob_52, tn_53, ln_53, tn_54, ln_54, tn_55, ln_55, tn_56, ln_56, ob_57, tn_58, ln_58, tn_59, ln_59, tn_60, ln_60, tn_61, ln_61, tn_62, ln_62, tn_63, ln_63, tn_64, ln_64, tn_65, ln_65, ob_66, tn_67, ln_67, tn_68, ln_68, tn_69, ln_69, tn_70, ln_70, tn_71, ln_71, tn_72, ln_72, tn_73, ln_73, ob_74, tn_75, ln_75, tn_76, ln_76, tn_77, ln_77, tn_78, ln_78, tn_79, ln_79, tn_80, ln_80, tn_81, ln_81, tn_82, ln_82, tn_83, ln_83, ob_84, tn_85, ln_85, tn_86, ln_86, tn_87, ln_87, tn_88, ln_88, tn_89, ln_89, tn_90, ln_90, tn_91, ln_91, tn_92, ln_92, tn_93, ln_93, ob_94, tn_95, ln_95, tn_96, ln_96, tn_97, ln_97, tn_98, ln_98, tn_99, ln_99, tn_100, ln_100, tn_101, ln_101, tn_102, ln_102, tn_103, ln_103, ob_104, tn_105, ln_105, tn_106, ln_106, tn_107, ln_107, tn_108, ln_108, tn_109, ln_109, tn_110, ln_110, tn_111, ln_111, tn_112, ln_112, tn_113, ln_113, ob_114, tn_115, ln_115, tn_116, ln_116, tn_117, ln_117, tn_118, ln_118, tn_119, ln_119, tn_120, ln_120, tn_121, ln_121, tn_122, ln_122, tn_123, ln_123, ob_124, tn_125, ln_125, tn_126, ln_126, tn_127, ln_127, tn_128, ln_128, tn_129, ln_129, tn_130, ln_130, tn_131, ln_131, tn_132, ln_132, tn_133, ln_133, ob_134, tn_135, ln_135, tn_136, ln_136, tn_137, ln_137, tn_138, ln_138, tn_139, ln_139, tn_140, ln_140, tn_141, ln_141, tn_142, ln_142, tn_143, ln_143, ob_144, tn_145, ln_145, tn_146, ln_146, tn_147, ln_147, tn_148, ln_148, tn_149, ln_149, tn_150, ln_150, tn_151, ln_151, tn_152, ln_152, tn_153, ln_153, ob_154, tn_155, ln_155, tn_156, ln_156, tn_157, ln_157, tn_158, ln_158, tn_159, ln_159, tn_160, ln_160, tn_161, ln_161, tn_162, ln_162, tn_163, ln_163, ob_164, tn_165, ln_165, tn_166, ln_166, ob_167, tn_168, ln_168, tn_169, ln_169, tn_170, ln_170, tn_171, ln_171, tn_172, ln_172, tn_173, ln_173, tn_174, ln_174, tn_175, ln_175, tn_176, ln_176, ob_177, tn_178, ln_178, tn_179, ln_179, ob_180, tn_181, ln_181, tn_182, ln_182, tn_183, ln_183, tn_184, ln_184, tn_185, ln_185, tn_186, ln_186, tn_187, ln_187, tn_188, ln_188, tn_189, ln_189, tn_190, ln_190, tn_191, ln_191, tn_192, ln_192, tn_193, ln_193, tn_194, ln_194, tn_195, ln_195, tn_196, ln_196, tn_197, ln_197, tn_198, ln_198, tn_199, ln_199, tn_200, ln_200, tn_201, ln_201, tn_202, ln_202, tn_203, ln_203, tn_204, ln_204, tn_205, ln_205, tn_206, ln_206, tn_207, ln_207, tn_208, ln_208, tn_209, ln_209, tn_210, ln_210, tn_211, ln_211, tn_212, ln_212, tn_213, ln_213, tn_214, ln_214, tn_215, ln_215, tn_216, ln_216, tn_217, ln_217, tn_218, ln_218, tn_219, ln_219, tn_220, ln_220, tn_221, ln_221, tn_222, ln_222, tn_223, ln_223, tn_224, ln_224, tn_225, ln_225, tn_226, ln_226, tn_227, ln_227, tn_228, ln_228, tn_229, ln_229, tn_230, ln_230, lx2, lx3, lx4, lx5, lx6, lx7, lx8, lx9, lx10, lx14, lx15, lx16, lx18, lx20, lx24, lx25, lx27, lx32, lx36, lx40, lx41, lx42, lx43, lx45, lx48, lx52, lx54, lx56, lx57, lx58, lx60, lx61, lx62, lx63, lx64, lx66, lx69, lx73, lx80, lx81, lx84, lx85, lx87, lx94, lx96, lx97, lx120, lx128, lx135, lx160, lx162, lx163, lx165, lx200, lx232, lx242, lx243, lx255, lx256, lx320, lx325, lx400, lx405, lx464, lx512, lx600, lx640, lx752, lx900, lx940, lx1000, lx1024, lx1764, lx3360, lx3840, lx5000, lx6400, lx9050, lx9998, lx9999, lx10000, lx25600, lx76800, lx99999, h24, bI_t]
      refine ⟨fun e => go false (no fun z => ?_) (by omega), fun e => go true ⟨fun _ => ⟨j, by omega, d, ?_⟩, fun _ => rfl⟩ (by omega)⟩
      · rw [bt_t z.2] at e; cases e
      · exact Classical.byContradiction fun w => e (bt_f w)

