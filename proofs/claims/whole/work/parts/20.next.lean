theorem d_X9_open_0 : decode cX9_open 0 = .ok (.aload_n 0, 1) := by decide +kernel
theorem d_X9_open_1 : decode cX9_open 1 = .ok (.iload_n 1, 1) := by decide +kernel
theorem d_X9_open_2 : decode cX9_open 2 = .ok (.putfield 19, 3) := by decide +kernel
theorem d_X9_open_5 : decode cX9_open 5 = .ok (.aload_n 0, 1) := by decide +kernel
theorem d_X9_open_6 : decode cX9_open 6 = .ok (.iconst 0, 1) := by decide +kernel
theorem d_X9_open_7 : decode cX9_open 7 = .ok (.putfield 22, 3) := by decide +kernel
theorem d_X9_open_10 : decode cX9_open 10 = .ok (.aload_n 0, 1) := by decide +kernel
theorem d_X9_open_11 : decode cX9_open 11 = .ok (.invokevirtual 25, 3) := by decide +kernel
theorem d_X9_open_14 : decode cX9_open 14 = .ok (.return_, 1) := by decide +kernel
def k_X9_open_0 (P : xP) : xK := x_aload 0 (x_iload 1 (y_putI 1 2 (x_aload 0 (x_push (.int 0) (y_putI 1 3 (x_aload 0 (y_cv0 1 (w_R f_X9_advance) (x_vret P))))))))
set_option maxRecDepth 20000 in
theorem t_X9_open_0 {p : Program} {l : Launch} {e : Env} {s : State} {m : MethodId} {args : Array Value} {below : List Frame} {meth : Method} {c : Code} {g : xG} (X : xX p s m args c meth cX9_open RX9 2 g) (hr : meth.sig.returnType = none) {P : xP} : xAt p l e { frames := 2, cells := 0, slots := 0, locals := 49 } s m args below meth c g 2 xFT xN 0 0 (MQ below (xQc g xFT xN P) args s 0 0 (xFr g)) (k_X9_open_0 P) 0 := by
  unfold k_X9_open_0
  refine r_aload_n (pc := 0) X d_X9_open_0 fn0 ?_
  refine r_iload_n (pc := 1) X d_X9_open_1 fn1 ?_
  refine s_putI (pc := 2) (ci := 9) X xok9 (by decide +kernel) ob_1 (by decide +kernel) (by decide +kernel) (by decide +kernel) fl_RX9_19 d_X9_open_2 ?_
  refine r_aload_n (pc := 5) X d_X9_open_5 fn0 ?_
  refine r_iconst (pc := 6) X d_X9_open_6 (by decide +kernel) ?_
  refine s_putI (pc := 7) (ci := 9) X xok9 (by decide +kernel) ob_1 (by decide +kernel) (by decide +kernel) (by decide +kernel) fl_RX9_22 d_X9_open_7 ?_
  refine r_aload_n (pc := 10) X d_X9_open_10 fn0 ?_
  refine s_cv0 (pc := 11) (ci := 9) X xok9 (by decide +kernel) ob_1 rfl (con_X9_advance l) mf_X9_advance ml_RX9_25 (by decide +kernel) (by decide +kernel) d_X9_open_11 ?_
  exact r_vret (pc := 14) X hr d_X9_open_14
def f_X9_open (a0 : Nat) (a1 : Int32) (A : xH) (P : xP) : Prop := k_X9_open_0 P [some (.ref a0), some (.int a1)] [] A
set_option maxRecDepth 20000 in
theorem con_X9_open (l : Launch) : xCon l yX9_open cX9_open 2 none 2 49 xN xN 0 xFT xFT (w_RI f_X9_open) :=
  xc_RI (plainFor_of_name pn_RX9) (by decide +kernel) (fun p e s m args below meth c g a0 a1 A P h X hr _ => ⟨_, h, t_X9_open_0 X hr⟩)
theorem d_X12_peek_0 : decode cX12_peek 0 = .ok (.aload_n 0, 1) := by decide +kernel
theorem d_X12_peek_1 : decode cX12_peek 1 = .ok (.getfield 18, 3) := by decide +kernel
theorem d_X12_peek_4 : decode cX12_peek 4 = .ok (.aload_n 0, 1) := by decide +kernel
theorem d_X12_peek_5 : decode cX12_peek 5 = .ok (.getfield 15, 3) := by decide +kernel
theorem d_X12_peek_8 : decode cX12_peek 8 = .ok (.if_icmp .ge 19, 3) := by decide +kernel
theorem d_X12_peek_11 : decode cX12_peek 11 = .ok (.aload_n 0, 1) := by decide +kernel
theorem d_X12_peek_12 : decode cX12_peek 12 = .ok (.getfield 11, 3) := by decide +kernel
theorem d_X12_peek_15 : decode cX12_peek 15 = .ok (.aload_n 0, 1) := by decide +kernel
theorem d_X12_peek_16 : decode cX12_peek 16 = .ok (.getfield 18, 3) := by decide +kernel
theorem d_X12_peek_19 : decode cX12_peek 19 = .ok (.baload, 1) := by decide +kernel
theorem d_X12_peek_20 : decode cX12_peek 20 = .ok (.sipush 255, 3) := by decide +kernel
theorem d_X12_peek_23 : decode cX12_peek 23 = .ok (.iand, 1) := by decide +kernel
theorem d_X12_peek_24 : decode cX12_peek 24 = .ok (.goto 4, 3) := by decide +kernel
theorem d_X12_peek_27 : decode cX12_peek 27 = .ok (.iconst (-1), 1) := by decide +kernel
theorem d_X12_peek_28 : decode cX12_peek 28 = .ok (.ireturn, 1) := by decide +kernel
def k_X12_peek_28 (P : xP) : xK := x_iret P
set_option maxRecDepth 20000 in
theorem t_X12_peek_28 {p : Program} {l : Launch} {e : Env} {s : State} {m : MethodId} {args : Array Value} {below : List Frame} {meth : Method} {c : Code} {g : xG} (X : xX p s m args c meth cX12_peek RX12 1 g) (hr : meth.sig.returnType = (some .int)) {P : xP} : xAt p l e { frames := 0, cells := 0, slots := 0, locals := 0 } s m args below meth c g 1 xFT xN 0 0 (MQ below (xQc g xFT xN P) args s 0 0 (xFr g)) (k_X12_peek_28 P) 28 := by
  unfold k_X12_peek_28
  exact r_iret (pc := 28) X hr d_X12_peek_28
def k_X12_peek_0 (P : xP) : xK := x_aload 0 (y_getI 180 3 (x_aload 0 (y_getI 180 2 (x_icmp_ge (x_push (.int (-1)) ((k_X12_peek_28 P))) (x_aload 0 (y_getF 180 181 (x_aload 0 (y_getI 180 3 (y_iald 181 940 (x_push (.int 255) (x_iand ((k_X12_peek_28 P)))))))))))))
set_option maxRecDepth 20000 in
theorem t_X12_peek_0 {p : Program} {l : Launch} {e : Env} {s : State} {m : MethodId} {args : Array Value} {below : List Frame} {meth : Method} {c : Code} {g : xG} (X : xX p s m args c meth cX12_peek RX12 1 g) (hr : meth.sig.returnType = (some .int)) {P : xP} : xAt p l e { frames := 0, cells := 0, slots := 0, locals := 0 } s m args below meth c g 1 xFT xN 0 0 (MQ below (xQc g xFT xN P) args s 0 0 (xFr g)) (k_X12_peek_0 P) 0 := by
  unfold k_X12_peek_0
  refine r_aload_n (pc := 0) X d_X12_peek_0 fn0 ?_
  refine s_getI (pc := 1) (ci := 12) X xok12 (by decide +kernel) ob_180 (by decide +kernel) fl_RX12_18 d_X12_peek_1 ?_
  refine r_aload_n (pc := 4) X d_X12_peek_4 fn0 ?_
  refine s_getI (pc := 5) (ci := 12) X xok12 (by decide +kernel) ob_180 (by decide +kernel) fl_RX12_15 d_X12_peek_5 ?_
  refine r_icmp_ge (pc := 8) (tgt := 27) X d_X12_peek_8 (by decide +kernel) ?_ ?_
  · refine r_iconst (pc := 27) X d_X12_peek_27 (by decide +kernel) ?_
    exact t_X12_peek_28 X hr
  · refine r_aload_n (pc := 11) X d_X12_peek_11 fn0 ?_
    refine s_getF (pc := 12) (ci := 12) (k := 0) X xok12 (by decide +kernel) ob_180 trivial ly_180_0 (by decide +kernel) fl_RX12_11 d_X12_peek_12 ?_
    refine r_aload_n (pc := 15) X d_X12_peek_15 fn0 ?_
    refine s_getI (pc := 16) (ci := 12) X xok12 (by decide +kernel) ob_180 (by decide +kernel) fl_RX12_18 d_X12_peek_16 ?_
    refine s_bald (pc := 19) X tn_181 ln_181 d_X12_peek_19 ?_
    refine r_sipush (pc := 20) X d_X12_peek_20 (by decide +kernel) ?_
    refine r_iand (pc := 23) X d_X12_peek_23 ?_
    refine r_goto (pc := 24) (tgt := 28) X d_X12_peek_24 (by decide +kernel) ?_
    exact t_X12_peek_28 X hr
def f_X12_peek (a0 : Nat) (A : xH) (P : xP) : Prop := k_X12_peek_0 P [some (.ref a0)] [] A
set_option maxRecDepth 20000 in
theorem con_X12_peek (l : Launch) : xCon l yX12_peek cX12_peek 1 (some .int) 0 0 xN xN 0 xFT xFT (w_R f_X12_peek) :=
  xc_R (plainFor_of_name pn_RX12) (by decide +kernel) (fun p e s m args below meth c g a0 A P h X hr _ => ⟨_, h, t_X12_peek_0 X hr⟩)
theorem d_X12_isSmall_0 : decode cX12_isSmall 0 = .ok (.iload_n 0, 1) := by decide +kernel
theorem d_X12_isSmall_1 : decode cX12_isSmall 1 = .ok (.bipush 97, 2) := by decide +kernel
theorem d_X12_isSmall_3 : decode cX12_isSmall 3 = .ok (.if_icmp .lt 13, 3) := by decide +kernel
theorem d_X12_isSmall_6 : decode cX12_isSmall 6 = .ok (.iload_n 0, 1) := by decide +kernel
theorem d_X12_isSmall_7 : decode cX12_isSmall 7 = .ok (.bipush 122, 2) := by decide +kernel
theorem d_X12_isSmall_9 : decode cX12_isSmall 9 = .ok (.if_icmp .gt 7, 3) := by decide +kernel
theorem d_X12_isSmall_12 : decode cX12_isSmall 12 = .ok (.iconst 1, 1) := by decide +kernel
theorem d_X12_isSmall_13 : decode cX12_isSmall 13 = .ok (.goto 4, 3) := by decide +kernel
theorem d_X12_isSmall_16 : decode cX12_isSmall 16 = .ok (.iconst 0, 1) := by decide +kernel
theorem d_X12_isSmall_17 : decode cX12_isSmall 17 = .ok (.ireturn, 1) := by decide +kernel
def k_X12_isSmall_17 (P : xP) : xK := x_zret P
set_option maxRecDepth 20000 in
theorem t_X12_isSmall_17 {p : Program} {l : Launch} {e : Env} {s : State} {m : MethodId} {args : Array Value} {below : List Frame} {meth : Method} {c : Code} {g : xG} (X : xX p s m args c meth cX12_isSmall RX12 1 g) (hr : meth.sig.returnType = (some .boolean)) {P : xP} : xAt p l e { frames := 0, cells := 0, slots := 0, locals := 0 } s m args below meth c g 1 xFT xN 0 0 (MQ below (xQc g xFT xN P) args s 0 0 (xFr g)) (k_X12_isSmall_17 P) 17 := by
  unfold k_X12_isSmall_17
  exact r_zret (pc := 17) X hr d_X12_isSmall_17
def k_X12_isSmall_16 (P : xP) : xK := x_push (.int 0) ((k_X12_isSmall_17 P))
set_option maxRecDepth 20000 in
theorem t_X12_isSmall_16 {p : Program} {l : Launch} {e : Env} {s : State} {m : MethodId} {args : Array Value} {below : List Frame} {meth : Method} {c : Code} {g : xG} (X : xX p s m args c meth cX12_isSmall RX12 1 g) (hr : meth.sig.returnType = (some .boolean)) {P : xP} : xAt p l e { frames := 0, cells := 0, slots := 0, locals := 0 } s m args below meth c g 1 xFT xN 0 0 (MQ below (xQc g xFT xN P) args s 0 0 (xFr g)) (k_X12_isSmall_16 P) 16 := by
  unfold k_X12_isSmall_16
  refine r_iconst (pc := 16) X d_X12_isSmall_16 (by decide +kernel) ?_
  exact t_X12_isSmall_17 X hr
def k_X12_isSmall_0 (P : xP) : xK := x_iload 0 (x_push (.int 97) (x_icmp_lt ((k_X12_isSmall_16 P)) (x_iload 0 (x_push (.int 122) (x_icmp_gt ((k_X12_isSmall_16 P)) (x_push (.int 1) ((k_X12_isSmall_17 P))))))))
set_option maxRecDepth 20000 in
theorem t_X12_isSmall_0 {p : Program} {l : Launch} {e : Env} {s : State} {m : MethodId} {args : Array Value} {below : List Frame} {meth : Method} {c : Code} {g : xG} (X : xX p s m args c meth cX12_isSmall RX12 1 g) (hr : meth.sig.returnType = (some .boolean)) {P : xP} : xAt p l e { frames := 0, cells := 0, slots := 0, locals := 0 } s m args below meth c g 1 xFT xN 0 0 (MQ below (xQc g xFT xN P) args s 0 0 (xFr g)) (k_X12_isSmall_0 P) 0 := by
  unfold k_X12_isSmall_0
  refine r_iload_n (pc := 0) X d_X12_isSmall_0 fn0 ?_
  refine r_bipush (pc := 1) X d_X12_isSmall_1 (by decide +kernel) ?_
  refine r_icmp_lt (pc := 3) (tgt := 16) X d_X12_isSmall_3 (by decide +kernel) ?_ ?_
  · exact t_X12_isSmall_16 X hr
  · refine r_iload_n (pc := 6) X d_X12_isSmall_6 fn0 ?_
    refine r_bipush (pc := 7) X d_X12_isSmall_7 (by decide +kernel) ?_
    refine r_icmp_gt (pc := 9) (tgt := 16) X d_X12_isSmall_9 (by decide +kernel) ?_ ?_
    · exact t_X12_isSmall_16 X hr
    · refine r_iconst (pc := 12) X d_X12_isSmall_12 (by decide +kernel) ?_
      refine r_goto (pc := 13) (tgt := 17) X d_X12_isSmall_13 (by decide +kernel) ?_
      exact t_X12_isSmall_17 X hr
def f_X12_isSmall (a0 : Int32) (A : xH) (P : xP) : Prop := k_X12_isSmall_0 P [some (.int a0)] [] A
set_option maxRecDepth 20000 in
theorem con_X12_isSmall (l : Launch) : xCon l yX12_isSmall cX12_isSmall 1 (some .boolean) 0 0 xN xN 0 xFT xFT (w_I f_X12_isSmall) :=
  xc_I (plainFor_of_name pn_RX12) (by decide +kernel) (fun p e s m args below meth c g a0 A P h X hr _ => ⟨_, h, t_X12_isSmall_0 X hr⟩)
theorem d_X12_isDigit_0 : decode cX12_isDigit 0 = .ok (.iload_n 0, 1) := by decide +kernel
theorem d_X12_isDigit_1 : decode cX12_isDigit 1 = .ok (.bipush 48, 2) := by decide +kernel
theorem d_X12_isDigit_3 : decode cX12_isDigit 3 = .ok (.if_icmp .lt 13, 3) := by decide +kernel
theorem d_X12_isDigit_6 : decode cX12_isDigit 6 = .ok (.iload_n 0, 1) := by decide +kernel
theorem d_X12_isDigit_7 : decode cX12_isDigit 7 = .ok (.bipush 57, 2) := by decide +kernel
theorem d_X12_isDigit_9 : decode cX12_isDigit 9 = .ok (.if_icmp .gt 7, 3) := by decide +kernel
theorem d_X12_isDigit_12 : decode cX12_isDigit 12 = .ok (.iconst 1, 1) := by decide +kernel
theorem d_X12_isDigit_13 : decode cX12_isDigit 13 = .ok (.goto 4, 3) := by decide +kernel
theorem d_X12_isDigit_16 : decode cX12_isDigit 16 = .ok (.iconst 0, 1) := by decide +kernel
theorem d_X12_isDigit_17 : decode cX12_isDigit 17 = .ok (.ireturn, 1) := by decide +kernel
def k_X12_isDigit_17 (P : xP) : xK := x_zret P
set_option maxRecDepth 20000 in
theorem t_X12_isDigit_17 {p : Program} {l : Launch} {e : Env} {s : State} {m : MethodId} {args : Array Value} {below : List Frame} {meth : Method} {c : Code} {g : xG} (X : xX p s m args c meth cX12_isDigit RX12 1 g) (hr : meth.sig.returnType = (some .boolean)) {P : xP} : xAt p l e { frames := 0, cells := 0, slots := 0, locals := 0 } s m args below meth c g 1 xFT xN 0 0 (MQ below (xQc g xFT xN P) args s 0 0 (xFr g)) (k_X12_isDigit_17 P) 17 := by
  unfold k_X12_isDigit_17
  exact r_zret (pc := 17) X hr d_X12_isDigit_17
def k_X12_isDigit_16 (P : xP) : xK := x_push (.int 0) ((k_X12_isDigit_17 P))
set_option maxRecDepth 20000 in
theorem t_X12_isDigit_16 {p : Program} {l : Launch} {e : Env} {s : State} {m : MethodId} {args : Array Value} {below : List Frame} {meth : Method} {c : Code} {g : xG} (X : xX p s m args c meth cX12_isDigit RX12 1 g) (hr : meth.sig.returnType = (some .boolean)) {P : xP} : xAt p l e { frames := 0, cells := 0, slots := 0, locals := 0 } s m args below meth c g 1 xFT xN 0 0 (MQ below (xQc g xFT xN P) args s 0 0 (xFr g)) (k_X12_isDigit_16 P) 16 := by
  unfold k_X12_isDigit_16
  refine r_iconst (pc := 16) X d_X12_isDigit_16 (by decide +kernel) ?_
  exact t_X12_isDigit_17 X hr
def k_X12_isDigit_0 (P : xP) : xK := x_iload 0 (x_push (.int 48) (x_icmp_lt ((k_X12_isDigit_16 P)) (x_iload 0 (x_push (.int 57) (x_icmp_gt ((k_X12_isDigit_16 P)) (x_push (.int 1) ((k_X12_isDigit_17 P))))))))
set_option maxRecDepth 20000 in
theorem t_X12_isDigit_0 {p : Program} {l : Launch} {e : Env} {s : State} {m : MethodId} {args : Array Value} {below : List Frame} {meth : Method} {c : Code} {g : xG} (X : xX p s m args c meth cX12_isDigit RX12 1 g) (hr : meth.sig.returnType = (some .boolean)) {P : xP} : xAt p l e { frames := 0, cells := 0, slots := 0, locals := 0 } s m args below meth c g 1 xFT xN 0 0 (MQ below (xQc g xFT xN P) args s 0 0 (xFr g)) (k_X12_isDigit_0 P) 0 := by
  unfold k_X12_isDigit_0
  refine r_iload_n (pc := 0) X d_X12_isDigit_0 fn0 ?_
  refine r_bipush (pc := 1) X d_X12_isDigit_1 (by decide +kernel) ?_
  refine r_icmp_lt (pc := 3) (tgt := 16) X d_X12_isDigit_3 (by decide +kernel) ?_ ?_
  · exact t_X12_isDigit_16 X hr
  · refine r_iload_n (pc := 6) X d_X12_isDigit_6 fn0 ?_
    refine r_bipush (pc := 7) X d_X12_isDigit_7 (by decide +kernel) ?_
    refine r_icmp_gt (pc := 9) (tgt := 16) X d_X12_isDigit_9 (by decide +kernel) ?_ ?_
    · exact t_X12_isDigit_16 X hr
    · refine r_iconst (pc := 12) X d_X12_isDigit_12 (by decide +kernel) ?_
      refine r_goto (pc := 13) (tgt := 17) X d_X12_isDigit_13 (by decide +kernel) ?_
      exact t_X12_isDigit_17 X hr
def f_X12_isDigit (a0 : Int32) (A : xH) (P : xP) : Prop := k_X12_isDigit_0 P [some (.int a0)] [] A
set_option maxRecDepth 20000 in
theorem con_X12_isDigit (l : Launch) : xCon l yX12_isDigit cX12_isDigit 1 (some .boolean) 0 0 xN xN 0 xFT xFT (w_I f_X12_isDigit) :=
  xc_I (plainFor_of_name pn_RX12) (by decide +kernel) (fun p e s m args below meth c g a0 A P h X hr _ => ⟨_, h, t_X12_isDigit_0 X hr⟩)
theorem d_X12_next_0 : decode cX12_next 0 = .ok (.aload_n 0, 1) := by decide +kernel
theorem d_X12_next_1 : decode cX12_next 1 = .ok (.invokevirtual 222, 3) := by decide +kernel
theorem d_X12_next_4 : decode cX12_next 4 = .ok (.bipush 32, 2) := by decide +kernel
theorem d_X12_next_6 : decode cX12_next 6 = .ok (.if_icmp .eq 12, 3) := by decide +kernel
theorem d_X12_next_9 : decode cX12_next 9 = .ok (.aload_n 0, 1) := by decide +kernel
theorem d_X12_next_10 : decode cX12_next 10 = .ok (.invokevirtual 222, 3) := by decide +kernel
theorem d_X12_next_13 : decode cX12_next 13 = .ok (.bipush 10, 2) := by decide +kernel
theorem d_X12_next_15 : decode cX12_next 15 = .ok (.if_icmp .ne 16, 3) := by decide +kernel
theorem d_X12_next_18 : decode cX12_next 18 = .ok (.aload_n 0, 1) := by decide +kernel
theorem d_X12_next_19 : decode cX12_next 19 = .ok (.dup, 1) := by decide +kernel
theorem d_X12_next_20 : decode cX12_next 20 = .ok (.getfield 18, 3) := by decide +kernel
theorem d_X12_next_23 : decode cX12_next 23 = .ok (.iconst 1, 1) := by decide +kernel
theorem d_X12_next_24 : decode cX12_next 24 = .ok (.iadd, 1) := by decide +kernel
theorem d_X12_next_25 : decode cX12_next 25 = .ok (.putfield 18, 3) := by decide +kernel
theorem d_X12_next_28 : decode cX12_next 28 = .ok (.goto (-28), 3) := by decide +kernel
theorem d_X12_next_31 : decode cX12_next 31 = .ok (.aload_n 0, 1) := by decide +kernel
theorem d_X12_next_32 : decode cX12_next 32 = .ok (.aload_n 0, 1) := by decide +kernel
theorem d_X12_next_33 : decode cX12_next 33 = .ok (.getfield 18, 3) := by decide +kernel
theorem d_X12_next_36 : decode cX12_next 36 = .ok (.putfield 226, 3) := by decide +kernel
theorem d_X12_next_39 : decode cX12_next 39 = .ok (.aload_n 0, 1) := by decide +kernel
theorem d_X12_next_40 : decode cX12_next 40 = .ok (.iconst 0, 1) := by decide +kernel
theorem d_X12_next_41 : decode cX12_next 41 = .ok (.putfield 229, 3) := by decide +kernel
theorem d_X12_next_44 : decode cX12_next 44 = .ok (.aload_n 0, 1) := by decide +kernel
theorem d_X12_next_45 : decode cX12_next 45 = .ok (.getfield 15, 3) := by decide +kernel
theorem d_X12_next_48 : decode cX12_next 48 = .ok (.aload_n 0, 1) := by decide +kernel
theorem d_X12_next_49 : decode cX12_next 49 = .ok (.getfield 21, 3) := by decide +kernel
theorem d_X12_next_52 : decode cX12_next 52 = .ok (.if_icmp .le 28, 3) := by decide +kernel
theorem d_X12_next_55 : decode cX12_next 55 = .ok (.aload_n 0, 1) := by decide +kernel
theorem d_X12_next_56 : decode cX12_next 56 = .ok (.getfield 18, 3) := by decide +kernel
theorem d_X12_next_59 : decode cX12_next 59 = .ok (.aload_n 0, 1) := by decide +kernel
theorem d_X12_next_60 : decode cX12_next 60 = .ok (.getfield 21, 3) := by decide +kernel
theorem d_X12_next_63 : decode cX12_next 63 = .ok (.if_icmp .lt 17, 3) := by decide +kernel
theorem d_X12_next_66 : decode cX12_next 66 = .ok (.aload_n 0, 1) := by decide +kernel
theorem d_X12_next_67 : decode cX12_next 67 = .ok (.aload_n 0, 1) := by decide +kernel
theorem d_X12_next_68 : decode cX12_next 68 = .ok (.getfield 21, 3) := by decide +kernel
theorem d_X12_next_71 : decode cX12_next 71 = .ok (.putfield 226, 3) := by decide +kernel
theorem d_X12_next_74 : decode cX12_next 74 = .ok (.aload_n 0, 1) := by decide +kernel
theorem d_X12_next_75 : decode cX12_next 75 = .ok (.iconst 4, 1) := by decide +kernel
theorem d_X12_next_76 : decode cX12_next 76 = .ok (.putfield 232, 3) := by decide +kernel
theorem d_X12_next_79 : decode cX12_next 79 = .ok (.return_, 1) := by decide +kernel
theorem d_X12_next_80 : decode cX12_next 80 = .ok (.aload_n 0, 1) := by decide +kernel
theorem d_X12_next_81 : decode cX12_next 81 = .ok (.invokevirtual 222, 3) := by decide +kernel
theorem d_X12_next_84 : decode cX12_next 84 = .ok (.istore_n 1, 1) := by decide +kernel
theorem d_X12_next_85 : decode cX12_next 85 = .ok (.iload_n 1, 1) := by decide +kernel
theorem d_X12_next_86 : decode cX12_next 86 = .ok (.ifCond .ge 9, 3) := by decide +kernel
theorem d_X12_next_89 : decode cX12_next 89 = .ok (.aload_n 0, 1) := by decide +kernel
theorem d_X12_next_90 : decode cX12_next 90 = .ok (.iconst 0, 1) := by decide +kernel
theorem d_X12_next_91 : decode cX12_next 91 = .ok (.putfield 232, 3) := by decide +kernel
theorem d_X12_next_94 : decode cX12_next 94 = .ok (.return_, 1) := by decide +kernel
theorem d_X12_next_95 : decode cX12_next 95 = .ok (.iload_n 1, 1) := by decide +kernel
theorem d_X12_next_96 : decode cX12_next 96 = .ok (.invokestatic 235, 3) := by decide +kernel
theorem d_X12_next_99 : decode cX12_next 99 = .ok (.ifCond .ne 65, 3) := by decide +kernel
theorem d_X12_next_102 : decode cX12_next 102 = .ok (.iload_n 1, 1) := by decide +kernel
theorem d_X12_next_103 : decode cX12_next 103 = .ok (.invokestatic 239, 3) := by decide +kernel
theorem d_X12_next_106 : decode cX12_next 106 = .ok (.ifCond .ne 58, 3) := by decide +kernel
theorem d_X12_next_109 : decode cX12_next 109 = .ok (.aload_n 0, 1) := by decide +kernel
theorem d_X12_next_110 : decode cX12_next 110 = .ok (.iload_n 1, 1) := by decide +kernel
theorem d_X12_next_111 : decode cX12_next 111 = .ok (.bipush 59, 2) := by decide +kernel
theorem d_X12_next_113 : decode cX12_next 113 = .ok (.if_icmp .eq 27, 3) := by decide +kernel
theorem d_X12_next_116 : decode cX12_next 116 = .ok (.iload_n 1, 1) := by decide +kernel
theorem d_X12_next_117 : decode cX12_next 117 = .ok (.bipush 40, 2) := by decide +kernel
theorem d_X12_next_119 : decode cX12_next 119 = .ok (.if_icmp .eq 21, 3) := by decide +kernel
theorem d_X12_next_122 : decode cX12_next 122 = .ok (.iload_n 1, 1) := by decide +kernel
theorem d_X12_next_123 : decode cX12_next 123 = .ok (.bipush 41, 2) := by decide +kernel
theorem d_X12_next_125 : decode cX12_next 125 = .ok (.if_icmp .eq 15, 3) := by decide +kernel
theorem d_X12_next_128 : decode cX12_next 128 = .ok (.iload_n 1, 1) := by decide +kernel
theorem d_X12_next_129 : decode cX12_next 129 = .ok (.bipush 60, 2) := by decide +kernel
theorem d_X12_next_131 : decode cX12_next 131 = .ok (.if_icmp .lt 13, 3) := by decide +kernel
theorem d_X12_next_134 : decode cX12_next 134 = .ok (.iload_n 1, 1) := by decide +kernel
theorem d_X12_next_135 : decode cX12_next 135 = .ok (.bipush 62, 2) := by decide +kernel
theorem d_X12_next_137 : decode cX12_next 137 = .ok (.if_icmp .gt 7, 3) := by decide +kernel
theorem d_X12_next_140 : decode cX12_next 140 = .ok (.iconst 3, 1) := by decide +kernel
theorem d_X12_next_141 : decode cX12_next 141 = .ok (.goto 4, 3) := by decide +kernel
theorem d_X12_next_144 : decode cX12_next 144 = .ok (.iconst 4, 1) := by decide +kernel
theorem d_X12_next_145 : decode cX12_next 145 = .ok (.putfield 232, 3) := by decide +kernel
theorem d_X12_next_148 : decode cX12_next 148 = .ok (.aload_n 0, 1) := by decide +kernel
theorem d_X12_next_149 : decode cX12_next 149 = .ok (.iload_n 1, 1) := by decide +kernel
theorem d_X12_next_150 : decode cX12_next 150 = .ok (.putfield 242, 3) := by decide +kernel
theorem d_X12_next_153 : decode cX12_next 153 = .ok (.aload_n 0, 1) := by decide +kernel
theorem d_X12_next_154 : decode cX12_next 154 = .ok (.dup, 1) := by decide +kernel
theorem d_X12_next_155 : decode cX12_next 155 = .ok (.getfield 18, 3) := by decide +kernel
theorem d_X12_next_158 : decode cX12_next 158 = .ok (.iconst 1, 1) := by decide +kernel
theorem d_X12_next_159 : decode cX12_next 159 = .ok (.iadd, 1) := by decide +kernel
theorem d_X12_next_160 : decode cX12_next 160 = .ok (.putfield 18, 3) := by decide +kernel
theorem d_X12_next_163 : decode cX12_next 163 = .ok (.return_, 1) := by decide +kernel
theorem d_X12_next_164 : decode cX12_next 164 = .ok (.iload_n 1, 1) := by decide +kernel
theorem d_X12_next_165 : decode cX12_next 165 = .ok (.invokestatic 235, 3) := by decide +kernel
theorem d_X12_next_168 : decode cX12_next 168 = .ok (.istore_n 2, 1) := by decide +kernel
theorem d_X12_next_169 : decode cX12_next 169 = .ok (.iconst 1, 1) := by decide +kernel
theorem d_X12_next_170 : decode cX12_next 170 = .ok (.istore_n 3, 1) := by decide +kernel
theorem d_X12_next_171 : decode cX12_next 171 = .ok (.aload_n 0, 1) := by decide +kernel
theorem d_X12_next_172 : decode cX12_next 172 = .ok (.lconst 0, 1) := by decide +kernel
theorem d_X12_next_173 : decode cX12_next 173 = .ok (.putfield 245, 3) := by decide +kernel
theorem d_X12_next_176 : decode cX12_next 176 = .ok (.aload_n 0, 1) := by decide +kernel
theorem d_X12_next_177 : decode cX12_next 177 = .ok (.iconst 0, 1) := by decide +kernel
theorem d_X12_next_178 : decode cX12_next 178 = .ok (.putfield 242, 3) := by decide +kernel
theorem d_X12_next_181 : decode cX12_next 181 = .ok (.aload_n 0, 1) := by decide +kernel
theorem d_X12_next_182 : decode cX12_next 182 = .ok (.invokevirtual 222, 3) := by decide +kernel
theorem d_X12_next_185 : decode cX12_next 185 = .ok (.invokestatic 235, 3) := by decide +kernel
theorem d_X12_next_188 : decode cX12_next 188 = .ok (.ifCond .ne 13, 3) := by decide +kernel
theorem d_X12_next_191 : decode cX12_next 191 = .ok (.aload_n 0, 1) := by decide +kernel
theorem d_X12_next_192 : decode cX12_next 192 = .ok (.invokevirtual 222, 3) := by decide +kernel
theorem d_X12_next_195 : decode cX12_next 195 = .ok (.invokestatic 239, 3) := by decide +kernel
theorem d_X12_next_198 : decode cX12_next 198 = .ok (.ifCond .eq 100, 3) := by decide +kernel
theorem d_X12_next_201 : decode cX12_next 201 = .ok (.iload_n 3, 1) := by decide +kernel
theorem d_X12_next_202 : decode cX12_next 202 = .ok (.ifCond .eq 18, 3) := by decide +kernel
theorem d_X12_next_205 : decode cX12_next 205 = .ok (.aload_n 0, 1) := by decide +kernel
theorem d_X12_next_206 : decode cX12_next 206 = .ok (.invokevirtual 222, 3) := by decide +kernel
theorem d_X12_next_209 : decode cX12_next 209 = .ok (.invokestatic 235, 3) := by decide +kernel
theorem d_X12_next_212 : decode cX12_next 212 = .ok (.iload_n 2, 1) := by decide +kernel
theorem d_X12_next_213 : decode cX12_next 213 = .ok (.if_icmp .ne 7, 3) := by decide +kernel
theorem d_X12_next_216 : decode cX12_next 216 = .ok (.iconst 1, 1) := by decide +kernel
theorem d_X12_next_217 : decode cX12_next 217 = .ok (.goto 4, 3) := by decide +kernel
theorem d_X12_next_220 : decode cX12_next 220 = .ok (.iconst 0, 1) := by decide +kernel
theorem d_X12_next_221 : decode cX12_next 221 = .ok (.istore_n 3, 1) := by decide +kernel
theorem d_X12_next_222 : decode cX12_next 222 = .ok (.aload_n 0, 1) := by decide +kernel
theorem d_X12_next_223 : decode cX12_next 223 = .ok (.getfield 229, 3) := by decide +kernel
theorem d_X12_next_226 : decode cX12_next 226 = .ok (.bipush 7, 2) := by decide +kernel
theorem d_X12_next_228 : decode cX12_next 228 = .ok (.if_icmp .ge 20, 3) := by decide +kernel
theorem d_X12_next_231 : decode cX12_next 231 = .ok (.aload_n 0, 1) := by decide +kernel
theorem d_X12_next_232 : decode cX12_next 232 = .ok (.aload_n 0, 1) := by decide +kernel
theorem d_X12_next_233 : decode cX12_next 233 = .ok (.getfield 245, 3) := by decide +kernel
theorem d_X12_next_236 : decode cX12_next 236 = .ok (.bipush 8, 2) := by decide +kernel
theorem d_X12_next_238 : decode cX12_next 238 = .ok (.lshl, 1) := by decide +kernel
theorem d_X12_next_239 : decode cX12_next 239 = .ok (.aload_n 0, 1) := by decide +kernel
theorem d_X12_next_240 : decode cX12_next 240 = .ok (.invokevirtual 222, 3) := by decide +kernel
theorem d_X12_next_243 : decode cX12_next 243 = .ok (.i2l, 1) := by decide +kernel
theorem d_X12_next_244 : decode cX12_next 244 = .ok (.lor, 1) := by decide +kernel
theorem d_X12_next_245 : decode cX12_next 245 = .ok (.putfield 245, 3) := by decide +kernel
theorem d_X12_next_248 : decode cX12_next 248 = .ok (.aload_n 0, 1) := by decide +kernel
theorem d_X12_next_249 : decode cX12_next 249 = .ok (.getfield 229, 3) := by decide +kernel
theorem d_X12_next_252 : decode cX12_next 252 = .ok (.iconst 3, 1) := by decide +kernel
theorem d_X12_next_253 : decode cX12_next 253 = .ok (.if_icmp .ge 22, 3) := by decide +kernel
theorem d_X12_next_256 : decode cX12_next 256 = .ok (.aload_n 0, 1) := by decide +kernel
theorem d_X12_next_257 : decode cX12_next 257 = .ok (.bipush 10, 2) := by decide +kernel
theorem d_X12_next_259 : decode cX12_next 259 = .ok (.aload_n 0, 1) := by decide +kernel
theorem d_X12_next_260 : decode cX12_next 260 = .ok (.getfield 242, 3) := by decide +kernel
theorem d_X12_next_263 : decode cX12_next 263 = .ok (.imul, 1) := by decide +kernel
theorem d_X12_next_264 : decode cX12_next 264 = .ok (.aload_n 0, 1) := by decide +kernel
theorem d_X12_next_265 : decode cX12_next 265 = .ok (.invokevirtual 222, 3) := by decide +kernel
theorem d_X12_next_268 : decode cX12_next 268 = .ok (.iadd, 1) := by decide +kernel
theorem d_X12_next_269 : decode cX12_next 269 = .ok (.bipush 48, 2) := by decide +kernel
theorem d_X12_next_271 : decode cX12_next 271 = .ok (.isub, 1) := by decide +kernel
theorem d_X12_next_272 : decode cX12_next 272 = .ok (.putfield 242, 3) := by decide +kernel
theorem d_X12_next_275 : decode cX12_next 275 = .ok (.aload_n 0, 1) := by decide +kernel
theorem d_X12_next_276 : decode cX12_next 276 = .ok (.dup, 1) := by decide +kernel
theorem d_X12_next_277 : decode cX12_next 277 = .ok (.getfield 229, 3) := by decide +kernel
theorem d_X12_next_280 : decode cX12_next 280 = .ok (.iconst 1, 1) := by decide +kernel
theorem d_X12_next_281 : decode cX12_next 281 = .ok (.iadd, 1) := by decide +kernel
theorem d_X12_next_282 : decode cX12_next 282 = .ok (.putfield 229, 3) := by decide +kernel
theorem d_X12_next_285 : decode cX12_next 285 = .ok (.aload_n 0, 1) := by decide +kernel
theorem d_X12_next_286 : decode cX12_next 286 = .ok (.dup, 1) := by decide +kernel
theorem d_X12_next_287 : decode cX12_next 287 = .ok (.getfield 18, 3) := by decide +kernel
theorem d_X12_next_290 : decode cX12_next 290 = .ok (.iconst 1, 1) := by decide +kernel
theorem d_X12_next_291 : decode cX12_next 291 = .ok (.iadd, 1) := by decide +kernel
theorem d_X12_next_292 : decode cX12_next 292 = .ok (.putfield 18, 3) := by decide +kernel
theorem d_X12_next_295 : decode cX12_next 295 = .ok (.goto (-114), 3) := by decide +kernel
theorem d_X12_next_298 : decode cX12_next 298 = .ok (.aload_n 0, 1) := by decide +kernel
theorem d_X12_next_299 : decode cX12_next 299 = .ok (.iload_n 3, 1) := by decide +kernel
theorem d_X12_next_300 : decode cX12_next 300 = .ok (.ifCond .eq 20, 3) := by decide +kernel
theorem d_X12_next_303 : decode cX12_next 303 = .ok (.aload_n 0, 1) := by decide +kernel
theorem d_X12_next_304 : decode cX12_next 304 = .ok (.getfield 229, 3) := by decide +kernel
theorem d_X12_next_307 : decode cX12_next 307 = .ok (.iload_n 2, 1) := by decide +kernel
theorem d_X12_next_308 : decode cX12_next 308 = .ok (.ifCond .eq 8, 3) := by decide +kernel
theorem d_X12_next_311 : decode cX12_next 311 = .ok (.bipush 7, 2) := by decide +kernel
theorem d_X12_next_313 : decode cX12_next 313 = .ok (.goto 4, 3) := by decide +kernel
theorem d_X12_next_316 : decode cX12_next 316 = .ok (.iconst 3, 1) := by decide +kernel
theorem d_X12_next_317 : decode cX12_next 317 = .ok (.if_icmp .le 7, 3) := by decide +kernel
theorem d_X12_next_320 : decode cX12_next 320 = .ok (.iconst 4, 1) := by decide +kernel
theorem d_X12_next_321 : decode cX12_next 321 = .ok (.goto 12, 3) := by decide +kernel
theorem d_X12_next_324 : decode cX12_next 324 = .ok (.iload_n 2, 1) := by decide +kernel
theorem d_X12_next_325 : decode cX12_next 325 = .ok (.ifCond .eq 7, 3) := by decide +kernel
theorem d_X12_next_328 : decode cX12_next 328 = .ok (.iconst 1, 1) := by decide +kernel
theorem d_X12_next_329 : decode cX12_next 329 = .ok (.goto 4, 3) := by decide +kernel
theorem d_X12_next_332 : decode cX12_next 332 = .ok (.iconst 2, 1) := by decide +kernel
theorem d_X12_next_333 : decode cX12_next 333 = .ok (.putfield 232, 3) := by decide +kernel
theorem d_X12_next_336 : decode cX12_next 336 = .ok (.return_, 1) := by decide +kernel
def k_X12_next_18 (P : xP) (C0 : xK) : xK := x_aload 0 (x_dup (y_getI 180 3 (x_push (.int 1) (x_iadd (y_putI 180 3 (C0))))))
set_option maxRecDepth 20000 in
theorem t_X12_next_18 {p : Program} {l : Launch} {e : Env} {s : State} {m : MethodId} {args : Array Value} {below : List Frame} {meth : Method} {c : Code} {g : xG} (X : xX p s m args c meth cX12_next RX12 4 g) (hr : meth.sig.returnType = none) {P : xP} {C0 : xK} (h0 : xAt p l e { frames := 1, cells := 0, slots := 0, locals := 20 } s m args below meth c g 4 xFT xN 0 0 (MQ below (xQc g xFT xN P) args s 0 0 (xFr g)) C0 0) : xAt p l e { frames := 1, cells := 0, slots := 0, locals := 20 } s m args below meth c g 4 xFT xN 0 0 (MQ below (xQc g xFT xN P) args s 0 0 (xFr g)) (k_X12_next_18 P C0) 18 := by
  unfold k_X12_next_18
  refine r_aload_n (pc := 18) X d_X12_next_18 fn0 ?_
  refine r_dup (pc := 19) X d_X12_next_19 ?_
  refine s_getI (pc := 20) (ci := 12) X xok12 (by decide +kernel) ob_180 (by decide +kernel) fl_RX12_18 d_X12_next_20 ?_
  refine r_iconst (pc := 23) X d_X12_next_23 (by decide +kernel) ?_
  refine r_iadd (pc := 24) X d_X12_next_24 ?_
  refine s_putI (pc := 25) (ci := 12) X xok12 (by decide +kernel) ob_180 (by decide +kernel) (by decide +kernel) (by decide +kernel) fl_RX12_18 d_X12_next_25 ?_
  refine r_goto (pc := 28) (tgt := 0) X d_X12_next_28 (by decide +kernel) ?_
  exact h0
def k_X12_next_164 (P : xP) (C181 : xK) : xK := x_iload 1 (x_cs1 (w_I f_X12_isSmall) (x_istore 2 (x_push (.int 1) (x_istore 3 (x_aload 0 (x_push (.long 0) (y_putJ 180 17 (x_aload 0 (x_push (.int 0) (y_putI 180 14 (C181)))))))))))
set_option maxRecDepth 20000 in
theorem t_X12_next_164 {p : Program} {l : Launch} {e : Env} {s : State} {m : MethodId} {args : Array Value} {below : List Frame} {meth : Method} {c : Code} {g : xG} (X : xX p s m args c meth cX12_next RX12 4 g) (hr : meth.sig.returnType = none) {P : xP} {C181 : xK} (h181 : xAt p l e { frames := 1, cells := 0, slots := 0, locals := 20 } s m args below meth c g 4 xFT xN 0 0 (MQ below (xQc g xFT xN P) args s 0 0 (xFr g)) C181 181) : xAt p l e { frames := 1, cells := 0, slots := 0, locals := 20 } s m args below meth c g 4 xFT xN 0 0 (MQ below (xQc g xFT xN P) args s 0 0 (xFr g)) (k_X12_next_164 P C181) 164 := by
  unfold k_X12_next_164
  refine r_iload_n (pc := 164) X d_X12_next_164 fn1 ?_
  refine r_cs1 (pc := 165) X (con_X12_isSmall l) sf_X12_isSmall ml_RX12_235 (by decide +kernel) (by decide +kernel) d_X12_next_165 ?_
  refine r_istore_n (pc := 168) X d_X12_next_168 fn2 (by decide +kernel) ?_
  refine r_iconst (pc := 169) X d_X12_next_169 (by decide +kernel) ?_
  refine r_istore_n (pc := 170) X d_X12_next_170 fn3 (by decide +kernel) ?_
  refine r_aload_n (pc := 171) X d_X12_next_171 fn0 ?_
  refine r_lconst (pc := 172) X d_X12_next_172 (by decide +kernel) ?_
  refine s_putJ (pc := 173) (ci := 12) X xok12 (by decide +kernel) ob_180 (by decide +kernel) (by decide +kernel) (by decide +kernel) fl_RX12_245 d_X12_next_173 ?_
  refine r_aload_n (pc := 176) X d_X12_next_176 fn0 ?_
  refine r_iconst (pc := 177) X d_X12_next_177 (by decide +kernel) ?_
  refine s_putI (pc := 178) (ci := 12) X xok12 (by decide +kernel) ob_180 (by decide +kernel) (by decide +kernel) (by decide +kernel) fl_RX12_242 d_X12_next_178 ?_
  exact h181
def k_X12_next_145 (P : xP) : xK := x_putI xN 12 11 (x_aload 0 (x_iload 1 (y_putI 180 14 (x_aload 0 (x_dup (y_getI 180 3 (x_push (.int 1) (x_iadd (y_putI 180 3 (x_vret P))))))))))
set_option maxRecDepth 20000 in
theorem t_X12_next_145 {p : Program} {l : Launch} {e : Env} {s : State} {m : MethodId} {args : Array Value} {below : List Frame} {meth : Method} {c : Code} {g : xG} (X : xX p s m args c meth cX12_next RX12 4 g) (hr : meth.sig.returnType = none) {P : xP} : xAt p l e { frames := 1, cells := 0, slots := 0, locals := 20 } s m args below meth c g 4 xFT xN 0 0 (MQ below (xQc g xFT xN P) args s 0 0 (xFr g)) (k_X12_next_145 P) 145 := by
  unfold k_X12_next_145
  refine r_putI (pc := 145) X xok12 (by decide +kernel) (by decide +kernel) (by decide +kernel) (by decide +kernel) fl_RX12_232 d_X12_next_145 ?_
  refine r_aload_n (pc := 148) X d_X12_next_148 fn0 ?_
  refine r_iload_n (pc := 149) X d_X12_next_149 fn1 ?_
  refine s_putI (pc := 150) (ci := 12) X xok12 (by decide +kernel) ob_180 (by decide +kernel) (by decide +kernel) (by decide +kernel) fl_RX12_242 d_X12_next_150 ?_
  refine r_aload_n (pc := 153) X d_X12_next_153 fn0 ?_
  refine r_dup (pc := 154) X d_X12_next_154 ?_
  refine s_getI (pc := 155) (ci := 12) X xok12 (by decide +kernel) ob_180 (by decide +kernel) fl_RX12_18 d_X12_next_155 ?_
  refine r_iconst (pc := 158) X d_X12_next_158 (by decide +kernel) ?_
  refine r_iadd (pc := 159) X d_X12_next_159 ?_
  refine s_putI (pc := 160) (ci := 12) X xok12 (by decide +kernel) ob_180 (by decide +kernel) (by decide +kernel) (by decide +kernel) fl_RX12_18 d_X12_next_160 ?_
  exact r_vret (pc := 163) X hr d_X12_next_163
def k_X12_next_140 (P : xP) : xK := x_push (.int 3) ((k_X12_next_145 P))
set_option maxRecDepth 20000 in
theorem t_X12_next_140 {p : Program} {l : Launch} {e : Env} {s : State} {m : MethodId} {args : Array Value} {below : List Frame} {meth : Method} {c : Code} {g : xG} (X : xX p s m args c meth cX12_next RX12 4 g) (hr : meth.sig.returnType = none) {P : xP} : xAt p l e { frames := 1, cells := 0, slots := 0, locals := 20 } s m args below meth c g 4 xFT xN 0 0 (MQ below (xQc g xFT xN P) args s 0 0 (xFr g)) (k_X12_next_140 P) 140 := by
  unfold k_X12_next_140
  refine r_iconst (pc := 140) X d_X12_next_140 (by decide +kernel) ?_
  refine r_goto (pc := 141) (tgt := 145) X d_X12_next_141 (by decide +kernel) ?_
  exact t_X12_next_145 X hr
def k_X12_next_144 (P : xP) : xK := x_push (.int 4) ((k_X12_next_145 P))
set_option maxRecDepth 20000 in
theorem t_X12_next_144 {p : Program} {l : Launch} {e : Env} {s : State} {m : MethodId} {args : Array Value} {below : List Frame} {meth : Method} {c : Code} {g : xG} (X : xX p s m args c meth cX12_next RX12 4 g) (hr : meth.sig.returnType = none) {P : xP} : xAt p l e { frames := 1, cells := 0, slots := 0, locals := 20 } s m args below meth c g 4 xFT xN 0 0 (MQ below (xQc g xFT xN P) args s 0 0 (xFr g)) (k_X12_next_144 P) 144 := by
  unfold k_X12_next_144
  refine r_iconst (pc := 144) X d_X12_next_144 (by decide +kernel) ?_
  exact t_X12_next_145 X hr
def k_X12_next_80 (P : xP) (C181 : xK) : xK := x_aload 0 (y_cv0 180 (w_R f_X12_peek) (x_istore 1 (x_iload 1 (x_if_ge (x_iload 1 (x_cs1 (w_I f_X12_isSmall) (x_if_ne ((k_X12_next_164 P C181)) (x_iload 1 (x_cs1 (w_I f_X12_isDigit) (x_if_ne ((k_X12_next_164 P C181)) (x_aload 0 (x_iload 1 (x_push (.int 59) (x_icmp_eq ((k_X12_next_140 P)) (x_iload 1 (x_push (.int 40) (x_icmp_eq ((k_X12_next_140 P)) (x_iload 1 (x_push (.int 41) (x_icmp_eq ((k_X12_next_140 P)) (x_iload 1 (x_push (.int 60) (x_icmp_lt ((k_X12_next_144 P)) (x_iload 1 (x_push (.int 62) (x_icmp_gt ((k_X12_next_144 P)) ((k_X12_next_140 P)))))))))))))))))))))))) (x_aload 0 (x_push (.int 0) (y_putI 180 11 (x_vret P))))))))
set_option maxRecDepth 20000 in
theorem t_X12_next_80 {p : Program} {l : Launch} {e : Env} {s : State} {m : MethodId} {args : Array Value} {below : List Frame} {meth : Method} {c : Code} {g : xG} (X : xX p s m args c meth cX12_next RX12 4 g) (hr : meth.sig.returnType = none) {P : xP} {C181 : xK} (h181 : xAt p l e { frames := 1, cells := 0, slots := 0, locals := 20 } s m args below meth c g 4 xFT xN 0 0 (MQ below (xQc g xFT xN P) args s 0 0 (xFr g)) C181 181) : xAt p l e { frames := 1, cells := 0, slots := 0, locals := 20 } s m args below meth c g 4 xFT xN 0 0 (MQ below (xQc g xFT xN P) args s 0 0 (xFr g)) (k_X12_next_80 P C181) 80 := by
  unfold k_X12_next_80
  refine r_aload_n (pc := 80) X d_X12_next_80 fn0 ?_
  refine s_cv0 (pc := 81) (ci := 12) X xok12 (by decide +kernel) ob_180 rfl (con_X12_peek l) mf_X12_peek ml_RX12_222 (by decide +kernel) (by decide +kernel) d_X12_next_81 ?_
  refine r_istore_n (pc := 84) X d_X12_next_84 fn1 (by decide +kernel) ?_
  refine r_iload_n (pc := 85) X d_X12_next_85 fn1 ?_
  refine r_if_ge (pc := 86) (tgt := 95) X d_X12_next_86 (by decide +kernel) ?_ ?_
  · refine r_iload_n (pc := 95) X d_X12_next_95 fn1 ?_
    refine r_cs1 (pc := 96) X (con_X12_isSmall l) sf_X12_isSmall ml_RX12_235 (by decide +kernel) (by decide +kernel) d_X12_next_96 ?_
    refine r_if_ne (pc := 99) (tgt := 164) X d_X12_next_99 (by decide +kernel) ?_ ?_
    · exact t_X12_next_164 X hr h181
    · refine r_iload_n (pc := 102) X d_X12_next_102 fn1 ?_
      refine r_cs1 (pc := 103) X (con_X12_isDigit l) sf_X12_isDigit ml_RX12_239 (by decide +kernel) (by decide +kernel) d_X12_next_103 ?_
      refine r_if_ne (pc := 106) (tgt := 164) X d_X12_next_106 (by decide +kernel) ?_ ?_
      · exact t_X12_next_164 X hr h181
      · refine r_aload_n (pc := 109) X d_X12_next_109 fn0 ?_
        refine r_iload_n (pc := 110) X d_X12_next_110 fn1 ?_
        refine r_bipush (pc := 111) X d_X12_next_111 (by decide +kernel) ?_
        refine r_icmp_eq (pc := 113) (tgt := 140) X d_X12_next_113 (by decide +kernel) ?_ ?_
        · exact t_X12_next_140 X hr
        · refine r_iload_n (pc := 116) X d_X12_next_116 fn1 ?_
          refine r_bipush (pc := 117) X d_X12_next_117 (by decide +kernel) ?_
          refine r_icmp_eq (pc := 119) (tgt := 140) X d_X12_next_119 (by decide +kernel) ?_ ?_
          · exact t_X12_next_140 X hr
          · refine r_iload_n (pc := 122) X d_X12_next_122 fn1 ?_
            refine r_bipush (pc := 123) X d_X12_next_123 (by decide +kernel) ?_
            refine r_icmp_eq (pc := 125) (tgt := 140) X d_X12_next_125 (by decide +kernel) ?_ ?_
            · exact t_X12_next_140 X hr
            · refine r_iload_n (pc := 128) X d_X12_next_128 fn1 ?_
              refine r_bipush (pc := 129) X d_X12_next_129 (by decide +kernel) ?_
              refine r_icmp_lt (pc := 131) (tgt := 144) X d_X12_next_131 (by decide +kernel) ?_ ?_
              · exact t_X12_next_144 X hr
              · refine r_iload_n (pc := 134) X d_X12_next_134 fn1 ?_
                refine r_bipush (pc := 135) X d_X12_next_135 (by decide +kernel) ?_
                refine r_icmp_gt (pc := 137) (tgt := 144) X d_X12_next_137 (by decide +kernel) ?_ ?_
                · exact t_X12_next_144 X hr
                · exact t_X12_next_140 X hr
  · refine r_aload_n (pc := 89) X d_X12_next_89 fn0 ?_
    refine r_iconst (pc := 90) X d_X12_next_90 (by decide +kernel) ?_
    refine s_putI (pc := 91) (ci := 12) X xok12 (by decide +kernel) ob_180 (by decide +kernel) (by decide +kernel) (by decide +kernel) fl_RX12_232 d_X12_next_91 ?_
    exact r_vret (pc := 94) X hr d_X12_next_94
def k_X12_next_0 (P : xP) (C0 : xK) (C181 : xK) : xK := x_aload 0 (y_cv0 180 (w_R f_X12_peek) (x_push (.int 32) (x_icmp_eq ((k_X12_next_18 P C0)) (x_aload 0 (y_cv0 180 (w_R f_X12_peek) (x_push (.int 10) (x_icmp_ne (x_aload 0 (x_aload 0 (y_getI 180 3 (y_putI 180 12 (x_aload 0 (x_push (.int 0) (y_putI 180 13 (x_aload 0 (y_getI 180 2 (x_aload 0 (y_getI 180 4 (x_icmp_le ((k_X12_next_80 P C181)) (x_aload 0 (y_getI 180 3 (x_aload 0 (y_getI 180 4 (x_icmp_lt ((k_X12_next_80 P C181)) (x_aload 0 (x_aload 0 (y_getI 180 4 (y_putI 180 12 (x_aload 0 (x_push (.int 4) (y_putI 180 11 (x_vret P))))))))))))))))))))))))) ((k_X12_next_18 P C0)))))))))
set_option maxRecDepth 20000 in
theorem t_X12_next_0 {p : Program} {l : Launch} {e : Env} {s : State} {m : MethodId} {args : Array Value} {below : List Frame} {meth : Method} {c : Code} {g : xG} (X : xX p s m args c meth cX12_next RX12 4 g) (hr : meth.sig.returnType = none) {P : xP} {C0 : xK} {C181 : xK} (h0 : xAt p l e { frames := 1, cells := 0, slots := 0, locals := 20 } s m args below meth c g 4 xFT xN 0 0 (MQ below (xQc g xFT xN P) args s 0 0 (xFr g)) C0 0) (h181 : xAt p l e { frames := 1, cells := 0, slots := 0, locals := 20 } s m args below meth c g 4 xFT xN 0 0 (MQ below (xQc g xFT xN P) args s 0 0 (xFr g)) C181 181) : xAt p l e { frames := 1, cells := 0, slots := 0, locals := 20 } s m args below meth c g 4 xFT xN 0 0 (MQ below (xQc g xFT xN P) args s 0 0 (xFr g)) (k_X12_next_0 P C0 C181) 0 := by
  unfold k_X12_next_0
  refine r_aload_n (pc := 0) X d_X12_next_0 fn0 ?_
  refine s_cv0 (pc := 1) (ci := 12) X xok12 (by decide +kernel) ob_180 rfl (con_X12_peek l) mf_X12_peek ml_RX12_222 (by decide +kernel) (by decide +kernel) d_X12_next_1 ?_
  refine r_bipush (pc := 4) X d_X12_next_4 (by decide +kernel) ?_
  refine r_icmp_eq (pc := 6) (tgt := 18) X d_X12_next_6 (by decide +kernel) ?_ ?_
  · exact t_X12_next_18 X hr h0
  · refine r_aload_n (pc := 9) X d_X12_next_9 fn0 ?_
    refine s_cv0 (pc := 10) (ci := 12) X xok12 (by decide +kernel) ob_180 rfl (con_X12_peek l) mf_X12_peek ml_RX12_222 (by decide +kernel) (by decide +kernel) d_X12_next_10 ?_
    refine r_bipush (pc := 13) X d_X12_next_13 (by decide +kernel) ?_
    refine r_icmp_ne (pc := 15) (tgt := 31) X d_X12_next_15 (by decide +kernel) ?_ ?_
    · refine r_aload_n (pc := 31) X d_X12_next_31 fn0 ?_
      refine r_aload_n (pc := 32) X d_X12_next_32 fn0 ?_
      refine s_getI (pc := 33) (ci := 12) X xok12 (by decide +kernel) ob_180 (by decide +kernel) fl_RX12_18 d_X12_next_33 ?_
      refine s_putI (pc := 36) (ci := 12) X xok12 (by decide +kernel) ob_180 (by decide +kernel) (by decide +kernel) (by decide +kernel) fl_RX12_226 d_X12_next_36 ?_
      refine r_aload_n (pc := 39) X d_X12_next_39 fn0 ?_
      refine r_iconst (pc := 40) X d_X12_next_40 (by decide +kernel) ?_
      refine s_putI (pc := 41) (ci := 12) X xok12 (by decide +kernel) ob_180 (by decide +kernel) (by decide +kernel) (by decide +kernel) fl_RX12_229 d_X12_next_41 ?_
      refine r_aload_n (pc := 44) X d_X12_next_44 fn0 ?_
      refine s_getI (pc := 45) (ci := 12) X xok12 (by decide +kernel) ob_180 (by decide +kernel) fl_RX12_15 d_X12_next_45 ?_
      refine r_aload_n (pc := 48) X d_X12_next_48 fn0 ?_
      refine s_getI (pc := 49) (ci := 12) X xok12 (by decide +kernel) ob_180 (by decide +kernel) fl_RX12_21 d_X12_next_49 ?_
      refine r_icmp_le (pc := 52) (tgt := 80) X d_X12_next_52 (by decide +kernel) ?_ ?_
      · exact t_X12_next_80 X hr h181
      · refine r_aload_n (pc := 55) X d_X12_next_55 fn0 ?_
        refine s_getI (pc := 56) (ci := 12) X xok12 (by decide +kernel) ob_180 (by decide +kernel) fl_RX12_18 d_X12_next_56 ?_
        refine r_aload_n (pc := 59) X d_X12_next_59 fn0 ?_
        refine s_getI (pc := 60) (ci := 12) X xok12 (by decide +kernel) ob_180 (by decide +kernel) fl_RX12_21 d_X12_next_60 ?_
        refine r_icmp_lt (pc := 63) (tgt := 80) X d_X12_next_63 (by decide +kernel) ?_ ?_
        · exact t_X12_next_80 X hr h181
        · refine r_aload_n (pc := 66) X d_X12_next_66 fn0 ?_
          refine r_aload_n (pc := 67) X d_X12_next_67 fn0 ?_
          refine s_getI (pc := 68) (ci := 12) X xok12 (by decide +kernel) ob_180 (by decide +kernel) fl_RX12_21 d_X12_next_68 ?_
          refine s_putI (pc := 71) (ci := 12) X xok12 (by decide +kernel) ob_180 (by decide +kernel) (by decide +kernel) (by decide +kernel) fl_RX12_226 d_X12_next_71 ?_
          refine r_aload_n (pc := 74) X d_X12_next_74 fn0 ?_
          refine r_iconst (pc := 75) X d_X12_next_75 (by decide +kernel) ?_
          refine s_putI (pc := 76) (ci := 12) X xok12 (by decide +kernel) ob_180 (by decide +kernel) (by decide +kernel) (by decide +kernel) fl_RX12_232 d_X12_next_76 ?_
          exact r_vret (pc := 79) X hr d_X12_next_79
    · exact t_X12_next_18 X hr h0
def k_X12_next_275 (P : xP) (C181 : xK) : xK := x_aload 0 (x_dup (y_getI 180 13 (x_push (.int 1) (x_iadd (y_putI 180 13 (x_aload 0 (x_dup (y_getI 180 3 (x_push (.int 1) (x_iadd (y_putI 180 3 (C181))))))))))))
set_option maxRecDepth 20000 in
theorem t_X12_next_275 {p : Program} {l : Launch} {e : Env} {s : State} {m : MethodId} {args : Array Value} {below : List Frame} {meth : Method} {c : Code} {g : xG} (X : xX p s m args c meth cX12_next RX12 4 g) (hr : meth.sig.returnType = none) {P : xP} {C181 : xK} (h181 : xAt p l e { frames := 1, cells := 0, slots := 0, locals := 20 } s m args below meth c g 4 xFT xN 0 0 (MQ below (xQc g xFT xN P) args s 0 0 (xFr g)) C181 181) : xAt p l e { frames := 1, cells := 0, slots := 0, locals := 20 } s m args below meth c g 4 xFT xN 0 0 (MQ below (xQc g xFT xN P) args s 0 0 (xFr g)) (k_X12_next_275 P C181) 275 := by
  unfold k_X12_next_275
  refine r_aload_n (pc := 275) X d_X12_next_275 fn0 ?_
  refine r_dup (pc := 276) X d_X12_next_276 ?_
  refine s_getI (pc := 277) (ci := 12) X xok12 (by decide +kernel) ob_180 (by decide +kernel) fl_RX12_229 d_X12_next_277 ?_
  refine r_iconst (pc := 280) X d_X12_next_280 (by decide +kernel) ?_
  refine r_iadd (pc := 281) X d_X12_next_281 ?_
  refine s_putI (pc := 282) (ci := 12) X xok12 (by decide +kernel) ob_180 (by decide +kernel) (by decide +kernel) (by decide +kernel) fl_RX12_229 d_X12_next_282 ?_
  refine r_aload_n (pc := 285) X d_X12_next_285 fn0 ?_
  refine r_dup (pc := 286) X d_X12_next_286 ?_
  refine s_getI (pc := 287) (ci := 12) X xok12 (by decide +kernel) ob_180 (by decide +kernel) fl_RX12_18 d_X12_next_287 ?_
  refine r_iconst (pc := 290) X d_X12_next_290 (by decide +kernel) ?_
  refine r_iadd (pc := 291) X d_X12_next_291 ?_
  refine s_putI (pc := 292) (ci := 12) X xok12 (by decide +kernel) ob_180 (by decide +kernel) (by decide +kernel) (by decide +kernel) fl_RX12_18 d_X12_next_292 ?_
  refine r_goto (pc := 295) (tgt := 181) X d_X12_next_295 (by decide +kernel) ?_
  exact h181
def k_X12_next_248 (P : xP) (C181 : xK) : xK := x_aload 0 (y_getI 180 13 (x_push (.int 3) (x_icmp_ge ((k_X12_next_275 P C181)) (x_aload 0 (x_push (.int 10) (x_aload 0 (y_getI 180 14 (x_imul (x_aload 0 (y_cv0 180 (w_R f_X12_peek) (x_iadd (x_push (.int 48) (x_isub (y_putI 180 14 ((k_X12_next_275 P C181))))))))))))))))
set_option maxRecDepth 20000 in
theorem t_X12_next_248 {p : Program} {l : Launch} {e : Env} {s : State} {m : MethodId} {args : Array Value} {below : List Frame} {meth : Method} {c : Code} {g : xG} (X : xX p s m args c meth cX12_next RX12 4 g) (hr : meth.sig.returnType = none) {P : xP} {C181 : xK} (h181 : xAt p l e { frames := 1, cells := 0, slots := 0, locals := 20 } s m args below meth c g 4 xFT xN 0 0 (MQ below (xQc g xFT xN P) args s 0 0 (xFr g)) C181 181) : xAt p l e { frames := 1, cells := 0, slots := 0, locals := 20 } s m args below meth c g 4 xFT xN 0 0 (MQ below (xQc g xFT xN P) args s 0 0 (xFr g)) (k_X12_next_248 P C181) 248 := by
  unfold k_X12_next_248
  refine r_aload_n (pc := 248) X d_X12_next_248 fn0 ?_
  refine s_getI (pc := 249) (ci := 12) X xok12 (by decide +kernel) ob_180 (by decide +kernel) fl_RX12_229 d_X12_next_249 ?_
  refine r_iconst (pc := 252) X d_X12_next_252 (by decide +kernel) ?_
  refine r_icmp_ge (pc := 253) (tgt := 275) X d_X12_next_253 (by decide +kernel) ?_ ?_
  · exact t_X12_next_275 X hr h181
  · refine r_aload_n (pc := 256) X d_X12_next_256 fn0 ?_
    refine r_bipush (pc := 257) X d_X12_next_257 (by decide +kernel) ?_
    refine r_aload_n (pc := 259) X d_X12_next_259 fn0 ?_
    refine s_getI (pc := 260) (ci := 12) X xok12 (by decide +kernel) ob_180 (by decide +kernel) fl_RX12_242 d_X12_next_260 ?_
    refine r_imul (pc := 263) X d_X12_next_263 ?_
    refine r_aload_n (pc := 264) X d_X12_next_264 fn0 ?_
    refine s_cv0 (pc := 265) (ci := 12) X xok12 (by decide +kernel) ob_180 rfl (con_X12_peek l) mf_X12_peek ml_RX12_222 (by decide +kernel) (by decide +kernel) d_X12_next_265 ?_
    refine r_iadd (pc := 268) X d_X12_next_268 ?_
    refine r_bipush (pc := 269) X d_X12_next_269 (by decide +kernel) ?_
    refine r_isub (pc := 271) X d_X12_next_271 ?_
    refine s_putI (pc := 272) (ci := 12) X xok12 (by decide +kernel) ob_180 (by decide +kernel) (by decide +kernel) (by decide +kernel) fl_RX12_242 d_X12_next_272 ?_
    exact t_X12_next_275 X hr h181
def k_X12_next_221 (P : xP) (C181 : xK) : xK := x_istore 3 (x_aload 0 (y_getI 180 13 (x_push (.int 7) (x_icmp_ge ((k_X12_next_248 P C181)) (x_aload 0 (x_aload 0 (y_getJ 180 17 (x_push (.int 8) (x_lshl (x_aload 0 (y_cv0 180 (w_R f_X12_peek) (x_i2l (x_lor (y_putJ 180 17 ((k_X12_next_248 P C181))))))))))))))))
set_option maxRecDepth 20000 in
theorem t_X12_next_221 {p : Program} {l : Launch} {e : Env} {s : State} {m : MethodId} {args : Array Value} {below : List Frame} {meth : Method} {c : Code} {g : xG} (X : xX p s m args c meth cX12_next RX12 4 g) (hr : meth.sig.returnType = none) {P : xP} {C181 : xK} (h181 : xAt p l e { frames := 1, cells := 0, slots := 0, locals := 20 } s m args below meth c g 4 xFT xN 0 0 (MQ below (xQc g xFT xN P) args s 0 0 (xFr g)) C181 181) : xAt p l e { frames := 1, cells := 0, slots := 0, locals := 20 } s m args below meth c g 4 xFT xN 0 0 (MQ below (xQc g xFT xN P) args s 0 0 (xFr g)) (k_X12_next_221 P C181) 221 := by
  unfold k_X12_next_221
  refine r_istore_n (pc := 221) X d_X12_next_221 fn3 (by decide +kernel) ?_
  refine r_aload_n (pc := 222) X d_X12_next_222 fn0 ?_
  refine s_getI (pc := 223) (ci := 12) X xok12 (by decide +kernel) ob_180 (by decide +kernel) fl_RX12_229 d_X12_next_223 ?_
  refine r_bipush (pc := 226) X d_X12_next_226 (by decide +kernel) ?_
  refine r_icmp_ge (pc := 228) (tgt := 248) X d_X12_next_228 (by decide +kernel) ?_ ?_
  · exact t_X12_next_248 X hr h181
  · refine r_aload_n (pc := 231) X d_X12_next_231 fn0 ?_
    refine r_aload_n (pc := 232) X d_X12_next_232 fn0 ?_
    refine s_getJ (pc := 233) (ci := 12) X xok12 (by decide +kernel) ob_180 (by decide +kernel) fl_RX12_245 d_X12_next_233 ?_
    refine r_bipush (pc := 236) X d_X12_next_236 (by decide +kernel) ?_
    refine r_lshl (pc := 238) X d_X12_next_238 ?_
    refine r_aload_n (pc := 239) X d_X12_next_239 fn0 ?_
    refine s_cv0 (pc := 240) (ci := 12) X xok12 (by decide +kernel) ob_180 rfl (con_X12_peek l) mf_X12_peek ml_RX12_222 (by decide +kernel) (by decide +kernel) d_X12_next_240 ?_
    refine r_i2l (pc := 243) X d_X12_next_243 ?_
    refine r_lor (pc := 244) X d_X12_next_244 ?_
    refine s_putJ (pc := 245) (ci := 12) X xok12 (by decide +kernel) ob_180 (by decide +kernel) (by decide +kernel) (by decide +kernel) fl_RX12_245 d_X12_next_245 ?_
    exact t_X12_next_248 X hr h181
def k_X12_next_220 (P : xP) (C181 : xK) : xK := x_push (.int 0) ((k_X12_next_221 P C181))
set_option maxRecDepth 20000 in
theorem t_X12_next_220 {p : Program} {l : Launch} {e : Env} {s : State} {m : MethodId} {args : Array Value} {below : List Frame} {meth : Method} {c : Code} {g : xG} (X : xX p s m args c meth cX12_next RX12 4 g) (hr : meth.sig.returnType = none) {P : xP} {C181 : xK} (h181 : xAt p l e { frames := 1, cells := 0, slots := 0, locals := 20 } s m args below meth c g 4 xFT xN 0 0 (MQ below (xQc g xFT xN P) args s 0 0 (xFr g)) C181 181) : xAt p l e { frames := 1, cells := 0, slots := 0, locals := 20 } s m args below meth c g 4 xFT xN 0 0 (MQ below (xQc g xFT xN P) args s 0 0 (xFr g)) (k_X12_next_220 P C181) 220 := by
  unfold k_X12_next_220
  refine r_iconst (pc := 220) X d_X12_next_220 (by decide +kernel) ?_
  exact t_X12_next_221 X hr h181
def k_X12_next_201 (P : xP) (C181 : xK) : xK := x_iload 3 (x_if_eq ((k_X12_next_220 P C181)) (x_aload 0 (y_cv0 180 (w_R f_X12_peek) (x_cs1 (w_I f_X12_isSmall) (x_iload 2 (x_icmp_ne ((k_X12_next_220 P C181)) (x_push (.int 1) ((k_X12_next_221 P C181)))))))))
set_option maxRecDepth 20000 in
theorem t_X12_next_201 {p : Program} {l : Launch} {e : Env} {s : State} {m : MethodId} {args : Array Value} {below : List Frame} {meth : Method} {c : Code} {g : xG} (X : xX p s m args c meth cX12_next RX12 4 g) (hr : meth.sig.returnType = none) {P : xP} {C181 : xK} (h181 : xAt p l e { frames := 1, cells := 0, slots := 0, locals := 20 } s m args below meth c g 4 xFT xN 0 0 (MQ below (xQc g xFT xN P) args s 0 0 (xFr g)) C181 181) : xAt p l e { frames := 1, cells := 0, slots := 0, locals := 20 } s m args below meth c g 4 xFT xN 0 0 (MQ below (xQc g xFT xN P) args s 0 0 (xFr g)) (k_X12_next_201 P C181) 201 := by
  unfold k_X12_next_201
  refine r_iload_n (pc := 201) X d_X12_next_201 fn3 ?_
  refine r_if_eq (pc := 202) (tgt := 220) X d_X12_next_202 (by decide +kernel) ?_ ?_
  · exact t_X12_next_220 X hr h181
  · refine r_aload_n (pc := 205) X d_X12_next_205 fn0 ?_
    refine s_cv0 (pc := 206) (ci := 12) X xok12 (by decide +kernel) ob_180 rfl (con_X12_peek l) mf_X12_peek ml_RX12_222 (by decide +kernel) (by decide +kernel) d_X12_next_206 ?_
    refine r_cs1 (pc := 209) X (con_X12_isSmall l) sf_X12_isSmall ml_RX12_235 (by decide +kernel) (by decide +kernel) d_X12_next_209 ?_
    refine r_iload_n (pc := 212) X d_X12_next_212 fn2 ?_
    refine r_icmp_ne (pc := 213) (tgt := 220) X d_X12_next_213 (by decide +kernel) ?_ ?_
    · exact t_X12_next_220 X hr h181
    · refine r_iconst (pc := 216) X d_X12_next_216 (by decide +kernel) ?_
      refine r_goto (pc := 217) (tgt := 221) X d_X12_next_217 (by decide +kernel) ?_
      exact t_X12_next_221 X hr h181
def k_X12_next_333 (P : xP) : xK := x_putI xN 12 11 (x_vret P)
set_option maxRecDepth 20000 in
theorem t_X12_next_333 {p : Program} {l : Launch} {e : Env} {s : State} {m : MethodId} {args : Array Value} {below : List Frame} {meth : Method} {c : Code} {g : xG} (X : xX p s m args c meth cX12_next RX12 4 g) (hr : meth.sig.returnType = none) {P : xP} : xAt p l e { frames := 1, cells := 0, slots := 0, locals := 20 } s m args below meth c g 4 xFT xN 0 0 (MQ below (xQc g xFT xN P) args s 0 0 (xFr g)) (k_X12_next_333 P) 333 := by
  unfold k_X12_next_333
  refine r_putI (pc := 333) X xok12 (by decide +kernel) (by decide +kernel) (by decide +kernel) (by decide +kernel) fl_RX12_232 d_X12_next_333 ?_
  exact r_vret (pc := 336) X hr d_X12_next_336
def k_X12_next_320 (P : xP) : xK := x_push (.int 4) ((k_X12_next_333 P))
set_option maxRecDepth 20000 in
theorem t_X12_next_320 {p : Program} {l : Launch} {e : Env} {s : State} {m : MethodId} {args : Array Value} {below : List Frame} {meth : Method} {c : Code} {g : xG} (X : xX p s m args c meth cX12_next RX12 4 g) (hr : meth.sig.returnType = none) {P : xP} : xAt p l e { frames := 1, cells := 0, slots := 0, locals := 20 } s m args below meth c g 4 xFT xN 0 0 (MQ below (xQc g xFT xN P) args s 0 0 (xFr g)) (k_X12_next_320 P) 320 := by
  unfold k_X12_next_320
  refine r_iconst (pc := 320) X d_X12_next_320 (by decide +kernel) ?_
  refine r_goto (pc := 321) (tgt := 333) X d_X12_next_321 (by decide +kernel) ?_
  exact t_X12_next_333 X hr
def k_X12_next_317 (P : xP) : xK := x_icmp_le (x_iload 2 (x_if_eq (x_push (.int 2) ((k_X12_next_333 P))) (x_push (.int 1) ((k_X12_next_333 P))))) ((k_X12_next_320 P))
set_option maxRecDepth 20000 in
theorem t_X12_next_317 {p : Program} {l : Launch} {e : Env} {s : State} {m : MethodId} {args : Array Value} {below : List Frame} {meth : Method} {c : Code} {g : xG} (X : xX p s m args c meth cX12_next RX12 4 g) (hr : meth.sig.returnType = none) {P : xP} : xAt p l e { frames := 1, cells := 0, slots := 0, locals := 20 } s m args below meth c g 4 xFT xN 0 0 (MQ below (xQc g xFT xN P) args s 0 0 (xFr g)) (k_X12_next_317 P) 317 := by
  unfold k_X12_next_317
  refine r_icmp_le (pc := 317) (tgt := 324) X d_X12_next_317 (by decide +kernel) ?_ ?_
  · refine r_iload_n (pc := 324) X d_X12_next_324 fn2 ?_
    refine r_if_eq (pc := 325) (tgt := 332) X d_X12_next_325 (by decide +kernel) ?_ ?_
    · refine r_iconst (pc := 332) X d_X12_next_332 (by decide +kernel) ?_
      exact t_X12_next_333 X hr
    · refine r_iconst (pc := 328) X d_X12_next_328 (by decide +kernel) ?_
      refine r_goto (pc := 329) (tgt := 333) X d_X12_next_329 (by decide +kernel) ?_
      exact t_X12_next_333 X hr
  · exact t_X12_next_320 X hr
def k_X12_next_181 (P : xP) (C181 : xK) : xK := x_aload 0 (y_cv0 180 (w_R f_X12_peek) (x_cs1 (w_I f_X12_isSmall) (x_if_ne ((k_X12_next_201 P C181)) (x_aload 0 (y_cv0 180 (w_R f_X12_peek) (x_cs1 (w_I f_X12_isDigit) (x_if_eq (x_aload 0 (x_iload 3 (x_if_eq ((k_X12_next_320 P)) (x_aload 0 (y_getI 180 13 (x_iload 2 (x_if_eq (x_push (.int 3) ((k_X12_next_317 P))) (x_push (.int 7) ((k_X12_next_317 P)))))))))) ((k_X12_next_201 P C181)))))))))
set_option maxRecDepth 20000 in
theorem t_X12_next_181 {p : Program} {l : Launch} {e : Env} {s : State} {m : MethodId} {args : Array Value} {below : List Frame} {meth : Method} {c : Code} {g : xG} (X : xX p s m args c meth cX12_next RX12 4 g) (hr : meth.sig.returnType = none) {P : xP} {C181 : xK} (h181 : xAt p l e { frames := 1, cells := 0, slots := 0, locals := 20 } s m args below meth c g 4 xFT xN 0 0 (MQ below (xQc g xFT xN P) args s 0 0 (xFr g)) C181 181) : xAt p l e { frames := 1, cells := 0, slots := 0, locals := 20 } s m args below meth c g 4 xFT xN 0 0 (MQ below (xQc g xFT xN P) args s 0 0 (xFr g)) (k_X12_next_181 P C181) 181 := by
  unfold k_X12_next_181
  refine r_aload_n (pc := 181) X d_X12_next_181 fn0 ?_
  refine s_cv0 (pc := 182) (ci := 12) X xok12 (by decide +kernel) ob_180 rfl (con_X12_peek l) mf_X12_peek ml_RX12_222 (by decide +kernel) (by decide +kernel) d_X12_next_182 ?_
  refine r_cs1 (pc := 185) X (con_X12_isSmall l) sf_X12_isSmall ml_RX12_235 (by decide +kernel) (by decide +kernel) d_X12_next_185 ?_
  refine r_if_ne (pc := 188) (tgt := 201) X d_X12_next_188 (by decide +kernel) ?_ ?_
  · exact t_X12_next_201 X hr h181
  · refine r_aload_n (pc := 191) X d_X12_next_191 fn0 ?_
    refine s_cv0 (pc := 192) (ci := 12) X xok12 (by decide +kernel) ob_180 rfl (con_X12_peek l) mf_X12_peek ml_RX12_222 (by decide +kernel) (by decide +kernel) d_X12_next_192 ?_
    refine r_cs1 (pc := 195) X (con_X12_isDigit l) sf_X12_isDigit ml_RX12_239 (by decide +kernel) (by decide +kernel) d_X12_next_195 ?_
    refine r_if_eq (pc := 198) (tgt := 298) X d_X12_next_198 (by decide +kernel) ?_ ?_
    · refine r_aload_n (pc := 298) X d_X12_next_298 fn0 ?_
      refine r_iload_n (pc := 299) X d_X12_next_299 fn3 ?_
      refine r_if_eq (pc := 300) (tgt := 320) X d_X12_next_300 (by decide +kernel) ?_ ?_
      · exact t_X12_next_320 X hr
      · refine r_aload_n (pc := 303) X d_X12_next_303 fn0 ?_
        refine s_getI (pc := 304) (ci := 12) X xok12 (by decide +kernel) ob_180 (by decide +kernel) fl_RX12_229 d_X12_next_304 ?_
        refine r_iload_n (pc := 307) X d_X12_next_307 fn2 ?_
        refine r_if_eq (pc := 308) (tgt := 316) X d_X12_next_308 (by decide +kernel) ?_ ?_
        · refine r_iconst (pc := 316) X d_X12_next_316 (by decide +kernel) ?_
          exact t_X12_next_317 X hr
        · refine r_bipush (pc := 311) X d_X12_next_311 (by decide +kernel) ?_
          refine r_goto (pc := 313) (tgt := 317) X d_X12_next_313 (by decide +kernel) ?_
          exact t_X12_next_317 X hr
    · exact t_X12_next_201 X hr h181
set_option maxRecDepth 20000 in
theorem m_X12_next {l : Launch} {f : Nat → xH → xP → Prop}  {I0 : Nat → xH → xP → xM → xK} {I181 : Nat → xH → xP → xM → xK}
    (vs : ∀ (a0 : Nat) (A : xH) (P : xP), f a0 A P → xE (I0 a0 A P) [some (.ref a0), none, none, none] [] A)
    (v0 : ∀ (a0 : Nat) (A : xH) (P : xP), f a0 A P → ∀ (μ : xM) (L : xL) (st : List Value) (B : xH), I0 a0 A P μ L st B → k_X12_next_0 P (xB (I0 a0 A P) μ) (xE (I181 a0 A P)) L st B)
    (v181 : ∀ (a0 : Nat) (A : xH) (P : xP), f a0 A P → ∀ (μ : xM) (L : xL) (st : List Value) (B : xH), I181 a0 A P μ L st B → k_X12_next_181 P (xB (I181 a0 A P) μ) L st B) : xCon l yX12_next cX12_next 4 none 1 20 xN xN 0 xFT xFT (w_R f) := by
  refine xc_R (plainFor_of_name pn_RX12) (by decide +kernel) (fun p e s m args below meth c g a0 A P h X hr _ => ?_)
  have h181 := x_loop1 (p := p) (l := l) (e := e) (R := { frames := 1, cells := 0, slots := 0, locals := 20 }) (s := s) (m := m) (args := args) (below := below) (meth := meth) (c := c) (g := g) (nL := 4) (F := xFT) (n := xN) (cells := 0) (slots := 0) (Q := MQ below (xQc g xFT xN P) args s 0 0 (xFr g)) (I := I181 a0 A P) (pc1 := 181) (fun μ i181 => xAt_mono (t_X12_next_181 (P := P) X hr i181) (v181 a0 A P h μ))
  have h0 := x_loop1 (p := p) (l := l) (e := e) (R := { frames := 1, cells := 0, slots := 0, locals := 20 }) (s := s) (m := m) (args := args) (below := below) (meth := meth) (c := c) (g := g) (nL := 4) (F := xFT) (n := xN) (cells := 0) (slots := 0) (Q := MQ below (xQc g xFT xN P) args s 0 0 (xFr g)) (I := I0 a0 A P) (pc1 := 0) (fun μ i0 => xAt_mono (t_X12_next_0 (P := P) X hr i0 h181) (v0 a0 A P h μ))
  exact ⟨_, vs a0 A P h, h0⟩
/-- the reference's tape while it is read -/
def isV (A : xH) (f : Nat → Nat) (n : Nat) : Prop := xi A 180 2 = nI n ∧ n ≤ 940 ∧ ∀ j, j < n → xi A 181 j = sg (f j) ∧ f j < 256
theorem isV_si {A : xH} {f : Nat → Nat} {n k : Nat} {x : Int32} (h : isV A f n) (hk : k ≠ 2) : isV (xsi A 180 k x) f n := by
  obtain ⟨h1, h2, h3⟩ := h
  refine ⟨by rw [si_ne (by omega)]; exact h1, h2, fun j hj => ?_⟩
  rw [si_ne (by omega)]
  exact h3 j hj
theorem isV_sl {A : xH} {f : Nat → Nat} {n q k : Nat} {x : Int64} (h : isV A f n) : isV (xsl A q k x) f n := h
theorem peek_s {A : xH} {P : xP} {f : Nat → Nat} {n k : Nat} (h : isV A f n) (h3 : xi A 180 3 = nI k) (hk : k < n) : f_X12_peek 180 A P = P (some (.int (nI (f k)))) A := by
  obtain ⟨h1, h2, h4⟩ := h
  unfold f_X12_peek
  simp only [k_X12_peek_0, k_X12_peek_28, x_aload, x_iand, x_icmp_ge, x_iret, x_push, y_getF, y_getI, y_iald, xFT, xbool0, xbool1, Nat.reduceAdd, Nat.zero_add, xgl_0, xgl_s, xgl_n, xst_0, xst_1n, xst_1i, xst_1r, xst_1l, xst_s, set_0, set_s, true_and, and_true, xres, xcat_nil, xcat_i, xcat_r, xcat_l, Nat.add_zero, xble0, xble1, xble2, xble3, xble4, xble5, xble6, xble7, xble8, h1, h3, nI_leI (a := n) (b := k) (by omega) (by omega), Nat.not_le.mpr hk, n_cl (n := k) (by omega), (h4 k hk).1, sg_and (h4 k hk).2, (n_in (j := k) (n := 940) (by omega) (by omega)).mpr (by omega), not_false_eq_true, true_implies, false_implies]
theorem peek_n {A : xH} {P : xP} {f : Nat → Nat} {n k : Nat} (h : isV A f n) (h3 : xi A 180 3 = nI k) (hk : n ≤ k) (hk2 : k < 2 ^ 31) : f_X12_peek 180 A P = P (some (.int (-1))) A := by
  obtain ⟨h1, h2, h4⟩ := h
  unfold f_X12_peek
  simp only [k_X12_peek_0, k_X12_peek_28, x_aload, x_iand, x_icmp_ge, x_iret, x_push, y_getF, y_getI, y_iald, xFT, xbool0, xbool1, Nat.reduceAdd, Nat.zero_add, xgl_0, xgl_s, xgl_n, xst_0, xst_1n, xst_1i, xst_1r, xst_1l, xst_s, set_0, set_s, true_and, and_true, xres, xcat_nil, xcat_i, xcat_r, xcat_l, Nat.add_zero, xble0, xble1, xble2, xble3, xble4, xble5, xble6, xble7, xble8, h1, h3, nI_leI (a := n) (b := k) (by omega) (by omega), hk, not_true_eq_false, true_implies, false_implies]
theorem isSmall_s {A : xH} {P : xP} {c : Nat} (h : c < 256) : f_X12_isSmall (nI c) A P = P (some (.int (bI (sm c)))) A := by
  unfold f_X12_isSmall
  simp only [k_X12_isSmall_0, k_X12_isSmall_16, k_X12_isSmall_17, x_icmp_gt, x_icmp_lt, x_iload, x_push, x_zret, xFT, xbool0, xbool1, Nat.reduceAdd, Nat.zero_add, xgl_0, xgl_s, xgl_n, xst_0, xst_1n, xst_1i, xst_1r, xst_1l, xst_s, set_0, set_s, true_and, and_true, xres, xcat_nil, xcat_i, xcat_r, xcat_l, Nat.add_zero, xble0, xble1, xble2, xble3, xble4, xble5, xble6, xble7, xble8, c_lt 97 (c := c) (by omega) (by decide), c_gt 122 (c := c) (by omega) (by decide)]
  have hs : sm c = true ↔ 97 ≤ c ∧ c ≤ 122 := by simp [sm]
  cases h : sm c
  · have := Bool.eq_false_iff.mp h
    rw [ne_eq, hs] at this
    exact propext ⟨fun q => by by_cases e : c < 97; exact q.1 e; exact (q.2 e).1 (by omega), fun q => ⟨fun _ => q, fun _ => ⟨fun _ => q, fun _ => by omega⟩⟩⟩
  · have := hs.mp h
    exact propext ⟨fun q => (q.2 (by omega)).2 (by omega), fun q => ⟨fun _ => by omega, fun _ => ⟨fun _ => by omega, fun _ => q⟩⟩⟩
theorem isDigit_s {A : xH} {P : xP} {c : Nat} (h : c < 256) : f_X12_isDigit (nI c) A P = P (some (.int (bI (dg c)))) A := by
  unfold f_X12_isDigit
  simp only [k_X12_isDigit_0, k_X12_isDigit_16, k_X12_isDigit_17, x_icmp_gt, x_icmp_lt, x_iload, x_push, x_zret, xFT, xbool0, xbool1, Nat.reduceAdd, Nat.zero_add, xgl_0, xgl_s, xgl_n, xst_0, xst_1n, xst_1i, xst_1r, xst_1l, xst_s, set_0, set_s, true_and, and_true, xres, xcat_nil, xcat_i, xcat_r, xcat_l, Nat.add_zero, xble0, xble1, xble2, xble3, xble4, xble5, xble6, xble7, xble8, c_lt 48 (c := c) (by omega) (by decide), c_gt 57 (c := c) (by omega) (by decide)]
  have hs : dg c = true ↔ 48 ≤ c ∧ c ≤ 57 := by simp [dg]
  cases h : dg c
  · have := Bool.eq_false_iff.mp h
    rw [ne_eq, hs] at this
    exact propext ⟨fun q => by by_cases e : c < 48; exact q.1 e; exact (q.2 e).1 (by omega), fun q => ⟨fun _ => q, fun _ => ⟨fun _ => q, fun _ => by omega⟩⟩⟩
  · have := hs.mp h
    exact propext ⟨fun q => (q.2 (by omega)).2 (by omega), fun q => ⟨fun _ => by omega, fun _ => ⟨fun _ => by omega, fun _ => q⟩⟩⟩
theorem isSmall_m {A : xH} {P : xP} : f_X12_isSmall (-1) A P = P (some (.int 0)) A := by
  unfold f_X12_isSmall
  simp only [k_X12_isSmall_0, k_X12_isSmall_16, k_X12_isSmall_17, x_icmp_gt, x_icmp_lt, x_iload, x_push, x_zret, xFT, xbool0, xbool1, Nat.reduceAdd, Nat.zero_add, xgl_0, xgl_s, xgl_n, xst_0, xst_1n, xst_1i, xst_1r, xst_1l, xst_s, set_0, set_s, true_and, and_true, xres, xcat_nil, xcat_i, xcat_r, xcat_l, Nat.add_zero, xble0, xble1, xble2, xble3, xble4, xble5, xble6, xble7, xble8, show ((-1 : Int32) < 97) = True from by decide +kernel, true_implies, not_true_eq_false, false_implies]
theorem isDigit_m {A : xH} {P : xP} : f_X12_isDigit (-1) A P = P (some (.int 0)) A := by
  unfold f_X12_isDigit
  simp only [k_X12_isDigit_0, k_X12_isDigit_16, k_X12_isDigit_17, x_icmp_gt, x_icmp_lt, x_iload, x_push, x_zret, xFT, xbool0, xbool1, Nat.reduceAdd, Nat.zero_add, xgl_0, xgl_s, xgl_n, xst_0, xst_1n, xst_1i, xst_1r, xst_1l, xst_s, set_0, set_s, true_and, and_true, xres, xcat_nil, xcat_i, xcat_r, xcat_l, Nat.add_zero, xble0, xble1, xble2, xble3, xble4, xble5, xble6, xble7, xble8, show ((-1 : Int32) < 48) = True from by decide +kernel, true_implies, not_true_eq_false, false_implies]
/-- token, place and what it is alone are otherwise -/
def uS (A B : xH) : Prop := xoff A B 180 180 ∧ (∀ k, k ≠ 3 → k ≠ 11 → k ≠ 12 → k ≠ 13 → k ≠ 14 → xi B 180 k = xi A 180 k) ∧ ∀ k, k ≠ 17 → xl B 180 k = xl A 180 k
theorem uS_rf {A : xH} : uS A A := ⟨xoff_rf, fun _ _ _ _ _ _ => rfl, fun _ _ => rfl⟩
theorem uS_tr {A B C : xH} (h : uS A B) (h2 : uS B C) : uS A C := ⟨xoff_tr h.1 h2.1, fun k a b c d e => (h2.2.1 k a b c d e).trans (h.2.1 k a b c d e), fun k a => (h2.2.2 k a).trans (h.2.2 k a)⟩
theorem uS_si {A B : xH} {k : Nat} {x : Int32} (h : uS A B) (hk : k = 3 ∨ k = 11 ∨ k = 12 ∨ k = 13 ∨ k = 14) : uS A (xsi B 180 k x) :=
  ⟨xoff_si h.1 (by omega) (by omega), fun j a b c d e => by rw [si_ne (by omega)]; exact h.2.1 j a b c d e, h.2.2⟩
theorem uS_sl {A B : xH} {x : Int64} (h : uS A B) : uS A (xsl B 180 17 x) :=
  ⟨xoff_sl h.1 (by omega) (by omega), h.2.1, fun j a => by rw [xl_sl, if_neg (by omega)]; exact h.2.2 j a⟩
theorem isV_uS {A B : xH} {f : Nat → Nat} {n : Nat} (h : isV A f n) (h2 : uS A B) : isV B f n := by
  refine ⟨(h2.2.1 2 (by omega) (by omega) (by omega) (by omega) (by omega)).trans h.1, h.2.1, fun j hj => ?_⟩
  rw [xoff_i h2.1 (by omega)]
  exact h.2.2 j hj
/-- i bytes of a run from p on are read -/
def vR' (f : Nat → Nat) (n p i : Nat) (A : xH) : Prop := isV A f n ∧ p + i ≤ n ∧ xi A 180 3 = nI (p + i) ∧ xi A 180 13 = nI i ∧ xl A 180 17 = lN (wv f p (min i 7)) ∧ xi A 180 14 = nI (dv f p (min i 3)) ∧ xi A 180 12 = nI p
theorem nx_248 {f : Nat → Nat} {n p i : Nat} {A : xH} {P : xP} {C : xK} {L : xL} (hL : xgl L 0 = some (.ref 180)) (hV : isV A f n) (hi : p + i < n) (hr : 48 ≤ f (p + i)) (h3 : xi A 180 3 = nI (p + i)) (h13 : xi A 180 13 = nI i) (hw : xl A 180 17 = lN (wv f p (min (i + 1) 7))) (hd : xi A 180 14 = nI (dv f p (min i 3))) (h12 : xi A 180 12 = nI p)
    (hC : ∀ B, vR' f n p (i + 1) B → uS A B → C L [] B) : k_X12_next_248 P C L [] A := by
  have h9 := hV.2.1
  have hb := (hV.2.2 (p + i) hi).2
  simp only [k_X12_next_248, k_X12_next_275, w_I, w_R, x_aload, x_cs1, x_dup, x_i2l, x_iadd, x_icmp_eq, x_icmp_ge, x_icmp_gt, x_icmp_le, x_icmp_lt, x_icmp_ne, x_if_eq, x_if_ge, x_if_ne, x_iload, x_imul, x_istore, x_isub, x_lor, x_lshl, x_push, x_putI, x_vret, y_cv0, y_getI, y_getJ, y_putI, y_putJ, xFT, xbool0, xbool1, Nat.reduceAdd, Nat.zero_add, xgl_0, xgl_s, xgl_n, xst_0, xst_1n, xst_1i, xst_1r, xst_1l, xst_s, set_0, set_s, true_and, and_true, xres, xcat_nil, xcat_i, xcat_r, xcat_l, Nat.add_zero, xble0, xble1, xble2, xble3, xble4, xble5, xble6, xble7, xble8, hL, peek_s hV h3 hi, h13, h3, hd, xi_si, nI_1, c_ge 3 (c := i) (by omega) (by decide), show ¬ (3 : Nat) = 13 by omega, show ¬ (13 : Nat) = 14 by omega, show ¬ (3 : Nat) = 14 by omega, and_false, if_false, Nat.add_assoc]
  refine ⟨fun q => hC _ ⟨isV_si (isV_si hV (by omega)) (by omega), by omega, si_eq, ?_, ?_, ?_, ?_⟩ (uS_si (uS_si uS_rf (by omega)) (by omega)), fun q => hC _ ⟨isV_si (isV_si (isV_si hV (by omega)) (by omega)) (by omega), by omega, si_eq, ?_, ?_, ?_, ?_⟩ (uS_si (uS_si (uS_si uS_rf (by omega)) (by omega)) (by omega))⟩
  · rw [si_ne (by omega), si_eq]
  · exact hw
  · rw [si_ne (by omega), si_ne (by omega), hd, Nat.min_eq_right q, Nat.min_eq_right (by omega)]
  · rw [si_ne (by omega), si_ne (by omega)]; exact h12
  · rw [si_ne (by omega), si_eq]
  · exact hw
  · rw [si_ne (by omega), si_ne (by omega), si_eq, Nat.min_eq_left (by omega), Nat.min_eq_left (by omega), show (10 : Int32) = nI 10 from rfl, pk_mul, nI_add, show (48 : Int32) = nI 48 from rfl, n_sub (by omega)]
    congr 1
    simp only [dv]
    omega
  · rw [si_ne (by omega), si_ne (by omega), si_ne (by omega)]; exact h12
theorem nx_221 {f : Nat → Nat} {n p i : Nat} {A : xH} {P : xP} {C : xK} {o1 : Option Value} {o2 o3 x0 : Int32} (h : vR' f n p i A) (hi : p + i < n) (hr : (sm (f (p + i)) || dg (f (p + i))) = true)
    (hC : ∀ B, vR' f n p (i + 1) B → uS A B → C [some (.ref 180), o1, some (.int o2), some (.int x0)] [] B) : k_X12_next_221 P C [some (.ref 180), o1, some (.int o2), some (.int o3)] [.int x0] A := by
  obtain ⟨hV, h1, h3, h13, hw, hd, h12⟩ := h
  have h9 := hV.2.1
  have hb := (hV.2.2 (p + i) hi).2
  have hr2 : 48 ≤ f (p + i) := by
    simp only [sm, dg, Bool.or_eq_true, Bool.and_eq_true, decide_eq_true_eq] at hr
    omega
  simp only [k_X12_next_221, w_I, w_R, x_aload, x_cs1, x_dup, x_i2l, x_iadd, x_icmp_eq, x_icmp_ge, x_icmp_gt, x_icmp_le, x_icmp_lt, x_icmp_ne, x_if_eq, x_if_ge, x_if_ne, x_iload, x_imul, x_istore, x_isub, x_lor, x_lshl, x_push, x_putI, x_vret, y_cv0, y_getI, y_getJ, y_putI, y_putJ, xFT, xbool0, xbool1, Nat.reduceAdd, Nat.zero_add, xgl_0, xgl_s, xgl_n, xst_0, xst_1n, xst_1i, xst_1r, xst_1l, xst_s, set_0, set_s, true_and, and_true, xres, xcat_nil, xcat_i, xcat_r, xcat_l, Nat.add_zero, xble0, xble1, xble2, xble3, xble4, xble5, xble6, xble7, xble8, peek_s hV h3 hi, h13, hw, nI_l (n := f (p + i)) (by omega), lN_shl8, lN_or8 hb, c_ge 7 (c := i) (by omega) (by decide)]
  refine ⟨fun q => nx_248 rfl hV hi hr2 h3 h13 ?_ hd h12 hC, fun q => nx_248 rfl (isV_sl hV) hi hr2 h3 h13 ?_ hd h12 fun B hB hS => hC B hB (uS_tr (uS_sl uS_rf) hS)⟩
  · rw [hw, Nat.min_eq_right q, Nat.min_eq_right (by omega)]
  · rw [xl_sl, if_pos ⟨rfl, rfl⟩, Nat.min_eq_left (by omega), Nat.min_eq_left (by omega)]
    rfl
theorem nx_fin {f : Nat → Nat} {n p i : Nat} {A : xH} {P : xP} {o1 : Option Value} (h : vR' f n p i A)
    (hP : ∀ B, uS A B → xi B 180 12 = nI p → xi B 180 3 = nI (p + i) → xi B 180 11 = nI (rsort f p i) → (rsort f p i = 1 → xl B 180 17 = lN (wv f p i)) → (rsort f p i = 2 → xi B 180 14 = nI (dv f p i)) → P none B) :
    (bI (pu f p i) = 0 → k_X12_next_320 P [some (.ref 180), o1, some (.int (bI (sm (f p)))), some (.int (bI (pu f p i)))] [.ref 180] A) ∧ (¬ bI (pu f p i) = 0 → (bI (sm (f p)) = 0 → k_X12_next_317 P [some (.ref 180), o1, some (.int (bI (sm (f p)))), some (.int (bI (pu f p i)))] [.int 3, .int (xi A 180 13), .ref 180] A) ∧ (¬ bI (sm (f p)) = 0 → k_X12_next_317 P [some (.ref 180), o1, some (.int (bI (sm (f p)))), some (.int (bI (pu f p i)))] [.int 7, .int (xi A 180 13), .ref 180] A)) := by
  obtain ⟨hV, h1, h3, h13, hw, hd, h12⟩ := h
  have h9 := hV.2.1
  have hQ : ∀ x : Nat, x = rsort f p i → P none (xsi A 180 11 (nI x)) := fun x hx => by
    refine hP _ (uS_si uS_rf (by omega)) ?_ ?_ (by rw [si_eq, hx]) (fun h4 => ?_) (fun h4 => ?_)
    · rw [si_ne (by omega)]; exact h12
    · rw [si_ne (by omega)]; exact h3
    · rw [xl_si, hw, Nat.min_eq_left (rsort_le (f := f) (p := p) (i := i) (by omega))]
    · rw [si_ne (by omega), hd]
      unfold rsort at h4
      by_cases q : i ≤ 3
      · rw [Nat.min_eq_left q]
      · exfalso
        revert h4
        cases pu f p i <;> cases sm (f p) <;> simp [q]
        split <;> omega
  simp only [k_X12_next_317, k_X12_next_320, k_X12_next_333, w_I, w_R, x_aload, x_cs1, x_dup, x_i2l, x_iadd, x_icmp_eq, x_icmp_ge, x_icmp_gt, x_icmp_le, x_icmp_lt, x_icmp_ne, x_if_eq, x_if_ge, x_if_ne, x_iload, x_imul, x_istore, x_isub, x_lor, x_lshl, x_push, x_putI, x_vret, y_cv0, y_getI, y_getJ, y_putI, y_putJ, xFT, xbool0, xbool1, Nat.reduceAdd, Nat.zero_add, xgl_0, xgl_s, xgl_n, xst_0, xst_1n, xst_1i, xst_1r, xst_1l, xst_s, set_0, set_s, true_and, and_true, xres, xcat_nil, xcat_i, xcat_r, xcat_l, Nat.add_zero, xble0, xble1, xble2, xble3, xble4, xble5, xble6, xble7, xble8, h13, c_le 3 (c := i) (by omega) (by decide), c_le 7 (c := i) (by omega) (by decide), bI_t, show (1 : Int32) = nI 1 from rfl, show (2 : Int32) = nI 2 from rfl, show (4 : Int32) = nI 4 from rfl, ob_180]
  unfold rsort at hQ
  cases hp : pu f p i <;> cases hs : sm (f p) <;> simp only [hp, hs, Bool.false_and, Bool.true_and, Bool.false_eq_true, if_false, if_true, decide_eq_true_eq, true_implies, not_true_eq_false, not_false_eq_true, false_implies, true_and, and_true, Bool.true_eq_false] at hQ ⊢ <;> first
    | exact hQ 4 rfl
    | refine ⟨fun q => hQ _ (by simp [q]), fun q => hQ _ (by simp [q])⟩
/-- what a run's end comes to -/
def nP (A : xH) (P : xP) (f : Nat → Nat) (n p : Nat) : Prop := ∀ D i, uS A D → xi D 180 12 = nI p → p + i ≤ n → (∀ j, j < i → (sm (f (p + j)) || dg (f (p + j))) = true) → ¬ (p + i < n ∧ (sm (f (p + i)) || dg (f (p + i))) = true) →
  xi D 180 3 = nI (p + i) → xi D 180 11 = nI (rsort f p i) → (rsort f p i = 1 → xl D 180 17 = lN (wv f p i)) → (rsort f p i = 2 → xi D 180 14 = nI (dv f p i)) → P none D
def nR (A : xH) (P : xP) : xM → xK := fun μ L st B => ∃ f n p i o1, nP A P f n p ∧ vR' f n p i B ∧ uS A B ∧ (∀ j, j < i → (sm (f (p + j)) || dg (f (p + j))) = true) ∧ st = [] ∧ L = [some (.ref 180), o1, some (.int (bI (sm (f p)))), some (.int (bI (pu f p i)))] ∧ μ = (n - (p + i), 0, 0)
theorem nx_181 {A B : xH} {P : xP} {μ : xM} {L : xL} {st : List Value} (h : nR A P μ L st B) : k_X12_next_181 P (xB (nR A P) μ) L st B := by
  obtain ⟨f, n, p, i, o1, hP, hR, hS, hj, rfl, rfl, rfl⟩ := h
  have hR0 := hR
  obtain ⟨hV, h1, h3, h13, hw, hd, h12⟩ := hR
  have h9 := hV.2.1
  have hend : ¬ (p + i < n ∧ (sm (f (p + i)) || dg (f (p + i))) = true) → _ := fun q => nx_fin (P := P) (o1 := o1) hR0 fun D hD a b c d e => hP D i (uS_tr hS hD) a h1 hj q b c d e
  by_cases hlt : p + i < n
  · have hb := (hV.2.2 (p + i) hlt).2
    have hrun : (sm (f (p + i)) || dg (f (p + i))) = true → k_X12_next_201 P (xB (nR A P) (n - (p + i), 0, 0)) [some (.ref 180), o1, some (.int (bI (sm (f p)))), some (.int (bI (pu f p i)))] [] B := fun hr => by
      have hst : ∀ x, x = bI (pu f p (i + 1)) → k_X12_next_221 P (xB (nR A P) (n - (p + i), 0, 0)) [some (.ref 180), o1, some (.int (bI (sm (f p)))), some (.int (bI (pu f p i)))] [.int x] B := fun x hx =>
        nx_221 hR0 hlt hr fun D hD hS2 => xB1 (b := n - (p + (i + 1))) (by omega) ⟨f, n, p, i + 1, o1, hP, hD, uS_tr hS hS2, fun j hj2 => by
          by_cases e : j < i
          · exact hj j e
          · rw [show j = i by omega]; exact hr, rfl, by rw [hx], rfl⟩
      simp only [k_X12_next_201, k_X12_next_220, w_I, w_R, x_aload, x_cs1, x_dup, x_i2l, x_iadd, x_icmp_eq, x_icmp_ge, x_icmp_gt, x_icmp_le, x_icmp_lt, x_icmp_ne, x_if_eq, x_if_ge, x_if_ne, x_iload, x_imul, x_istore, x_isub, x_lor, x_lshl, x_push, x_putI, x_vret, y_cv0, y_getI, y_getJ, y_putI, y_putJ, xFT, xbool0, xbool1, Nat.reduceAdd, Nat.zero_add, xgl_0, xgl_s, xgl_n, xst_0, xst_1n, xst_1i, xst_1r, xst_1l, xst_s, set_0, set_s, true_and, and_true, xres, xcat_nil, xcat_i, xcat_r, xcat_l, Nat.add_zero, xble0, xble1, xble2, xble3, xble4, xble5, xble6, xble7, xble8, peek_s hV h3 hlt, isSmall_s hb, bI_t, bI_e, ne_eq]
      refine ⟨fun q => hst 0 (by simp [pu, q, bI]), fun q => ⟨fun q2 => hst 0 (by rw [pu, show (sm (f (p + i)) == sm (f p)) = false from beq_false_of_ne q2, Bool.and_false]; rfl), fun q2 => hst 1 (by simp [pu, q, q2, bI])⟩⟩
    simp only [k_X12_next_181, w_I, w_R, x_aload, x_cs1, x_dup, x_i2l, x_iadd, x_icmp_eq, x_icmp_ge, x_icmp_gt, x_icmp_le, x_icmp_lt, x_icmp_ne, x_if_eq, x_if_ge, x_if_ne, x_iload, x_imul, x_istore, x_isub, x_lor, x_lshl, x_push, x_putI, x_vret, y_cv0, y_getI, y_getJ, y_putI, y_putJ, xFT, xbool0, xbool1, Nat.reduceAdd, Nat.zero_add, xgl_0, xgl_s, xgl_n, xst_0, xst_1n, xst_1i, xst_1r, xst_1l, xst_s, set_0, set_s, true_and, and_true, xres, xcat_nil, xcat_i, xcat_r, xcat_l, Nat.add_zero, xble0, xble1, xble2, xble3, xble4, xble5, xble6, xble7, xble8, peek_s hV h3 hlt, isSmall_s hb, isDigit_s hb, ne_eq]
    cases hs : sm (f (p + i))
    · refine ⟨fun q => absurd rfl q, fun _ => ?_⟩
      rw [hs, Bool.false_or] at hrun hend
      cases hd2 : dg (f (p + i))
      · rw [hd2] at hend
        exact ⟨fun _ => hend (fun q => absurd q.2 (by decide)), fun q => absurd rfl q⟩
      · exact ⟨fun q => absurd q (by decide), fun _ => hrun hd2⟩
    · rw [hs, Bool.true_or] at hrun
      exact ⟨fun _ => hrun rfl, fun q => absurd q (by decide)⟩
  · simp only [k_X12_next_181, w_I, w_R, x_aload, x_cs1, x_dup, x_i2l, x_iadd, x_icmp_eq, x_icmp_ge, x_icmp_gt, x_icmp_le, x_icmp_lt, x_icmp_ne, x_if_eq, x_if_ge, x_if_ne, x_iload, x_imul, x_istore, x_isub, x_lor, x_lshl, x_push, x_putI, x_vret, y_cv0, y_getI, y_getJ, y_putI, y_putJ, xFT, xbool0, xbool1, Nat.reduceAdd, Nat.zero_add, xgl_0, xgl_s, xgl_n, xst_0, xst_1n, xst_1i, xst_1r, xst_1l, xst_s, set_0, set_s, true_and, and_true, xres, xcat_nil, xcat_i, xcat_r, xcat_l, Nat.add_zero, xble0, xble1, xble2, xble3, xble4, xble5, xble6, xble7, xble8, peek_n hV h3 (Nat.not_lt.mp hlt) (by omega), isSmall_m, isDigit_m, ne_eq, i00, not_true_eq_false, true_implies, false_implies]
    exact hend (fun q => hlt q.1)
/-- the reference's token -/
def tkU (B : xH) (t : Nat × Nat × Nat × Nat) : Prop := xi B 180 11 = nI t.1 ∧ xi B 180 12 = nI t.2.1 ∧ (t.1 ≠ 4 → xi B 180 3 = nI t.2.2.1) ∧ (t.1 = 1 → xl B 180 17 = lN t.2.2.2) ∧ (t.1 = 2 ∨ t.1 = 3 → xi B 180 14 = nI t.2.2.2)
theorem rsort_c (f : Nat → Nat) (p i : Nat) : rsort f p i = 4 ∨ (rsort f p i = 1 ∧ sm (f p) = true) ∨ (rsort f p i = 2 ∧ sm (f p) = false) := by
  unfold rsort
  cases sm (f p) <;> cases pu f p i <;> simp <;> omega
theorem mk_iff {c : Nat} : mk c = true ↔ (c = 59 ∨ c = 40 ∨ c = 41 ∨ (60 ≤ c ∧ c ≤ 62)) := by
  simp only [mk, Bool.or_eq_true, Bool.and_eq_true, decide_eq_true_eq]
  omega
theorem nx_80 {A B : xH} {P : xP} {f : Nat → Nat} {n lim p k : Nat} {o1 o2 o3 : Option Value} (hP : ∀ D, uS A D → tkU D (tk f n lim p) → P none D) (hV : isV B f n) (hkn : k ≤ n) (h3 : xi B 180 3 = nI k) (h12 : xi B 180 12 = nI k) (h13 : xi B 180 13 = 0) (hS : uS A B) (hk : skp (fun i => bl (f i)) (min n lim) p = k) (hl : n ≤ lim ∨ k < lim) :
    k_X12_next_80 P (xE (nR A P)) [some (.ref 180), none, none, none] [] B := by
  have h9 := hV.2.1
  have hmn : min n lim ≤ n := Nat.min_le_left _ _
  unfold tk at hP
  simp only [hk] at hP
  by_cases hb : k < n
  · rw [if_neg (by omega)] at hP
    obtain ⟨e1, e2⟩ := hV.2.2 k hb
    have hrun : (sm (f k) || dg (f k)) = true → k_X12_next_164 P (xE (nR A P)) [some (.ref 180), some (.int (nI (f k))), none, none] [] B := fun hr => by
      rw [if_pos hr] at hP
      simp only [k_X12_next_164, w_I, w_R, x_aload, x_cs1, x_dup, x_i2l, x_iadd, x_icmp_eq, x_icmp_ge, x_icmp_gt, x_icmp_le, x_icmp_lt, x_icmp_ne, x_if_eq, x_if_ge, x_if_ne, x_iload, x_imul, x_istore, x_isub, x_lor, x_lshl, x_push, x_putI, x_vret, y_cv0, y_getI, y_getJ, y_putI, y_putJ, xFT, xbool0, xbool1, Nat.reduceAdd, Nat.zero_add, xgl_0, xgl_s, xgl_n, xst_0, xst_1n, xst_1i, xst_1r, xst_1l, xst_s, set_0, set_s, true_and, and_true, xres, xcat_nil, xcat_i, xcat_r, xcat_l, Nat.add_zero, xble0, xble1, xble2, xble3, xble4, xble5, xble6, xble7, xble8, isSmall_s e2]
      refine xE0 (n - k, 0, 0) ⟨f, n, k, 0, _, fun D i hD h12 hi hj hn ha hb2 hc hd => ?_, ⟨isV_si (isV_sl hV) (by omega), by omega, ?_, ?_, ?_, ?_, ?_⟩, uS_tr hS (uS_si (uS_sl uS_rf) (by omega)), fun j hj => absurd hj (by omega), rfl, rfl, rfl⟩
      · have he : skp (fun i => sm (f i) || dg (f i)) n k = k + i := skp_eq (Nat.le_add_right _ _) (fun j a b => ⟨by omega, by have := hj (j - k) (by omega); rwa [show k + (j - k) = j by omega] at this⟩) hn
        simp only [he, Nat.add_sub_cancel_left] at hP
        refine hP D hD ⟨hb2, h12, fun _ => ha, fun q => ?_, fun q => ?_⟩
        · have q2 : rsort f k i = 1 := q
          rw [hc q2]
          rcases rsort_c f k i with r | r | r
          · omega
          · simp only [r.2, if_true]
          · omega
        · have q2 : rsort f k i = 2 ∨ rsort f k i = 3 := q
          rcases rsort_c f k i with r | r | r
          · omega
          · omega
          · rw [hd r.1]
            simp only [r.2, Bool.false_eq_true, if_false]
      · rw [si_ne (by omega), xi_sl]; exact h3
      · rw [si_ne (by omega), xi_sl]; exact h13
      · rw [xl_si, xl_sl, if_pos ⟨rfl, rfl⟩]; rfl
      · rw [si_eq]; rfl
      · rw [si_ne (by omega), xi_sl]; exact h12
    have hmark : ¬ (sm (f k) || dg (f k)) = true → ∀ m, m = mk (f k) → k_X12_next_145 P [some (.ref 180), some (.int (nI (f k))), none, none] [.int (nI (if m then 3 else 4)), .ref 180] B := fun hr m hm => by
      rw [if_neg hr] at hP
      have hQ : P none (xsi (xsi (xsi B 180 11 (nI (if m then 3 else 4))) 180 14 (nI (f k))) 180 3 (nI (k + 1))) := by
        refine hP _ (uS_tr hS (uS_si (uS_si (uS_si uS_rf (by omega)) (by omega)) (by omega))) ⟨?_, ?_, fun _ => si_eq, fun q => ?_, fun _ => ?_⟩
        · rw [si_ne (by omega), si_ne (by omega), si_eq, hm]
        · rw [si_ne (by omega), si_ne (by omega), si_ne (by omega)]; exact h12
        · exfalso
          revert q
          show (if mk (f k) then 3 else 4) = 1 → False
          cases mk (f k) <;> simp
        · rw [si_ne (by omega), si_eq]
      simp only [k_X12_next_145, w_I, w_R, x_aload, x_cs1, x_dup, x_i2l, x_iadd, x_icmp_eq, x_icmp_ge, x_icmp_gt, x_icmp_le, x_icmp_lt, x_icmp_ne, x_if_eq, x_if_ge, x_if_ne, x_iload, x_imul, x_istore, x_isub, x_lor, x_lshl, x_push, x_putI, x_vret, y_cv0, y_getI, y_getJ, y_putI, y_putJ, xFT, xbool0, xbool1, Nat.reduceAdd, Nat.zero_add, xgl_0, xgl_s, xgl_n, xst_0, xst_1n, xst_1i, xst_1r, xst_1l, xst_s, set_0, set_s, true_and, and_true, xres, xcat_nil, xcat_i, xcat_r, xcat_l, Nat.add_zero, xble0, xble1, xble2, xble3, xble4, xble5, xble6, xble7, xble8, ob_180, xi_si, show ¬ (3 : Nat) = 14 by omega, show ¬ (3 : Nat) = 11 by omega, and_false, if_false, h3, nI_1]
      exact hQ
    have ht : ¬ (sm (f k) || dg (f k)) = true → (f k = 59 ∨ f k = 40 ∨ f k = 41 ∨ (60 ≤ f k ∧ f k ≤ 62)) → k_X12_next_145 P [some (.ref 180), some (.int (nI (f k))), none, none] [.int (nI 3), .ref 180] B := fun hr q => hmark hr true (mk_iff.mpr q).symm
    have hf : ¬ (sm (f k) || dg (f k)) = true → ¬ (f k = 59 ∨ f k = 40 ∨ f k = 41 ∨ (60 ≤ f k ∧ f k ≤ 62)) → k_X12_next_145 P [some (.ref 180), some (.int (nI (f k))), none, none] [.int (nI 4), .ref 180] B := fun hr q => hmark hr false (by
      cases h : mk (f k)
      · rfl
      · exact absurd (mk_iff.mp h) q)
    simp only [k_X12_next_80, k_X12_next_140, k_X12_next_144, w_I, w_R, x_aload, x_cs1, x_dup, x_i2l, x_iadd, x_icmp_eq, x_icmp_ge, x_icmp_gt, x_icmp_le, x_icmp_lt, x_icmp_ne, x_if_eq, x_if_ge, x_if_ne, x_iload, x_imul, x_istore, x_isub, x_lor, x_lshl, x_push, x_putI, x_vret, y_cv0, y_getI, y_getJ, y_putI, y_putJ, xFT, xbool0, xbool1, Nat.reduceAdd, Nat.zero_add, xgl_0, xgl_s, xgl_n, xst_0, xst_1n, xst_1i, xst_1r, xst_1l, xst_s, set_0, set_s, true_and, and_true, xres, xcat_nil, xcat_i, xcat_r, xcat_l, Nat.add_zero, xble0, xble1, xble2, xble3, xble4, xble5, xble6, xble7, xble8, peek_s hV h3 hb, isSmall_s e2, isDigit_s e2, c_ge 0 (c := f k) (by omega) (by decide), Nat.zero_le, c_lt 60 (c := f k) (by omega) (by decide), c_gt 62 (c := f k) (by omega) (by decide), c_eq 59 (c := f k) (by omega) (by decide), c_eq 40 (c := f k) (by omega) (by decide), c_eq 41 (c := f k) (by omega) (by decide), show (3 : Int32) = nI 3 from rfl, show (4 : Int32) = nI 4 from rfl, bI_t, ne_eq, true_implies, false_implies, not_true_eq_false]
    have hnn : ∀ b : Bool, ¬ b = false → b = true := fun b h => by cases b <;> simp_all
    refine ⟨fun q => hrun (by rw [hnn _ q]; rfl), fun q => ⟨fun q2 => hrun (by rw [hnn _ q2, Bool.or_true]), fun q2 => ?_⟩⟩
    have hr : ¬ (sm (f k) || dg (f k)) = true := by rw [q, q2]; decide
    exact ⟨fun a => ht hr (by omega), fun a => ⟨fun b => ht hr (by omega), fun b => ⟨fun c => ht hr (by omega), fun c => ⟨fun d => hf hr (by omega), fun d => ⟨fun e => hf hr (by omega), fun e => ht hr (by omega)⟩⟩⟩⟩⟩
  · have hkn2 : k = n := by omega
    rw [if_pos (by omega), if_neg (by omega)] at hP
    simp only [k_X12_next_80, w_I, w_R, x_aload, x_cs1, x_dup, x_i2l, x_iadd, x_icmp_eq, x_icmp_ge, x_icmp_gt, x_icmp_le, x_icmp_lt, x_icmp_ne, x_if_eq, x_if_ge, x_if_ne, x_iload, x_imul, x_istore, x_isub, x_lor, x_lshl, x_push, x_putI, x_vret, y_cv0, y_getI, y_getJ, y_putI, y_putJ, xFT, xbool0, xbool1, Nat.reduceAdd, Nat.zero_add, xgl_0, xgl_s, xgl_n, xst_0, xst_1n, xst_1i, xst_1r, xst_1l, xst_s, set_0, set_s, true_and, and_true, xres, xcat_nil, xcat_i, xcat_r, xcat_l, Nat.add_zero, xble0, xble1, xble2, xble3, xble4, xble5, xble6, xble7, xble8, peek_n hV h3 (by omega) (by omega), show ((0 : Int32) ≤ -1) = False from by decide +kernel, true_implies, false_implies, not_false_eq_true]
    refine hP _ (uS_tr hS (uS_si uS_rf (by omega))) ⟨si_eq, ?_, fun _ => ?_, fun q => by simp at q, fun q => by simp at q⟩
    · rw [si_ne (by omega), h12]
      show nI k = nI (min n lim)
      congr 1
      omega
    · rw [si_ne (by omega)]; exact h3
def f_X12_next (q : Nat) (A : xH) (P : xP) : Prop := q = 180 ∧ ∃ f n lim p, isV A f n ∧ xi A 180 4 = nI lim ∧ lim < 2 ^ 31 ∧ p ≤ n ∧ xi A 180 3 = nI p ∧ ∀ B, uS A B → tkU B (tk f n lim p) → P none B
def nB (A : xH) (P : xP) : xM → xK := fun μ L st B => ∃ f n lim p k, (∀ D, uS A D → tkU D (tk f n lim p) → P none D) ∧ isV B f n ∧ xi B 180 4 = nI lim ∧ lim < 2 ^ 31 ∧ p ≤ k ∧ k ≤ n ∧ xi B 180 3 = nI k ∧ uS A B ∧ (∀ j, p ≤ j → j < k → bl (f j) = true) ∧ st = [] ∧ L = [some (.ref 180), none, none, none] ∧ μ = (n - k, 0, 0)
theorem con_X12_next (l : Launch) : xCon l yX12_next cX12_next 4 none 1 20 xN xN 0 xFT xFT (w_R f_X12_next) := by
  refine m_X12_next (I0 := fun q A P => nB A P) (I181 := fun q A P => nR A P) ?_ ?_ ?_
  · rintro q A P ⟨rfl, f, n, lim, p, hV, h4, hl, hp, h3, hP⟩
    exact xE0 (n - p, 0, 0) ⟨f, n, lim, p, p, hP, hV, h4, hl, Nat.le_refl _, hp, h3, uS_rf, fun j a b => by omega, rfl, rfl, rfl⟩
  · rintro q A P - μ L st B ⟨f, n, lim, p, k, hP, hV, h4, hl, hpk, hkn, h3, hS, hj, rfl, rfl, rfl⟩
    have h9 := hV.2.1
    have hbt : bl (f k) = true ↔ f k = 32 ∨ f k = 10 := by simp [bl]
    have hend : ¬ (k < n ∧ bl (f k) = true) → (lim < n → (lim ≤ k → P none (xsi (xsi (xsi (xsi B 180 12 (nI k)) 180 13 0) 180 12 (nI lim)) 180 11 4)) ∧ (k < lim → k_X12_next_80 P (xE (nR A P)) [some (.ref 180), none, none, none] [] (xsi (xsi B 180 12 (nI k)) 180 13 0))) ∧ (n ≤ lim → k_X12_next_80 P (xE (nR A P)) [some (.ref 180), none, none, none] [] (xsi (xsi B 180 12 (nI k)) 180 13 0)) := fun hq => by
      have h80 : (n ≤ lim ∨ k < lim) → k_X12_next_80 P (xE (nR A P)) [some (.ref 180), none, none, none] [] (xsi (xsi B 180 12 (nI k)) 180 13 0) := fun ho => by
        refine nx_80 (o1 := none) (o2 := none) (o3 := none) hP (isV_si (isV_si hV (by omega)) (by omega)) hkn ?_ ?_ si_eq (uS_tr hS (uS_si (uS_si uS_rf (by omega)) (by omega))) (skp_eq hpk (fun i a b => ⟨by omega, hj i a b⟩) fun h => hq ⟨by omega, h.2⟩) ho
        · rw [si_ne (by omega), si_ne (by omega)]; exact h3
        · rw [si_ne (by omega), si_eq]
      refine ⟨fun a => ⟨fun b => ?_, fun b => h80 (Or.inr b)⟩, fun a => h80 (Or.inl a)⟩
      have hs : lim ≤ skp (fun i => bl (f i)) (min n lim) p := by
        rw [Nat.min_eq_right (by omega)]
        rcases Nat.lt_or_ge p lim with e | e
        · rw [skp_eq (e := lim) (by omega) (fun i c d => ⟨d, hj i c (by omega)⟩) (fun h => by omega)]
          exact Nat.le_refl _
        · rw [skp_eq (e := p) (by omega) (fun i c d => by omega) (fun h => by omega)]
          exact e
      unfold tk at hP
      rw [if_pos (by omega), if_pos a] at hP
      refine hP _ (uS_tr hS (uS_si (uS_si (uS_si (uS_si uS_rf (by omega)) (by omega)) (by omega)) (by omega))) ⟨si_eq, ?_, fun q => absurd rfl q, fun q => by simp at q, fun q => by simp at q⟩
      rw [si_ne (by omega), si_eq]
      show nI lim = nI (min n lim)
      rw [Nat.min_eq_right (by omega)]
    by_cases hb : k < n
    · obtain ⟨e1, e2⟩ := hV.2.2 k hb
      have hst : f k = 32 ∨ f k = 10 → xB (nB A P) (n - k, 0, 0) [some (.ref 180), none, none, none] [] (xsi B 180 3 (nI (k + 1))) := fun q => by
        refine xB1 (b := n - (k + 1)) (by omega) ⟨f, n, lim, p, k + 1, hP, isV_si hV (by omega), ?_, hl, by omega, by omega, si_eq, uS_tr hS (uS_si uS_rf (by omega)), fun j a b => ?_, rfl, rfl, rfl⟩
        · rw [si_ne (by omega)]; exact h4
        · by_cases e : j < k
          · exact hj j a e
          · rw [show j = k by omega]; exact hbt.mpr q
      simp only [k_X12_next_0, k_X12_next_18, w_I, w_R, x_aload, x_cs1, x_dup, x_i2l, x_iadd, x_icmp_eq, x_icmp_ge, x_icmp_gt, x_icmp_le, x_icmp_lt, x_icmp_ne, x_if_eq, x_if_ge, x_if_ne, x_iload, x_imul, x_istore, x_isub, x_lor, x_lshl, x_push, x_putI, x_vret, y_cv0, y_getI, y_getJ, y_putI, y_putJ, xFT, xbool0, xbool1, Nat.reduceAdd, Nat.zero_add, xgl_0, xgl_s, xgl_n, xst_0, xst_1n, xst_1i, xst_1r, xst_1l, xst_s, set_0, set_s, true_and, and_true, xres, xcat_nil, xcat_i, xcat_r, xcat_l, Nat.add_zero, xble0, xble1, xble2, xble3, xble4, xble5, xble6, xble7, xble8, peek_s hV h3 hb, c_eq 32 (c := f k) (by omega) (by decide), c_eq 10 (c := f k) (by omega) (by decide), h3, nI_1, ne_eq, xi_si, hV.1, h4, show ¬ (3 : Nat) = 12 by omega, show ¬ (3 : Nat) = 13 by omega, show ¬ (2 : Nat) = 12 by omega, show ¬ (2 : Nat) = 13 by omega, show ¬ (4 : Nat) = 12 by omega, show ¬ (4 : Nat) = 13 by omega, and_false, if_false, nI_leI (a := n) (b := lim) (by omega) hl, nI_ltI (a := k) (b := lim) (by omega) hl]
      refine ⟨fun q => hst (Or.inl q), fun q => ⟨fun q2 => ?_, fun q2 => hst (Or.inr (by omega))⟩⟩
      obtain ⟨u, v⟩ := hend (by rw [hbt]; omega)
      exact ⟨v, fun a => ⟨(u (by omega)).2, fun b => (u (by omega)).1 (by omega)⟩⟩
    · simp only [k_X12_next_0, k_X12_next_18, w_I, w_R, x_aload, x_cs1, x_dup, x_i2l, x_iadd, x_icmp_eq, x_icmp_ge, x_icmp_gt, x_icmp_le, x_icmp_lt, x_icmp_ne, x_if_eq, x_if_ge, x_if_ne, x_iload, x_imul, x_istore, x_isub, x_lor, x_lshl, x_push, x_putI, x_vret, y_cv0, y_getI, y_getJ, y_putI, y_putJ, xFT, xbool0, xbool1, Nat.reduceAdd, Nat.zero_add, xgl_0, xgl_s, xgl_n, xst_0, xst_1n, xst_1i, xst_1r, xst_1l, xst_s, set_0, set_s, true_and, and_true, xres, xcat_nil, xcat_i, xcat_r, xcat_l, Nat.add_zero, xble0, xble1, xble2, xble3, xble4, xble5, xble6, xble7, xble8, peek_n hV h3 (by omega) (by omega), show ((-1 : Int32) = 32) = False from by decide +kernel, show ((-1 : Int32) = 10) = False from by decide +kernel, h3, nI_1, ne_eq, xi_si, hV.1, h4, show ¬ (3 : Nat) = 12 by omega, show ¬ (3 : Nat) = 13 by omega, show ¬ (2 : Nat) = 12 by omega, show ¬ (2 : Nat) = 13 by omega, show ¬ (4 : Nat) = 12 by omega, show ¬ (4 : Nat) = 13 by omega, and_false, if_false, nI_leI (a := n) (b := lim) (by omega) hl, nI_ltI (a := k) (b := lim) (by omega) hl, true_implies, false_implies, not_false_eq_true, not_true_eq_false]
      obtain ⟨u, v⟩ := hend (fun h => hb h.1)
      exact ⟨v, fun a => ⟨(u (by omega)).2, fun b => (u (by omega)).1 (by omega)⟩⟩
  · rintro q A P - μ L st B h
    exact nx_181 h

