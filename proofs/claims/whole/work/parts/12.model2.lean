theorem d_X4_nextOf_0 : decode cX4_nextOf 0 = .ok (.iload_n 1, 1) := by decide +kernel
theorem d_X4_nextOf_1 : decode cX4_nextOf 1 = .ok (.ifCond .ne 17, 3) := by decide +kernel
theorem d_X4_nextOf_4 : decode cX4_nextOf 4 = .ok (.aload_n 0, 1) := by decide +kernel
theorem d_X4_nextOf_5 : decode cX4_nextOf 5 = .ok (.getfield 50, 3) := by decide +kernel
theorem d_X4_nextOf_8 : decode cX4_nextOf 8 = .ok (.ifCond .le 8, 3) := by decide +kernel
theorem d_X4_nextOf_11 : decode cX4_nextOf 11 = .ok (.bipush 8, 2) := by decide +kernel
theorem d_X4_nextOf_13 : decode cX4_nextOf 13 = .ok (.goto 4, 3) := by decide +kernel
theorem d_X4_nextOf_16 : decode cX4_nextOf 16 = .ok (.iconst (-1), 1) := by decide +kernel
theorem d_X4_nextOf_17 : decode cX4_nextOf 17 = .ok (.ireturn, 1) := by decide +kernel
theorem d_X4_nextOf_18 : decode cX4_nextOf 18 = .ok (.iload_n 1, 1) := by decide +kernel
theorem d_X4_nextOf_19 : decode cX4_nextOf 19 = .ok (.iconst 1, 1) := by decide +kernel
theorem d_X4_nextOf_20 : decode cX4_nextOf 20 = .ok (.if_icmp .le 30, 3) := by decide +kernel
theorem d_X4_nextOf_23 : decode cX4_nextOf 23 = .ok (.iload_n 1, 1) := by decide +kernel
theorem d_X4_nextOf_24 : decode cX4_nextOf 24 = .ok (.aload_n 0, 1) := by decide +kernel
theorem d_X4_nextOf_25 : decode cX4_nextOf 25 = .ok (.getfield 9, 3) := by decide +kernel
theorem d_X4_nextOf_28 : decode cX4_nextOf 28 = .ok (.if_icmp .ge 22, 3) := by decide +kernel
theorem d_X4_nextOf_31 : decode cX4_nextOf 31 = .ok (.aload_n 0, 1) := by decide +kernel
theorem d_X4_nextOf_32 : decode cX4_nextOf 32 = .ok (.aload_n 0, 1) := by decide +kernel
theorem d_X4_nextOf_33 : decode cX4_nextOf 33 = .ok (.getfield 35, 3) := by decide +kernel
theorem d_X4_nextOf_36 : decode cX4_nextOf 36 = .ok (.iload_n 1, 1) := by decide +kernel
theorem d_X4_nextOf_37 : decode cX4_nextOf 37 = .ok (.iaload, 1) := by decide +kernel
theorem d_X4_nextOf_38 : decode cX4_nextOf 38 = .ok (.aload_n 0, 1) := by decide +kernel
theorem d_X4_nextOf_39 : decode cX4_nextOf 39 = .ok (.getfield 38, 3) := by decide +kernel
theorem d_X4_nextOf_42 : decode cX4_nextOf 42 = .ok (.iload_n 1, 1) := by decide +kernel
theorem d_X4_nextOf_43 : decode cX4_nextOf 43 = .ok (.iaload, 1) := by decide +kernel
theorem d_X4_nextOf_44 : decode cX4_nextOf 44 = .ok (.invokevirtual 65, 3) := by decide +kernel
theorem d_X4_nextOf_47 : decode cX4_nextOf 47 = .ok (.goto 4, 3) := by decide +kernel
theorem d_X4_nextOf_50 : decode cX4_nextOf 50 = .ok (.iconst (-1), 1) := by decide +kernel
theorem d_X4_nextOf_51 : decode cX4_nextOf 51 = .ok (.ireturn, 1) := by decide +kernel
def k_X4_nextOf_51 (P : xP) : xK := x_iret P
set_option maxRecDepth 20000 in
theorem t_X4_nextOf_51 {p : Program} {l : Launch} {e : Env} {s : State} {m : MethodId} {args : Array Value} {below : List Frame} {meth : Method} {c : Code} {g : xG} (X : xX p s m args c meth cX4_nextOf RX4 2 g) (hr : meth.sig.returnType = (some .int)) {P : xP} : xAt p l e { frames := 1, cells := 0, slots := 0, locals := 22 } s m args below meth c g 2 xFT xN 0 0 (MQ below (xQc g xFT xN P) args s 0 0 (xFr g)) (k_X4_nextOf_51 P) 51 := by
  unfold k_X4_nextOf_51
  exact r_iret (pc := 51) X hr d_X4_nextOf_51
def k_X4_nextOf_50 (P : xP) : xK := x_push (.int (-1)) ((k_X4_nextOf_51 P))
set_option maxRecDepth 20000 in
theorem t_X4_nextOf_50 {p : Program} {l : Launch} {e : Env} {s : State} {m : MethodId} {args : Array Value} {below : List Frame} {meth : Method} {c : Code} {g : xG} (X : xX p s m args c meth cX4_nextOf RX4 2 g) (hr : meth.sig.returnType = (some .int)) {P : xP} : xAt p l e { frames := 1, cells := 0, slots := 0, locals := 22 } s m args below meth c g 2 xFT xN 0 0 (MQ below (xQc g xFT xN P) args s 0 0 (xFr g)) (k_X4_nextOf_50 P) 50 := by
  unfold k_X4_nextOf_50
  refine r_iconst (pc := 50) X d_X4_nextOf_50 (by decide +kernel) ?_
  exact t_X4_nextOf_51 X hr
def k_X4_nextOf_17 (P : xP) : xK := x_iret P
set_option maxRecDepth 20000 in
theorem t_X4_nextOf_17 {p : Program} {l : Launch} {e : Env} {s : State} {m : MethodId} {args : Array Value} {below : List Frame} {meth : Method} {c : Code} {g : xG} (X : xX p s m args c meth cX4_nextOf RX4 2 g) (hr : meth.sig.returnType = (some .int)) {P : xP} : xAt p l e { frames := 1, cells := 0, slots := 0, locals := 22 } s m args below meth c g 2 xFT xN 0 0 (MQ below (xQc g xFT xN P) args s 0 0 (xFr g)) (k_X4_nextOf_17 P) 17 := by
  unfold k_X4_nextOf_17
  exact r_iret (pc := 17) X hr d_X4_nextOf_17
def k_X4_nextOf_0 (P : xP) : xK := x_iload 1 (x_if_ne (x_iload 1 (x_push (.int 1) (x_icmp_le ((k_X4_nextOf_50 P)) (x_iload 1 (x_aload 0 (x_getI xN 4 3 (x_icmp_ge ((k_X4_nextOf_50 P)) (x_aload 0 (x_aload 0 (x_getF xN xFT 4 11 (x_iload 1 (x_iald xN (x_aload 0 (x_getF xN xFT 4 12 (x_iload 1 (x_iald xN (x_cv2 xN 4 (w_RII f_X4_symbolAt) ((k_X4_nextOf_51 P))))))))))))))))))) (x_aload 0 (x_getI xN 4 1 (x_if_le (x_push (.int (-1)) ((k_X4_nextOf_17 P))) (x_push (.int 8) ((k_X4_nextOf_17 P)))))))
set_option maxRecDepth 20000 in
theorem t_X4_nextOf_0 {p : Program} {l : Launch} {e : Env} {s : State} {m : MethodId} {args : Array Value} {below : List Frame} {meth : Method} {c : Code} {g : xG} (X : xX p s m args c meth cX4_nextOf RX4 2 g) (hr : meth.sig.returnType = (some .int)) {P : xP} : xAt p l e { frames := 1, cells := 0, slots := 0, locals := 22 } s m args below meth c g 2 xFT xN 0 0 (MQ below (xQc g xFT xN P) args s 0 0 (xFr g)) (k_X4_nextOf_0 P) 0 := by
  unfold k_X4_nextOf_0
  refine r_iload_n (pc := 0) X d_X4_nextOf_0 fn1 ?_
  refine r_if_ne (pc := 1) (tgt := 18) X d_X4_nextOf_1 (by decide +kernel) ?_ ?_
  · refine r_iload_n (pc := 18) X d_X4_nextOf_18 fn1 ?_
    refine r_iconst (pc := 19) X d_X4_nextOf_19 (by decide +kernel) ?_
    refine r_icmp_le (pc := 20) (tgt := 50) X d_X4_nextOf_20 (by decide +kernel) ?_ ?_
    · exact t_X4_nextOf_50 X hr
    · refine r_iload_n (pc := 23) X d_X4_nextOf_23 fn1 ?_
      refine r_aload_n (pc := 24) X d_X4_nextOf_24 fn0 ?_
      refine r_getI (pc := 25) X xok4 (by decide +kernel) (by decide +kernel) fl_RX4_9 d_X4_nextOf_25 ?_
      refine r_icmp_ge (pc := 28) (tgt := 50) X d_X4_nextOf_28 (by decide +kernel) ?_ ?_
      · exact t_X4_nextOf_50 X hr
      · refine r_aload_n (pc := 31) X d_X4_nextOf_31 fn0 ?_
        refine r_aload_n (pc := 32) X d_X4_nextOf_32 fn0 ?_
        refine r_getF (pc := 33) X xok4 (by decide +kernel) (by decide +kernel) fl_RX4_35 d_X4_nextOf_33 ?_
        refine r_iload_n (pc := 36) X d_X4_nextOf_36 fn1 ?_
        refine r_iald (pc := 37) X d_X4_nextOf_37 ?_
        refine r_aload_n (pc := 38) X d_X4_nextOf_38 fn0 ?_
        refine r_getF (pc := 39) X xok4 (by decide +kernel) (by decide +kernel) fl_RX4_38 d_X4_nextOf_39 ?_
        refine r_iload_n (pc := 42) X d_X4_nextOf_42 fn1 ?_
        refine r_iald (pc := 43) X d_X4_nextOf_43 ?_
        refine r_cv2 (pc := 44) X xok4 (by decide +kernel) rfl (con_X4_symbolAt l) mf_X4_symbolAt ml_RX4_65 (by decide +kernel) (by decide +kernel) d_X4_nextOf_44 ?_
        refine r_goto (pc := 47) (tgt := 51) X d_X4_nextOf_47 (by decide +kernel) ?_
        exact t_X4_nextOf_51 X hr
  · refine r_aload_n (pc := 4) X d_X4_nextOf_4 fn0 ?_
    refine r_getI (pc := 5) X xok4 (by decide +kernel) (by decide +kernel) fl_RX4_50 d_X4_nextOf_5 ?_
    refine r_if_le (pc := 8) (tgt := 16) X d_X4_nextOf_8 (by decide +kernel) ?_ ?_
    · refine r_iconst (pc := 16) X d_X4_nextOf_16 (by decide +kernel) ?_
      exact t_X4_nextOf_17 X hr
    · refine r_bipush (pc := 11) X d_X4_nextOf_11 (by decide +kernel) ?_
      refine r_goto (pc := 13) (tgt := 17) X d_X4_nextOf_13 (by decide +kernel) ?_
      exact t_X4_nextOf_17 X hr
set_option maxRecDepth 20000 in
theorem m_X4_nextOf {l : Launch} {f : Nat → Int32 → xH → xP → Prop} 
    (v0 : ∀ (a0 : Nat) (a1 : Int32) (A : xH) (P : xP), f a0 a1 A P → k_X4_nextOf_0 P [some (.ref a0), some (.int a1)] [] A) : xCon l yX4_nextOf cX4_nextOf 2 (some .int) 1 22 xN xN 0 xFT xFT (w_RI f) := by
  refine xc_RI (plainFor_of_name pn_RX4) (by decide +kernel) (fun p e s m args below meth c g a0 a1 A P h X hr _ => ?_)
  exact ⟨_, v0 a0 a1 A P h, t_X4_nextOf_0 X hr⟩
theorem d_X4_kindOf_0 : decode cX4_kindOf 0 = .ok (.iload_n 1, 1) := by decide +kernel
theorem d_X4_kindOf_1 : decode cX4_kindOf 1 = .ok (.iconst 1, 1) := by decide +kernel
theorem d_X4_kindOf_2 : decode cX4_kindOf 2 = .ok (.if_icmp .le 25, 3) := by decide +kernel
theorem d_X4_kindOf_5 : decode cX4_kindOf 5 = .ok (.iload_n 1, 1) := by decide +kernel
theorem d_X4_kindOf_6 : decode cX4_kindOf 6 = .ok (.aload_n 0, 1) := by decide +kernel
theorem d_X4_kindOf_7 : decode cX4_kindOf 7 = .ok (.getfield 9, 3) := by decide +kernel
theorem d_X4_kindOf_10 : decode cX4_kindOf 10 = .ok (.if_icmp .ge 17, 3) := by decide +kernel
theorem d_X4_kindOf_13 : decode cX4_kindOf 13 = .ok (.aload_n 0, 1) := by decide +kernel
theorem d_X4_kindOf_14 : decode cX4_kindOf 14 = .ok (.getfield 22, 3) := by decide +kernel
theorem d_X4_kindOf_17 : decode cX4_kindOf 17 = .ok (.aload_n 0, 1) := by decide +kernel
theorem d_X4_kindOf_18 : decode cX4_kindOf 18 = .ok (.getfield 35, 3) := by decide +kernel
theorem d_X4_kindOf_21 : decode cX4_kindOf 21 = .ok (.iload_n 1, 1) := by decide +kernel
theorem d_X4_kindOf_22 : decode cX4_kindOf 22 = .ok (.iaload, 1) := by decide +kernel
theorem d_X4_kindOf_23 : decode cX4_kindOf 23 = .ok (.iaload, 1) := by decide +kernel
theorem d_X4_kindOf_24 : decode cX4_kindOf 24 = .ok (.goto 4, 3) := by decide +kernel
theorem d_X4_kindOf_27 : decode cX4_kindOf 27 = .ok (.iconst (-1), 1) := by decide +kernel
theorem d_X4_kindOf_28 : decode cX4_kindOf 28 = .ok (.ireturn, 1) := by decide +kernel
def k_X4_kindOf_28 (P : xP) : xK := x_iret P
set_option maxRecDepth 20000 in
theorem t_X4_kindOf_28 {p : Program} {l : Launch} {e : Env} {s : State} {m : MethodId} {args : Array Value} {below : List Frame} {meth : Method} {c : Code} {g : xG} (X : xX p s m args c meth cX4_kindOf RX4 2 g) (hr : meth.sig.returnType = (some .int)) {P : xP} : xAt p l e { frames := 0, cells := 0, slots := 0, locals := 0 } s m args below meth c g 2 xFT xN 0 0 (MQ below (xQc g xFT xN P) args s 0 0 (xFr g)) (k_X4_kindOf_28 P) 28 := by
  unfold k_X4_kindOf_28
  exact r_iret (pc := 28) X hr d_X4_kindOf_28
def k_X4_kindOf_27 (P : xP) : xK := x_push (.int (-1)) ((k_X4_kindOf_28 P))
set_option maxRecDepth 20000 in
theorem t_X4_kindOf_27 {p : Program} {l : Launch} {e : Env} {s : State} {m : MethodId} {args : Array Value} {below : List Frame} {meth : Method} {c : Code} {g : xG} (X : xX p s m args c meth cX4_kindOf RX4 2 g) (hr : meth.sig.returnType = (some .int)) {P : xP} : xAt p l e { frames := 0, cells := 0, slots := 0, locals := 0 } s m args below meth c g 2 xFT xN 0 0 (MQ below (xQc g xFT xN P) args s 0 0 (xFr g)) (k_X4_kindOf_27 P) 27 := by
  unfold k_X4_kindOf_27
  refine r_iconst (pc := 27) X d_X4_kindOf_27 (by decide +kernel) ?_
  exact t_X4_kindOf_28 X hr
def k_X4_kindOf_0 (P : xP) : xK := x_iload 1 (x_push (.int 1) (x_icmp_le ((k_X4_kindOf_27 P)) (x_iload 1 (x_aload 0 (x_getI xN 4 3 (x_icmp_ge ((k_X4_kindOf_27 P)) (x_aload 0 (x_getF xN xFT 4 7 (x_aload 0 (x_getF xN xFT 4 11 (x_iload 1 (x_iald xN (x_iald xN ((k_X4_kindOf_28 P)))))))))))))))
set_option maxRecDepth 20000 in
theorem t_X4_kindOf_0 {p : Program} {l : Launch} {e : Env} {s : State} {m : MethodId} {args : Array Value} {below : List Frame} {meth : Method} {c : Code} {g : xG} (X : xX p s m args c meth cX4_kindOf RX4 2 g) (hr : meth.sig.returnType = (some .int)) {P : xP} : xAt p l e { frames := 0, cells := 0, slots := 0, locals := 0 } s m args below meth c g 2 xFT xN 0 0 (MQ below (xQc g xFT xN P) args s 0 0 (xFr g)) (k_X4_kindOf_0 P) 0 := by
  unfold k_X4_kindOf_0
  refine r_iload_n (pc := 0) X d_X4_kindOf_0 fn1 ?_
  refine r_iconst (pc := 1) X d_X4_kindOf_1 (by decide +kernel) ?_
  refine r_icmp_le (pc := 2) (tgt := 27) X d_X4_kindOf_2 (by decide +kernel) ?_ ?_
  · exact t_X4_kindOf_27 X hr
  · refine r_iload_n (pc := 5) X d_X4_kindOf_5 fn1 ?_
    refine r_aload_n (pc := 6) X d_X4_kindOf_6 fn0 ?_
    refine r_getI (pc := 7) X xok4 (by decide +kernel) (by decide +kernel) fl_RX4_9 d_X4_kindOf_7 ?_
    refine r_icmp_ge (pc := 10) (tgt := 27) X d_X4_kindOf_10 (by decide +kernel) ?_ ?_
    · exact t_X4_kindOf_27 X hr
    · refine r_aload_n (pc := 13) X d_X4_kindOf_13 fn0 ?_
      refine r_getF (pc := 14) X xok4 (by decide +kernel) (by decide +kernel) fl_RX4_22 d_X4_kindOf_14 ?_
      refine r_aload_n (pc := 17) X d_X4_kindOf_17 fn0 ?_
      refine r_getF (pc := 18) X xok4 (by decide +kernel) (by decide +kernel) fl_RX4_35 d_X4_kindOf_18 ?_
      refine r_iload_n (pc := 21) X d_X4_kindOf_21 fn1 ?_
      refine r_iald (pc := 22) X d_X4_kindOf_22 ?_
      refine r_iald (pc := 23) X d_X4_kindOf_23 ?_
      refine r_goto (pc := 24) (tgt := 28) X d_X4_kindOf_24 (by decide +kernel) ?_
      exact t_X4_kindOf_28 X hr
set_option maxRecDepth 20000 in
theorem m_X4_kindOf {l : Launch} {f : Nat → Int32 → xH → xP → Prop} 
    (v0 : ∀ (a0 : Nat) (a1 : Int32) (A : xH) (P : xP), f a0 a1 A P → k_X4_kindOf_0 P [some (.ref a0), some (.int a1)] [] A) : xCon l yX4_kindOf cX4_kindOf 2 (some .int) 0 0 xN xN 0 xFT xFT (w_RI f) := by
  refine xc_RI (plainFor_of_name pn_RX4) (by decide +kernel) (fun p e s m args below meth c g a0 a1 A P h X hr _ => ?_)
  exact ⟨_, v0 a0 a1 A P h, t_X4_kindOf_0 X hr⟩
theorem d_X4_find_0 : decode cX4_find 0 = .ok (.iconst 0, 1) := by decide +kernel
theorem d_X4_find_1 : decode cX4_find 1 = .ok (.istore_n 3, 1) := by decide +kernel
theorem d_X4_find_2 : decode cX4_find 2 = .ok (.iload_n 3, 1) := by decide +kernel
theorem d_X4_find_3 : decode cX4_find 3 = .ok (.aload_n 0, 1) := by decide +kernel
theorem d_X4_find_4 : decode cX4_find 4 = .ok (.getfield 47, 3) := by decide +kernel
theorem d_X4_find_7 : decode cX4_find 7 = .ok (.if_icmp .ge 22, 3) := by decide +kernel
theorem d_X4_find_10 : decode cX4_find 10 = .ok (.aload_n 0, 1) := by decide +kernel
theorem d_X4_find_11 : decode cX4_find 11 = .ok (.getfield 15, 3) := by decide +kernel
theorem d_X4_find_14 : decode cX4_find 14 = .ok (.iload_n 3, 1) := by decide +kernel
theorem d_X4_find_15 : decode cX4_find 15 = .ok (.laload, 1) := by decide +kernel
theorem d_X4_find_16 : decode cX4_find 16 = .ok (.lload_n 1, 1) := by decide +kernel
theorem d_X4_find_17 : decode cX4_find 17 = .ok (.lcmp, 1) := by decide +kernel
theorem d_X4_find_18 : decode cX4_find 18 = .ok (.ifCond .ne 5, 3) := by decide +kernel
theorem d_X4_find_21 : decode cX4_find 21 = .ok (.iload_n 3, 1) := by decide +kernel
theorem d_X4_find_22 : decode cX4_find 22 = .ok (.ireturn, 1) := by decide +kernel
theorem d_X4_find_23 : decode cX4_find 23 = .ok (.iinc 3 1, 3) := by decide +kernel
theorem d_X4_find_26 : decode cX4_find 26 = .ok (.goto (-24), 3) := by decide +kernel
theorem d_X4_find_29 : decode cX4_find 29 = .ok (.iconst 0, 1) := by decide +kernel
theorem d_X4_find_30 : decode cX4_find 30 = .ok (.istore_n 3, 1) := by decide +kernel
theorem d_X4_find_31 : decode cX4_find 31 = .ok (.iload_n 3, 1) := by decide +kernel
theorem d_X4_find_32 : decode cX4_find 32 = .ok (.aload_n 0, 1) := by decide +kernel
theorem d_X4_find_33 : decode cX4_find 33 = .ok (.getfield 50, 3) := by decide +kernel
theorem d_X4_find_36 : decode cX4_find 36 = .ok (.if_icmp .ge 25, 3) := by decide +kernel
theorem d_X4_find_39 : decode cX4_find 39 = .ok (.aload_n 0, 1) := by decide +kernel
theorem d_X4_find_40 : decode cX4_find 40 = .ok (.getfield 19, 3) := by decide +kernel
theorem d_X4_find_43 : decode cX4_find 43 = .ok (.iload_n 3, 1) := by decide +kernel
theorem d_X4_find_44 : decode cX4_find 44 = .ok (.laload, 1) := by decide +kernel
theorem d_X4_find_45 : decode cX4_find 45 = .ok (.lload_n 1, 1) := by decide +kernel
theorem d_X4_find_46 : decode cX4_find 46 = .ok (.lcmp, 1) := by decide +kernel
theorem d_X4_find_47 : decode cX4_find 47 = .ok (.ifCond .ne 8, 3) := by decide +kernel
theorem d_X4_find_50 : decode cX4_find 50 = .ok (.bipush 8, 2) := by decide +kernel
theorem d_X4_find_52 : decode cX4_find 52 = .ok (.iload_n 3, 1) := by decide +kernel
theorem d_X4_find_53 : decode cX4_find 53 = .ok (.iadd, 1) := by decide +kernel
theorem d_X4_find_54 : decode cX4_find 54 = .ok (.ireturn, 1) := by decide +kernel
theorem d_X4_find_55 : decode cX4_find 55 = .ok (.iinc 3 1, 3) := by decide +kernel
theorem d_X4_find_58 : decode cX4_find 58 = .ok (.goto (-27), 3) := by decide +kernel
theorem d_X4_find_61 : decode cX4_find 61 = .ok (.iconst (-1), 1) := by decide +kernel
theorem d_X4_find_62 : decode cX4_find 62 = .ok (.ireturn, 1) := by decide +kernel
def k_X4_find_0 (P : xP) (C2 : xK) : xK := x_push (.int 0) (x_istore 3 (C2))
set_option maxRecDepth 20000 in
theorem t_X4_find_0 {p : Program} {l : Launch} {e : Env} {s : State} {m : MethodId} {args : Array Value} {below : List Frame} {meth : Method} {c : Code} {g : xG} (X : xX p s m args c meth cX4_find RX4 4 g) (hr : meth.sig.returnType = (some .int)) {P : xP} {C2 : xK} (h2 : xAt p l e { frames := 0, cells := 0, slots := 0, locals := 0 } s m args below meth c g 4 xFT xN 0 0 (MQ below (xQc g xFT xN P) args s 0 0 (xFr g)) C2 2) : xAt p l e { frames := 0, cells := 0, slots := 0, locals := 0 } s m args below meth c g 4 xFT xN 0 0 (MQ below (xQc g xFT xN P) args s 0 0 (xFr g)) (k_X4_find_0 P C2) 0 := by
  unfold k_X4_find_0
  refine r_iconst (pc := 0) X d_X4_find_0 (by decide +kernel) ?_
  refine r_istore_n (pc := 1) X d_X4_find_1 fn3 (by decide +kernel) ?_
  exact h2
def k_X4_find_2 (P : xP) (C2 : xK) (C31 : xK) : xK := x_iload 3 (x_aload 0 (x_getI xN 4 0 (x_icmp_ge (x_push (.int 0) (x_istore 3 (C31))) (x_aload 0 (x_getF xN xFT 4 5 (x_iload 3 (x_lald xN (x_lload 1 (x_lcmp (x_if_ne (x_iinc 3 1 (C2)) (x_iload 3 (x_iret P))))))))))))
set_option maxRecDepth 20000 in
theorem t_X4_find_2 {p : Program} {l : Launch} {e : Env} {s : State} {m : MethodId} {args : Array Value} {below : List Frame} {meth : Method} {c : Code} {g : xG} (X : xX p s m args c meth cX4_find RX4 4 g) (hr : meth.sig.returnType = (some .int)) {P : xP} {C2 : xK} {C31 : xK} (h2 : xAt p l e { frames := 0, cells := 0, slots := 0, locals := 0 } s m args below meth c g 4 xFT xN 0 0 (MQ below (xQc g xFT xN P) args s 0 0 (xFr g)) C2 2) (h31 : xAt p l e { frames := 0, cells := 0, slots := 0, locals := 0 } s m args below meth c g 4 xFT xN 0 0 (MQ below (xQc g xFT xN P) args s 0 0 (xFr g)) C31 31) : xAt p l e { frames := 0, cells := 0, slots := 0, locals := 0 } s m args below meth c g 4 xFT xN 0 0 (MQ below (xQc g xFT xN P) args s 0 0 (xFr g)) (k_X4_find_2 P C2 C31) 2 := by
  unfold k_X4_find_2
  refine r_iload_n (pc := 2) X d_X4_find_2 fn3 ?_
  refine r_aload_n (pc := 3) X d_X4_find_3 fn0 ?_
  refine r_getI (pc := 4) X xok4 (by decide +kernel) (by decide +kernel) fl_RX4_47 d_X4_find_4 ?_
  refine r_icmp_ge (pc := 7) (tgt := 29) X d_X4_find_7 (by decide +kernel) ?_ ?_
  · refine r_iconst (pc := 29) X d_X4_find_29 (by decide +kernel) ?_
    refine r_istore_n (pc := 30) X d_X4_find_30 fn3 (by decide +kernel) ?_
    exact h31
  · refine r_aload_n (pc := 10) X d_X4_find_10 fn0 ?_
    refine r_getF (pc := 11) X xok4 (by decide +kernel) (by decide +kernel) fl_RX4_15 d_X4_find_11 ?_
    refine r_iload_n (pc := 14) X d_X4_find_14 fn3 ?_
    refine r_lald (pc := 15) X d_X4_find_15 ?_
    refine r_lload_n (pc := 16) X d_X4_find_16 fn1 ?_
    refine r_lcmp (pc := 17) X d_X4_find_17 ?_
    refine r_if_ne (pc := 18) (tgt := 23) X d_X4_find_18 (by decide +kernel) ?_ ?_
    · refine r_iinc (pc := 23) X d_X4_find_23 (by decide +kernel) (by decide +kernel) ?_
      refine r_goto (pc := 26) (tgt := 2) X d_X4_find_26 (by decide +kernel) ?_
      exact h2
    · refine r_iload_n (pc := 21) X d_X4_find_21 fn3 ?_
      exact r_iret (pc := 22) X hr d_X4_find_22
def k_X4_find_31 (P : xP) (C31 : xK) : xK := x_iload 3 (x_aload 0 (x_getI xN 4 1 (x_icmp_ge (x_push (.int (-1)) (x_iret P)) (x_aload 0 (x_getF xN xFT 4 6 (x_iload 3 (x_lald xN (x_lload 1 (x_lcmp (x_if_ne (x_iinc 3 1 (C31)) (x_push (.int 8) (x_iload 3 (x_iadd (x_iret P))))))))))))))
set_option maxRecDepth 20000 in
theorem t_X4_find_31 {p : Program} {l : Launch} {e : Env} {s : State} {m : MethodId} {args : Array Value} {below : List Frame} {meth : Method} {c : Code} {g : xG} (X : xX p s m args c meth cX4_find RX4 4 g) (hr : meth.sig.returnType = (some .int)) {P : xP} {C31 : xK} (h31 : xAt p l e { frames := 0, cells := 0, slots := 0, locals := 0 } s m args below meth c g 4 xFT xN 0 0 (MQ below (xQc g xFT xN P) args s 0 0 (xFr g)) C31 31) : xAt p l e { frames := 0, cells := 0, slots := 0, locals := 0 } s m args below meth c g 4 xFT xN 0 0 (MQ below (xQc g xFT xN P) args s 0 0 (xFr g)) (k_X4_find_31 P C31) 31 := by
  unfold k_X4_find_31
  refine r_iload_n (pc := 31) X d_X4_find_31 fn3 ?_
  refine r_aload_n (pc := 32) X d_X4_find_32 fn0 ?_
  refine r_getI (pc := 33) X xok4 (by decide +kernel) (by decide +kernel) fl_RX4_50 d_X4_find_33 ?_
  refine r_icmp_ge (pc := 36) (tgt := 61) X d_X4_find_36 (by decide +kernel) ?_ ?_
  · refine r_iconst (pc := 61) X d_X4_find_61 (by decide +kernel) ?_
    exact r_iret (pc := 62) X hr d_X4_find_62
  · refine r_aload_n (pc := 39) X d_X4_find_39 fn0 ?_
    refine r_getF (pc := 40) X xok4 (by decide +kernel) (by decide +kernel) fl_RX4_19 d_X4_find_40 ?_
    refine r_iload_n (pc := 43) X d_X4_find_43 fn3 ?_
    refine r_lald (pc := 44) X d_X4_find_44 ?_
    refine r_lload_n (pc := 45) X d_X4_find_45 fn1 ?_
    refine r_lcmp (pc := 46) X d_X4_find_46 ?_
    refine r_if_ne (pc := 47) (tgt := 55) X d_X4_find_47 (by decide +kernel) ?_ ?_
    · refine r_iinc (pc := 55) X d_X4_find_55 (by decide +kernel) (by decide +kernel) ?_
      refine r_goto (pc := 58) (tgt := 31) X d_X4_find_58 (by decide +kernel) ?_
      exact h31
    · refine r_bipush (pc := 50) X d_X4_find_50 (by decide +kernel) ?_
      refine r_iload_n (pc := 52) X d_X4_find_52 fn3 ?_
      refine r_iadd (pc := 53) X d_X4_find_53 ?_
      exact r_iret (pc := 54) X hr d_X4_find_54
set_option maxRecDepth 20000 in
theorem m_X4_find {l : Launch} {f : Nat → Int64 → xH → xP → Prop}  {I2 : Nat → Int64 → xH → xP → xM → xK} {I31 : Nat → Int64 → xH → xP → xM → xK}
    (v0 : ∀ (a0 : Nat) (a1 : Int64) (A : xH) (P : xP), f a0 a1 A P → k_X4_find_0 P (xE (I2 a0 a1 A P)) [some (.ref a0), some (.long a1), none, none] [] A)
    (v2 : ∀ (a0 : Nat) (a1 : Int64) (A : xH) (P : xP), f a0 a1 A P → ∀ (μ : xM) (L : xL) (st : List Value) (B : xH), I2 a0 a1 A P μ L st B → k_X4_find_2 P (xB (I2 a0 a1 A P) μ) (xE (I31 a0 a1 A P)) L st B)
    (v31 : ∀ (a0 : Nat) (a1 : Int64) (A : xH) (P : xP), f a0 a1 A P → ∀ (μ : xM) (L : xL) (st : List Value) (B : xH), I31 a0 a1 A P μ L st B → k_X4_find_31 P (xB (I31 a0 a1 A P) μ) L st B) : xCon l yX4_find cX4_find 4 (some .int) 0 0 xN xN 0 xFT xFT (w_RJ f) := by
  refine xc_RJ (plainFor_of_name pn_RX4) (by decide +kernel) (fun p e s m args below meth c g a0 a1 A P h X hr _ => ?_)
  have h31 := x_loop1 (p := p) (l := l) (e := e) (R := { frames := 0, cells := 0, slots := 0, locals := 0 }) (s := s) (m := m) (args := args) (below := below) (meth := meth) (c := c) (g := g) (nL := 4) (F := xFT) (n := xN) (cells := 0) (slots := 0) (Q := MQ below (xQc g xFT xN P) args s 0 0 (xFr g)) (I := I31 a0 a1 A P) (pc1 := 31) (fun μ i31 => xAt_mono (t_X4_find_31 (P := P) X hr i31) (v31 a0 a1 A P h μ))
  have h2 := x_loop1 (p := p) (l := l) (e := e) (R := { frames := 0, cells := 0, slots := 0, locals := 0 }) (s := s) (m := m) (args := args) (below := below) (meth := meth) (c := c) (g := g) (nL := 4) (F := xFT) (n := xN) (cells := 0) (slots := 0) (Q := MQ below (xQc g xFT xN P) args s 0 0 (xFr g)) (I := I2 a0 a1 A P) (pc1 := 2) (fun μ i2 => xAt_mono (t_X4_find_2 (P := P) X hr i2 h31) (v2 a0 a1 A P h μ))
  exact ⟨_, v0 a0 a1 A P h, t_X4_find_0 X hr h2⟩
theorem d_X4_rulesOf_0 : decode cX4_rulesOf 0 = .ok (.iconst 0, 1) := by decide +kernel
theorem d_X4_rulesOf_1 : decode cX4_rulesOf 1 = .ok (.istore_n 2, 1) := by decide +kernel
theorem d_X4_rulesOf_2 : decode cX4_rulesOf 2 = .ok (.iconst 0, 1) := by decide +kernel
theorem d_X4_rulesOf_3 : decode cX4_rulesOf 3 = .ok (.istore_n 3, 1) := by decide +kernel
theorem d_X4_rulesOf_4 : decode cX4_rulesOf 4 = .ok (.iload_n 3, 1) := by decide +kernel
theorem d_X4_rulesOf_5 : decode cX4_rulesOf 5 = .ok (.aload_n 0, 1) := by decide +kernel
theorem d_X4_rulesOf_6 : decode cX4_rulesOf 6 = .ok (.getfield 53, 3) := by decide +kernel
theorem d_X4_rulesOf_9 : decode cX4_rulesOf 9 = .ok (.if_icmp .ge 25, 3) := by decide +kernel
theorem d_X4_rulesOf_12 : decode cX4_rulesOf 12 = .ok (.aload_n 0, 1) := by decide +kernel
theorem d_X4_rulesOf_13 : decode cX4_rulesOf 13 = .ok (.getfield 22, 3) := by decide +kernel
theorem d_X4_rulesOf_16 : decode cX4_rulesOf 16 = .ok (.iload_n 3, 1) := by decide +kernel
theorem d_X4_rulesOf_17 : decode cX4_rulesOf 17 = .ok (.iaload, 1) := by decide +kernel
theorem d_X4_rulesOf_18 : decode cX4_rulesOf 18 = .ok (.iload_n 1, 1) := by decide +kernel
theorem d_X4_rulesOf_19 : decode cX4_rulesOf 19 = .ok (.if_icmp .ne 9, 3) := by decide +kernel
theorem d_X4_rulesOf_22 : decode cX4_rulesOf 22 = .ok (.iload_n 2, 1) := by decide +kernel
theorem d_X4_rulesOf_23 : decode cX4_rulesOf 23 = .ok (.iconst 1, 1) := by decide +kernel
theorem d_X4_rulesOf_24 : decode cX4_rulesOf 24 = .ok (.iload_n 3, 1) := by decide +kernel
theorem d_X4_rulesOf_25 : decode cX4_rulesOf 25 = .ok (.ishl, 1) := by decide +kernel
theorem d_X4_rulesOf_26 : decode cX4_rulesOf 26 = .ok (.ior, 1) := by decide +kernel
theorem d_X4_rulesOf_27 : decode cX4_rulesOf 27 = .ok (.istore_n 2, 1) := by decide +kernel
theorem d_X4_rulesOf_28 : decode cX4_rulesOf 28 = .ok (.iinc 3 1, 3) := by decide +kernel
theorem d_X4_rulesOf_31 : decode cX4_rulesOf 31 = .ok (.goto (-27), 3) := by decide +kernel
theorem d_X4_rulesOf_34 : decode cX4_rulesOf 34 = .ok (.iload_n 2, 1) := by decide +kernel
theorem d_X4_rulesOf_35 : decode cX4_rulesOf 35 = .ok (.ireturn, 1) := by decide +kernel
def k_X4_rulesOf_0 (P : xP) (C4 : xK) : xK := x_push (.int 0) (x_istore 2 (x_push (.int 0) (x_istore 3 (C4))))
set_option maxRecDepth 20000 in
theorem t_X4_rulesOf_0 {p : Program} {l : Launch} {e : Env} {s : State} {m : MethodId} {args : Array Value} {below : List Frame} {meth : Method} {c : Code} {g : xG} (X : xX p s m args c meth cX4_rulesOf RX4 4 g) (hr : meth.sig.returnType = (some .int)) {P : xP} {C4 : xK} (h4 : xAt p l e { frames := 0, cells := 0, slots := 0, locals := 0 } s m args below meth c g 4 xFT xN 0 0 (MQ below (xQc g xFT xN P) args s 0 0 (xFr g)) C4 4) : xAt p l e { frames := 0, cells := 0, slots := 0, locals := 0 } s m args below meth c g 4 xFT xN 0 0 (MQ below (xQc g xFT xN P) args s 0 0 (xFr g)) (k_X4_rulesOf_0 P C4) 0 := by
  unfold k_X4_rulesOf_0
  refine r_iconst (pc := 0) X d_X4_rulesOf_0 (by decide +kernel) ?_
  refine r_istore_n (pc := 1) X d_X4_rulesOf_1 fn2 (by decide +kernel) ?_
  refine r_iconst (pc := 2) X d_X4_rulesOf_2 (by decide +kernel) ?_
  refine r_istore_n (pc := 3) X d_X4_rulesOf_3 fn3 (by decide +kernel) ?_
  exact h4
def k_X4_rulesOf_28 (P : xP) (C4 : xK) : xK := x_iinc 3 1 (C4)
set_option maxRecDepth 20000 in
theorem t_X4_rulesOf_28 {p : Program} {l : Launch} {e : Env} {s : State} {m : MethodId} {args : Array Value} {below : List Frame} {meth : Method} {c : Code} {g : xG} (X : xX p s m args c meth cX4_rulesOf RX4 4 g) (hr : meth.sig.returnType = (some .int)) {P : xP} {C4 : xK} (h4 : xAt p l e { frames := 0, cells := 0, slots := 0, locals := 0 } s m args below meth c g 4 xFT xN 0 0 (MQ below (xQc g xFT xN P) args s 0 0 (xFr g)) C4 4) : xAt p l e { frames := 0, cells := 0, slots := 0, locals := 0 } s m args below meth c g 4 xFT xN 0 0 (MQ below (xQc g xFT xN P) args s 0 0 (xFr g)) (k_X4_rulesOf_28 P C4) 28 := by
  unfold k_X4_rulesOf_28
  refine r_iinc (pc := 28) X d_X4_rulesOf_28 (by decide +kernel) (by decide +kernel) ?_
  refine r_goto (pc := 31) (tgt := 4) X d_X4_rulesOf_31 (by decide +kernel) ?_
  exact h4
def k_X4_rulesOf_4 (P : xP) (C4 : xK) : xK := x_iload 3 (x_aload 0 (x_getI xN 4 2 (x_icmp_ge (x_iload 2 (x_iret P)) (x_aload 0 (x_getF xN xFT 4 7 (x_iload 3 (x_iald xN (x_iload 1 (x_icmp_ne ((k_X4_rulesOf_28 P C4)) (x_iload 2 (x_push (.int 1) (x_iload 3 (x_ishl (x_ior (x_istore 2 ((k_X4_rulesOf_28 P C4)))))))))))))))))
set_option maxRecDepth 20000 in
theorem t_X4_rulesOf_4 {p : Program} {l : Launch} {e : Env} {s : State} {m : MethodId} {args : Array Value} {below : List Frame} {meth : Method} {c : Code} {g : xG} (X : xX p s m args c meth cX4_rulesOf RX4 4 g) (hr : meth.sig.returnType = (some .int)) {P : xP} {C4 : xK} (h4 : xAt p l e { frames := 0, cells := 0, slots := 0, locals := 0 } s m args below meth c g 4 xFT xN 0 0 (MQ below (xQc g xFT xN P) args s 0 0 (xFr g)) C4 4) : xAt p l e { frames := 0, cells := 0, slots := 0, locals := 0 } s m args below meth c g 4 xFT xN 0 0 (MQ below (xQc g xFT xN P) args s 0 0 (xFr g)) (k_X4_rulesOf_4 P C4) 4 := by
  unfold k_X4_rulesOf_4
  refine r_iload_n (pc := 4) X d_X4_rulesOf_4 fn3 ?_
  refine r_aload_n (pc := 5) X d_X4_rulesOf_5 fn0 ?_
  refine r_getI (pc := 6) X xok4 (by decide +kernel) (by decide +kernel) fl_RX4_53 d_X4_rulesOf_6 ?_
  refine r_icmp_ge (pc := 9) (tgt := 34) X d_X4_rulesOf_9 (by decide +kernel) ?_ ?_
  · refine r_iload_n (pc := 34) X d_X4_rulesOf_34 fn2 ?_
    exact r_iret (pc := 35) X hr d_X4_rulesOf_35
  · refine r_aload_n (pc := 12) X d_X4_rulesOf_12 fn0 ?_
    refine r_getF (pc := 13) X xok4 (by decide +kernel) (by decide +kernel) fl_RX4_22 d_X4_rulesOf_13 ?_
    refine r_iload_n (pc := 16) X d_X4_rulesOf_16 fn3 ?_
    refine r_iald (pc := 17) X d_X4_rulesOf_17 ?_
    refine r_iload_n (pc := 18) X d_X4_rulesOf_18 fn1 ?_
    refine r_icmp_ne (pc := 19) (tgt := 28) X d_X4_rulesOf_19 (by decide +kernel) ?_ ?_
    · exact t_X4_rulesOf_28 X hr h4
    · refine r_iload_n (pc := 22) X d_X4_rulesOf_22 fn2 ?_
      refine r_iconst (pc := 23) X d_X4_rulesOf_23 (by decide +kernel) ?_
      refine r_iload_n (pc := 24) X d_X4_rulesOf_24 fn3 ?_
      refine r_ishl (pc := 25) X d_X4_rulesOf_25 ?_
      refine r_ior (pc := 26) X d_X4_rulesOf_26 ?_
      refine r_istore_n (pc := 27) X d_X4_rulesOf_27 fn2 (by decide +kernel) ?_
      exact t_X4_rulesOf_28 X hr h4
set_option maxRecDepth 20000 in
theorem m_X4_rulesOf {l : Launch} {f : Nat → Int32 → xH → xP → Prop}  {I4 : Nat → Int32 → xH → xP → xM → xK}
    (v0 : ∀ (a0 : Nat) (a1 : Int32) (A : xH) (P : xP), f a0 a1 A P → k_X4_rulesOf_0 P (xE (I4 a0 a1 A P)) [some (.ref a0), some (.int a1), none, none] [] A)
    (v4 : ∀ (a0 : Nat) (a1 : Int32) (A : xH) (P : xP), f a0 a1 A P → ∀ (μ : xM) (L : xL) (st : List Value) (B : xH), I4 a0 a1 A P μ L st B → k_X4_rulesOf_4 P (xB (I4 a0 a1 A P) μ) L st B) : xCon l yX4_rulesOf cX4_rulesOf 4 (some .int) 0 0 xN xN 0 xFT xFT (w_RI f) := by
  refine xc_RI (plainFor_of_name pn_RX4) (by decide +kernel) (fun p e s m args below meth c g a0 a1 A P h X hr _ => ?_)
  have h4 := x_loop1 (p := p) (l := l) (e := e) (R := { frames := 0, cells := 0, slots := 0, locals := 0 }) (s := s) (m := m) (args := args) (below := below) (meth := meth) (c := c) (g := g) (nL := 4) (F := xFT) (n := xN) (cells := 0) (slots := 0) (Q := MQ below (xQc g xFT xN P) args s 0 0 (xFr g)) (I := I4 a0 a1 A P) (pc1 := 4) (fun μ i4 => xAt_mono (t_X4_rulesOf_4 (P := P) X hr i4) (v4 a0 a1 A P h μ))
  exact ⟨_, v0 a0 a1 A P h, t_X4_rulesOf_0 X hr h4⟩
theorem d_X4_nameOf_0 : decode cX4_nameOf 0 = .ok (.iload_n 1, 1) := by decide +kernel
theorem d_X4_nameOf_1 : decode cX4_nameOf 1 = .ok (.ifCond .lt 18, 3) := by decide +kernel
theorem d_X4_nameOf_4 : decode cX4_nameOf 4 = .ok (.iload_n 1, 1) := by decide +kernel
theorem d_X4_nameOf_5 : decode cX4_nameOf 5 = .ok (.aload_n 0, 1) := by decide +kernel
theorem d_X4_nameOf_6 : decode cX4_nameOf 6 = .ok (.getfield 47, 3) := by decide +kernel
theorem d_X4_nameOf_9 : decode cX4_nameOf 9 = .ok (.if_icmp .ge 10, 3) := by decide +kernel
theorem d_X4_nameOf_12 : decode cX4_nameOf 12 = .ok (.aload_n 0, 1) := by decide +kernel
theorem d_X4_nameOf_13 : decode cX4_nameOf 13 = .ok (.getfield 15, 3) := by decide +kernel
theorem d_X4_nameOf_16 : decode cX4_nameOf 16 = .ok (.iload_n 1, 1) := by decide +kernel
theorem d_X4_nameOf_17 : decode cX4_nameOf 17 = .ok (.laload, 1) := by decide +kernel
theorem d_X4_nameOf_18 : decode cX4_nameOf 18 = .ok (.lreturn, 1) := by decide +kernel
theorem d_X4_nameOf_19 : decode cX4_nameOf 19 = .ok (.iload_n 1, 1) := by decide +kernel
theorem d_X4_nameOf_20 : decode cX4_nameOf 20 = .ok (.bipush 8, 2) := by decide +kernel
theorem d_X4_nameOf_22 : decode cX4_nameOf 22 = .ok (.isub, 1) := by decide +kernel
theorem d_X4_nameOf_23 : decode cX4_nameOf 23 = .ok (.istore_n 2, 1) := by decide +kernel
theorem d_X4_nameOf_24 : decode cX4_nameOf 24 = .ok (.iload_n 2, 1) := by decide +kernel
theorem d_X4_nameOf_25 : decode cX4_nameOf 25 = .ok (.ifCond .lt 20, 3) := by decide +kernel
theorem d_X4_nameOf_28 : decode cX4_nameOf 28 = .ok (.iload_n 2, 1) := by decide +kernel
theorem d_X4_nameOf_29 : decode cX4_nameOf 29 = .ok (.aload_n 0, 1) := by decide +kernel
theorem d_X4_nameOf_30 : decode cX4_nameOf 30 = .ok (.getfield 50, 3) := by decide +kernel
theorem d_X4_nameOf_33 : decode cX4_nameOf 33 = .ok (.if_icmp .ge 12, 3) := by decide +kernel
theorem d_X4_nameOf_36 : decode cX4_nameOf 36 = .ok (.aload_n 0, 1) := by decide +kernel
theorem d_X4_nameOf_37 : decode cX4_nameOf 37 = .ok (.getfield 19, 3) := by decide +kernel
theorem d_X4_nameOf_40 : decode cX4_nameOf 40 = .ok (.iload_n 2, 1) := by decide +kernel
theorem d_X4_nameOf_41 : decode cX4_nameOf 41 = .ok (.laload, 1) := by decide +kernel
theorem d_X4_nameOf_42 : decode cX4_nameOf 42 = .ok (.goto 4, 3) := by decide +kernel
theorem d_X4_nameOf_45 : decode cX4_nameOf 45 = .ok (.lconst 0, 1) := by decide +kernel
theorem d_X4_nameOf_46 : decode cX4_nameOf 46 = .ok (.lreturn, 1) := by decide +kernel
def k_X4_nameOf_46 (P : xP) : xK := x_lret P
set_option maxRecDepth 20000 in
theorem t_X4_nameOf_46 {p : Program} {l : Launch} {e : Env} {s : State} {m : MethodId} {args : Array Value} {below : List Frame} {meth : Method} {c : Code} {g : xG} (X : xX p s m args c meth cX4_nameOf RX4 3 g) (hr : meth.sig.returnType = (some .long)) {P : xP} : xAt p l e { frames := 0, cells := 0, slots := 0, locals := 0 } s m args below meth c g 3 xFT xN 0 0 (MQ below (xQc g xFT xN P) args s 0 0 (xFr g)) (k_X4_nameOf_46 P) 46 := by
  unfold k_X4_nameOf_46
  exact r_lret (pc := 46) X hr d_X4_nameOf_46
def k_X4_nameOf_45 (P : xP) : xK := x_push (.long 0) ((k_X4_nameOf_46 P))
set_option maxRecDepth 20000 in
theorem t_X4_nameOf_45 {p : Program} {l : Launch} {e : Env} {s : State} {m : MethodId} {args : Array Value} {below : List Frame} {meth : Method} {c : Code} {g : xG} (X : xX p s m args c meth cX4_nameOf RX4 3 g) (hr : meth.sig.returnType = (some .long)) {P : xP} : xAt p l e { frames := 0, cells := 0, slots := 0, locals := 0 } s m args below meth c g 3 xFT xN 0 0 (MQ below (xQc g xFT xN P) args s 0 0 (xFr g)) (k_X4_nameOf_45 P) 45 := by
  unfold k_X4_nameOf_45
  refine r_lconst (pc := 45) X d_X4_nameOf_45 (by decide +kernel) ?_
  exact t_X4_nameOf_46 X hr
def k_X4_nameOf_19 (P : xP) : xK := x_iload 1 (x_push (.int 8) (x_isub (x_istore 2 (x_iload 2 (x_if_lt ((k_X4_nameOf_45 P)) (x_iload 2 (x_aload 0 (x_getI xN 4 1 (x_icmp_ge ((k_X4_nameOf_45 P)) (x_aload 0 (x_getF xN xFT 4 6 (x_iload 2 (x_lald xN ((k_X4_nameOf_46 P)))))))))))))))
set_option maxRecDepth 20000 in
theorem t_X4_nameOf_19 {p : Program} {l : Launch} {e : Env} {s : State} {m : MethodId} {args : Array Value} {below : List Frame} {meth : Method} {c : Code} {g : xG} (X : xX p s m args c meth cX4_nameOf RX4 3 g) (hr : meth.sig.returnType = (some .long)) {P : xP} : xAt p l e { frames := 0, cells := 0, slots := 0, locals := 0 } s m args below meth c g 3 xFT xN 0 0 (MQ below (xQc g xFT xN P) args s 0 0 (xFr g)) (k_X4_nameOf_19 P) 19 := by
  unfold k_X4_nameOf_19
  refine r_iload_n (pc := 19) X d_X4_nameOf_19 fn1 ?_
  refine r_bipush (pc := 20) X d_X4_nameOf_20 (by decide +kernel) ?_
  refine r_isub (pc := 22) X d_X4_nameOf_22 ?_
  refine r_istore_n (pc := 23) X d_X4_nameOf_23 fn2 (by decide +kernel) ?_
  refine r_iload_n (pc := 24) X d_X4_nameOf_24 fn2 ?_
  refine r_if_lt (pc := 25) (tgt := 45) X d_X4_nameOf_25 (by decide +kernel) ?_ ?_
  · exact t_X4_nameOf_45 X hr
  · refine r_iload_n (pc := 28) X d_X4_nameOf_28 fn2 ?_
    refine r_aload_n (pc := 29) X d_X4_nameOf_29 fn0 ?_
    refine r_getI (pc := 30) X xok4 (by decide +kernel) (by decide +kernel) fl_RX4_50 d_X4_nameOf_30 ?_
    refine r_icmp_ge (pc := 33) (tgt := 45) X d_X4_nameOf_33 (by decide +kernel) ?_ ?_
    · exact t_X4_nameOf_45 X hr
    · refine r_aload_n (pc := 36) X d_X4_nameOf_36 fn0 ?_
      refine r_getF (pc := 37) X xok4 (by decide +kernel) (by decide +kernel) fl_RX4_19 d_X4_nameOf_37 ?_
      refine r_iload_n (pc := 40) X d_X4_nameOf_40 fn2 ?_
      refine r_lald (pc := 41) X d_X4_nameOf_41 ?_
      refine r_goto (pc := 42) (tgt := 46) X d_X4_nameOf_42 (by decide +kernel) ?_
      exact t_X4_nameOf_46 X hr
def k_X4_nameOf_0 (P : xP) : xK := x_iload 1 (x_if_lt ((k_X4_nameOf_19 P)) (x_iload 1 (x_aload 0 (x_getI xN 4 0 (x_icmp_ge ((k_X4_nameOf_19 P)) (x_aload 0 (x_getF xN xFT 4 5 (x_iload 1 (x_lald xN (x_lret P))))))))))
set_option maxRecDepth 20000 in
theorem t_X4_nameOf_0 {p : Program} {l : Launch} {e : Env} {s : State} {m : MethodId} {args : Array Value} {below : List Frame} {meth : Method} {c : Code} {g : xG} (X : xX p s m args c meth cX4_nameOf RX4 3 g) (hr : meth.sig.returnType = (some .long)) {P : xP} : xAt p l e { frames := 0, cells := 0, slots := 0, locals := 0 } s m args below meth c g 3 xFT xN 0 0 (MQ below (xQc g xFT xN P) args s 0 0 (xFr g)) (k_X4_nameOf_0 P) 0 := by
  unfold k_X4_nameOf_0
  refine r_iload_n (pc := 0) X d_X4_nameOf_0 fn1 ?_
  refine r_if_lt (pc := 1) (tgt := 19) X d_X4_nameOf_1 (by decide +kernel) ?_ ?_
  · exact t_X4_nameOf_19 X hr
  · refine r_iload_n (pc := 4) X d_X4_nameOf_4 fn1 ?_
    refine r_aload_n (pc := 5) X d_X4_nameOf_5 fn0 ?_
    refine r_getI (pc := 6) X xok4 (by decide +kernel) (by decide +kernel) fl_RX4_47 d_X4_nameOf_6 ?_
    refine r_icmp_ge (pc := 9) (tgt := 19) X d_X4_nameOf_9 (by decide +kernel) ?_ ?_
    · exact t_X4_nameOf_19 X hr
    · refine r_aload_n (pc := 12) X d_X4_nameOf_12 fn0 ?_
      refine r_getF (pc := 13) X xok4 (by decide +kernel) (by decide +kernel) fl_RX4_15 d_X4_nameOf_13 ?_
      refine r_iload_n (pc := 16) X d_X4_nameOf_16 fn1 ?_
      refine r_lald (pc := 17) X d_X4_nameOf_17 ?_
      exact r_lret (pc := 18) X hr d_X4_nameOf_18
set_option maxRecDepth 20000 in
theorem m_X4_nameOf {l : Launch} {f : Nat → Int32 → xH → xP → Prop} 
    (v0 : ∀ (a0 : Nat) (a1 : Int32) (A : xH) (P : xP), f a0 a1 A P → k_X4_nameOf_0 P [some (.ref a0), some (.int a1), none] [] A) : xCon l yX4_nameOf cX4_nameOf 3 (some .long) 0 0 xN xN 0 xFT xFT (w_RI f) := by
  refine xc_RI (plainFor_of_name pn_RX4) (by decide +kernel) (fun p e s m args below meth c g a0 a1 A P h X hr _ => ?_)
  exact ⟨_, v0 a0 a1 A P h, t_X4_nameOf_0 X hr⟩
theorem d_X4_newSign_0 : decode cX4_newSign 0 = .ok (.aload_n 0, 1) := by decide +kernel
theorem d_X4_newSign_1 : decode cX4_newSign 1 = .ok (.getfield 47, 3) := by decide +kernel
theorem d_X4_newSign_4 : decode cX4_newSign 4 = .ok (.iconst 4, 1) := by decide +kernel
theorem d_X4_newSign_5 : decode cX4_newSign 5 = .ok (.if_icmp .ge 23, 3) := by decide +kernel
theorem d_X4_newSign_8 : decode cX4_newSign 8 = .ok (.aload_n 0, 1) := by decide +kernel
theorem d_X4_newSign_9 : decode cX4_newSign 9 = .ok (.getfield 15, 3) := by decide +kernel
theorem d_X4_newSign_12 : decode cX4_newSign 12 = .ok (.aload_n 0, 1) := by decide +kernel
theorem d_X4_newSign_13 : decode cX4_newSign 13 = .ok (.getfield 47, 3) := by decide +kernel
theorem d_X4_newSign_16 : decode cX4_newSign 16 = .ok (.lload_n 1, 1) := by decide +kernel
theorem d_X4_newSign_17 : decode cX4_newSign 17 = .ok (.lastore, 1) := by decide +kernel
theorem d_X4_newSign_18 : decode cX4_newSign 18 = .ok (.aload_n 0, 1) := by decide +kernel
theorem d_X4_newSign_19 : decode cX4_newSign 19 = .ok (.dup, 1) := by decide +kernel
theorem d_X4_newSign_20 : decode cX4_newSign 20 = .ok (.getfield 47, 3) := by decide +kernel
theorem d_X4_newSign_23 : decode cX4_newSign 23 = .ok (.iconst 1, 1) := by decide +kernel
theorem d_X4_newSign_24 : decode cX4_newSign 24 = .ok (.iadd, 1) := by decide +kernel
theorem d_X4_newSign_25 : decode cX4_newSign 25 = .ok (.putfield 47, 3) := by decide +kernel
theorem d_X4_newSign_28 : decode cX4_newSign 28 = .ok (.return_, 1) := by decide +kernel
def k_X4_newSign_28 (P : xP) : xK := x_vret P
set_option maxRecDepth 20000 in
theorem t_X4_newSign_28 {p : Program} {l : Launch} {e : Env} {s : State} {m : MethodId} {args : Array Value} {below : List Frame} {meth : Method} {c : Code} {g : xG} (X : xX p s m args c meth cX4_newSign RX4 3 g) (hr : meth.sig.returnType = none) {P : xP} : xAt p l e { frames := 0, cells := 0, slots := 0, locals := 0 } s m args below meth c g 3 xFT xN 0 0 (MQ below (xQc g xFT xN P) args s 0 0 (xFr g)) (k_X4_newSign_28 P) 28 := by
  unfold k_X4_newSign_28
  exact r_vret (pc := 28) X hr d_X4_newSign_28
def k_X4_newSign_0 (P : xP) : xK := x_aload 0 (x_getI xN 4 0 (x_push (.int 4) (x_icmp_ge ((k_X4_newSign_28 P)) (x_aload 0 (x_getF xN xFT 4 5 (x_aload 0 (x_getI xN 4 0 (x_lload 1 (x_last xN (x_aload 0 (x_dup (x_getI xN 4 0 (x_push (.int 1) (x_iadd (x_putI xN 4 0 ((k_X4_newSign_28 P)))))))))))))))))
set_option maxRecDepth 20000 in
theorem t_X4_newSign_0 {p : Program} {l : Launch} {e : Env} {s : State} {m : MethodId} {args : Array Value} {below : List Frame} {meth : Method} {c : Code} {g : xG} (X : xX p s m args c meth cX4_newSign RX4 3 g) (hr : meth.sig.returnType = none) {P : xP} : xAt p l e { frames := 0, cells := 0, slots := 0, locals := 0 } s m args below meth c g 3 xFT xN 0 0 (MQ below (xQc g xFT xN P) args s 0 0 (xFr g)) (k_X4_newSign_0 P) 0 := by
  unfold k_X4_newSign_0
  refine r_aload_n (pc := 0) X d_X4_newSign_0 fn0 ?_
  refine r_getI (pc := 1) X xok4 (by decide +kernel) (by decide +kernel) fl_RX4_47 d_X4_newSign_1 ?_
  refine r_iconst (pc := 4) X d_X4_newSign_4 (by decide +kernel) ?_
  refine r_icmp_ge (pc := 5) (tgt := 28) X d_X4_newSign_5 (by decide +kernel) ?_ ?_
  · exact t_X4_newSign_28 X hr
  · refine r_aload_n (pc := 8) X d_X4_newSign_8 fn0 ?_
    refine r_getF (pc := 9) X xok4 (by decide +kernel) (by decide +kernel) fl_RX4_15 d_X4_newSign_9 ?_
    refine r_aload_n (pc := 12) X d_X4_newSign_12 fn0 ?_
    refine r_getI (pc := 13) X xok4 (by decide +kernel) (by decide +kernel) fl_RX4_47 d_X4_newSign_13 ?_
    refine r_lload_n (pc := 16) X d_X4_newSign_16 fn1 ?_
    refine r_last (pc := 17) X d_X4_newSign_17 ?_
    refine r_aload_n (pc := 18) X d_X4_newSign_18 fn0 ?_
    refine r_dup (pc := 19) X d_X4_newSign_19 ?_
    refine r_getI (pc := 20) X xok4 (by decide +kernel) (by decide +kernel) fl_RX4_47 d_X4_newSign_20 ?_
    refine r_iconst (pc := 23) X d_X4_newSign_23 (by decide +kernel) ?_
    refine r_iadd (pc := 24) X d_X4_newSign_24 ?_
    refine r_putI (pc := 25) X xok4 (by decide +kernel) (by decide +kernel) (by decide +kernel) (by decide +kernel) fl_RX4_47 d_X4_newSign_25 ?_
    exact t_X4_newSign_28 X hr
set_option maxRecDepth 20000 in
theorem m_X4_newSign {l : Launch} {f : Nat → Int64 → xH → xP → Prop} 
    (v0 : ∀ (a0 : Nat) (a1 : Int64) (A : xH) (P : xP), f a0 a1 A P → k_X4_newSign_0 P [some (.ref a0), some (.long a1), none] [] A) : xCon l yX4_newSign cX4_newSign 3 none 0 0 xN xN 0 xFT xFT (w_RJ f) := by
  refine xc_RJ (plainFor_of_name pn_RX4) (by decide +kernel) (fun p e s m args below meth c g a0 a1 A P h X hr _ => ?_)
  exact ⟨_, v0 a0 a1 A P h, t_X4_newSign_0 X hr⟩
theorem d_X4_newKind_0 : decode cX4_newKind 0 = .ok (.aload_n 0, 1) := by decide +kernel
theorem d_X4_newKind_1 : decode cX4_newKind 1 = .ok (.getfield 50, 3) := by decide +kernel
theorem d_X4_newKind_4 : decode cX4_newKind 4 = .ok (.iconst 5, 1) := by decide +kernel
theorem d_X4_newKind_5 : decode cX4_newKind 5 = .ok (.if_icmp .ge 23, 3) := by decide +kernel
theorem d_X4_newKind_8 : decode cX4_newKind 8 = .ok (.aload_n 0, 1) := by decide +kernel
theorem d_X4_newKind_9 : decode cX4_newKind 9 = .ok (.getfield 19, 3) := by decide +kernel
theorem d_X4_newKind_12 : decode cX4_newKind 12 = .ok (.aload_n 0, 1) := by decide +kernel
theorem d_X4_newKind_13 : decode cX4_newKind 13 = .ok (.getfield 50, 3) := by decide +kernel
theorem d_X4_newKind_16 : decode cX4_newKind 16 = .ok (.lload_n 1, 1) := by decide +kernel
theorem d_X4_newKind_17 : decode cX4_newKind 17 = .ok (.lastore, 1) := by decide +kernel
theorem d_X4_newKind_18 : decode cX4_newKind 18 = .ok (.aload_n 0, 1) := by decide +kernel
theorem d_X4_newKind_19 : decode cX4_newKind 19 = .ok (.dup, 1) := by decide +kernel
theorem d_X4_newKind_20 : decode cX4_newKind 20 = .ok (.getfield 50, 3) := by decide +kernel
theorem d_X4_newKind_23 : decode cX4_newKind 23 = .ok (.iconst 1, 1) := by decide +kernel
theorem d_X4_newKind_24 : decode cX4_newKind 24 = .ok (.iadd, 1) := by decide +kernel
theorem d_X4_newKind_25 : decode cX4_newKind 25 = .ok (.putfield 50, 3) := by decide +kernel
theorem d_X4_newKind_28 : decode cX4_newKind 28 = .ok (.return_, 1) := by decide +kernel
def k_X4_newKind_28 (P : xP) : xK := x_vret P
set_option maxRecDepth 20000 in
theorem t_X4_newKind_28 {p : Program} {l : Launch} {e : Env} {s : State} {m : MethodId} {args : Array Value} {below : List Frame} {meth : Method} {c : Code} {g : xG} (X : xX p s m args c meth cX4_newKind RX4 3 g) (hr : meth.sig.returnType = none) {P : xP} : xAt p l e { frames := 0, cells := 0, slots := 0, locals := 0 } s m args below meth c g 3 xFT xN 0 0 (MQ below (xQc g xFT xN P) args s 0 0 (xFr g)) (k_X4_newKind_28 P) 28 := by
  unfold k_X4_newKind_28
  exact r_vret (pc := 28) X hr d_X4_newKind_28
def k_X4_newKind_0 (P : xP) : xK := x_aload 0 (x_getI xN 4 1 (x_push (.int 5) (x_icmp_ge ((k_X4_newKind_28 P)) (x_aload 0 (x_getF xN xFT 4 6 (x_aload 0 (x_getI xN 4 1 (x_lload 1 (x_last xN (x_aload 0 (x_dup (x_getI xN 4 1 (x_push (.int 1) (x_iadd (x_putI xN 4 1 ((k_X4_newKind_28 P)))))))))))))))))
set_option maxRecDepth 20000 in
theorem t_X4_newKind_0 {p : Program} {l : Launch} {e : Env} {s : State} {m : MethodId} {args : Array Value} {below : List Frame} {meth : Method} {c : Code} {g : xG} (X : xX p s m args c meth cX4_newKind RX4 3 g) (hr : meth.sig.returnType = none) {P : xP} : xAt p l e { frames := 0, cells := 0, slots := 0, locals := 0 } s m args below meth c g 3 xFT xN 0 0 (MQ below (xQc g xFT xN P) args s 0 0 (xFr g)) (k_X4_newKind_0 P) 0 := by
  unfold k_X4_newKind_0
  refine r_aload_n (pc := 0) X d_X4_newKind_0 fn0 ?_
  refine r_getI (pc := 1) X xok4 (by decide +kernel) (by decide +kernel) fl_RX4_50 d_X4_newKind_1 ?_
  refine r_iconst (pc := 4) X d_X4_newKind_4 (by decide +kernel) ?_
  refine r_icmp_ge (pc := 5) (tgt := 28) X d_X4_newKind_5 (by decide +kernel) ?_ ?_
  · exact t_X4_newKind_28 X hr
  · refine r_aload_n (pc := 8) X d_X4_newKind_8 fn0 ?_
    refine r_getF (pc := 9) X xok4 (by decide +kernel) (by decide +kernel) fl_RX4_19 d_X4_newKind_9 ?_
    refine r_aload_n (pc := 12) X d_X4_newKind_12 fn0 ?_
    refine r_getI (pc := 13) X xok4 (by decide +kernel) (by decide +kernel) fl_RX4_50 d_X4_newKind_13 ?_
    refine r_lload_n (pc := 16) X d_X4_newKind_16 fn1 ?_
    refine r_last (pc := 17) X d_X4_newKind_17 ?_
    refine r_aload_n (pc := 18) X d_X4_newKind_18 fn0 ?_
    refine r_dup (pc := 19) X d_X4_newKind_19 ?_
    refine r_getI (pc := 20) X xok4 (by decide +kernel) (by decide +kernel) fl_RX4_50 d_X4_newKind_20 ?_
    refine r_iconst (pc := 23) X d_X4_newKind_23 (by decide +kernel) ?_
    refine r_iadd (pc := 24) X d_X4_newKind_24 ?_
    refine r_putI (pc := 25) X xok4 (by decide +kernel) (by decide +kernel) (by decide +kernel) (by decide +kernel) fl_RX4_50 d_X4_newKind_25 ?_
    exact t_X4_newKind_28 X hr
set_option maxRecDepth 20000 in
theorem m_X4_newKind {l : Launch} {f : Nat → Int64 → xH → xP → Prop} 
    (v0 : ∀ (a0 : Nat) (a1 : Int64) (A : xH) (P : xP), f a0 a1 A P → k_X4_newKind_0 P [some (.ref a0), some (.long a1), none] [] A) : xCon l yX4_newKind cX4_newKind 3 none 0 0 xN xN 0 xFT xFT (w_RJ f) := by
  refine xc_RJ (plainFor_of_name pn_RX4) (by decide +kernel) (fun p e s m args below meth c g a0 a1 A P h X hr _ => ?_)
  exact ⟨_, v0 a0 a1 A P h, t_X4_newKind_0 X hr⟩
theorem d_X4_deepen_0 : decode cX4_deepen 0 = .ok (.iload_n 1, 1) := by decide +kernel
theorem d_X4_deepen_1 : decode cX4_deepen 1 = .ok (.ifCond .lt 8, 3) := by decide +kernel
theorem d_X4_deepen_4 : decode cX4_deepen 4 = .ok (.iload_n 1, 1) := by decide +kernel
theorem d_X4_deepen_5 : decode cX4_deepen 5 = .ok (.iconst 1, 1) := by decide +kernel
theorem d_X4_deepen_6 : decode cX4_deepen 6 = .ok (.if_icmp .le 5, 3) := by decide +kernel
theorem d_X4_deepen_9 : decode cX4_deepen 9 = .ok (.iconst (-1), 1) := by decide +kernel
theorem d_X4_deepen_10 : decode cX4_deepen 10 = .ok (.ireturn, 1) := by decide +kernel
theorem d_X4_deepen_11 : decode cX4_deepen 11 = .ok (.iload_n 1, 1) := by decide +kernel
theorem d_X4_deepen_12 : decode cX4_deepen 12 = .ok (.aload_n 0, 1) := by decide +kernel
theorem d_X4_deepen_13 : decode cX4_deepen 13 = .ok (.getfield 56, 3) := by decide +kernel
theorem d_X4_deepen_16 : decode cX4_deepen 16 = .ok (.if_icmp .ne 5, 3) := by decide +kernel
theorem d_X4_deepen_19 : decode cX4_deepen 19 = .ok (.iconst 1, 1) := by decide +kernel
theorem d_X4_deepen_20 : decode cX4_deepen 20 = .ok (.ireturn, 1) := by decide +kernel
theorem d_X4_deepen_21 : decode cX4_deepen 21 = .ok (.aload_n 0, 1) := by decide +kernel
theorem d_X4_deepen_22 : decode cX4_deepen 22 = .ok (.iload_n 1, 1) := by decide +kernel
theorem d_X4_deepen_23 : decode cX4_deepen 23 = .ok (.putfield 56, 3) := by decide +kernel
theorem d_X4_deepen_26 : decode cX4_deepen 26 = .ok (.iconst 0, 1) := by decide +kernel
theorem d_X4_deepen_27 : decode cX4_deepen 27 = .ok (.ireturn, 1) := by decide +kernel
def k_X4_deepen_9 (P : xP) : xK := x_push (.int (-1)) (x_iret P)
set_option maxRecDepth 20000 in
theorem t_X4_deepen_9 {p : Program} {l : Launch} {e : Env} {s : State} {m : MethodId} {args : Array Value} {below : List Frame} {meth : Method} {c : Code} {g : xG} (X : xX p s m args c meth cX4_deepen RX4 2 g) (hr : meth.sig.returnType = (some .int)) {P : xP} : xAt p l e { frames := 0, cells := 0, slots := 0, locals := 0 } s m args below meth c g 2 xFT xN 0 0 (MQ below (xQc g xFT xN P) args s 0 0 (xFr g)) (k_X4_deepen_9 P) 9 := by
  unfold k_X4_deepen_9
  refine r_iconst (pc := 9) X d_X4_deepen_9 (by decide +kernel) ?_
  exact r_iret (pc := 10) X hr d_X4_deepen_10
def k_X4_deepen_0 (P : xP) : xK := x_iload 1 (x_if_lt ((k_X4_deepen_9 P)) (x_iload 1 (x_push (.int 1) (x_icmp_le (x_iload 1 (x_aload 0 (x_getI xN 4 4 (x_icmp_ne (x_aload 0 (x_iload 1 (x_putI xN 4 4 (x_push (.int 0) (x_iret P))))) (x_push (.int 1) (x_iret P)))))) ((k_X4_deepen_9 P))))))
set_option maxRecDepth 20000 in
theorem t_X4_deepen_0 {p : Program} {l : Launch} {e : Env} {s : State} {m : MethodId} {args : Array Value} {below : List Frame} {meth : Method} {c : Code} {g : xG} (X : xX p s m args c meth cX4_deepen RX4 2 g) (hr : meth.sig.returnType = (some .int)) {P : xP} : xAt p l e { frames := 0, cells := 0, slots := 0, locals := 0 } s m args below meth c g 2 xFT xN 0 0 (MQ below (xQc g xFT xN P) args s 0 0 (xFr g)) (k_X4_deepen_0 P) 0 := by
  unfold k_X4_deepen_0
  refine r_iload_n (pc := 0) X d_X4_deepen_0 fn1 ?_
  refine r_if_lt (pc := 1) (tgt := 9) X d_X4_deepen_1 (by decide +kernel) ?_ ?_
  · exact t_X4_deepen_9 X hr
  · refine r_iload_n (pc := 4) X d_X4_deepen_4 fn1 ?_
    refine r_iconst (pc := 5) X d_X4_deepen_5 (by decide +kernel) ?_
    refine r_icmp_le (pc := 6) (tgt := 11) X d_X4_deepen_6 (by decide +kernel) ?_ ?_
    · refine r_iload_n (pc := 11) X d_X4_deepen_11 fn1 ?_
      refine r_aload_n (pc := 12) X d_X4_deepen_12 fn0 ?_
      refine r_getI (pc := 13) X xok4 (by decide +kernel) (by decide +kernel) fl_RX4_56 d_X4_deepen_13 ?_
      refine r_icmp_ne (pc := 16) (tgt := 21) X d_X4_deepen_16 (by decide +kernel) ?_ ?_
      · refine r_aload_n (pc := 21) X d_X4_deepen_21 fn0 ?_
        refine r_iload_n (pc := 22) X d_X4_deepen_22 fn1 ?_
        refine r_putI (pc := 23) X xok4 (by decide +kernel) (by decide +kernel) (by decide +kernel) (by decide +kernel) fl_RX4_56 d_X4_deepen_23 ?_
        refine r_iconst (pc := 26) X d_X4_deepen_26 (by decide +kernel) ?_
        exact r_iret (pc := 27) X hr d_X4_deepen_27
      · refine r_iconst (pc := 19) X d_X4_deepen_19 (by decide +kernel) ?_
        exact r_iret (pc := 20) X hr d_X4_deepen_20
    · exact t_X4_deepen_9 X hr
set_option maxRecDepth 20000 in
theorem m_X4_deepen {l : Launch} {f : Nat → Int32 → xH → xP → Prop} 
    (v0 : ∀ (a0 : Nat) (a1 : Int32) (A : xH) (P : xP), f a0 a1 A P → k_X4_deepen_0 P [some (.ref a0), some (.int a1)] [] A) : xCon l yX4_deepen cX4_deepen 2 (some .int) 0 0 xN xN 0 xFT xFT (w_RI f) := by
  refine xc_RI (plainFor_of_name pn_RX4) (by decide +kernel) (fun p e s m args below meth c g a0 a1 A P h X hr _ => ?_)
  exact ⟨_, v0 a0 a1 A P h, t_X4_deepen_0 X hr⟩
theorem d_X4_unite_0 : decode cX4_unite 0 = .ok (.iload_n 1, 1) := by decide +kernel
theorem d_X4_unite_1 : decode cX4_unite 1 = .ok (.iconst 2, 1) := by decide +kernel
theorem d_X4_unite_2 : decode cX4_unite 2 = .ok (.if_icmp .lt 24, 3) := by decide +kernel
theorem d_X4_unite_5 : decode cX4_unite 5 = .ok (.iload_n 2, 1) := by decide +kernel
theorem d_X4_unite_6 : decode cX4_unite 6 = .ok (.iconst 2, 1) := by decide +kernel
theorem d_X4_unite_7 : decode cX4_unite 7 = .ok (.if_icmp .lt 19, 3) := by decide +kernel
theorem d_X4_unite_10 : decode cX4_unite 10 = .ok (.iload_n 1, 1) := by decide +kernel
theorem d_X4_unite_11 : decode cX4_unite 11 = .ok (.aload_n 0, 1) := by decide +kernel
theorem d_X4_unite_12 : decode cX4_unite 12 = .ok (.getfield 9, 3) := by decide +kernel
theorem d_X4_unite_15 : decode cX4_unite 15 = .ok (.if_icmp .ge 11, 3) := by decide +kernel
theorem d_X4_unite_18 : decode cX4_unite 18 = .ok (.iload_n 2, 1) := by decide +kernel
theorem d_X4_unite_19 : decode cX4_unite 19 = .ok (.aload_n 0, 1) := by decide +kernel
theorem d_X4_unite_20 : decode cX4_unite 20 = .ok (.getfield 9, 3) := by decide +kernel
theorem d_X4_unite_23 : decode cX4_unite 23 = .ok (.if_icmp .lt 5, 3) := by decide +kernel
theorem d_X4_unite_26 : decode cX4_unite 26 = .ok (.iconst (-1), 1) := by decide +kernel
theorem d_X4_unite_27 : decode cX4_unite 27 = .ok (.ireturn, 1) := by decide +kernel
theorem d_X4_unite_28 : decode cX4_unite 28 = .ok (.aload_n 0, 1) := by decide +kernel
theorem d_X4_unite_29 : decode cX4_unite 29 = .ok (.getfield 41, 3) := by decide +kernel
theorem d_X4_unite_32 : decode cX4_unite 32 = .ok (.iload_n 1, 1) := by decide +kernel
theorem d_X4_unite_33 : decode cX4_unite 33 = .ok (.iaload, 1) := by decide +kernel
theorem d_X4_unite_34 : decode cX4_unite 34 = .ok (.aload_n 0, 1) := by decide +kernel
theorem d_X4_unite_35 : decode cX4_unite 35 = .ok (.getfield 41, 3) := by decide +kernel
theorem d_X4_unite_38 : decode cX4_unite 38 = .ok (.iload_n 2, 1) := by decide +kernel
theorem d_X4_unite_39 : decode cX4_unite 39 = .ok (.iaload, 1) := by decide +kernel
theorem d_X4_unite_40 : decode cX4_unite 40 = .ok (.invokestatic 69, 3) := by decide +kernel
theorem d_X4_unite_43 : decode cX4_unite 43 = .ok (.istore_n 3, 1) := by decide +kernel
theorem d_X4_unite_44 : decode cX4_unite 44 = .ok (.aload_n 0, 1) := by decide +kernel
theorem d_X4_unite_45 : decode cX4_unite 45 = .ok (.getfield 41, 3) := by decide +kernel
theorem d_X4_unite_48 : decode cX4_unite 48 = .ok (.iload_n 1, 1) := by decide +kernel
theorem d_X4_unite_49 : decode cX4_unite 49 = .ok (.iaload, 1) := by decide +kernel
theorem d_X4_unite_50 : decode cX4_unite 50 = .ok (.aload_n 0, 1) := by decide +kernel
theorem d_X4_unite_51 : decode cX4_unite 51 = .ok (.getfield 41, 3) := by decide +kernel
theorem d_X4_unite_54 : decode cX4_unite 54 = .ok (.iload_n 2, 1) := by decide +kernel
theorem d_X4_unite_55 : decode cX4_unite 55 = .ok (.iaload, 1) := by decide +kernel
theorem d_X4_unite_56 : decode cX4_unite 56 = .ok (.invokestatic 74, 3) := by decide +kernel
theorem d_X4_unite_59 : decode cX4_unite 59 = .ok (.istore 4, 2) := by decide +kernel
theorem d_X4_unite_61 : decode cX4_unite 61 = .ok (.iload_n 3, 1) := by decide +kernel
theorem d_X4_unite_62 : decode cX4_unite 62 = .ok (.iload 4, 2) := by decide +kernel
theorem d_X4_unite_64 : decode cX4_unite 64 = .ok (.if_icmp .ne 5, 3) := by decide +kernel
theorem d_X4_unite_67 : decode cX4_unite 67 = .ok (.iconst 1, 1) := by decide +kernel
theorem d_X4_unite_68 : decode cX4_unite 68 = .ok (.ireturn, 1) := by decide +kernel
theorem d_X4_unite_69 : decode cX4_unite 69 = .ok (.iconst 2, 1) := by decide +kernel
theorem d_X4_unite_70 : decode cX4_unite 70 = .ok (.istore 5, 2) := by decide +kernel
theorem d_X4_unite_72 : decode cX4_unite 72 = .ok (.iload 5, 2) := by decide +kernel
theorem d_X4_unite_74 : decode cX4_unite 74 = .ok (.aload_n 0, 1) := by decide +kernel
theorem d_X4_unite_75 : decode cX4_unite 75 = .ok (.getfield 9, 3) := by decide +kernel
theorem d_X4_unite_78 : decode cX4_unite 78 = .ok (.if_icmp .ge 29, 3) := by decide +kernel
theorem d_X4_unite_81 : decode cX4_unite 81 = .ok (.aload_n 0, 1) := by decide +kernel
theorem d_X4_unite_82 : decode cX4_unite 82 = .ok (.getfield 41, 3) := by decide +kernel
theorem d_X4_unite_85 : decode cX4_unite 85 = .ok (.iload 5, 2) := by decide +kernel
theorem d_X4_unite_87 : decode cX4_unite 87 = .ok (.iaload, 1) := by decide +kernel
theorem d_X4_unite_88 : decode cX4_unite 88 = .ok (.iload 4, 2) := by decide +kernel
theorem d_X4_unite_90 : decode cX4_unite 90 = .ok (.if_icmp .ne 11, 3) := by decide +kernel
theorem d_X4_unite_93 : decode cX4_unite 93 = .ok (.aload_n 0, 1) := by decide +kernel
theorem d_X4_unite_94 : decode cX4_unite 94 = .ok (.getfield 41, 3) := by decide +kernel
theorem d_X4_unite_97 : decode cX4_unite 97 = .ok (.iload 5, 2) := by decide +kernel
theorem d_X4_unite_99 : decode cX4_unite 99 = .ok (.iload_n 3, 1) := by decide +kernel
theorem d_X4_unite_100 : decode cX4_unite 100 = .ok (.iastore, 1) := by decide +kernel
theorem d_X4_unite_101 : decode cX4_unite 101 = .ok (.iinc 5 1, 3) := by decide +kernel
theorem d_X4_unite_104 : decode cX4_unite 104 = .ok (.goto (-32), 3) := by decide +kernel
theorem d_X4_unite_107 : decode cX4_unite 107 = .ok (.iconst 0, 1) := by decide +kernel
theorem d_X4_unite_108 : decode cX4_unite 108 = .ok (.ireturn, 1) := by decide +kernel
def k_X4_unite_26 (P : xP) : xK := x_push (.int (-1)) (x_iret P)
set_option maxRecDepth 20000 in
theorem t_X4_unite_26 {p : Program} {l : Launch} {e : Env} {s : State} {m : MethodId} {args : Array Value} {below : List Frame} {meth : Method} {c : Code} {g : xG} (X : xX p s m args c meth cX4_unite RX4 6 g) (hr : meth.sig.returnType = (some .int)) {P : xP} : xAt p l e { frames := 1, cells := 0, slots := 0, locals := 21 } s m args below meth c g 6 xFT xN 0 0 (MQ below (xQc g xFT xN P) args s 0 0 (xFr g)) (k_X4_unite_26 P) 26 := by
  unfold k_X4_unite_26
  refine r_iconst (pc := 26) X d_X4_unite_26 (by decide +kernel) ?_
  exact r_iret (pc := 27) X hr d_X4_unite_27
def k_X4_unite_0 (P : xP) (C72 : xK) : xK := x_iload 1 (x_push (.int 2) (x_icmp_lt ((k_X4_unite_26 P)) (x_iload 2 (x_push (.int 2) (x_icmp_lt ((k_X4_unite_26 P)) (x_iload 1 (x_aload 0 (x_getI xN 4 3 (x_icmp_ge ((k_X4_unite_26 P)) (x_iload 2 (x_aload 0 (x_getI xN 4 3 (x_icmp_lt (x_aload 0 (x_getF xN xFT 4 13 (x_iload 1 (x_iald xN (x_aload 0 (x_getF xN xFT 4 13 (x_iload 2 (x_iald xN (x_cs2 (w_II f_J9_min_7cf53) (x_istore 3 (x_aload 0 (x_getF xN xFT 4 13 (x_iload 1 (x_iald xN (x_aload 0 (x_getF xN xFT 4 13 (x_iload 2 (x_iald xN (x_cs2 (w_II f_J9_max_7cf53) (x_istore 4 (x_iload 3 (x_iload 4 (x_icmp_ne (x_push (.int 2) (x_istore 5 (C72))) (x_push (.int 1) (x_iret P))))))))))))))))))))))))) ((k_X4_unite_26 P)))))))))))))))
set_option maxRecDepth 20000 in
theorem t_X4_unite_0 {p : Program} {l : Launch} {e : Env} {s : State} {m : MethodId} {args : Array Value} {below : List Frame} {meth : Method} {c : Code} {g : xG} (X : xX p s m args c meth cX4_unite RX4 6 g) (hr : meth.sig.returnType = (some .int)) {P : xP} {C72 : xK} (h72 : xAt p l e { frames := 1, cells := 0, slots := 0, locals := 21 } s m args below meth c g 6 xFT xN 0 0 (MQ below (xQc g xFT xN P) args s 0 0 (xFr g)) C72 72) : xAt p l e { frames := 1, cells := 0, slots := 0, locals := 21 } s m args below meth c g 6 xFT xN 0 0 (MQ below (xQc g xFT xN P) args s 0 0 (xFr g)) (k_X4_unite_0 P C72) 0 := by
  unfold k_X4_unite_0
  refine r_iload_n (pc := 0) X d_X4_unite_0 fn1 ?_
  refine r_iconst (pc := 1) X d_X4_unite_1 (by decide +kernel) ?_
  refine r_icmp_lt (pc := 2) (tgt := 26) X d_X4_unite_2 (by decide +kernel) ?_ ?_
  · exact t_X4_unite_26 X hr
  · refine r_iload_n (pc := 5) X d_X4_unite_5 fn2 ?_
    refine r_iconst (pc := 6) X d_X4_unite_6 (by decide +kernel) ?_
    refine r_icmp_lt (pc := 7) (tgt := 26) X d_X4_unite_7 (by decide +kernel) ?_ ?_
    · exact t_X4_unite_26 X hr
    · refine r_iload_n (pc := 10) X d_X4_unite_10 fn1 ?_
      refine r_aload_n (pc := 11) X d_X4_unite_11 fn0 ?_
      refine r_getI (pc := 12) X xok4 (by decide +kernel) (by decide +kernel) fl_RX4_9 d_X4_unite_12 ?_
      refine r_icmp_ge (pc := 15) (tgt := 26) X d_X4_unite_15 (by decide +kernel) ?_ ?_
      · exact t_X4_unite_26 X hr
      · refine r_iload_n (pc := 18) X d_X4_unite_18 fn2 ?_
        refine r_aload_n (pc := 19) X d_X4_unite_19 fn0 ?_
        refine r_getI (pc := 20) X xok4 (by decide +kernel) (by decide +kernel) fl_RX4_9 d_X4_unite_20 ?_
        refine r_icmp_lt (pc := 23) (tgt := 28) X d_X4_unite_23 (by decide +kernel) ?_ ?_
        · refine r_aload_n (pc := 28) X d_X4_unite_28 fn0 ?_
          refine r_getF (pc := 29) X xok4 (by decide +kernel) (by decide +kernel) fl_RX4_41 d_X4_unite_29 ?_
          refine r_iload_n (pc := 32) X d_X4_unite_32 fn1 ?_
          refine r_iald (pc := 33) X d_X4_unite_33 ?_
          refine r_aload_n (pc := 34) X d_X4_unite_34 fn0 ?_
          refine r_getF (pc := 35) X xok4 (by decide +kernel) (by decide +kernel) fl_RX4_41 d_X4_unite_35 ?_
          refine r_iload_n (pc := 38) X d_X4_unite_38 fn2 ?_
          refine r_iald (pc := 39) X d_X4_unite_39 ?_
          refine r_cs2 (pc := 40) X (con_J9_min_7cf53 l) sf_J9_min_7cf53 ml_RX4_69 (by decide +kernel) (by decide +kernel) d_X4_unite_40 ?_
          refine r_istore_n (pc := 43) X d_X4_unite_43 fn3 (by decide +kernel) ?_
          refine r_aload_n (pc := 44) X d_X4_unite_44 fn0 ?_
          refine r_getF (pc := 45) X xok4 (by decide +kernel) (by decide +kernel) fl_RX4_41 d_X4_unite_45 ?_
          refine r_iload_n (pc := 48) X d_X4_unite_48 fn1 ?_
          refine r_iald (pc := 49) X d_X4_unite_49 ?_
          refine r_aload_n (pc := 50) X d_X4_unite_50 fn0 ?_
          refine r_getF (pc := 51) X xok4 (by decide +kernel) (by decide +kernel) fl_RX4_41 d_X4_unite_51 ?_
          refine r_iload_n (pc := 54) X d_X4_unite_54 fn2 ?_
          refine r_iald (pc := 55) X d_X4_unite_55 ?_
          refine r_cs2 (pc := 56) X (con_J9_max_7cf53 l) sf_J9_max_7cf53 ml_RX4_74 (by decide +kernel) (by decide +kernel) d_X4_unite_56 ?_
          refine r_istore (pc := 59) X d_X4_unite_59 (by decide +kernel) ?_
          refine r_iload_n (pc := 61) X d_X4_unite_61 fn3 ?_
          refine r_iload (pc := 62) X d_X4_unite_62 ?_
          refine r_icmp_ne (pc := 64) (tgt := 69) X d_X4_unite_64 (by decide +kernel) ?_ ?_
          · refine r_iconst (pc := 69) X d_X4_unite_69 (by decide +kernel) ?_
            refine r_istore (pc := 70) X d_X4_unite_70 (by decide +kernel) ?_
            exact h72
          · refine r_iconst (pc := 67) X d_X4_unite_67 (by decide +kernel) ?_
            exact r_iret (pc := 68) X hr d_X4_unite_68
        · exact t_X4_unite_26 X hr
def k_X4_unite_101 (P : xP) (C72 : xK) : xK := x_iinc 5 1 (C72)
set_option maxRecDepth 20000 in
theorem t_X4_unite_101 {p : Program} {l : Launch} {e : Env} {s : State} {m : MethodId} {args : Array Value} {below : List Frame} {meth : Method} {c : Code} {g : xG} (X : xX p s m args c meth cX4_unite RX4 6 g) (hr : meth.sig.returnType = (some .int)) {P : xP} {C72 : xK} (h72 : xAt p l e { frames := 1, cells := 0, slots := 0, locals := 21 } s m args below meth c g 6 xFT xN 0 0 (MQ below (xQc g xFT xN P) args s 0 0 (xFr g)) C72 72) : xAt p l e { frames := 1, cells := 0, slots := 0, locals := 21 } s m args below meth c g 6 xFT xN 0 0 (MQ below (xQc g xFT xN P) args s 0 0 (xFr g)) (k_X4_unite_101 P C72) 101 := by
  unfold k_X4_unite_101
  refine r_iinc (pc := 101) X d_X4_unite_101 (by decide +kernel) (by decide +kernel) ?_
  refine r_goto (pc := 104) (tgt := 72) X d_X4_unite_104 (by decide +kernel) ?_
  exact h72
def k_X4_unite_72 (P : xP) (C72 : xK) : xK := x_iload 5 (x_aload 0 (x_getI xN 4 3 (x_icmp_ge (x_push (.int 0) (x_iret P)) (x_aload 0 (x_getF xN xFT 4 13 (x_iload 5 (x_iald xN (x_iload 4 (x_icmp_ne ((k_X4_unite_101 P C72)) (x_aload 0 (x_getF xN xFT 4 13 (x_iload 5 (x_iload 3 (x_iast xN ((k_X4_unite_101 P C72))))))))))))))))
set_option maxRecDepth 20000 in
theorem t_X4_unite_72 {p : Program} {l : Launch} {e : Env} {s : State} {m : MethodId} {args : Array Value} {below : List Frame} {meth : Method} {c : Code} {g : xG} (X : xX p s m args c meth cX4_unite RX4 6 g) (hr : meth.sig.returnType = (some .int)) {P : xP} {C72 : xK} (h72 : xAt p l e { frames := 1, cells := 0, slots := 0, locals := 21 } s m args below meth c g 6 xFT xN 0 0 (MQ below (xQc g xFT xN P) args s 0 0 (xFr g)) C72 72) : xAt p l e { frames := 1, cells := 0, slots := 0, locals := 21 } s m args below meth c g 6 xFT xN 0 0 (MQ below (xQc g xFT xN P) args s 0 0 (xFr g)) (k_X4_unite_72 P C72) 72 := by
  unfold k_X4_unite_72
  refine r_iload (pc := 72) X d_X4_unite_72 ?_
  refine r_aload_n (pc := 74) X d_X4_unite_74 fn0 ?_
  refine r_getI (pc := 75) X xok4 (by decide +kernel) (by decide +kernel) fl_RX4_9 d_X4_unite_75 ?_
  refine r_icmp_ge (pc := 78) (tgt := 107) X d_X4_unite_78 (by decide +kernel) ?_ ?_
  · refine r_iconst (pc := 107) X d_X4_unite_107 (by decide +kernel) ?_
    exact r_iret (pc := 108) X hr d_X4_unite_108
  · refine r_aload_n (pc := 81) X d_X4_unite_81 fn0 ?_
    refine r_getF (pc := 82) X xok4 (by decide +kernel) (by decide +kernel) fl_RX4_41 d_X4_unite_82 ?_
    refine r_iload (pc := 85) X d_X4_unite_85 ?_
    refine r_iald (pc := 87) X d_X4_unite_87 ?_
    refine r_iload (pc := 88) X d_X4_unite_88 ?_
    refine r_icmp_ne (pc := 90) (tgt := 101) X d_X4_unite_90 (by decide +kernel) ?_ ?_
    · exact t_X4_unite_101 X hr h72
    · refine r_aload_n (pc := 93) X d_X4_unite_93 fn0 ?_
      refine r_getF (pc := 94) X xok4 (by decide +kernel) (by decide +kernel) fl_RX4_41 d_X4_unite_94 ?_
      refine r_iload (pc := 97) X d_X4_unite_97 ?_
      refine r_iload_n (pc := 99) X d_X4_unite_99 fn3 ?_
      refine r_iast (pc := 100) X d_X4_unite_100 ?_
      exact t_X4_unite_101 X hr h72
set_option maxRecDepth 20000 in
theorem m_X4_unite {l : Launch} {f : Nat → Int32 → Int32 → xH → xP → Prop}  {I72 : Nat → Int32 → Int32 → xH → xP → xM → xK}
    (v0 : ∀ (a0 : Nat) (a1 : Int32) (a2 : Int32) (A : xH) (P : xP), f a0 a1 a2 A P → k_X4_unite_0 P (xE (I72 a0 a1 a2 A P)) [some (.ref a0), some (.int a1), some (.int a2), none, none, none] [] A)
    (v72 : ∀ (a0 : Nat) (a1 : Int32) (a2 : Int32) (A : xH) (P : xP), f a0 a1 a2 A P → ∀ (μ : xM) (L : xL) (st : List Value) (B : xH), I72 a0 a1 a2 A P μ L st B → k_X4_unite_72 P (xB (I72 a0 a1 a2 A P) μ) L st B) : xCon l yX4_unite cX4_unite 6 (some .int) 1 21 xN xN 0 xFT xFT (w_RII f) := by
  refine xc_RII (plainFor_of_name pn_RX4) (by decide +kernel) (fun p e s m args below meth c g a0 a1 a2 A P h X hr _ => ?_)
  have h72 := x_loop1 (p := p) (l := l) (e := e) (R := { frames := 1, cells := 0, slots := 0, locals := 21 }) (s := s) (m := m) (args := args) (below := below) (meth := meth) (c := c) (g := g) (nL := 6) (F := xFT) (n := xN) (cells := 0) (slots := 0) (Q := MQ below (xQc g xFT xN P) args s 0 0 (xFr g)) (I := I72 a0 a1 a2 A P) (pc1 := 72) (fun μ i72 => xAt_mono (t_X4_unite_72 (P := P) X hr i72) (v72 a0 a1 a2 A P h μ))
  exact ⟨_, v0 a0 a1 a2 A P h, t_X4_unite_0 X hr h72⟩
def f_X4_nextOf (b : Nat) (i : Int32) (A : xH) (P : xP) : Prop := ∃ v, isM A b v ∧ ∀ x, vnext v i x → P (some (.int x)) A
theorem con_X4_nextOf (l : Launch) : xCon l yX4_nextOf cX4_nextOf 2 (some .int) 1 22 xN xN 0 xFT xFT (w_RI f_X4_nextOf) := by
  refine m_X4_nextOf ?_
  rintro b i A P ⟨v, hM, hP⟩
  have hM0 := hM
  have hN := isM_N hM
  obtain ⟨⟨⟨m1, ⟨-, -, -, -, -, -, l11, l12, -⟩, ⟨-, -, -, -, -, -, t11, t12, -⟩, ⟨-, -, -, -, -, -, s11, s12, -⟩, -⟩, ⟨w1, w2, w3, w4, w5⟩, ⟨-, k1, -, -⟩, -, -, -⟩, hc, ⟨e3, -, -, e5⟩, hg⟩ := hM
  change xi A b 3 = nI (vN v) at e3
  have big : ∀ r d, r < vR v → d ≤ vrs v r → 2 ≤ vfst v r + d ∧ vfst v r + d < vN v := fun r d h1 h2 => by
    have h3 := vfst_ge v r
    have h4 := vfst_mono v h1
    unfold vN
    omega
  simp only [k_X4_nextOf_0, k_X4_nextOf_17, k_X4_nextOf_50, k_X4_nextOf_51, f_X4_symbolAt, w_RII, x_aload, x_cv2, x_getF, x_getI, x_iald, x_icmp_ge, x_icmp_le, x_if_le, x_if_ne, x_iload, x_iret, x_push, xFT, xbool0, xbool1, Nat.reduceAdd, Nat.zero_add, xgl_0, xgl_s, xgl_n, xst_0, xst_1n, xst_1i, xst_1r, xst_1l, xst_s, set_0, set_s, true_and, and_true, xres, xcat_nil, xcat_i, xcat_r, xcat_l, Nat.add_zero, xble0, xble1, xble2, xble3, xble4, xble5, xble6, xble7, xble8, m1, l11, l12, t11, t12, s11, s12, k1, e3, f_X4_symbolAt]
  have no : ∀ x : Int32, x = -1 → (¬ ∃ r d : Nat, r < vR v ∧ d < vrs v r ∧ i = nI (vfst v r + d)) → ¬ (i = 0 ∧ 0 < vK v) → P (some (.int x)) A := by
    rintro x rfl h1 h2
    exact hP _ ⟨fun r d h3 h4 h5 => absurd ⟨r, d, h3, h4, h5⟩ h1, fun h3 h4 => absurd ⟨h3, h4⟩ h2, fun _ _ => rfl⟩
  refine ⟨fun h0 => ⟨fun h1 => ?_, fun h1 => ⟨fun h2 => ?_, fun h2 => ?_⟩⟩, fun h0 => ⟨fun h1 => ?_, fun h1 => ?_⟩⟩
  · refine no _ rfl ?_ (fun q => h0 q.1)
    rintro ⟨r, d, h3, h4, rfl⟩
    have := big r d h3 (by omega)
    simp (disch := omega) only [Int32.lt_iff_toInt_lt, Int32.le_iff_toInt_le, ← Int32.toInt_inj, nI_toInt, Int32.reduceToInt, n_m1, ne_eq, not_true_eq_false, not_false_eq_true] at h1
    omega
  · refine no _ rfl ?_ (fun q => h0 q.1)
    rintro ⟨r, d, h3, h4, rfl⟩
    have := big r d h3 (by omega)
    simp (disch := omega) only [Int32.lt_iff_toInt_lt, Int32.le_iff_toInt_le, ← Int32.toInt_inj, nI_toInt, Int32.reduceToInt, n_m1, ne_eq, not_true_eq_false, not_false_eq_true] at h2
    omega
  · rcases n_case i with h | ⟨j, hj, rfl⟩
    · exact absurd (by simp (disch := omega) only [Int32.lt_iff_toInt_lt, Int32.le_iff_toInt_le, ← Int32.toInt_inj, nI_toInt, Int32.reduceToInt, n_m1, ne_eq, not_true_eq_false, not_false_eq_true] at h ⊢; omega) h1
    · simp (disch := omega) only [Int32.lt_iff_toInt_lt, Int32.le_iff_toInt_le, ← Int32.toInt_inj, nI_toInt, Int32.reduceToInt, n_m1, ne_eq, not_true_eq_false, not_false_eq_true] at h1 h2
      obtain ⟨r, d, h3, h4, rfl⟩ := vitem (v := v) (vR v) (show 2 ≤ j by omega) (show j < vfst v (vR v) by have : vN v = vfst v (vR v) := rfl; omega)
      have h5 := big r d h3 h4
      rw [n_cl (by omega), (e5 r h3 d h4).1, (e5 r h3 d h4).2]
      have hin := (n_in (j := vfst v r + d) (n := 42) (by omega) (by omega)).mpr (by omega)
      refine ⟨hin, hin, v, hM0, fun x hx => ?_⟩
      have hr3 := (w5 r h3).2.1
      rcases Nat.lt_or_ge d (vrs v r) with h6 | h6
      · have := hx.1 r d rfl rfl h3 h6
        subst this
        refine hP _ ⟨fun r2 d2 g1 g2 g3 => ?_, fun h7 => absurd h7 h0, fun h7 => absurd ⟨r, d, h3, h6, rfl⟩ h7⟩
        have := big r2 d2 g1 (by omega)
        have e := (nI_eq (by omega) (by omega)).mp g3
        obtain ⟨rfl, rfl⟩ := vitem1 (v := v) h4 (by omega) e
        rfl
      · have := hx.2 (by
          rintro ⟨r2, d2, g1, g2, g3, g4⟩
          have hr4 := (w5 r2 g3).2.1
          have e1 := (nI_eq (by omega) (by omega)).mp g1
          have e2 := (nI_eq (by omega) (by omega)).mp g2
          subst e1
          omega)
        refine no _ this ?_ (fun q => h0 q.1)
        rintro ⟨r2, d2, g1, g2, g3⟩
        have := big r2 d2 g1 (by omega)
        have e := (nI_eq (by omega) (by omega)).mp g3
        obtain ⟨rfl, rfl⟩ := vitem1 (v := v) h4 (by omega) e
        omega
  · simp (disch := omega) only [Int32.lt_iff_toInt_lt, Int32.le_iff_toInt_le, ← Int32.toInt_inj, nI_toInt, Int32.reduceToInt, n_m1, ne_eq, not_true_eq_false, not_false_eq_true] at h1
    refine no _ rfl ?_ (fun q => by omega)
    rintro ⟨r, d, h3, h4, rfl⟩
    have := big r d h3 (by omega)
    simp (disch := omega) only [Int32.lt_iff_toInt_lt, Int32.le_iff_toInt_le, ← Int32.toInt_inj, nI_toInt, Int32.reduceToInt, n_m1, ne_eq, not_true_eq_false, not_false_eq_true] at h0
    omega
  · simp (disch := omega) only [Int32.lt_iff_toInt_lt, Int32.le_iff_toInt_le, ← Int32.toInt_inj, nI_toInt, Int32.reduceToInt, n_m1, ne_eq, not_true_eq_false, not_false_eq_true] at h1
    refine hP _ ⟨fun r d h3 h4 h5 => ?_, fun _ _ => rfl, fun _ h7 => absurd ⟨h0, by omega⟩ h7⟩
    subst h5
    have := big r d h3 (by omega)
    simp (disch := omega) only [Int32.lt_iff_toInt_lt, Int32.le_iff_toInt_le, ← Int32.toInt_inj, nI_toInt, Int32.reduceToInt, n_m1, ne_eq, not_true_eq_false, not_false_eq_true] at h0
    omega
/-- the kind of an item's rule -/
def f_X4_kindOf (b : Nat) (i : Int32) (A : xH) (P : xP) : Prop := ∃ v, isM A b v ∧ (∀ r d : Nat, r < vR v → d ≤ vrs v r → i = nI (vfst v r + d) → P (some (.int (nI (vrk v r)))) A) ∧ ((¬ ∃ r d : Nat, r < vR v ∧ d ≤ vrs v r ∧ i = nI (vfst v r + d)) → P (some (.int (-1))) A)
theorem con_X4_kindOf (l : Launch) : xCon l yX4_kindOf cX4_kindOf 2 (some .int) 0 0 xN xN 0 xFT xFT (w_RI f_X4_kindOf) := by
  refine m_X4_kindOf ?_
  rintro b i A P ⟨v, hM, hP, hP2⟩
  have hN := isM_N hM
  obtain ⟨⟨⟨m1, ⟨-, -, l7, -, -, -, l11, -⟩, ⟨-, -, t7, -, -, -, t11, -⟩, ⟨-, -, s7, -, -, -, s11, -⟩, -⟩, ⟨w1, w2, w3, w4, w5⟩, -, -, -, e6⟩, hc, ⟨e3, -, -, e5⟩, hg⟩ := hM
  change xi A b 3 = nI (vN v) at e3
  have big : ∀ r d, r < vR v → d ≤ vrs v r → 2 ≤ vfst v r + d ∧ vfst v r + d < vN v := fun r d h1 h2 => by
    have h3 := vfst_ge v r
    have h4 := vfst_mono v h1
    unfold vN
    omega
  simp only [k_X4_kindOf_0, k_X4_kindOf_27, k_X4_kindOf_28, x_aload, x_getF, x_getI, x_iald, x_icmp_ge, x_icmp_le, x_iload, x_iret, x_push, xFT, xbool0, xbool1, Nat.reduceAdd, Nat.zero_add, xgl_0, xgl_s, xgl_n, xst_0, xst_1n, xst_1i, xst_1r, xst_1l, xst_s, set_0, set_s, true_and, and_true, xres, xcat_nil, xcat_i, xcat_r, xcat_l, Nat.add_zero, xble0, xble1, xble2, xble3, xble4, xble5, xble6, xble7, xble8, m1, l7, l11, t7, t11, s7, s11, e3]
  refine ⟨fun h1 => ?_, fun h1 => ⟨fun h2 => ?_, fun h2 => ?_⟩⟩
  · refine hP2 ?_
    rintro ⟨r, d, h3, h4, rfl⟩
    have := big r d h3 (by omega)
    simp (disch := omega) only [Int32.lt_iff_toInt_lt, Int32.le_iff_toInt_le, ← Int32.toInt_inj, nI_toInt, Int32.reduceToInt, n_m1, ne_eq, not_true_eq_false, not_false_eq_true] at h1
    omega
  · refine hP2 ?_
    rintro ⟨r, d, h3, h4, rfl⟩
    have := big r d h3 (by omega)
    simp (disch := omega) only [Int32.lt_iff_toInt_lt, Int32.le_iff_toInt_le, ← Int32.toInt_inj, nI_toInt, Int32.reduceToInt, n_m1, ne_eq, not_true_eq_false, not_false_eq_true] at h2
    omega
  · rcases n_case i with h | ⟨j, hj, rfl⟩
    · exact absurd (by simp (disch := omega) only [Int32.lt_iff_toInt_lt, Int32.le_iff_toInt_le, ← Int32.toInt_inj, nI_toInt, Int32.reduceToInt, n_m1, ne_eq, not_true_eq_false, not_false_eq_true] at h ⊢; omega) h1
    · simp (disch := omega) only [Int32.lt_iff_toInt_lt, Int32.le_iff_toInt_le, ← Int32.toInt_inj, nI_toInt, Int32.reduceToInt, n_m1, ne_eq, not_true_eq_false, not_false_eq_true] at h1 h2
      obtain ⟨r, d, h3, h4, rfl⟩ := vitem (v := v) (vR v) (show 2 ≤ j by omega) (show j < vfst v (vR v) by have : vN v = vfst v (vR v) := rfl; omega)
      have h5 := big r d h3 h4
      rw [n_cl (by omega), (e5 r h3 d h4).1, n_cl (by omega), (e6 r h3).1]
      exact ⟨(n_in (by omega) (by omega)).mpr (by omega), (n_in (by omega) (by omega)).mpr (by omega), hP r d h3 h4 rfl⟩
def f_X4_find (b : Nat) (w : Int64) (A : xH) (P : xP) : Prop := ∃ v, isM A b v ∧ P (some (.int (vfind v w))) A
theorem lcmp0 {x y : Int64} : lg_cmp x y = 0 ↔ x = y := by
  unfold lg_cmp
  by_cases h1 : x > y
  · rw [if_pos h1]
    constructor
    · intro h; exact absurd h (by decide)
    · rintro rfl
      simp only [gt_iff_lt, Int64.lt_iff_toInt_lt] at h1
      omega
  · rw [if_neg h1]
    by_cases h2 : x = y
    · simp [h2]
    · simp [h2]
theorem con_X4_find (l : Launch) : xCon l yX4_find cX4_find 4 (some .int) 0 0 xN xN 0 xFT xFT (w_RJ f_X4_find) := by
  refine m_X4_find (I2 := fun b w A P μ L st B => ∃ v j, isM A b v ∧ P (some (.int (vfind v w))) A ∧ B = A ∧ st = [] ∧ j ≤ vS v ∧ (∀ i, i < j → vsn v i ≠ w) ∧ L = [some (.ref b), some (.long w), none, some (.int (nI j))] ∧ μ = (vS v - j, 0, 0))
    (I31 := fun b w A P μ L st B => ∃ v j, isM A b v ∧ P (some (.int (vfind v w))) A ∧ B = A ∧ st = [] ∧ j ≤ vK v ∧ (∀ i, i < vS v → vsn v i ≠ w) ∧ (∀ i, i < j → vkn v i ≠ w) ∧ L = [some (.ref b), some (.long w), none, some (.int (nI j))] ∧ μ = (vK v - j, 0, 0)) ?_ ?_ ?_
  · rintro b w A P ⟨v, hM, hP⟩
    simp only [k_X4_find_0, k_X4_find_2, k_X4_find_31, x_aload, x_getF, x_getI, x_iadd, x_icmp_ge, x_if_ne, x_iinc, x_iload, x_iret, x_istore, x_lald, x_lcmp, x_lload, x_push, xFT, xbool0, xbool1, Nat.reduceAdd, Nat.zero_add, xgl_0, xgl_s, xgl_n, xst_0, xst_1n, xst_1i, xst_1r, xst_1l, xst_s, set_0, set_s, true_and, and_true, xres, xcat_nil, xcat_i, xcat_r, xcat_l, Nat.add_zero, xble0, xble1, xble2, xble3, xble4, xble5, xble6, xble7, xble8]
    exact ⟨_, v, 0, hM, hP, rfl, rfl, by omega, fun i hi => absurd hi (by omega), rfl, rfl⟩
  · rintro b w A P - μ L st B ⟨v, j, hM, hP, rfl, rfl, hj, hno, rfl, rfl⟩
    have hM0 := hM
    obtain ⟨⟨⟨m1, ⟨l5, -⟩, ⟨t5, -⟩, ⟨s5, -⟩, -⟩, ⟨w1, w2, -⟩, ⟨k0, k1, -⟩, es, -⟩, -⟩ := hM
    simp only [k_X4_find_0, k_X4_find_2, k_X4_find_31, x_aload, x_getF, x_getI, x_iadd, x_icmp_ge, x_if_ne, x_iinc, x_iload, x_iret, x_istore, x_lald, x_lcmp, x_lload, x_push, xFT, xbool0, xbool1, Nat.reduceAdd, Nat.zero_add, xgl_0, xgl_s, xgl_n, xst_0, xst_1n, xst_1i, xst_1r, xst_1l, xst_s, set_0, set_s, true_and, and_true, xres, xcat_nil, xcat_i, xcat_r, xcat_l, Nat.add_zero, xble0, xble1, xble2, xble3, xble4, xble5, xble6, xble7, xble8, m1, l5, t5, s5, k0]
    refine ⟨fun h => ?_, fun h => ?_⟩
    · simp (disch := omega) only [Int32.lt_iff_toInt_lt, Int32.le_iff_toInt_le, ← Int32.toInt_inj, nI_toInt, Int32.reduceToInt, n_m1, ne_eq, not_true_eq_false, not_false_eq_true] at h
      exact ⟨_, v, 0, hM0, hP, rfl, rfl, by omega, fun i hi => hno i (by omega), fun i hi => absurd hi (by omega), rfl, rfl⟩
    · simp (disch := omega) only [Int32.lt_iff_toInt_lt, Int32.le_iff_toInt_le, ← Int32.toInt_inj, nI_toInt, Int32.reduceToInt, n_m1, ne_eq, not_true_eq_false, not_false_eq_true] at h
      rw [n_cl (by omega), es j (by omega)]
      refine ⟨(n_in (by omega) (by omega)).mpr (by omega), fun h2 => ?_, fun h2 => ?_⟩
      · refine xB1 (b := vS v - (j + 1)) (by omega) ⟨v, j + 1, hM0, hP, rfl, rfl, by omega, fun i hi => ?_, by rw [nI_1], rfl⟩
        rcases Nat.lt_or_ge i j with h3 | h3
        · exact hno i h3
        · have : i = j := by omega
          subst this
          exact fun e => h2 (lcmp0.mpr e)
      · have e := idx_first (f := vsn v) (w := w) (show j < vS v by omega) hno (lcmp0.mp h2)
        have e2 : vfind v w = nI j := by unfold vfind; rw [e, if_pos (by omega)]
        rw [e2] at hP
        exact hP
  · rintro b w A P - μ L st B ⟨v, j, hM, hP, rfl, rfl, hj, hnos, hno, rfl, rfl⟩
    have hM0 := hM
    obtain ⟨⟨⟨m1, ⟨-, l6, -⟩, ⟨-, t6, -⟩, ⟨-, s6, -⟩, -⟩, ⟨w1, w2, -⟩, ⟨k0, k1, -⟩, -, es, -⟩, -⟩ := hM
    have en := idx_none (f := vsn v) (w := w) hnos
    simp only [k_X4_find_0, k_X4_find_2, k_X4_find_31, x_aload, x_getF, x_getI, x_iadd, x_icmp_ge, x_if_ne, x_iinc, x_iload, x_iret, x_istore, x_lald, x_lcmp, x_lload, x_push, xFT, xbool0, xbool1, Nat.reduceAdd, Nat.zero_add, xgl_0, xgl_s, xgl_n, xst_0, xst_1n, xst_1i, xst_1r, xst_1l, xst_s, set_0, set_s, true_and, and_true, xres, xcat_nil, xcat_i, xcat_r, xcat_l, Nat.add_zero, xble0, xble1, xble2, xble3, xble4, xble5, xble6, xble7, xble8, m1, l6, t6, s6, k1]
    refine ⟨fun h => ?_, fun h => ?_⟩
    · simp (disch := omega) only [Int32.lt_iff_toInt_lt, Int32.le_iff_toInt_le, ← Int32.toInt_inj, nI_toInt, Int32.reduceToInt, n_m1, ne_eq, not_true_eq_false, not_false_eq_true] at h
      have en2 := idx_none (f := vkn v) (w := w) (n := vK v) (fun i hi => hno i (by omega))
      have e2 : vfind v w = -1 := by unfold vfind; rw [en, en2, if_neg (by omega), if_neg (by omega)]
      rw [e2] at hP
      exact hP
    · simp (disch := omega) only [Int32.lt_iff_toInt_lt, Int32.le_iff_toInt_le, ← Int32.toInt_inj, nI_toInt, Int32.reduceToInt, n_m1, ne_eq, not_true_eq_false, not_false_eq_true] at h
      rw [n_cl (by omega), es j (by omega)]
      refine ⟨(n_in (by omega) (by omega)).mpr (by omega), fun h2 => ?_, fun h2 => ?_⟩
      · refine xB1 (b := vK v - (j + 1)) (by omega) ⟨v, j + 1, hM0, hP, rfl, rfl, by omega, hnos, fun i hi => ?_, by rw [nI_1], rfl⟩
        rcases Nat.lt_or_ge i j with h3 | h3
        · exact hno i h3
        · have : i = j := by omega
          subst this
          exact fun e => h2 (lcmp0.mpr e)
      · have e := idx_first (f := vkn v) (w := w) (show j < vK v by omega) hno (lcmp0.mp h2)
        have e2 : vfind v w = 8 + nI j := by unfold vfind; rw [en, e, if_neg (by omega), if_pos (by omega), show (8 : Int32) = nI 8 from rfl, nI_add]
        rw [e2] at hP
        exact hP
def f_X4_rulesOf (b : Nat) (x : Int32) (A : xH) (P : xP) : Prop := ∃ v k, isM A b v ∧ x = nI k ∧ k < vK v ∧ P (some (.int (vrb v k (vR v)))) A
theorem con_X4_rulesOf (l : Launch) : xCon l yX4_rulesOf cX4_rulesOf 4 (some .int) 0 0 xN xN 0 xFT xFT (w_RI f_X4_rulesOf) := by
  refine m_X4_rulesOf (I4 := fun b x A P μ L st B => ∃ v k r, isM A b v ∧ x = nI k ∧ k < vK v ∧ P (some (.int (vrb v k (vR v)))) A ∧ B = A ∧ st = [] ∧ r ≤ vR v ∧ L = [some (.ref b), some (.int x), some (.int (vrb v k r)), some (.int (nI r))] ∧ μ = (vR v - r, 0, 0)) ?_ ?_
  · rintro b x A P ⟨v, k, hM, hx, hk, hP⟩
    simp only [k_X4_rulesOf_0, k_X4_rulesOf_4, k_X4_rulesOf_28, x_aload, x_getF, x_getI, x_iald, x_icmp_ge, x_icmp_ne, x_iinc, x_iload, x_ior, x_iret, x_ishl, x_istore, x_push, xFT, xbool0, xbool1, Nat.reduceAdd, Nat.zero_add, xgl_0, xgl_s, xgl_n, xst_0, xst_1n, xst_1i, xst_1r, xst_1l, xst_s, set_0, set_s, true_and, and_true, xres, xcat_nil, xcat_i, xcat_r, xcat_l, Nat.add_zero, xble0, xble1, xble2, xble3, xble4, xble5, xble6, xble7, xble8]
    exact ⟨_, v, k, 0, hM, hx, hk, hP, rfl, rfl, by omega, rfl, rfl⟩
  · rintro b x A P - μ L st B ⟨v, k, r, hM, rfl, hk, hP, rfl, rfl, hr, rfl, rfl⟩
    have hM0 := hM
    obtain ⟨⟨⟨m1, ⟨-, -, l7, -⟩, ⟨-, -, t7, -⟩, ⟨-, -, s7, -⟩, -⟩, ⟨w1, w2, w3, w4, w5⟩, ⟨-, -, k2, -⟩, -, -, e6⟩, -⟩ := hM
    simp only [k_X4_rulesOf_0, k_X4_rulesOf_4, k_X4_rulesOf_28, x_aload, x_getF, x_getI, x_iald, x_icmp_ge, x_icmp_ne, x_iinc, x_iload, x_ior, x_iret, x_ishl, x_istore, x_push, xFT, xbool0, xbool1, Nat.reduceAdd, Nat.zero_add, xgl_0, xgl_s, xgl_n, xst_0, xst_1n, xst_1i, xst_1r, xst_1l, xst_s, set_0, set_s, true_and, and_true, xres, xcat_nil, xcat_i, xcat_r, xcat_l, Nat.add_zero, xble0, xble1, xble2, xble3, xble4, xble5, xble6, xble7, xble8, m1, l7, t7, s7, k2]
    refine ⟨fun h => ?_, fun h => ?_⟩
    · simp (disch := omega) only [Int32.lt_iff_toInt_lt, Int32.le_iff_toInt_le, ← Int32.toInt_inj, nI_toInt, Int32.reduceToInt, n_m1, ne_eq, not_true_eq_false, not_false_eq_true] at h
      have : r = vR v := by omega
      subst this
      exact hP
    · simp (disch := omega) only [Int32.lt_iff_toInt_lt, Int32.le_iff_toInt_le, ← Int32.toInt_inj, nI_toInt, Int32.reduceToInt, n_m1, ne_eq, not_true_eq_false, not_false_eq_true] at h
      have h5 := w5 r (by omega)
      rw [n_cl (by omega), (e6 r (by omega)).1]
      refine ⟨(n_in (by omega) (by omega)).mpr (by omega), fun h2 => ?_, fun h2 => ?_⟩
      · refine xB1 (b := vR v - (r + 1)) (by omega) ⟨v, k, r + 1, hM0, rfl, hk, hP, rfl, rfl, by omega, ?_, rfl⟩
        have : ¬ vrk v r = k := fun e => h2 (by rw [e])
        simp [vrb, this, nI_1]
      · refine xB1 (b := vR v - (r + 1)) (by omega) ⟨v, k, r + 1, hM0, rfl, hk, hP, rfl, rfl, by omega, ?_, rfl⟩
        have : vrk v r = k := (nI_eq (by omega) (by omega)).mp h2
        simp [vrb, this, nI_1]
/-- a symbol's name -/
def f_X4_nameOf (b : Nat) (x : Int32) (A : xH) (P : xP) : Prop := ∃ v c, isM A b v ∧ x = nI c ∧ ((c < vS v ∧ P (some (.long (vsn v c))) A) ∨ (8 ≤ c ∧ c < 8 + vK v ∧ P (some (.long (vkn v (c - 8)))) A))
theorem con_X4_nameOf (l : Launch) : xCon l yX4_nameOf cX4_nameOf 3 (some .long) 0 0 xN xN 0 xFT xFT (w_RI f_X4_nameOf) := by
  refine m_X4_nameOf ?_
  rintro b x A P ⟨v, c, hM, rfl, hP⟩
  obtain ⟨⟨⟨m1, ⟨l5, l6, -⟩, ⟨t5, t6, -⟩, ⟨s5, s6, -⟩, -⟩, ⟨w1, w2, -⟩, ⟨k0, k1, -⟩, es, ek, -⟩, -⟩ := hM
  have hc : c < 13 := by omega
  simp only [k_X4_nameOf_0, k_X4_nameOf_19, k_X4_nameOf_45, k_X4_nameOf_46, x_aload, x_getF, x_getI, x_icmp_ge, x_if_lt, x_iload, x_istore, x_isub, x_lald, x_lret, x_push, xFT, xbool0, xbool1, Nat.reduceAdd, Nat.zero_add, xgl_0, xgl_s, xgl_n, xst_0, xst_1n, xst_1i, xst_1r, xst_1l, xst_s, set_0, set_s, true_and, and_true, xres, xcat_nil, xcat_i, xcat_r, xcat_l, Nat.add_zero, xble0, xble1, xble2, xble3, xble4, xble5, xble6, xble7, xble8, m1, l5, l6, t5, t6, s5, s6, k0, k1, show (8 : Int32) = nI 8 from rfl]
  refine ⟨fun h => absurd h (nI_pos (by omega)), fun _ => ⟨fun h => ?_, fun h => ?_⟩⟩
  · simp (disch := omega) only [Int32.lt_iff_toInt_lt, Int32.le_iff_toInt_le, ← Int32.toInt_inj, nI_toInt, Int32.reduceToInt, n_m1, ne_eq, not_true_eq_false, not_false_eq_true] at h
    rcases hP with ⟨h1, -⟩ | ⟨h1, h2, hP⟩
    · omega
    · rw [n_sub h1]
      refine ⟨fun h => absurd h (nI_pos (by omega)), fun _ => ⟨fun h => ?_, fun h => ?_⟩⟩
      · simp (disch := omega) only [Int32.lt_iff_toInt_lt, Int32.le_iff_toInt_le, ← Int32.toInt_inj, nI_toInt, Int32.reduceToInt, n_m1, ne_eq, not_true_eq_false, not_false_eq_true] at h
        omega
      · rw [n_cl (by omega), ek (c - 8) (by omega)]
        exact ⟨(n_in (by omega) (by omega)).mpr (by omega), hP⟩
  · simp (disch := omega) only [Int32.lt_iff_toInt_lt, Int32.le_iff_toInt_le, ← Int32.toInt_inj, nI_toInt, Int32.reduceToInt, n_m1, ne_eq, not_true_eq_false, not_false_eq_true] at h
    rcases hP with ⟨h1, hP⟩ | ⟨h1, h2, hP⟩
    · rw [n_cl (by omega), es c (by omega)]
      exact ⟨(n_in (by omega) (by omega)).mpr (by omega), hP⟩
    · omega
/-- a whole row of ints set -/
def xsA (A : xH) (c : Nat) (f : Nat → Int32) : xH := (fun d j => if d = c then f j else A.1 d j, A.2.1, A.2.2)
theorem xi_sA {A : xH} {c d j : Nat} {f : Nat → Int32} : xi (xsA A c f) d j = if d = c then f j else xi A d j := rfl
theorem xl_sA {A : xH} {c d j : Nat} {f : Nat → Int32} : xl (xsA A c f) d j = xl A d j := rfl
theorem xsi_sA {A : xH} {c k : Nat} {f : Nat → Int32} {x : Int32} : xsi (xsA A c f) c k x = xsA A c (fun j => if j = k then x else f j) := by
  unfold xsi xsA
  congr 1
  funext d j
  by_cases h : d = c <;> simp [h]
theorem xsA_congr {A : xH} {c : Nat} {f h : Nat → Int32} (e : ∀ j, f j = h j) : xsA A c f = xsA A c h := by rw [show f = h from funext e]
theorem xsA_self {A : xH} {c : Nat} {f : Nat → Int32} (e : ∀ j, f j = xi A c j) : xsA A c f = A := by
  have : (fun d j => if d = c then f j else A.1 d j) = A.1 := by
    funext d j
    by_cases h : d = c
    · subst h; simp only [if_true]; exact e j
    · simp [h]
  unfold xsA
  rw [this]
theorem xoff_sA {A B : xH} {lo hi c : Nat} {f : Nat → Int32} (h : xoff A B lo hi) (h1 : lo ≤ c) (h2 : c ≤ hi) : xoff A (xsA B c f) lo hi := by
  refine ⟨fun d hd => ?_, h.2⟩
  have hne : d ≠ c := by omega
  refine ⟨?_, (h.1 d hd).2⟩
  rw [← (h.1 d hd).1]
  funext j
  simp [xsA, hne]
def vsetcl (v : xV) (cl : Nat → Nat) : xV := (v.1, vsn v, vkn v, vrk v, vrs v, vsy v, cl)
theorem vfst_setcl (v : xV) (cl : Nat → Nat) : ∀ r, vfst (vsetcl v cl) r = vfst v r
  | 0 => rfl
  | r + 1 => by simp only [vfst, vfst_setcl v cl r]; rfl
theorem isM_cl {A : xH} {b : Nat} {v : xV} {cl : Nat → Nat} {f : Nat → Int32} (h : isM A b v) (hw : wfc (vsetcl v cl)) (hf : ∀ j, j < 42 → f j = nI (cl j)) : isM (xsA A (b + 9) f) b (vsetcl v cl) := by
  have e : ∀ c j, c ≠ b + 9 → xi (xsA A (b + 9) f) c j = xi A c j := fun c j hc => by rw [xi_sA, if_neg hc]
  obtain ⟨⟨g1, g2, g3, g4, g5, g6⟩, h2, ⟨i1, i2, i3, i4⟩, h4⟩ := h
  refine ⟨⟨g1, g2, ?_, g4, g5, ?_⟩, hw, ⟨?_, ?_, ?_, ?_⟩, ?_⟩
  · simp only [e b _ (by omega)]; exact g3
  · intro r hr
    simp only [e (b + 3) _ (by omega), e (b + 4) _ (by omega), e (b + 6) _ (by omega)]; exact g6 r hr
  · rw [e _ _ (by omega), vfst_setcl]; exact i1
  · intro r hr; rw [e _ _ (by omega), vfst_setcl]; exact i2 r hr
  · simp only [e (b + 7) _ (by omega), e (b + 8) _ (by omega)]; exact i3
  · intro r hr d hd
    simp only [e (b + 7) _ (by omega), e (b + 8) _ (by omega), vfst_setcl]; exact i4 r hr d hd
  · intro j hj
    rw [xi_sA, if_pos rfl]
    exact hf j hj
/-- two items in one class -/
def vunite (v : xV) (i j : Nat) : xV := vsetcl v (fun x => if vcl v x = max (vcl v i) (vcl v j) then min (vcl v i) (vcl v j) else vcl v x)
theorem wfc_unite {v : xV} {i j : Nat} (h : wfc v) (hN : vN v ≤ 42) (hi : 2 ≤ i) (hi2 : i < vN v) (hj : 2 ≤ j) (hj2 : j < vN v) (hne : vcl v i ≠ vcl v j) : wfc (vunite v i j) := by
  have a := h i (by omega)
  have b := h j (by omega)
  intro x hx
  have c := h x hx
  have ex : ∀ y, vcl (vunite v i j) y = if vcl v y = max (vcl v i) (vcl v j) then min (vcl v i) (vcl v j) else vcl v y := fun _ => rfl
  have eN : vN (vunite v i j) = vN v := vfst_setcl v _ _
  simp only [ex, eN]
  have hm : vcl v (min (vcl v i) (vcl v j)) = min (vcl v i) (vcl v j) := by
    rcases Nat.le_total (vcl v i) (vcl v j) with q | q
    · rw [Nat.min_eq_left q]; exact a.2.1
    · rw [Nat.min_eq_right q]; exact b.2.1
  by_cases e : vcl v x = max (vcl v i) (vcl v j)
  · simp only [e, if_true]
    rw [hm, if_neg (by omega)]
    refine ⟨by omega, rfl, fun q => ?_, fun q => by omega, fun q => ?_⟩
    · have := c.2.2.1 q; omega
    · have := c.2.2.2.2 q; omega
  · simp only [e, if_false]
    rw [c.2.1, if_neg e]
    exact ⟨c.1, rfl, c.2.2.1, c.2.2.2.1, c.2.2.2.2⟩
/-- outside a stretch: also where only that stretch was -/
def f_X4_unite (b : Nat) (x y : Int32) (A : xH) (P : xP) : Prop := ∃ v, isM A b v ∧
  (∀ i j : Nat, x = nI i → y = nI j → 2 ≤ i → i < vN v → 2 ≤ j → j < vN v → (vcl v i = vcl v j → P (some (.int 1)) A) ∧ (vcl v i ≠ vcl v j → ∀ B, isM B b (vunite v i j) → xoff A B b (b + 9) → P (some (.int 0)) B)) ∧
  ((¬ ∃ i j : Nat, x = nI i ∧ y = nI j ∧ 2 ≤ i ∧ i < vN v ∧ 2 ≤ j ∧ j < vN v) → P (some (.int (-1))) A)
theorem con_X4_unite (l : Launch) : xCon l yX4_unite cX4_unite 6 (some .int) 1 21 xN xN 0 xFT xFT (w_RII f_X4_unite) := by
  refine m_X4_unite (I72 := fun b x y A P μ L st B => ∃ v i j z, isM A b v ∧ 2 ≤ i ∧ i < vN v ∧ 2 ≤ j ∧ j < vN v ∧ vcl v i ≠ vcl v j ∧ (∀ B, isM B b (vunite v i j) → xoff A B b (b + 9) → P (some (.int 0)) B) ∧ 2 ≤ z ∧ z ≤ vN v ∧ st = [] ∧
      B = xsA A (b + 9) (fun q => if 2 ≤ q ∧ q < z ∧ vcl v q = max (vcl v i) (vcl v j) then nI (min (vcl v i) (vcl v j)) else xi A (b + 9) q) ∧
      L = [some (.ref b), some (.int x), some (.int y), some (.int (nI (min (vcl v i) (vcl v j)))), some (.int (nI (max (vcl v i) (vcl v j)))), some (.int (nI z))] ∧ μ = (vN v - z, 0, 0)) ?_ ?_
  · rintro b x y A P ⟨v, hM, hP, hP2⟩
    have hM0 := hM
    have hN := isM_N hM
    obtain ⟨⟨⟨m1, ⟨-, -, -, -, -, -, -, -, ml⟩, ⟨-, -, -, -, -, -, -, -, mt⟩, ⟨-, -, -, -, -, -, -, -, ms⟩, -⟩, -⟩, hc, ⟨e3, -⟩, hg⟩ := hM
    change xi A b 3 = nI (vN v) at e3
    simp only [k_X4_unite_0, k_X4_unite_72, k_X4_unite_26, k_X4_unite_101, w_II, x_aload, x_cs2, x_getF, x_getI, x_iald, x_iast, x_icmp_ge, x_icmp_lt, x_icmp_ne, x_iinc, x_iload, x_iret, x_istore, x_push, xFT, xbool0, xbool1, Nat.reduceAdd, Nat.zero_add, xgl_0, xgl_s, xgl_n, xst_0, xst_1n, xst_1i, xst_1r, xst_1l, xst_s, set_0, set_s, true_and, and_true, xres, xcat_nil, xcat_i, xcat_r, xcat_l, Nat.add_zero, xble0, xble1, xble2, xble3, xble4, xble5, xble6, xble7, xble8, f_min, f_max, m1, ml, mt, ms, e3, show (2 : Int32) = nI 2 from rfl]
    refine ⟨fun h => hP2 ?_, fun h1 => ⟨fun h => hP2 ?_, fun h2 => ⟨fun h => hP2 ?_, fun h3 => ⟨fun h4 => ?_, fun h => hP2 ?_⟩⟩⟩⟩
    · rintro ⟨i, j, rfl, rfl, a1, a2, a3, a4⟩
      simp (disch := omega) only [Int32.lt_iff_toInt_lt, Int32.le_iff_toInt_le, ← Int32.toInt_inj, nI_toInt, Int32.reduceToInt, n_m1, ne_eq, not_true_eq_false, not_false_eq_true] at h
      omega
    · rintro ⟨i, j, rfl, rfl, a1, a2, a3, a4⟩
      simp (disch := omega) only [Int32.lt_iff_toInt_lt, Int32.le_iff_toInt_le, ← Int32.toInt_inj, nI_toInt, Int32.reduceToInt, n_m1, ne_eq, not_true_eq_false, not_false_eq_true] at h
      omega
    · rintro ⟨i, j, rfl, rfl, a1, a2, a3, a4⟩
      simp (disch := omega) only [Int32.lt_iff_toInt_lt, Int32.le_iff_toInt_le, ← Int32.toInt_inj, nI_toInt, Int32.reduceToInt, n_m1, ne_eq, not_true_eq_false, not_false_eq_true] at h
      omega
    · rcases n_case x with h | ⟨i, hi, rfl⟩
      · exact absurd (show x < nI 2 by simp (disch := omega) only [Int32.lt_iff_toInt_lt, Int32.le_iff_toInt_le, ← Int32.toInt_inj, nI_toInt, Int32.reduceToInt, n_m1, ne_eq, not_true_eq_false, not_false_eq_true] at h ⊢; omega) h1
      rcases n_case y with h | ⟨j, hj, rfl⟩
      · exact absurd (show y < nI 2 by simp (disch := omega) only [Int32.lt_iff_toInt_lt, Int32.le_iff_toInt_le, ← Int32.toInt_inj, nI_toInt, Int32.reduceToInt, n_m1, ne_eq, not_true_eq_false, not_false_eq_true] at h ⊢; omega) h2
      simp (disch := omega) only [Int32.lt_iff_toInt_lt, Int32.le_iff_toInt_le, ← Int32.toInt_inj, nI_toInt, Int32.reduceToInt, n_m1, ne_eq, not_true_eq_false, not_false_eq_true] at h1 h2 h3 h4
      rw [n_cl (by omega), n_cl (by omega), hg i (by omega), hg j (by omega)]
      have ci := (hc i (by omega)).1
      have cj := (hc j (by omega)).1
      have hini := (n_in (j := i) (n := 42) (by omega) (by omega)).mpr (by omega)
      have hinj := (n_in (j := j) (n := 42) (by omega) (by omega)).mpr (by omega)
      have emin : (if nI (vcl v i) ≤ nI (vcl v j) then nI (vcl v i) else nI (vcl v j)) = nI (min (vcl v i) (vcl v j)) := by
        rcases Nat.le_total (vcl v i) (vcl v j) with q | q
        · rw [if_pos (nI_le q (by omega)), Nat.min_eq_left q]
        · rcases Nat.lt_or_ge (vcl v j) (vcl v i) with q2 | q2
          · rw [if_neg (nI_ge q2 (by omega)), Nat.min_eq_right q]
          · have : vcl v i = vcl v j := by omega
            rw [this, Nat.min_self]; split <;> rfl
      have emax : (if nI (vcl v i) < nI (vcl v j) then nI (vcl v j) else nI (vcl v i)) = nI (max (vcl v i) (vcl v j)) := by
        rcases Nat.lt_or_ge (vcl v i) (vcl v j) with q | q
        · rw [if_pos (nI_lt q (by omega)), Nat.max_eq_right (by omega)]
        · rw [if_neg (nI_nlt q (by omega)), Nat.max_eq_left q]
      rw [emin, emax]
      refine ⟨hini, hinj, hini, hinj, fun h => ?_, fun h => ?_⟩
      · refine xE0 (vN v - 2, 0, 0) ⟨v, i, j, 2, hM0, by omega, by omega, by omega, by omega, ?_, (hP i j rfl rfl (by omega) (by omega) (by omega) (by omega)).2 ?_, by omega, by omega, rfl, ?_, rfl, rfl⟩
        · intro e; exact h (by rw [e, Nat.min_self, Nat.max_self])
        · intro e; exact h (by rw [e, Nat.min_self, Nat.max_self])
        · exact (xsA_self (fun q => by rw [if_neg (by omega)])).symm
      · have := (nI_eq (by omega) (by omega)).mp h
        exact (hP i j rfl rfl (by omega) (by omega) (by omega) (by omega)).1 (by omega)
    · rintro ⟨i, j, rfl, rfl, a1, a2, a3, a4⟩
      simp (disch := omega) only [Int32.lt_iff_toInt_lt, Int32.le_iff_toInt_le, ← Int32.toInt_inj, nI_toInt, Int32.reduceToInt, n_m1, ne_eq, not_true_eq_false, not_false_eq_true] at h
      omega
  · rintro b x y A P - μ L st B ⟨v, i, j, z, hM, i1, i2, j1, j2, hne, hP, z1, z2, rfl, rfl, rfl, rfl⟩
    have hM0 := hM
    have hN := isM_N hM
    obtain ⟨⟨⟨m1, ⟨-, -, -, -, -, -, -, -, ml⟩, ⟨-, -, -, -, -, -, -, -, mt⟩, ⟨-, -, -, -, -, -, -, -, ms⟩, -⟩, -⟩, hc, ⟨e3, -⟩, hg⟩ := hM
    change xi A b 3 = nI (vN v) at e3
    have ci := (hc i (by omega)).1
    have cj := (hc j (by omega)).1
    simp only [k_X4_unite_0, k_X4_unite_72, k_X4_unite_26, k_X4_unite_101, w_II, x_aload, x_cs2, x_getF, x_getI, x_iald, x_iast, x_icmp_ge, x_icmp_lt, x_icmp_ne, x_iinc, x_iload, x_iret, x_istore, x_push, xFT, xbool0, xbool1, Nat.reduceAdd, Nat.zero_add, xgl_0, xgl_s, xgl_n, xst_0, xst_1n, xst_1i, xst_1r, xst_1l, xst_s, set_0, set_s, true_and, and_true, xres, xcat_nil, xcat_i, xcat_r, xcat_l, Nat.add_zero, xble0, xble1, xble2, xble3, xble4, xble5, xble6, xble7, xble8, m1, ml, mt, ms, xi_sA, xsi_sA, show ¬ b = b + 9 by omega, if_false, if_true, e3]
    refine ⟨fun h => ?_, fun h => ?_⟩
    · simp (disch := omega) only [Int32.lt_iff_toInt_lt, Int32.le_iff_toInt_le, ← Int32.toInt_inj, nI_toInt, Int32.reduceToInt, n_m1, ne_eq, not_true_eq_false, not_false_eq_true] at h
      have : z = vN v := by omega
      subst this
      refine hP _ (isM_cl hM0 (wfc_unite hc hN i1 i2 j1 j2 hne) (fun q hq => ?_)) (xoff_sA xoff_rf (by omega) (by omega))
      have cq := hc q hq
      have ci2 := (hc i (by omega)).2.2.2.1 i1
      have cj2 := (hc j (by omega)).2.2.2.1 j1
      by_cases e : vcl v q = max (vcl v i) (vcl v j)
      · rw [if_pos e, if_pos ⟨by rcases Nat.lt_or_ge q 2 with q2 | q2; · have := cq.2.2.1 q2; omega
                                 · exact q2, by rcases Nat.lt_or_ge q (vN v) with q2 | q2; · exact q2
                                                · have := cq.2.2.2.2 q2; omega, e⟩]
      · rw [if_neg e, if_neg (fun q => e q.2.2)]
        exact hg q hq
    · simp (disch := omega) only [Int32.lt_iff_toInt_lt, Int32.le_iff_toInt_le, ← Int32.toInt_inj, nI_toInt, Int32.reduceToInt, n_m1, ne_eq, not_true_eq_false, not_false_eq_true] at h
      rw [n_cl (by omega), if_neg (by omega), hg z (by omega)]
      have cz := (hc z (by omega)).1
      have hin := (n_in (j := z) (n := 42) (by omega) (by omega)).mpr (by omega)
      refine ⟨hin, fun h => ?_, fun h => ⟨hin, ?_⟩⟩
      · refine xB1 (b := vN v - (z + 1)) (by omega) ⟨v, i, j, z + 1, hM0, i1, i2, j1, j2, hne, hP, by omega, by omega, rfl, ?_, by rw [nI_1], rfl⟩
        refine xsA_congr fun q => ?_
        have : ¬ vcl v z = max (vcl v i) (vcl v j) := fun e => h (by rw [e])
        by_cases hq : q = z
        · subst hq
          rw [if_neg (by omega), if_neg (by omega)]
        · have : (2 ≤ q ∧ q < z ∧ vcl v q = max (vcl v i) (vcl v j)) ↔ (2 ≤ q ∧ q < z + 1 ∧ vcl v q = max (vcl v i) (vcl v j)) := by omega
          simp only [this]
      · have e : vcl v z = max (vcl v i) (vcl v j) := (nI_eq (by omega) (by omega)).mp h
        refine xB1 (b := vN v - (z + 1)) (by omega) ⟨v, i, j, z + 1, hM0, i1, i2, j1, j2, hne, hP, by omega, by omega, rfl, ?_, by rw [nI_1], rfl⟩
        refine xsA_congr fun q => ?_
        by_cases hq : q = z
        · subst hq
          rw [if_pos rfl, if_pos ⟨z1, by omega, e⟩]
        · rw [if_neg hq]
          have : (2 ≤ q ∧ q < z ∧ vcl v q = max (vcl v i) (vcl v j)) ↔ (2 ≤ q ∧ q < z + 1 ∧ vcl v q = max (vcl v i) (vcl v j)) := by omega
          simp only [this]

