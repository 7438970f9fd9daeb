/-! ===== the class's counts of steps ===== -/
theorem d_X7_sortCode_0 : decode cX7_sortCode 0 = .ok (.iload_n 0, 1) := by decide +kernel
theorem d_X7_sortCode_1 : decode cX7_sortCode 1 = .ok (.iconst 4, 1) := by decide +kernel
theorem d_X7_sortCode_2 : decode cX7_sortCode 2 = .ok (.if_icmp .ge 5, 3) := by decide +kernel
theorem d_X7_sortCode_5 : decode cX7_sortCode 5 = .ok (.iload_n 0, 1) := by decide +kernel
theorem d_X7_sortCode_6 : decode cX7_sortCode 6 = .ok (.ireturn, 1) := by decide +kernel
theorem d_X7_sortCode_7 : decode cX7_sortCode 7 = .ok (.iload_n 0, 1) := by decide +kernel
theorem d_X7_sortCode_8 : decode cX7_sortCode 8 = .ok (.bipush 14, 2) := by decide +kernel
theorem d_X7_sortCode_10 : decode cX7_sortCode 10 = .ok (.if_icmp .ge 12, 3) := by decide +kernel
theorem d_X7_sortCode_13 : decode cX7_sortCode 13 = .ok (.bipush 16, 2) := by decide +kernel
theorem d_X7_sortCode_15 : decode cX7_sortCode 15 = .ok (.iload_n 0, 1) := by decide +kernel
theorem d_X7_sortCode_16 : decode cX7_sortCode 16 = .ok (.iadd, 1) := by decide +kernel
theorem d_X7_sortCode_17 : decode cX7_sortCode 17 = .ok (.iconst 4, 1) := by decide +kernel
theorem d_X7_sortCode_18 : decode cX7_sortCode 18 = .ok (.isub, 1) := by decide +kernel
theorem d_X7_sortCode_19 : decode cX7_sortCode 19 = .ok (.goto 10, 3) := by decide +kernel
theorem d_X7_sortCode_22 : decode cX7_sortCode 22 = .ok (.bipush 32, 2) := by decide +kernel
theorem d_X7_sortCode_24 : decode cX7_sortCode 24 = .ok (.iload_n 0, 1) := by decide +kernel
theorem d_X7_sortCode_25 : decode cX7_sortCode 25 = .ok (.iadd, 1) := by decide +kernel
theorem d_X7_sortCode_26 : decode cX7_sortCode 26 = .ok (.bipush 14, 2) := by decide +kernel
theorem d_X7_sortCode_28 : decode cX7_sortCode 28 = .ok (.isub, 1) := by decide +kernel
theorem d_X7_sortCode_29 : decode cX7_sortCode 29 = .ok (.ireturn, 1) := by decide +kernel
def k_X7_sortCode_29 (P : xP) : xK := x_iret P
set_option maxRecDepth 20000 in
theorem t_X7_sortCode_29 {p : Program} {l : Launch} {e : Env} {s : State} {m : MethodId} {args : Array Value} {below : List Frame} {meth : Method} {c : Code} {g : xG} (X : xX p s m args c meth cX7_sortCode RX7 1 g) (hr : meth.sig.returnType = (some .int)) {P : xP} : xAt p l e { frames := 0, cells := 0, slots := 0, locals := 0 } s m args below meth c g 1 xFT xN 0 0 (MQ below (xQc g xFT xN P) args s 0 0 (xFr g)) (k_X7_sortCode_29 P) 29 := by
  unfold k_X7_sortCode_29
  exact r_iret (pc := 29) X hr d_X7_sortCode_29
def k_X7_sortCode_0 (P : xP) : xK := x_iload 0 (x_push (.int 4) (x_icmp_ge (x_iload 0 (x_push (.int 14) (x_icmp_ge (x_push (.int 32) (x_iload 0 (x_iadd (x_push (.int 14) (x_isub ((k_X7_sortCode_29 P))))))) (x_push (.int 16) (x_iload 0 (x_iadd (x_push (.int 4) (x_isub ((k_X7_sortCode_29 P)))))))))) (x_iload 0 (x_iret P))))
set_option maxRecDepth 20000 in
theorem t_X7_sortCode_0 {p : Program} {l : Launch} {e : Env} {s : State} {m : MethodId} {args : Array Value} {below : List Frame} {meth : Method} {c : Code} {g : xG} (X : xX p s m args c meth cX7_sortCode RX7 1 g) (hr : meth.sig.returnType = (some .int)) {P : xP} : xAt p l e { frames := 0, cells := 0, slots := 0, locals := 0 } s m args below meth c g 1 xFT xN 0 0 (MQ below (xQc g xFT xN P) args s 0 0 (xFr g)) (k_X7_sortCode_0 P) 0 := by
  unfold k_X7_sortCode_0
  refine r_iload_n (pc := 0) X d_X7_sortCode_0 fn0 ?_
  refine r_iconst (pc := 1) X d_X7_sortCode_1 (by decide +kernel) ?_
  refine r_icmp_ge (pc := 2) (tgt := 7) X d_X7_sortCode_2 (by decide +kernel) ?_ ?_
  · refine r_iload_n (pc := 7) X d_X7_sortCode_7 fn0 ?_
    refine r_bipush (pc := 8) X d_X7_sortCode_8 (by decide +kernel) ?_
    refine r_icmp_ge (pc := 10) (tgt := 22) X d_X7_sortCode_10 (by decide +kernel) ?_ ?_
    · refine r_bipush (pc := 22) X d_X7_sortCode_22 (by decide +kernel) ?_
      refine r_iload_n (pc := 24) X d_X7_sortCode_24 fn0 ?_
      refine r_iadd (pc := 25) X d_X7_sortCode_25 ?_
      refine r_bipush (pc := 26) X d_X7_sortCode_26 (by decide +kernel) ?_
      refine r_isub (pc := 28) X d_X7_sortCode_28 ?_
      exact t_X7_sortCode_29 X hr
    · refine r_bipush (pc := 13) X d_X7_sortCode_13 (by decide +kernel) ?_
      refine r_iload_n (pc := 15) X d_X7_sortCode_15 fn0 ?_
      refine r_iadd (pc := 16) X d_X7_sortCode_16 ?_
      refine r_iconst (pc := 17) X d_X7_sortCode_17 (by decide +kernel) ?_
      refine r_isub (pc := 18) X d_X7_sortCode_18 ?_
      refine r_goto (pc := 19) (tgt := 29) X d_X7_sortCode_19 (by decide +kernel) ?_
      exact t_X7_sortCode_29 X hr
  · refine r_iload_n (pc := 5) X d_X7_sortCode_5 fn0 ?_
    exact r_iret (pc := 6) X hr d_X7_sortCode_6
def f_X7_sortCode (a0 : Int32) (A : xH) (P : xP) : Prop := k_X7_sortCode_0 P [some (.int a0)] [] A
set_option maxRecDepth 20000 in
theorem con_X7_sortCode (l : Launch) : xCon l yX7_sortCode cX7_sortCode 1 (some .int) 0 0 xN xN 0 xFT xFT (w_I f_X7_sortCode) :=
  xc_I (plainFor_of_name pn_RX7) (by decide +kernel) (fun p e s m args below meth c g a0 A P h X hr _ => ⟨_, h, t_X7_sortCode_0 X hr⟩)
theorem d_X7_stepCount_0 : decode cX7_stepCount 0 = .ok (.iconst 0, 1) := by decide +kernel
theorem d_X7_stepCount_1 : decode cX7_stepCount 1 = .ok (.istore_n 2, 1) := by decide +kernel
theorem d_X7_stepCount_2 : decode cX7_stepCount 2 = .ok (.iload_n 1, 1) := by decide +kernel
theorem d_X7_stepCount_3 : decode cX7_stepCount 3 = .ok (.bipush 24, 2) := by decide +kernel
theorem d_X7_stepCount_5 : decode cX7_stepCount 5 = .ok (.imul, 1) := by decide +kernel
theorem d_X7_stepCount_6 : decode cX7_stepCount 6 = .ok (.iconst 2, 1) := by decide +kernel
theorem d_X7_stepCount_7 : decode cX7_stepCount 7 = .ok (.imul, 1) := by decide +kernel
theorem d_X7_stepCount_8 : decode cX7_stepCount 8 = .ok (.istore_n 3, 1) := by decide +kernel
theorem d_X7_stepCount_9 : decode cX7_stepCount 9 = .ok (.iload_n 3, 1) := by decide +kernel
theorem d_X7_stepCount_10 : decode cX7_stepCount 10 = .ok (.iload_n 1, 1) := by decide +kernel
theorem d_X7_stepCount_11 : decode cX7_stepCount 11 = .ok (.iconst 1, 1) := by decide +kernel
theorem d_X7_stepCount_12 : decode cX7_stepCount 12 = .ok (.iadd, 1) := by decide +kernel
theorem d_X7_stepCount_13 : decode cX7_stepCount 13 = .ok (.bipush 24, 2) := by decide +kernel
theorem d_X7_stepCount_15 : decode cX7_stepCount 15 = .ok (.imul, 1) := by decide +kernel
theorem d_X7_stepCount_16 : decode cX7_stepCount 16 = .ok (.iconst 2, 1) := by decide +kernel
theorem d_X7_stepCount_17 : decode cX7_stepCount 17 = .ok (.imul, 1) := by decide +kernel
theorem d_X7_stepCount_18 : decode cX7_stepCount 18 = .ok (.if_icmp .ge 21, 3) := by decide +kernel
theorem d_X7_stepCount_21 : decode cX7_stepCount 21 = .ok (.iload_n 2, 1) := by decide +kernel
theorem d_X7_stepCount_22 : decode cX7_stepCount 22 = .ok (.aload_n 0, 1) := by decide +kernel
theorem d_X7_stepCount_23 : decode cX7_stepCount 23 = .ok (.getfield 18, 3) := by decide +kernel
theorem d_X7_stepCount_26 : decode cX7_stepCount 26 = .ok (.iload_n 3, 1) := by decide +kernel
theorem d_X7_stepCount_27 : decode cX7_stepCount 27 = .ok (.laload, 1) := by decide +kernel
theorem d_X7_stepCount_28 : decode cX7_stepCount 28 = .ok (.invokestatic 140, 3) := by decide +kernel
theorem d_X7_stepCount_31 : decode cX7_stepCount 31 = .ok (.iadd, 1) := by decide +kernel
theorem d_X7_stepCount_32 : decode cX7_stepCount 32 = .ok (.istore_n 2, 1) := by decide +kernel
theorem d_X7_stepCount_33 : decode cX7_stepCount 33 = .ok (.iinc 3 1, 3) := by decide +kernel
theorem d_X7_stepCount_36 : decode cX7_stepCount 36 = .ok (.goto (-27), 3) := by decide +kernel
theorem d_X7_stepCount_39 : decode cX7_stepCount 39 = .ok (.iload_n 2, 1) := by decide +kernel
theorem d_X7_stepCount_40 : decode cX7_stepCount 40 = .ok (.ireturn, 1) := by decide +kernel
def k_X7_stepCount_0 (P : xP) (C9 : xK) : xK := x_push (.int 0) (x_istore 2 (x_iload 1 (x_push (.int 24) (x_imul (x_push (.int 2) (x_imul (x_istore 3 (C9))))))))
set_option maxRecDepth 20000 in
theorem t_X7_stepCount_0 {p : Program} {l : Launch} {e : Env} {s : State} {m : MethodId} {args : Array Value} {below : List Frame} {meth : Method} {c : Code} {g : xG} (X : xX p s m args c meth cX7_stepCount RX7 4 g) (hr : meth.sig.returnType = (some .int)) {P : xP} {C9 : xK} (h9 : xAt p l e { frames := 1, cells := 0, slots := 0, locals := 21 } s m args below meth c g 4 xFT xN 0 0 (MQ below (xQc g xFT xN P) args s 0 0 (xFr g)) C9 9) : xAt p l e { frames := 1, cells := 0, slots := 0, locals := 21 } s m args below meth c g 4 xFT xN 0 0 (MQ below (xQc g xFT xN P) args s 0 0 (xFr g)) (k_X7_stepCount_0 P C9) 0 := by
  unfold k_X7_stepCount_0
  refine r_iconst (pc := 0) X d_X7_stepCount_0 (by decide +kernel) ?_
  refine r_istore_n (pc := 1) X d_X7_stepCount_1 fn2 (by decide +kernel) ?_
  refine r_iload_n (pc := 2) X d_X7_stepCount_2 fn1 ?_
  refine r_bipush (pc := 3) X d_X7_stepCount_3 (by decide +kernel) ?_
  refine r_imul (pc := 5) X d_X7_stepCount_5 ?_
  refine r_iconst (pc := 6) X d_X7_stepCount_6 (by decide +kernel) ?_
  refine r_imul (pc := 7) X d_X7_stepCount_7 ?_
  refine r_istore_n (pc := 8) X d_X7_stepCount_8 fn3 (by decide +kernel) ?_
  exact h9
def k_X7_stepCount_9 (P : xP) (C9 : xK) : xK := x_iload 3 (x_iload 1 (x_push (.int 1) (x_iadd (x_push (.int 24) (x_imul (x_push (.int 2) (x_imul (x_icmp_ge (x_iload 2 (x_iret P)) (x_iload 2 (x_aload 0 (y_getF 39 42 (x_iload 3 (y_lald 42 3840 (x_cs1 (w_J f_J13_bitCount_95d88) (x_iadd (x_istore 2 (x_iinc 3 1 (C9))))))))))))))))))
set_option maxRecDepth 20000 in
theorem t_X7_stepCount_9 {p : Program} {l : Launch} {e : Env} {s : State} {m : MethodId} {args : Array Value} {below : List Frame} {meth : Method} {c : Code} {g : xG} (X : xX p s m args c meth cX7_stepCount RX7 4 g) (hr : meth.sig.returnType = (some .int)) {P : xP} {C9 : xK} (h9 : xAt p l e { frames := 1, cells := 0, slots := 0, locals := 21 } s m args below meth c g 4 xFT xN 0 0 (MQ below (xQc g xFT xN P) args s 0 0 (xFr g)) C9 9) : xAt p l e { frames := 1, cells := 0, slots := 0, locals := 21 } s m args below meth c g 4 xFT xN 0 0 (MQ below (xQc g xFT xN P) args s 0 0 (xFr g)) (k_X7_stepCount_9 P C9) 9 := by
  unfold k_X7_stepCount_9
  refine r_iload_n (pc := 9) X d_X7_stepCount_9 fn3 ?_
  refine r_iload_n (pc := 10) X d_X7_stepCount_10 fn1 ?_
  refine r_iconst (pc := 11) X d_X7_stepCount_11 (by decide +kernel) ?_
  refine r_iadd (pc := 12) X d_X7_stepCount_12 ?_
  refine r_bipush (pc := 13) X d_X7_stepCount_13 (by decide +kernel) ?_
  refine r_imul (pc := 15) X d_X7_stepCount_15 ?_
  refine r_iconst (pc := 16) X d_X7_stepCount_16 (by decide +kernel) ?_
  refine r_imul (pc := 17) X d_X7_stepCount_17 ?_
  refine r_icmp_ge (pc := 18) (tgt := 39) X d_X7_stepCount_18 (by decide +kernel) ?_ ?_
  · refine r_iload_n (pc := 39) X d_X7_stepCount_39 fn2 ?_
    exact r_iret (pc := 40) X hr d_X7_stepCount_40
  · refine r_iload_n (pc := 21) X d_X7_stepCount_21 fn2 ?_
    refine r_aload_n (pc := 22) X d_X7_stepCount_22 fn0 ?_
    refine s_getF (pc := 23) (ci := 7) (k := 5) X xok7 (by decide +kernel) ob_39 trivial ly_39_5 (by decide +kernel) fl_RX7_18 d_X7_stepCount_23 ?_
    refine r_iload_n (pc := 26) X d_X7_stepCount_26 fn3 ?_
    refine s_lald (pc := 27) X tn_42 ln_42 d_X7_stepCount_27 ?_
    refine r_cs1 (pc := 28) X (con_J13_bitCount_95d88 l) sf_J13_bitCount_95d88 ml_RX7_140 (by decide +kernel) (by decide +kernel) d_X7_stepCount_28 ?_
    refine r_iadd (pc := 31) X d_X7_stepCount_31 ?_
    refine r_istore_n (pc := 32) X d_X7_stepCount_32 fn2 (by decide +kernel) ?_
    refine r_iinc (pc := 33) X d_X7_stepCount_33 (by decide +kernel) (by decide +kernel) ?_
    refine r_goto (pc := 36) (tgt := 9) X d_X7_stepCount_36 (by decide +kernel) ?_
    exact h9
set_option maxRecDepth 20000 in
theorem m_X7_stepCount {l : Launch} {f : Nat → Int32 → xH → xP → Prop}  {I9 : Nat → Int32 → xH → xP → xM → xK}
    (v0 : ∀ (a0 : Nat) (a1 : Int32) (A : xH) (P : xP), f a0 a1 A P → k_X7_stepCount_0 P (xE (I9 a0 a1 A P)) [some (.ref a0), some (.int a1), none, none] [] A)
    (v9 : ∀ (a0 : Nat) (a1 : Int32) (A : xH) (P : xP), f a0 a1 A P → ∀ (μ : xM) (L : xL) (st : List Value) (B : xH), I9 a0 a1 A P μ L st B → k_X7_stepCount_9 P (xB (I9 a0 a1 A P) μ) L st B) : xCon l yX7_stepCount cX7_stepCount 4 (some .int) 1 21 xN xN 0 xFT xFT (w_RI f) := by
  refine xc_RI (plainFor_of_name pn_RX7) (by decide +kernel) (fun p e s m args below meth c g a0 a1 A P h X hr _ => ?_)
  have h9 := x_loop1 (p := p) (l := l) (e := e) (R := { frames := 1, cells := 0, slots := 0, locals := 21 }) (s := s) (m := m) (args := args) (below := below) (meth := meth) (c := c) (g := g) (nL := 4) (F := xFT) (n := xN) (cells := 0) (slots := 0) (Q := MQ below (xQc g xFT xN P) args s 0 0 (xFr g)) (I := I9 a0 a1 A P) (pc1 := 9) (fun μ i9 => xAt_mono (t_X7_stepCount_9 (P := P) X hr i9) (v9 a0 a1 A P h μ))
  exact ⟨_, v0 a0 a1 A P h, t_X7_stepCount_0 X hr h9⟩
theorem d_X7_comersTo_0 : decode cX7_comersTo 0 = .ok (.lconst 0, 1) := by decide +kernel
theorem d_X7_comersTo_1 : decode cX7_comersTo 1 = .ok (.lstore_n 2, 1) := by decide +kernel
theorem d_X7_comersTo_2 : decode cX7_comersTo 2 = .ok (.lconst 0, 1) := by decide +kernel
theorem d_X7_comersTo_3 : decode cX7_comersTo 3 = .ok (.lstore 4, 2) := by decide +kernel
theorem d_X7_comersTo_5 : decode cX7_comersTo 5 = .ok (.iload_n 1, 1) := by decide +kernel
theorem d_X7_comersTo_6 : decode cX7_comersTo 6 = .ok (.bipush 10, 2) := by decide +kernel
theorem d_X7_comersTo_8 : decode cX7_comersTo 8 = .ok (.imul, 1) := by decide +kernel
theorem d_X7_comersTo_9 : decode cX7_comersTo 9 = .ok (.istore 6, 2) := by decide +kernel
theorem d_X7_comersTo_11 : decode cX7_comersTo 11 = .ok (.iload 6, 2) := by decide +kernel
theorem d_X7_comersTo_13 : decode cX7_comersTo 13 = .ok (.iload_n 1, 1) := by decide +kernel
theorem d_X7_comersTo_14 : decode cX7_comersTo 14 = .ok (.bipush 10, 2) := by decide +kernel
theorem d_X7_comersTo_16 : decode cX7_comersTo 16 = .ok (.imul, 1) := by decide +kernel
theorem d_X7_comersTo_17 : decode cX7_comersTo 17 = .ok (.bipush 10, 2) := by decide +kernel
theorem d_X7_comersTo_19 : decode cX7_comersTo 19 = .ok (.iadd, 1) := by decide +kernel
theorem d_X7_comersTo_20 : decode cX7_comersTo 20 = .ok (.if_icmp .ge 33, 3) := by decide +kernel
theorem d_X7_comersTo_23 : decode cX7_comersTo 23 = .ok (.lload_n 2, 1) := by decide +kernel
theorem d_X7_comersTo_24 : decode cX7_comersTo 24 = .ok (.aload_n 0, 1) := by decide +kernel
theorem d_X7_comersTo_25 : decode cX7_comersTo 25 = .ok (.getfield 22, 3) := by decide +kernel
theorem d_X7_comersTo_28 : decode cX7_comersTo 28 = .ok (.iload 6, 2) := by decide +kernel
theorem d_X7_comersTo_30 : decode cX7_comersTo 30 = .ok (.laload, 1) := by decide +kernel
theorem d_X7_comersTo_31 : decode cX7_comersTo 31 = .ok (.lor, 1) := by decide +kernel
theorem d_X7_comersTo_32 : decode cX7_comersTo 32 = .ok (.lstore_n 2, 1) := by decide +kernel
theorem d_X7_comersTo_33 : decode cX7_comersTo 33 = .ok (.lload 4, 2) := by decide +kernel
theorem d_X7_comersTo_35 : decode cX7_comersTo 35 = .ok (.aload_n 0, 1) := by decide +kernel
theorem d_X7_comersTo_36 : decode cX7_comersTo 36 = .ok (.getfield 22, 3) := by decide +kernel
theorem d_X7_comersTo_39 : decode cX7_comersTo 39 = .ok (.iload 6, 2) := by decide +kernel
theorem d_X7_comersTo_41 : decode cX7_comersTo 41 = .ok (.iconst 1, 1) := by decide +kernel
theorem d_X7_comersTo_42 : decode cX7_comersTo 42 = .ok (.iadd, 1) := by decide +kernel
theorem d_X7_comersTo_43 : decode cX7_comersTo 43 = .ok (.laload, 1) := by decide +kernel
theorem d_X7_comersTo_44 : decode cX7_comersTo 44 = .ok (.lor, 1) := by decide +kernel
theorem d_X7_comersTo_45 : decode cX7_comersTo 45 = .ok (.lstore 4, 2) := by decide +kernel
theorem d_X7_comersTo_47 : decode cX7_comersTo 47 = .ok (.iinc 6 2, 3) := by decide +kernel
theorem d_X7_comersTo_50 : decode cX7_comersTo 50 = .ok (.goto (-39), 3) := by decide +kernel
theorem d_X7_comersTo_53 : decode cX7_comersTo 53 = .ok (.lload_n 2, 1) := by decide +kernel
theorem d_X7_comersTo_54 : decode cX7_comersTo 54 = .ok (.invokestatic 140, 3) := by decide +kernel
theorem d_X7_comersTo_57 : decode cX7_comersTo 57 = .ok (.lload 4, 2) := by decide +kernel
theorem d_X7_comersTo_59 : decode cX7_comersTo 59 = .ok (.invokestatic 140, 3) := by decide +kernel
theorem d_X7_comersTo_62 : decode cX7_comersTo 62 = .ok (.iadd, 1) := by decide +kernel
theorem d_X7_comersTo_63 : decode cX7_comersTo 63 = .ok (.ireturn, 1) := by decide +kernel
def k_X7_comersTo_0 (P : xP) (C11 : xK) : xK := x_push (.long 0) (x_lstore 2 (x_push (.long 0) (x_lstore 4 (x_iload 1 (x_push (.int 10) (x_imul (x_istore 6 (C11))))))))
set_option maxRecDepth 20000 in
theorem t_X7_comersTo_0 {p : Program} {l : Launch} {e : Env} {s : State} {m : MethodId} {args : Array Value} {below : List Frame} {meth : Method} {c : Code} {g : xG} (X : xX p s m args c meth cX7_comersTo RX7 7 g) (hr : meth.sig.returnType = (some .int)) {P : xP} {C11 : xK} (h11 : xAt p l e { frames := 1, cells := 0, slots := 0, locals := 21 } s m args below meth c g 7 xFT xN 0 0 (MQ below (xQc g xFT xN P) args s 0 0 (xFr g)) C11 11) : xAt p l e { frames := 1, cells := 0, slots := 0, locals := 21 } s m args below meth c g 7 xFT xN 0 0 (MQ below (xQc g xFT xN P) args s 0 0 (xFr g)) (k_X7_comersTo_0 P C11) 0 := by
  unfold k_X7_comersTo_0
  refine r_lconst (pc := 0) X d_X7_comersTo_0 (by decide +kernel) ?_
  refine r_lstore_n (pc := 1) X d_X7_comersTo_1 fn2 (by decide +kernel) ?_
  refine r_lconst (pc := 2) X d_X7_comersTo_2 (by decide +kernel) ?_
  refine r_lstore (pc := 3) X d_X7_comersTo_3 (by decide +kernel) ?_
  refine r_iload_n (pc := 5) X d_X7_comersTo_5 fn1 ?_
  refine r_bipush (pc := 6) X d_X7_comersTo_6 (by decide +kernel) ?_
  refine r_imul (pc := 8) X d_X7_comersTo_8 ?_
  refine r_istore (pc := 9) X d_X7_comersTo_9 (by decide +kernel) ?_
  exact h11
def k_X7_comersTo_11 (P : xP) (C11 : xK) : xK := x_iload 6 (x_iload 1 (x_push (.int 10) (x_imul (x_push (.int 10) (x_iadd (x_icmp_ge (x_lload 2 (x_cs1 (w_J f_J13_bitCount_95d88) (x_lload 4 (x_cs1 (w_J f_J13_bitCount_95d88) (x_iadd (x_iret P)))))) (x_lload 2 (x_aload 0 (y_getF 39 43 (x_iload 6 (y_lald 43 800 (x_lor (x_lstore 2 (x_lload 4 (x_aload 0 (y_getF 39 43 (x_iload 6 (x_push (.int 1) (x_iadd (y_lald 43 800 (x_lor (x_lstore 4 (x_iinc 6 2 (C11))))))))))))))))))))))))
set_option maxRecDepth 20000 in
theorem t_X7_comersTo_11 {p : Program} {l : Launch} {e : Env} {s : State} {m : MethodId} {args : Array Value} {below : List Frame} {meth : Method} {c : Code} {g : xG} (X : xX p s m args c meth cX7_comersTo RX7 7 g) (hr : meth.sig.returnType = (some .int)) {P : xP} {C11 : xK} (h11 : xAt p l e { frames := 1, cells := 0, slots := 0, locals := 21 } s m args below meth c g 7 xFT xN 0 0 (MQ below (xQc g xFT xN P) args s 0 0 (xFr g)) C11 11) : xAt p l e { frames := 1, cells := 0, slots := 0, locals := 21 } s m args below meth c g 7 xFT xN 0 0 (MQ below (xQc g xFT xN P) args s 0 0 (xFr g)) (k_X7_comersTo_11 P C11) 11 := by
  unfold k_X7_comersTo_11
  refine r_iload (pc := 11) X d_X7_comersTo_11 ?_
  refine r_iload_n (pc := 13) X d_X7_comersTo_13 fn1 ?_
  refine r_bipush (pc := 14) X d_X7_comersTo_14 (by decide +kernel) ?_
  refine r_imul (pc := 16) X d_X7_comersTo_16 ?_
  refine r_bipush (pc := 17) X d_X7_comersTo_17 (by decide +kernel) ?_
  refine r_iadd (pc := 19) X d_X7_comersTo_19 ?_
  refine r_icmp_ge (pc := 20) (tgt := 53) X d_X7_comersTo_20 (by decide +kernel) ?_ ?_
  · refine r_lload_n (pc := 53) X d_X7_comersTo_53 fn2 ?_
    refine r_cs1 (pc := 54) X (con_J13_bitCount_95d88 l) sf_J13_bitCount_95d88 ml_RX7_140 (by decide +kernel) (by decide +kernel) d_X7_comersTo_54 ?_
    refine r_lload (pc := 57) X d_X7_comersTo_57 ?_
    refine r_cs1 (pc := 59) X (con_J13_bitCount_95d88 l) sf_J13_bitCount_95d88 ml_RX7_140 (by decide +kernel) (by decide +kernel) d_X7_comersTo_59 ?_
    refine r_iadd (pc := 62) X d_X7_comersTo_62 ?_
    exact r_iret (pc := 63) X hr d_X7_comersTo_63
  · refine r_lload_n (pc := 23) X d_X7_comersTo_23 fn2 ?_
    refine r_aload_n (pc := 24) X d_X7_comersTo_24 fn0 ?_
    refine s_getF (pc := 25) (ci := 7) (k := 6) X xok7 (by decide +kernel) ob_39 trivial ly_39_6 (by decide +kernel) fl_RX7_22 d_X7_comersTo_25 ?_
    refine r_iload (pc := 28) X d_X7_comersTo_28 ?_
    refine s_lald (pc := 30) X tn_43 ln_43 d_X7_comersTo_30 ?_
    refine r_lor (pc := 31) X d_X7_comersTo_31 ?_
    refine r_lstore_n (pc := 32) X d_X7_comersTo_32 fn2 (by decide +kernel) ?_
    refine r_lload (pc := 33) X d_X7_comersTo_33 ?_
    refine r_aload_n (pc := 35) X d_X7_comersTo_35 fn0 ?_
    refine s_getF (pc := 36) (ci := 7) (k := 6) X xok7 (by decide +kernel) ob_39 trivial ly_39_6 (by decide +kernel) fl_RX7_22 d_X7_comersTo_36 ?_
    refine r_iload (pc := 39) X d_X7_comersTo_39 ?_
    refine r_iconst (pc := 41) X d_X7_comersTo_41 (by decide +kernel) ?_
    refine r_iadd (pc := 42) X d_X7_comersTo_42 ?_
    refine s_lald (pc := 43) X tn_43 ln_43 d_X7_comersTo_43 ?_
    refine r_lor (pc := 44) X d_X7_comersTo_44 ?_
    refine r_lstore (pc := 45) X d_X7_comersTo_45 (by decide +kernel) ?_
    refine r_iinc (pc := 47) X d_X7_comersTo_47 (by decide +kernel) (by decide +kernel) ?_
    refine r_goto (pc := 50) (tgt := 11) X d_X7_comersTo_50 (by decide +kernel) ?_
    exact h11
set_option maxRecDepth 20000 in
theorem m_X7_comersTo {l : Launch} {f : Nat → Int32 → xH → xP → Prop}  {I11 : Nat → Int32 → xH → xP → xM → xK}
    (v0 : ∀ (a0 : Nat) (a1 : Int32) (A : xH) (P : xP), f a0 a1 A P → k_X7_comersTo_0 P (xE (I11 a0 a1 A P)) [some (.ref a0), some (.int a1), none, none, none, none, none] [] A)
    (v11 : ∀ (a0 : Nat) (a1 : Int32) (A : xH) (P : xP), f a0 a1 A P → ∀ (μ : xM) (L : xL) (st : List Value) (B : xH), I11 a0 a1 A P μ L st B → k_X7_comersTo_11 P (xB (I11 a0 a1 A P) μ) L st B) : xCon l yX7_comersTo cX7_comersTo 7 (some .int) 1 21 xN xN 0 xFT xFT (w_RI f) := by
  refine xc_RI (plainFor_of_name pn_RX7) (by decide +kernel) (fun p e s m args below meth c g a0 a1 A P h X hr _ => ?_)
  have h11 := x_loop1 (p := p) (l := l) (e := e) (R := { frames := 1, cells := 0, slots := 0, locals := 21 }) (s := s) (m := m) (args := args) (below := below) (meth := meth) (c := c) (g := g) (nL := 7) (F := xFT) (n := xN) (cells := 0) (slots := 0) (Q := MQ below (xQc g xFT xN P) args s 0 0 (xFr g)) (I := I11 a0 a1 A P) (pc1 := 11) (fun μ i11 => xAt_mono (t_X7_comersTo_11 (P := P) X hr i11) (v11 a0 a1 A P h μ))
  exact ⟨_, v0 a0 a1 A P h, t_X7_comersTo_0 X hr h11⟩
theorem d_X7_stepAt_0 : decode cX7_stepAt 0 = .ok (.iload_n 2, 1) := by decide +kernel
theorem d_X7_stepAt_1 : decode cX7_stepAt 1 = .ok (.istore 4, 2) := by decide +kernel
theorem d_X7_stepAt_3 : decode cX7_stepAt 3 = .ok (.iconst 0, 1) := by decide +kernel
theorem d_X7_stepAt_4 : decode cX7_stepAt 4 = .ok (.istore 5, 2) := by decide +kernel
theorem d_X7_stepAt_6 : decode cX7_stepAt 6 = .ok (.iload 5, 2) := by decide +kernel
theorem d_X7_stepAt_8 : decode cX7_stepAt 8 = .ok (.bipush 48, 2) := by decide +kernel
theorem d_X7_stepAt_10 : decode cX7_stepAt 10 = .ok (.if_icmp .ge 76, 3) := by decide +kernel
theorem d_X7_stepAt_13 : decode cX7_stepAt 13 = .ok (.aload_n 0, 1) := by decide +kernel
theorem d_X7_stepAt_14 : decode cX7_stepAt 14 = .ok (.getfield 18, 3) := by decide +kernel
theorem d_X7_stepAt_17 : decode cX7_stepAt 17 = .ok (.iload_n 1, 1) := by decide +kernel
theorem d_X7_stepAt_18 : decode cX7_stepAt 18 = .ok (.bipush 24, 2) := by decide +kernel
theorem d_X7_stepAt_20 : decode cX7_stepAt 20 = .ok (.imul, 1) := by decide +kernel
theorem d_X7_stepAt_21 : decode cX7_stepAt 21 = .ok (.iconst 2, 1) := by decide +kernel
theorem d_X7_stepAt_22 : decode cX7_stepAt 22 = .ok (.imul, 1) := by decide +kernel
theorem d_X7_stepAt_23 : decode cX7_stepAt 23 = .ok (.iload 5, 2) := by decide +kernel
theorem d_X7_stepAt_25 : decode cX7_stepAt 25 = .ok (.iadd, 1) := by decide +kernel
theorem d_X7_stepAt_26 : decode cX7_stepAt 26 = .ok (.laload, 1) := by decide +kernel
theorem d_X7_stepAt_27 : decode cX7_stepAt 27 = .ok (.lstore 6, 2) := by decide +kernel
theorem d_X7_stepAt_29 : decode cX7_stepAt 29 = .ok (.lload 6, 2) := by decide +kernel
theorem d_X7_stepAt_31 : decode cX7_stepAt 31 = .ok (.invokestatic 140, 3) := by decide +kernel
theorem d_X7_stepAt_34 : decode cX7_stepAt 34 = .ok (.istore 8, 2) := by decide +kernel
theorem d_X7_stepAt_36 : decode cX7_stepAt 36 = .ok (.iload 4, 2) := by decide +kernel
theorem d_X7_stepAt_38 : decode cX7_stepAt 38 = .ok (.iload 8, 2) := by decide +kernel
theorem d_X7_stepAt_40 : decode cX7_stepAt 40 = .ok (.if_icmp .ge 33, 3) := by decide +kernel
theorem d_X7_stepAt_43 : decode cX7_stepAt 43 = .ok (.iload_n 3, 1) := by decide +kernel
theorem d_X7_stepAt_44 : decode cX7_stepAt 44 = .ok (.ifCond .ne 13, 3) := by decide +kernel
theorem d_X7_stepAt_47 : decode cX7_stepAt 47 = .ok (.iload 5, 2) := by decide +kernel
theorem d_X7_stepAt_49 : decode cX7_stepAt 49 = .ok (.iconst 1, 1) := by decide +kernel
theorem d_X7_stepAt_50 : decode cX7_stepAt 50 = .ok (.ishr, 1) := by decide +kernel
theorem d_X7_stepAt_51 : decode cX7_stepAt 51 = .ok (.invokestatic 146, 3) := by decide +kernel
theorem d_X7_stepAt_54 : decode cX7_stepAt 54 = .ok (.goto 18, 3) := by decide +kernel
theorem d_X7_stepAt_57 : decode cX7_stepAt 57 = .ok (.iload 5, 2) := by decide +kernel
theorem d_X7_stepAt_59 : decode cX7_stepAt 59 = .ok (.iconst 1, 1) := by decide +kernel
theorem d_X7_stepAt_60 : decode cX7_stepAt 60 = .ok (.iand, 1) := by decide +kernel
theorem d_X7_stepAt_61 : decode cX7_stepAt 61 = .ok (.bipush 64, 2) := by decide +kernel
theorem d_X7_stepAt_63 : decode cX7_stepAt 63 = .ok (.imul, 1) := by decide +kernel
theorem d_X7_stepAt_64 : decode cX7_stepAt 64 = .ok (.lload 6, 2) := by decide +kernel
theorem d_X7_stepAt_66 : decode cX7_stepAt 66 = .ok (.iload 4, 2) := by decide +kernel
theorem d_X7_stepAt_68 : decode cX7_stepAt 68 = .ok (.invokestatic 149, 3) := by decide +kernel
theorem d_X7_stepAt_71 : decode cX7_stepAt 71 = .ok (.iadd, 1) := by decide +kernel
theorem d_X7_stepAt_72 : decode cX7_stepAt 72 = .ok (.ireturn, 1) := by decide +kernel
theorem d_X7_stepAt_73 : decode cX7_stepAt 73 = .ok (.iload 4, 2) := by decide +kernel
theorem d_X7_stepAt_75 : decode cX7_stepAt 75 = .ok (.iload 8, 2) := by decide +kernel
theorem d_X7_stepAt_77 : decode cX7_stepAt 77 = .ok (.isub, 1) := by decide +kernel
theorem d_X7_stepAt_78 : decode cX7_stepAt 78 = .ok (.istore 4, 2) := by decide +kernel
theorem d_X7_stepAt_80 : decode cX7_stepAt 80 = .ok (.iinc 5 1, 3) := by decide +kernel
theorem d_X7_stepAt_83 : decode cX7_stepAt 83 = .ok (.goto (-77), 3) := by decide +kernel
theorem d_X7_stepAt_86 : decode cX7_stepAt 86 = .ok (.iconst (-1), 1) := by decide +kernel
theorem d_X7_stepAt_87 : decode cX7_stepAt 87 = .ok (.ireturn, 1) := by decide +kernel
def k_X7_stepAt_0 (P : xP) (C6 : xK) : xK := x_iload 2 (x_istore 4 (x_push (.int 0) (x_istore 5 (C6))))
set_option maxRecDepth 20000 in
theorem t_X7_stepAt_0 {p : Program} {l : Launch} {e : Env} {s : State} {m : MethodId} {args : Array Value} {below : List Frame} {meth : Method} {c : Code} {g : xG} (X : xX p s m args c meth cX7_stepAt RX7 9 g) (hr : meth.sig.returnType = (some .int)) {P : xP} {C6 : xK} (h6 : xAt p l e { frames := 2, cells := 0, slots := 0, locals := 46 } s m args below meth c g 9 xFT xN 0 0 (MQ below (xQc g xFT xN P) args s 0 0 (xFr g)) C6 6) : xAt p l e { frames := 2, cells := 0, slots := 0, locals := 46 } s m args below meth c g 9 xFT xN 0 0 (MQ below (xQc g xFT xN P) args s 0 0 (xFr g)) (k_X7_stepAt_0 P C6) 0 := by
  unfold k_X7_stepAt_0
  refine r_iload_n (pc := 0) X d_X7_stepAt_0 fn2 ?_
  refine r_istore (pc := 1) X d_X7_stepAt_1 (by decide +kernel) ?_
  refine r_iconst (pc := 3) X d_X7_stepAt_3 (by decide +kernel) ?_
  refine r_istore (pc := 4) X d_X7_stepAt_4 (by decide +kernel) ?_
  exact h6
def k_X7_stepAt_72 (P : xP) : xK := x_iret P
set_option maxRecDepth 20000 in
theorem t_X7_stepAt_72 {p : Program} {l : Launch} {e : Env} {s : State} {m : MethodId} {args : Array Value} {below : List Frame} {meth : Method} {c : Code} {g : xG} (X : xX p s m args c meth cX7_stepAt RX7 9 g) (hr : meth.sig.returnType = (some .int)) {P : xP} : xAt p l e { frames := 2, cells := 0, slots := 0, locals := 46 } s m args below meth c g 9 xFT xN 0 0 (MQ below (xQc g xFT xN P) args s 0 0 (xFr g)) (k_X7_stepAt_72 P) 72 := by
  unfold k_X7_stepAt_72
  exact r_iret (pc := 72) X hr d_X7_stepAt_72
def k_X7_stepAt_6 (P : xP) (C6 : xK) : xK := x_iload 5 (x_push (.int 48) (x_icmp_ge (x_push (.int (-1)) (x_iret P)) (x_aload 0 (y_getF 39 42 (x_iload 1 (x_push (.int 24) (x_imul (x_push (.int 2) (x_imul (x_iload 5 (x_iadd (y_lald 42 3840 (x_lstore 6 (x_lload 6 (x_cs1 (w_J f_J13_bitCount_95d88) (x_istore 8 (x_iload 4 (x_iload 8 (x_icmp_ge (x_iload 4 (x_iload 8 (x_isub (x_istore 4 (x_iinc 5 1 (C6)))))) (x_iload 3 (x_if_ne (x_iload 5 (x_push (.int 1) (x_iand (x_push (.int 64) (x_imul (x_lload 6 (x_iload 4 (x_cs2 (w_JI f_X7_nthBit) (x_iadd ((k_X7_stepAt_72 P))))))))))) (x_iload 5 (x_push (.int 1) (x_ishr (x_cs1 (w_I f_X7_sortCode) ((k_X7_stepAt_72 P)))))))))))))))))))))))))))
set_option maxRecDepth 20000 in
theorem t_X7_stepAt_6 {p : Program} {l : Launch} {e : Env} {s : State} {m : MethodId} {args : Array Value} {below : List Frame} {meth : Method} {c : Code} {g : xG} (X : xX p s m args c meth cX7_stepAt RX7 9 g) (hr : meth.sig.returnType = (some .int)) {P : xP} {C6 : xK} (h6 : xAt p l e { frames := 2, cells := 0, slots := 0, locals := 46 } s m args below meth c g 9 xFT xN 0 0 (MQ below (xQc g xFT xN P) args s 0 0 (xFr g)) C6 6) : xAt p l e { frames := 2, cells := 0, slots := 0, locals := 46 } s m args below meth c g 9 xFT xN 0 0 (MQ below (xQc g xFT xN P) args s 0 0 (xFr g)) (k_X7_stepAt_6 P C6) 6 := by
  unfold k_X7_stepAt_6
  refine r_iload (pc := 6) X d_X7_stepAt_6 ?_
  refine r_bipush (pc := 8) X d_X7_stepAt_8 (by decide +kernel) ?_
  refine r_icmp_ge (pc := 10) (tgt := 86) X d_X7_stepAt_10 (by decide +kernel) ?_ ?_
  · refine r_iconst (pc := 86) X d_X7_stepAt_86 (by decide +kernel) ?_
    exact r_iret (pc := 87) X hr d_X7_stepAt_87
  · refine r_aload_n (pc := 13) X d_X7_stepAt_13 fn0 ?_
    refine s_getF (pc := 14) (ci := 7) (k := 5) X xok7 (by decide +kernel) ob_39 trivial ly_39_5 (by decide +kernel) fl_RX7_18 d_X7_stepAt_14 ?_
    refine r_iload_n (pc := 17) X d_X7_stepAt_17 fn1 ?_
    refine r_bipush (pc := 18) X d_X7_stepAt_18 (by decide +kernel) ?_
    refine r_imul (pc := 20) X d_X7_stepAt_20 ?_
    refine r_iconst (pc := 21) X d_X7_stepAt_21 (by decide +kernel) ?_
    refine r_imul (pc := 22) X d_X7_stepAt_22 ?_
    refine r_iload (pc := 23) X d_X7_stepAt_23 ?_
    refine r_iadd (pc := 25) X d_X7_stepAt_25 ?_
    refine s_lald (pc := 26) X tn_42 ln_42 d_X7_stepAt_26 ?_
    refine r_lstore (pc := 27) X d_X7_stepAt_27 (by decide +kernel) ?_
    refine r_lload (pc := 29) X d_X7_stepAt_29 ?_
    refine r_cs1 (pc := 31) X (con_J13_bitCount_95d88 l) sf_J13_bitCount_95d88 ml_RX7_140 (by decide +kernel) (by decide +kernel) d_X7_stepAt_31 ?_
    refine r_istore (pc := 34) X d_X7_stepAt_34 (by decide +kernel) ?_
    refine r_iload (pc := 36) X d_X7_stepAt_36 ?_
    refine r_iload (pc := 38) X d_X7_stepAt_38 ?_
    refine r_icmp_ge (pc := 40) (tgt := 73) X d_X7_stepAt_40 (by decide +kernel) ?_ ?_
    · refine r_iload (pc := 73) X d_X7_stepAt_73 ?_
      refine r_iload (pc := 75) X d_X7_stepAt_75 ?_
      refine r_isub (pc := 77) X d_X7_stepAt_77 ?_
      refine r_istore (pc := 78) X d_X7_stepAt_78 (by decide +kernel) ?_
      refine r_iinc (pc := 80) X d_X7_stepAt_80 (by decide +kernel) (by decide +kernel) ?_
      refine r_goto (pc := 83) (tgt := 6) X d_X7_stepAt_83 (by decide +kernel) ?_
      exact h6
    · refine r_iload_n (pc := 43) X d_X7_stepAt_43 fn3 ?_
      refine r_if_ne (pc := 44) (tgt := 57) X d_X7_stepAt_44 (by decide +kernel) ?_ ?_
      · refine r_iload (pc := 57) X d_X7_stepAt_57 ?_
        refine r_iconst (pc := 59) X d_X7_stepAt_59 (by decide +kernel) ?_
        refine r_iand (pc := 60) X d_X7_stepAt_60 ?_
        refine r_bipush (pc := 61) X d_X7_stepAt_61 (by decide +kernel) ?_
        refine r_imul (pc := 63) X d_X7_stepAt_63 ?_
        refine r_lload (pc := 64) X d_X7_stepAt_64 ?_
        refine r_iload (pc := 66) X d_X7_stepAt_66 ?_
        refine r_cs2 (pc := 68) X (con_X7_nthBit l) sf_X7_nthBit ml_RX7_149 (by decide +kernel) (by decide +kernel) d_X7_stepAt_68 ?_
        refine r_iadd (pc := 71) X d_X7_stepAt_71 ?_
        exact t_X7_stepAt_72 X hr
      · refine r_iload (pc := 47) X d_X7_stepAt_47 ?_
        refine r_iconst (pc := 49) X d_X7_stepAt_49 (by decide +kernel) ?_
        refine r_ishr (pc := 50) X d_X7_stepAt_50 ?_
        refine r_cs1 (pc := 51) X (con_X7_sortCode l) sf_X7_sortCode ml_RX7_146 (by decide +kernel) (by decide +kernel) d_X7_stepAt_51 ?_
        refine r_goto (pc := 54) (tgt := 72) X d_X7_stepAt_54 (by decide +kernel) ?_
        exact t_X7_stepAt_72 X hr
set_option maxRecDepth 20000 in
theorem m_X7_stepAt {l : Launch} {f : Nat → Int32 → Int32 → Int32 → xH → xP → Prop}  {I6 : Nat → Int32 → Int32 → Int32 → xH → xP → xM → xK}
    (v0 : ∀ (a0 : Nat) (a1 : Int32) (a2 : Int32) (a3 : Int32) (A : xH) (P : xP), f a0 a1 a2 a3 A P → k_X7_stepAt_0 P (xE (I6 a0 a1 a2 a3 A P)) [some (.ref a0), some (.int a1), some (.int a2), some (.int a3), none, none, none, none, none] [] A)
    (v6 : ∀ (a0 : Nat) (a1 : Int32) (a2 : Int32) (a3 : Int32) (A : xH) (P : xP), f a0 a1 a2 a3 A P → ∀ (μ : xM) (L : xL) (st : List Value) (B : xH), I6 a0 a1 a2 a3 A P μ L st B → k_X7_stepAt_6 P (xB (I6 a0 a1 a2 a3 A P) μ) L st B) : xCon l yX7_stepAt cX7_stepAt 9 (some .int) 2 46 xN xN 0 xFT xFT (w_RIII f) := by
  refine xc_RIII (plainFor_of_name pn_RX7) (by decide +kernel) (fun p e s m args below meth c g a0 a1 a2 a3 A P h X hr _ => ?_)
  have h6 := x_loop1 (p := p) (l := l) (e := e) (R := { frames := 2, cells := 0, slots := 0, locals := 46 }) (s := s) (m := m) (args := args) (below := below) (meth := meth) (c := c) (g := g) (nL := 9) (F := xFT) (n := xN) (cells := 0) (slots := 0) (Q := MQ below (xQc g xFT xN P) args s 0 0 (xFr g)) (I := I6 a0 a1 a2 a3 A P) (pc1 := 6) (fun μ i6 => xAt_mono (t_X7_stepAt_6 (P := P) X hr i6) (v6 a0 a1 a2 a3 A P h μ))
  exact ⟨_, v0 a0 a1 a2 a3 A P h, t_X7_stepAt_0 X hr h6⟩
noncomputable def bt (p : Prop) : Bool := @decide p (Classical.propDecidable p)
theorem bt_iff {p : Prop} : bt p = true ↔ p := by unfold bt; exact @decide_eq_true_iff p (Classical.propDecidable p)
theorem bt_congr {p q : Prop} (h : p ↔ q) : bt p = bt q := by rw [show p = q from propext h]
theorem b_ext {a b : Bool} (h : a = true ↔ b = true) : a = b := by
  cases a <;> cases b <;> simp at h ⊢
/-- the steps of a place, in their order -/
noncomputable def tX (T : Nat → Nat → Nat → Prop) (p x : Nat) : Bool := bt (T p (x / 128) (x % 128))
noncomputable def tN (T : Nat → Nat → Nat → Prop) (p : Nat) : Nat := cb (tX T p) 3072
noncomputable def cmN (T : Nat → Nat → Nat → Prop) (q : Nat) : Nat := cb (fun p => bt (∃ s, s < 24 ∧ T p s q)) 128
def sc (s : Nat) : Nat := if s < 4 then s else if s < 14 then 12 + s else 18 + s
theorem st_cell {A : xH} {n p t j : Nat} {T : Nat → Nat → Nat → Prop} (h : isST A n T) (hp : p < n) (ht : t < 48) (hj : j < 64) : tl (xl A 42 (p * 48 + t)) j = tX T p (64 * t + j) := by
  have := h.1 p ((64 * t + j) / 128) ((64 * t + j) % 128) hp (by omega) (by omega)
  rw [show (p * 24 + (64 * t + j) / 128) * 2 + (64 * t + j) % 128 / 64 = p * 48 + t by omega, show (64 * t + j) % 128 % 64 = j by omega] at this
  exact b_ext (this.trans bt_iff.symm)
theorem st_pc {A : xH} {n p t : Nat} {T : Nat → Nat → Nat → Prop} (h : isST A n T) (hp : p < n) (ht : t < 48) : cb (tX T p) (64 * (t + 1)) = cb (tX T p) (64 * t) + pc (xl A 42 (p * 48 + t)) := by
  rw [show 64 * (t + 1) = 64 * t + 64 by omega, cb_add]
  unfold pc
  rw [cb_congr (g := fun j => tX T p (64 * t + j)) fun j hj => st_cell h hp ht hj]
def f_X7_stepCount (q : Nat) (p : Int32) (A : xH) (P : xP) : Prop := q = 39 ∧ ∃ T n k, isST A n T ∧ n ≤ 80 ∧ p = nI k ∧ k < n ∧ P (some (.int (nI (tN T k)))) A
def sc9 (A : xH) (P : xP) : xM → xK := fun μ L st B => ∃ T n k t, isST A n T ∧ n ≤ 80 ∧ k < n ∧ P (some (.int (nI (tN T k)))) A ∧ t ≤ 48 ∧ B = A ∧ st = [] ∧ L = [some (.ref 39), some (.int (nI k)), some (.int (nI (cb (tX T k) (64 * t)))), some (.int (nI (k * 48 + t)))] ∧ μ = (48 - t, 0, 0)
set_option maxRecDepth 20000 in
theorem con_X7_stepCount (l : Launch) : xCon l yX7_stepCount cX7_stepCount 4 (some .int) 1 21 xN xN 0 xFT xFT (w_RI f_X7_stepCount) := by
  refine m_X7_stepCount (I9 := fun q p A P => sc9 A P) ?_ ?_
  · rintro q p A P ⟨rfl, T, n, k, h, hn, rfl, hk, hP⟩
    simp (disch := omega) only [k_X7_stepCount_0, k_X7_stepCount_9, f_J13_bitCount_95d88, w_J, x_aload, x_cs1, x_iadd, x_icmp_ge, x_iinc, x_iload, x_imul, x_iret, x_istore, x_push, y_getF, y_lald, xFT, xbool0, xbool1, Nat.reduceAdd, Nat.zero_add, xgl_0, xgl_s, xgl_n, xst_0, xst_1n, xst_1i, xst_1r, xst_1l, xst_s, set_0, set_s, true_and, and_true, xres, xcat_nil, xcat_i, xcat_r, xcat_l, Nat.add_zero, xble0, xble1, xble2, xble3, xble4, xble5, xble6, xble7, xble8, pk_mul, nI_add, nI_1, nI_leI, nI_ltI, nI_eq, n_in, n_cl, z_eq, z_lt, z_le, z_gt, z_ge, z_qe, o_eq, o_lt, o_le, o_gt, o_ge, vp0, vp1, cl0, cl1, n_sub, n_sub1, n_pm1, n_a0, n_0a, ofn, lN0, Nat.reduceLT, Nat.reduceLeDiff, Nat.reduceMul, Nat.reduceSub, Nat.reduceEqDiff, ne_eq, true_implies, false_implies, not_true_eq_false, not_false_eq_true, and_self, and_true, true_and, and_false, false_and, implies_true, if_true, if_false, i00, i10, i01, i11, ob_0, ob_1, tn_2, ln_2, ob_3, tn_4, ln_4, ob_5, tn_6, ln_6, tn_7, ln_7, ob_8, tn_9, ln_9, tn_10, ln_10, tn_11, ln_11, tn_12, ln_12, tn_13, ln_13, tn_14, ln_14, tn_15, ln_15, tn_16, ln_16, tn_17, ln_17, ob_18, tn_19, ln_19, tn_20, ln_20, tn_21, ln_21, tn_22, ln_22, tn_23, ln_23, tn_24, ln_24, tn_25, ln_25, tn_26, ln_26, tn_27, ln_27, ob_28, tn_29, ln_29, tn_30, ln_30, ob_31, tn_32, ln_32, tn_33, ln_33, ob_34, ob_35, tn_36, ln_36, tn_37, ln_37, tn_38, ln_38, ob_39, tn_40, ln_40, tn_41, ln_41, tn_42, ln_42, tn_43, ln_43, tn_44, ln_44, tn_45, ln_45, tn_46, ln_46, tn_47, ln_47, tn_48, ln_48, tn_49, ln_49, tn_50, ln_50, tn_51, ln_51, ob_52, tn_53, ln_53, tn_54, ln_54, tn_55, ln_55, tn_56, ln_56, ob_57, tn_58, ln_58, tn_59, ln_59, tn_60, ln_60, tn_61, ln_61, tn_62, ln_62, tn_63, ln_63, tn_64, ln_64, tn_65, ln_65, ob_66, tn_67, ln_67, tn_68, ln_68, tn_69, ln_69, tn_70, ln_70, tn_71, ln_71, tn_72, ln_72, tn_73, ln_73, ob_74, tn_75, ln_75, tn_76, ln_76, tn_77, ln_77, tn_78, ln_78, tn_79, ln_79, tn_80, ln_80, tn_81, ln_81, tn_82, ln_82, tn_83, ln_83, ob_84, tn_85, ln_85, tn_86, ln_86, tn_87, ln_87, tn_88, ln_88, tn_89, ln_89, tn_90, ln_90, tn_91, ln_91, tn_92, ln_92, tn_93, ln_93, ob_94, tn_95, ln_95, tn_96, ln_96, tn_97, ln_97, tn_98, ln_98, tn_99, ln_99, tn_100, ln_100, tn_101, ln_101, tn_102, ln_102, tn_103, ln_103, ob_104, tn_105, ln_105, tn_106, ln_106, tn_107, ln_107, tn_108, ln_108, tn_109, ln_109, tn_110, ln_110, tn_111, ln_111, tn_112, ln_112, tn_113, ln_113, ob_114, tn_115, ln_115, tn_116, ln_116, tn_117, ln_117, tn_118, ln_118, tn_119, ln_119, tn_120, ln_120, tn_121, ln_121, tn_122, ln_122, tn_123, ln_123, ob_124, tn_125, ln_125, tn_126, ln_126, tn_127, ln_127, tn_128, ln_128, tn_129, ln_129, tn_130, ln_130, tn_131, ln_131, tn_132, ln_132, tn_133, ln_133, ob_134, tn_135, ln_135, tn_136, ln_136, tn_137, ln_137, tn_138, ln_138, tn_139, ln_139, tn_140, ln_140, tn_141, ln_141, tn_142, ln_142, tn_143, ln_143, ob_144, tn_145, ln_145, tn_146, ln_146, tn_147, ln_147, tn_148, ln_148, tn_149, ln_149, tn_150, ln_150, tn_151, ln_151, tn_152, ln_152, tn_153, ln_153, ob_154, tn_155, ln_155, tn_156, ln_156, tn_157, ln_157, tn_158, ln_158, tn_159, ln_159, tn_160, ln_160, tn_161, ln_161, tn_162, ln_162, tn_163, ln_163, ob_164, tn_165, ln_165, tn_166, ln_166, ob_167, tn_168, ln_168, tn_169, ln_169, tn_170, ln_170, tn_171, ln_171, tn_172, ln_172, tn_173, ln_173, tn_174, ln_174, tn_175, ln_175, tn_176, ln_176, ob_177, tn_178, ln_178, tn_179, ln_179, ob_180, tn_181, ln_181, tn_182, ln_182, tn_183, ln_183, tn_184, ln_184, tn_185, ln_185, tn_186, ln_186, tn_187, ln_187, tn_188, ln_188, tn_189, ln_189, tn_190, ln_190, tn_191, ln_191, tn_192, ln_192, tn_193, ln_193, tn_194, ln_194, tn_195, ln_195, tn_196, ln_196, tn_197, ln_197, tn_198, ln_198, tn_199, ln_199, tn_200, ln_200, tn_201, ln_201, tn_202, ln_202, tn_203, ln_203, tn_204, ln_204, tn_205, ln_205, tn_206, ln_206, tn_207, ln_207, tn_208, ln_208, tn_209, ln_209, tn_210, ln_210, tn_211, ln_211, tn_212, ln_212, tn_213, ln_213, tn_214, ln_214, tn_215, ln_215, tn_216, ln_216, tn_217, ln_217, tn_218, ln_218, tn_219, ln_219, tn_220, ln_220, tn_221, ln_221, tn_222, ln_222, tn_223, ln_223, tn_224, ln_224, tn_225, ln_225, tn_226, ln_226, tn_227, ln_227, tn_228, ln_228, tn_229, ln_229, tn_230, ln_230, lx2, lx3, lx4, lx5, lx6, lx7, lx8, lx9, lx10, lx14, lx15, lx16, lx18, lx20, lx24, lx25, lx27, lx32, lx36, lx40, lx41, lx42, lx43, lx45, lx48, lx52, lx54, lx56, lx57, lx58, lx60, lx61, lx62, lx63, lx64, lx66, lx69, lx73, lx80, lx81, lx84, lx85, lx87, lx94, lx96, lx97, lx120, lx128, lx135, lx160, lx162, lx163, lx165, lx200, lx232, lx242, lx243, lx255, lx256, lx320, lx325, lx400, lx405, lx464, lx512, lx600, lx640, lx752, lx900, lx940, lx1000, lx1024, lx1764, lx3360, lx3840, lx5000, lx6400, lx9050, lx9998, lx9999, lx10000, lx25600, lx76800, lx99999]
    refine xE0 (48 - 0, 0, 0) ⟨T, n, k, 0, h, hn, hk, hP, by omega, rfl, rfl, ?_, rfl⟩
    rw [show k * 24 * 2 = k * 48 + 0 by omega]
    rfl
  · rintro q p A P - μ L st B ⟨T, n, k, t, h, hn, hk, hP, ht, rfl, rfl, rfl, rfl⟩
    have c1 := cb_le (tX T k) (64 * t)
    simp (disch := omega) only [k_X7_stepCount_0, k_X7_stepCount_9, w_J, x_aload, x_cs1, x_iadd, x_icmp_ge, x_iinc, x_iload, x_imul, x_iret, x_istore, x_push, y_getF, y_lald, xFT, xbool0, xbool1, Nat.reduceAdd, Nat.zero_add, xgl_0, xgl_s, xgl_n, xst_0, xst_1n, xst_1i, xst_1r, xst_1l, xst_s, set_0, set_s, true_and, and_true, xres, xcat_nil, xcat_i, xcat_r, xcat_l, Nat.add_zero, xble0, xble1, xble2, xble3, xble4, xble5, xble6, xble7, xble8, pk_mul, nI_add, nI_1, nI_leI, nI_ltI, nI_eq, n_in, n_cl, z_eq, z_lt, z_le, z_gt, z_ge, z_qe, o_eq, o_lt, o_le, o_gt, o_ge, vp0, vp1, cl0, cl1, n_sub, n_sub1, n_pm1, n_a0, n_0a, ofn, lN0, Nat.reduceLT, Nat.reduceLeDiff, Nat.reduceMul, Nat.reduceSub, Nat.reduceEqDiff, ne_eq, true_implies, false_implies, not_true_eq_false, not_false_eq_true, and_self, and_true, true_and, and_false, false_and, implies_true, if_true, if_false, i00, i10, i01, i11, ob_0, ob_1, tn_2, ln_2, ob_3, tn_4, ln_4, ob_5, tn_6, ln_6, tn_7, ln_7, ob_8, tn_9, ln_9, tn_10, ln_10, tn_11, ln_11, tn_12, ln_12, tn_13, ln_13, tn_14, ln_14, tn_15, ln_15, tn_16, ln_16, tn_17, ln_17, ob_18, tn_19, ln_19, tn_20, ln_20, tn_21, ln_21, tn_22, ln_22, tn_23, ln_23, tn_24, ln_24, tn_25, ln_25, tn_26, ln_26, tn_27, ln_27, ob_28, tn_29, ln_29, tn_30, ln_30, ob_31, tn_32, ln_32, tn_33, ln_33, ob_34, ob_35, tn_36, ln_36, tn_37, ln_37, tn_38, ln_38, ob_39, tn_40, ln_40, tn_41, ln_41, tn_42, ln_42, tn_43, ln_43, tn_44, ln_44, tn_45, ln_45, tn_46, ln_46, tn_47, ln_47, tn_48, ln_48, tn_49, ln_49, tn_50, ln_50, tn_51, ln_51, ob_52, tn_53, ln_53, tn_54, ln_54, tn_55, ln_55, tn_56, ln_56, ob_57, tn_58, ln_58, tn_59, ln_59, tn_60, ln_60, tn_61, ln_61, tn_62, ln_62, tn_63, ln_63, tn_64, ln_64, tn_65, ln_65, ob_66, tn_67, ln_67, tn_68, ln_68, tn_69, ln_69, tn_70, ln_70, tn_71, ln_71, tn_72, ln_72, tn_73, ln_73, ob_74, tn_75, ln_75, tn_76, ln_76, tn_77, ln_77, tn_78, ln_78, tn_79, ln_79, tn_80, ln_80, tn_81, ln_81, tn_82, ln_82, tn_83, ln_83, ob_84, tn_85, ln_85, tn_86, ln_86, tn_87, ln_87, tn_88, ln_88, tn_89, ln_89, tn_90, ln_90, tn_91, ln_91, tn_92, ln_92, tn_93, ln_93, ob_94, tn_95, ln_95, tn_96, ln_96, tn_97, ln_97, tn_98, ln_98, tn_99, ln_99, tn_100, ln_100, tn_101, ln_101, tn_102, ln_102, tn_103, ln_103, ob_104, tn_105, ln_105, tn_106, ln_106, tn_107, ln_107, tn_108, ln_108, tn_109, ln_109, tn_110, ln_110, tn_111, ln_111, tn_112, ln_112, tn_113, ln_113, ob_114, tn_115, ln_115, tn_116, ln_116, tn_117, ln_117, tn_118, ln_118, tn_119, ln_119, tn_120, ln_120, tn_121, ln_121, tn_122, ln_122, tn_123, ln_123, ob_124, tn_125, ln_125, tn_126, ln_126, tn_127, ln_127, tn_128, ln_128, tn_129, ln_129, tn_130, ln_130, tn_131, ln_131, tn_132, ln_132, tn_133, ln_133, ob_134, tn_135, ln_135, tn_136, ln_136, tn_137, ln_137, tn_138, ln_138, tn_139, ln_139, tn_140, ln_140, tn_141, ln_141, tn_142, ln_142, tn_143, ln_143, ob_144, tn_145, ln_145, tn_146, ln_146, tn_147, ln_147, tn_148, ln_148, tn_149, ln_149, tn_150, ln_150, tn_151, ln_151, tn_152, ln_152, tn_153, ln_153, ob_154, tn_155, ln_155, tn_156, ln_156, tn_157, ln_157, tn_158, ln_158, tn_159, ln_159, tn_160, ln_160, tn_161, ln_161, tn_162, ln_162, tn_163, ln_163, ob_164, tn_165, ln_165, tn_166, ln_166, ob_167, tn_168, ln_168, tn_169, ln_169, tn_170, ln_170, tn_171, ln_171, tn_172, ln_172, tn_173, ln_173, tn_174, ln_174, tn_175, ln_175, tn_176, ln_176, ob_177, tn_178, ln_178, tn_179, ln_179, ob_180, tn_181, ln_181, tn_182, ln_182, tn_183, ln_183, tn_184, ln_184, tn_185, ln_185, tn_186, ln_186, tn_187, ln_187, tn_188, ln_188, tn_189, ln_189, tn_190, ln_190, tn_191, ln_191, tn_192, ln_192, tn_193, ln_193, tn_194, ln_194, tn_195, ln_195, tn_196, ln_196, tn_197, ln_197, tn_198, ln_198, tn_199, ln_199, tn_200, ln_200, tn_201, ln_201, tn_202, ln_202, tn_203, ln_203, tn_204, ln_204, tn_205, ln_205, tn_206, ln_206, tn_207, ln_207, tn_208, ln_208, tn_209, ln_209, tn_210, ln_210, tn_211, ln_211, tn_212, ln_212, tn_213, ln_213, tn_214, ln_214, tn_215, ln_215, tn_216, ln_216, tn_217, ln_217, tn_218, ln_218, tn_219, ln_219, tn_220, ln_220, tn_221, ln_221, tn_222, ln_222, tn_223, ln_223, tn_224, ln_224, tn_225, ln_225, tn_226, ln_226, tn_227, ln_227, tn_228, ln_228, tn_229, ln_229, tn_230, ln_230, lx2, lx3, lx4, lx5, lx6, lx7, lx8, lx9, lx10, lx14, lx15, lx16, lx18, lx20, lx24, lx25, lx27, lx32, lx36, lx40, lx41, lx42, lx43, lx45, lx48, lx52, lx54, lx56, lx57, lx58, lx60, lx61, lx62, lx63, lx64, lx66, lx69, lx73, lx80, lx81, lx84, lx85, lx87, lx94, lx96, lx97, lx120, lx128, lx135, lx160, lx162, lx163, lx165, lx200, lx232, lx242, lx243, lx255, lx256, lx320, lx325, lx400, lx405, lx464, lx512, lx600, lx640, lx752, lx900, lx940, lx1000, lx1024, lx1764, lx3360, lx3840, lx5000, lx6400, lx9050, lx9998, lx9999, lx10000, lx25600, lx76800, lx99999]
    refine ⟨fun z => ?_, fun z => ⟨by omega, bitCount_A ?_⟩⟩
    · have e48 : t = 48 := by omega
      subst e48
      exact hP
    · have c2 := st_pc h hk (show t < 48 by omega)
      have c3 := pc_le (xl B 42 (k * 48 + t))
      simp (disch := omega) only [k_X7_stepCount_0, k_X7_stepCount_9, w_J, x_aload, x_cs1, x_iadd, x_icmp_ge, x_iinc, x_iload, x_imul, x_iret, x_istore, x_push, y_getF, y_lald, xFT, xbool0, xbool1, Nat.reduceAdd, Nat.zero_add, xgl_0, xgl_s, xgl_n, xst_0, xst_1n, xst_1i, xst_1r, xst_1l, xst_s, set_0, set_s, true_and, and_true, xres, xcat_nil, xcat_i, xcat_r, xcat_l, Nat.add_zero, xble0, xble1, xble2, xble3, xble4, xble5, xble6, xble7, xble8, pk_mul, nI_add, nI_1, nI_leI, nI_ltI, nI_eq, n_in, n_cl, z_eq, z_lt, z_le, z_gt, z_ge, z_qe, o_eq, o_lt, o_le, o_gt, o_ge, vp0, vp1, cl0, cl1, n_sub, n_sub1, n_pm1, n_a0, n_0a, ofn, lN0, Nat.reduceLT, Nat.reduceLeDiff, Nat.reduceMul, Nat.reduceSub, Nat.reduceEqDiff, ne_eq, true_implies, false_implies, not_true_eq_false, not_false_eq_true, and_self, and_true, true_and, and_false, false_and, implies_true, if_true, if_false, i00, i10, i01, i11, ob_0, ob_1, tn_2, ln_2, ob_3, tn_4, ln_4, ob_5, tn_6, ln_6, tn_7, ln_7, ob_8, tn_9, ln_9, tn_10, ln_10, tn_11, ln_11, tn_12, ln_12, tn_13, ln_13, tn_14, ln_14, tn_15, ln_15, tn_16, ln_16, tn_17, ln_17, ob_18, tn_19, ln_19, tn_20, ln_20, tn_21, ln_21, tn_22, ln_22, tn_23, ln_23, tn_24, ln_24, tn_25, ln_25, tn_26, ln_26, tn_27, ln_27, ob_28, tn_29, ln_29, tn_30, ln_30, ob_31, tn_32, ln_32, tn_33, ln_33, ob_34, ob_35, tn_36, ln_36, tn_37, ln_37, tn_38, ln_38, ob_39, tn_40, ln_40, tn_41, ln_41, tn_42, ln_42, tn_43, ln_43, tn_44, ln_44, tn_45, ln_45, tn_46, ln_46, tn_47, ln_47, tn_48, ln_48, tn_49, ln_49, tn_50, ln_50, tn_51, ln_51, ob_52, tn_53, ln_53, tn_54, ln_54, tn_55, ln_55, tn_56, ln_56, ob_57, tn_58, ln_58, tn_59, ln_59, tn_60, ln_60, tn_61, ln_61, tn_62, ln_62, tn_63, ln_63, tn_64, ln_64, tn_65, ln_65, ob_66, tn_67, ln_67, tn_68, ln_68, tn_69, ln_69, tn_70, ln_70, tn_71, ln_71, tn_72, ln_72, tn_73, ln_73, ob_74, tn_75, ln_75, tn_76, ln_76, tn_77, ln_77, tn_78, ln_78, tn_79, ln_79, tn_80, ln_80, tn_81, ln_81, tn_82, ln_82, tn_83, ln_83, ob_84, tn_85, ln_85, tn_86, ln_86, tn_87, ln_87, tn_88, ln_88, tn_89, ln_89, tn_90, ln_90, tn_91, ln_91, tn_92, ln_92, tn_93, ln_93, ob_94, tn_95, ln_95, tn_96, ln_96, tn_97, ln_97, tn_98, ln_98, tn_99, ln_99, tn_100, ln_100, tn_101, ln_101, tn_102, ln_102, tn_103, ln_103, ob_104, tn_105, ln_105, tn_106, ln_106, tn_107, ln_107, tn_108, ln_108, tn_109, ln_109, tn_110, ln_110, tn_111, ln_111, tn_112, ln_112, tn_113, ln_113, ob_114, tn_115, ln_115, tn_116, ln_116, tn_117, ln_117, tn_118, ln_118, tn_119, ln_119, tn_120, ln_120, tn_121, ln_121, tn_122, ln_122, tn_123, ln_123, ob_124, tn_125, ln_125, tn_126, ln_126, tn_127, ln_127, tn_128, ln_128, tn_129, ln_129, tn_130, ln_130, tn_131, ln_131, tn_132, ln_132, tn_133, ln_133, ob_134, tn_135, ln_135, tn_136, ln_136, tn_137, ln_137, tn_138, ln_138, tn_139, ln_139, tn_140, ln_140, tn_141, ln_141, tn_142, ln_142, tn_143, ln_143, ob_144, tn_145, ln_145, tn_146, ln_146, tn_147, ln_147, tn_148, ln_148, tn_149, ln_149, tn_150, ln_150, tn_151, ln_151, tn_152, ln_152, tn_153, ln_153, ob_154, tn_155, ln_155, tn_156, ln_156, tn_157, ln_157, tn_158, ln_158, tn_159, ln_159, tn_160, ln_160, tn_161, ln_161, tn_162, ln_162, tn_163, ln_163, ob_164, tn_165, ln_165, tn_166, ln_166, ob_167, tn_168, ln_168, tn_169, ln_169, tn_170, ln_170, tn_171, ln_171, tn_172, ln_172, tn_173, ln_173, tn_174, ln_174, tn_175, ln_175, tn_176, ln_176, ob_177, tn_178, ln_178, tn_179, ln_179, ob_180, tn_181, ln_181, tn_182, ln_182, tn_183, ln_183, tn_184, ln_184, tn_185, ln_185, tn_186, ln_186, tn_187, ln_187, tn_188, ln_188, tn_189, ln_189, tn_190, ln_190, tn_191, ln_191, tn_192, ln_192, tn_193, ln_193, tn_194, ln_194, tn_195, ln_195, tn_196, ln_196, tn_197, ln_197, tn_198, ln_198, tn_199, ln_199, tn_200, ln_200, tn_201, ln_201, tn_202, ln_202, tn_203, ln_203, tn_204, ln_204, tn_205, ln_205, tn_206, ln_206, tn_207, ln_207, tn_208, ln_208, tn_209, ln_209, tn_210, ln_210, tn_211, ln_211, tn_212, ln_212, tn_213, ln_213, tn_214, ln_214, tn_215, ln_215, tn_216, ln_216, tn_217, ln_217, tn_218, ln_218, tn_219, ln_219, tn_220, ln_220, tn_221, ln_221, tn_222, ln_222, tn_223, ln_223, tn_224, ln_224, tn_225, ln_225, tn_226, ln_226, tn_227, ln_227, tn_228, ln_228, tn_229, ln_229, tn_230, ln_230, lx2, lx3, lx4, lx5, lx6, lx7, lx8, lx9, lx10, lx14, lx15, lx16, lx18, lx20, lx24, lx25, lx27, lx32, lx36, lx40, lx41, lx42, lx43, lx45, lx48, lx52, lx54, lx56, lx57, lx58, lx60, lx61, lx62, lx63, lx64, lx66, lx69, lx73, lx80, lx81, lx84, lx85, lx87, lx94, lx96, lx97, lx120, lx128, lx135, lx160, lx162, lx163, lx165, lx200, lx232, lx242, lx243, lx255, lx256, lx320, lx325, lx400, lx405, lx464, lx512, lx600, lx640, lx752, lx900, lx940, lx1000, lx1024, lx1764, lx3360, lx3840, lx5000, lx6400, lx9050, lx9998, lx9999, lx10000, lx25600, lx76800, lx99999]
      refine xB1 (b := 48 - (t + 1)) (by omega) ⟨T, n, k, t + 1, h, hn, hk, hP, by omega, rfl, rfl, ?_, rfl⟩
      rw [c2]; rfl
def orL (f : Nat → Int64) : Nat → Int64
  | 0 => 0
  | n + 1 => orL f n ||| f n
theorem tl_orL {f : Nat → Int64} {j : Nat} : ∀ {n}, tl (orL f n) j = true ↔ ∃ u, u < n ∧ tl (f u) j = true
  | 0 => by
    show tl 0 j = true ↔ _
    rw [tl_0]
    constructor
    · intro h; cases h
    · rintro ⟨u, h, -⟩; exact absurd h (Nat.not_lt_zero u)
  | n + 1 => by
    show tl (orL f n ||| f n) j = true ↔ _
    rw [tl_or, Bool.or_eq_true, tl_orL]
    constructor
    · rintro (⟨u, a, b⟩ | b)
      · exact ⟨u, by omega, b⟩
      · exact ⟨n, by omega, b⟩
    · rintro ⟨u, a, b⟩
      rcases Nat.lt_or_ge u n with w | w
      · exact Or.inl ⟨u, w, b⟩
      · exact Or.inr (by rw [show n = u by omega]; exact b)
theorem cm_cell {A : xH} {n q j : Nat} {T : Nat → Nat → Nat → Prop} (h : isST A n T) (hq : q < n) (e : Nat) (he : e < 2) (hj : j < 64) : tl (orL (fun u => xl A 43 (q * 10 + 2 * u + e)) 5) j = bt (∃ s, s < 24 ∧ T (64 * e + j) s q) := by
  refine b_ext (tl_orL.trans (Iff.trans ?_ bt_iff.symm))
  have key : ∀ u, u < 5 → (tl (xl A 43 (q * 10 + 2 * u + e)) j = true ↔ ∃ s, s < 24 ∧ uS5 s = u ∧ T (64 * e + j) s q) := fun u hu => by
    have := h.2 q u (64 * e + j) hq hu (by omega)
    rw [show (q * 5 + u) * 2 + (64 * e + j) / 64 = q * 10 + 2 * u + e by omega, show (64 * e + j) % 64 = j by omega] at this
    exact this
  constructor
  · rintro ⟨u, hu, w⟩
    obtain ⟨s, a, -, b⟩ := (key u hu).mp w
    exact ⟨s, a, b⟩
  · rintro ⟨s, a, b⟩
    exact ⟨uS5 s, uS5_lt a, (key _ (uS5_lt a)).mpr ⟨s, a, rfl, b⟩⟩
theorem cm_pc {A : xH} {n q : Nat} {T : Nat → Nat → Nat → Prop} (h : isST A n T) (hq : q < n) : cmN T q = pc (orL (fun u => xl A 43 (q * 10 + 2 * u + 0)) 5) + pc (orL (fun u => xl A 43 (q * 10 + 2 * u + 1)) 5) := by
  show cb _ (64 + 64) = _
  rw [cb_add]
  unfold pc
  rw [cb_congr (g := tl (orL (fun u => xl A 43 (q * 10 + 2 * u + 0)) 5)) fun j hj => ?_, cb_congr (f := fun j => (fun p => bt (∃ s, s < 24 ∧ T p s q)) (64 + j)) (g := tl (orL (fun u => xl A 43 (q * 10 + 2 * u + 1)) 5)) fun j hj => ?_]
  · rw [cm_cell h hq 1 (by omega) hj, show 64 * 1 + j = 64 + j by omega]
  · rw [cm_cell h hq 0 (by omega) hj, show 64 * 0 + j = j by omega]
def f_X7_comersTo (q : Nat) (p : Int32) (A : xH) (P : xP) : Prop := q = 39 ∧ ∃ T n k, isST A n T ∧ n ≤ 80 ∧ p = nI k ∧ k < n ∧ P (some (.int (nI (cmN T k)))) A
def cm11 (A : xH) (P : xP) : xM → xK := fun μ L st B => ∃ T n k t, isST A n T ∧ n ≤ 80 ∧ k < n ∧ P (some (.int (nI (cmN T k)))) A ∧ t ≤ 5 ∧ B = A ∧ st = [] ∧ L = [some (.ref 39), some (.int (nI k)), some (.long (orL (fun u => xl A 43 (k * 10 + 2 * u + 0)) t)), none, some (.long (orL (fun u => xl A 43 (k * 10 + 2 * u + 1)) t)), none, some (.int (nI (k * 10 + 2 * t)))] ∧ μ = (5 - t, 0, 0)
set_option maxRecDepth 20000 in
theorem con_X7_comersTo (l : Launch) : xCon l yX7_comersTo cX7_comersTo 7 (some .int) 1 21 xN xN 0 xFT xFT (w_RI f_X7_comersTo) := by
  refine m_X7_comersTo (I11 := fun q p A P => cm11 A P) ?_ ?_
  · rintro q p A P ⟨rfl, T, n, k, h, hn, rfl, hk, hP⟩
    simp (disch := omega) only [k_X7_comersTo_0, k_X7_comersTo_11, f_J13_bitCount_95d88, w_J, x_aload, x_cs1, x_iadd, x_icmp_ge, x_iinc, x_iload, x_imul, x_iret, x_istore, x_lload, x_lor, x_lstore, x_push, y_getF, y_lald, xFT, xbool0, xbool1, Nat.reduceAdd, Nat.zero_add, xgl_0, xgl_s, xgl_n, xst_0, xst_1n, xst_1i, xst_1r, xst_1l, xst_s, set_0, set_s, true_and, and_true, xres, xcat_nil, xcat_i, xcat_r, xcat_l, Nat.add_zero, xble0, xble1, xble2, xble3, xble4, xble5, xble6, xble7, xble8, pk_mul, nI_add, nI_1, nI_leI, nI_ltI, nI_eq, n_in, n_cl, z_eq, z_lt, z_le, z_gt, z_ge, z_qe, o_eq, o_lt, o_le, o_gt, o_ge, vp0, vp1, cl0, cl1, n_sub, n_sub1, n_pm1, n_a0, n_0a, ofn, lN0, Nat.reduceLT, Nat.reduceLeDiff, Nat.reduceMul, Nat.reduceSub, Nat.reduceEqDiff, ne_eq, true_implies, false_implies, not_true_eq_false, not_false_eq_true, and_self, and_true, true_and, and_false, false_and, implies_true, if_true, if_false, i00, i10, i01, i11, ob_0, ob_1, tn_2, ln_2, ob_3, tn_4, ln_4, ob_5, tn_6, ln_6, tn_7, ln_7, ob_8, tn_9, ln_9, tn_10, ln_10, tn_11, ln_11, tn_12, ln_12, tn_13, ln_13, tn_14, ln_14, tn_15, ln_15, tn_16, ln_16, tn_17, ln_17, ob_18, tn_19, ln_19, tn_20, ln_20, tn_21, ln_21, tn_22, ln_22, tn_23, ln_23, tn_24, ln_24, tn_25, ln_25, tn_26, ln_26, tn_27, ln_27, ob_28, tn_29, ln_29, tn_30, ln_30, ob_31, tn_32, ln_32, tn_33, ln_33, ob_34, ob_35, tn_36, ln_36, tn_37, ln_37, tn_38, ln_38, ob_39, tn_40, ln_40, tn_41, ln_41, tn_42, ln_42, tn_43, ln_43, tn_44, ln_44, tn_45, ln_45, tn_46, ln_46, tn_47, ln_47, tn_48, ln_48, tn_49, ln_49, tn_50, ln_50, tn_51, ln_51, ob_52, tn_53, ln_53, tn_54, ln_54, tn_55, ln_55, tn_56, ln_56, ob_57, tn_58, ln_58, tn_59, ln_59, tn_60, ln_60, tn_61, ln_61, tn_62, ln_62, tn_63, ln_63, tn_64, ln_64, tn_65, ln_65, ob_66, tn_67, ln_67, tn_68, ln_68, tn_69, ln_69, tn_70, ln_70, tn_71, ln_71, tn_72, ln_72, tn_73, ln_73, ob_74, tn_75, ln_75, tn_76, ln_76, tn_77, ln_77, tn_78, ln_78, tn_79, ln_79, tn_80, ln_80, tn_81, ln_81, tn_82, ln_82, tn_83, ln_83, ob_84, tn_85, ln_85, tn_86, ln_86, tn_87, ln_87, tn_88, ln_88, tn_89, ln_89, tn_90, ln_90, tn_91, ln_91, tn_92, ln_92, tn_93, ln_93, ob_94, tn_95, ln_95, tn_96, ln_96, tn_97, ln_97, tn_98, ln_98, tn_99, ln_99, tn_100, ln_100, tn_101, ln_101, tn_102, ln_102, tn_103, ln_103, ob_104, tn_105, ln_105, tn_106, ln_106, tn_107, ln_107, tn_108, ln_108, tn_109, ln_109, tn_110, ln_110, tn_111, ln_111, tn_112, ln_112, tn_113, ln_113, ob_114, tn_115, ln_115, tn_116, ln_116, tn_117, ln_117, tn_118, ln_118, tn_119, ln_119, tn_120, ln_120, tn_121, ln_121, tn_122, ln_122, tn_123, ln_123, ob_124, tn_125, ln_125, tn_126, ln_126, tn_127, ln_127, tn_128, ln_128, tn_129, ln_129, tn_130, ln_130, tn_131, ln_131, tn_132, ln_132, tn_133, ln_133, ob_134, tn_135, ln_135, tn_136, ln_136, tn_137, ln_137, tn_138, ln_138, tn_139, ln_139, tn_140, ln_140, tn_141, ln_141, tn_142, ln_142, tn_143, ln_143, ob_144, tn_145, ln_145, tn_146, ln_146, tn_147, ln_147, tn_148, ln_148, tn_149, ln_149, tn_150, ln_150, tn_151, ln_151, tn_152, ln_152, tn_153, ln_153, ob_154, tn_155, ln_155, tn_156, ln_156, tn_157, ln_157, tn_158, ln_158, tn_159, ln_159, tn_160, ln_160, tn_161, ln_161, tn_162, ln_162, tn_163, ln_163, ob_164, tn_165, ln_165, tn_166, ln_166, ob_167, tn_168, ln_168, tn_169, ln_169, tn_170, ln_170, tn_171, ln_171, tn_172, ln_172, tn_173, ln_173, tn_174, ln_174, tn_175, ln_175, tn_176, ln_176, ob_177, tn_178, ln_178, tn_179, ln_179, ob_180, tn_181, ln_181, tn_182, ln_182, tn_183, ln_183, tn_184, ln_184, tn_185, ln_185, tn_186, ln_186, tn_187, ln_187, tn_188, ln_188, tn_189, ln_189, tn_190, ln_190, tn_191, ln_191, tn_192, ln_192, tn_193, ln_193, tn_194, ln_194, tn_195, ln_195, tn_196, ln_196, tn_197, ln_197, tn_198, ln_198, tn_199, ln_199, tn_200, ln_200, tn_201, ln_201, tn_202, ln_202, tn_203, ln_203, tn_204, ln_204, tn_205, ln_205, tn_206, ln_206, tn_207, ln_207, tn_208, ln_208, tn_209, ln_209, tn_210, ln_210, tn_211, ln_211, tn_212, ln_212, tn_213, ln_213, tn_214, ln_214, tn_215, ln_215, tn_216, ln_216, tn_217, ln_217, tn_218, ln_218, tn_219, ln_219, tn_220, ln_220, tn_221, ln_221, tn_222, ln_222, tn_223, ln_223, tn_224, ln_224, tn_225, ln_225, tn_226, ln_226, tn_227, ln_227, tn_228, ln_228, tn_229, ln_229, tn_230, ln_230, lx2, lx3, lx4, lx5, lx6, lx7, lx8, lx9, lx10, lx14, lx15, lx16, lx18, lx20, lx24, lx25, lx27, lx32, lx36, lx40, lx41, lx42, lx43, lx45, lx48, lx52, lx54, lx56, lx57, lx58, lx60, lx61, lx62, lx63, lx64, lx66, lx69, lx73, lx80, lx81, lx84, lx85, lx87, lx94, lx96, lx97, lx120, lx128, lx135, lx160, lx162, lx163, lx165, lx200, lx232, lx242, lx243, lx255, lx256, lx320, lx325, lx400, lx405, lx464, lx512, lx600, lx640, lx752, lx900, lx940, lx1000, lx1024, lx1764, lx3360, lx3840, lx5000, lx6400, lx9050, lx9998, lx9999, lx10000, lx25600, lx76800, lx99999]
    exact xE0 (5 - 0, 0, 0) ⟨T, n, k, 0, h, hn, hk, hP, by omega, rfl, rfl, rfl, rfl⟩
  · rintro q p A P - μ L st B ⟨T, n, k, t, h, hn, hk, hP, ht, rfl, rfl, rfl, rfl⟩
    simp (disch := omega) only [k_X7_comersTo_0, k_X7_comersTo_11, w_J, x_aload, x_cs1, x_iadd, x_icmp_ge, x_iinc, x_iload, x_imul, x_iret, x_istore, x_lload, x_lor, x_lstore, x_push, y_getF, y_lald, xFT, xbool0, xbool1, Nat.reduceAdd, Nat.zero_add, xgl_0, xgl_s, xgl_n, xst_0, xst_1n, xst_1i, xst_1r, xst_1l, xst_s, set_0, set_s, true_and, and_true, xres, xcat_nil, xcat_i, xcat_r, xcat_l, Nat.add_zero, xble0, xble1, xble2, xble3, xble4, xble5, xble6, xble7, xble8, pk_mul, nI_add, nI_1, nI_leI, nI_ltI, nI_eq, n_in, n_cl, z_eq, z_lt, z_le, z_gt, z_ge, z_qe, o_eq, o_lt, o_le, o_gt, o_ge, vp0, vp1, cl0, cl1, n_sub, n_sub1, n_pm1, n_a0, n_0a, ofn, lN0, Nat.reduceLT, Nat.reduceLeDiff, Nat.reduceMul, Nat.reduceSub, Nat.reduceEqDiff, ne_eq, true_implies, false_implies, not_true_eq_false, not_false_eq_true, and_self, and_true, true_and, and_false, false_and, implies_true, if_true, if_false, i00, i10, i01, i11, ob_0, ob_1, tn_2, ln_2, ob_3, tn_4, ln_4, ob_5, tn_6, ln_6, tn_7, ln_7, ob_8, tn_9, ln_9, tn_10, ln_10, tn_11, ln_11, tn_12, ln_12, tn_13, ln_13, tn_14, ln_14, tn_15, ln_15, tn_16, ln_16, tn_17, ln_17, ob_18, tn_19, ln_19, tn_20, ln_20, tn_21, ln_21, tn_22, ln_22, tn_23, ln_23, tn_24, ln_24, tn_25, ln_25, tn_26, ln_26, tn_27, ln_27, ob_28, tn_29, ln_29, tn_30, ln_30, ob_31, tn_32, ln_32, tn_33, ln_33, ob_34, ob_35, tn_36, ln_36, tn_37, ln_37, tn_38, ln_38, ob_39, tn_40, ln_40, tn_41, ln_41, tn_42, ln_42, tn_43, ln_43, tn_44, ln_44, tn_45, ln_45, tn_46, ln_46, tn_47, ln_47, tn_48, ln_48, tn_49, ln_49, tn_50, ln_50, tn_51, ln_51, ob_52, tn_53, ln_53, tn_54, ln_54, tn_55, ln_55, tn_56, ln_56, ob_57, tn_58, ln_58, tn_59, ln_59, tn_60, ln_60, tn_61, ln_61, tn_62, ln_62, tn_63, ln_63, tn_64, ln_64, tn_65, ln_65, ob_66, tn_67, ln_67, tn_68, ln_68, tn_69, ln_69, tn_70, ln_70, tn_71, ln_71, tn_72, ln_72, tn_73, ln_73, ob_74, tn_75, ln_75, tn_76, ln_76, tn_77, ln_77, tn_78, ln_78, tn_79, ln_79, tn_80, ln_80, tn_81, ln_81, tn_82, ln_82, tn_83, ln_83, ob_84, tn_85, ln_85, tn_86, ln_86, tn_87, ln_87, tn_88, ln_88, tn_89, ln_89, tn_90, ln_90, tn_91, ln_91, tn_92, ln_92, tn_93, ln_93, ob_94, tn_95, ln_95, tn_96, ln_96, tn_97, ln_97, tn_98, ln_98, tn_99, ln_99, tn_100, ln_100, tn_101, ln_101, tn_102, ln_102, tn_103, ln_103, ob_104, tn_105, ln_105, tn_106, ln_106, tn_107, ln_107, tn_108, ln_108, tn_109, ln_109, tn_110, ln_110, tn_111, ln_111, tn_112, ln_112, tn_113, ln_113, ob_114, tn_115, ln_115, tn_116, ln_116, tn_117, ln_117, tn_118, ln_118, tn_119, ln_119, tn_120, ln_120, tn_121, ln_121, tn_122, ln_122, tn_123, ln_123, ob_124, tn_125, ln_125, tn_126, ln_126, tn_127, ln_127, tn_128, ln_128, tn_129, ln_129, tn_130, ln_130, tn_131, ln_131, tn_132, ln_132, tn_133, ln_133, ob_134, tn_135, ln_135, tn_136, ln_136, tn_137, ln_137, tn_138, ln_138, tn_139, ln_139, tn_140, ln_140, tn_141, ln_141, tn_142, ln_142, tn_143, ln_143, ob_144, tn_145, ln_145, tn_146, ln_146, tn_147, ln_147, tn_148, ln_148, tn_149, ln_149, tn_150, ln_150, tn_151, ln_151, tn_152, ln_152, tn_153, ln_153, ob_154, tn_155, ln_155, tn_156, ln_156, tn_157, ln_157, tn_158, ln_158, tn_159, ln_159, tn_160, ln_160, tn_161, ln_161, tn_162, ln_162, tn_163, ln_163, ob_164, tn_165, ln_165, tn_166, ln_166, ob_167, tn_168, ln_168, tn_169, ln_169, tn_170, ln_170, tn_171, ln_171, tn_172, ln_172, tn_173, ln_173, tn_174, ln_174, tn_175, ln_175, tn_176, ln_176, ob_177, tn_178, ln_178, tn_179, ln_179, ob_180, tn_181, ln_181, tn_182, ln_182, tn_183, ln_183, tn_184, ln_184, tn_185, ln_185, tn_186, ln_186, tn_187, ln_187, tn_188, ln_188, tn_189, ln_189, tn_190, ln_190, tn_191, ln_191, tn_192, ln_192, tn_193, ln_193, tn_194, ln_194, tn_195, ln_195, tn_196, ln_196, tn_197, ln_197, tn_198, ln_198, tn_199, ln_199, tn_200, ln_200, tn_201, ln_201, tn_202, ln_202, tn_203, ln_203, tn_204, ln_204, tn_205, ln_205, tn_206, ln_206, tn_207, ln_207, tn_208, ln_208, tn_209, ln_209, tn_210, ln_210, tn_211, ln_211, tn_212, ln_212, tn_213, ln_213, tn_214, ln_214, tn_215, ln_215, tn_216, ln_216, tn_217, ln_217, tn_218, ln_218, tn_219, ln_219, tn_220, ln_220, tn_221, ln_221, tn_222, ln_222, tn_223, ln_223, tn_224, ln_224, tn_225, ln_225, tn_226, ln_226, tn_227, ln_227, tn_228, ln_228, tn_229, ln_229, tn_230, ln_230, lx2, lx3, lx4, lx5, lx6, lx7, lx8, lx9, lx10, lx14, lx15, lx16, lx18, lx20, lx24, lx25, lx27, lx32, lx36, lx40, lx41, lx42, lx43, lx45, lx48, lx52, lx54, lx56, lx57, lx58, lx60, lx61, lx62, lx63, lx64, lx66, lx69, lx73, lx80, lx81, lx84, lx85, lx87, lx94, lx96, lx97, lx120, lx128, lx135, lx160, lx162, lx163, lx165, lx200, lx232, lx242, lx243, lx255, lx256, lx320, lx325, lx400, lx405, lx464, lx512, lx600, lx640, lx752, lx900, lx940, lx1000, lx1024, lx1764, lx3360, lx3840, lx5000, lx6400, lx9050, lx9998, lx9999, lx10000, lx25600, lx76800, lx99999]
    refine ⟨fun z => bitCount_A ⟨rfl, bitCount_A ?_⟩, fun z => ⟨by omega, by omega, ?_⟩⟩
    · have e5 : t = 5 := by omega
      subst e5
      have c1 := cm_pc h hk
      rw [c1] at hP
      simp (disch := omega) only [k_X7_comersTo_0, k_X7_comersTo_11, w_J, x_aload, x_cs1, x_iadd, x_icmp_ge, x_iinc, x_iload, x_imul, x_iret, x_istore, x_lload, x_lor, x_lstore, x_push, y_getF, y_lald, xFT, xbool0, xbool1, Nat.reduceAdd, Nat.zero_add, xgl_0, xgl_s, xgl_n, xst_0, xst_1n, xst_1i, xst_1r, xst_1l, xst_s, set_0, set_s, true_and, and_true, xres, xcat_nil, xcat_i, xcat_r, xcat_l, Nat.add_zero, xble0, xble1, xble2, xble3, xble4, xble5, xble6, xble7, xble8, pk_mul, nI_add, nI_1, nI_leI, nI_ltI, nI_eq, n_in, n_cl, z_eq, z_lt, z_le, z_gt, z_ge, z_qe, o_eq, o_lt, o_le, o_gt, o_ge, vp0, vp1, cl0, cl1, n_sub, n_sub1, n_pm1, n_a0, n_0a, ofn, lN0, Nat.reduceLT, Nat.reduceLeDiff, Nat.reduceMul, Nat.reduceSub, Nat.reduceEqDiff, ne_eq, true_implies, false_implies, not_true_eq_false, not_false_eq_true, and_self, and_true, true_and, and_false, false_and, implies_true, if_true, if_false, i00, i10, i01, i11, ob_0, ob_1, tn_2, ln_2, ob_3, tn_4, ln_4, ob_5, tn_6, ln_6, tn_7, ln_7, ob_8, tn_9, ln_9, tn_10, ln_10, tn_11, ln_11, tn_12, ln_12, tn_13, ln_13, tn_14, ln_14, tn_15, ln_15, tn_16, ln_16, tn_17, ln_17, ob_18, tn_19, ln_19, tn_20, ln_20, tn_21, ln_21, tn_22, ln_22, tn_23, ln_23, tn_24, ln_24, tn_25, ln_25, tn_26, ln_26, tn_27, ln_27, ob_28, tn_29, ln_29, tn_30, ln_30, ob_31, tn_32, ln_32, tn_33, ln_33, ob_34, ob_35, tn_36, ln_36, tn_37, ln_37, tn_38, ln_38, ob_39, tn_40, ln_40, tn_41, ln_41, tn_42, ln_42, tn_43, ln_43, tn_44, ln_44, tn_45, ln_45, tn_46, ln_46, tn_47, ln_47, tn_48, ln_48, tn_49, ln_49, tn_50, ln_50, tn_51, ln_51, ob_52, tn_53, ln_53, tn_54, ln_54, tn_55, ln_55, tn_56, ln_56, ob_57, tn_58, ln_58, tn_59, ln_59, tn_60, ln_60, tn_61, ln_61, tn_62, ln_62, tn_63, ln_63, tn_64, ln_64, tn_65, ln_65, ob_66, tn_67, ln_67, tn_68, ln_68, tn_69, ln_69, tn_70, ln_70, tn_71, ln_71, tn_72, ln_72, tn_73, ln_73, ob_74, tn_75, ln_75, tn_76, ln_76, tn_77, ln_77, tn_78, ln_78, tn_79, ln_79, tn_80, ln_80, tn_81, ln_81, tn_82, ln_82, tn_83, ln_83, ob_84, tn_85, ln_85, tn_86, ln_86, tn_87, ln_87, tn_88, ln_88, tn_89, ln_89, tn_90, ln_90, tn_91, ln_91, tn_92, ln_92, tn_93, ln_93, ob_94, tn_95, ln_95, tn_96, ln_96, tn_97, ln_97, tn_98, ln_98, tn_99, ln_99, tn_100, ln_100, tn_101, ln_101, tn_102, ln_102, tn_103, ln_103, ob_104, tn_105, ln_105, tn_106, ln_106, tn_107, ln_107, tn_108, ln_108, tn_109, ln_109, tn_110, ln_110, tn_111, ln_111, tn_112, ln_112, tn_113, ln_113, ob_114, tn_115, ln_115, tn_116, ln_116, tn_117, ln_117, tn_118, ln_118, tn_119, ln_119, tn_120, ln_120, tn_121, ln_121, tn_122, ln_122, tn_123, ln_123, ob_124, tn_125, ln_125, tn_126, ln_126, tn_127, ln_127, tn_128, ln_128, tn_129, ln_129, tn_130, ln_130, tn_131, ln_131, tn_132, ln_132, tn_133, ln_133, ob_134, tn_135, ln_135, tn_136, ln_136, tn_137, ln_137, tn_138, ln_138, tn_139, ln_139, tn_140, ln_140, tn_141, ln_141, tn_142, ln_142, tn_143, ln_143, ob_144, tn_145, ln_145, tn_146, ln_146, tn_147, ln_147, tn_148, ln_148, tn_149, ln_149, tn_150, ln_150, tn_151, ln_151, tn_152, ln_152, tn_153, ln_153, ob_154, tn_155, ln_155, tn_156, ln_156, tn_157, ln_157, tn_158, ln_158, tn_159, ln_159, tn_160, ln_160, tn_161, ln_161, tn_162, ln_162, tn_163, ln_163, ob_164, tn_165, ln_165, tn_166, ln_166, ob_167, tn_168, ln_168, tn_169, ln_169, tn_170, ln_170, tn_171, ln_171, tn_172, ln_172, tn_173, ln_173, tn_174, ln_174, tn_175, ln_175, tn_176, ln_176, ob_177, tn_178, ln_178, tn_179, ln_179, ob_180, tn_181, ln_181, tn_182, ln_182, tn_183, ln_183, tn_184, ln_184, tn_185, ln_185, tn_186, ln_186, tn_187, ln_187, tn_188, ln_188, tn_189, ln_189, tn_190, ln_190, tn_191, ln_191, tn_192, ln_192, tn_193, ln_193, tn_194, ln_194, tn_195, ln_195, tn_196, ln_196, tn_197, ln_197, tn_198, ln_198, tn_199, ln_199, tn_200, ln_200, tn_201, ln_201, tn_202, ln_202, tn_203, ln_203, tn_204, ln_204, tn_205, ln_205, tn_206, ln_206, tn_207, ln_207, tn_208, ln_208, tn_209, ln_209, tn_210, ln_210, tn_211, ln_211, tn_212, ln_212, tn_213, ln_213, tn_214, ln_214, tn_215, ln_215, tn_216, ln_216, tn_217, ln_217, tn_218, ln_218, tn_219, ln_219, tn_220, ln_220, tn_221, ln_221, tn_222, ln_222, tn_223, ln_223, tn_224, ln_224, tn_225, ln_225, tn_226, ln_226, tn_227, ln_227, tn_228, ln_228, tn_229, ln_229, tn_230, ln_230, lx2, lx3, lx4, lx5, lx6, lx7, lx8, lx9, lx10, lx14, lx15, lx16, lx18, lx20, lx24, lx25, lx27, lx32, lx36, lx40, lx41, lx42, lx43, lx45, lx48, lx52, lx54, lx56, lx57, lx58, lx60, lx61, lx62, lx63, lx64, lx66, lx69, lx73, lx80, lx81, lx84, lx85, lx87, lx94, lx96, lx97, lx120, lx128, lx135, lx160, lx162, lx163, lx165, lx200, lx232, lx242, lx243, lx255, lx256, lx320, lx325, lx400, lx405, lx464, lx512, lx600, lx640, lx752, lx900, lx940, lx1000, lx1024, lx1764, lx3360, lx3840, lx5000, lx6400, lx9050, lx9998, lx9999, lx10000, lx25600, lx76800, lx99999]
      exact hP
    · exact xB1 (b := 5 - (t + 1)) (by omega) ⟨T, n, k, t + 1, h, hn, hk, hP, by omega, rfl, rfl, rfl, rfl⟩
def f_X7_stepAt (q : Nat) (p i w : Int32) (A : xH) (P : xP) : Prop := q = 39 ∧ ∃ T n k m wh, isST A n T ∧ n ≤ 80 ∧ p = nI k ∧ k < n ∧ i = nI m ∧ m < 2 ^ 31 ∧ w = nI wh ∧ wh < 2 ∧ (∀ x, x < 3072 → tX T k x = true → cb (tX T k) x = m → P (some (.int (nI (if wh = 0 then sc (x / 128) else x % 128)))) A) ∧ (tN T k ≤ m → P (some (.int (-1))) A)
def sa6 (A : xH) (P : xP) : xM → xK := fun μ L st B => ∃ T n k m wh t L6 L7 L8, isST A n T ∧ n ≤ 80 ∧ k < n ∧ m < 2 ^ 31 ∧ wh < 2 ∧ (∀ x, x < 3072 → tX T k x = true → cb (tX T k) x = m → P (some (.int (nI (if wh = 0 then sc (x / 128) else x % 128)))) A) ∧ (tN T k ≤ m → P (some (.int (-1))) A) ∧ t ≤ 48 ∧ cb (tX T k) (64 * t) ≤ m ∧ B = A ∧ st = [] ∧ L = [some (.ref 39), some (.int (nI k)), some (.int (nI m)), some (.int (nI wh)), some (.int (nI (m - cb (tX T k) (64 * t)))), some (.int (nI t)), L6, L7, L8] ∧ μ = (48 - t, 0, 0)
set_option maxRecDepth 20000 in
theorem con_X7_stepAt (l : Launch) : xCon l yX7_stepAt cX7_stepAt 9 (some .int) 2 46 xN xN 0 xFT xFT (w_RIII f_X7_stepAt) := by
  refine m_X7_stepAt (I6 := fun q p i w A P => sa6 A P) ?_ ?_
  · rintro q p i w A P ⟨rfl, T, n, k, m, wh, h, hn, rfl, hk, rfl, hm, rfl, hwh, hP, hP2⟩
    simp (disch := omega) only [k_X7_stepAt_0, k_X7_stepAt_6, k_X7_stepAt_72, f_J13_bitCount_95d88, f_X7_sortCode, w_I, w_J, w_JI, x_aload, x_cs1, x_cs2, x_iadd, x_iand, x_icmp_ge, x_if_ne, x_iinc, x_iload, x_imul, x_iret, x_ishr, x_istore, x_isub, x_lload, x_lstore, x_push, y_getF, y_lald, xFT, xbool0, xbool1, Nat.reduceAdd, Nat.zero_add, xgl_0, xgl_s, xgl_n, xst_0, xst_1n, xst_1i, xst_1r, xst_1l, xst_s, set_0, set_s, true_and, and_true, xres, xcat_nil, xcat_i, xcat_r, xcat_l, Nat.add_zero, xble0, xble1, xble2, xble3, xble4, xble5, xble6, xble7, xble8, pk_mul, nI_add, nI_1, nI_leI, nI_ltI, nI_eq, n_in, n_cl, z_eq, z_lt, z_le, z_gt, z_ge, z_qe, o_eq, o_lt, o_le, o_gt, o_ge, vp0, vp1, cl0, cl1, n_sub, n_sub1, n_pm1, n_a0, n_0a, ofn, lN0, Nat.reduceLT, Nat.reduceLeDiff, Nat.reduceMul, Nat.reduceSub, Nat.reduceEqDiff, ne_eq, true_implies, false_implies, not_true_eq_false, not_false_eq_true, and_self, and_true, true_and, and_false, false_and, implies_true, if_true, if_false, i00, i10, i01, i11, ob_0, ob_1, tn_2, ln_2, ob_3, tn_4, ln_4, ob_5, tn_6, ln_6, tn_7, ln_7, ob_8, tn_9, ln_9, tn_10, ln_10, tn_11, ln_11, tn_12, ln_12, tn_13, ln_13, tn_14, ln_14, tn_15, ln_15, tn_16, ln_16, tn_17, ln_17, ob_18, tn_19, ln_19, tn_20, ln_20, tn_21, ln_21, tn_22, ln_22, tn_23, ln_23, tn_24, ln_24, tn_25, ln_25, tn_26, ln_26, tn_27, ln_27, ob_28, tn_29, ln_29, tn_30, ln_30, ob_31, tn_32, ln_32, tn_33, ln_33, ob_34, ob_35, tn_36, ln_36, tn_37, ln_37, tn_38, ln_38, ob_39, tn_40, ln_40, tn_41, ln_41, tn_42, ln_42, tn_43, ln_43, tn_44, ln_44, tn_45, ln_45, tn_46, ln_46, tn_47, ln_47, tn_48, ln_48, tn_49, ln_49, tn_50, ln_50, tn_51, ln_51, ob_52, tn_53, ln_53, tn_54, ln_54, tn_55, ln_55, tn_56, ln_56, ob_57, tn_58, ln_58, tn_59, ln_59, tn_60, ln_60, tn_61, ln_61, tn_62, ln_62, tn_63, ln_63, tn_64, ln_64, tn_65, ln_65, ob_66, tn_67, ln_67, tn_68, ln_68, tn_69, ln_69, tn_70, ln_70, tn_71, ln_71, tn_72, ln_72, tn_73, ln_73, ob_74, tn_75, ln_75, tn_76, ln_76, tn_77, ln_77, tn_78, ln_78, tn_79, ln_79, tn_80, ln_80, tn_81, ln_81, tn_82, ln_82, tn_83, ln_83, ob_84, tn_85, ln_85, tn_86, ln_86, tn_87, ln_87, tn_88, ln_88, tn_89, ln_89, tn_90, ln_90, tn_91, ln_91, tn_92, ln_92, tn_93, ln_93, ob_94, tn_95, ln_95, tn_96, ln_96, tn_97, ln_97, tn_98, ln_98, tn_99, ln_99, tn_100, ln_100, tn_101, ln_101, tn_102, ln_102, tn_103, ln_103, ob_104, tn_105, ln_105, tn_106, ln_106, tn_107, ln_107, tn_108, ln_108, tn_109, ln_109, tn_110, ln_110, tn_111, ln_111, tn_112, ln_112, tn_113, ln_113, ob_114, tn_115, ln_115, tn_116, ln_116, tn_117, ln_117, tn_118, ln_118, tn_119, ln_119, tn_120, ln_120, tn_121, ln_121, tn_122, ln_122, tn_123, ln_123, ob_124, tn_125, ln_125, tn_126, ln_126, tn_127, ln_127, tn_128, ln_128, tn_129, ln_129, tn_130, ln_130, tn_131, ln_131, tn_132, ln_132, tn_133, ln_133, ob_134, tn_135, ln_135, tn_136, ln_136, tn_137, ln_137, tn_138, ln_138, tn_139, ln_139, tn_140, ln_140, tn_141, ln_141, tn_142, ln_142, tn_143, ln_143, ob_144, tn_145, ln_145, tn_146, ln_146, tn_147, ln_147, tn_148, ln_148, tn_149, ln_149, tn_150, ln_150, tn_151, ln_151, tn_152, ln_152, tn_153, ln_153, ob_154, tn_155, ln_155, tn_156, ln_156, tn_157, ln_157, tn_158, ln_158, tn_159, ln_159, tn_160, ln_160, tn_161, ln_161, tn_162, ln_162, tn_163, ln_163, ob_164, tn_165, ln_165, tn_166, ln_166, ob_167, tn_168, ln_168, tn_169, ln_169, tn_170, ln_170, tn_171, ln_171, tn_172, ln_172, tn_173, ln_173, tn_174, ln_174, tn_175, ln_175, tn_176, ln_176, ob_177, tn_178, ln_178, tn_179, ln_179, ob_180, tn_181, ln_181, tn_182, ln_182, tn_183, ln_183, tn_184, ln_184, tn_185, ln_185, tn_186, ln_186, tn_187, ln_187, tn_188, ln_188, tn_189, ln_189, tn_190, ln_190, tn_191, ln_191, tn_192, ln_192, tn_193, ln_193, tn_194, ln_194, tn_195, ln_195, tn_196, ln_196, tn_197, ln_197, tn_198, ln_198, tn_199, ln_199, tn_200, ln_200, tn_201, ln_201, tn_202, ln_202, tn_203, ln_203, tn_204, ln_204, tn_205, ln_205, tn_206, ln_206, tn_207, ln_207, tn_208, ln_208, tn_209, ln_209, tn_210, ln_210, tn_211, ln_211, tn_212, ln_212, tn_213, ln_213, tn_214, ln_214, tn_215, ln_215, tn_216, ln_216, tn_217, ln_217, tn_218, ln_218, tn_219, ln_219, tn_220, ln_220, tn_221, ln_221, tn_222, ln_222, tn_223, ln_223, tn_224, ln_224, tn_225, ln_225, tn_226, ln_226, tn_227, ln_227, tn_228, ln_228, tn_229, ln_229, tn_230, ln_230, lx2, lx3, lx4, lx5, lx6, lx7, lx8, lx9, lx10, lx14, lx15, lx16, lx18, lx20, lx24, lx25, lx27, lx32, lx36, lx40, lx41, lx42, lx43, lx45, lx48, lx52, lx54, lx56, lx57, lx58, lx60, lx61, lx62, lx63, lx64, lx66, lx69, lx73, lx80, lx81, lx84, lx85, lx87, lx94, lx96, lx97, lx120, lx128, lx135, lx160, lx162, lx163, lx165, lx200, lx232, lx242, lx243, lx255, lx256, lx320, lx325, lx400, lx405, lx464, lx512, lx600, lx640, lx752, lx900, lx940, lx1000, lx1024, lx1764, lx3360, lx3840, lx5000, lx6400, lx9050, lx9998, lx9999, lx10000, lx25600, lx76800, lx99999]
    exact xE0 (48 - 0, 0, 0) ⟨T, n, k, m, wh, 0, _, _, _, h, hn, hk, hm, hwh, hP, hP2, by omega, Nat.zero_le _, rfl, rfl, rfl, rfl⟩
  · rintro q p i w A P - μ L st B ⟨T, n, k, m, wh, t, L6, L7, L8, h, hn, hk, hm, hwh, hP, hP2, ht, hc, rfl, rfl, rfl, rfl⟩
    simp (disch := omega) only [k_X7_stepAt_0, k_X7_stepAt_6, k_X7_stepAt_72, w_I, w_J, w_JI, x_aload, x_cs1, x_cs2, x_iadd, x_iand, x_icmp_ge, x_if_ne, x_iinc, x_iload, x_imul, x_iret, x_ishr, x_istore, x_isub, x_lload, x_lstore, x_push, y_getF, y_lald, xFT, xbool0, xbool1, Nat.reduceAdd, Nat.zero_add, xgl_0, xgl_s, xgl_n, xst_0, xst_1n, xst_1i, xst_1r, xst_1l, xst_s, set_0, set_s, true_and, and_true, xres, xcat_nil, xcat_i, xcat_r, xcat_l, Nat.add_zero, xble0, xble1, xble2, xble3, xble4, xble5, xble6, xble7, xble8, pk_mul, nI_add, nI_1, nI_leI, nI_ltI, nI_eq, n_in, n_cl, z_eq, z_lt, z_le, z_gt, z_ge, z_qe, o_eq, o_lt, o_le, o_gt, o_ge, vp0, vp1, cl0, cl1, n_sub, n_sub1, n_pm1, n_a0, n_0a, ofn, lN0, Nat.reduceLT, Nat.reduceLeDiff, Nat.reduceMul, Nat.reduceSub, Nat.reduceEqDiff, ne_eq, true_implies, false_implies, not_true_eq_false, not_false_eq_true, and_self, and_true, true_and, and_false, false_and, implies_true, if_true, if_false, i00, i10, i01, i11, ob_0, ob_1, tn_2, ln_2, ob_3, tn_4, ln_4, ob_5, tn_6, ln_6, tn_7, ln_7, ob_8, tn_9, ln_9, tn_10, ln_10, tn_11, ln_11, tn_12, ln_12, tn_13, ln_13, tn_14, ln_14, tn_15, ln_15, tn_16, ln_16, tn_17, ln_17, ob_18, tn_19, ln_19, tn_20, ln_20, tn_21, ln_21, tn_22, ln_22, tn_23, ln_23, tn_24, ln_24, tn_25, ln_25, tn_26, ln_26, tn_27, ln_27, ob_28, tn_29, ln_29, tn_30, ln_30, ob_31, tn_32, ln_32, tn_33, ln_33, ob_34, ob_35, tn_36, ln_36, tn_37, ln_37, tn_38, ln_38, ob_39, tn_40, ln_40, tn_41, ln_41, tn_42, ln_42, tn_43, ln_43, tn_44, ln_44, tn_45, ln_45, tn_46, ln_46, tn_47, ln_47, tn_48, ln_48, tn_49, ln_49, tn_50, ln_50, tn_51, ln_51, ob_52, tn_53, ln_53, tn_54, ln_54, tn_55, ln_55, tn_56, ln_56, ob_57, tn_58, ln_58, tn_59, ln_59, tn_60, ln_60, tn_61, ln_61, tn_62, ln_62, tn_63, ln_63, tn_64, ln_64, tn_65, ln_65, ob_66, tn_67, ln_67, tn_68, ln_68, tn_69, ln_69, tn_70, ln_70, tn_71, ln_71, tn_72, ln_72, tn_73, ln_73, ob_74, tn_75, ln_75, tn_76, ln_76, tn_77, ln_77, tn_78, ln_78, tn_79, ln_79, tn_80, ln_80, tn_81, ln_81, tn_82, ln_82, tn_83, ln_83, ob_84, tn_85, ln_85, tn_86, ln_86, tn_87, ln_87, tn_88, ln_88, tn_89, ln_89, tn_90, ln_90, tn_91, ln_91, tn_92, ln_92, tn_93, ln_93, ob_94, tn_95, ln_95, tn_96, ln_96, tn_97, ln_97, tn_98, ln_98, tn_99, ln_99, tn_100, ln_100, tn_101, ln_101, tn_102, ln_102, tn_103, ln_103, ob_104, tn_105, ln_105, tn_106, ln_106, tn_107, ln_107, tn_108, ln_108, tn_109, ln_109, tn_110, ln_110, tn_111, ln_111, tn_112, ln_112, tn_113, ln_113, ob_114, tn_115, ln_115, tn_116, ln_116, tn_117, ln_117, tn_118, ln_118, tn_119, ln_119, tn_120, ln_120, tn_121, ln_121, tn_122, ln_122, tn_123, ln_123, ob_124, tn_125, ln_125, tn_126, ln_126, tn_127, ln_127, tn_128, ln_128, tn_129, ln_129, tn_130, ln_130, tn_131, ln_131, tn_132, ln_132, tn_133, ln_133, ob_134, tn_135, ln_135, tn_136, ln_136, tn_137, ln_137, tn_138, ln_138, tn_139, ln_139, tn_140, ln_140, tn_141, ln_141, tn_142, ln_142, tn_143, ln_143, ob_144, tn_145, ln_145, tn_146, ln_146, tn_147, ln_147, tn_148, ln_148, tn_149, ln_149, tn_150, ln_150, tn_151, ln_151, tn_152, ln_152, tn_153, ln_153, ob_154, tn_155, ln_155, tn_156, ln_156, tn_157, ln_157, tn_158, ln_158, tn_159, ln_159, tn_160, ln_160, tn_161, ln_161, tn_162, ln_162, tn_163, ln_163, ob_164, tn_165, ln_165, tn_166, ln_166, ob_167, tn_168, ln_168, tn_169, ln_169, tn_170, ln_170, tn_171, ln_171, tn_172, ln_172, tn_173, ln_173, tn_174, ln_174, tn_175, ln_175, tn_176, ln_176, ob_177, tn_178, ln_178, tn_179, ln_179, ob_180, tn_181, ln_181, tn_182, ln_182, tn_183, ln_183, tn_184, ln_184, tn_185, ln_185, tn_186, ln_186, tn_187, ln_187, tn_188, ln_188, tn_189, ln_189, tn_190, ln_190, tn_191, ln_191, tn_192, ln_192, tn_193, ln_193, tn_194, ln_194, tn_195, ln_195, tn_196, ln_196, tn_197, ln_197, tn_198, ln_198, tn_199, ln_199, tn_200, ln_200, tn_201, ln_201, tn_202, ln_202, tn_203, ln_203, tn_204, ln_204, tn_205, ln_205, tn_206, ln_206, tn_207, ln_207, tn_208, ln_208, tn_209, ln_209, tn_210, ln_210, tn_211, ln_211, tn_212, ln_212, tn_213, ln_213, tn_214, ln_214, tn_215, ln_215, tn_216, ln_216, tn_217, ln_217, tn_218, ln_218, tn_219, ln_219, tn_220, ln_220, tn_221, ln_221, tn_222, ln_222, tn_223, ln_223, tn_224, ln_224, tn_225, ln_225, tn_226, ln_226, tn_227, ln_227, tn_228, ln_228, tn_229, ln_229, tn_230, ln_230, lx2, lx3, lx4, lx5, lx6, lx7, lx8, lx9, lx10, lx14, lx15, lx16, lx18, lx20, lx24, lx25, lx27, lx32, lx36, lx40, lx41, lx42, lx43, lx45, lx48, lx52, lx54, lx56, lx57, lx58, lx60, lx61, lx62, lx63, lx64, lx66, lx69, lx73, lx80, lx81, lx84, lx85, lx87, lx94, lx96, lx97, lx120, lx128, lx135, lx160, lx162, lx163, lx165, lx200, lx232, lx242, lx243, lx255, lx256, lx320, lx325, lx400, lx405, lx464, lx512, lx600, lx640, lx752, lx900, lx940, lx1000, lx1024, lx1764, lx3360, lx3840, lx5000, lx6400, lx9050, lx9998, lx9999, lx10000, lx25600, lx76800, lx99999]
    have eI : k * 24 * 2 + t = k * 48 + t := by omega
    rw [eI]
    refine ⟨fun z => ?_, fun z => ⟨by omega, bitCount_A ?_⟩⟩
    · have e48 : t = 48 := by omega
      subst e48
      exact hP2 hc
    · have c2 := st_pc h hk (show t < 48 by omega)
      have c3 := pc_le (xl B 42 (k * 48 + t))
      have cM := cb_le (tX T k) (64 * t)
      simp (disch := omega) only [k_X7_stepAt_0, k_X7_stepAt_6, k_X7_stepAt_72, w_I, w_J, w_JI, x_aload, x_cs1, x_cs2, x_iadd, x_iand, x_icmp_ge, x_if_ne, x_iinc, x_iload, x_imul, x_iret, x_ishr, x_istore, x_isub, x_lload, x_lstore, x_push, y_getF, y_lald, xFT, xbool0, xbool1, Nat.reduceAdd, Nat.zero_add, xgl_0, xgl_s, xgl_n, xst_0, xst_1n, xst_1i, xst_1r, xst_1l, xst_s, set_0, set_s, true_and, and_true, xres, xcat_nil, xcat_i, xcat_r, xcat_l, Nat.add_zero, xble0, xble1, xble2, xble3, xble4, xble5, xble6, xble7, xble8, pk_mul, nI_add, nI_1, nI_leI, nI_ltI, nI_eq, n_in, n_cl, z_eq, z_lt, z_le, z_gt, z_ge, z_qe, o_eq, o_lt, o_le, o_gt, o_ge, vp0, vp1, cl0, cl1, n_sub, n_sub1, n_pm1, n_a0, n_0a, ofn, lN0, Nat.reduceLT, Nat.reduceLeDiff, Nat.reduceMul, Nat.reduceSub, Nat.reduceEqDiff, ne_eq, true_implies, false_implies, not_true_eq_false, not_false_eq_true, and_self, and_true, true_and, and_false, false_and, implies_true, if_true, if_false, i00, i10, i01, i11, ob_0, ob_1, tn_2, ln_2, ob_3, tn_4, ln_4, ob_5, tn_6, ln_6, tn_7, ln_7, ob_8, tn_9, ln_9, tn_10, ln_10, tn_11, ln_11, tn_12, ln_12, tn_13, ln_13, tn_14, ln_14, tn_15, ln_15, tn_16, ln_16, tn_17, ln_17, ob_18, tn_19, ln_19, tn_20, ln_20, tn_21, ln_21, tn_22, ln_22, tn_23, ln_23, tn_24, ln_24, tn_25, ln_25, tn_26, ln_26, tn_27, ln_27, ob_28, tn_29, ln_29, tn_30, ln_30, ob_31, tn_32, ln_32, tn_33, ln_33, ob_34, ob_35, tn_36, ln_36, tn_37, ln_37, tn_38, ln_38, ob_39, tn_40, ln_40, tn_41, ln_41, tn_42, ln_42, tn_43, ln_43, tn_44, ln_44, tn_45, ln_45, tn_46, ln_46, tn_47, ln_47, tn_48, ln_48, tn_49, ln_49, tn_50, ln_50, tn_51, ln_51, ob_52, tn_53, ln_53, tn_54, ln_54, tn_55, ln_55, tn_56, ln_56, ob_57, tn_58, ln_58, tn_59, ln_59, tn_60, ln_60, tn_61, ln_61, tn_62, ln_62, tn_63, ln_63, tn_64, ln_64, tn_65, ln_65, ob_66, tn_67, ln_67, tn_68, ln_68, tn_69, ln_69, tn_70, ln_70, tn_71, ln_71, tn_72, ln_72, tn_73, ln_73, ob_74, tn_75, ln_75, tn_76, ln_76, tn_77, ln_77, tn_78, ln_78, tn_79, ln_79, tn_80, ln_80, tn_81, ln_81, tn_82, ln_82, tn_83, ln_83, ob_84, tn_85, ln_85, tn_86, ln_86, tn_87, ln_87, tn_88, ln_88, tn_89, ln_89, tn_90, ln_90, tn_91, ln_91, tn_92, ln_92, tn_93, ln_93, ob_94, tn_95, ln_95, tn_96, ln_96, tn_97, ln_97, tn_98, ln_98, tn_99, ln_99, tn_100, ln_100, tn_101, ln_101, tn_102, ln_102, tn_103, ln_103, ob_104, tn_105, ln_105, tn_106, ln_106, tn_107, ln_107, tn_108, ln_108, tn_109, ln_109, tn_110, ln_110, tn_111, ln_111, tn_112, ln_112, tn_113, ln_113, ob_114, tn_115, ln_115, tn_116, ln_116, tn_117, ln_117, tn_118, ln_118, tn_119, ln_119, tn_120, ln_120, tn_121, ln_121, tn_122, ln_122, tn_123, ln_123, ob_124, tn_125, ln_125, tn_126, ln_126, tn_127, ln_127, tn_128, ln_128, tn_129, ln_129, tn_130, ln_130, tn_131, ln_131, tn_132, ln_132, tn_133, ln_133, ob_134, tn_135, ln_135, tn_136, ln_136, tn_137, ln_137, tn_138, ln_138, tn_139, ln_139, tn_140, ln_140, tn_141, ln_141, tn_142, ln_142, tn_143, ln_143, ob_144, tn_145, ln_145, tn_146, ln_146, tn_147, ln_147, tn_148, ln_148, tn_149, ln_149, tn_150, ln_150, tn_151, ln_151, tn_152, ln_152, tn_153, ln_153, ob_154, tn_155, ln_155, tn_156, ln_156, tn_157, ln_157, tn_158, ln_158, tn_159, ln_159, tn_160, ln_160, tn_161, ln_161, tn_162, ln_162, tn_163, ln_163, ob_164, tn_165, ln_165, tn_166, ln_166, ob_167, tn_168, ln_168, tn_169, ln_169, tn_170, ln_170, tn_171, ln_171, tn_172, ln_172, tn_173, ln_173, tn_174, ln_174, tn_175, ln_175, tn_176, ln_176, ob_177, tn_178, ln_178, tn_179, ln_179, ob_180, tn_181, ln_181, tn_182, ln_182, tn_183, ln_183, tn_184, ln_184, tn_185, ln_185, tn_186, ln_186, tn_187, ln_187, tn_188, ln_188, tn_189, ln_189, tn_190, ln_190, tn_191, ln_191, tn_192, ln_192, tn_193, ln_193, tn_194, ln_194, tn_195, ln_195, tn_196, ln_196, tn_197, ln_197, tn_198, ln_198, tn_199, ln_199, tn_200, ln_200, tn_201, ln_201, tn_202, ln_202, tn_203, ln_203, tn_204, ln_204, tn_205, ln_205, tn_206, ln_206, tn_207, ln_207, tn_208, ln_208, tn_209, ln_209, tn_210, ln_210, tn_211, ln_211, tn_212, ln_212, tn_213, ln_213, tn_214, ln_214, tn_215, ln_215, tn_216, ln_216, tn_217, ln_217, tn_218, ln_218, tn_219, ln_219, tn_220, ln_220, tn_221, ln_221, tn_222, ln_222, tn_223, ln_223, tn_224, ln_224, tn_225, ln_225, tn_226, ln_226, tn_227, ln_227, tn_228, ln_228, tn_229, ln_229, tn_230, ln_230, lx2, lx3, lx4, lx5, lx6, lx7, lx8, lx9, lx10, lx14, lx15, lx16, lx18, lx20, lx24, lx25, lx27, lx32, lx36, lx40, lx41, lx42, lx43, lx45, lx48, lx52, lx54, lx56, lx57, lx58, lx60, lx61, lx62, lx63, lx64, lx66, lx69, lx73, lx80, lx81, lx84, lx85, lx87, lx94, lx96, lx97, lx120, lx128, lx135, lx160, lx162, lx163, lx165, lx200, lx232, lx242, lx243, lx255, lx256, lx320, lx325, lx400, lx405, lx464, lx512, lx600, lx640, lx752, lx900, lx940, lx1000, lx1024, lx1764, lx3360, lx3840, lx5000, lx6400, lx9050, lx9998, lx9999, lx10000, lx25600, lx76800, lx99999]
      refine ⟨fun q => ?_, fun q => ?_⟩
      · refine xB1 (b := 48 - (t + 1)) (by omega) ⟨T, n, k, m, wh, t + 1, _, _, _, h, hn, hk, hm, hwh, hP, hP2, by omega, by omega, rfl, rfl, by rw [c2, Nat.sub_add_eq, n_sub q], rfl⟩
      · have key : ∀ j, j < 64 → tl (xl B 42 (k * 48 + t)) j = true → cb (tl (xl B 42 (k * 48 + t))) j = m - cb (tX T k) (64 * t) → tX T k (64 * t + j) = true ∧ cb (tX T k) (64 * t + j) = m := fun j hj a b => by
          refine ⟨(st_cell h hk (by omega) hj).symm.trans a, ?_⟩
          rw [cb_add, cb_congr (g := tl (xl B 42 (k * 48 + t))) fun i hi => (st_cell h hk (by omega) (by omega)).symm]
          omega
        have aP : nI t &&& 1 = nI (t % 2) := by
          have := pk_andN (n := t) (by omega) 1 (m := nI 1) (by decide +kernel)
          exact this
        have sP : nI t >>> (1 &&& 31) = nI (t / 2) := by
          have := pk_shrN (n := t) (by omega) (nI 1) 1 (by decide +kernel)
          exact this
        refine ⟨fun w0 => ⟨_, rfl, by omega, fun j hj a b => ?_⟩, fun w0 => ?_⟩
        · obtain ⟨k1, k2⟩ := key j hj a b
          have := hP _ (by omega) k1 k2
          rw [if_neg w0] at this
          rw [aP]
          simp (disch := omega) only [k_X7_stepAt_0, k_X7_stepAt_6, k_X7_stepAt_72, w_I, w_J, w_JI, x_aload, x_cs1, x_cs2, x_iadd, x_iand, x_icmp_ge, x_if_ne, x_iinc, x_iload, x_imul, x_iret, x_ishr, x_istore, x_isub, x_lload, x_lstore, x_push, y_getF, y_lald, xFT, xbool0, xbool1, Nat.reduceAdd, Nat.zero_add, xgl_0, xgl_s, xgl_n, xst_0, xst_1n, xst_1i, xst_1r, xst_1l, xst_s, set_0, set_s, true_and, and_true, xres, xcat_nil, xcat_i, xcat_r, xcat_l, Nat.add_zero, xble0, xble1, xble2, xble3, xble4, xble5, xble6, xble7, xble8, pk_mul, nI_add, nI_1, nI_leI, nI_ltI, nI_eq, n_in, n_cl, z_eq, z_lt, z_le, z_gt, z_ge, z_qe, o_eq, o_lt, o_le, o_gt, o_ge, vp0, vp1, cl0, cl1, n_sub, n_sub1, n_pm1, n_a0, n_0a, ofn, lN0, Nat.reduceLT, Nat.reduceLeDiff, Nat.reduceMul, Nat.reduceSub, Nat.reduceEqDiff, ne_eq, true_implies, false_implies, not_true_eq_false, not_false_eq_true, and_self, and_true, true_and, and_false, false_and, implies_true, if_true, if_false, i00, i10, i01, i11, ob_0, ob_1, tn_2, ln_2, ob_3, tn_4, ln_4, ob_5, tn_6, ln_6, tn_7, ln_7, ob_8, tn_9, ln_9, tn_10, ln_10, tn_11, ln_11, tn_12, ln_12, tn_13, ln_13, tn_14, ln_14, tn_15, ln_15, tn_16, ln_16, tn_17, ln_17, ob_18, tn_19, ln_19, tn_20, ln_20, tn_21, ln_21, tn_22, ln_22, tn_23, ln_23, tn_24, ln_24, tn_25, ln_25, tn_26, ln_26, tn_27, ln_27, ob_28, tn_29, ln_29, tn_30, ln_30, ob_31, tn_32, ln_32, tn_33, ln_33, ob_34, ob_35, tn_36, ln_36, tn_37, ln_37, tn_38, ln_38, ob_39, tn_40, ln_40, tn_41, ln_41, tn_42, ln_42, tn_43, ln_43, tn_44, ln_44, tn_45, ln_45, tn_46, ln_46, tn_47, ln_47, tn_48, ln_48, tn_49, ln_49, tn_50, ln_50, tn_51, ln_51, ob_52, tn_53, ln_53, tn_54, ln_54, tn_55, ln_55, tn_56, ln_56, ob_57, tn_58, ln_58, tn_59, ln_59, tn_60, ln_60, tn_61, ln_61, tn_62, ln_62, tn_63, ln_63, tn_64, ln_64, tn_65, ln_65, ob_66, tn_67, ln_67, tn_68, ln_68, tn_69, ln_69, tn_70, ln_70, tn_71, ln_71, tn_72, ln_72, tn_73, ln_73, ob_74, tn_75, ln_75, tn_76, ln_76, tn_77, ln_77, tn_78, ln_78, tn_79, ln_79, tn_80, ln_80, tn_81, ln_81, tn_82, ln_82, tn_83, ln_83, ob_84, tn_85, ln_85, tn_86, ln_86, tn_87, ln_87, tn_88, ln_88, tn_89, ln_89, tn_90, ln_90, tn_91, ln_91, tn_92, ln_92, tn_93, ln_93, ob_94, tn_95, ln_95, tn_96, ln_96, tn_97, ln_97, tn_98, ln_98, tn_99, ln_99, tn_100, ln_100, tn_101, ln_101, tn_102, ln_102, tn_103, ln_103, ob_104, tn_105, ln_105, tn_106, ln_106, tn_107, ln_107, tn_108, ln_108, tn_109, ln_109, tn_110, ln_110, tn_111, ln_111, tn_112, ln_112, tn_113, ln_113, ob_114, tn_115, ln_115, tn_116, ln_116, tn_117, ln_117, tn_118, ln_118, tn_119, ln_119, tn_120, ln_120, tn_121, ln_121, tn_122, ln_122, tn_123, ln_123, ob_124, tn_125, ln_125, tn_126, ln_126, tn_127, ln_127, tn_128, ln_128, tn_129, ln_129, tn_130, ln_130, tn_131, ln_131, tn_132, ln_132, tn_133, ln_133, ob_134, tn_135, ln_135, tn_136, ln_136, tn_137, ln_137, tn_138, ln_138, tn_139, ln_139, tn_140, ln_140, tn_141, ln_141, tn_142, ln_142, tn_143, ln_143, ob_144, tn_145, ln_145, tn_146, ln_146, tn_147, ln_147, tn_148, ln_148, tn_149, ln_149, tn_150, ln_150, tn_151, ln_151, tn_152, ln_152, tn_153, ln_153, ob_154, tn_155, ln_155, tn_156, ln_156, tn_157, ln_157, tn_158, ln_158, tn_159, ln_159, tn_160, ln_160, tn_161, ln_161, tn_162, ln_162, tn_163, ln_163, ob_164, tn_165, ln_165, tn_166, ln_166, ob_167, tn_168, ln_168, tn_169, ln_169, tn_170, ln_170, tn_171, ln_171, tn_172, ln_172, tn_173, ln_173, tn_174, ln_174, tn_175, ln_175, tn_176, ln_176, ob_177, tn_178, ln_178, tn_179, ln_179, ob_180, tn_181, ln_181, tn_182, ln_182, tn_183, ln_183, tn_184, ln_184, tn_185, ln_185, tn_186, ln_186, tn_187, ln_187, tn_188, ln_188, tn_189, ln_189, tn_190, ln_190, tn_191, ln_191, tn_192, ln_192, tn_193, ln_193, tn_194, ln_194, tn_195, ln_195, tn_196, ln_196, tn_197, ln_197, tn_198, ln_198, tn_199, ln_199, tn_200, ln_200, tn_201, ln_201, tn_202, ln_202, tn_203, ln_203, tn_204, ln_204, tn_205, ln_205, tn_206, ln_206, tn_207, ln_207, tn_208, ln_208, tn_209, ln_209, tn_210, ln_210, tn_211, ln_211, tn_212, ln_212, tn_213, ln_213, tn_214, ln_214, tn_215, ln_215, tn_216, ln_216, tn_217, ln_217, tn_218, ln_218, tn_219, ln_219, tn_220, ln_220, tn_221, ln_221, tn_222, ln_222, tn_223, ln_223, tn_224, ln_224, tn_225, ln_225, tn_226, ln_226, tn_227, ln_227, tn_228, ln_228, tn_229, ln_229, tn_230, ln_230, lx2, lx3, lx4, lx5, lx6, lx7, lx8, lx9, lx10, lx14, lx15, lx16, lx18, lx20, lx24, lx25, lx27, lx32, lx36, lx40, lx41, lx42, lx43, lx45, lx48, lx52, lx54, lx56, lx57, lx58, lx60, lx61, lx62, lx63, lx64, lx66, lx69, lx73, lx80, lx81, lx84, lx85, lx87, lx94, lx96, lx97, lx120, lx128, lx135, lx160, lx162, lx163, lx165, lx200, lx232, lx242, lx243, lx255, lx256, lx320, lx325, lx400, lx405, lx464, lx512, lx600, lx640, lx752, lx900, lx940, lx1000, lx1024, lx1764, lx3360, lx3840, lx5000, lx6400, lx9050, lx9998, lx9999, lx10000, lx25600, lx76800, lx99999]
          rw [show t % 2 * 64 + j = (64 * t + j) % 128 by omega]
          exact this
        · rw [sP]
          have hq : m - cb (tX T k) (64 * t) < pc (xl B 42 (k * 48 + t)) := by omega
          obtain ⟨j, hj, a, b⟩ := cb_sel hq
          obtain ⟨k1, k2⟩ := key j hj a b
          have := hP _ (by omega) k1 k2
          rw [if_pos w0, show (64 * t + j) / 128 = t / 2 by omega] at this
          unfold f_X7_sortCode
          simp (disch := omega) only [k_X7_sortCode_0, k_X7_sortCode_29, x_iadd, x_icmp_ge, x_iload, x_iret, x_isub, x_push, xFT, xbool0, xbool1, Nat.reduceAdd, Nat.zero_add, xgl_0, xgl_s, xgl_n, xst_0, xst_1n, xst_1i, xst_1r, xst_1l, xst_s, set_0, set_s, true_and, and_true, xres, xcat_nil, xcat_i, xcat_r, xcat_l, Nat.add_zero, xble0, xble1, xble2, xble3, xble4, xble5, xble6, xble7, xble8, pk_mul, nI_add, nI_1, nI_leI, nI_ltI, nI_eq, n_in, n_cl, z_eq, z_lt, z_le, z_gt, z_ge, z_qe, o_eq, o_lt, o_le, o_gt, o_ge, vp0, vp1, cl0, cl1, n_sub, n_sub1, n_pm1, n_a0, n_0a, ofn, lN0, Nat.reduceLT, Nat.reduceLeDiff, Nat.reduceMul, Nat.reduceSub, Nat.reduceEqDiff, ne_eq, true_implies, false_implies, not_true_eq_false, not_false_eq_true, and_self, and_true, true_and, and_false, false_and, implies_true, if_true, if_false, i00, i10, i01, i11, ob_0, ob_1, tn_2, ln_2, ob_3, tn_4, ln_4, ob_5, tn_6, ln_6, tn_7, ln_7, ob_8, tn_9, ln_9, tn_10, ln_10, tn_11, ln_11, tn_12, ln_12, tn_13, ln_13, tn_14, ln_14, tn_15, ln_15, tn_16, ln_16, tn_17, ln_17, ob_18, tn_19, ln_19, tn_20, ln_20, tn_21, ln_21, tn_22, ln_22, tn_23, ln_23, tn_24, ln_24, tn_25, ln_25, tn_26, ln_26, tn_27, ln_27, ob_28, tn_29, ln_29, tn_30, ln_30, ob_31, tn_32, ln_32, tn_33, ln_33, ob_34, ob_35, tn_36, ln_36, tn_37, ln_37, tn_38, ln_38, ob_39, tn_40, ln_40, tn_41, ln_41, tn_42, ln_42, tn_43, ln_43, tn_44, ln_44, tn_45, ln_45, tn_46, ln_46, tn_47, ln_47, tn_48, ln_48, tn_49, ln_49, tn_50, ln_50, tn_51, ln_51, ob_52, tn_53, ln_53, tn_54, ln_54, tn_55, ln_55, tn_56, ln_56, ob_57, tn_58, ln_58, tn_59, ln_59, tn_60, ln_60, tn_61, ln_61, tn_62, ln_62, tn_63, ln_63, tn_64, ln_64, tn_65, ln_65, ob_66, tn_67, ln_67, tn_68, ln_68, tn_69, ln_69, tn_70, ln_70, tn_71, ln_71, tn_72, ln_72, tn_73, ln_73, ob_74, tn_75, ln_75, tn_76, ln_76, tn_77, ln_77, tn_78, ln_78, tn_79, ln_79, tn_80, ln_80, tn_81, ln_81, tn_82, ln_82, tn_83, ln_83, ob_84, tn_85, ln_85, tn_86, ln_86, tn_87, ln_87, tn_88, ln_88, tn_89, ln_89, tn_90, ln_90, tn_91, ln_91, tn_92, ln_92, tn_93, ln_93, ob_94, tn_95, ln_95, tn_96, ln_96, tn_97, ln_97, tn_98, ln_98, tn_99, ln_99, tn_100, ln_100, tn_101, ln_101, tn_102, ln_102, tn_103, ln_103, ob_104, tn_105, ln_105, tn_106, ln_106, tn_107, ln_107, tn_108, ln_108, tn_109, ln_109, tn_110, ln_110, tn_111, ln_111, tn_112, ln_112, tn_113, ln_113, ob_114, tn_115, ln_115, tn_116, ln_116, tn_117, ln_117, tn_118, ln_118, tn_119, ln_119, tn_120, ln_120, tn_121, ln_121, tn_122, ln_122, tn_123, ln_123, ob_124, tn_125, ln_125, tn_126, ln_126, tn_127, ln_127, tn_128, ln_128, tn_129, ln_129, tn_130, ln_130, tn_131, ln_131, tn_132, ln_132, tn_133, ln_133, ob_134, tn_135, ln_135, tn_136, ln_136, tn_137, ln_137, tn_138, ln_138, tn_139, ln_139, tn_140, ln_140, tn_141, ln_141, tn_142, ln_142, tn_143, ln_143, ob_144, tn_145, ln_145, tn_146, ln_146, tn_147, ln_147, tn_148, ln_148, tn_149, ln_149, tn_150, ln_150, tn_151, ln_151, tn_152, ln_152, tn_153, ln_153, ob_154, tn_155, ln_155, tn_156, ln_156, tn_157, ln_157, tn_158, ln_158, tn_159, ln_159, tn_160, ln_160, tn_161, ln_161, tn_162, ln_162, tn_163, ln_163, ob_164, tn_165, ln_165, tn_166, ln_166, ob_167, tn_168, ln_168, tn_169, ln_169, tn_170, ln_170, tn_171, ln_171, tn_172, ln_172, tn_173, ln_173, tn_174, ln_174, tn_175, ln_175, tn_176, ln_176, ob_177, tn_178, ln_178, tn_179, ln_179, ob_180, tn_181, ln_181, tn_182, ln_182, tn_183, ln_183, tn_184, ln_184, tn_185, ln_185, tn_186, ln_186, tn_187, ln_187, tn_188, ln_188, tn_189, ln_189, tn_190, ln_190, tn_191, ln_191, tn_192, ln_192, tn_193, ln_193, tn_194, ln_194, tn_195, ln_195, tn_196, ln_196, tn_197, ln_197, tn_198, ln_198, tn_199, ln_199, tn_200, ln_200, tn_201, ln_201, tn_202, ln_202, tn_203, ln_203, tn_204, ln_204, tn_205, ln_205, tn_206, ln_206, tn_207, ln_207, tn_208, ln_208, tn_209, ln_209, tn_210, ln_210, tn_211, ln_211, tn_212, ln_212, tn_213, ln_213, tn_214, ln_214, tn_215, ln_215, tn_216, ln_216, tn_217, ln_217, tn_218, ln_218, tn_219, ln_219, tn_220, ln_220, tn_221, ln_221, tn_222, ln_222, tn_223, ln_223, tn_224, ln_224, tn_225, ln_225, tn_226, ln_226, tn_227, ln_227, tn_228, ln_228, tn_229, ln_229, tn_230, ln_230, lx2, lx3, lx4, lx5, lx6, lx7, lx8, lx9, lx10, lx14, lx15, lx16, lx18, lx20, lx24, lx25, lx27, lx32, lx36, lx40, lx41, lx42, lx43, lx45, lx48, lx52, lx54, lx56, lx57, lx58, lx60, lx61, lx62, lx63, lx64, lx66, lx69, lx73, lx80, lx81, lx84, lx85, lx87, lx94, lx96, lx97, lx120, lx128, lx135, lx160, lx162, lx163, lx165, lx200, lx232, lx242, lx243, lx255, lx256, lx320, lx325, lx400, lx405, lx464, lx512, lx600, lx640, lx752, lx900, lx940, lx1000, lx1024, lx1764, lx3360, lx3840, lx5000, lx6400, lx9050, lx9998, lx9999, lx10000, lx25600, lx76800, lx99999]
          unfold sc at this
          refine ⟨fun a1 => ⟨fun a2 => ?_, fun a2 => ?_⟩, fun a1 => ?_⟩
          · rw [if_neg (by omega), if_neg (by omega)] at this
            rw [show 32 + t / 2 - 14 = 18 + t / 2 by omega]
            exact this
          · rw [if_neg (by omega), if_pos (by omega)] at this
            rw [show 16 + t / 2 - 4 = 12 + t / 2 by omega]
            exact this
          · rw [if_pos (by omega)] at this
            exact this

