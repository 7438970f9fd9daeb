/-! ===== the class gathers its steps ===== -/
theorem d_X7_clearSteps_0 : decode cX7_clearSteps 0 = .ok (.iconst 0, 1) := by decide +kernel
theorem d_X7_clearSteps_1 : decode cX7_clearSteps 1 = .ok (.istore_n 1, 1) := by decide +kernel
theorem d_X7_clearSteps_2 : decode cX7_clearSteps 2 = .ok (.iload_n 1, 1) := by decide +kernel
theorem d_X7_clearSteps_3 : decode cX7_clearSteps 3 = .ok (.aload_n 0, 1) := by decide +kernel
theorem d_X7_clearSteps_4 : decode cX7_clearSteps 4 = .ok (.getfield 71, 3) := by decide +kernel
theorem d_X7_clearSteps_7 : decode cX7_clearSteps 7 = .ok (.bipush 24, 2) := by decide +kernel
theorem d_X7_clearSteps_9 : decode cX7_clearSteps 9 = .ok (.imul, 1) := by decide +kernel
theorem d_X7_clearSteps_10 : decode cX7_clearSteps 10 = .ok (.iconst 2, 1) := by decide +kernel
theorem d_X7_clearSteps_11 : decode cX7_clearSteps 11 = .ok (.imul, 1) := by decide +kernel
theorem d_X7_clearSteps_12 : decode cX7_clearSteps 12 = .ok (.if_icmp .ge 16, 3) := by decide +kernel
theorem d_X7_clearSteps_15 : decode cX7_clearSteps 15 = .ok (.aload_n 0, 1) := by decide +kernel
theorem d_X7_clearSteps_16 : decode cX7_clearSteps 16 = .ok (.getfield 18, 3) := by decide +kernel
theorem d_X7_clearSteps_19 : decode cX7_clearSteps 19 = .ok (.iload_n 1, 1) := by decide +kernel
theorem d_X7_clearSteps_20 : decode cX7_clearSteps 20 = .ok (.lconst 0, 1) := by decide +kernel
theorem d_X7_clearSteps_21 : decode cX7_clearSteps 21 = .ok (.lastore, 1) := by decide +kernel
theorem d_X7_clearSteps_22 : decode cX7_clearSteps 22 = .ok (.iinc 1 1, 3) := by decide +kernel
theorem d_X7_clearSteps_25 : decode cX7_clearSteps 25 = .ok (.goto (-23), 3) := by decide +kernel
theorem d_X7_clearSteps_28 : decode cX7_clearSteps 28 = .ok (.iconst 0, 1) := by decide +kernel
theorem d_X7_clearSteps_29 : decode cX7_clearSteps 29 = .ok (.istore_n 1, 1) := by decide +kernel
theorem d_X7_clearSteps_30 : decode cX7_clearSteps 30 = .ok (.iload_n 1, 1) := by decide +kernel
theorem d_X7_clearSteps_31 : decode cX7_clearSteps 31 = .ok (.aload_n 0, 1) := by decide +kernel
theorem d_X7_clearSteps_32 : decode cX7_clearSteps 32 = .ok (.getfield 71, 3) := by decide +kernel
theorem d_X7_clearSteps_35 : decode cX7_clearSteps 35 = .ok (.iconst 5, 1) := by decide +kernel
theorem d_X7_clearSteps_36 : decode cX7_clearSteps 36 = .ok (.imul, 1) := by decide +kernel
theorem d_X7_clearSteps_37 : decode cX7_clearSteps 37 = .ok (.iconst 2, 1) := by decide +kernel
theorem d_X7_clearSteps_38 : decode cX7_clearSteps 38 = .ok (.imul, 1) := by decide +kernel
theorem d_X7_clearSteps_39 : decode cX7_clearSteps 39 = .ok (.if_icmp .ge 16, 3) := by decide +kernel
theorem d_X7_clearSteps_42 : decode cX7_clearSteps 42 = .ok (.aload_n 0, 1) := by decide +kernel
theorem d_X7_clearSteps_43 : decode cX7_clearSteps 43 = .ok (.getfield 22, 3) := by decide +kernel
theorem d_X7_clearSteps_46 : decode cX7_clearSteps 46 = .ok (.iload_n 1, 1) := by decide +kernel
theorem d_X7_clearSteps_47 : decode cX7_clearSteps 47 = .ok (.lconst 0, 1) := by decide +kernel
theorem d_X7_clearSteps_48 : decode cX7_clearSteps 48 = .ok (.lastore, 1) := by decide +kernel
theorem d_X7_clearSteps_49 : decode cX7_clearSteps 49 = .ok (.iinc 1 1, 3) := by decide +kernel
theorem d_X7_clearSteps_52 : decode cX7_clearSteps 52 = .ok (.goto (-22), 3) := by decide +kernel
theorem d_X7_clearSteps_55 : decode cX7_clearSteps 55 = .ok (.return_, 1) := by decide +kernel
def k_X7_clearSteps_0 (P : xP) (C2 : xK) : xK := x_push (.int 0) (x_istore 1 (C2))
set_option maxRecDepth 20000 in
theorem t_X7_clearSteps_0 {p : Program} {l : Launch} {e : Env} {s : State} {m : MethodId} {args : Array Value} {below : List Frame} {meth : Method} {c : Code} {g : xG} (X : xX p s m args c meth cX7_clearSteps RX7 2 g) (hr : meth.sig.returnType = none) {P : xP} {C2 : xK} (h2 : xAt p l e { frames := 0, cells := 0, slots := 0, locals := 0 } s m args below meth c g 2 xFT xN 0 0 (MQ below (xQc g xFT xN P) args s 0 0 (xFr g)) C2 2) : xAt p l e { frames := 0, cells := 0, slots := 0, locals := 0 } s m args below meth c g 2 xFT xN 0 0 (MQ below (xQc g xFT xN P) args s 0 0 (xFr g)) (k_X7_clearSteps_0 P C2) 0 := by
  unfold k_X7_clearSteps_0
  refine r_iconst (pc := 0) X d_X7_clearSteps_0 (by decide +kernel) ?_
  refine r_istore_n (pc := 1) X d_X7_clearSteps_1 fn1 (by decide +kernel) ?_
  exact h2
def k_X7_clearSteps_2 (P : xP) (C2 : xK) (C30 : xK) : xK := x_iload 1 (x_aload 0 (y_getI 39 2 (x_push (.int 24) (x_imul (x_push (.int 2) (x_imul (x_icmp_ge (x_push (.int 0) (x_istore 1 (C30))) (x_aload 0 (y_getF 39 42 (x_iload 1 (x_push (.long 0) (y_last 42 3840 (x_iinc 1 1 (C2))))))))))))))
set_option maxRecDepth 20000 in
theorem t_X7_clearSteps_2 {p : Program} {l : Launch} {e : Env} {s : State} {m : MethodId} {args : Array Value} {below : List Frame} {meth : Method} {c : Code} {g : xG} (X : xX p s m args c meth cX7_clearSteps RX7 2 g) (hr : meth.sig.returnType = none) {P : xP} {C2 : xK} {C30 : xK} (h2 : xAt p l e { frames := 0, cells := 0, slots := 0, locals := 0 } s m args below meth c g 2 xFT xN 0 0 (MQ below (xQc g xFT xN P) args s 0 0 (xFr g)) C2 2) (h30 : xAt p l e { frames := 0, cells := 0, slots := 0, locals := 0 } s m args below meth c g 2 xFT xN 0 0 (MQ below (xQc g xFT xN P) args s 0 0 (xFr g)) C30 30) : xAt p l e { frames := 0, cells := 0, slots := 0, locals := 0 } s m args below meth c g 2 xFT xN 0 0 (MQ below (xQc g xFT xN P) args s 0 0 (xFr g)) (k_X7_clearSteps_2 P C2 C30) 2 := by
  unfold k_X7_clearSteps_2
  refine r_iload_n (pc := 2) X d_X7_clearSteps_2 fn1 ?_
  refine r_aload_n (pc := 3) X d_X7_clearSteps_3 fn0 ?_
  refine s_getI (pc := 4) (ci := 7) X xok7 (by decide +kernel) ob_39 (by decide +kernel) fl_RX7_71 d_X7_clearSteps_4 ?_
  refine r_bipush (pc := 7) X d_X7_clearSteps_7 (by decide +kernel) ?_
  refine r_imul (pc := 9) X d_X7_clearSteps_9 ?_
  refine r_iconst (pc := 10) X d_X7_clearSteps_10 (by decide +kernel) ?_
  refine r_imul (pc := 11) X d_X7_clearSteps_11 ?_
  refine r_icmp_ge (pc := 12) (tgt := 28) X d_X7_clearSteps_12 (by decide +kernel) ?_ ?_
  · refine r_iconst (pc := 28) X d_X7_clearSteps_28 (by decide +kernel) ?_
    refine r_istore_n (pc := 29) X d_X7_clearSteps_29 fn1 (by decide +kernel) ?_
    exact h30
  · refine r_aload_n (pc := 15) X d_X7_clearSteps_15 fn0 ?_
    refine s_getF (pc := 16) (ci := 7) (k := 5) X xok7 (by decide +kernel) ob_39 trivial ly_39_5 (by decide +kernel) fl_RX7_18 d_X7_clearSteps_16 ?_
    refine r_iload_n (pc := 19) X d_X7_clearSteps_19 fn1 ?_
    refine r_lconst (pc := 20) X d_X7_clearSteps_20 (by decide +kernel) ?_
    refine s_last (pc := 21) X tn_42 ln_42 d_X7_clearSteps_21 ?_
    refine r_iinc (pc := 22) X d_X7_clearSteps_22 (by decide +kernel) (by decide +kernel) ?_
    refine r_goto (pc := 25) (tgt := 2) X d_X7_clearSteps_25 (by decide +kernel) ?_
    exact h2
def k_X7_clearSteps_30 (P : xP) (C30 : xK) : xK := x_iload 1 (x_aload 0 (y_getI 39 2 (x_push (.int 5) (x_imul (x_push (.int 2) (x_imul (x_icmp_ge (x_vret P) (x_aload 0 (y_getF 39 43 (x_iload 1 (x_push (.long 0) (y_last 43 800 (x_iinc 1 1 (C30))))))))))))))
set_option maxRecDepth 20000 in
theorem t_X7_clearSteps_30 {p : Program} {l : Launch} {e : Env} {s : State} {m : MethodId} {args : Array Value} {below : List Frame} {meth : Method} {c : Code} {g : xG} (X : xX p s m args c meth cX7_clearSteps RX7 2 g) (hr : meth.sig.returnType = none) {P : xP} {C30 : xK} (h30 : xAt p l e { frames := 0, cells := 0, slots := 0, locals := 0 } s m args below meth c g 2 xFT xN 0 0 (MQ below (xQc g xFT xN P) args s 0 0 (xFr g)) C30 30) : xAt p l e { frames := 0, cells := 0, slots := 0, locals := 0 } s m args below meth c g 2 xFT xN 0 0 (MQ below (xQc g xFT xN P) args s 0 0 (xFr g)) (k_X7_clearSteps_30 P C30) 30 := by
  unfold k_X7_clearSteps_30
  refine r_iload_n (pc := 30) X d_X7_clearSteps_30 fn1 ?_
  refine r_aload_n (pc := 31) X d_X7_clearSteps_31 fn0 ?_
  refine s_getI (pc := 32) (ci := 7) X xok7 (by decide +kernel) ob_39 (by decide +kernel) fl_RX7_71 d_X7_clearSteps_32 ?_
  refine r_iconst (pc := 35) X d_X7_clearSteps_35 (by decide +kernel) ?_
  refine r_imul (pc := 36) X d_X7_clearSteps_36 ?_
  refine r_iconst (pc := 37) X d_X7_clearSteps_37 (by decide +kernel) ?_
  refine r_imul (pc := 38) X d_X7_clearSteps_38 ?_
  refine r_icmp_ge (pc := 39) (tgt := 55) X d_X7_clearSteps_39 (by decide +kernel) ?_ ?_
  · exact r_vret (pc := 55) X hr d_X7_clearSteps_55
  · refine r_aload_n (pc := 42) X d_X7_clearSteps_42 fn0 ?_
    refine s_getF (pc := 43) (ci := 7) (k := 6) X xok7 (by decide +kernel) ob_39 trivial ly_39_6 (by decide +kernel) fl_RX7_22 d_X7_clearSteps_43 ?_
    refine r_iload_n (pc := 46) X d_X7_clearSteps_46 fn1 ?_
    refine r_lconst (pc := 47) X d_X7_clearSteps_47 (by decide +kernel) ?_
    refine s_last (pc := 48) X tn_43 ln_43 d_X7_clearSteps_48 ?_
    refine r_iinc (pc := 49) X d_X7_clearSteps_49 (by decide +kernel) (by decide +kernel) ?_
    refine r_goto (pc := 52) (tgt := 30) X d_X7_clearSteps_52 (by decide +kernel) ?_
    exact h30
set_option maxRecDepth 20000 in
theorem m_X7_clearSteps {l : Launch} {f : Nat → xH → xP → Prop}  {I2 : Nat → xH → xP → xM → xK} {I30 : Nat → xH → xP → xM → xK}
    (v0 : ∀ (a0 : Nat) (A : xH) (P : xP), f a0 A P → k_X7_clearSteps_0 P (xE (I2 a0 A P)) [some (.ref a0), none] [] A)
    (v2 : ∀ (a0 : Nat) (A : xH) (P : xP), f a0 A P → ∀ (μ : xM) (L : xL) (st : List Value) (B : xH), I2 a0 A P μ L st B → k_X7_clearSteps_2 P (xB (I2 a0 A P) μ) (xE (I30 a0 A P)) L st B)
    (v30 : ∀ (a0 : Nat) (A : xH) (P : xP), f a0 A P → ∀ (μ : xM) (L : xL) (st : List Value) (B : xH), I30 a0 A P μ L st B → k_X7_clearSteps_30 P (xB (I30 a0 A P) μ) L st B) : xCon l yX7_clearSteps cX7_clearSteps 2 none 0 0 xN xN 0 xFT xFT (w_R f) := by
  refine xc_R (plainFor_of_name pn_RX7) (by decide +kernel) (fun p e s m args below meth c g a0 A P h X hr _ => ?_)
  have h30 := x_loop1 (p := p) (l := l) (e := e) (R := { frames := 0, cells := 0, slots := 0, locals := 0 }) (s := s) (m := m) (args := args) (below := below) (meth := meth) (c := c) (g := g) (nL := 2) (F := xFT) (n := xN) (cells := 0) (slots := 0) (Q := MQ below (xQc g xFT xN P) args s 0 0 (xFr g)) (I := I30 a0 A P) (pc1 := 30) (fun μ i30 => xAt_mono (t_X7_clearSteps_30 (P := P) X hr i30) (v30 a0 A P h μ))
  have h2 := x_loop1 (p := p) (l := l) (e := e) (R := { frames := 0, cells := 0, slots := 0, locals := 0 }) (s := s) (m := m) (args := args) (below := below) (meth := meth) (c := c) (g := g) (nL := 2) (F := xFT) (n := xN) (cells := 0) (slots := 0) (Q := MQ below (xQc g xFT xN P) args s 0 0 (xFr g)) (I := I2 a0 A P) (pc1 := 2) (fun μ i2 => xAt_mono (t_X7_clearSteps_2 (P := P) X hr i2 h30) (v2 a0 A P h μ))
  exact ⟨_, v0 a0 A P h, t_X7_clearSteps_0 X hr h2⟩
theorem d_X7_hasSort_0 : decode cX7_hasSort 0 = .ok (.iload_n 1, 1) := by decide +kernel
theorem d_X7_hasSort_1 : decode cX7_hasSort 1 = .ok (.bipush 24, 2) := by decide +kernel
theorem d_X7_hasSort_3 : decode cX7_hasSort 3 = .ok (.imul, 1) := by decide +kernel
theorem d_X7_hasSort_4 : decode cX7_hasSort 4 = .ok (.iload_n 2, 1) := by decide +kernel
theorem d_X7_hasSort_5 : decode cX7_hasSort 5 = .ok (.iadd, 1) := by decide +kernel
theorem d_X7_hasSort_6 : decode cX7_hasSort 6 = .ok (.iconst 2, 1) := by decide +kernel
theorem d_X7_hasSort_7 : decode cX7_hasSort 7 = .ok (.imul, 1) := by decide +kernel
theorem d_X7_hasSort_8 : decode cX7_hasSort 8 = .ok (.istore_n 3, 1) := by decide +kernel
theorem d_X7_hasSort_9 : decode cX7_hasSort 9 = .ok (.aload_n 0, 1) := by decide +kernel
theorem d_X7_hasSort_10 : decode cX7_hasSort 10 = .ok (.getfield 18, 3) := by decide +kernel
theorem d_X7_hasSort_13 : decode cX7_hasSort 13 = .ok (.iload_n 3, 1) := by decide +kernel
theorem d_X7_hasSort_14 : decode cX7_hasSort 14 = .ok (.laload, 1) := by decide +kernel
theorem d_X7_hasSort_15 : decode cX7_hasSort 15 = .ok (.aload_n 0, 1) := by decide +kernel
theorem d_X7_hasSort_16 : decode cX7_hasSort 16 = .ok (.getfield 18, 3) := by decide +kernel
theorem d_X7_hasSort_19 : decode cX7_hasSort 19 = .ok (.iload_n 3, 1) := by decide +kernel
theorem d_X7_hasSort_20 : decode cX7_hasSort 20 = .ok (.iconst 1, 1) := by decide +kernel
theorem d_X7_hasSort_21 : decode cX7_hasSort 21 = .ok (.iadd, 1) := by decide +kernel
theorem d_X7_hasSort_22 : decode cX7_hasSort 22 = .ok (.laload, 1) := by decide +kernel
theorem d_X7_hasSort_23 : decode cX7_hasSort 23 = .ok (.lor, 1) := by decide +kernel
theorem d_X7_hasSort_24 : decode cX7_hasSort 24 = .ok (.lconst 0, 1) := by decide +kernel
theorem d_X7_hasSort_25 : decode cX7_hasSort 25 = .ok (.lcmp, 1) := by decide +kernel
theorem d_X7_hasSort_26 : decode cX7_hasSort 26 = .ok (.ifCond .eq 7, 3) := by decide +kernel
theorem d_X7_hasSort_29 : decode cX7_hasSort 29 = .ok (.iconst 1, 1) := by decide +kernel
theorem d_X7_hasSort_30 : decode cX7_hasSort 30 = .ok (.goto 4, 3) := by decide +kernel
theorem d_X7_hasSort_33 : decode cX7_hasSort 33 = .ok (.iconst 0, 1) := by decide +kernel
theorem d_X7_hasSort_34 : decode cX7_hasSort 34 = .ok (.ireturn, 1) := by decide +kernel
def k_X7_hasSort_34 (P : xP) : xK := x_zret P
set_option maxRecDepth 20000 in
theorem t_X7_hasSort_34 {p : Program} {l : Launch} {e : Env} {s : State} {m : MethodId} {args : Array Value} {below : List Frame} {meth : Method} {c : Code} {g : xG} (X : xX p s m args c meth cX7_hasSort RX7 4 g) (hr : meth.sig.returnType = (some .boolean)) {P : xP} : xAt p l e { frames := 0, cells := 0, slots := 0, locals := 0 } s m args below meth c g 4 xFT xN 0 0 (MQ below (xQc g xFT xN P) args s 0 0 (xFr g)) (k_X7_hasSort_34 P) 34 := by
  unfold k_X7_hasSort_34
  exact r_zret (pc := 34) X hr d_X7_hasSort_34
def k_X7_hasSort_0 (P : xP) : xK := x_iload 1 (x_push (.int 24) (x_imul (x_iload 2 (x_iadd (x_push (.int 2) (x_imul (x_istore 3 (x_aload 0 (y_getF 39 42 (x_iload 3 (y_lald 42 3840 (x_aload 0 (y_getF 39 42 (x_iload 3 (x_push (.int 1) (x_iadd (y_lald 42 3840 (x_lor (x_push (.long 0) (x_lcmp (x_if_eq (x_push (.int 0) ((k_X7_hasSort_34 P))) (x_push (.int 1) ((k_X7_hasSort_34 P))))))))))))))))))))))))
set_option maxRecDepth 20000 in
theorem t_X7_hasSort_0 {p : Program} {l : Launch} {e : Env} {s : State} {m : MethodId} {args : Array Value} {below : List Frame} {meth : Method} {c : Code} {g : xG} (X : xX p s m args c meth cX7_hasSort RX7 4 g) (hr : meth.sig.returnType = (some .boolean)) {P : xP} : xAt p l e { frames := 0, cells := 0, slots := 0, locals := 0 } s m args below meth c g 4 xFT xN 0 0 (MQ below (xQc g xFT xN P) args s 0 0 (xFr g)) (k_X7_hasSort_0 P) 0 := by
  unfold k_X7_hasSort_0
  refine r_iload_n (pc := 0) X d_X7_hasSort_0 fn1 ?_
  refine r_bipush (pc := 1) X d_X7_hasSort_1 (by decide +kernel) ?_
  refine r_imul (pc := 3) X d_X7_hasSort_3 ?_
  refine r_iload_n (pc := 4) X d_X7_hasSort_4 fn2 ?_
  refine r_iadd (pc := 5) X d_X7_hasSort_5 ?_
  refine r_iconst (pc := 6) X d_X7_hasSort_6 (by decide +kernel) ?_
  refine r_imul (pc := 7) X d_X7_hasSort_7 ?_
  refine r_istore_n (pc := 8) X d_X7_hasSort_8 fn3 (by decide +kernel) ?_
  refine r_aload_n (pc := 9) X d_X7_hasSort_9 fn0 ?_
  refine s_getF (pc := 10) (ci := 7) (k := 5) X xok7 (by decide +kernel) ob_39 trivial ly_39_5 (by decide +kernel) fl_RX7_18 d_X7_hasSort_10 ?_
  refine r_iload_n (pc := 13) X d_X7_hasSort_13 fn3 ?_
  refine s_lald (pc := 14) X tn_42 ln_42 d_X7_hasSort_14 ?_
  refine r_aload_n (pc := 15) X d_X7_hasSort_15 fn0 ?_
  refine s_getF (pc := 16) (ci := 7) (k := 5) X xok7 (by decide +kernel) ob_39 trivial ly_39_5 (by decide +kernel) fl_RX7_18 d_X7_hasSort_16 ?_
  refine r_iload_n (pc := 19) X d_X7_hasSort_19 fn3 ?_
  refine r_iconst (pc := 20) X d_X7_hasSort_20 (by decide +kernel) ?_
  refine r_iadd (pc := 21) X d_X7_hasSort_21 ?_
  refine s_lald (pc := 22) X tn_42 ln_42 d_X7_hasSort_22 ?_
  refine r_lor (pc := 23) X d_X7_hasSort_23 ?_
  refine r_lconst (pc := 24) X d_X7_hasSort_24 (by decide +kernel) ?_
  refine r_lcmp (pc := 25) X d_X7_hasSort_25 ?_
  refine r_if_eq (pc := 26) (tgt := 33) X d_X7_hasSort_26 (by decide +kernel) ?_ ?_
  · refine r_iconst (pc := 33) X d_X7_hasSort_33 (by decide +kernel) ?_
    exact t_X7_hasSort_34 X hr
  · refine r_iconst (pc := 29) X d_X7_hasSort_29 (by decide +kernel) ?_
    refine r_goto (pc := 30) (tgt := 34) X d_X7_hasSort_30 (by decide +kernel) ?_
    exact t_X7_hasSort_34 X hr
def f_X7_hasSort (a0 : Nat) (a1 : Int32) (a2 : Int32) (A : xH) (P : xP) : Prop := k_X7_hasSort_0 P [some (.ref a0), some (.int a1), some (.int a2), none] [] A
set_option maxRecDepth 20000 in
theorem con_X7_hasSort (l : Launch) : xCon l yX7_hasSort cX7_hasSort 4 (some .boolean) 0 0 xN xN 0 xFT xFT (w_RII f_X7_hasSort) :=
  xc_RII (plainFor_of_name pn_RX7) (by decide +kernel) (fun p e s m args below meth c g a0 a1 a2 A P h X hr _ => ⟨_, h, t_X7_hasSort_0 X hr⟩)
theorem d_X7_gather_0 : decode cX7_gather 0 = .ok (.iconst 0, 1) := by decide +kernel
theorem d_X7_gather_1 : decode cX7_gather 1 = .ok (.istore_n 1, 1) := by decide +kernel
theorem d_X7_gather_2 : decode cX7_gather 2 = .ok (.iload_n 1, 1) := by decide +kernel
theorem d_X7_gather_3 : decode cX7_gather 3 = .ok (.aload_n 0, 1) := by decide +kernel
theorem d_X7_gather_4 : decode cX7_gather 4 = .ok (.getfield 71, 3) := by decide +kernel
theorem d_X7_gather_7 : decode cX7_gather 7 = .ok (.if_icmp .ge 147, 3) := by decide +kernel
theorem d_X7_gather_10 : decode cX7_gather 10 = .ok (.aload_n 0, 1) := by decide +kernel
theorem d_X7_gather_11 : decode cX7_gather 11 = .ok (.getfield 31, 3) := by decide +kernel
theorem d_X7_gather_14 : decode cX7_gather 14 = .ok (.iload_n 1, 1) := by decide +kernel
theorem d_X7_gather_15 : decode cX7_gather 15 = .ok (.iconst 0, 1) := by decide +kernel
theorem d_X7_gather_16 : decode cX7_gather 16 = .ok (.bastore, 1) := by decide +kernel
theorem d_X7_gather_17 : decode cX7_gather 17 = .ok (.iconst 0, 1) := by decide +kernel
theorem d_X7_gather_18 : decode cX7_gather 18 = .ok (.istore_n 2, 1) := by decide +kernel
theorem d_X7_gather_19 : decode cX7_gather 19 = .ok (.iload_n 2, 1) := by decide +kernel
theorem d_X7_gather_20 : decode cX7_gather 20 = .ok (.iconst 4, 1) := by decide +kernel
theorem d_X7_gather_21 : decode cX7_gather 21 = .ok (.if_icmp .ge 38, 3) := by decide +kernel
theorem d_X7_gather_24 : decode cX7_gather 24 = .ok (.aload_n 0, 1) := by decide +kernel
theorem d_X7_gather_25 : decode cX7_gather 25 = .ok (.getfield 31, 3) := by decide +kernel
theorem d_X7_gather_28 : decode cX7_gather 28 = .ok (.iload_n 1, 1) := by decide +kernel
theorem d_X7_gather_29 : decode cX7_gather 29 = .ok (.aload_n 0, 1) := by decide +kernel
theorem d_X7_gather_30 : decode cX7_gather 30 = .ok (.getfield 31, 3) := by decide +kernel
theorem d_X7_gather_33 : decode cX7_gather 33 = .ok (.iload_n 1, 1) := by decide +kernel
theorem d_X7_gather_34 : decode cX7_gather 34 = .ok (.baload, 1) := by decide +kernel
theorem d_X7_gather_35 : decode cX7_gather 35 = .ok (.ifCond .ne 12, 3) := by decide +kernel
theorem d_X7_gather_38 : decode cX7_gather 38 = .ok (.aload_n 0, 1) := by decide +kernel
theorem d_X7_gather_39 : decode cX7_gather 39 = .ok (.iload_n 1, 1) := by decide +kernel
theorem d_X7_gather_40 : decode cX7_gather 40 = .ok (.iload_n 2, 1) := by decide +kernel
theorem d_X7_gather_41 : decode cX7_gather 41 = .ok (.invokevirtual 136, 3) := by decide +kernel
theorem d_X7_gather_44 : decode cX7_gather 44 = .ok (.ifCond .eq 7, 3) := by decide +kernel
theorem d_X7_gather_47 : decode cX7_gather 47 = .ok (.iconst 1, 1) := by decide +kernel
theorem d_X7_gather_48 : decode cX7_gather 48 = .ok (.goto 4, 3) := by decide +kernel
theorem d_X7_gather_51 : decode cX7_gather 51 = .ok (.iconst 0, 1) := by decide +kernel
theorem d_X7_gather_52 : decode cX7_gather 52 = .ok (.bastore, 1) := by decide +kernel
theorem d_X7_gather_53 : decode cX7_gather 53 = .ok (.iinc 2 1, 3) := by decide +kernel
theorem d_X7_gather_56 : decode cX7_gather 56 = .ok (.goto (-37), 3) := by decide +kernel
theorem d_X7_gather_59 : decode cX7_gather 59 = .ok (.iconst 0, 1) := by decide +kernel
theorem d_X7_gather_60 : decode cX7_gather 60 = .ok (.istore_n 2, 1) := by decide +kernel
theorem d_X7_gather_61 : decode cX7_gather 61 = .ok (.iload_n 2, 1) := by decide +kernel
theorem d_X7_gather_62 : decode cX7_gather 62 = .ok (.iconst 2, 1) := by decide +kernel
theorem d_X7_gather_63 : decode cX7_gather 63 = .ok (.if_icmp .ge 85, 3) := by decide +kernel
theorem d_X7_gather_66 : decode cX7_gather 66 = .ok (.lconst 0, 1) := by decide +kernel
theorem d_X7_gather_67 : decode cX7_gather 67 = .ok (.lstore_n 3, 1) := by decide +kernel
theorem d_X7_gather_68 : decode cX7_gather 68 = .ok (.lconst 0, 1) := by decide +kernel
theorem d_X7_gather_69 : decode cX7_gather 69 = .ok (.lstore 5, 2) := by decide +kernel
theorem d_X7_gather_71 : decode cX7_gather 71 = .ok (.iconst 4, 1) := by decide +kernel
theorem d_X7_gather_72 : decode cX7_gather 72 = .ok (.istore 7, 2) := by decide +kernel
theorem d_X7_gather_74 : decode cX7_gather 74 = .ok (.iload 7, 2) := by decide +kernel
theorem d_X7_gather_76 : decode cX7_gather 76 = .ok (.bipush 24, 2) := by decide +kernel
theorem d_X7_gather_78 : decode cX7_gather 78 = .ok (.if_icmp .ge 41, 3) := by decide +kernel
theorem d_X7_gather_81 : decode cX7_gather 81 = .ok (.aload_n 0, 1) := by decide +kernel
theorem d_X7_gather_82 : decode cX7_gather 82 = .ok (.getfield 18, 3) := by decide +kernel
theorem d_X7_gather_85 : decode cX7_gather 85 = .ok (.iload_n 1, 1) := by decide +kernel
theorem d_X7_gather_86 : decode cX7_gather 86 = .ok (.bipush 24, 2) := by decide +kernel
theorem d_X7_gather_88 : decode cX7_gather 88 = .ok (.imul, 1) := by decide +kernel
theorem d_X7_gather_89 : decode cX7_gather 89 = .ok (.iload 7, 2) := by decide +kernel
theorem d_X7_gather_91 : decode cX7_gather 91 = .ok (.iadd, 1) := by decide +kernel
theorem d_X7_gather_92 : decode cX7_gather 92 = .ok (.iconst 2, 1) := by decide +kernel
theorem d_X7_gather_93 : decode cX7_gather 93 = .ok (.imul, 1) := by decide +kernel
theorem d_X7_gather_94 : decode cX7_gather 94 = .ok (.iload_n 2, 1) := by decide +kernel
theorem d_X7_gather_95 : decode cX7_gather 95 = .ok (.iadd, 1) := by decide +kernel
theorem d_X7_gather_96 : decode cX7_gather 96 = .ok (.laload, 1) := by decide +kernel
theorem d_X7_gather_97 : decode cX7_gather 97 = .ok (.lstore 8, 2) := by decide +kernel
theorem d_X7_gather_99 : decode cX7_gather 99 = .ok (.lload 5, 2) := by decide +kernel
theorem d_X7_gather_101 : decode cX7_gather 101 = .ok (.lload_n 3, 1) := by decide +kernel
theorem d_X7_gather_102 : decode cX7_gather 102 = .ok (.lload 8, 2) := by decide +kernel
theorem d_X7_gather_104 : decode cX7_gather 104 = .ok (.land, 1) := by decide +kernel
theorem d_X7_gather_105 : decode cX7_gather 105 = .ok (.lor, 1) := by decide +kernel
theorem d_X7_gather_106 : decode cX7_gather 106 = .ok (.lstore 5, 2) := by decide +kernel
theorem d_X7_gather_108 : decode cX7_gather 108 = .ok (.lload_n 3, 1) := by decide +kernel
theorem d_X7_gather_109 : decode cX7_gather 109 = .ok (.lload 8, 2) := by decide +kernel
theorem d_X7_gather_111 : decode cX7_gather 111 = .ok (.lor, 1) := by decide +kernel
theorem d_X7_gather_112 : decode cX7_gather 112 = .ok (.lstore_n 3, 1) := by decide +kernel
theorem d_X7_gather_113 : decode cX7_gather 113 = .ok (.iinc 7 1, 3) := by decide +kernel
theorem d_X7_gather_116 : decode cX7_gather 116 = .ok (.goto (-42), 3) := by decide +kernel
theorem d_X7_gather_119 : decode cX7_gather 119 = .ok (.aload_n 0, 1) := by decide +kernel
theorem d_X7_gather_120 : decode cX7_gather 120 = .ok (.getfield 25, 3) := by decide +kernel
theorem d_X7_gather_123 : decode cX7_gather 123 = .ok (.iload_n 1, 1) := by decide +kernel
theorem d_X7_gather_124 : decode cX7_gather 124 = .ok (.iconst 2, 1) := by decide +kernel
theorem d_X7_gather_125 : decode cX7_gather 125 = .ok (.imul, 1) := by decide +kernel
theorem d_X7_gather_126 : decode cX7_gather 126 = .ok (.iload_n 2, 1) := by decide +kernel
theorem d_X7_gather_127 : decode cX7_gather 127 = .ok (.iadd, 1) := by decide +kernel
theorem d_X7_gather_128 : decode cX7_gather 128 = .ok (.lload_n 3, 1) := by decide +kernel
theorem d_X7_gather_129 : decode cX7_gather 129 = .ok (.lastore, 1) := by decide +kernel
theorem d_X7_gather_130 : decode cX7_gather 130 = .ok (.aload_n 0, 1) := by decide +kernel
theorem d_X7_gather_131 : decode cX7_gather 131 = .ok (.getfield 28, 3) := by decide +kernel
theorem d_X7_gather_134 : decode cX7_gather 134 = .ok (.iload_n 1, 1) := by decide +kernel
theorem d_X7_gather_135 : decode cX7_gather 135 = .ok (.iconst 2, 1) := by decide +kernel
theorem d_X7_gather_136 : decode cX7_gather 136 = .ok (.imul, 1) := by decide +kernel
theorem d_X7_gather_137 : decode cX7_gather 137 = .ok (.iload_n 2, 1) := by decide +kernel
theorem d_X7_gather_138 : decode cX7_gather 138 = .ok (.iadd, 1) := by decide +kernel
theorem d_X7_gather_139 : decode cX7_gather 139 = .ok (.lload 5, 2) := by decide +kernel
theorem d_X7_gather_141 : decode cX7_gather 141 = .ok (.lastore, 1) := by decide +kernel
theorem d_X7_gather_142 : decode cX7_gather 142 = .ok (.iinc 2 1, 3) := by decide +kernel
theorem d_X7_gather_145 : decode cX7_gather 145 = .ok (.goto (-84), 3) := by decide +kernel
theorem d_X7_gather_148 : decode cX7_gather 148 = .ok (.iinc 1 1, 3) := by decide +kernel
theorem d_X7_gather_151 : decode cX7_gather 151 = .ok (.goto (-149), 3) := by decide +kernel
theorem d_X7_gather_154 : decode cX7_gather 154 = .ok (.return_, 1) := by decide +kernel
def k_X7_gather_0 (P : xP) (C2 : xK) : xK := x_push (.int 0) (x_istore 1 (C2))
set_option maxRecDepth 20000 in
theorem t_X7_gather_0 {p : Program} {l : Launch} {e : Env} {s : State} {m : MethodId} {args : Array Value} {below : List Frame} {meth : Method} {c : Code} {g : xG} (X : xX p s m args c meth cX7_gather RX7 10 g) (hr : meth.sig.returnType = none) {P : xP} {C2 : xK} (h2 : xAt p l e { frames := 1, cells := 0, slots := 0, locals := 23 } s m args below meth c g 10 xFT xN 0 0 (MQ below (xQc g xFT xN P) args s 0 0 (xFr g)) C2 2) : xAt p l e { frames := 1, cells := 0, slots := 0, locals := 23 } s m args below meth c g 10 xFT xN 0 0 (MQ below (xQc g xFT xN P) args s 0 0 (xFr g)) (k_X7_gather_0 P C2) 0 := by
  unfold k_X7_gather_0
  refine r_iconst (pc := 0) X d_X7_gather_0 (by decide +kernel) ?_
  refine r_istore_n (pc := 1) X d_X7_gather_1 fn1 (by decide +kernel) ?_
  exact h2
def k_X7_gather_2 (P : xP) (C19 : xK) : xK := x_iload 1 (x_aload 0 (y_getI 39 2 (x_icmp_ge (x_vret P) (x_aload 0 (y_getF 39 46 (x_iload 1 (x_push (.int 0) (y_bast 46 4 80 (x_push (.int 0) (x_istore 2 (C19)))))))))))
set_option maxRecDepth 20000 in
theorem t_X7_gather_2 {p : Program} {l : Launch} {e : Env} {s : State} {m : MethodId} {args : Array Value} {below : List Frame} {meth : Method} {c : Code} {g : xG} (X : xX p s m args c meth cX7_gather RX7 10 g) (hr : meth.sig.returnType = none) {P : xP} {C19 : xK} (h19 : xAt p l e { frames := 1, cells := 0, slots := 0, locals := 23 } s m args below meth c g 10 xFT xN 0 0 (MQ below (xQc g xFT xN P) args s 0 0 (xFr g)) C19 19) : xAt p l e { frames := 1, cells := 0, slots := 0, locals := 23 } s m args below meth c g 10 xFT xN 0 0 (MQ below (xQc g xFT xN P) args s 0 0 (xFr g)) (k_X7_gather_2 P C19) 2 := by
  unfold k_X7_gather_2
  refine r_iload_n (pc := 2) X d_X7_gather_2 fn1 ?_
  refine r_aload_n (pc := 3) X d_X7_gather_3 fn0 ?_
  refine s_getI (pc := 4) (ci := 7) X xok7 (by decide +kernel) ob_39 (by decide +kernel) fl_RX7_71 d_X7_gather_4 ?_
  refine r_icmp_ge (pc := 7) (tgt := 154) X d_X7_gather_7 (by decide +kernel) ?_ ?_
  · exact r_vret (pc := 154) X hr d_X7_gather_154
  · refine r_aload_n (pc := 10) X d_X7_gather_10 fn0 ?_
    refine s_getF (pc := 11) (ci := 7) (k := 9) X xok7 (by decide +kernel) ob_39 trivial ly_39_9 (by decide +kernel) fl_RX7_31 d_X7_gather_11 ?_
    refine r_iload_n (pc := 14) X d_X7_gather_14 fn1 ?_
    refine r_iconst (pc := 15) X d_X7_gather_15 (by decide +kernel) ?_
    refine s_zast (pc := 16) X tn_46 ln_46 d_X7_gather_16 ?_
    refine r_iconst (pc := 17) X d_X7_gather_17 (by decide +kernel) ?_
    refine r_istore_n (pc := 18) X d_X7_gather_18 fn2 (by decide +kernel) ?_
    exact h19
def k_X7_gather_52 (P : xP) (C19 : xK) : xK := x_bast xN 4 (x_iinc 2 1 (C19))
set_option maxRecDepth 20000 in
theorem t_X7_gather_52 {p : Program} {l : Launch} {e : Env} {s : State} {m : MethodId} {args : Array Value} {below : List Frame} {meth : Method} {c : Code} {g : xG} (X : xX p s m args c meth cX7_gather RX7 10 g) (hr : meth.sig.returnType = none) {P : xP} {C19 : xK} (h19 : xAt p l e { frames := 1, cells := 0, slots := 0, locals := 23 } s m args below meth c g 10 xFT xN 0 0 (MQ below (xQc g xFT xN P) args s 0 0 (xFr g)) C19 19) : xAt p l e { frames := 1, cells := 0, slots := 0, locals := 23 } s m args below meth c g 10 xFT xN 0 0 (MQ below (xQc g xFT xN P) args s 0 0 (xFr g)) (k_X7_gather_52 P C19) 52 := by
  unfold k_X7_gather_52
  refine r_zast (pc := 52) X d_X7_gather_52 ?_
  refine r_iinc (pc := 53) X d_X7_gather_53 (by decide +kernel) (by decide +kernel) ?_
  refine r_goto (pc := 56) (tgt := 19) X d_X7_gather_56 (by decide +kernel) ?_
  exact h19
def k_X7_gather_47 (P : xP) (C19 : xK) : xK := x_push (.int 1) ((k_X7_gather_52 P C19))
set_option maxRecDepth 20000 in
theorem t_X7_gather_47 {p : Program} {l : Launch} {e : Env} {s : State} {m : MethodId} {args : Array Value} {below : List Frame} {meth : Method} {c : Code} {g : xG} (X : xX p s m args c meth cX7_gather RX7 10 g) (hr : meth.sig.returnType = none) {P : xP} {C19 : xK} (h19 : xAt p l e { frames := 1, cells := 0, slots := 0, locals := 23 } s m args below meth c g 10 xFT xN 0 0 (MQ below (xQc g xFT xN P) args s 0 0 (xFr g)) C19 19) : xAt p l e { frames := 1, cells := 0, slots := 0, locals := 23 } s m args below meth c g 10 xFT xN 0 0 (MQ below (xQc g xFT xN P) args s 0 0 (xFr g)) (k_X7_gather_47 P C19) 47 := by
  unfold k_X7_gather_47
  refine r_iconst (pc := 47) X d_X7_gather_47 (by decide +kernel) ?_
  refine r_goto (pc := 48) (tgt := 52) X d_X7_gather_48 (by decide +kernel) ?_
  exact t_X7_gather_52 X hr h19
def k_X7_gather_19 (P : xP) (C19 : xK) (C61 : xK) : xK := x_iload 2 (x_push (.int 4) (x_icmp_ge (x_push (.int 0) (x_istore 2 (C61))) (x_aload 0 (y_getF 39 46 (x_iload 1 (x_aload 0 (y_getF 39 46 (x_iload 1 (y_iald 46 80 (x_if_ne ((k_X7_gather_47 P C19)) (x_aload 0 (x_iload 1 (x_iload 2 (y_cv2 39 (w_RII f_X7_hasSort) (x_if_eq (x_push (.int 0) ((k_X7_gather_52 P C19))) ((k_X7_gather_47 P C19)))))))))))))))))
set_option maxRecDepth 20000 in
theorem t_X7_gather_19 {p : Program} {l : Launch} {e : Env} {s : State} {m : MethodId} {args : Array Value} {below : List Frame} {meth : Method} {c : Code} {g : xG} (X : xX p s m args c meth cX7_gather RX7 10 g) (hr : meth.sig.returnType = none) {P : xP} {C19 : xK} {C61 : xK} (h19 : xAt p l e { frames := 1, cells := 0, slots := 0, locals := 23 } s m args below meth c g 10 xFT xN 0 0 (MQ below (xQc g xFT xN P) args s 0 0 (xFr g)) C19 19) (h61 : xAt p l e { frames := 1, cells := 0, slots := 0, locals := 23 } s m args below meth c g 10 xFT xN 0 0 (MQ below (xQc g xFT xN P) args s 0 0 (xFr g)) C61 61) : xAt p l e { frames := 1, cells := 0, slots := 0, locals := 23 } s m args below meth c g 10 xFT xN 0 0 (MQ below (xQc g xFT xN P) args s 0 0 (xFr g)) (k_X7_gather_19 P C19 C61) 19 := by
  unfold k_X7_gather_19
  refine r_iload_n (pc := 19) X d_X7_gather_19 fn2 ?_
  refine r_iconst (pc := 20) X d_X7_gather_20 (by decide +kernel) ?_
  refine r_icmp_ge (pc := 21) (tgt := 59) X d_X7_gather_21 (by decide +kernel) ?_ ?_
  · refine r_iconst (pc := 59) X d_X7_gather_59 (by decide +kernel) ?_
    refine r_istore_n (pc := 60) X d_X7_gather_60 fn2 (by decide +kernel) ?_
    exact h61
  · refine r_aload_n (pc := 24) X d_X7_gather_24 fn0 ?_
    refine s_getF (pc := 25) (ci := 7) (k := 9) X xok7 (by decide +kernel) ob_39 trivial ly_39_9 (by decide +kernel) fl_RX7_31 d_X7_gather_25 ?_
    refine r_iload_n (pc := 28) X d_X7_gather_28 fn1 ?_
    refine r_aload_n (pc := 29) X d_X7_gather_29 fn0 ?_
    refine s_getF (pc := 30) (ci := 7) (k := 9) X xok7 (by decide +kernel) ob_39 trivial ly_39_9 (by decide +kernel) fl_RX7_31 d_X7_gather_30 ?_
    refine r_iload_n (pc := 33) X d_X7_gather_33 fn1 ?_
    refine s_zald (pc := 34) X tn_46 ln_46 d_X7_gather_34 ?_
    refine r_if_ne (pc := 35) (tgt := 47) X d_X7_gather_35 (by decide +kernel) ?_ ?_
    · exact t_X7_gather_47 X hr h19
    · refine r_aload_n (pc := 38) X d_X7_gather_38 fn0 ?_
      refine r_iload_n (pc := 39) X d_X7_gather_39 fn1 ?_
      refine r_iload_n (pc := 40) X d_X7_gather_40 fn2 ?_
      refine s_cv2 (pc := 41) (ci := 7) X xok7 (by decide +kernel) ob_39 rfl (con_X7_hasSort l) mf_X7_hasSort ml_RX7_136 (by decide +kernel) (by decide +kernel) d_X7_gather_41 ?_
      refine r_if_eq (pc := 44) (tgt := 51) X d_X7_gather_44 (by decide +kernel) ?_ ?_
      · refine r_iconst (pc := 51) X d_X7_gather_51 (by decide +kernel) ?_
        exact t_X7_gather_52 X hr h19
      · exact t_X7_gather_47 X hr h19
def k_X7_gather_61 (P : xP) (C2 : xK) (C74 : xK) : xK := x_iload 2 (x_push (.int 2) (x_icmp_ge (x_iinc 1 1 (C2)) (x_push (.long 0) (x_lstore 3 (x_push (.long 0) (x_lstore 5 (x_push (.int 4) (x_istore 7 (C74)))))))))
set_option maxRecDepth 20000 in
theorem t_X7_gather_61 {p : Program} {l : Launch} {e : Env} {s : State} {m : MethodId} {args : Array Value} {below : List Frame} {meth : Method} {c : Code} {g : xG} (X : xX p s m args c meth cX7_gather RX7 10 g) (hr : meth.sig.returnType = none) {P : xP} {C2 : xK} {C74 : xK} (h2 : xAt p l e { frames := 1, cells := 0, slots := 0, locals := 23 } s m args below meth c g 10 xFT xN 0 0 (MQ below (xQc g xFT xN P) args s 0 0 (xFr g)) C2 2) (h74 : xAt p l e { frames := 1, cells := 0, slots := 0, locals := 23 } s m args below meth c g 10 xFT xN 0 0 (MQ below (xQc g xFT xN P) args s 0 0 (xFr g)) C74 74) : xAt p l e { frames := 1, cells := 0, slots := 0, locals := 23 } s m args below meth c g 10 xFT xN 0 0 (MQ below (xQc g xFT xN P) args s 0 0 (xFr g)) (k_X7_gather_61 P C2 C74) 61 := by
  unfold k_X7_gather_61
  refine r_iload_n (pc := 61) X d_X7_gather_61 fn2 ?_
  refine r_iconst (pc := 62) X d_X7_gather_62 (by decide +kernel) ?_
  refine r_icmp_ge (pc := 63) (tgt := 148) X d_X7_gather_63 (by decide +kernel) ?_ ?_
  · refine r_iinc (pc := 148) X d_X7_gather_148 (by decide +kernel) (by decide +kernel) ?_
    refine r_goto (pc := 151) (tgt := 2) X d_X7_gather_151 (by decide +kernel) ?_
    exact h2
  · refine r_lconst (pc := 66) X d_X7_gather_66 (by decide +kernel) ?_
    refine r_lstore_n (pc := 67) X d_X7_gather_67 fn3 (by decide +kernel) ?_
    refine r_lconst (pc := 68) X d_X7_gather_68 (by decide +kernel) ?_
    refine r_lstore (pc := 69) X d_X7_gather_69 (by decide +kernel) ?_
    refine r_iconst (pc := 71) X d_X7_gather_71 (by decide +kernel) ?_
    refine r_istore (pc := 72) X d_X7_gather_72 (by decide +kernel) ?_
    exact h74
def k_X7_gather_74 (P : xP) (C61 : xK) (C74 : xK) : xK := x_iload 7 (x_push (.int 24) (x_icmp_ge (x_aload 0 (y_getF 39 44 (x_iload 1 (x_push (.int 2) (x_imul (x_iload 2 (x_iadd (x_lload 3 (y_last 44 160 (x_aload 0 (y_getF 39 45 (x_iload 1 (x_push (.int 2) (x_imul (x_iload 2 (x_iadd (x_lload 5 (y_last 45 160 (x_iinc 2 1 (C61)))))))))))))))))))) (x_aload 0 (y_getF 39 42 (x_iload 1 (x_push (.int 24) (x_imul (x_iload 7 (x_iadd (x_push (.int 2) (x_imul (x_iload 2 (x_iadd (y_lald 42 3840 (x_lstore 8 (x_lload 5 (x_lload 3 (x_lload 8 (x_land (x_lor (x_lstore 5 (x_lload 3 (x_lload 8 (x_lor (x_lstore 3 (x_iinc 7 1 (C74)))))))))))))))))))))))))))
set_option maxRecDepth 20000 in
theorem t_X7_gather_74 {p : Program} {l : Launch} {e : Env} {s : State} {m : MethodId} {args : Array Value} {below : List Frame} {meth : Method} {c : Code} {g : xG} (X : xX p s m args c meth cX7_gather RX7 10 g) (hr : meth.sig.returnType = none) {P : xP} {C61 : xK} {C74 : xK} (h61 : xAt p l e { frames := 1, cells := 0, slots := 0, locals := 23 } s m args below meth c g 10 xFT xN 0 0 (MQ below (xQc g xFT xN P) args s 0 0 (xFr g)) C61 61) (h74 : xAt p l e { frames := 1, cells := 0, slots := 0, locals := 23 } s m args below meth c g 10 xFT xN 0 0 (MQ below (xQc g xFT xN P) args s 0 0 (xFr g)) C74 74) : xAt p l e { frames := 1, cells := 0, slots := 0, locals := 23 } s m args below meth c g 10 xFT xN 0 0 (MQ below (xQc g xFT xN P) args s 0 0 (xFr g)) (k_X7_gather_74 P C61 C74) 74 := by
  unfold k_X7_gather_74
  refine r_iload (pc := 74) X d_X7_gather_74 ?_
  refine r_bipush (pc := 76) X d_X7_gather_76 (by decide +kernel) ?_
  refine r_icmp_ge (pc := 78) (tgt := 119) X d_X7_gather_78 (by decide +kernel) ?_ ?_
  · refine r_aload_n (pc := 119) X d_X7_gather_119 fn0 ?_
    refine s_getF (pc := 120) (ci := 7) (k := 7) X xok7 (by decide +kernel) ob_39 trivial ly_39_7 (by decide +kernel) fl_RX7_25 d_X7_gather_120 ?_
    refine r_iload_n (pc := 123) X d_X7_gather_123 fn1 ?_
    refine r_iconst (pc := 124) X d_X7_gather_124 (by decide +kernel) ?_
    refine r_imul (pc := 125) X d_X7_gather_125 ?_
    refine r_iload_n (pc := 126) X d_X7_gather_126 fn2 ?_
    refine r_iadd (pc := 127) X d_X7_gather_127 ?_
    refine r_lload_n (pc := 128) X d_X7_gather_128 fn3 ?_
    refine s_last (pc := 129) X tn_44 ln_44 d_X7_gather_129 ?_
    refine r_aload_n (pc := 130) X d_X7_gather_130 fn0 ?_
    refine s_getF (pc := 131) (ci := 7) (k := 8) X xok7 (by decide +kernel) ob_39 trivial ly_39_8 (by decide +kernel) fl_RX7_28 d_X7_gather_131 ?_
    refine r_iload_n (pc := 134) X d_X7_gather_134 fn1 ?_
    refine r_iconst (pc := 135) X d_X7_gather_135 (by decide +kernel) ?_
    refine r_imul (pc := 136) X d_X7_gather_136 ?_
    refine r_iload_n (pc := 137) X d_X7_gather_137 fn2 ?_
    refine r_iadd (pc := 138) X d_X7_gather_138 ?_
    refine r_lload (pc := 139) X d_X7_gather_139 ?_
    refine s_last (pc := 141) X tn_45 ln_45 d_X7_gather_141 ?_
    refine r_iinc (pc := 142) X d_X7_gather_142 (by decide +kernel) (by decide +kernel) ?_
    refine r_goto (pc := 145) (tgt := 61) X d_X7_gather_145 (by decide +kernel) ?_
    exact h61
  · refine r_aload_n (pc := 81) X d_X7_gather_81 fn0 ?_
    refine s_getF (pc := 82) (ci := 7) (k := 5) X xok7 (by decide +kernel) ob_39 trivial ly_39_5 (by decide +kernel) fl_RX7_18 d_X7_gather_82 ?_
    refine r_iload_n (pc := 85) X d_X7_gather_85 fn1 ?_
    refine r_bipush (pc := 86) X d_X7_gather_86 (by decide +kernel) ?_
    refine r_imul (pc := 88) X d_X7_gather_88 ?_
    refine r_iload (pc := 89) X d_X7_gather_89 ?_
    refine r_iadd (pc := 91) X d_X7_gather_91 ?_
    refine r_iconst (pc := 92) X d_X7_gather_92 (by decide +kernel) ?_
    refine r_imul (pc := 93) X d_X7_gather_93 ?_
    refine r_iload_n (pc := 94) X d_X7_gather_94 fn2 ?_
    refine r_iadd (pc := 95) X d_X7_gather_95 ?_
    refine s_lald (pc := 96) X tn_42 ln_42 d_X7_gather_96 ?_
    refine r_lstore (pc := 97) X d_X7_gather_97 (by decide +kernel) ?_
    refine r_lload (pc := 99) X d_X7_gather_99 ?_
    refine r_lload_n (pc := 101) X d_X7_gather_101 fn3 ?_
    refine r_lload (pc := 102) X d_X7_gather_102 ?_
    refine r_land (pc := 104) X d_X7_gather_104 ?_
    refine r_lor (pc := 105) X d_X7_gather_105 ?_
    refine r_lstore (pc := 106) X d_X7_gather_106 (by decide +kernel) ?_
    refine r_lload_n (pc := 108) X d_X7_gather_108 fn3 ?_
    refine r_lload (pc := 109) X d_X7_gather_109 ?_
    refine r_lor (pc := 111) X d_X7_gather_111 ?_
    refine r_lstore_n (pc := 112) X d_X7_gather_112 fn3 (by decide +kernel) ?_
    refine r_iinc (pc := 113) X d_X7_gather_113 (by decide +kernel) (by decide +kernel) ?_
    refine r_goto (pc := 116) (tgt := 74) X d_X7_gather_116 (by decide +kernel) ?_
    exact h74
set_option maxRecDepth 20000 in
theorem m_X7_gather {l : Launch} {f : Nat → xH → xP → Prop}  {I2 : Nat → xH → xP → xM → xK} {I19 : Nat → xH → xP → xM → xK} {I61 : Nat → xH → xP → xM → xK} {I74 : Nat → xH → xP → xM → xK}
    (v0 : ∀ (a0 : Nat) (A : xH) (P : xP), f a0 A P → k_X7_gather_0 P (xE (I2 a0 A P)) [some (.ref a0), none, none, none, none, none, none, none, none, none] [] A)
    (v2 : ∀ (a0 : Nat) (A : xH) (P : xP), f a0 A P → ∀ (μ : xM) (L : xL) (st : List Value) (B : xH), I2 a0 A P μ L st B → k_X7_gather_2 P (xB (I19 a0 A P) μ) L st B)
    (v19 : ∀ (a0 : Nat) (A : xH) (P : xP), f a0 A P → ∀ (μ : xM) (L : xL) (st : List Value) (B : xH), I19 a0 A P μ L st B → k_X7_gather_19 P (xB (I19 a0 A P) μ) (xB (I61 a0 A P) μ) L st B)
    (v61 : ∀ (a0 : Nat) (A : xH) (P : xP), f a0 A P → ∀ (μ : xM) (L : xL) (st : List Value) (B : xH), I61 a0 A P μ L st B → k_X7_gather_61 P (xB (I2 a0 A P) μ) (xB (I74 a0 A P) μ) L st B)
    (v74 : ∀ (a0 : Nat) (A : xH) (P : xP), f a0 A P → ∀ (μ : xM) (L : xL) (st : List Value) (B : xH), I74 a0 A P μ L st B → k_X7_gather_74 P (xB (I61 a0 A P) μ) (xB (I74 a0 A P) μ) L st B) : xCon l yX7_gather cX7_gather 10 none 1 23 xN xN 0 xFT xFT (w_R f) := by
  refine xc_R (plainFor_of_name pn_RX7) (by decide +kernel) (fun p e s m args below meth c g a0 A P h X hr _ => ?_)
  obtain ⟨h2, h19, h61, h74⟩ := x_loop4 (p := p) (l := l) (e := e) (R := { frames := 1, cells := 0, slots := 0, locals := 23 }) (s := s) (m := m) (args := args) (below := below) (meth := meth) (c := c) (g := g) (nL := 10) (F := xFT) (n := xN) (cells := 0) (slots := 0) (Q := MQ below (xQc g xFT xN P) args s 0 0 (xFr g)) (I1 := I2 a0 A P) (I2 := I19 a0 A P) (I3 := I61 a0 A P) (I4 := I74 a0 A P) (pc1 := 2) (pc2 := 19) (pc3 := 61) (pc4 := 74) (fun μ i2 i19 i61 i74 => xAt_mono (t_X7_gather_2 (P := P) X hr i19) (v2 a0 A P h μ)) (fun μ i2 i19 i61 i74 => xAt_mono (t_X7_gather_19 (P := P) X hr i19 i61) (v19 a0 A P h μ)) (fun μ i2 i19 i61 i74 => xAt_mono (t_X7_gather_61 (P := P) X hr i2 i74) (v61 a0 A P h μ)) (fun μ i2 i19 i61 i74 => xAt_mono (t_X7_gather_74 (P := P) X hr i61 i74) (v74 a0 A P h μ))
  exact ⟨_, v0 a0 A P h, t_X7_gather_0 X hr h2⟩
def f_X7_clearSteps (q : Nat) (A : xH) (P : xP) : Prop := q = 39 ∧ ∃ n, n ≤ 80 ∧ xi A 39 2 = nI n ∧ ∀ B, fr SSp A B → isST B n (fun _ _ _ => False) → P none B
def cs2 (A : xH) (P : xP) : xM → xK := fun μ L st B => ∃ n i, n ≤ 80 ∧ xi A 39 2 = nI n ∧ (∀ B, fr SSp A B → isST B n (fun _ _ _ => False) → P none B) ∧ i ≤ n * 48 ∧ fr SSp A B ∧ (∀ j, j < i → xl B 42 j = 0) ∧ st = [] ∧ L = [some (.ref 39), some (.int (nI i))] ∧ μ = (n * 48 - i, 0, 0)
def cs30 (A : xH) (P : xP) : xM → xK := fun μ L st B => ∃ n i, n ≤ 80 ∧ xi A 39 2 = nI n ∧ (∀ B, fr SSp A B → isST B n (fun _ _ _ => False) → P none B) ∧ i ≤ n * 10 ∧ fr SSp A B ∧ (∀ j, j < n * 48 → xl B 42 j = 0) ∧ (∀ j, j < i → xl B 43 j = 0) ∧ st = [] ∧ L = [some (.ref 39), some (.int (nI i))] ∧ μ = (n * 10 - i, 0, 0)
set_option maxRecDepth 20000 in
theorem con_X7_clearSteps (l : Launch) : xCon l yX7_clearSteps cX7_clearSteps 2 none 0 0 xN xN 0 xFT xFT (w_R f_X7_clearSteps) := by
  refine m_X7_clearSteps (I2 := fun q A P => cs2 A P) (I30 := fun q A P => cs30 A P) ?_ ?_ ?_
  · rintro q A P ⟨rfl, n, hn, h2, hP⟩
    simp (disch := omega) only [k_X7_clearSteps_0, k_X7_clearSteps_2, k_X7_clearSteps_30, x_aload, x_icmp_ge, x_iinc, x_iload, x_imul, x_istore, x_push, x_vret, y_getF, y_getI, y_last, xFT, xbool0, xbool1, Nat.reduceAdd, Nat.zero_add, xgl_0, xgl_s, xgl_n, xst_0, xst_1n, xst_1i, xst_1r, xst_1l, xst_s, set_0, set_s, true_and, and_true, xres, xcat_nil, xcat_i, xcat_r, xcat_l, Nat.add_zero, xble0, xble1, xble2, xble3, xble4, xble5, xble6, xble7, xble8, pk_mul, nI_add, nI_1, nI_leI, nI_ltI, nI_eq, n_in, n_cl, z_eq, z_lt, z_le, z_gt, z_ge, z_qe, o_eq, o_lt, o_le, o_gt, o_ge, vp0, vp1, cl0, cl1, n_sub, n_sub1, n_pm1, n_a0, n_0a, ofn, lN0, Nat.reduceLT, Nat.reduceLeDiff, Nat.reduceMul, Nat.reduceSub, Nat.reduceEqDiff, ne_eq, true_implies, false_implies, not_true_eq_false, not_false_eq_true, and_self, and_true, true_and, and_false, false_and, implies_true, if_true, if_false, i00, i10, i01, i11, ob_0, ob_1, tn_2, ln_2, ob_3, tn_4, ln_4, ob_5, tn_6, ln_6, tn_7, ln_7, ob_8, tn_9, ln_9, tn_10, ln_10, tn_11, ln_11, tn_12, ln_12, tn_13, ln_13, tn_14, ln_14, tn_15, ln_15, tn_16, ln_16, tn_17, ln_17, ob_18, tn_19, ln_19, tn_20, ln_20, tn_21, ln_21, tn_22, ln_22, tn_23, ln_23, tn_24, ln_24, tn_25, ln_25, tn_26, ln_26, tn_27, ln_27, ob_28, tn_29, ln_29, tn_30, ln_30, ob_31, tn_32, ln_32, tn_33, ln_33, ob_34, ob_35, tn_36, ln_36, tn_37, ln_37, tn_38, ln_38, ob_39, tn_40, ln_40, tn_41, ln_41, tn_42, ln_42, tn_43, ln_43, tn_44, ln_44, tn_45, ln_45, tn_46, ln_46, tn_47, ln_47, tn_48, ln_48, tn_49, ln_49, tn_50, ln_50, tn_51, ln_51, ob_52, tn_53, ln_53, tn_54, ln_54, tn_55, ln_55, tn_56, ln_56, ob_57, tn_58, ln_58, tn_59, ln_59, tn_60, ln_60, tn_61, ln_61, tn_62, ln_62, tn_63, ln_63, tn_64, ln_64, tn_65, ln_65, ob_66, tn_67, ln_67, tn_68, ln_68, tn_69, ln_69, tn_70, ln_70, tn_71, ln_71, tn_72, ln_72, tn_73, ln_73, ob_74, tn_75, ln_75, tn_76, ln_76, tn_77, ln_77, tn_78, ln_78, tn_79, ln_79, tn_80, ln_80, tn_81, ln_81, tn_82, ln_82, tn_83, ln_83, ob_84, tn_85, ln_85, tn_86, ln_86, tn_87, ln_87, tn_88, ln_88, tn_89, ln_89, tn_90, ln_90, tn_91, ln_91, tn_92, ln_92, tn_93, ln_93, ob_94, tn_95, ln_95, tn_96, ln_96, tn_97, ln_97, tn_98, ln_98, tn_99, ln_99, tn_100, ln_100, tn_101, ln_101, tn_102, ln_102, tn_103, ln_103, ob_104, tn_105, ln_105, tn_106, ln_106, tn_107, ln_107, tn_108, ln_108, tn_109, ln_109, tn_110, ln_110, tn_111, ln_111, tn_112, ln_112, tn_113, ln_113, ob_114, tn_115, ln_115, tn_116, ln_116, tn_117, ln_117, tn_118, ln_118, tn_119, ln_119, tn_120, ln_120, tn_121, ln_121, tn_122, ln_122, tn_123, ln_123, ob_124, tn_125, ln_125, tn_126, ln_126, tn_127, ln_127, tn_128, ln_128, tn_129, ln_129, tn_130, ln_130, tn_131, ln_131, tn_132, ln_132, tn_133, ln_133, ob_134, tn_135, ln_135, tn_136, ln_136, tn_137, ln_137, tn_138, ln_138, tn_139, ln_139, tn_140, ln_140, tn_141, ln_141, tn_142, ln_142, tn_143, ln_143, ob_144, tn_145, ln_145, tn_146, ln_146, tn_147, ln_147, tn_148, ln_148, tn_149, ln_149, tn_150, ln_150, tn_151, ln_151, tn_152, ln_152, tn_153, ln_153, ob_154, tn_155, ln_155, tn_156, ln_156, tn_157, ln_157, tn_158, ln_158, tn_159, ln_159, tn_160, ln_160, tn_161, ln_161, tn_162, ln_162, tn_163, ln_163, ob_164, tn_165, ln_165, tn_166, ln_166, ob_167, tn_168, ln_168, tn_169, ln_169, tn_170, ln_170, tn_171, ln_171, tn_172, ln_172, tn_173, ln_173, tn_174, ln_174, tn_175, ln_175, tn_176, ln_176, ob_177, tn_178, ln_178, tn_179, ln_179, ob_180, tn_181, ln_181, tn_182, ln_182, tn_183, ln_183, tn_184, ln_184, tn_185, ln_185, tn_186, ln_186, tn_187, ln_187, tn_188, ln_188, tn_189, ln_189, tn_190, ln_190, tn_191, ln_191, tn_192, ln_192, tn_193, ln_193, tn_194, ln_194, tn_195, ln_195, tn_196, ln_196, tn_197, ln_197, tn_198, ln_198, tn_199, ln_199, tn_200, ln_200, tn_201, ln_201, tn_202, ln_202, tn_203, ln_203, tn_204, ln_204, tn_205, ln_205, tn_206, ln_206, tn_207, ln_207, tn_208, ln_208, tn_209, ln_209, tn_210, ln_210, tn_211, ln_211, tn_212, ln_212, tn_213, ln_213, tn_214, ln_214, tn_215, ln_215, tn_216, ln_216, tn_217, ln_217, tn_218, ln_218, tn_219, ln_219, tn_220, ln_220, tn_221, ln_221, tn_222, ln_222, tn_223, ln_223, tn_224, ln_224, tn_225, ln_225, tn_226, ln_226, tn_227, ln_227, tn_228, ln_228, tn_229, ln_229, tn_230, ln_230, lx2, lx3, lx4, lx5, lx6, lx7, lx8, lx9, lx10, lx14, lx15, lx16, lx18, lx20, lx24, lx25, lx27, lx32, lx36, lx40, lx41, lx42, lx43, lx45, lx48, lx52, lx54, lx56, lx57, lx58, lx60, lx61, lx62, lx63, lx64, lx66, lx69, lx73, lx80, lx81, lx84, lx85, lx87, lx94, lx96, lx97, lx120, lx128, lx135, lx160, lx162, lx163, lx165, lx200, lx232, lx242, lx243, lx255, lx256, lx320, lx325, lx400, lx405, lx464, lx512, lx600, lx640, lx752, lx900, lx940, lx1000, lx1024, lx1764, lx3360, lx3840, lx5000, lx6400, lx9050, lx9998, lx9999, lx10000, lx25600, lx76800, lx99999]
    exact xE0 (n * 48 - 0, 0, 0) ⟨n, 0, hn, h2, hP, Nat.zero_le _, fr_rf, fun j hj => absurd hj (Nat.not_lt_zero j), rfl, rfl, rfl⟩
  · rintro q A P - μ L st B ⟨n, i, hn, h2, hP, hi, hF, hz, rfl, rfl, rfl⟩
    have e2 : xi B 39 2 = nI n := by rw [fr_i hF (by unfold SSp; omega)]; exact h2
    simp (disch := omega) only [k_X7_clearSteps_0, k_X7_clearSteps_2, k_X7_clearSteps_30, x_aload, x_icmp_ge, x_iinc, x_iload, x_imul, x_istore, x_push, x_vret, y_getF, y_getI, y_last, xFT, xbool0, xbool1, Nat.reduceAdd, Nat.zero_add, xgl_0, xgl_s, xgl_n, xst_0, xst_1n, xst_1i, xst_1r, xst_1l, xst_s, set_0, set_s, true_and, and_true, xres, xcat_nil, xcat_i, xcat_r, xcat_l, Nat.add_zero, xble0, xble1, xble2, xble3, xble4, xble5, xble6, xble7, xble8, pk_mul, nI_add, nI_1, nI_leI, nI_ltI, nI_eq, n_in, n_cl, z_eq, z_lt, z_le, z_gt, z_ge, z_qe, o_eq, o_lt, o_le, o_gt, o_ge, vp0, vp1, cl0, cl1, n_sub, n_sub1, n_pm1, n_a0, n_0a, ofn, lN0, Nat.reduceLT, Nat.reduceLeDiff, Nat.reduceMul, Nat.reduceSub, Nat.reduceEqDiff, ne_eq, true_implies, false_implies, not_true_eq_false, not_false_eq_true, and_self, and_true, true_and, and_false, false_and, implies_true, if_true, if_false, i00, i10, i01, i11, ob_0, ob_1, tn_2, ln_2, ob_3, tn_4, ln_4, ob_5, tn_6, ln_6, tn_7, ln_7, ob_8, tn_9, ln_9, tn_10, ln_10, tn_11, ln_11, tn_12, ln_12, tn_13, ln_13, tn_14, ln_14, tn_15, ln_15, tn_16, ln_16, tn_17, ln_17, ob_18, tn_19, ln_19, tn_20, ln_20, tn_21, ln_21, tn_22, ln_22, tn_23, ln_23, tn_24, ln_24, tn_25, ln_25, tn_26, ln_26, tn_27, ln_27, ob_28, tn_29, ln_29, tn_30, ln_30, ob_31, tn_32, ln_32, tn_33, ln_33, ob_34, ob_35, tn_36, ln_36, tn_37, ln_37, tn_38, ln_38, ob_39, tn_40, ln_40, tn_41, ln_41, tn_42, ln_42, tn_43, ln_43, tn_44, ln_44, tn_45, ln_45, tn_46, ln_46, tn_47, ln_47, tn_48, ln_48, tn_49, ln_49, tn_50, ln_50, tn_51, ln_51, ob_52, tn_53, ln_53, tn_54, ln_54, tn_55, ln_55, tn_56, ln_56, ob_57, tn_58, ln_58, tn_59, ln_59, tn_60, ln_60, tn_61, ln_61, tn_62, ln_62, tn_63, ln_63, tn_64, ln_64, tn_65, ln_65, ob_66, tn_67, ln_67, tn_68, ln_68, tn_69, ln_69, tn_70, ln_70, tn_71, ln_71, tn_72, ln_72, tn_73, ln_73, ob_74, tn_75, ln_75, tn_76, ln_76, tn_77, ln_77, tn_78, ln_78, tn_79, ln_79, tn_80, ln_80, tn_81, ln_81, tn_82, ln_82, tn_83, ln_83, ob_84, tn_85, ln_85, tn_86, ln_86, tn_87, ln_87, tn_88, ln_88, tn_89, ln_89, tn_90, ln_90, tn_91, ln_91, tn_92, ln_92, tn_93, ln_93, ob_94, tn_95, ln_95, tn_96, ln_96, tn_97, ln_97, tn_98, ln_98, tn_99, ln_99, tn_100, ln_100, tn_101, ln_101, tn_102, ln_102, tn_103, ln_103, ob_104, tn_105, ln_105, tn_106, ln_106, tn_107, ln_107, tn_108, ln_108, tn_109, ln_109, tn_110, ln_110, tn_111, ln_111, tn_112, ln_112, tn_113, ln_113, ob_114, tn_115, ln_115, tn_116, ln_116, tn_117, ln_117, tn_118, ln_118, tn_119, ln_119, tn_120, ln_120, tn_121, ln_121, tn_122, ln_122, tn_123, ln_123, ob_124, tn_125, ln_125, tn_126, ln_126, tn_127, ln_127, tn_128, ln_128, tn_129, ln_129, tn_130, ln_130, tn_131, ln_131, tn_132, ln_132, tn_133, ln_133, ob_134, tn_135, ln_135, tn_136, ln_136, tn_137, ln_137, tn_138, ln_138, tn_139, ln_139, tn_140, ln_140, tn_141, ln_141, tn_142, ln_142, tn_143, ln_143, ob_144, tn_145, ln_145, tn_146, ln_146, tn_147, ln_147, tn_148, ln_148, tn_149, ln_149, tn_150, ln_150, tn_151, ln_151, tn_152, ln_152, tn_153, ln_153, ob_154, tn_155, ln_155, tn_156, ln_156, tn_157, ln_157, tn_158, ln_158, tn_159, ln_159, tn_160, ln_160, tn_161, ln_161, tn_162, ln_162, tn_163, ln_163, ob_164, tn_165, ln_165, tn_166, ln_166, ob_167, tn_168, ln_168, tn_169, ln_169, tn_170, ln_170, tn_171, ln_171, tn_172, ln_172, tn_173, ln_173, tn_174, ln_174, tn_175, ln_175, tn_176, ln_176, ob_177, tn_178, ln_178, tn_179, ln_179, ob_180, tn_181, ln_181, tn_182, ln_182, tn_183, ln_183, tn_184, ln_184, tn_185, ln_185, tn_186, ln_186, tn_187, ln_187, tn_188, ln_188, tn_189, ln_189, tn_190, ln_190, tn_191, ln_191, tn_192, ln_192, tn_193, ln_193, tn_194, ln_194, tn_195, ln_195, tn_196, ln_196, tn_197, ln_197, tn_198, ln_198, tn_199, ln_199, tn_200, ln_200, tn_201, ln_201, tn_202, ln_202, tn_203, ln_203, tn_204, ln_204, tn_205, ln_205, tn_206, ln_206, tn_207, ln_207, tn_208, ln_208, tn_209, ln_209, tn_210, ln_210, tn_211, ln_211, tn_212, ln_212, tn_213, ln_213, tn_214, ln_214, tn_215, ln_215, tn_216, ln_216, tn_217, ln_217, tn_218, ln_218, tn_219, ln_219, tn_220, ln_220, tn_221, ln_221, tn_222, ln_222, tn_223, ln_223, tn_224, ln_224, tn_225, ln_225, tn_226, ln_226, tn_227, ln_227, tn_228, ln_228, tn_229, ln_229, tn_230, ln_230, lx2, lx3, lx4, lx5, lx6, lx7, lx8, lx9, lx10, lx14, lx15, lx16, lx18, lx20, lx24, lx25, lx27, lx32, lx36, lx40, lx41, lx42, lx43, lx45, lx48, lx52, lx54, lx56, lx57, lx58, lx60, lx61, lx62, lx63, lx64, lx66, lx69, lx73, lx80, lx81, lx84, lx85, lx87, lx94, lx96, lx97, lx120, lx128, lx135, lx160, lx162, lx163, lx165, lx200, lx232, lx242, lx243, lx255, lx256, lx320, lx325, lx400, lx405, lx464, lx512, lx600, lx640, lx752, lx900, lx940, lx1000, lx1024, lx1764, lx3360, lx3840, lx5000, lx6400, lx9050, lx9998, lx9999, lx10000, lx25600, lx76800, lx99999, e2, show n * 24 * 2 = n * 48 by omega]
    refine ⟨fun z => ?_, fun z => ⟨by omega, ?_⟩⟩
    · have : i = n * 48 := by omega
      subst this
      exact xE0 (n * 10 - 0, 0, 0) ⟨n, 0, hn, h2, hP, Nat.zero_le _, hF, hz, fun j hj => absurd hj (Nat.not_lt_zero j), rfl, rfl, rfl⟩
    · refine xB1 (b := n * 48 - (i + 1)) (by omega) ⟨n, i + 1, hn, h2, hP, by omega, fr_sl hF (by unfold SSp; omega), fun j hj => ?_, rfl, rfl, rfl⟩
      by_cases e : j = i
      · subst e; rw [sl_eq]; rfl
      · rw [sl_ne (by omega)]; exact hz j (by omega)
  · rintro q A P - μ L st B ⟨n, i, hn, h2, hP, hi, hF, hz, hy, rfl, rfl, rfl⟩
    have e2 : xi B 39 2 = nI n := by rw [fr_i hF (by unfold SSp; omega)]; exact h2
    simp (disch := omega) only [k_X7_clearSteps_0, k_X7_clearSteps_2, k_X7_clearSteps_30, x_aload, x_icmp_ge, x_iinc, x_iload, x_imul, x_istore, x_push, x_vret, y_getF, y_getI, y_last, xFT, xbool0, xbool1, Nat.reduceAdd, Nat.zero_add, xgl_0, xgl_s, xgl_n, xst_0, xst_1n, xst_1i, xst_1r, xst_1l, xst_s, set_0, set_s, true_and, and_true, xres, xcat_nil, xcat_i, xcat_r, xcat_l, Nat.add_zero, xble0, xble1, xble2, xble3, xble4, xble5, xble6, xble7, xble8, pk_mul, nI_add, nI_1, nI_leI, nI_ltI, nI_eq, n_in, n_cl, z_eq, z_lt, z_le, z_gt, z_ge, z_qe, o_eq, o_lt, o_le, o_gt, o_ge, vp0, vp1, cl0, cl1, n_sub, n_sub1, n_pm1, n_a0, n_0a, ofn, lN0, Nat.reduceLT, Nat.reduceLeDiff, Nat.reduceMul, Nat.reduceSub, Nat.reduceEqDiff, ne_eq, true_implies, false_implies, not_true_eq_false, not_false_eq_true, and_self, and_true, true_and, and_false, false_and, implies_true, if_true, if_false, i00, i10, i01, i11, ob_0, ob_1, tn_2, ln_2, ob_3, tn_4, ln_4, ob_5, tn_6, ln_6, tn_7, ln_7, ob_8, tn_9, ln_9, tn_10, ln_10, tn_11, ln_11, tn_12, ln_12, tn_13, ln_13, tn_14, ln_14, tn_15, ln_15, tn_16, ln_16, tn_17, ln_17, ob_18, tn_19, ln_19, tn_20, ln_20, tn_21, ln_21, tn_22, ln_22, tn_23, ln_23, tn_24, ln_24, tn_25, ln_25, tn_26, ln_26, tn_27, ln_27, ob_28, tn_29, ln_29, tn_30, ln_30, ob_31, tn_32, ln_32, tn_33, ln_33, ob_34, ob_35, tn_36, ln_36, tn_37, ln_37, tn_38, ln_38, ob_39, tn_40, ln_40, tn_41, ln_41, tn_42, ln_42, tn_43, ln_43, tn_44, ln_44, tn_45, ln_45, tn_46, ln_46, tn_47, ln_47, tn_48, ln_48, tn_49, ln_49, tn_50, ln_50, tn_51, ln_51, ob_52, tn_53, ln_53, tn_54, ln_54, tn_55, ln_55, tn_56, ln_56, ob_57, tn_58, ln_58, tn_59, ln_59, tn_60, ln_60, tn_61, ln_61, tn_62, ln_62, tn_63, ln_63, tn_64, ln_64, tn_65, ln_65, ob_66, tn_67, ln_67, tn_68, ln_68, tn_69, ln_69, tn_70, ln_70, tn_71, ln_71, tn_72, ln_72, tn_73, ln_73, ob_74, tn_75, ln_75, tn_76, ln_76, tn_77, ln_77, tn_78, ln_78, tn_79, ln_79, tn_80, ln_80, tn_81, ln_81, tn_82, ln_82, tn_83, ln_83, ob_84, tn_85, ln_85, tn_86, ln_86, tn_87, ln_87, tn_88, ln_88, tn_89, ln_89, tn_90, ln_90, tn_91, ln_91, tn_92, ln_92, tn_93, ln_93, ob_94, tn_95, ln_95, tn_96, ln_96, tn_97, ln_97, tn_98, ln_98, tn_99, ln_99, tn_100, ln_100, tn_101, ln_101, tn_102, ln_102, tn_103, ln_103, ob_104, tn_105, ln_105, tn_106, ln_106, tn_107, ln_107, tn_108, ln_108, tn_109, ln_109, tn_110, ln_110, tn_111, ln_111, tn_112, ln_112, tn_113, ln_113, ob_114, tn_115, ln_115, tn_116, ln_116, tn_117, ln_117, tn_118, ln_118, tn_119, ln_119, tn_120, ln_120, tn_121, ln_121, tn_122, ln_122, tn_123, ln_123, ob_124, tn_125, ln_125, tn_126, ln_126, tn_127, ln_127, tn_128, ln_128, tn_129, ln_129, tn_130, ln_130, tn_131, ln_131, tn_132, ln_132, tn_133, ln_133, ob_134, tn_135, ln_135, tn_136, ln_136, tn_137, ln_137, tn_138, ln_138, tn_139, ln_139, tn_140, ln_140, tn_141, ln_141, tn_142, ln_142, tn_143, ln_143, ob_144, tn_145, ln_145, tn_146, ln_146, tn_147, ln_147, tn_148, ln_148, tn_149, ln_149, tn_150, ln_150, tn_151, ln_151, tn_152, ln_152, tn_153, ln_153, ob_154, tn_155, ln_155, tn_156, ln_156, tn_157, ln_157, tn_158, ln_158, tn_159, ln_159, tn_160, ln_160, tn_161, ln_161, tn_162, ln_162, tn_163, ln_163, ob_164, tn_165, ln_165, tn_166, ln_166, ob_167, tn_168, ln_168, tn_169, ln_169, tn_170, ln_170, tn_171, ln_171, tn_172, ln_172, tn_173, ln_173, tn_174, ln_174, tn_175, ln_175, tn_176, ln_176, ob_177, tn_178, ln_178, tn_179, ln_179, ob_180, tn_181, ln_181, tn_182, ln_182, tn_183, ln_183, tn_184, ln_184, tn_185, ln_185, tn_186, ln_186, tn_187, ln_187, tn_188, ln_188, tn_189, ln_189, tn_190, ln_190, tn_191, ln_191, tn_192, ln_192, tn_193, ln_193, tn_194, ln_194, tn_195, ln_195, tn_196, ln_196, tn_197, ln_197, tn_198, ln_198, tn_199, ln_199, tn_200, ln_200, tn_201, ln_201, tn_202, ln_202, tn_203, ln_203, tn_204, ln_204, tn_205, ln_205, tn_206, ln_206, tn_207, ln_207, tn_208, ln_208, tn_209, ln_209, tn_210, ln_210, tn_211, ln_211, tn_212, ln_212, tn_213, ln_213, tn_214, ln_214, tn_215, ln_215, tn_216, ln_216, tn_217, ln_217, tn_218, ln_218, tn_219, ln_219, tn_220, ln_220, tn_221, ln_221, tn_222, ln_222, tn_223, ln_223, tn_224, ln_224, tn_225, ln_225, tn_226, ln_226, tn_227, ln_227, tn_228, ln_228, tn_229, ln_229, tn_230, ln_230, lx2, lx3, lx4, lx5, lx6, lx7, lx8, lx9, lx10, lx14, lx15, lx16, lx18, lx20, lx24, lx25, lx27, lx32, lx36, lx40, lx41, lx42, lx43, lx45, lx48, lx52, lx54, lx56, lx57, lx58, lx60, lx61, lx62, lx63, lx64, lx66, lx69, lx73, lx80, lx81, lx84, lx85, lx87, lx94, lx96, lx97, lx120, lx128, lx135, lx160, lx162, lx163, lx165, lx200, lx232, lx242, lx243, lx255, lx256, lx320, lx325, lx400, lx405, lx464, lx512, lx600, lx640, lx752, lx900, lx940, lx1000, lx1024, lx1764, lx3360, lx3840, lx5000, lx6400, lx9050, lx9998, lx9999, lx10000, lx25600, lx76800, lx99999, e2, show n * 5 * 2 = n * 10 by omega]
    refine ⟨fun z => ?_, fun z => ⟨by omega, ?_⟩⟩
    · have : i = n * 10 := by omega
      subst this
      refine hP B hF ⟨fun p s q a b c => ?_, fun q u p a b c => ?_⟩
      · rw [hz _ (by omega), tl_0]; simp
      · rw [hy _ (by omega), tl_0]; simp
    · refine xB1 (b := n * 10 - (i + 1)) (by omega) ⟨n, i + 1, hn, h2, hP, by omega, fr_sl hF (by unfold SSp; omega), fun j hj => ?_, fun j hj => ?_, rfl, rfl, rfl⟩
      · rw [sl_ne (by omega)]; exact hz j hj
      · by_cases e : j = i
        · subst e; rw [sl_eq]; rfl
        · rw [sl_ne (by omega)]; exact hy j (by omega)
theorem or_nz {x y : Int64} : (x ||| y) = 0 ↔ ∀ j, j < 64 → tl x j = false ∧ tl y j = false := by
  constructor
  · intro e j hj
    have := congrArg (fun z => tl z j) e
    simp only [tl_or, tl_0, Bool.or_eq_false_iff] at this
    exact this
  · intro h
    refine tl_zero fun j hj => ?_
    rw [tl_or, (h j hj).1, (h j hj).2]; rfl
/-- whether a sort leads anywhere -/
def hsT (T : Nat → Nat → Nat → Prop) (p s : Nat) : Prop := ∃ q, q < 128 ∧ T p s q
theorem hasSort_C {A : xH} {P : xP} {n p s : Nat} {T : Nat → Nat → Nat → Prop} (h : isST A n T) (hn : n ≤ 80) (hp : p < n) (hs : s < 24) (h1 : hsT T p s → P (some (.int 1)) A) (h0 : ¬ hsT T p s → P (some (.int 0)) A) : f_X7_hasSort 39 (nI p) (nI s) A P := by
  unfold f_X7_hasSort
  simp (disch := omega) only [k_X7_hasSort_0, k_X7_hasSort_34, x_aload, x_iadd, x_if_eq, x_iload, x_imul, x_istore, x_lcmp, x_lor, x_push, x_zret, y_getF, y_lald, xFT, xbool0, xbool1, Nat.reduceAdd, Nat.zero_add, xgl_0, xgl_s, xgl_n, xst_0, xst_1n, xst_1i, xst_1r, xst_1l, xst_s, set_0, set_s, true_and, and_true, xres, xcat_nil, xcat_i, xcat_r, xcat_l, Nat.add_zero, xble0, xble1, xble2, xble3, xble4, xble5, xble6, xble7, xble8, pk_mul, nI_add, nI_1, nI_leI, nI_ltI, nI_eq, n_in, n_cl, z_eq, z_lt, z_le, z_gt, z_ge, z_qe, o_eq, o_lt, o_le, o_gt, o_ge, vp0, vp1, cl0, cl1, n_sub, n_sub1, n_pm1, n_a0, n_0a, ofn, lN0, Nat.reduceLT, Nat.reduceLeDiff, Nat.reduceMul, Nat.reduceSub, Nat.reduceEqDiff, ne_eq, true_implies, false_implies, not_true_eq_false, not_false_eq_true, and_self, and_true, true_and, and_false, false_and, implies_true, if_true, if_false, i00, i10, i01, i11, ob_0, ob_1, tn_2, ln_2, ob_3, tn_4, ln_4, ob_5, tn_6, ln_6, tn_7, ln_7, ob_8, tn_9, ln_9, tn_10, ln_10, tn_11, ln_11, tn_12, ln_12, tn_13, ln_13, tn_14, ln_14, tn_15, ln_15, tn_16, ln_16, tn_17, ln_17, ob_18, tn_19, ln_19, tn_20, ln_20, tn_21, ln_21, tn_22, ln_22, tn_23, ln_23, tn_24, ln_24, tn_25, ln_25, tn_26, ln_26, tn_27, ln_27, ob_28, tn_29, ln_29, tn_30, ln_30, ob_31, tn_32, ln_32, tn_33, ln_33, ob_34, ob_35, tn_36, ln_36, tn_37, ln_37, tn_38, ln_38, ob_39, tn_40, ln_40, tn_41, ln_41, tn_42, ln_42, tn_43, ln_43, tn_44, ln_44, tn_45, ln_45, tn_46, ln_46, tn_47, ln_47, tn_48, ln_48, tn_49, ln_49, tn_50, ln_50, tn_51, ln_51, ob_52, tn_53, ln_53, tn_54, ln_54, tn_55, ln_55, tn_56, ln_56, ob_57, tn_58, ln_58, tn_59, ln_59, tn_60, ln_60, tn_61, ln_61, tn_62, ln_62, tn_63, ln_63, tn_64, ln_64, tn_65, ln_65, ob_66, tn_67, ln_67, tn_68, ln_68, tn_69, ln_69, tn_70, ln_70, tn_71, ln_71, tn_72, ln_72, tn_73, ln_73, ob_74, tn_75, ln_75, tn_76, ln_76, tn_77, ln_77, tn_78, ln_78, tn_79, ln_79, tn_80, ln_80, tn_81, ln_81, tn_82, ln_82, tn_83, ln_83, ob_84, tn_85, ln_85, tn_86, ln_86, tn_87, ln_87, tn_88, ln_88, tn_89, ln_89, tn_90, ln_90, tn_91, ln_91, tn_92, ln_92, tn_93, ln_93, ob_94, tn_95, ln_95, tn_96, ln_96, tn_97, ln_97, tn_98, ln_98, tn_99, ln_99, tn_100, ln_100, tn_101, ln_101, tn_102, ln_102, tn_103, ln_103, ob_104, tn_105, ln_105, tn_106, ln_106, tn_107, ln_107, tn_108, ln_108, tn_109, ln_109, tn_110, ln_110, tn_111, ln_111, tn_112, ln_112, tn_113, ln_113, ob_114, tn_115, ln_115, tn_116, ln_116, tn_117, ln_117, tn_118, ln_118, tn_119, ln_119, tn_120, ln_120, tn_121, ln_121, tn_122, ln_122, tn_123, ln_123, ob_124, tn_125, ln_125, tn_126, ln_126, tn_127, ln_127, tn_128, ln_128, tn_129, ln_129, tn_130, ln_130, tn_131, ln_131, tn_132, ln_132, tn_133, ln_133, ob_134, tn_135, ln_135, tn_136, ln_136, tn_137, ln_137, tn_138, ln_138, tn_139, ln_139, tn_140, ln_140, tn_141, ln_141, tn_142, ln_142, tn_143, ln_143, ob_144, tn_145, ln_145, tn_146, ln_146, tn_147, ln_147, tn_148, ln_148, tn_149, ln_149, tn_150, ln_150, tn_151, ln_151, tn_152, ln_152, tn_153, ln_153, ob_154, tn_155, ln_155, tn_156, ln_156, tn_157, ln_157, tn_158, ln_158, tn_159, ln_159, tn_160, ln_160, tn_161, ln_161, tn_162, ln_162, tn_163, ln_163, ob_164, tn_165, ln_165, tn_166, ln_166, ob_167, tn_168, ln_168, tn_169, ln_169, tn_170, ln_170, tn_171, ln_171, tn_172, ln_172, tn_173, ln_173, tn_174, ln_174, tn_175, ln_175, tn_176, ln_176, ob_177, tn_178, ln_178, tn_179, ln_179, ob_180, tn_181, ln_181, tn_182, ln_182, tn_183, ln_183, tn_184, ln_184, tn_185, ln_185, tn_186, ln_186, tn_187, ln_187, tn_188, ln_188, tn_189, ln_189, tn_190, ln_190, tn_191, ln_191, tn_192, ln_192, tn_193, ln_193, tn_194, ln_194, tn_195, ln_195, tn_196, ln_196, tn_197, ln_197, tn_198, ln_198, tn_199, ln_199, tn_200, ln_200, tn_201, ln_201, tn_202, ln_202, tn_203, ln_203, tn_204, ln_204, tn_205, ln_205, tn_206, ln_206, tn_207, ln_207, tn_208, ln_208, tn_209, ln_209, tn_210, ln_210, tn_211, ln_211, tn_212, ln_212, tn_213, ln_213, tn_214, ln_214, tn_215, ln_215, tn_216, ln_216, tn_217, ln_217, tn_218, ln_218, tn_219, ln_219, tn_220, ln_220, tn_221, ln_221, tn_222, ln_222, tn_223, ln_223, tn_224, ln_224, tn_225, ln_225, tn_226, ln_226, tn_227, ln_227, tn_228, ln_228, tn_229, ln_229, tn_230, ln_230, lx2, lx3, lx4, lx5, lx6, lx7, lx8, lx9, lx10, lx14, lx15, lx16, lx18, lx20, lx24, lx25, lx27, lx32, lx36, lx40, lx41, lx42, lx43, lx45, lx48, lx52, lx54, lx56, lx57, lx58, lx60, lx61, lx62, lx63, lx64, lx66, lx69, lx73, lx80, lx81, lx84, lx85, lx87, lx94, lx96, lx97, lx120, lx128, lx135, lx160, lx162, lx163, lx165, lx200, lx232, lx242, lx243, lx255, lx256, lx320, lx325, lx400, lx405, lx464, lx512, lx600, lx640, lx752, lx900, lx940, lx1000, lx1024, lx1764, lx3360, lx3840, lx5000, lx6400, lx9050, lx9998, lx9999, lx10000, lx25600, lx76800, lx99999, lcmp0]
  have e : (xl A 42 ((p * 24 + s) * 2) ||| xl A 42 ((p * 24 + s) * 2 + 1)) = 0 ↔ ¬ hsT T p s := by
    rw [or_nz]
    constructor
    · rintro h2 ⟨q, hq, hT⟩
      have := (h.1 p s q hp hs hq).mpr hT
      have hm : q % 64 < 64 := Nat.mod_lt _ (by decide)
      rcases (show q / 64 = 0 ∨ q / 64 = 1 by omega) with w | w
      · rw [w, Nat.add_zero, (h2 _ hm).1] at this; cases this
      · rw [w, (h2 _ hm).2] at this; cases this
    · intro hno j hj
      constructor
      · cases w : tl (xl A 42 ((p * 24 + s) * 2)) j
        · rfl
        · refine absurd ⟨j, by omega, (h.1 p s j hp hs (by omega)).mp ?_⟩ hno
          rw [Nat.div_eq_of_lt hj, Nat.mod_eq_of_lt hj, Nat.add_zero]; exact w
      · cases w : tl (xl A 42 ((p * 24 + s) * 2 + 1)) j
        · rfl
        · refine absurd ⟨64 + j, by omega, (h.1 p s (64 + j) hp hs (by omega)).mp ?_⟩ hno
          rw [show (64 + j) / 64 = 1 by omega, show (64 + j) % 64 = j by omega]; exact w
  have e' : (xl A 42 ((p * 24 + s) * 2) ||| xl A 42 ((p * 24 + s) * 2 + 1)) = lN 0 ↔ ¬ hsT T p s := e
  simp only [e']
  refine ⟨by omega, by omega, ?_⟩
  by_cases w : hsT T p s
  · exact ⟨fun z => absurd w z, fun _ => h1 w⟩
  · exact ⟨fun _ => h0 w, fun z => absurd w z⟩
/-- what is gathered of a place -/
def ga1 (A : xH) (T : Nat → Nat → Nat → Prop) (p : Nat) : Prop := (xi A 46 p = 0 ∨ xi A 46 p = 1) ∧ (xi A 46 p = 1 ↔ ∃ s, s < 4 ∧ hsT T p s)
def ga2 (A : xH) (T : Nat → Nat → Nat → Prop) (p h : Nat) : Prop := ∀ j, j < 64 → (tl (xl A 44 (p * 2 + h)) j = true ↔ ∃ s, 4 ≤ s ∧ s < 24 ∧ T p s (h * 64 + j)) ∧ (tl (xl A 45 (p * 2 + h)) j = true ↔ ∃ s s', 4 ≤ s ∧ s < s' ∧ s' < 24 ∧ T p s (h * 64 + j) ∧ T p s' (h * 64 + j))
def gaC (A : xH) (n : Nat) (T : Nat → Nat → Nat → Prop) : Prop := ∀ p, p < n → ga1 A T p ∧ ga2 A T p 0 ∧ ga2 A T p 1
def SGa (c k : Nat) : Prop := (44 ≤ c ∧ c ≤ 46) ∧ 0 ≤ k
def f_X7_gather (q : Nat) (A : xH) (P : xP) : Prop := q = 39 ∧ ∃ n T, n ≤ 80 ∧ xi A 39 2 = nI n ∧ isST A n T ∧ ∀ B, fr SGa A B → gaC B n T → P none B
def gaX (A B : xH) (P : xP) (n : Nat) (T : Nat → Nat → Nat → Prop) (p : Nat) : Prop := n ≤ 80 ∧ xi A 39 2 = nI n ∧ isST A n T ∧ (∀ B, fr SGa A B → gaC B n T → P none B) ∧ fr SGa A B ∧ ∀ p', p' < p → ga1 B T p' ∧ ga2 B T p' 0 ∧ ga2 B T p' 1
def gaI2 (A : xH) (P : xP) : xM → xK := fun μ L st B => ∃ n T p o2 o3 o4 o5 o6 o7 o8 o9, gaX A B P n T p ∧ p ≤ n ∧ st = [] ∧ L = [some (.ref 39), some (.int (nI p)), o2, o3, o4, o5, o6, o7, o8, o9] ∧ μ = (n - p, 9, 0)
def gaI19 (A : xH) (P : xP) : xM → xK := fun μ L st B => ∃ n T p s o3 o4 o5 o6 o7 o8 o9, gaX A B P n T p ∧ p < n ∧ s ≤ 4 ∧ (xi B 46 p = 0 ∨ xi B 46 p = 1) ∧ (xi B 46 p = 1 ↔ ∃ s', s' < s ∧ hsT T p s') ∧ st = [] ∧ L = [some (.ref 39), some (.int (nI p)), some (.int (nI s)), o3, o4, o5, o6, o7, o8, o9] ∧ μ = (n - p, 8, 4 - s)
def gaI61 (A : xH) (P : xP) : xM → xK := fun μ L st B => ∃ n T p h o3 o4 o5 o6 o7 o8 o9, gaX A B P n T p ∧ p < n ∧ h ≤ 2 ∧ ga1 B T p ∧ (∀ h', h' < h → ga2 B T p h') ∧ st = [] ∧ L = [some (.ref 39), some (.int (nI p)), some (.int (nI h)), o3, o4, o5, o6, o7, o8, o9] ∧ μ = (n - p, 4 - h, 50)
def gaI74 (A : xH) (P : xP) : xM → xK := fun μ L st B => ∃ n T p h s one two o8 o9, gaX A B P n T p ∧ p < n ∧ h < 2 ∧ ga1 B T p ∧ (∀ h', h' < h → ga2 B T p h') ∧ 4 ≤ s ∧ s ≤ 24 ∧ (∀ j, j < 64 → (tl one j = true ↔ ∃ s', 4 ≤ s' ∧ s' < s ∧ T p s' (h * 64 + j)) ∧ (tl two j = true ↔ ∃ s' s'', 4 ≤ s' ∧ s' < s'' ∧ s'' < s ∧ T p s' (h * 64 + j) ∧ T p s'' (h * 64 + j))) ∧ st = [] ∧ L = [some (.ref 39), some (.int (nI p)), some (.int (nI h)), some (.long one), none, some (.long two), none, some (.int (nI s)), o8, o9] ∧ μ = (n - p, 4 - h, 24 - s)
set_option maxRecDepth 20000 in
theorem con_X7_gather (l : Launch) : xCon l yX7_gather cX7_gather 10 none 1 23 xN xN 0 xFT xFT (w_R f_X7_gather) := by
  refine m_X7_gather (I2 := fun q A P => gaI2 A P) (I19 := fun q A P => gaI19 A P) (I61 := fun q A P => gaI61 A P) (I74 := fun q A P => gaI74 A P) ?_ ?_ ?_ ?_ ?_
  · rintro q A P ⟨rfl, n, T, hn, h2, hT, hP⟩
    simp (disch := omega) only [k_X7_gather_0, k_X7_gather_2, k_X7_gather_19, k_X7_gather_61, k_X7_gather_74, k_X7_gather_47, k_X7_gather_52, f_X7_hasSort, w_RII, x_aload, x_bast, x_iadd, x_icmp_ge, x_if_eq, x_if_ne, x_iinc, x_iload, x_imul, x_istore, x_land, x_lload, x_lor, x_lstore, x_push, x_vret, y_bast, y_cv2, y_getF, y_getI, y_iald, y_lald, y_last, xFT, xbool0, xbool1, Nat.reduceAdd, Nat.zero_add, xgl_0, xgl_s, xgl_n, xst_0, xst_1n, xst_1i, xst_1r, xst_1l, xst_s, set_0, set_s, true_and, and_true, xres, xcat_nil, xcat_i, xcat_r, xcat_l, Nat.add_zero, xble0, xble1, xble2, xble3, xble4, xble5, xble6, xble7, xble8, pk_mul, nI_add, nI_1, nI_leI, nI_ltI, nI_eq, n_in, n_cl, z_eq, z_lt, z_le, z_gt, z_ge, z_qe, o_eq, o_lt, o_le, o_gt, o_ge, vp0, vp1, cl0, cl1, n_sub, n_sub1, n_pm1, n_a0, n_0a, ofn, lN0, Nat.reduceLT, Nat.reduceLeDiff, Nat.reduceMul, Nat.reduceSub, Nat.reduceEqDiff, ne_eq, true_implies, false_implies, not_true_eq_false, not_false_eq_true, and_self, and_true, true_and, and_false, false_and, implies_true, if_true, if_false, i00, i10, i01, i11, ob_0, ob_1, tn_2, ln_2, ob_3, tn_4, ln_4, ob_5, tn_6, ln_6, tn_7, ln_7, ob_8, tn_9, ln_9, tn_10, ln_10, tn_11, ln_11, tn_12, ln_12, tn_13, ln_13, tn_14, ln_14, tn_15, ln_15, tn_16, ln_16, tn_17, ln_17, ob_18, tn_19, ln_19, tn_20, ln_20, tn_21, ln_21, tn_22, ln_22, tn_23, ln_23, tn_24, ln_24, tn_25, ln_25, tn_26, ln_26, tn_27, ln_27, ob_28, tn_29, ln_29, tn_30, ln_30, ob_31, tn_32, ln_32, tn_33, ln_33, ob_34, ob_35, tn_36, ln_36, tn_37, ln_37, tn_38, ln_38, ob_39, tn_40, ln_40, tn_41, ln_41, tn_42, ln_42, tn_43, ln_43, tn_44, ln_44, tn_45, ln_45, tn_46, ln_46, tn_47, ln_47, tn_48, ln_48, tn_49, ln_49, tn_50, ln_50, tn_51, ln_51, ob_52, tn_53, ln_53, tn_54, ln_54, tn_55, ln_55, tn_56, ln_56, ob_57, tn_58, ln_58, tn_59, ln_59, tn_60, ln_60, tn_61, ln_61, tn_62, ln_62, tn_63, ln_63, tn_64, ln_64, tn_65, ln_65, ob_66, tn_67, ln_67, tn_68, ln_68, tn_69, ln_69, tn_70, ln_70, tn_71, ln_71, tn_72, ln_72, tn_73, ln_73, ob_74, tn_75, ln_75, tn_76, ln_76, tn_77, ln_77, tn_78, ln_78, tn_79, ln_79, tn_80, ln_80, tn_81, ln_81, tn_82, ln_82, tn_83, ln_83, ob_84, tn_85, ln_85, tn_86, ln_86, tn_87, ln_87, tn_88, ln_88, tn_89, ln_89, tn_90, ln_90, tn_91, ln_91, tn_92, ln_92, tn_93, ln_93, ob_94, tn_95, ln_95, tn_96, ln_96, tn_97, ln_97, tn_98, ln_98, tn_99, ln_99, tn_100, ln_100, tn_101, ln_101, tn_102, ln_102, tn_103, ln_103, ob_104, tn_105, ln_105, tn_106, ln_106, tn_107, ln_107, tn_108, ln_108, tn_109, ln_109, tn_110, ln_110, tn_111, ln_111, tn_112, ln_112, tn_113, ln_113, ob_114, tn_115, ln_115, tn_116, ln_116, tn_117, ln_117, tn_118, ln_118, tn_119, ln_119, tn_120, ln_120, tn_121, ln_121, tn_122, ln_122, tn_123, ln_123, ob_124, tn_125, ln_125, tn_126, ln_126, tn_127, ln_127, tn_128, ln_128, tn_129, ln_129, tn_130, ln_130, tn_131, ln_131, tn_132, ln_132, tn_133, ln_133, ob_134, tn_135, ln_135, tn_136, ln_136, tn_137, ln_137, tn_138, ln_138, tn_139, ln_139, tn_140, ln_140, tn_141, ln_141, tn_142, ln_142, tn_143, ln_143, ob_144, tn_145, ln_145, tn_146, ln_146, tn_147, ln_147, tn_148, ln_148, tn_149, ln_149, tn_150, ln_150, tn_151, ln_151, tn_152, ln_152, tn_153, ln_153, ob_154, tn_155, ln_155, tn_156, ln_156, tn_157, ln_157, tn_158, ln_158, tn_159, ln_159, tn_160, ln_160, tn_161, ln_161, tn_162, ln_162, tn_163, ln_163, ob_164, tn_165, ln_165, tn_166, ln_166, ob_167, tn_168, ln_168, tn_169, ln_169, tn_170, ln_170, tn_171, ln_171, tn_172, ln_172, tn_173, ln_173, tn_174, ln_174, tn_175, ln_175, tn_176, ln_176, ob_177, tn_178, ln_178, tn_179, ln_179, ob_180, tn_181, ln_181, tn_182, ln_182, tn_183, ln_183, tn_184, ln_184, tn_185, ln_185, tn_186, ln_186, tn_187, ln_187, tn_188, ln_188, tn_189, ln_189, tn_190, ln_190, tn_191, ln_191, tn_192, ln_192, tn_193, ln_193, tn_194, ln_194, tn_195, ln_195, tn_196, ln_196, tn_197, ln_197, tn_198, ln_198, tn_199, ln_199, tn_200, ln_200, tn_201, ln_201, tn_202, ln_202, tn_203, ln_203, tn_204, ln_204, tn_205, ln_205, tn_206, ln_206, tn_207, ln_207, tn_208, ln_208, tn_209, ln_209, tn_210, ln_210, tn_211, ln_211, tn_212, ln_212, tn_213, ln_213, tn_214, ln_214, tn_215, ln_215, tn_216, ln_216, tn_217, ln_217, tn_218, ln_218, tn_219, ln_219, tn_220, ln_220, tn_221, ln_221, tn_222, ln_222, tn_223, ln_223, tn_224, ln_224, tn_225, ln_225, tn_226, ln_226, tn_227, ln_227, tn_228, ln_228, tn_229, ln_229, tn_230, ln_230, lx2, lx3, lx4, lx5, lx6, lx7, lx8, lx9, lx10, lx14, lx15, lx16, lx18, lx20, lx24, lx25, lx27, lx32, lx36, lx40, lx41, lx42, lx43, lx45, lx48, lx52, lx54, lx56, lx57, lx58, lx60, lx61, lx62, lx63, lx64, lx66, lx69, lx73, lx80, lx81, lx84, lx85, lx87, lx94, lx96, lx97, lx120, lx128, lx135, lx160, lx162, lx163, lx165, lx200, lx232, lx242, lx243, lx255, lx256, lx320, lx325, lx400, lx405, lx464, lx512, lx600, lx640, lx752, lx900, lx940, lx1000, lx1024, lx1764, lx3360, lx3840, lx5000, lx6400, lx9050, lx9998, lx9999, lx10000, lx25600, lx76800, lx99999]
    exact xE0 (n - 0, 9, 0) ⟨n, T, 0, _, _, _, _, _, _, _, _, ⟨hn, h2, hT, hP, fr_rf, fun p' hp' => absurd hp' (Nat.not_lt_zero p')⟩, Nat.zero_le _, rfl, rfl, rfl⟩
  · rintro q A P - μ L st B ⟨n, T, p, o2, o3, o4, o5, o6, o7, o8, o9, hX, hp, rfl, rfl, rfl⟩
    obtain ⟨hn, h2, hT, hP, hF, hb⟩ := hX
    have e2 : xi B 39 2 = nI n := by rw [fr_i hF (by unfold SGa; omega)]; exact h2
    simp (disch := omega) only [k_X7_gather_0, k_X7_gather_2, k_X7_gather_19, k_X7_gather_61, k_X7_gather_74, k_X7_gather_47, k_X7_gather_52, f_X7_hasSort, w_RII, x_aload, x_bast, x_iadd, x_icmp_ge, x_if_eq, x_if_ne, x_iinc, x_iload, x_imul, x_istore, x_land, x_lload, x_lor, x_lstore, x_push, x_vret, y_bast, y_cv2, y_getF, y_getI, y_iald, y_lald, y_last, xFT, xbool0, xbool1, Nat.reduceAdd, Nat.zero_add, xgl_0, xgl_s, xgl_n, xst_0, xst_1n, xst_1i, xst_1r, xst_1l, xst_s, set_0, set_s, true_and, and_true, xres, xcat_nil, xcat_i, xcat_r, xcat_l, Nat.add_zero, xble0, xble1, xble2, xble3, xble4, xble5, xble6, xble7, xble8, pk_mul, nI_add, nI_1, nI_leI, nI_ltI, nI_eq, n_in, n_cl, z_eq, z_lt, z_le, z_gt, z_ge, z_qe, o_eq, o_lt, o_le, o_gt, o_ge, vp0, vp1, cl0, cl1, n_sub, n_sub1, n_pm1, n_a0, n_0a, ofn, lN0, Nat.reduceLT, Nat.reduceLeDiff, Nat.reduceMul, Nat.reduceSub, Nat.reduceEqDiff, ne_eq, true_implies, false_implies, not_true_eq_false, not_false_eq_true, and_self, and_true, true_and, and_false, false_and, implies_true, if_true, if_false, i00, i10, i01, i11, ob_0, ob_1, tn_2, ln_2, ob_3, tn_4, ln_4, ob_5, tn_6, ln_6, tn_7, ln_7, ob_8, tn_9, ln_9, tn_10, ln_10, tn_11, ln_11, tn_12, ln_12, tn_13, ln_13, tn_14, ln_14, tn_15, ln_15, tn_16, ln_16, tn_17, ln_17, ob_18, tn_19, ln_19, tn_20, ln_20, tn_21, ln_21, tn_22, ln_22, tn_23, ln_23, tn_24, ln_24, tn_25, ln_25, tn_26, ln_26, tn_27, ln_27, ob_28, tn_29, ln_29, tn_30, ln_30, ob_31, tn_32, ln_32, tn_33, ln_33, ob_34, ob_35, tn_36, ln_36, tn_37, ln_37, tn_38, ln_38, ob_39, tn_40, ln_40, tn_41, ln_41, tn_42, ln_42, tn_43, ln_43, tn_44, ln_44, tn_45, ln_45, tn_46, ln_46, tn_47, ln_47, tn_48, ln_48, tn_49, ln_49, tn_50, ln_50, tn_51, ln_51, ob_52, tn_53, ln_53, tn_54, ln_54, tn_55, ln_55, tn_56, ln_56, ob_57, tn_58, ln_58, tn_59, ln_59, tn_60, ln_60, tn_61, ln_61, tn_62, ln_62, tn_63, ln_63, tn_64, ln_64, tn_65, ln_65, ob_66, tn_67, ln_67, tn_68, ln_68, tn_69, ln_69, tn_70, ln_70, tn_71, ln_71, tn_72, ln_72, tn_73, ln_73, ob_74, tn_75, ln_75, tn_76, ln_76, tn_77, ln_77, tn_78, ln_78, tn_79, ln_79, tn_80, ln_80, tn_81, ln_81, tn_82, ln_82, tn_83, ln_83, ob_84, tn_85, ln_85, tn_86, ln_86, tn_87, ln_87, tn_88, ln_88, tn_89, ln_89, tn_90, ln_90, tn_91, ln_91, tn_92, ln_92, tn_93, ln_93, ob_94, tn_95, ln_95, tn_96, ln_96, tn_97, ln_97, tn_98, ln_98, tn_99, ln_99, tn_100, ln_100, tn_101, ln_101, tn_102, ln_102, tn_103, ln_103, ob_104, tn_105, ln_105, tn_106, ln_106, tn_107, ln_107, tn_108, ln_108, tn_109, ln_109, tn_110, ln_110, tn_111, ln_111, tn_112, ln_112, tn_113, ln_113, ob_114, tn_115, ln_115, tn_116, ln_116, tn_117, ln_117, tn_118, ln_118, tn_119, ln_119, tn_120, ln_120, tn_121, ln_121, tn_122, ln_122, tn_123, ln_123, ob_124, tn_125, ln_125, tn_126, ln_126, tn_127, ln_127, tn_128, ln_128, tn_129, ln_129, tn_130, ln_130, tn_131, ln_131, tn_132, ln_132, tn_133, ln_133, ob_134, tn_135, ln_135, tn_136, ln_136, tn_137, ln_137, tn_138, ln_138, tn_139, ln_139, tn_140, ln_140, tn_141, ln_141, tn_142, ln_142, tn_143, ln_143, ob_144, tn_145, ln_145, tn_146, ln_146, tn_147, ln_147, tn_148, ln_148, tn_149, ln_149, tn_150, ln_150, tn_151, ln_151, tn_152, ln_152, tn_153, ln_153, ob_154, tn_155, ln_155, tn_156, ln_156, tn_157, ln_157, tn_158, ln_158, tn_159, ln_159, tn_160, ln_160, tn_161, ln_161, tn_162, ln_162, tn_163, ln_163, ob_164, tn_165, ln_165, tn_166, ln_166, ob_167, tn_168, ln_168, tn_169, ln_169, tn_170, ln_170, tn_171, ln_171, tn_172, ln_172, tn_173, ln_173, tn_174, ln_174, tn_175, ln_175, tn_176, ln_176, ob_177, tn_178, ln_178, tn_179, ln_179, ob_180, tn_181, ln_181, tn_182, ln_182, tn_183, ln_183, tn_184, ln_184, tn_185, ln_185, tn_186, ln_186, tn_187, ln_187, tn_188, ln_188, tn_189, ln_189, tn_190, ln_190, tn_191, ln_191, tn_192, ln_192, tn_193, ln_193, tn_194, ln_194, tn_195, ln_195, tn_196, ln_196, tn_197, ln_197, tn_198, ln_198, tn_199, ln_199, tn_200, ln_200, tn_201, ln_201, tn_202, ln_202, tn_203, ln_203, tn_204, ln_204, tn_205, ln_205, tn_206, ln_206, tn_207, ln_207, tn_208, ln_208, tn_209, ln_209, tn_210, ln_210, tn_211, ln_211, tn_212, ln_212, tn_213, ln_213, tn_214, ln_214, tn_215, ln_215, tn_216, ln_216, tn_217, ln_217, tn_218, ln_218, tn_219, ln_219, tn_220, ln_220, tn_221, ln_221, tn_222, ln_222, tn_223, ln_223, tn_224, ln_224, tn_225, ln_225, tn_226, ln_226, tn_227, ln_227, tn_228, ln_228, tn_229, ln_229, tn_230, ln_230, lx2, lx3, lx4, lx5, lx6, lx7, lx8, lx9, lx10, lx14, lx15, lx16, lx18, lx20, lx24, lx25, lx27, lx32, lx36, lx40, lx41, lx42, lx43, lx45, lx48, lx52, lx54, lx56, lx57, lx58, lx60, lx61, lx62, lx63, lx64, lx66, lx69, lx73, lx80, lx81, lx84, lx85, lx87, lx94, lx96, lx97, lx120, lx128, lx135, lx160, lx162, lx163, lx165, lx200, lx232, lx242, lx243, lx255, lx256, lx320, lx325, lx400, lx405, lx464, lx512, lx600, lx640, lx752, lx900, lx940, lx1000, lx1024, lx1764, lx3360, lx3840, lx5000, lx6400, lx9050, lx9998, lx9999, lx10000, lx25600, lx76800, lx99999, e2, nar40]
    refine ⟨fun z => ?_, fun z => ⟨by omega, ?_⟩⟩
    · have : p = n := by omega
      subst this; exact hP B hF hb
    · have f1 : fr (fun c k => c = 46 ∧ k = p) B (xsi B 46 p 0) := fr_si fr_rf ⟨rfl, rfl⟩
      refine xB2 (c := 8) (by omega) ⟨n, T, p, 0, _, _, _, _, _, _, _, ⟨hn, h2, hT, hP, fr_tr hF (fr_mono f1 (by unfold SGa; omega)), fun p' hp' => ?_⟩, by omega, by omega, Or.inl si_eq, ?_, rfl, rfl, rfl⟩
      · obtain ⟨⟨b1, b2⟩, b3, b4⟩ := hb p' hp'
        exact ⟨⟨by rw [si_ne (by omega)]; exact b1, by rw [si_ne (by omega)]; exact b2⟩, b3, b4⟩
      · rw [si_eq]
        exact ⟨fun e => absurd e (by decide), fun ⟨s', h, _⟩ => absurd h (Nat.not_lt_zero s')⟩
  · rintro q A P - μ L st B ⟨n, T, p, s, o3, o4, o5, o6, o7, o8, o9, hX, hp, hs, h01, hh, rfl, rfl, rfl⟩
    have hX0 := hX
    obtain ⟨hn, h2, hT, hP, hF, hb⟩ := hX
    have hTB : isST B n T := isST_fr hT hF (by unfold SGa; omega)
    have t46 : xtn xN 46 = 4 := tn_46
    have n46 : (xsh 46).2 = 80 := ln_46
    have nar41 : vp_nar (xaty 4) 1 = 1 := by decide +kernel
    have nxt : ∀ b : Bool, (b = true ↔ ∃ s', s' < s + 1 ∧ hsT T p s') → s < 4 → xB (gaI19 A P) (n - p, 8, 4 - s) [some (.ref 39), some (.int (nI p)), some (.int (nI (s + 1))), o3, o4, o5, o6, o7, o8, o9] [] (xsi B 46 p (bI b)) := fun b hb' q => by
      have f1 : fr (fun c k => c = 46 ∧ k = p) B (xsi B 46 p (bI b)) := fr_si fr_rf ⟨rfl, rfl⟩
      refine xB3 (d := 4 - (s + 1)) (by omega) ⟨n, T, p, s + 1, o3, o4, o5, o6, o7, o8, o9, ⟨hn, h2, hT, hP, fr_tr hF (fr_mono f1 (by unfold SGa; omega)), fun p' hp' => ?_⟩, hp, by omega, ?_, ?_, rfl, rfl, rfl⟩
      · obtain ⟨⟨b1, b2⟩, b3, b4⟩ := hb p' hp'
        exact ⟨⟨by rw [si_ne (by omega)]; exact b1, by rw [si_ne (by omega)]; exact b2⟩, b3, b4⟩
      · rw [si_eq]; cases b
        · exact Or.inl rfl
        · exact Or.inr rfl
      · rw [si_eq, ← hb']; cases b
        · exact ⟨fun e => absurd e (by decide), fun e => Bool.noConfusion e⟩
        · exact ⟨fun _ => rfl, fun _ => rfl⟩
    simp (disch := omega) only [k_X7_gather_0, k_X7_gather_2, k_X7_gather_19, k_X7_gather_61, k_X7_gather_74, k_X7_gather_47, k_X7_gather_52, w_RII, x_aload, x_bast, x_iadd, x_icmp_ge, x_if_eq, x_if_ne, x_iinc, x_iload, x_imul, x_istore, x_land, x_lload, x_lor, x_lstore, x_push, x_vret, y_bast, y_cv2, y_getF, y_getI, y_iald, y_lald, y_last, xFT, xbool0, xbool1, Nat.reduceAdd, Nat.zero_add, xgl_0, xgl_s, xgl_n, xst_0, xst_1n, xst_1i, xst_1r, xst_1l, xst_s, set_0, set_s, true_and, and_true, xres, xcat_nil, xcat_i, xcat_r, xcat_l, Nat.add_zero, xble0, xble1, xble2, xble3, xble4, xble5, xble6, xble7, xble8, pk_mul, nI_add, nI_1, nI_leI, nI_ltI, nI_eq, n_in, n_cl, z_eq, z_lt, z_le, z_gt, z_ge, z_qe, o_eq, o_lt, o_le, o_gt, o_ge, vp0, vp1, cl0, cl1, n_sub, n_sub1, n_pm1, n_a0, n_0a, ofn, lN0, Nat.reduceLT, Nat.reduceLeDiff, Nat.reduceMul, Nat.reduceSub, Nat.reduceEqDiff, ne_eq, true_implies, false_implies, not_true_eq_false, not_false_eq_true, and_self, and_true, true_and, and_false, false_and, implies_true, if_true, if_false, i00, i10, i01, i11, ob_0, ob_1, tn_2, ln_2, ob_3, tn_4, ln_4, ob_5, tn_6, ln_6, tn_7, ln_7, ob_8, tn_9, ln_9, tn_10, ln_10, tn_11, ln_11, tn_12, ln_12, tn_13, ln_13, tn_14, ln_14, tn_15, ln_15, tn_16, ln_16, tn_17, ln_17, ob_18, tn_19, ln_19, tn_20, ln_20, tn_21, ln_21, tn_22, ln_22, tn_23, ln_23, tn_24, ln_24, tn_25, ln_25, tn_26, ln_26, tn_27, ln_27, ob_28, tn_29, ln_29, tn_30, ln_30, ob_31, tn_32, ln_32, tn_33, ln_33, ob_34, ob_35, tn_36, ln_36, tn_37, ln_37, tn_38, ln_38, ob_39, tn_40, ln_40, tn_41, ln_41, tn_42, ln_42, tn_43, ln_43, tn_44, ln_44, tn_45, ln_45, tn_46, ln_46, tn_47, ln_47, tn_48, ln_48, tn_49, ln_49, tn_50, ln_50, tn_51, ln_51, ob_52, tn_53, ln_53, tn_54, ln_54, tn_55, ln_55, tn_56, ln_56, ob_57, tn_58, ln_58, tn_59, ln_59, tn_60, ln_60, tn_61, ln_61, tn_62, ln_62, tn_63, ln_63, tn_64, ln_64, tn_65, ln_65, ob_66, tn_67, ln_67, tn_68, ln_68, tn_69, ln_69, tn_70, ln_70, tn_71, ln_71, tn_72, ln_72, tn_73, ln_73, ob_74, tn_75, ln_75, tn_76, ln_76, tn_77, ln_77, tn_78, ln_78, tn_79, ln_79, tn_80, ln_80, tn_81, ln_81, tn_82, ln_82, tn_83, ln_83, ob_84, tn_85, ln_85, tn_86, ln_86, tn_87, ln_87, tn_88, ln_88, tn_89, ln_89, tn_90, ln_90, tn_91, ln_91, tn_92, ln_92, tn_93, ln_93, ob_94, tn_95, ln_95, tn_96, ln_96, tn_97, ln_97, tn_98, ln_98, tn_99, ln_99, tn_100, ln_100, tn_101, ln_101, tn_102, ln_102, tn_103, ln_103, ob_104, tn_105, ln_105, tn_106, ln_106, tn_107, ln_107, tn_108, ln_108, tn_109, ln_109, tn_110, ln_110, tn_111, ln_111, tn_112, ln_112, tn_113, ln_113, ob_114, tn_115, ln_115, tn_116, ln_116, tn_117, ln_117, tn_118, ln_118, tn_119, ln_119, tn_120, ln_120, tn_121, ln_121, tn_122, ln_122, tn_123, ln_123, ob_124, tn_125, ln_125, tn_126, ln_126, tn_127, ln_127, tn_128, ln_128, tn_129, ln_129, tn_130, ln_130, tn_131, ln_131, tn_132, ln_132, tn_133, ln_133, ob_134, tn_135, ln_135, tn_136, ln_136, tn_137, ln_137, tn_138, ln_138, tn_139, ln_139, tn_140, ln_140, tn_141, ln_141, tn_142, ln_142, tn_143, ln_143, ob_144, tn_145, ln_145, tn_146, ln_146, tn_147, ln_147, tn_148, ln_148, tn_149, ln_149, tn_150, ln_150, tn_151, ln_151, tn_152, ln_152, tn_153, ln_153, ob_154, tn_155, ln_155, tn_156, ln_156, tn_157, ln_157, tn_158, ln_158, tn_159, ln_159, tn_160, ln_160, tn_161, ln_161, tn_162, ln_162, tn_163, ln_163, ob_164, tn_165, ln_165, tn_166, ln_166, ob_167, tn_168, ln_168, tn_169, ln_169, tn_170, ln_170, tn_171, ln_171, tn_172, ln_172, tn_173, ln_173, tn_174, ln_174, tn_175, ln_175, tn_176, ln_176, ob_177, tn_178, ln_178, tn_179, ln_179, ob_180, tn_181, ln_181, tn_182, ln_182, tn_183, ln_183, tn_184, ln_184, tn_185, ln_185, tn_186, ln_186, tn_187, ln_187, tn_188, ln_188, tn_189, ln_189, tn_190, ln_190, tn_191, ln_191, tn_192, ln_192, tn_193, ln_193, tn_194, ln_194, tn_195, ln_195, tn_196, ln_196, tn_197, ln_197, tn_198, ln_198, tn_199, ln_199, tn_200, ln_200, tn_201, ln_201, tn_202, ln_202, tn_203, ln_203, tn_204, ln_204, tn_205, ln_205, tn_206, ln_206, tn_207, ln_207, tn_208, ln_208, tn_209, ln_209, tn_210, ln_210, tn_211, ln_211, tn_212, ln_212, tn_213, ln_213, tn_214, ln_214, tn_215, ln_215, tn_216, ln_216, tn_217, ln_217, tn_218, ln_218, tn_219, ln_219, tn_220, ln_220, tn_221, ln_221, tn_222, ln_222, tn_223, ln_223, tn_224, ln_224, tn_225, ln_225, tn_226, ln_226, tn_227, ln_227, tn_228, ln_228, tn_229, ln_229, tn_230, ln_230, lx2, lx3, lx4, lx5, lx6, lx7, lx8, lx9, lx10, lx14, lx15, lx16, lx18, lx20, lx24, lx25, lx27, lx32, lx36, lx40, lx41, lx42, lx43, lx45, lx48, lx52, lx54, lx56, lx57, lx58, lx60, lx61, lx62, lx63, lx64, lx66, lx69, lx73, lx80, lx81, lx84, lx85, lx87, lx94, lx96, lx97, lx120, lx128, lx135, lx160, lx162, lx163, lx165, lx200, lx232, lx242, lx243, lx255, lx256, lx320, lx325, lx400, lx405, lx464, lx512, lx600, lx640, lx752, lx900, lx940, lx1000, lx1024, lx1764, lx3360, lx3840, lx5000, lx6400, lx9050, lx9998, lx9999, lx10000, lx25600, lx76800, lx99999, t46, n46, nar40, nar41]
    refine ⟨fun z => ?_, fun z => ⟨by omega, fun q => ⟨by omega, ?_⟩, fun q => ?_⟩⟩
    · have : s = 4 := by omega
      subst this
      exact xB2 (c := 4 - 0) (by omega) ⟨n, T, p, 0, _, _, _, _, _, _, _, hX0, hp, by omega, ⟨h01, hh⟩, fun h' hh' => absurd hh' (Nat.not_lt_zero h'), rfl, rfl, rfl⟩
    · have h1 : xi B 46 p = 1 := h01.resolve_left q
      obtain ⟨s', a, b⟩ := hh.mp h1
      exact nxt true ⟨fun _ => ⟨s', by omega, b⟩, fun _ => rfl⟩ (by omega)
    · have hno : ¬ ∃ s', s' < s ∧ hsT T p s' := fun w => by
        have := hh.mpr w
        rw [q] at this
        exact absurd this (by decide)
      refine hasSort_C hTB hn hp (by omega) (fun w => ?_) (fun w => ?_)
      · simp (disch := omega) only [k_X7_gather_0, k_X7_gather_2, k_X7_gather_19, k_X7_gather_61, k_X7_gather_74, k_X7_gather_47, k_X7_gather_52, w_RII, x_aload, x_bast, x_iadd, x_icmp_ge, x_if_eq, x_if_ne, x_iinc, x_iload, x_imul, x_istore, x_land, x_lload, x_lor, x_lstore, x_push, x_vret, y_bast, y_cv2, y_getF, y_getI, y_iald, y_lald, y_last, xFT, xbool0, xbool1, Nat.reduceAdd, Nat.zero_add, xgl_0, xgl_s, xgl_n, xst_0, xst_1n, xst_1i, xst_1r, xst_1l, xst_s, set_0, set_s, true_and, and_true, xres, xcat_nil, xcat_i, xcat_r, xcat_l, Nat.add_zero, xble0, xble1, xble2, xble3, xble4, xble5, xble6, xble7, xble8, pk_mul, nI_add, nI_1, nI_leI, nI_ltI, nI_eq, n_in, n_cl, z_eq, z_lt, z_le, z_gt, z_ge, z_qe, o_eq, o_lt, o_le, o_gt, o_ge, vp0, vp1, cl0, cl1, n_sub, n_sub1, n_pm1, n_a0, n_0a, ofn, lN0, Nat.reduceLT, Nat.reduceLeDiff, Nat.reduceMul, Nat.reduceSub, Nat.reduceEqDiff, ne_eq, true_implies, false_implies, not_true_eq_false, not_false_eq_true, and_self, and_true, true_and, and_false, false_and, implies_true, if_true, if_false, i00, i10, i01, i11, ob_0, ob_1, tn_2, ln_2, ob_3, tn_4, ln_4, ob_5, tn_6, ln_6, tn_7, ln_7, ob_8, tn_9, ln_9, tn_10, ln_10, tn_11, ln_11, tn_12, ln_12, tn_13, ln_13, tn_14, ln_14, tn_15, ln_15, tn_16, ln_16, tn_17, ln_17, ob_18, tn_19, ln_19, tn_20, ln_20, tn_21, ln_21, tn_22, ln_22, tn_23, ln_23, tn_24, ln_24, tn_25, ln_25, tn_26, ln_26, tn_27, ln_27, ob_28, tn_29, ln_29, tn_30, ln_30, ob_31, tn_32, ln_32, tn_33, ln_33, ob_34, ob_35, tn_36, ln_36, tn_37, ln_37, tn_38, ln_38, ob_39, tn_40, ln_40, tn_41, ln_41, tn_42, ln_42, tn_43, ln_43, tn_44, ln_44, tn_45, ln_45, tn_46, ln_46, tn_47, ln_47, tn_48, ln_48, tn_49, ln_49, tn_50, ln_50, tn_51, ln_51, ob_52, tn_53, ln_53, tn_54, ln_54, tn_55, ln_55, tn_56, ln_56, ob_57, tn_58, ln_58, tn_59, ln_59, tn_60, ln_60, tn_61, ln_61, tn_62, ln_62, tn_63, ln_63, tn_64, ln_64, tn_65, ln_65, ob_66, tn_67, ln_67, tn_68, ln_68, tn_69, ln_69, tn_70, ln_70, tn_71, ln_71, tn_72, ln_72, tn_73, ln_73, ob_74, tn_75, ln_75, tn_76, ln_76, tn_77, ln_77, tn_78, ln_78, tn_79, ln_79, tn_80, ln_80, tn_81, ln_81, tn_82, ln_82, tn_83, ln_83, ob_84, tn_85, ln_85, tn_86, ln_86, tn_87, ln_87, tn_88, ln_88, tn_89, ln_89, tn_90, ln_90, tn_91, ln_91, tn_92, ln_92, tn_93, ln_93, ob_94, tn_95, ln_95, tn_96, ln_96, tn_97, ln_97, tn_98, ln_98, tn_99, ln_99, tn_100, ln_100, tn_101, ln_101, tn_102, ln_102, tn_103, ln_103, ob_104, tn_105, ln_105, tn_106, ln_106, tn_107, ln_107, tn_108, ln_108, tn_109, ln_109, tn_110, ln_110, tn_111, ln_111, tn_112, ln_112, tn_113, ln_113, ob_114, tn_115, ln_115, tn_116, ln_116, tn_117, ln_117, tn_118, ln_118, tn_119, ln_119, tn_120, ln_120, tn_121, ln_121, tn_122, ln_122, tn_123, ln_123, ob_124, tn_125, ln_125, tn_126, ln_126, tn_127, ln_127, tn_128, ln_128, tn_129, ln_129, tn_130, ln_130, tn_131, ln_131, tn_132, ln_132, tn_133, ln_133, ob_134, tn_135, ln_135, tn_136, ln_136, tn_137, ln_137, tn_138, ln_138, tn_139, ln_139, tn_140, ln_140, tn_141, ln_141, tn_142, ln_142, tn_143, ln_143, ob_144, tn_145, ln_145, tn_146, ln_146, tn_147, ln_147, tn_148, ln_148, tn_149, ln_149, tn_150, ln_150, tn_151, ln_151, tn_152, ln_152, tn_153, ln_153, ob_154, tn_155, ln_155, tn_156, ln_156, tn_157, ln_157, tn_158, ln_158, tn_159, ln_159, tn_160, ln_160, tn_161, ln_161, tn_162, ln_162, tn_163, ln_163, ob_164, tn_165, ln_165, tn_166, ln_166, ob_167, tn_168, ln_168, tn_169, ln_169, tn_170, ln_170, tn_171, ln_171, tn_172, ln_172, tn_173, ln_173, tn_174, ln_174, tn_175, ln_175, tn_176, ln_176, ob_177, tn_178, ln_178, tn_179, ln_179, ob_180, tn_181, ln_181, tn_182, ln_182, tn_183, ln_183, tn_184, ln_184, tn_185, ln_185, tn_186, ln_186, tn_187, ln_187, tn_188, ln_188, tn_189, ln_189, tn_190, ln_190, tn_191, ln_191, tn_192, ln_192, tn_193, ln_193, tn_194, ln_194, tn_195, ln_195, tn_196, ln_196, tn_197, ln_197, tn_198, ln_198, tn_199, ln_199, tn_200, ln_200, tn_201, ln_201, tn_202, ln_202, tn_203, ln_203, tn_204, ln_204, tn_205, ln_205, tn_206, ln_206, tn_207, ln_207, tn_208, ln_208, tn_209, ln_209, tn_210, ln_210, tn_211, ln_211, tn_212, ln_212, tn_213, ln_213, tn_214, ln_214, tn_215, ln_215, tn_216, ln_216, tn_217, ln_217, tn_218, ln_218, tn_219, ln_219, tn_220, ln_220, tn_221, ln_221, tn_222, ln_222, tn_223, ln_223, tn_224, ln_224, tn_225, ln_225, tn_226, ln_226, tn_227, ln_227, tn_228, ln_228, tn_229, ln_229, tn_230, ln_230, lx2, lx3, lx4, lx5, lx6, lx7, lx8, lx9, lx10, lx14, lx15, lx16, lx18, lx20, lx24, lx25, lx27, lx32, lx36, lx40, lx41, lx42, lx43, lx45, lx48, lx52, lx54, lx56, lx57, lx58, lx60, lx61, lx62, lx63, lx64, lx66, lx69, lx73, lx80, lx81, lx84, lx85, lx87, lx94, lx96, lx97, lx120, lx128, lx135, lx160, lx162, lx163, lx165, lx200, lx232, lx242, lx243, lx255, lx256, lx320, lx325, lx400, lx405, lx464, lx512, lx600, lx640, lx752, lx900, lx940, lx1000, lx1024, lx1764, lx3360, lx3840, lx5000, lx6400, lx9050, lx9998, lx9999, lx10000, lx25600, lx76800, lx99999, t46, n46, nar40, nar41]
        exact ⟨by omega, nxt true ⟨fun _ => ⟨s, by omega, w⟩, fun _ => rfl⟩ (by omega)⟩
      · simp (disch := omega) only [k_X7_gather_0, k_X7_gather_2, k_X7_gather_19, k_X7_gather_61, k_X7_gather_74, k_X7_gather_47, k_X7_gather_52, w_RII, x_aload, x_bast, x_iadd, x_icmp_ge, x_if_eq, x_if_ne, x_iinc, x_iload, x_imul, x_istore, x_land, x_lload, x_lor, x_lstore, x_push, x_vret, y_bast, y_cv2, y_getF, y_getI, y_iald, y_lald, y_last, xFT, xbool0, xbool1, Nat.reduceAdd, Nat.zero_add, xgl_0, xgl_s, xgl_n, xst_0, xst_1n, xst_1i, xst_1r, xst_1l, xst_s, set_0, set_s, true_and, and_true, xres, xcat_nil, xcat_i, xcat_r, xcat_l, Nat.add_zero, xble0, xble1, xble2, xble3, xble4, xble5, xble6, xble7, xble8, pk_mul, nI_add, nI_1, nI_leI, nI_ltI, nI_eq, n_in, n_cl, z_eq, z_lt, z_le, z_gt, z_ge, z_qe, o_eq, o_lt, o_le, o_gt, o_ge, vp0, vp1, cl0, cl1, n_sub, n_sub1, n_pm1, n_a0, n_0a, ofn, lN0, Nat.reduceLT, Nat.reduceLeDiff, Nat.reduceMul, Nat.reduceSub, Nat.reduceEqDiff, ne_eq, true_implies, false_implies, not_true_eq_false, not_false_eq_true, and_self, and_true, true_and, and_false, false_and, implies_true, if_true, if_false, i00, i10, i01, i11, ob_0, ob_1, tn_2, ln_2, ob_3, tn_4, ln_4, ob_5, tn_6, ln_6, tn_7, ln_7, ob_8, tn_9, ln_9, tn_10, ln_10, tn_11, ln_11, tn_12, ln_12, tn_13, ln_13, tn_14, ln_14, tn_15, ln_15, tn_16, ln_16, tn_17, ln_17, ob_18, tn_19, ln_19, tn_20, ln_20, tn_21, ln_21, tn_22, ln_22, tn_23, ln_23, tn_24, ln_24, tn_25, ln_25, tn_26, ln_26, tn_27, ln_27, ob_28, tn_29, ln_29, tn_30, ln_30, ob_31, tn_32, ln_32, tn_33, ln_33, ob_34, ob_35, tn_36, ln_36, tn_37, ln_37, tn_38, ln_38, ob_39, tn_40, ln_40, tn_41, ln_41, tn_42, ln_42, tn_43, ln_43, tn_44, ln_44, tn_45, ln_45, tn_46, ln_46, tn_47, ln_47, tn_48, ln_48, tn_49, ln_49, tn_50, ln_50, tn_51, ln_51, ob_52, tn_53, ln_53, tn_54, ln_54, tn_55, ln_55, tn_56, ln_56, ob_57, tn_58, ln_58, tn_59, ln_59, tn_60, ln_60, tn_61, ln_61, tn_62, ln_62, tn_63, ln_63, tn_64, ln_64, tn_65, ln_65, ob_66, tn_67, ln_67, tn_68, ln_68, tn_69, ln_69, tn_70, ln_70, tn_71, ln_71, tn_72, ln_72, tn_73, ln_73, ob_74, tn_75, ln_75, tn_76, ln_76, tn_77, ln_77, tn_78, ln_78, tn_79, ln_79, tn_80, ln_80, tn_81, ln_81, tn_82, ln_82, tn_83, ln_83, ob_84, tn_85, ln_85, tn_86, ln_86, tn_87, ln_87, tn_88, ln_88, tn_89, ln_89, tn_90, ln_90, tn_91, ln_91, tn_92, ln_92, tn_93, ln_93, ob_94, tn_95, ln_95, tn_96, ln_96, tn_97, ln_97, tn_98, ln_98, tn_99, ln_99, tn_100, ln_100, tn_101, ln_101, tn_102, ln_102, tn_103, ln_103, ob_104, tn_105, ln_105, tn_106, ln_106, tn_107, ln_107, tn_108, ln_108, tn_109, ln_109, tn_110, ln_110, tn_111, ln_111, tn_112, ln_112, tn_113, ln_113, ob_114, tn_115, ln_115, tn_116, ln_116, tn_117, ln_117, tn_118, ln_118, tn_119, ln_119, tn_120, ln_120, tn_121, ln_121, tn_122, ln_122, tn_123, ln_123, ob_124, tn_125, ln_125, tn_126, ln_126, tn_127, ln_127, tn_128, ln_128, tn_129, ln_129, tn_130, ln_130, tn_131, ln_131, tn_132, ln_132, tn_133, ln_133, ob_134, tn_135, ln_135, tn_136, ln_136, tn_137, ln_137, tn_138, ln_138, tn_139, ln_139, tn_140, ln_140, tn_141, ln_141, tn_142, ln_142, tn_143, ln_143, ob_144, tn_145, ln_145, tn_146, ln_146, tn_147, ln_147, tn_148, ln_148, tn_149, ln_149, tn_150, ln_150, tn_151, ln_151, tn_152, ln_152, tn_153, ln_153, ob_154, tn_155, ln_155, tn_156, ln_156, tn_157, ln_157, tn_158, ln_158, tn_159, ln_159, tn_160, ln_160, tn_161, ln_161, tn_162, ln_162, tn_163, ln_163, ob_164, tn_165, ln_165, tn_166, ln_166, ob_167, tn_168, ln_168, tn_169, ln_169, tn_170, ln_170, tn_171, ln_171, tn_172, ln_172, tn_173, ln_173, tn_174, ln_174, tn_175, ln_175, tn_176, ln_176, ob_177, tn_178, ln_178, tn_179, ln_179, ob_180, tn_181, ln_181, tn_182, ln_182, tn_183, ln_183, tn_184, ln_184, tn_185, ln_185, tn_186, ln_186, tn_187, ln_187, tn_188, ln_188, tn_189, ln_189, tn_190, ln_190, tn_191, ln_191, tn_192, ln_192, tn_193, ln_193, tn_194, ln_194, tn_195, ln_195, tn_196, ln_196, tn_197, ln_197, tn_198, ln_198, tn_199, ln_199, tn_200, ln_200, tn_201, ln_201, tn_202, ln_202, tn_203, ln_203, tn_204, ln_204, tn_205, ln_205, tn_206, ln_206, tn_207, ln_207, tn_208, ln_208, tn_209, ln_209, tn_210, ln_210, tn_211, ln_211, tn_212, ln_212, tn_213, ln_213, tn_214, ln_214, tn_215, ln_215, tn_216, ln_216, tn_217, ln_217, tn_218, ln_218, tn_219, ln_219, tn_220, ln_220, tn_221, ln_221, tn_222, ln_222, tn_223, ln_223, tn_224, ln_224, tn_225, ln_225, tn_226, ln_226, tn_227, ln_227, tn_228, ln_228, tn_229, ln_229, tn_230, ln_230, lx2, lx3, lx4, lx5, lx6, lx7, lx8, lx9, lx10, lx14, lx15, lx16, lx18, lx20, lx24, lx25, lx27, lx32, lx36, lx40, lx41, lx42, lx43, lx45, lx48, lx52, lx54, lx56, lx57, lx58, lx60, lx61, lx62, lx63, lx64, lx66, lx69, lx73, lx80, lx81, lx84, lx85, lx87, lx94, lx96, lx97, lx120, lx128, lx135, lx160, lx162, lx163, lx165, lx200, lx232, lx242, lx243, lx255, lx256, lx320, lx325, lx400, lx405, lx464, lx512, lx600, lx640, lx752, lx900, lx940, lx1000, lx1024, lx1764, lx3360, lx3840, lx5000, lx6400, lx9050, lx9998, lx9999, lx10000, lx25600, lx76800, lx99999, t46, n46, nar40, nar41]
        refine ⟨by omega, nxt false ⟨fun e => Bool.noConfusion e, fun ⟨s', a, b⟩ => ?_⟩ (by omega)⟩
        by_cases e : s' = s
        · subst e; exact absurd b w
        · exact absurd ⟨s', by omega, b⟩ hno
  · rintro q A P - μ L st B ⟨n, T, p, h, o3, o4, o5, o6, o7, o8, o9, hX, hp, hh, hg, hb2, rfl, rfl, rfl⟩
    have hX0 := hX
    obtain ⟨hn, h2, hT, hP, hF, hb⟩ := hX
    simp (disch := omega) only [k_X7_gather_0, k_X7_gather_2, k_X7_gather_19, k_X7_gather_61, k_X7_gather_74, k_X7_gather_47, k_X7_gather_52, f_X7_hasSort, w_RII, x_aload, x_bast, x_iadd, x_icmp_ge, x_if_eq, x_if_ne, x_iinc, x_iload, x_imul, x_istore, x_land, x_lload, x_lor, x_lstore, x_push, x_vret, y_bast, y_cv2, y_getF, y_getI, y_iald, y_lald, y_last, xFT, xbool0, xbool1, Nat.reduceAdd, Nat.zero_add, xgl_0, xgl_s, xgl_n, xst_0, xst_1n, xst_1i, xst_1r, xst_1l, xst_s, set_0, set_s, true_and, and_true, xres, xcat_nil, xcat_i, xcat_r, xcat_l, Nat.add_zero, xble0, xble1, xble2, xble3, xble4, xble5, xble6, xble7, xble8, pk_mul, nI_add, nI_1, nI_leI, nI_ltI, nI_eq, n_in, n_cl, z_eq, z_lt, z_le, z_gt, z_ge, z_qe, o_eq, o_lt, o_le, o_gt, o_ge, vp0, vp1, cl0, cl1, n_sub, n_sub1, n_pm1, n_a0, n_0a, ofn, lN0, Nat.reduceLT, Nat.reduceLeDiff, Nat.reduceMul, Nat.reduceSub, Nat.reduceEqDiff, ne_eq, true_implies, false_implies, not_true_eq_false, not_false_eq_true, and_self, and_true, true_and, and_false, false_and, implies_true, if_true, if_false, i00, i10, i01, i11, ob_0, ob_1, tn_2, ln_2, ob_3, tn_4, ln_4, ob_5, tn_6, ln_6, tn_7, ln_7, ob_8, tn_9, ln_9, tn_10, ln_10, tn_11, ln_11, tn_12, ln_12, tn_13, ln_13, tn_14, ln_14, tn_15, ln_15, tn_16, ln_16, tn_17, ln_17, ob_18, tn_19, ln_19, tn_20, ln_20, tn_21, ln_21, tn_22, ln_22, tn_23, ln_23, tn_24, ln_24, tn_25, ln_25, tn_26, ln_26, tn_27, ln_27, ob_28, tn_29, ln_29, tn_30, ln_30, ob_31, tn_32, ln_32, tn_33, ln_33, ob_34, ob_35, tn_36, ln_36, tn_37, ln_37, tn_38, ln_38, ob_39, tn_40, ln_40, tn_41, ln_41, tn_42, ln_42, tn_43, ln_43, tn_44, ln_44, tn_45, ln_45, tn_46, ln_46, tn_47, ln_47, tn_48, ln_48, tn_49, ln_49, tn_50, ln_50, tn_51, ln_51, ob_52, tn_53, ln_53, tn_54, ln_54, tn_55, ln_55, tn_56, ln_56, ob_57, tn_58, ln_58, tn_59, ln_59, tn_60, ln_60, tn_61, ln_61, tn_62, ln_62, tn_63, ln_63, tn_64, ln_64, tn_65, ln_65, ob_66, tn_67, ln_67, tn_68, ln_68, tn_69, ln_69, tn_70, ln_70, tn_71, ln_71, tn_72, ln_72, tn_73, ln_73, ob_74, tn_75, ln_75, tn_76, ln_76, tn_77, ln_77, tn_78, ln_78, tn_79, ln_79, tn_80, ln_80, tn_81, ln_81, tn_82, ln_82, tn_83, ln_83, ob_84, tn_85, ln_85, tn_86, ln_86, tn_87, ln_87, tn_88, ln_88, tn_89, ln_89, tn_90, ln_90, tn_91, ln_91, tn_92, ln_92, tn_93, ln_93, ob_94, tn_95, ln_95, tn_96, ln_96, tn_97, ln_97, tn_98, ln_98, tn_99, ln_99, tn_100, ln_100, tn_101, ln_101, tn_102, ln_102, tn_103, ln_103, ob_104, tn_105, ln_105, tn_106, ln_106, tn_107, ln_107, tn_108, ln_108, tn_109, ln_109, tn_110, ln_110, tn_111, ln_111, tn_112, ln_112, tn_113, ln_113, ob_114, tn_115, ln_115, tn_116, ln_116, tn_117, ln_117, tn_118, ln_118, tn_119, ln_119, tn_120, ln_120, tn_121, ln_121, tn_122, ln_122, tn_123, ln_123, ob_124, tn_125, ln_125, tn_126, ln_126, tn_127, ln_127, tn_128, ln_128, tn_129, ln_129, tn_130, ln_130, tn_131, ln_131, tn_132, ln_132, tn_133, ln_133, ob_134, tn_135, ln_135, tn_136, ln_136, tn_137, ln_137, tn_138, ln_138, tn_139, ln_139, tn_140, ln_140, tn_141, ln_141, tn_142, ln_142, tn_143, ln_143, ob_144, tn_145, ln_145, tn_146, ln_146, tn_147, ln_147, tn_148, ln_148, tn_149, ln_149, tn_150, ln_150, tn_151, ln_151, tn_152, ln_152, tn_153, ln_153, ob_154, tn_155, ln_155, tn_156, ln_156, tn_157, ln_157, tn_158, ln_158, tn_159, ln_159, tn_160, ln_160, tn_161, ln_161, tn_162, ln_162, tn_163, ln_163, ob_164, tn_165, ln_165, tn_166, ln_166, ob_167, tn_168, ln_168, tn_169, ln_169, tn_170, ln_170, tn_171, ln_171, tn_172, ln_172, tn_173, ln_173, tn_174, ln_174, tn_175, ln_175, tn_176, ln_176, ob_177, tn_178, ln_178, tn_179, ln_179, ob_180, tn_181, ln_181, tn_182, ln_182, tn_183, ln_183, tn_184, ln_184, tn_185, ln_185, tn_186, ln_186, tn_187, ln_187, tn_188, ln_188, tn_189, ln_189, tn_190, ln_190, tn_191, ln_191, tn_192, ln_192, tn_193, ln_193, tn_194, ln_194, tn_195, ln_195, tn_196, ln_196, tn_197, ln_197, tn_198, ln_198, tn_199, ln_199, tn_200, ln_200, tn_201, ln_201, tn_202, ln_202, tn_203, ln_203, tn_204, ln_204, tn_205, ln_205, tn_206, ln_206, tn_207, ln_207, tn_208, ln_208, tn_209, ln_209, tn_210, ln_210, tn_211, ln_211, tn_212, ln_212, tn_213, ln_213, tn_214, ln_214, tn_215, ln_215, tn_216, ln_216, tn_217, ln_217, tn_218, ln_218, tn_219, ln_219, tn_220, ln_220, tn_221, ln_221, tn_222, ln_222, tn_223, ln_223, tn_224, ln_224, tn_225, ln_225, tn_226, ln_226, tn_227, ln_227, tn_228, ln_228, tn_229, ln_229, tn_230, ln_230, lx2, lx3, lx4, lx5, lx6, lx7, lx8, lx9, lx10, lx14, lx15, lx16, lx18, lx20, lx24, lx25, lx27, lx32, lx36, lx40, lx41, lx42, lx43, lx45, lx48, lx52, lx54, lx56, lx57, lx58, lx60, lx61, lx62, lx63, lx64, lx66, lx69, lx73, lx80, lx81, lx84, lx85, lx87, lx94, lx96, lx97, lx120, lx128, lx135, lx160, lx162, lx163, lx165, lx200, lx232, lx242, lx243, lx255, lx256, lx320, lx325, lx400, lx405, lx464, lx512, lx600, lx640, lx752, lx900, lx940, lx1000, lx1024, lx1764, lx3360, lx3840, lx5000, lx6400, lx9050, lx9998, lx9999, lx10000, lx25600, lx76800, lx99999]
    refine ⟨fun z => ?_, fun z => ?_⟩
    · have h22 : h = 2 := by omega
      rw [h22] at hb2 ⊢
      refine xB1 (b := n - (p + 1)) (by omega) ⟨n, T, p + 1, _, _, _, _, _, _, _, _, ⟨hn, h2, hT, hP, hF, fun p' hp' => ?_⟩, by omega, rfl, rfl, rfl⟩
      by_cases e : p' = p
      · rw [e]; exact ⟨hg, hb2 0 (Nat.zero_lt_two), hb2 1 (Nat.one_lt_two)⟩
      · exact hb p' (by omega)
    · refine xB3 (d := 24 - 4) (by omega) ⟨n, T, p, h, 4, lN 0, lN 0, _, _, hX0, hp, by omega, hg, hb2, by omega, by omega, fun j hj => ⟨?_, ?_⟩, rfl, rfl, rfl⟩
      · rw [show lN 0 = (0 : Int64) from rfl, tl_0]
        exact ⟨fun e => Bool.noConfusion e, fun ⟨s', a, b, _⟩ => by omega⟩
      · rw [show lN 0 = (0 : Int64) from rfl, tl_0]
        exact ⟨fun e => Bool.noConfusion e, fun ⟨s', s'', a, b, c, _⟩ => by omega⟩
  · rintro q A P - μ L st B ⟨n, T, p, h, s, one, two, o8, o9, hX, hp, hh, hg, hb2, h4, h24, hbit, rfl, rfl, rfl⟩
    have hX0 := hX
    obtain ⟨hn, h2, hT, hP, hF, hb⟩ := hX
    have hTB : isST B n T := isST_fr hT hF (by unfold SGa; omega)
    simp (disch := omega) only [k_X7_gather_0, k_X7_gather_2, k_X7_gather_19, k_X7_gather_61, k_X7_gather_74, k_X7_gather_47, k_X7_gather_52, f_X7_hasSort, w_RII, x_aload, x_bast, x_iadd, x_icmp_ge, x_if_eq, x_if_ne, x_iinc, x_iload, x_imul, x_istore, x_land, x_lload, x_lor, x_lstore, x_push, x_vret, y_bast, y_cv2, y_getF, y_getI, y_iald, y_lald, y_last, xFT, xbool0, xbool1, Nat.reduceAdd, Nat.zero_add, xgl_0, xgl_s, xgl_n, xst_0, xst_1n, xst_1i, xst_1r, xst_1l, xst_s, set_0, set_s, true_and, and_true, xres, xcat_nil, xcat_i, xcat_r, xcat_l, Nat.add_zero, xble0, xble1, xble2, xble3, xble4, xble5, xble6, xble7, xble8, pk_mul, nI_add, nI_1, nI_leI, nI_ltI, nI_eq, n_in, n_cl, z_eq, z_lt, z_le, z_gt, z_ge, z_qe, o_eq, o_lt, o_le, o_gt, o_ge, vp0, vp1, cl0, cl1, n_sub, n_sub1, n_pm1, n_a0, n_0a, ofn, lN0, Nat.reduceLT, Nat.reduceLeDiff, Nat.reduceMul, Nat.reduceSub, Nat.reduceEqDiff, ne_eq, true_implies, false_implies, not_true_eq_false, not_false_eq_true, and_self, and_true, true_and, and_false, false_and, implies_true, if_true, if_false, i00, i10, i01, i11, ob_0, ob_1, tn_2, ln_2, ob_3, tn_4, ln_4, ob_5, tn_6, ln_6, tn_7, ln_7, ob_8, tn_9, ln_9, tn_10, ln_10, tn_11, ln_11, tn_12, ln_12, tn_13, ln_13, tn_14, ln_14, tn_15, ln_15, tn_16, ln_16, tn_17, ln_17, ob_18, tn_19, ln_19, tn_20, ln_20, tn_21, ln_21, tn_22, ln_22, tn_23, ln_23, tn_24, ln_24, tn_25, ln_25, tn_26, ln_26, tn_27, ln_27, ob_28, tn_29, ln_29, tn_30, ln_30, ob_31, tn_32, ln_32, tn_33, ln_33, ob_34, ob_35, tn_36, ln_36, tn_37, ln_37, tn_38, ln_38, ob_39, tn_40, ln_40, tn_41, ln_41, tn_42, ln_42, tn_43, ln_43, tn_44, ln_44, tn_45, ln_45, tn_46, ln_46, tn_47, ln_47, tn_48, ln_48, tn_49, ln_49, tn_50, ln_50, tn_51, ln_51, ob_52, tn_53, ln_53, tn_54, ln_54, tn_55, ln_55, tn_56, ln_56, ob_57, tn_58, ln_58, tn_59, ln_59, tn_60, ln_60, tn_61, ln_61, tn_62, ln_62, tn_63, ln_63, tn_64, ln_64, tn_65, ln_65, ob_66, tn_67, ln_67, tn_68, ln_68, tn_69, ln_69, tn_70, ln_70, tn_71, ln_71, tn_72, ln_72, tn_73, ln_73, ob_74, tn_75, ln_75, tn_76, ln_76, tn_77, ln_77, tn_78, ln_78, tn_79, ln_79, tn_80, ln_80, tn_81, ln_81, tn_82, ln_82, tn_83, ln_83, ob_84, tn_85, ln_85, tn_86, ln_86, tn_87, ln_87, tn_88, ln_88, tn_89, ln_89, tn_90, ln_90, tn_91, ln_91, tn_92, ln_92, tn_93, ln_93, ob_94, tn_95, ln_95, tn_96, ln_96, tn_97, ln_97, tn_98, ln_98, tn_99, ln_99, tn_100, ln_100, tn_101, ln_101, tn_102, ln_102, tn_103, ln_103, ob_104, tn_105, ln_105, tn_106, ln_106, tn_107, ln_107, tn_108, ln_108, tn_109, ln_109, tn_110, ln_110, tn_111, ln_111, tn_112, ln_112, tn_113, ln_113, ob_114, tn_115, ln_115, tn_116, ln_116, tn_117, ln_117, tn_118, ln_118, tn_119, ln_119, tn_120, ln_120, tn_121, ln_121, tn_122, ln_122, tn_123, ln_123, ob_124, tn_125, ln_125, tn_126, ln_126, tn_127, ln_127, tn_128, ln_128, tn_129, ln_129, tn_130, ln_130, tn_131, ln_131, tn_132, ln_132, tn_133, ln_133, ob_134, tn_135, ln_135, tn_136, ln_136, tn_137, ln_137, tn_138, ln_138, tn_139, ln_139, tn_140, ln_140, tn_141, ln_141, tn_142, ln_142, tn_143, ln_143, ob_144, tn_145, ln_145, tn_146, ln_146, tn_147, ln_147, tn_148, ln_148, tn_149, ln_149, tn_150, ln_150, tn_151, ln_151, tn_152, ln_152, tn_153, ln_153, ob_154, tn_155, ln_155, tn_156, ln_156, tn_157, ln_157, tn_158, ln_158, tn_159, ln_159, tn_160, ln_160, tn_161, ln_161, tn_162, ln_162, tn_163, ln_163, ob_164, tn_165, ln_165, tn_166, ln_166, ob_167, tn_168, ln_168, tn_169, ln_169, tn_170, ln_170, tn_171, ln_171, tn_172, ln_172, tn_173, ln_173, tn_174, ln_174, tn_175, ln_175, tn_176, ln_176, ob_177, tn_178, ln_178, tn_179, ln_179, ob_180, tn_181, ln_181, tn_182, ln_182, tn_183, ln_183, tn_184, ln_184, tn_185, ln_185, tn_186, ln_186, tn_187, ln_187, tn_188, ln_188, tn_189, ln_189, tn_190, ln_190, tn_191, ln_191, tn_192, ln_192, tn_193, ln_193, tn_194, ln_194, tn_195, ln_195, tn_196, ln_196, tn_197, ln_197, tn_198, ln_198, tn_199, ln_199, tn_200, ln_200, tn_201, ln_201, tn_202, ln_202, tn_203, ln_203, tn_204, ln_204, tn_205, ln_205, tn_206, ln_206, tn_207, ln_207, tn_208, ln_208, tn_209, ln_209, tn_210, ln_210, tn_211, ln_211, tn_212, ln_212, tn_213, ln_213, tn_214, ln_214, tn_215, ln_215, tn_216, ln_216, tn_217, ln_217, tn_218, ln_218, tn_219, ln_219, tn_220, ln_220, tn_221, ln_221, tn_222, ln_222, tn_223, ln_223, tn_224, ln_224, tn_225, ln_225, tn_226, ln_226, tn_227, ln_227, tn_228, ln_228, tn_229, ln_229, tn_230, ln_230, lx2, lx3, lx4, lx5, lx6, lx7, lx8, lx9, lx10, lx14, lx15, lx16, lx18, lx20, lx24, lx25, lx27, lx32, lx36, lx40, lx41, lx42, lx43, lx45, lx48, lx52, lx54, lx56, lx57, lx58, lx60, lx61, lx62, lx63, lx64, lx66, lx69, lx73, lx80, lx81, lx84, lx85, lx87, lx94, lx96, lx97, lx120, lx128, lx135, lx160, lx162, lx163, lx165, lx200, lx232, lx242, lx243, lx255, lx256, lx320, lx325, lx400, lx405, lx464, lx512, lx600, lx640, lx752, lx900, lx940, lx1000, lx1024, lx1764, lx3360, lx3840, lx5000, lx6400, lx9050, lx9998, lx9999, lx10000, lx25600, lx76800, lx99999]
    refine ⟨fun z => ⟨by omega, by omega, ?_⟩, fun z => ⟨by omega, ?_⟩⟩
    · have : s = 24 := by omega
      subst this
      have f1 : fr (fun c k => (c = 44 ∨ c = 45) ∧ k = p * 2 + h) B (xsl (xsl B 44 (p * 2 + h) one) 45 (p * 2 + h) two) := fr_sl (fr_sl fr_rf (by omega)) (by omega)
      have g2 : ∀ p' h', p' * 2 + h' ≠ p * 2 + h → ga2 B T p' h' → ga2 (xsl (xsl B 44 (p * 2 + h) one) 45 (p * 2 + h) two) T p' h' := fun p' h' hne w j hj => by
        have := w j hj
        rw [sl_ne (Or.inl (by decide)), sl_ne (Or.inr hne), sl_ne (Or.inr hne), sl_ne (Or.inl (by decide))]
        exact this
      refine xB2 (c := 4 - (h + 1)) (by omega) ⟨n, T, p, h + 1, _, _, _, _, _, _, _, ⟨hn, h2, hT, hP, fr_tr hF (fr_mono f1 (by unfold SGa; omega)), fun p' hp' => ?_⟩, hp, by omega, hg, fun h' hh' => ?_, rfl, rfl, rfl⟩
      · obtain ⟨b1, b3, b4⟩ := hb p' hp'
        exact ⟨b1, g2 p' 0 (by omega) b3, g2 p' 1 (by omega) b4⟩
      · by_cases e : h' = h
        · subst e
          intro j hj
          have := hbit j hj
          rw [sl_ne (by omega), sl_eq, sl_eq]
          refine ⟨this.1.trans ?_, this.2.trans ?_⟩
          · constructor
            · rintro ⟨s', a, b, c⟩; exact ⟨s', a, b, c⟩
            · rintro ⟨s', a, b, c⟩; exact ⟨s', a, b, c⟩
          · constructor
            · rintro ⟨s', s'', a, b, c, d⟩; exact ⟨s', s'', a, b, c, d⟩
            · rintro ⟨s', s'', a, b, c, d⟩; exact ⟨s', s'', a, b, c, d⟩
        · exact g2 p h' (by omega) (hb2 h' (by omega))
    · refine xB3 (d := 24 - (s + 1)) (by omega) ⟨n, T, p, h, s + 1, _, _, _, _, hX0, hp, hh, hg, hb2, by omega, by omega, fun j hj => ?_, rfl, rfl, rfl⟩
      obtain ⟨b1, b2⟩ := hbit j hj
      have ht := hTB.1 p s (h * 64 + j) hp (by omega) (by omega)
      rw [show (h * 64 + j) / 64 = h by omega, show (h * 64 + j) % 64 = j by omega] at ht
      rw [tl_or, tl_or, tl_and, Bool.or_eq_true, Bool.or_eq_true, Bool.and_eq_true, b1, b2, ht]
      constructor
      · constructor
        · rintro (⟨s', a, b, c⟩ | w)
          · exact ⟨s', a, by omega, c⟩
          · exact ⟨s, by omega, by omega, w⟩
        · rintro ⟨s', a, b, c⟩
          by_cases e : s' = s
          · subst e; exact Or.inr c
          · exact Or.inl ⟨s', a, by omega, c⟩
      · constructor
        · rintro (⟨s', s'', a, b, c, d⟩ | ⟨⟨s', a, b, c⟩, w⟩)
          · exact ⟨s', s'', a, b, by omega, d⟩
          · exact ⟨s', s, a, b, by omega, c, w⟩
        · rintro ⟨s', s'', a, b, c, d1, d2⟩
          by_cases e : s'' = s
          · subst e; exact Or.inr ⟨⟨s', a, b, d1⟩, d2⟩
          · exact Or.inl ⟨s', s'', a, b, by omega, d1, d2⟩

