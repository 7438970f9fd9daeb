theorem d_X9_put_0 : decode cX9_put 0 = .ok (.bipush 24, 2) := by decide +kernel
theorem d_X9_put_2 : decode cX9_put 2 = .ok (.istore_n 2, 1) := by decide +kernel
theorem d_X9_put_3 : decode cX9_put 3 = .ok (.iload_n 2, 1) := by decide +kernel
theorem d_X9_put_4 : decode cX9_put 4 = .ok (.ifCond .lt 47, 3) := by decide +kernel
theorem d_X9_put_7 : decode cX9_put 7 = .ok (.aload_n 0, 1) := by decide +kernel
theorem d_X9_put_8 : decode cX9_put 8 = .ok (.getfield 15, 3) := by decide +kernel
theorem d_X9_put_11 : decode cX9_put 11 = .ok (.aload_n 0, 1) := by decide +kernel
theorem d_X9_put_12 : decode cX9_put 12 = .ok (.getfield 9, 3) := by decide +kernel
theorem d_X9_put_15 : decode cX9_put 15 = .ok (.arraylength, 1) := by decide +kernel
theorem d_X9_put_16 : decode cX9_put 16 = .ok (.if_icmp .ge 29, 3) := by decide +kernel
theorem d_X9_put_19 : decode cX9_put 19 = .ok (.aload_n 0, 1) := by decide +kernel
theorem d_X9_put_20 : decode cX9_put 20 = .ok (.getfield 9, 3) := by decide +kernel
theorem d_X9_put_23 : decode cX9_put 23 = .ok (.aload_n 0, 1) := by decide +kernel
theorem d_X9_put_24 : decode cX9_put 24 = .ok (.getfield 15, 3) := by decide +kernel
theorem d_X9_put_27 : decode cX9_put 27 = .ok (.iload_n 1, 1) := by decide +kernel
theorem d_X9_put_28 : decode cX9_put 28 = .ok (.iload_n 2, 1) := by decide +kernel
theorem d_X9_put_29 : decode cX9_put 29 = .ok (.iushr, 1) := by decide +kernel
theorem d_X9_put_30 : decode cX9_put 30 = .ok (.sipush 255, 3) := by decide +kernel
theorem d_X9_put_33 : decode cX9_put 33 = .ok (.iand, 1) := by decide +kernel
theorem d_X9_put_34 : decode cX9_put 34 = .ok (.iastore, 1) := by decide +kernel
theorem d_X9_put_35 : decode cX9_put 35 = .ok (.aload_n 0, 1) := by decide +kernel
theorem d_X9_put_36 : decode cX9_put 36 = .ok (.dup, 1) := by decide +kernel
theorem d_X9_put_37 : decode cX9_put 37 = .ok (.getfield 15, 3) := by decide +kernel
theorem d_X9_put_40 : decode cX9_put 40 = .ok (.iconst 1, 1) := by decide +kernel
theorem d_X9_put_41 : decode cX9_put 41 = .ok (.iadd, 1) := by decide +kernel
theorem d_X9_put_42 : decode cX9_put 42 = .ok (.putfield 15, 3) := by decide +kernel
theorem d_X9_put_45 : decode cX9_put 45 = .ok (.iinc 2 (-8), 3) := by decide +kernel
theorem d_X9_put_48 : decode cX9_put 48 = .ok (.goto (-45), 3) := by decide +kernel
theorem d_X9_put_51 : decode cX9_put 51 = .ok (.return_, 1) := by decide +kernel
def k_X9_put_0 (P : xP) (C3 : xK) : xK := x_push (.int 24) (x_istore 2 (C3))
set_option maxRecDepth 20000 in
theorem t_X9_put_0 {p : Program} {l : Launch} {e : Env} {s : State} {m : MethodId} {args : Array Value} {below : List Frame} {meth : Method} {c : Code} {g : xG} (X : xX p s m args c meth cX9_put RX9 3 g) (hr : meth.sig.returnType = none) {P : xP} {C3 : xK} (h3 : xAt p l e { frames := 0, cells := 0, slots := 0, locals := 0 } s m args below meth c g 3 xFT xN 0 0 (MQ below (xQc g xFT xN P) args s 0 0 (xFr g)) C3 3) : xAt p l e { frames := 0, cells := 0, slots := 0, locals := 0 } s m args below meth c g 3 xFT xN 0 0 (MQ below (xQc g xFT xN P) args s 0 0 (xFr g)) (k_X9_put_0 P C3) 0 := by
  unfold k_X9_put_0
  refine r_bipush (pc := 0) X d_X9_put_0 (by decide +kernel) ?_
  refine r_istore_n (pc := 2) X d_X9_put_2 fn2 (by decide +kernel) ?_
  exact h3
def k_X9_put_45 (P : xP) (C3 : xK) : xK := x_iinc 2 (-8) (C3)
set_option maxRecDepth 20000 in
theorem t_X9_put_45 {p : Program} {l : Launch} {e : Env} {s : State} {m : MethodId} {args : Array Value} {below : List Frame} {meth : Method} {c : Code} {g : xG} (X : xX p s m args c meth cX9_put RX9 3 g) (hr : meth.sig.returnType = none) {P : xP} {C3 : xK} (h3 : xAt p l e { frames := 0, cells := 0, slots := 0, locals := 0 } s m args below meth c g 3 xFT xN 0 0 (MQ below (xQc g xFT xN P) args s 0 0 (xFr g)) C3 3) : xAt p l e { frames := 0, cells := 0, slots := 0, locals := 0 } s m args below meth c g 3 xFT xN 0 0 (MQ below (xQc g xFT xN P) args s 0 0 (xFr g)) (k_X9_put_45 P C3) 45 := by
  unfold k_X9_put_45
  refine r_iinc (pc := 45) X d_X9_put_45 (by decide +kernel) (by decide +kernel) ?_
  refine r_goto (pc := 48) (tgt := 3) X d_X9_put_48 (by decide +kernel) ?_
  exact h3
def k_X9_put_3 (P : xP) (C3 : xK) : xK := x_iload 2 (x_if_lt (x_vret P) (x_aload 0 (y_getI 1 1 (x_aload 0 (y_getF 1 2 (y_alen 2 940 (x_icmp_ge ((k_X9_put_45 P C3)) (x_aload 0 (y_getF 1 2 (x_aload 0 (y_getI 1 1 (x_iload 1 (x_iload 2 (x_iushr (x_push (.int 255) (x_iand (y_iast 2 940 (x_aload 0 (x_dup (y_getI 1 1 (x_push (.int 1) (x_iadd (y_putI 1 1 ((k_X9_put_45 P C3)))))))))))))))))))))))))
set_option maxRecDepth 20000 in
theorem t_X9_put_3 {p : Program} {l : Launch} {e : Env} {s : State} {m : MethodId} {args : Array Value} {below : List Frame} {meth : Method} {c : Code} {g : xG} (X : xX p s m args c meth cX9_put RX9 3 g) (hr : meth.sig.returnType = none) {P : xP} {C3 : xK} (h3 : xAt p l e { frames := 0, cells := 0, slots := 0, locals := 0 } s m args below meth c g 3 xFT xN 0 0 (MQ below (xQc g xFT xN P) args s 0 0 (xFr g)) C3 3) : xAt p l e { frames := 0, cells := 0, slots := 0, locals := 0 } s m args below meth c g 3 xFT xN 0 0 (MQ below (xQc g xFT xN P) args s 0 0 (xFr g)) (k_X9_put_3 P C3) 3 := by
  unfold k_X9_put_3
  refine r_iload_n (pc := 3) X d_X9_put_3 fn2 ?_
  refine r_if_lt (pc := 4) (tgt := 51) X d_X9_put_4 (by decide +kernel) ?_ ?_
  · exact r_vret (pc := 51) X hr d_X9_put_51
  · refine r_aload_n (pc := 7) X d_X9_put_7 fn0 ?_
    refine s_getI (pc := 8) (ci := 9) X xok9 (by decide +kernel) ob_1 (by decide +kernel) fl_RX9_15 d_X9_put_8 ?_
    refine r_aload_n (pc := 11) X d_X9_put_11 fn0 ?_
    refine s_getF (pc := 12) (ci := 9) (k := 0) X xok9 (by decide +kernel) ob_1 trivial ly_1_0 (by decide +kernel) fl_RX9_9 d_X9_put_12 ?_
    refine s_alen (pc := 15) (q := 2) X (by rw [tn_2]; decide +kernel) ln_2 d_X9_put_15 ?_
    refine r_icmp_ge (pc := 16) (tgt := 45) X d_X9_put_16 (by decide +kernel) ?_ ?_
    · exact t_X9_put_45 X hr h3
    · refine r_aload_n (pc := 19) X d_X9_put_19 fn0 ?_
      refine s_getF (pc := 20) (ci := 9) (k := 0) X xok9 (by decide +kernel) ob_1 trivial ly_1_0 (by decide +kernel) fl_RX9_9 d_X9_put_20 ?_
      refine r_aload_n (pc := 23) X d_X9_put_23 fn0 ?_
      refine s_getI (pc := 24) (ci := 9) X xok9 (by decide +kernel) ob_1 (by decide +kernel) fl_RX9_15 d_X9_put_24 ?_
      refine r_iload_n (pc := 27) X d_X9_put_27 fn1 ?_
      refine r_iload_n (pc := 28) X d_X9_put_28 fn2 ?_
      refine r_iushr (pc := 29) X d_X9_put_29 ?_
      refine r_sipush (pc := 30) X d_X9_put_30 (by decide +kernel) ?_
      refine r_iand (pc := 33) X d_X9_put_33 ?_
      refine s_iast (pc := 34) X tn_2 ln_2 d_X9_put_34 ?_
      refine r_aload_n (pc := 35) X d_X9_put_35 fn0 ?_
      refine r_dup (pc := 36) X d_X9_put_36 ?_
      refine s_getI (pc := 37) (ci := 9) X xok9 (by decide +kernel) ob_1 (by decide +kernel) fl_RX9_15 d_X9_put_37 ?_
      refine r_iconst (pc := 40) X d_X9_put_40 (by decide +kernel) ?_
      refine r_iadd (pc := 41) X d_X9_put_41 ?_
      refine s_putI (pc := 42) (ci := 9) X xok9 (by decide +kernel) ob_1 (by decide +kernel) (by decide +kernel) (by decide +kernel) fl_RX9_15 d_X9_put_42 ?_
      exact t_X9_put_45 X hr h3
set_option maxRecDepth 20000 in
theorem m_X9_put {l : Launch} {f : Nat → Int32 → xH → xP → Prop}  {I3 : Nat → Int32 → xH → xP → xM → xK}
    (v0 : ∀ (a0 : Nat) (a1 : Int32) (A : xH) (P : xP), f a0 a1 A P → k_X9_put_0 P (xE (I3 a0 a1 A P)) [some (.ref a0), some (.int a1), none] [] A)
    (v3 : ∀ (a0 : Nat) (a1 : Int32) (A : xH) (P : xP), f a0 a1 A P → ∀ (μ : xM) (L : xL) (st : List Value) (B : xH), I3 a0 a1 A P μ L st B → k_X9_put_3 P (xB (I3 a0 a1 A P) μ) L st B) : xCon l yX9_put cX9_put 3 none 0 0 xN xN 0 xFT xFT (w_RI f) := by
  refine xc_RI (plainFor_of_name pn_RX9) (by decide +kernel) (fun p e s m args below meth c g a0 a1 A P h X hr _ => ?_)
  have h3 := x_loop1 (p := p) (l := l) (e := e) (R := { frames := 0, cells := 0, slots := 0, locals := 0 }) (s := s) (m := m) (args := args) (below := below) (meth := meth) (c := c) (g := g) (nL := 3) (F := xFT) (n := xN) (cells := 0) (slots := 0) (Q := MQ below (xQc g xFT xN P) args s 0 0 (xFr g)) (I := I3 a0 a1 A P) (pc1 := 3) (fun μ i3 => xAt_mono (t_X9_put_3 (P := P) X hr i3) (v3 a0 a1 A P h μ))
  exact ⟨_, v0 a0 a1 A P h, t_X9_put_0 X hr h3⟩
theorem d_X9_byteOr_0 : decode cX9_byteOr 0 = .ok (.iload_n 1, 1) := by decide +kernel
theorem d_X9_byteOr_1 : decode cX9_byteOr 1 = .ok (.ifCond .lt 20, 3) := by decide +kernel
theorem d_X9_byteOr_4 : decode cX9_byteOr 4 = .ok (.iload_n 1, 1) := by decide +kernel
theorem d_X9_byteOr_5 : decode cX9_byteOr 5 = .ok (.aload_n 0, 1) := by decide +kernel
theorem d_X9_byteOr_6 : decode cX9_byteOr 6 = .ok (.getfield 15, 3) := by decide +kernel
theorem d_X9_byteOr_9 : decode cX9_byteOr 9 = .ok (.if_icmp .ge 12, 3) := by decide +kernel
theorem d_X9_byteOr_12 : decode cX9_byteOr 12 = .ok (.aload_n 0, 1) := by decide +kernel
theorem d_X9_byteOr_13 : decode cX9_byteOr 13 = .ok (.getfield 9, 3) := by decide +kernel
theorem d_X9_byteOr_16 : decode cX9_byteOr 16 = .ok (.iload_n 1, 1) := by decide +kernel
theorem d_X9_byteOr_17 : decode cX9_byteOr 17 = .ok (.iaload, 1) := by decide +kernel
theorem d_X9_byteOr_18 : decode cX9_byteOr 18 = .ok (.goto 4, 3) := by decide +kernel
theorem d_X9_byteOr_21 : decode cX9_byteOr 21 = .ok (.iload_n 2, 1) := by decide +kernel
theorem d_X9_byteOr_22 : decode cX9_byteOr 22 = .ok (.ireturn, 1) := by decide +kernel
def k_X9_byteOr_22 (P : xP) : xK := x_iret P
set_option maxRecDepth 20000 in
theorem t_X9_byteOr_22 {p : Program} {l : Launch} {e : Env} {s : State} {m : MethodId} {args : Array Value} {below : List Frame} {meth : Method} {c : Code} {g : xG} (X : xX p s m args c meth cX9_byteOr RX9 3 g) (hr : meth.sig.returnType = (some .int)) {P : xP} : xAt p l e { frames := 0, cells := 0, slots := 0, locals := 0 } s m args below meth c g 3 xFT xN 0 0 (MQ below (xQc g xFT xN P) args s 0 0 (xFr g)) (k_X9_byteOr_22 P) 22 := by
  unfold k_X9_byteOr_22
  exact r_iret (pc := 22) X hr d_X9_byteOr_22
def k_X9_byteOr_21 (P : xP) : xK := x_iload 2 ((k_X9_byteOr_22 P))
set_option maxRecDepth 20000 in
theorem t_X9_byteOr_21 {p : Program} {l : Launch} {e : Env} {s : State} {m : MethodId} {args : Array Value} {below : List Frame} {meth : Method} {c : Code} {g : xG} (X : xX p s m args c meth cX9_byteOr RX9 3 g) (hr : meth.sig.returnType = (some .int)) {P : xP} : xAt p l e { frames := 0, cells := 0, slots := 0, locals := 0 } s m args below meth c g 3 xFT xN 0 0 (MQ below (xQc g xFT xN P) args s 0 0 (xFr g)) (k_X9_byteOr_21 P) 21 := by
  unfold k_X9_byteOr_21
  refine r_iload_n (pc := 21) X d_X9_byteOr_21 fn2 ?_
  exact t_X9_byteOr_22 X hr
def k_X9_byteOr_0 (P : xP) : xK := x_iload 1 (x_if_lt ((k_X9_byteOr_21 P)) (x_iload 1 (x_aload 0 (y_getI 1 1 (x_icmp_ge ((k_X9_byteOr_21 P)) (x_aload 0 (y_getF 1 2 (x_iload 1 (y_iald 2 940 ((k_X9_byteOr_22 P)))))))))))
set_option maxRecDepth 20000 in
theorem t_X9_byteOr_0 {p : Program} {l : Launch} {e : Env} {s : State} {m : MethodId} {args : Array Value} {below : List Frame} {meth : Method} {c : Code} {g : xG} (X : xX p s m args c meth cX9_byteOr RX9 3 g) (hr : meth.sig.returnType = (some .int)) {P : xP} : xAt p l e { frames := 0, cells := 0, slots := 0, locals := 0 } s m args below meth c g 3 xFT xN 0 0 (MQ below (xQc g xFT xN P) args s 0 0 (xFr g)) (k_X9_byteOr_0 P) 0 := by
  unfold k_X9_byteOr_0
  refine r_iload_n (pc := 0) X d_X9_byteOr_0 fn1 ?_
  refine r_if_lt (pc := 1) (tgt := 21) X d_X9_byteOr_1 (by decide +kernel) ?_ ?_
  · exact t_X9_byteOr_21 X hr
  · refine r_iload_n (pc := 4) X d_X9_byteOr_4 fn1 ?_
    refine r_aload_n (pc := 5) X d_X9_byteOr_5 fn0 ?_
    refine s_getI (pc := 6) (ci := 9) X xok9 (by decide +kernel) ob_1 (by decide +kernel) fl_RX9_15 d_X9_byteOr_6 ?_
    refine r_icmp_ge (pc := 9) (tgt := 21) X d_X9_byteOr_9 (by decide +kernel) ?_ ?_
    · exact t_X9_byteOr_21 X hr
    · refine r_aload_n (pc := 12) X d_X9_byteOr_12 fn0 ?_
      refine s_getF (pc := 13) (ci := 9) (k := 0) X xok9 (by decide +kernel) ob_1 trivial ly_1_0 (by decide +kernel) fl_RX9_9 d_X9_byteOr_13 ?_
      refine r_iload_n (pc := 16) X d_X9_byteOr_16 fn1 ?_
      refine s_iald (pc := 17) X tn_2 ln_2 d_X9_byteOr_17 ?_
      refine r_goto (pc := 18) (tgt := 22) X d_X9_byteOr_18 (by decide +kernel) ?_
      exact t_X9_byteOr_22 X hr
def f_X9_byteOr (a0 : Nat) (a1 : Int32) (a2 : Int32) (A : xH) (P : xP) : Prop := k_X9_byteOr_0 P [some (.ref a0), some (.int a1), some (.int a2)] [] A
set_option maxRecDepth 20000 in
theorem con_X9_byteOr (l : Launch) : xCon l yX9_byteOr cX9_byteOr 3 (some .int) 0 0 xN xN 0 xFT xFT (w_RII f_X9_byteOr) :=
  xc_RII (plainFor_of_name pn_RX9) (by decide +kernel) (fun p e s m args below meth c g a0 a1 a2 A P h X hr _ => ⟨_, h, t_X9_byteOr_0 X hr⟩)
theorem d_X12_four_0 : decode cX12_four 0 = .ok (.bipush 24, 2) := by decide +kernel
theorem d_X12_four_2 : decode cX12_four 2 = .ok (.istore_n 2, 1) := by decide +kernel
theorem d_X12_four_3 : decode cX12_four 3 = .ok (.iload_n 2, 1) := by decide +kernel
theorem d_X12_four_4 : decode cX12_four 4 = .ok (.ifCond .lt 32, 3) := by decide +kernel
theorem d_X12_four_7 : decode cX12_four 7 = .ok (.aload_n 0, 1) := by decide +kernel
theorem d_X12_four_8 : decode cX12_four 8 = .ok (.getfield 11, 3) := by decide +kernel
theorem d_X12_four_11 : decode cX12_four 11 = .ok (.aload_n 0, 1) := by decide +kernel
theorem d_X12_four_12 : decode cX12_four 12 = .ok (.getfield 1, 3) := by decide +kernel
theorem d_X12_four_15 : decode cX12_four 15 = .ok (.iload_n 1, 1) := by decide +kernel
theorem d_X12_four_16 : decode cX12_four 16 = .ok (.iload_n 2, 1) := by decide +kernel
theorem d_X12_four_17 : decode cX12_four 17 = .ok (.ishr, 1) := by decide +kernel
theorem d_X12_four_18 : decode cX12_four 18 = .ok (.i2b, 1) := by decide +kernel
theorem d_X12_four_19 : decode cX12_four 19 = .ok (.bastore, 1) := by decide +kernel
theorem d_X12_four_20 : decode cX12_four 20 = .ok (.aload_n 0, 1) := by decide +kernel
theorem d_X12_four_21 : decode cX12_four 21 = .ok (.dup, 1) := by decide +kernel
theorem d_X12_four_22 : decode cX12_four 22 = .ok (.getfield 1, 3) := by decide +kernel
theorem d_X12_four_25 : decode cX12_four 25 = .ok (.iconst 1, 1) := by decide +kernel
theorem d_X12_four_26 : decode cX12_four 26 = .ok (.iadd, 1) := by decide +kernel
theorem d_X12_four_27 : decode cX12_four 27 = .ok (.putfield 1, 3) := by decide +kernel
theorem d_X12_four_30 : decode cX12_four 30 = .ok (.iinc 2 (-8), 3) := by decide +kernel
theorem d_X12_four_33 : decode cX12_four 33 = .ok (.goto (-30), 3) := by decide +kernel
theorem d_X12_four_36 : decode cX12_four 36 = .ok (.return_, 1) := by decide +kernel
def k_X12_four_0 (P : xP) (C3 : xK) : xK := x_push (.int 24) (x_istore 2 (C3))
set_option maxRecDepth 20000 in
theorem t_X12_four_0 {p : Program} {l : Launch} {e : Env} {s : State} {m : MethodId} {args : Array Value} {below : List Frame} {meth : Method} {c : Code} {g : xG} (X : xX p s m args c meth cX12_four RX12 3 g) (hr : meth.sig.returnType = none) {P : xP} {C3 : xK} (h3 : xAt p l e { frames := 0, cells := 0, slots := 0, locals := 0 } s m args below meth c g 3 xFT xN 0 0 (MQ below (xQc g xFT xN P) args s 0 0 (xFr g)) C3 3) : xAt p l e { frames := 0, cells := 0, slots := 0, locals := 0 } s m args below meth c g 3 xFT xN 0 0 (MQ below (xQc g xFT xN P) args s 0 0 (xFr g)) (k_X12_four_0 P C3) 0 := by
  unfold k_X12_four_0
  refine r_bipush (pc := 0) X d_X12_four_0 (by decide +kernel) ?_
  refine r_istore_n (pc := 2) X d_X12_four_2 fn2 (by decide +kernel) ?_
  exact h3
def k_X12_four_3 (P : xP) (C3 : xK) : xK := x_iload 2 (x_if_lt (x_vret P) (x_aload 0 (y_getF 180 181 (x_aload 0 (y_getI 180 1 (x_iload 1 (x_iload 2 (x_ishr (x_i2b (y_bast 181 3 940 (x_aload 0 (x_dup (y_getI 180 1 (x_push (.int 1) (x_iadd (y_putI 180 1 (x_iinc 2 (-8) (C3))))))))))))))))))
set_option maxRecDepth 20000 in
theorem t_X12_four_3 {p : Program} {l : Launch} {e : Env} {s : State} {m : MethodId} {args : Array Value} {below : List Frame} {meth : Method} {c : Code} {g : xG} (X : xX p s m args c meth cX12_four RX12 3 g) (hr : meth.sig.returnType = none) {P : xP} {C3 : xK} (h3 : xAt p l e { frames := 0, cells := 0, slots := 0, locals := 0 } s m args below meth c g 3 xFT xN 0 0 (MQ below (xQc g xFT xN P) args s 0 0 (xFr g)) C3 3) : xAt p l e { frames := 0, cells := 0, slots := 0, locals := 0 } s m args below meth c g 3 xFT xN 0 0 (MQ below (xQc g xFT xN P) args s 0 0 (xFr g)) (k_X12_four_3 P C3) 3 := by
  unfold k_X12_four_3
  refine r_iload_n (pc := 3) X d_X12_four_3 fn2 ?_
  refine r_if_lt (pc := 4) (tgt := 36) X d_X12_four_4 (by decide +kernel) ?_ ?_
  · exact r_vret (pc := 36) X hr d_X12_four_36
  · refine r_aload_n (pc := 7) X d_X12_four_7 fn0 ?_
    refine s_getF (pc := 8) (ci := 12) (k := 0) X xok12 (by decide +kernel) ob_180 trivial ly_180_0 (by decide +kernel) fl_RX12_11 d_X12_four_8 ?_
    refine r_aload_n (pc := 11) X d_X12_four_11 fn0 ?_
    refine s_getI (pc := 12) (ci := 12) X xok12 (by decide +kernel) ob_180 (by decide +kernel) fl_RX12_1 d_X12_four_12 ?_
    refine r_iload_n (pc := 15) X d_X12_four_15 fn1 ?_
    refine r_iload_n (pc := 16) X d_X12_four_16 fn2 ?_
    refine r_ishr (pc := 17) X d_X12_four_17 ?_
    refine r_i2b (pc := 18) X d_X12_four_18 ?_
    refine s_bast (pc := 19) X tn_181 ln_181 d_X12_four_19 ?_
    refine r_aload_n (pc := 20) X d_X12_four_20 fn0 ?_
    refine r_dup (pc := 21) X d_X12_four_21 ?_
    refine s_getI (pc := 22) (ci := 12) X xok12 (by decide +kernel) ob_180 (by decide +kernel) fl_RX12_1 d_X12_four_22 ?_
    refine r_iconst (pc := 25) X d_X12_four_25 (by decide +kernel) ?_
    refine r_iadd (pc := 26) X d_X12_four_26 ?_
    refine s_putI (pc := 27) (ci := 12) X xok12 (by decide +kernel) ob_180 (by decide +kernel) (by decide +kernel) (by decide +kernel) fl_RX12_1 d_X12_four_27 ?_
    refine r_iinc (pc := 30) X d_X12_four_30 (by decide +kernel) (by decide +kernel) ?_
    refine r_goto (pc := 33) (tgt := 3) X d_X12_four_33 (by decide +kernel) ?_
    exact h3
set_option maxRecDepth 20000 in
theorem m_X12_four {l : Launch} {f : Nat → Int32 → xH → xP → Prop}  {I3 : Nat → Int32 → xH → xP → xM → xK}
    (v0 : ∀ (a0 : Nat) (a1 : Int32) (A : xH) (P : xP), f a0 a1 A P → k_X12_four_0 P (xE (I3 a0 a1 A P)) [some (.ref a0), some (.int a1), none] [] A)
    (v3 : ∀ (a0 : Nat) (a1 : Int32) (A : xH) (P : xP), f a0 a1 A P → ∀ (μ : xM) (L : xL) (st : List Value) (B : xH), I3 a0 a1 A P μ L st B → k_X12_four_3 P (xB (I3 a0 a1 A P) μ) L st B) : xCon l yX12_four cX12_four 3 none 0 0 xN xN 0 xFT xFT (w_RI f) := by
  refine xc_RI (plainFor_of_name pn_RX12) (by decide +kernel) (fun p e s m args below meth c g a0 a1 A P h X hr _ => ?_)
  have h3 := x_loop1 (p := p) (l := l) (e := e) (R := { frames := 0, cells := 0, slots := 0, locals := 0 }) (s := s) (m := m) (args := args) (below := below) (meth := meth) (c := c) (g := g) (nL := 3) (F := xFT) (n := xN) (cells := 0) (slots := 0) (Q := MQ below (xQc g xFT xN P) args s 0 0 (xFr g)) (I := I3 a0 a1 A P) (pc1 := 3) (fun μ i3 => xAt_mono (t_X12_four_3 (P := P) X hr i3) (v3 a0 a1 A P h μ))
  exact ⟨_, v0 a0 a1 A P h, t_X12_four_0 X hr h3⟩
def f_X9_put (q : Nat) (x : Int32) (A : xH) (P : xP) : Prop := q = 1 ∧ ∃ f n, isT A f n ∧ n + 4 ≤ 940 ∧ ∀ B, isT B (app4 f n x) (n + 4) → xoff A B 1 2 → (∀ k, k ≠ 1 → xi B 1 k = xi A 1 k) → (∀ k, xl B 1 k = xl A 1 k) → P none B
def sh4 (i : Nat) : Int32 := match i with
  | 0 => 24
  | 1 => 16
  | 2 => 8
  | 3 => 0
  | _ => -8
theorem sh4_xb (x : Int32) {i : Nat} (h : i < 4) : xius x (sh4 i) &&& 255 = nI (xb x (24 - 8 * i)) := by
  rcases (show i = 0 ∨ i = 1 ∨ i = 2 ∨ i = 3 by omega) with rfl | rfl | rfl | rfl
  · exact ush24 x
  · exact ush16 x
  · exact ush08 x
  · exact ush00 x
theorem sh4_sg (x : Int32) {i : Nat} (h : i < 4) : (x >>> (sh4 i &&& 31)).toInt8.toInt32 = sg (xb x (24 - 8 * i)) := by
  rcases (show i = 0 ∨ i = 1 ∨ i = 2 ∨ i = 3 by omega) with rfl | rfl | rfl | rfl
  · exact shr24 x
  · exact shr16 x
  · exact shr08 x
  · exact shr00 x
theorem sh4_next {i : Nat} (h : i < 4) : sh4 i + (-8) = sh4 (i + 1) := by
  rcases (show i = 0 ∨ i = 1 ∨ i = 2 ∨ i = 3 by omega) with rfl | rfl | rfl | rfl <;> decide +kernel
theorem sh4_pos {i : Nat} (h : i ≤ 4) : ¬ sh4 i < 0 ↔ i < 4 := by
  rcases (show i = 0 ∨ i = 1 ∨ i = 2 ∨ i = 3 ∨ i = 4 by omega) with rfl | rfl | rfl | rfl | rfl <;> decide +kernel
/-- i of the four bytes -/
def appi (f : Nat → Nat) (n : Nat) (x : Int32) (i : Nat) : Nat → Nat := fun j => if n ≤ j ∧ j < n + i then xb x (24 - 8 * (j - n)) else f j
theorem appi4 (f : Nat → Nat) (n : Nat) (x : Int32) : appi f n x 4 = app4 f n x := by
  funext j
  unfold appi app4
  by_cases h : n ≤ j ∧ j < n + 4
  · rw [if_pos h]
    rcases (show j = n ∨ j = n + 1 ∨ j = n + 2 ∨ j = n + 3 by omega) with rfl | rfl | rfl | rfl
    · simp
    · rw [if_neg (by omega), if_pos rfl]; congr 1; omega
    · rw [if_neg (by omega), if_neg (by omega), if_pos rfl]; congr 1; omega
    · rw [if_neg (by omega), if_neg (by omega), if_neg (by omega), if_pos rfl]; congr 1; omega
  · rw [if_neg h, if_neg (by omega), if_neg (by omega), if_neg (by omega), if_neg (by omega)]
theorem con_X9_put (l : Launch) : xCon l yX9_put cX9_put 3 none 0 0 xN xN 0 xFT xFT (w_RI f_X9_put) := by
  refine m_X9_put (I3 := fun q x A P μ L st B => ∃ f n i, n + 4 ≤ 940 ∧ (∀ B, isT B (app4 f n x) (n + 4) → xoff A B 1 2 → (∀ k, k ≠ 1 → xi B 1 k = xi A 1 k) → (∀ k, xl B 1 k = xl A 1 k) → P none B) ∧ i ≤ 4 ∧ isT B (appi f n x i) (n + i) ∧ xoff A B 1 2 ∧ (∀ k, k ≠ 1 → xi B 1 k = xi A 1 k) ∧ (∀ k, xl B 1 k = xl A 1 k) ∧ st = [] ∧ L = [some (.ref 1), some (.int x), some (.int (sh4 i))] ∧ μ = (4 - i, 0, 0)) ?_ ?_
  · rintro q x A P ⟨rfl, f, n, hT, hn, hP⟩
    simp only [k_X9_put_0, k_X9_put_3, k_X9_put_45, x_aload, x_dup, x_iadd, x_iand, x_icmp_ge, x_if_lt, x_iinc, x_iload, x_istore, x_iushr, x_push, x_vret, y_alen, y_getF, y_getI, y_iast, y_putI, xFT, xbool0, xbool1, Nat.reduceAdd, Nat.zero_add, xgl_0, xgl_s, xgl_n, xst_0, xst_1n, xst_1i, xst_1r, xst_1l, xst_s, set_0, set_s, true_and, and_true, xres, xcat_nil, xcat_i, xcat_r, xcat_l, Nat.add_zero, xble0, xble1, xble2, xble3, xble4, xble5, xble6, xble7, xble8]
    refine xE0 (4, 0, 0) ⟨f, n, 0, hn, hP, by omega, ?_, xoff_rf, fun _ _ => rfl, fun _ => rfl, rfl, rfl, rfl⟩
    have : appi f n x 0 = f := by
      funext j
      unfold appi
      rw [if_neg (by omega)]
    rw [this]
    exact hT
  · rintro q x A P - μ L st B ⟨f, n, i, hn, hP, hi, hT, hf, h1, h2, rfl, rfl, rfl⟩
    have hT0 := hT
    obtain ⟨e1, e2, e3⟩ := hT
    simp only [k_X9_put_0, k_X9_put_3, k_X9_put_45, x_aload, x_dup, x_iadd, x_iand, x_icmp_ge, x_if_lt, x_iinc, x_iload, x_istore, x_iushr, x_push, x_vret, y_alen, y_getF, y_getI, y_iast, y_putI, xFT, xbool0, xbool1, Nat.reduceAdd, Nat.zero_add, xgl_0, xgl_s, xgl_n, xst_0, xst_1n, xst_1i, xst_1r, xst_1l, xst_s, set_0, set_s, true_and, and_true, xres, xcat_nil, xcat_i, xcat_r, xcat_l, Nat.add_zero, xble0, xble1, xble2, xble3, xble4, xble5, xble6, xble7, xble8, e1, xi_si, show ¬ (1 : Nat) = 2 by omega, false_and, if_false, show Int32.ofNat 940 = nI 940 from rfl]
    refine ⟨fun h => ?_, fun h => ?_⟩
    · have h4 : ¬ i < 4 := fun q => (sh4_pos hi).mpr q h
      have : i = 4 := by omega
      subst this
      rw [appi4] at hT0
      exact hP B hT0 hf h1 h2
    · have h4 := (sh4_pos hi).mp h
      refine ⟨fun h5 => ?_, fun h5 => ?_⟩
      · simp (disch := omega) only [Int32.lt_iff_toInt_lt, Int32.le_iff_toInt_le, ← Int32.toInt_inj, nI_toInt, Int32.reduceToInt, n_m1, ne_eq, not_true_eq_false, not_false_eq_true] at h5
        omega
      · rw [sh4_xb x h4, n_cl (by omega), sh4_next h4, nI_1]
        refine ⟨(n_in (by omega) (by omega)).mpr (by omega), xB1 (b := 4 - (i + 1)) (by omega) ⟨f, n, i + 1, hn, hP, by omega, ⟨?_, by omega, fun j hj => ?_⟩, xoff_si (xoff_si hf (by omega) (by omega)) (by omega) (by omega), fun k hk => ?_, fun k => ?_, rfl, rfl, rfl⟩⟩
        · rw [si_eq, Nat.add_assoc]
        · rw [si_ne (by omega), xi_si]
          unfold appi
          by_cases e : j = n + i
          · subst e
            rw [if_pos ⟨rfl, rfl⟩, if_pos (by omega), show n + i - n = i by omega]
            exact ⟨rfl, xb_lt _ _⟩
          · rw [if_neg (fun a => e a.2)]
            have := e3 j (by omega)
            unfold appi at this
            by_cases e5 : n ≤ j ∧ j < n + i
            · rw [if_pos e5] at this
              rw [if_pos (by omega)]
              exact this
            · rw [if_neg e5] at this
              rw [if_neg (by omega)]
              exact this
        · rw [si_ne (by omega), si_ne (by omega)]; exact h1 k hk
        · rw [xl_si, xl_si]; exact h2 k
def f_X12_four (q : Nat) (x : Int32) (A : xH) (P : xP) : Prop := q = 180 ∧ ∃ f n, isU A f n ∧ n + 4 ≤ 940 ∧ ∀ B, isU B (app4 f n x) (n + 4) → xoff A B 180 181 → (∀ k, k ≠ 1 → xi B 180 k = xi A 180 k) → (∀ k, xl B 180 k = xl A 180 k) → P none B
theorem con_X12_four (l : Launch) : xCon l yX12_four cX12_four 3 none 0 0 xN xN 0 xFT xFT (w_RI f_X12_four) := by
  refine m_X12_four (I3 := fun q x A P μ L st B => ∃ f n i, n + 4 ≤ 940 ∧ (∀ B, isU B (app4 f n x) (n + 4) → xoff A B 180 181 → (∀ k, k ≠ 1 → xi B 180 k = xi A 180 k) → (∀ k, xl B 180 k = xl A 180 k) → P none B) ∧ i ≤ 4 ∧ isU B (appi f n x i) (n + i) ∧ xoff A B 180 181 ∧ (∀ k, k ≠ 1 → xi B 180 k = xi A 180 k) ∧ (∀ k, xl B 180 k = xl A 180 k) ∧ st = [] ∧ L = [some (.ref 180), some (.int x), some (.int (sh4 i))] ∧ μ = (4 - i, 0, 0)) ?_ ?_
  · rintro q x A P ⟨rfl, f, n, hT, hn, hP⟩
    simp only [k_X12_four_0, k_X12_four_3, x_aload, x_dup, x_i2b, x_iadd, x_if_lt, x_iinc, x_iload, x_ishr, x_istore, x_push, x_vret, y_bast, y_getF, y_getI, y_putI, xFT, xbool0, xbool1, Nat.reduceAdd, Nat.zero_add, xgl_0, xgl_s, xgl_n, xst_0, xst_1n, xst_1i, xst_1r, xst_1l, xst_s, set_0, set_s, true_and, and_true, xres, xcat_nil, xcat_i, xcat_r, xcat_l, Nat.add_zero, xble0, xble1, xble2, xble3, xble4, xble5, xble6, xble7, xble8]
    refine xE0 (4, 0, 0) ⟨f, n, 0, hn, hP, by omega, ?_, xoff_rf, fun _ _ => rfl, fun _ => rfl, rfl, rfl, rfl⟩
    have : appi f n x 0 = f := by
      funext j
      unfold appi
      rw [if_neg (by omega)]
    rw [this]
    exact hT
  · rintro q x A P - μ L st B ⟨f, n, i, hn, hP, hi, hT, hf, h1, h2, rfl, rfl, rfl⟩
    have hT0 := hT
    obtain ⟨e1, e2, e3⟩ := hT
    simp only [k_X12_four_0, k_X12_four_3, x_aload, x_dup, x_i2b, x_iadd, x_if_lt, x_iinc, x_iload, x_ishr, x_istore, x_push, x_vret, y_bast, y_getF, y_getI, y_putI, xFT, xbool0, xbool1, Nat.reduceAdd, Nat.zero_add, xgl_0, xgl_s, xgl_n, xst_0, xst_1n, xst_1i, xst_1r, xst_1l, xst_s, set_0, set_s, true_and, and_true, xres, xcat_nil, xcat_i, xcat_r, xcat_l, Nat.add_zero, xble0, xble1, xble2, xble3, xble4, xble5, xble6, xble7, xble8, e1, xi_si, show ¬ (180 : Nat) = 181 by omega, false_and, if_false, xaty]
    refine ⟨fun h => ?_, fun h => ?_⟩
    · have h4 : ¬ i < 4 := fun q => (sh4_pos hi).mpr q h
      have : i = 4 := by omega
      subst this
      rw [appi4] at hT0
      exact hP B hT0 hf h1 h2
    · have h4 := (sh4_pos hi).mp h
      rw [sh4_sg x h4, sg_nar, n_cl (by omega), sh4_next h4, nI_1]
      refine ⟨(n_in (by omega) (by omega)).mpr (by omega), xB1 (b := 4 - (i + 1)) (by omega) ⟨f, n, i + 1, hn, hP, by omega, ⟨?_, by omega, fun j hj => ?_⟩, xoff_si (xoff_si hf (by omega) (by omega)) (by omega) (by omega), fun k hk => ?_, fun k => ?_, rfl, rfl, rfl⟩⟩
      · rw [si_eq, Nat.add_assoc]
      · rw [si_ne (by omega), xi_si]
        unfold appi
        by_cases e : j = n + i
        · subst e
          rw [if_pos ⟨rfl, rfl⟩, if_pos (by omega), show n + i - n = i by omega]
          exact ⟨rfl, xb_lt _ _⟩
        · rw [if_neg (fun a => e a.2)]
          have := e3 j (by omega)
          unfold appi at this
          by_cases e5 : n ≤ j ∧ j < n + i
          · rw [if_pos e5] at this
            rw [if_pos (by omega)]
            exact this
          · rw [if_neg e5] at this
            rw [if_neg (by omega)]
            exact this
      · rw [si_ne (by omega), si_ne (by omega)]; exact h1 k hk
      · rw [xl_si, xl_si]; exact h2 k

