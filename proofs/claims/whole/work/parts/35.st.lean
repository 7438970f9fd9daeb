/-! ===== the reference: classes, deeds, what is kept ===== -/
theorem d_X12_isItem_0 : decode cX12_isItem 0 = .ok (.aload_n 0, 1) := by decide +kernel
theorem d_X12_isItem_1 : decode cX12_isItem 1 = .ok (.invokevirtual 338, 3) := by decide +kernel
theorem d_X12_isItem_4 : decode cX12_isItem 4 = .ok (.iload_n 1, 1) := by decide +kernel
theorem d_X12_isItem_5 : decode cX12_isItem 5 = .ok (.iconst 0, 1) := by decide +kernel
theorem d_X12_isItem_6 : decode cX12_isItem 6 = .ok (.aload_n 0, 1) := by decide +kernel
theorem d_X12_isItem_7 : decode cX12_isItem 7 = .ok (.getfield 328, 3) := by decide +kernel
theorem d_X12_isItem_10 : decode cX12_isItem 10 = .ok (.iconst 1, 1) := by decide +kernel
theorem d_X12_isItem_11 : decode cX12_isItem 11 = .ok (.isub, 1) := by decide +kernel
theorem d_X12_isItem_12 : decode cX12_isItem 12 = .ok (.invokestatic 264, 3) := by decide +kernel
theorem d_X12_isItem_15 : decode cX12_isItem 15 = .ok (.ireturn, 1) := by decide +kernel
def k_X12_isItem_0 (P : xP) : xK := x_aload 0 (y_cv0 180 (w_R f_X12_laysItems) (x_iload 1 (x_push (.int 0) (x_aload 0 (y_getI 180 24 (x_push (.int 1) (x_isub (x_cs3 (w_III f_X12_isIn) (x_zret P)))))))))
set_option maxRecDepth 20000 in
theorem t_X12_isItem_0 {p : Program} {l : Launch} {e : Env} {s : State} {m : MethodId} {args : Array Value} {below : List Frame} {meth : Method} {c : Code} {g : xG} (X : xX p s m args c meth cX12_isItem RX12 2 g) (hr : meth.sig.returnType = (some .boolean)) {P : xP} : xAt p l e { frames := 2, cells := 0, slots := 0, locals := 44 } s m args below meth c g 2 xFT xN 0 0 (MQ below (xQc g xFT xN P) args s 0 0 (xFr g)) (k_X12_isItem_0 P) 0 := by
  unfold k_X12_isItem_0
  refine r_aload_n (pc := 0) X d_X12_isItem_0 fn0 ?_
  refine s_cv0 (pc := 1) (ci := 12) X xok12 (by decide +kernel) ob_180 rfl (con_X12_laysItems l) mf_X12_laysItems ml_RX12_338 (by decide +kernel) (by decide +kernel) d_X12_isItem_1 ?_
  refine r_iload_n (pc := 4) X d_X12_isItem_4 fn1 ?_
  refine r_iconst (pc := 5) X d_X12_isItem_5 (by decide +kernel) ?_
  refine r_aload_n (pc := 6) X d_X12_isItem_6 fn0 ?_
  refine s_getI (pc := 7) (ci := 12) X xok12 (by decide +kernel) ob_180 (by decide +kernel) fl_RX12_328 d_X12_isItem_7 ?_
  refine r_iconst (pc := 10) X d_X12_isItem_10 (by decide +kernel) ?_
  refine r_isub (pc := 11) X d_X12_isItem_11 ?_
  refine r_cs3 (pc := 12) X (con_X12_isIn l) sf_X12_isIn ml_RX12_264 (by decide +kernel) (by decide +kernel) d_X12_isItem_12 ?_
  exact r_zret (pc := 15) X hr d_X12_isItem_15
def f_X12_isItem (a0 : Nat) (a1 : Int32) (A : xH) (P : xP) : Prop := k_X12_isItem_0 P [some (.ref a0), some (.int a1)] [] A
set_option maxRecDepth 20000 in
theorem con_X12_isItem (l : Launch) : xCon l yX12_isItem cX12_isItem 2 (some .boolean) 2 44 xN xN 0 xFT xFT (w_RI f_X12_isItem) :=
  xc_RI (plainFor_of_name pn_RX12) (by decide +kernel) (fun p e s m args below meth c g a0 a1 A P h X hr _ => ⟨_, h, t_X12_isItem_0 X hr⟩)
theorem d_X12_classes_0 : decode cX12_classes 0 = .ok (.aload_n 0, 1) := by decide +kernel
theorem d_X12_classes_1 : decode cX12_classes 1 = .ok (.invokevirtual 338, 3) := by decide +kernel
theorem d_X12_classes_4 : decode cX12_classes 4 = .ok (.iconst 0, 1) := by decide +kernel
theorem d_X12_classes_5 : decode cX12_classes 5 = .ok (.istore_n 1, 1) := by decide +kernel
theorem d_X12_classes_6 : decode cX12_classes 6 = .ok (.iconst 0, 1) := by decide +kernel
theorem d_X12_classes_7 : decode cX12_classes 7 = .ok (.istore_n 2, 1) := by decide +kernel
theorem d_X12_classes_8 : decode cX12_classes 8 = .ok (.iload_n 2, 1) := by decide +kernel
theorem d_X12_classes_9 : decode cX12_classes 9 = .ok (.aload_n 0, 1) := by decide +kernel
theorem d_X12_classes_10 : decode cX12_classes 10 = .ok (.getfield 328, 3) := by decide +kernel
theorem d_X12_classes_13 : decode cX12_classes 13 = .ok (.if_icmp .ge 30, 3) := by decide +kernel
theorem d_X12_classes_16 : decode cX12_classes 16 = .ok (.iload_n 1, 1) := by decide +kernel
theorem d_X12_classes_17 : decode cX12_classes 17 = .ok (.aload_n 0, 1) := by decide +kernel
theorem d_X12_classes_18 : decode cX12_classes 18 = .ok (.getfield 30, 3) := by decide +kernel
theorem d_X12_classes_21 : decode cX12_classes 21 = .ok (.bipush 54, 2) := by decide +kernel
theorem d_X12_classes_23 : decode cX12_classes 23 = .ok (.iload_n 2, 1) := by decide +kernel
theorem d_X12_classes_24 : decode cX12_classes 24 = .ok (.iadd, 1) := by decide +kernel
theorem d_X12_classes_25 : decode cX12_classes 25 = .ok (.iaload, 1) := by decide +kernel
theorem d_X12_classes_26 : decode cX12_classes 26 = .ok (.iload_n 2, 1) := by decide +kernel
theorem d_X12_classes_27 : decode cX12_classes 27 = .ok (.if_icmp .ne 7, 3) := by decide +kernel
theorem d_X12_classes_30 : decode cX12_classes 30 = .ok (.iconst 1, 1) := by decide +kernel
theorem d_X12_classes_31 : decode cX12_classes 31 = .ok (.goto 4, 3) := by decide +kernel
theorem d_X12_classes_34 : decode cX12_classes 34 = .ok (.iconst 0, 1) := by decide +kernel
theorem d_X12_classes_35 : decode cX12_classes 35 = .ok (.iadd, 1) := by decide +kernel
theorem d_X12_classes_36 : decode cX12_classes 36 = .ok (.istore_n 1, 1) := by decide +kernel
theorem d_X12_classes_37 : decode cX12_classes 37 = .ok (.iinc 2 1, 3) := by decide +kernel
theorem d_X12_classes_40 : decode cX12_classes 40 = .ok (.goto (-32), 3) := by decide +kernel
theorem d_X12_classes_43 : decode cX12_classes 43 = .ok (.iload_n 1, 1) := by decide +kernel
theorem d_X12_classes_44 : decode cX12_classes 44 = .ok (.ireturn, 1) := by decide +kernel
def k_X12_classes_0 (P : xP) (C8 : xK) : xK := x_aload 0 (y_cv0 180 (w_R f_X12_laysItems) (x_push (.int 0) (x_istore 1 (x_push (.int 0) (x_istore 2 (C8))))))
set_option maxRecDepth 20000 in
theorem t_X12_classes_0 {p : Program} {l : Launch} {e : Env} {s : State} {m : MethodId} {args : Array Value} {below : List Frame} {meth : Method} {c : Code} {g : xG} (X : xX p s m args c meth cX12_classes RX12 3 g) (hr : meth.sig.returnType = (some .int)) {P : xP} {C8 : xK} (h8 : xAt p l e { frames := 2, cells := 0, slots := 0, locals := 44 } s m args below meth c g 3 xFT xN 0 0 (MQ below (xQc g xFT xN P) args s 0 0 (xFr g)) C8 8) : xAt p l e { frames := 2, cells := 0, slots := 0, locals := 44 } s m args below meth c g 3 xFT xN 0 0 (MQ below (xQc g xFT xN P) args s 0 0 (xFr g)) (k_X12_classes_0 P C8) 0 := by
  unfold k_X12_classes_0
  refine r_aload_n (pc := 0) X d_X12_classes_0 fn0 ?_
  refine s_cv0 (pc := 1) (ci := 12) X xok12 (by decide +kernel) ob_180 rfl (con_X12_laysItems l) mf_X12_laysItems ml_RX12_338 (by decide +kernel) (by decide +kernel) d_X12_classes_1 ?_
  refine r_iconst (pc := 4) X d_X12_classes_4 (by decide +kernel) ?_
  refine r_istore_n (pc := 5) X d_X12_classes_5 fn1 (by decide +kernel) ?_
  refine r_iconst (pc := 6) X d_X12_classes_6 (by decide +kernel) ?_
  refine r_istore_n (pc := 7) X d_X12_classes_7 fn2 (by decide +kernel) ?_
  exact h8
def k_X12_classes_35 (P : xP) (C8 : xK) : xK := x_iadd (x_istore 1 (x_iinc 2 1 (C8)))
set_option maxRecDepth 20000 in
theorem t_X12_classes_35 {p : Program} {l : Launch} {e : Env} {s : State} {m : MethodId} {args : Array Value} {below : List Frame} {meth : Method} {c : Code} {g : xG} (X : xX p s m args c meth cX12_classes RX12 3 g) (hr : meth.sig.returnType = (some .int)) {P : xP} {C8 : xK} (h8 : xAt p l e { frames := 2, cells := 0, slots := 0, locals := 44 } s m args below meth c g 3 xFT xN 0 0 (MQ below (xQc g xFT xN P) args s 0 0 (xFr g)) C8 8) : xAt p l e { frames := 2, cells := 0, slots := 0, locals := 44 } s m args below meth c g 3 xFT xN 0 0 (MQ below (xQc g xFT xN P) args s 0 0 (xFr g)) (k_X12_classes_35 P C8) 35 := by
  unfold k_X12_classes_35
  refine r_iadd (pc := 35) X d_X12_classes_35 ?_
  refine r_istore_n (pc := 36) X d_X12_classes_36 fn1 (by decide +kernel) ?_
  refine r_iinc (pc := 37) X d_X12_classes_37 (by decide +kernel) (by decide +kernel) ?_
  refine r_goto (pc := 40) (tgt := 8) X d_X12_classes_40 (by decide +kernel) ?_
  exact h8
def k_X12_classes_8 (P : xP) (C8 : xK) : xK := x_iload 2 (x_aload 0 (y_getI 180 24 (x_icmp_ge (x_iload 1 (x_iret P)) (x_iload 1 (x_aload 0 (y_getF 180 182 (x_push (.int 54) (x_iload 2 (x_iadd (y_iald 182 232 (x_iload 2 (x_icmp_ne (x_push (.int 0) ((k_X12_classes_35 P C8))) (x_push (.int 1) ((k_X12_classes_35 P C8)))))))))))))))
set_option maxRecDepth 20000 in
theorem t_X12_classes_8 {p : Program} {l : Launch} {e : Env} {s : State} {m : MethodId} {args : Array Value} {below : List Frame} {meth : Method} {c : Code} {g : xG} (X : xX p s m args c meth cX12_classes RX12 3 g) (hr : meth.sig.returnType = (some .int)) {P : xP} {C8 : xK} (h8 : xAt p l e { frames := 2, cells := 0, slots := 0, locals := 44 } s m args below meth c g 3 xFT xN 0 0 (MQ below (xQc g xFT xN P) args s 0 0 (xFr g)) C8 8) : xAt p l e { frames := 2, cells := 0, slots := 0, locals := 44 } s m args below meth c g 3 xFT xN 0 0 (MQ below (xQc g xFT xN P) args s 0 0 (xFr g)) (k_X12_classes_8 P C8) 8 := by
  unfold k_X12_classes_8
  refine r_iload_n (pc := 8) X d_X12_classes_8 fn2 ?_
  refine r_aload_n (pc := 9) X d_X12_classes_9 fn0 ?_
  refine s_getI (pc := 10) (ci := 12) X xok12 (by decide +kernel) ob_180 (by decide +kernel) fl_RX12_328 d_X12_classes_10 ?_
  refine r_icmp_ge (pc := 13) (tgt := 43) X d_X12_classes_13 (by decide +kernel) ?_ ?_
  · refine r_iload_n (pc := 43) X d_X12_classes_43 fn1 ?_
    exact r_iret (pc := 44) X hr d_X12_classes_44
  · refine r_iload_n (pc := 16) X d_X12_classes_16 fn1 ?_
    refine r_aload_n (pc := 17) X d_X12_classes_17 fn0 ?_
    refine s_getF (pc := 18) (ci := 12) (k := 5) X xok12 (by decide +kernel) ob_180 trivial ly_180_5 (by decide +kernel) fl_RX12_30 d_X12_classes_18 ?_
    refine r_bipush (pc := 21) X d_X12_classes_21 (by decide +kernel) ?_
    refine r_iload_n (pc := 23) X d_X12_classes_23 fn2 ?_
    refine r_iadd (pc := 24) X d_X12_classes_24 ?_
    refine s_iald (pc := 25) X tn_182 ln_182 d_X12_classes_25 ?_
    refine r_iload_n (pc := 26) X d_X12_classes_26 fn2 ?_
    refine r_icmp_ne (pc := 27) (tgt := 34) X d_X12_classes_27 (by decide +kernel) ?_ ?_
    · refine r_iconst (pc := 34) X d_X12_classes_34 (by decide +kernel) ?_
      exact t_X12_classes_35 X hr h8
    · refine r_iconst (pc := 30) X d_X12_classes_30 (by decide +kernel) ?_
      refine r_goto (pc := 31) (tgt := 35) X d_X12_classes_31 (by decide +kernel) ?_
      exact t_X12_classes_35 X hr h8
set_option maxRecDepth 20000 in
theorem m_X12_classes {l : Launch} {f : Nat → xH → xP → Prop}  {I8 : Nat → xH → xP → xM → xK}
    (v0 : ∀ (a0 : Nat) (A : xH) (P : xP), f a0 A P → k_X12_classes_0 P (xE (I8 a0 A P)) [some (.ref a0), none, none] [] A)
    (v8 : ∀ (a0 : Nat) (A : xH) (P : xP), f a0 A P → ∀ (μ : xM) (L : xL) (st : List Value) (B : xH), I8 a0 A P μ L st B → k_X12_classes_8 P (xB (I8 a0 A P) μ) L st B) : xCon l yX12_classes cX12_classes 3 (some .int) 2 44 xN xN 0 xFT xFT (w_R f) := by
  refine xc_R (plainFor_of_name pn_RX12) (by decide +kernel) (fun p e s m args below meth c g a0 A P h X hr _ => ?_)
  have h8 := x_loop1 (p := p) (l := l) (e := e) (R := { frames := 2, cells := 0, slots := 0, locals := 44 }) (s := s) (m := m) (args := args) (below := below) (meth := meth) (c := c) (g := g) (nL := 3) (F := xFT) (n := xN) (cells := 0) (slots := 0) (Q := MQ below (xQc g xFT xN P) args s 0 0 (xFr g)) (I := I8 a0 A P) (pc1 := 8) (fun μ i8 => xAt_mono (t_X12_classes_8 (P := P) X hr i8) (v8 a0 A P h μ))
  exact ⟨_, v0 a0 A P h, t_X12_classes_0 X hr h8⟩
theorem d_X12_inClass_0 : decode cX12_inClass 0 = .ok (.iconst 0, 1) := by decide +kernel
theorem d_X12_inClass_1 : decode cX12_inClass 1 = .ok (.istore_n 2, 1) := by decide +kernel
theorem d_X12_inClass_2 : decode cX12_inClass 2 = .ok (.iconst 0, 1) := by decide +kernel
theorem d_X12_inClass_3 : decode cX12_inClass 3 = .ok (.istore_n 3, 1) := by decide +kernel
theorem d_X12_inClass_4 : decode cX12_inClass 4 = .ok (.iload_n 3, 1) := by decide +kernel
theorem d_X12_inClass_5 : decode cX12_inClass 5 = .ok (.aload_n 0, 1) := by decide +kernel
theorem d_X12_inClass_6 : decode cX12_inClass 6 = .ok (.getfield 328, 3) := by decide +kernel
theorem d_X12_inClass_9 : decode cX12_inClass 9 = .ok (.if_icmp .ge 30, 3) := by decide +kernel
theorem d_X12_inClass_12 : decode cX12_inClass 12 = .ok (.iload_n 2, 1) := by decide +kernel
theorem d_X12_inClass_13 : decode cX12_inClass 13 = .ok (.aload_n 0, 1) := by decide +kernel
theorem d_X12_inClass_14 : decode cX12_inClass 14 = .ok (.getfield 30, 3) := by decide +kernel
theorem d_X12_inClass_17 : decode cX12_inClass 17 = .ok (.bipush 54, 2) := by decide +kernel
theorem d_X12_inClass_19 : decode cX12_inClass 19 = .ok (.iload_n 3, 1) := by decide +kernel
theorem d_X12_inClass_20 : decode cX12_inClass 20 = .ok (.iadd, 1) := by decide +kernel
theorem d_X12_inClass_21 : decode cX12_inClass 21 = .ok (.iaload, 1) := by decide +kernel
theorem d_X12_inClass_22 : decode cX12_inClass 22 = .ok (.iload_n 1, 1) := by decide +kernel
theorem d_X12_inClass_23 : decode cX12_inClass 23 = .ok (.if_icmp .ne 7, 3) := by decide +kernel
theorem d_X12_inClass_26 : decode cX12_inClass 26 = .ok (.iconst 1, 1) := by decide +kernel
theorem d_X12_inClass_27 : decode cX12_inClass 27 = .ok (.goto 4, 3) := by decide +kernel
theorem d_X12_inClass_30 : decode cX12_inClass 30 = .ok (.iconst 0, 1) := by decide +kernel
theorem d_X12_inClass_31 : decode cX12_inClass 31 = .ok (.iadd, 1) := by decide +kernel
theorem d_X12_inClass_32 : decode cX12_inClass 32 = .ok (.istore_n 2, 1) := by decide +kernel
theorem d_X12_inClass_33 : decode cX12_inClass 33 = .ok (.iinc 3 1, 3) := by decide +kernel
theorem d_X12_inClass_36 : decode cX12_inClass 36 = .ok (.goto (-32), 3) := by decide +kernel
theorem d_X12_inClass_39 : decode cX12_inClass 39 = .ok (.iload_n 2, 1) := by decide +kernel
theorem d_X12_inClass_40 : decode cX12_inClass 40 = .ok (.ireturn, 1) := by decide +kernel
def k_X12_inClass_0 (P : xP) (C4 : xK) : xK := x_push (.int 0) (x_istore 2 (x_push (.int 0) (x_istore 3 (C4))))
set_option maxRecDepth 20000 in
theorem t_X12_inClass_0 {p : Program} {l : Launch} {e : Env} {s : State} {m : MethodId} {args : Array Value} {below : List Frame} {meth : Method} {c : Code} {g : xG} (X : xX p s m args c meth cX12_inClass RX12 4 g) (hr : meth.sig.returnType = (some .int)) {P : xP} {C4 : xK} (h4 : xAt p l e { frames := 0, cells := 0, slots := 0, locals := 0 } s m args below meth c g 4 xFT xN 0 0 (MQ below (xQc g xFT xN P) args s 0 0 (xFr g)) C4 4) : xAt p l e { frames := 0, cells := 0, slots := 0, locals := 0 } s m args below meth c g 4 xFT xN 0 0 (MQ below (xQc g xFT xN P) args s 0 0 (xFr g)) (k_X12_inClass_0 P C4) 0 := by
  unfold k_X12_inClass_0
  refine r_iconst (pc := 0) X d_X12_inClass_0 (by decide +kernel) ?_
  refine r_istore_n (pc := 1) X d_X12_inClass_1 fn2 (by decide +kernel) ?_
  refine r_iconst (pc := 2) X d_X12_inClass_2 (by decide +kernel) ?_
  refine r_istore_n (pc := 3) X d_X12_inClass_3 fn3 (by decide +kernel) ?_
  exact h4
def k_X12_inClass_31 (P : xP) (C4 : xK) : xK := x_iadd (x_istore 2 (x_iinc 3 1 (C4)))
set_option maxRecDepth 20000 in
theorem t_X12_inClass_31 {p : Program} {l : Launch} {e : Env} {s : State} {m : MethodId} {args : Array Value} {below : List Frame} {meth : Method} {c : Code} {g : xG} (X : xX p s m args c meth cX12_inClass RX12 4 g) (hr : meth.sig.returnType = (some .int)) {P : xP} {C4 : xK} (h4 : xAt p l e { frames := 0, cells := 0, slots := 0, locals := 0 } s m args below meth c g 4 xFT xN 0 0 (MQ below (xQc g xFT xN P) args s 0 0 (xFr g)) C4 4) : xAt p l e { frames := 0, cells := 0, slots := 0, locals := 0 } s m args below meth c g 4 xFT xN 0 0 (MQ below (xQc g xFT xN P) args s 0 0 (xFr g)) (k_X12_inClass_31 P C4) 31 := by
  unfold k_X12_inClass_31
  refine r_iadd (pc := 31) X d_X12_inClass_31 ?_
  refine r_istore_n (pc := 32) X d_X12_inClass_32 fn2 (by decide +kernel) ?_
  refine r_iinc (pc := 33) X d_X12_inClass_33 (by decide +kernel) (by decide +kernel) ?_
  refine r_goto (pc := 36) (tgt := 4) X d_X12_inClass_36 (by decide +kernel) ?_
  exact h4
def k_X12_inClass_4 (P : xP) (C4 : xK) : xK := x_iload 3 (x_aload 0 (y_getI 180 24 (x_icmp_ge (x_iload 2 (x_iret P)) (x_iload 2 (x_aload 0 (y_getF 180 182 (x_push (.int 54) (x_iload 3 (x_iadd (y_iald 182 232 (x_iload 1 (x_icmp_ne (x_push (.int 0) ((k_X12_inClass_31 P C4))) (x_push (.int 1) ((k_X12_inClass_31 P C4)))))))))))))))
set_option maxRecDepth 20000 in
theorem t_X12_inClass_4 {p : Program} {l : Launch} {e : Env} {s : State} {m : MethodId} {args : Array Value} {below : List Frame} {meth : Method} {c : Code} {g : xG} (X : xX p s m args c meth cX12_inClass RX12 4 g) (hr : meth.sig.returnType = (some .int)) {P : xP} {C4 : xK} (h4 : xAt p l e { frames := 0, cells := 0, slots := 0, locals := 0 } s m args below meth c g 4 xFT xN 0 0 (MQ below (xQc g xFT xN P) args s 0 0 (xFr g)) C4 4) : xAt p l e { frames := 0, cells := 0, slots := 0, locals := 0 } s m args below meth c g 4 xFT xN 0 0 (MQ below (xQc g xFT xN P) args s 0 0 (xFr g)) (k_X12_inClass_4 P C4) 4 := by
  unfold k_X12_inClass_4
  refine r_iload_n (pc := 4) X d_X12_inClass_4 fn3 ?_
  refine r_aload_n (pc := 5) X d_X12_inClass_5 fn0 ?_
  refine s_getI (pc := 6) (ci := 12) X xok12 (by decide +kernel) ob_180 (by decide +kernel) fl_RX12_328 d_X12_inClass_6 ?_
  refine r_icmp_ge (pc := 9) (tgt := 39) X d_X12_inClass_9 (by decide +kernel) ?_ ?_
  · refine r_iload_n (pc := 39) X d_X12_inClass_39 fn2 ?_
    exact r_iret (pc := 40) X hr d_X12_inClass_40
  · refine r_iload_n (pc := 12) X d_X12_inClass_12 fn2 ?_
    refine r_aload_n (pc := 13) X d_X12_inClass_13 fn0 ?_
    refine s_getF (pc := 14) (ci := 12) (k := 5) X xok12 (by decide +kernel) ob_180 trivial ly_180_5 (by decide +kernel) fl_RX12_30 d_X12_inClass_14 ?_
    refine r_bipush (pc := 17) X d_X12_inClass_17 (by decide +kernel) ?_
    refine r_iload_n (pc := 19) X d_X12_inClass_19 fn3 ?_
    refine r_iadd (pc := 20) X d_X12_inClass_20 ?_
    refine s_iald (pc := 21) X tn_182 ln_182 d_X12_inClass_21 ?_
    refine r_iload_n (pc := 22) X d_X12_inClass_22 fn1 ?_
    refine r_icmp_ne (pc := 23) (tgt := 30) X d_X12_inClass_23 (by decide +kernel) ?_ ?_
    · refine r_iconst (pc := 30) X d_X12_inClass_30 (by decide +kernel) ?_
      exact t_X12_inClass_31 X hr h4
    · refine r_iconst (pc := 26) X d_X12_inClass_26 (by decide +kernel) ?_
      refine r_goto (pc := 27) (tgt := 31) X d_X12_inClass_27 (by decide +kernel) ?_
      exact t_X12_inClass_31 X hr h4
set_option maxRecDepth 20000 in
theorem m_X12_inClass {l : Launch} {f : Nat → Int32 → xH → xP → Prop}  {I4 : Nat → Int32 → xH → xP → xM → xK}
    (v0 : ∀ (a0 : Nat) (a1 : Int32) (A : xH) (P : xP), f a0 a1 A P → k_X12_inClass_0 P (xE (I4 a0 a1 A P)) [some (.ref a0), some (.int a1), none, none] [] A)
    (v4 : ∀ (a0 : Nat) (a1 : Int32) (A : xH) (P : xP), f a0 a1 A P → ∀ (μ : xM) (L : xL) (st : List Value) (B : xH), I4 a0 a1 A P μ L st B → k_X12_inClass_4 P (xB (I4 a0 a1 A P) μ) L st B) : xCon l yX12_inClass cX12_inClass 4 (some .int) 0 0 xN xN 0 xFT xFT (w_RI f) := by
  refine xc_RI (plainFor_of_name pn_RX12) (by decide +kernel) (fun p e s m args below meth c g a0 a1 A P h X hr _ => ?_)
  have h4 := x_loop1 (p := p) (l := l) (e := e) (R := { frames := 0, cells := 0, slots := 0, locals := 0 }) (s := s) (m := m) (args := args) (below := below) (meth := meth) (c := c) (g := g) (nL := 4) (F := xFT) (n := xN) (cells := 0) (slots := 0) (Q := MQ below (xQc g xFT xN P) args s 0 0 (xFr g)) (I := I4 a0 a1 A P) (pc1 := 4) (fun μ i4 => xAt_mono (t_X12_inClass_4 (P := P) X hr i4) (v4 a0 a1 A P h μ))
  exact ⟨_, v0 a0 a1 A P h, t_X12_inClass_0 X hr h4⟩
theorem d_X12_depths_0 : decode cX12_depths 0 = .ok (.aload_n 0, 1) := by decide +kernel
theorem d_X12_depths_1 : decode cX12_depths 1 = .ok (.getfield 30, 3) := by decide +kernel
theorem d_X12_depths_4 : decode cX12_depths 4 = .ok (.iconst 3, 1) := by decide +kernel
theorem d_X12_depths_5 : decode cX12_depths 5 = .ok (.iaload, 1) := by decide +kernel
theorem d_X12_depths_6 : decode cX12_depths 6 = .ok (.iload_n 1, 1) := by decide +kernel
theorem d_X12_depths_7 : decode cX12_depths 7 = .ok (.if_icmp .ne 5, 3) := by decide +kernel
theorem d_X12_depths_10 : decode cX12_depths 10 = .ok (.iconst 1, 1) := by decide +kernel
theorem d_X12_depths_11 : decode cX12_depths 11 = .ok (.ireturn, 1) := by decide +kernel
theorem d_X12_depths_12 : decode cX12_depths 12 = .ok (.aload_n 0, 1) := by decide +kernel
theorem d_X12_depths_13 : decode cX12_depths 13 = .ok (.getfield 30, 3) := by decide +kernel
theorem d_X12_depths_16 : decode cX12_depths 16 = .ok (.iconst 3, 1) := by decide +kernel
theorem d_X12_depths_17 : decode cX12_depths 17 = .ok (.iload_n 1, 1) := by decide +kernel
theorem d_X12_depths_18 : decode cX12_depths 18 = .ok (.iastore, 1) := by decide +kernel
theorem d_X12_depths_19 : decode cX12_depths 19 = .ok (.aload_n 0, 1) := by decide +kernel
theorem d_X12_depths_20 : decode cX12_depths 20 = .ok (.invokevirtual 325, 3) := by decide +kernel
theorem d_X12_depths_23 : decode cX12_depths 23 = .ok (.iconst 0, 1) := by decide +kernel
theorem d_X12_depths_24 : decode cX12_depths 24 = .ok (.ireturn, 1) := by decide +kernel
def k_X12_depths_0 (P : xP) : xK := x_aload 0 (y_getF 180 182 (x_push (.int 3) (y_iald 182 232 (x_iload 1 (x_icmp_ne (x_aload 0 (y_getF 180 182 (x_push (.int 3) (x_iload 1 (y_iast 182 232 (x_aload 0 (y_cv0 180 (w_R f_X12_other) (x_push (.int 0) (x_iret P))))))))) (x_push (.int 1) (x_iret P)))))))
set_option maxRecDepth 20000 in
theorem t_X12_depths_0 {p : Program} {l : Launch} {e : Env} {s : State} {m : MethodId} {args : Array Value} {below : List Frame} {meth : Method} {c : Code} {g : xG} (X : xX p s m args c meth cX12_depths RX12 2 g) (hr : meth.sig.returnType = (some .int)) {P : xP} : xAt p l e { frames := 1, cells := 0, slots := 0, locals := 20 } s m args below meth c g 2 xFT xN 0 0 (MQ below (xQc g xFT xN P) args s 0 0 (xFr g)) (k_X12_depths_0 P) 0 := by
  unfold k_X12_depths_0
  refine r_aload_n (pc := 0) X d_X12_depths_0 fn0 ?_
  refine s_getF (pc := 1) (ci := 12) (k := 5) X xok12 (by decide +kernel) ob_180 trivial ly_180_5 (by decide +kernel) fl_RX12_30 d_X12_depths_1 ?_
  refine r_iconst (pc := 4) X d_X12_depths_4 (by decide +kernel) ?_
  refine s_iald (pc := 5) X tn_182 ln_182 d_X12_depths_5 ?_
  refine r_iload_n (pc := 6) X d_X12_depths_6 fn1 ?_
  refine r_icmp_ne (pc := 7) (tgt := 12) X d_X12_depths_7 (by decide +kernel) ?_ ?_
  · refine r_aload_n (pc := 12) X d_X12_depths_12 fn0 ?_
    refine s_getF (pc := 13) (ci := 12) (k := 5) X xok12 (by decide +kernel) ob_180 trivial ly_180_5 (by decide +kernel) fl_RX12_30 d_X12_depths_13 ?_
    refine r_iconst (pc := 16) X d_X12_depths_16 (by decide +kernel) ?_
    refine r_iload_n (pc := 17) X d_X12_depths_17 fn1 ?_
    refine s_iast (pc := 18) X tn_182 ln_182 d_X12_depths_18 ?_
    refine r_aload_n (pc := 19) X d_X12_depths_19 fn0 ?_
    refine s_cv0 (pc := 20) (ci := 12) X xok12 (by decide +kernel) ob_180 rfl (con_X12_other l) mf_X12_other ml_RX12_325 (by decide +kernel) (by decide +kernel) d_X12_depths_20 ?_
    refine r_iconst (pc := 23) X d_X12_depths_23 (by decide +kernel) ?_
    exact r_iret (pc := 24) X hr d_X12_depths_24
  · refine r_iconst (pc := 10) X d_X12_depths_10 (by decide +kernel) ?_
    exact r_iret (pc := 11) X hr d_X12_depths_11
def f_X12_depths (a0 : Nat) (a1 : Int32) (A : xH) (P : xP) : Prop := k_X12_depths_0 P [some (.ref a0), some (.int a1)] [] A
set_option maxRecDepth 20000 in
theorem con_X12_depths (l : Launch) : xCon l yX12_depths cX12_depths 2 (some .int) 1 20 xN xN 0 xFT xFT (w_RI f_X12_depths) :=
  xc_RI (plainFor_of_name pn_RX12) (by decide +kernel) (fun p e s m args below meth c g a0 a1 A P h X hr _ => ⟨_, h, t_X12_depths_0 X hr⟩)
theorem d_X12_copies_0 : decode cX12_copies 0 = .ok (.iconst 0, 1) := by decide +kernel
theorem d_X12_copies_1 : decode cX12_copies 1 = .ok (.istore_n 2, 1) := by decide +kernel
theorem d_X12_copies_2 : decode cX12_copies 2 = .ok (.iload_n 2, 1) := by decide +kernel
theorem d_X12_copies_3 : decode cX12_copies 3 = .ok (.bipush 94, 2) := by decide +kernel
theorem d_X12_copies_5 : decode cX12_copies 5 = .ok (.if_icmp .ge 20, 3) := by decide +kernel
theorem d_X12_copies_8 : decode cX12_copies 8 = .ok (.aload_n 1, 1) := by decide +kernel
theorem d_X12_copies_9 : decode cX12_copies 9 = .ok (.iload_n 2, 1) := by decide +kernel
theorem d_X12_copies_10 : decode cX12_copies 10 = .ok (.aload_n 0, 1) := by decide +kernel
theorem d_X12_copies_11 : decode cX12_copies 11 = .ok (.getfield 30, 3) := by decide +kernel
theorem d_X12_copies_14 : decode cX12_copies 14 = .ok (.iconst 2, 1) := by decide +kernel
theorem d_X12_copies_15 : decode cX12_copies 15 = .ok (.iload_n 2, 1) := by decide +kernel
theorem d_X12_copies_16 : decode cX12_copies 16 = .ok (.iadd, 1) := by decide +kernel
theorem d_X12_copies_17 : decode cX12_copies 17 = .ok (.iaload, 1) := by decide +kernel
theorem d_X12_copies_18 : decode cX12_copies 18 = .ok (.iastore, 1) := by decide +kernel
theorem d_X12_copies_19 : decode cX12_copies 19 = .ok (.iinc 2 1, 3) := by decide +kernel
theorem d_X12_copies_22 : decode cX12_copies 22 = .ok (.goto (-20), 3) := by decide +kernel
theorem d_X12_copies_25 : decode cX12_copies 25 = .ok (.return_, 1) := by decide +kernel
def k_X12_copies_0 (P : xP) (C2 : xK) : xK := x_push (.int 0) (x_istore 2 (C2))
set_option maxRecDepth 20000 in
theorem t_X12_copies_0 {p : Program} {l : Launch} {e : Env} {s : State} {m : MethodId} {args : Array Value} {below : List Frame} {meth : Method} {c : Code} {g : xG} (X : xX p s m args c meth cX12_copies RX12 3 g) (hr : meth.sig.returnType = none) {P : xP} {C2 : xK} (h2 : xAt p l e { frames := 0, cells := 0, slots := 0, locals := 0 } s m args below meth c g 3 xFT xN 0 0 (MQ below (xQc g xFT xN P) args s 0 0 (xFr g)) C2 2) : xAt p l e { frames := 0, cells := 0, slots := 0, locals := 0 } s m args below meth c g 3 xFT xN 0 0 (MQ below (xQc g xFT xN P) args s 0 0 (xFr g)) (k_X12_copies_0 P C2) 0 := by
  unfold k_X12_copies_0
  refine r_iconst (pc := 0) X d_X12_copies_0 (by decide +kernel) ?_
  refine r_istore_n (pc := 1) X d_X12_copies_1 fn2 (by decide +kernel) ?_
  exact h2
def k_X12_copies_2 (P : xP) (C2 : xK) : xK := x_iload 2 (x_push (.int 94) (x_icmp_ge (x_vret P) (x_aload 1 (x_iload 2 (x_aload 0 (y_getF 180 182 (x_push (.int 2) (x_iload 2 (x_iadd (y_iald 182 232 (x_iast xN (x_iinc 2 1 (C2)))))))))))))
set_option maxRecDepth 20000 in
theorem t_X12_copies_2 {p : Program} {l : Launch} {e : Env} {s : State} {m : MethodId} {args : Array Value} {below : List Frame} {meth : Method} {c : Code} {g : xG} (X : xX p s m args c meth cX12_copies RX12 3 g) (hr : meth.sig.returnType = none) {P : xP} {C2 : xK} (h2 : xAt p l e { frames := 0, cells := 0, slots := 0, locals := 0 } s m args below meth c g 3 xFT xN 0 0 (MQ below (xQc g xFT xN P) args s 0 0 (xFr g)) C2 2) : xAt p l e { frames := 0, cells := 0, slots := 0, locals := 0 } s m args below meth c g 3 xFT xN 0 0 (MQ below (xQc g xFT xN P) args s 0 0 (xFr g)) (k_X12_copies_2 P C2) 2 := by
  unfold k_X12_copies_2
  refine r_iload_n (pc := 2) X d_X12_copies_2 fn2 ?_
  refine r_bipush (pc := 3) X d_X12_copies_3 (by decide +kernel) ?_
  refine r_icmp_ge (pc := 5) (tgt := 25) X d_X12_copies_5 (by decide +kernel) ?_ ?_
  · exact r_vret (pc := 25) X hr d_X12_copies_25
  · refine r_aload_n (pc := 8) X d_X12_copies_8 fn1 ?_
    refine r_iload_n (pc := 9) X d_X12_copies_9 fn2 ?_
    refine r_aload_n (pc := 10) X d_X12_copies_10 fn0 ?_
    refine s_getF (pc := 11) (ci := 12) (k := 5) X xok12 (by decide +kernel) ob_180 trivial ly_180_5 (by decide +kernel) fl_RX12_30 d_X12_copies_11 ?_
    refine r_iconst (pc := 14) X d_X12_copies_14 (by decide +kernel) ?_
    refine r_iload_n (pc := 15) X d_X12_copies_15 fn2 ?_
    refine r_iadd (pc := 16) X d_X12_copies_16 ?_
    refine s_iald (pc := 17) X tn_182 ln_182 d_X12_copies_17 ?_
    refine r_iast (pc := 18) X d_X12_copies_18 ?_
    refine r_iinc (pc := 19) X d_X12_copies_19 (by decide +kernel) (by decide +kernel) ?_
    refine r_goto (pc := 22) (tgt := 2) X d_X12_copies_22 (by decide +kernel) ?_
    exact h2
set_option maxRecDepth 20000 in
theorem m_X12_copies {l : Launch} {f : Nat → Nat → xH → xP → Prop}  {I2 : Nat → Nat → xH → xP → xM → xK}
    (v0 : ∀ (a0 : Nat) (a1 : Nat) (A : xH) (P : xP), f a0 a1 A P → k_X12_copies_0 P (xE (I2 a0 a1 A P)) [some (.ref a0), some (.ref a1), none] [] A)
    (v2 : ∀ (a0 : Nat) (a1 : Nat) (A : xH) (P : xP), f a0 a1 A P → ∀ (μ : xM) (L : xL) (st : List Value) (B : xH), I2 a0 a1 A P μ L st B → k_X12_copies_2 P (xB (I2 a0 a1 A P) μ) L st B) : xCon l yX12_copies cX12_copies 3 none 0 0 xN xN 0 xFT xFT (w_RR f) := by
  refine xc_RR (plainFor_of_name pn_RX12) (by decide +kernel) (fun p e s m args below meth c g a0 a1 A P h X hr _ => ?_)
  have h2 := x_loop1 (p := p) (l := l) (e := e) (R := { frames := 0, cells := 0, slots := 0, locals := 0 }) (s := s) (m := m) (args := args) (below := below) (meth := meth) (c := c) (g := g) (nL := 3) (F := xFT) (n := xN) (cells := 0) (slots := 0) (Q := MQ below (xQc g xFT xN P) args s 0 0 (xFr g)) (I := I2 a0 a1 A P) (pc1 := 2) (fun μ i2 => xAt_mono (t_X12_copies_2 (P := P) X hr i2) (v2 a0 a1 A P h μ))
  exact ⟨_, v0 a0 a1 A P h, t_X12_copies_0 X hr h2⟩
theorem d_X12_stores_0 : decode cX12_stores 0 = .ok (.aload_n 0, 1) := by decide +kernel
theorem d_X12_stores_1 : decode cX12_stores 1 = .ok (.getfield 309, 3) := by decide +kernel
theorem d_X12_stores_4 : decode cX12_stores 4 = .ok (.bipush 8, 2) := by decide +kernel
theorem d_X12_stores_6 : decode cX12_stores 6 = .ok (.if_icmp .ne 39, 3) := by decide +kernel
theorem d_X12_stores_9 : decode cX12_stores 9 = .ok (.iconst 0, 1) := by decide +kernel
theorem d_X12_stores_10 : decode cX12_stores 10 = .ok (.istore_n 2, 1) := by decide +kernel
theorem d_X12_stores_11 : decode cX12_stores 11 = .ok (.iload_n 2, 1) := by decide +kernel
theorem d_X12_stores_12 : decode cX12_stores 12 = .ok (.sipush 658, 3) := by decide +kernel
theorem d_X12_stores_15 : decode cX12_stores 15 = .ok (.if_icmp .ge 24, 3) := by decide +kernel
theorem d_X12_stores_18 : decode cX12_stores 18 = .ok (.aload_n 0, 1) := by decide +kernel
theorem d_X12_stores_19 : decode cX12_stores 19 = .ok (.getfield 109, 3) := by decide +kernel
theorem d_X12_stores_22 : decode cX12_stores 22 = .ok (.iload_n 2, 1) := by decide +kernel
theorem d_X12_stores_23 : decode cX12_stores 23 = .ok (.aload_n 0, 1) := by decide +kernel
theorem d_X12_stores_24 : decode cX12_stores 24 = .ok (.getfield 109, 3) := by decide +kernel
theorem d_X12_stores_27 : decode cX12_stores 27 = .ok (.iload_n 2, 1) := by decide +kernel
theorem d_X12_stores_28 : decode cX12_stores 28 = .ok (.bipush 94, 2) := by decide +kernel
theorem d_X12_stores_30 : decode cX12_stores 30 = .ok (.iadd, 1) := by decide +kernel
theorem d_X12_stores_31 : decode cX12_stores 31 = .ok (.iaload, 1) := by decide +kernel
theorem d_X12_stores_32 : decode cX12_stores 32 = .ok (.iastore, 1) := by decide +kernel
theorem d_X12_stores_33 : decode cX12_stores 33 = .ok (.iinc 2 1, 3) := by decide +kernel
theorem d_X12_stores_36 : decode cX12_stores 36 = .ok (.goto (-25), 3) := by decide +kernel
theorem d_X12_stores_39 : decode cX12_stores 39 = .ok (.aload_n 0, 1) := by decide +kernel
theorem d_X12_stores_40 : decode cX12_stores 40 = .ok (.bipush 7, 2) := by decide +kernel
theorem d_X12_stores_42 : decode cX12_stores 42 = .ok (.putfield 309, 3) := by decide +kernel
theorem d_X12_stores_45 : decode cX12_stores 45 = .ok (.iconst 0, 1) := by decide +kernel
theorem d_X12_stores_46 : decode cX12_stores 46 = .ok (.istore_n 2, 1) := by decide +kernel
theorem d_X12_stores_47 : decode cX12_stores 47 = .ok (.iload_n 2, 1) := by decide +kernel
theorem d_X12_stores_48 : decode cX12_stores 48 = .ok (.bipush 94, 2) := by decide +kernel
theorem d_X12_stores_50 : decode cX12_stores 50 = .ok (.if_icmp .ge 26, 3) := by decide +kernel
theorem d_X12_stores_53 : decode cX12_stores 53 = .ok (.aload_n 0, 1) := by decide +kernel
theorem d_X12_stores_54 : decode cX12_stores 54 = .ok (.getfield 109, 3) := by decide +kernel
theorem d_X12_stores_57 : decode cX12_stores 57 = .ok (.bipush 94, 2) := by decide +kernel
theorem d_X12_stores_59 : decode cX12_stores 59 = .ok (.aload_n 0, 1) := by decide +kernel
theorem d_X12_stores_60 : decode cX12_stores 60 = .ok (.getfield 309, 3) := by decide +kernel
theorem d_X12_stores_63 : decode cX12_stores 63 = .ok (.imul, 1) := by decide +kernel
theorem d_X12_stores_64 : decode cX12_stores 64 = .ok (.iload_n 2, 1) := by decide +kernel
theorem d_X12_stores_65 : decode cX12_stores 65 = .ok (.iadd, 1) := by decide +kernel
theorem d_X12_stores_66 : decode cX12_stores 66 = .ok (.aload_n 1, 1) := by decide +kernel
theorem d_X12_stores_67 : decode cX12_stores 67 = .ok (.iload_n 2, 1) := by decide +kernel
theorem d_X12_stores_68 : decode cX12_stores 68 = .ok (.iaload, 1) := by decide +kernel
theorem d_X12_stores_69 : decode cX12_stores 69 = .ok (.iastore, 1) := by decide +kernel
theorem d_X12_stores_70 : decode cX12_stores 70 = .ok (.iinc 2 1, 3) := by decide +kernel
theorem d_X12_stores_73 : decode cX12_stores 73 = .ok (.goto (-26), 3) := by decide +kernel
theorem d_X12_stores_76 : decode cX12_stores 76 = .ok (.aload_n 0, 1) := by decide +kernel
theorem d_X12_stores_77 : decode cX12_stores 77 = .ok (.dup, 1) := by decide +kernel
theorem d_X12_stores_78 : decode cX12_stores 78 = .ok (.getfield 309, 3) := by decide +kernel
theorem d_X12_stores_81 : decode cX12_stores 81 = .ok (.iconst 1, 1) := by decide +kernel
theorem d_X12_stores_82 : decode cX12_stores 82 = .ok (.iadd, 1) := by decide +kernel
theorem d_X12_stores_83 : decode cX12_stores 83 = .ok (.putfield 309, 3) := by decide +kernel
theorem d_X12_stores_86 : decode cX12_stores 86 = .ok (.return_, 1) := by decide +kernel
def k_X12_stores_45 (P : xP) (C47 : xK) : xK := x_push (.int 0) (x_istore 2 (C47))
set_option maxRecDepth 20000 in
theorem t_X12_stores_45 {p : Program} {l : Launch} {e : Env} {s : State} {m : MethodId} {args : Array Value} {below : List Frame} {meth : Method} {c : Code} {g : xG} (X : xX p s m args c meth cX12_stores RX12 3 g) (hr : meth.sig.returnType = none) {P : xP} {C47 : xK} (h47 : xAt p l e { frames := 0, cells := 0, slots := 0, locals := 0 } s m args below meth c g 3 xFT xN 0 0 (MQ below (xQc g xFT xN P) args s 0 0 (xFr g)) C47 47) : xAt p l e { frames := 0, cells := 0, slots := 0, locals := 0 } s m args below meth c g 3 xFT xN 0 0 (MQ below (xQc g xFT xN P) args s 0 0 (xFr g)) (k_X12_stores_45 P C47) 45 := by
  unfold k_X12_stores_45
  refine r_iconst (pc := 45) X d_X12_stores_45 (by decide +kernel) ?_
  refine r_istore_n (pc := 46) X d_X12_stores_46 fn2 (by decide +kernel) ?_
  exact h47
def k_X12_stores_0 (P : xP) (C11 : xK) (C47 : xK) : xK := x_aload 0 (y_getI 180 57 (x_push (.int 8) (x_icmp_ne ((k_X12_stores_45 P C47)) (x_push (.int 0) (x_istore 2 (C11))))))
set_option maxRecDepth 20000 in
theorem t_X12_stores_0 {p : Program} {l : Launch} {e : Env} {s : State} {m : MethodId} {args : Array Value} {below : List Frame} {meth : Method} {c : Code} {g : xG} (X : xX p s m args c meth cX12_stores RX12 3 g) (hr : meth.sig.returnType = none) {P : xP} {C11 : xK} {C47 : xK} (h11 : xAt p l e { frames := 0, cells := 0, slots := 0, locals := 0 } s m args below meth c g 3 xFT xN 0 0 (MQ below (xQc g xFT xN P) args s 0 0 (xFr g)) C11 11) (h47 : xAt p l e { frames := 0, cells := 0, slots := 0, locals := 0 } s m args below meth c g 3 xFT xN 0 0 (MQ below (xQc g xFT xN P) args s 0 0 (xFr g)) C47 47) : xAt p l e { frames := 0, cells := 0, slots := 0, locals := 0 } s m args below meth c g 3 xFT xN 0 0 (MQ below (xQc g xFT xN P) args s 0 0 (xFr g)) (k_X12_stores_0 P C11 C47) 0 := by
  unfold k_X12_stores_0
  refine r_aload_n (pc := 0) X d_X12_stores_0 fn0 ?_
  refine s_getI (pc := 1) (ci := 12) X xok12 (by decide +kernel) ob_180 (by decide +kernel) fl_RX12_309 d_X12_stores_1 ?_
  refine r_bipush (pc := 4) X d_X12_stores_4 (by decide +kernel) ?_
  refine r_icmp_ne (pc := 6) (tgt := 45) X d_X12_stores_6 (by decide +kernel) ?_ ?_
  · exact t_X12_stores_45 X hr h47
  · refine r_iconst (pc := 9) X d_X12_stores_9 (by decide +kernel) ?_
    refine r_istore_n (pc := 10) X d_X12_stores_10 fn2 (by decide +kernel) ?_
    exact h11
def k_X12_stores_11 (P : xP) (C11 : xK) (C47 : xK) : xK := x_iload 2 (x_push (.int 658) (x_icmp_ge (x_aload 0 (x_push (.int 7) (y_putI 180 57 ((k_X12_stores_45 P C47))))) (x_aload 0 (y_getF 180 207 (x_iload 2 (x_aload 0 (y_getF 180 207 (x_iload 2 (x_push (.int 94) (x_iadd (y_iald 207 752 (y_iast 207 752 (x_iinc 2 1 (C11))))))))))))))
set_option maxRecDepth 20000 in
theorem t_X12_stores_11 {p : Program} {l : Launch} {e : Env} {s : State} {m : MethodId} {args : Array Value} {below : List Frame} {meth : Method} {c : Code} {g : xG} (X : xX p s m args c meth cX12_stores RX12 3 g) (hr : meth.sig.returnType = none) {P : xP} {C11 : xK} {C47 : xK} (h11 : xAt p l e { frames := 0, cells := 0, slots := 0, locals := 0 } s m args below meth c g 3 xFT xN 0 0 (MQ below (xQc g xFT xN P) args s 0 0 (xFr g)) C11 11) (h47 : xAt p l e { frames := 0, cells := 0, slots := 0, locals := 0 } s m args below meth c g 3 xFT xN 0 0 (MQ below (xQc g xFT xN P) args s 0 0 (xFr g)) C47 47) : xAt p l e { frames := 0, cells := 0, slots := 0, locals := 0 } s m args below meth c g 3 xFT xN 0 0 (MQ below (xQc g xFT xN P) args s 0 0 (xFr g)) (k_X12_stores_11 P C11 C47) 11 := by
  unfold k_X12_stores_11
  refine r_iload_n (pc := 11) X d_X12_stores_11 fn2 ?_
  refine r_sipush (pc := 12) X d_X12_stores_12 (by decide +kernel) ?_
  refine r_icmp_ge (pc := 15) (tgt := 39) X d_X12_stores_15 (by decide +kernel) ?_ ?_
  · refine r_aload_n (pc := 39) X d_X12_stores_39 fn0 ?_
    refine r_bipush (pc := 40) X d_X12_stores_40 (by decide +kernel) ?_
    refine s_putI (pc := 42) (ci := 12) X xok12 (by decide +kernel) ob_180 (by decide +kernel) (by decide +kernel) (by decide +kernel) fl_RX12_309 d_X12_stores_42 ?_
    exact t_X12_stores_45 X hr h47
  · refine r_aload_n (pc := 18) X d_X12_stores_18 fn0 ?_
    refine s_getF (pc := 19) (ci := 12) (k := 54) X xok12 (by decide +kernel) ob_180 trivial ly_180_54 (by decide +kernel) fl_RX12_109 d_X12_stores_19 ?_
    refine r_iload_n (pc := 22) X d_X12_stores_22 fn2 ?_
    refine r_aload_n (pc := 23) X d_X12_stores_23 fn0 ?_
    refine s_getF (pc := 24) (ci := 12) (k := 54) X xok12 (by decide +kernel) ob_180 trivial ly_180_54 (by decide +kernel) fl_RX12_109 d_X12_stores_24 ?_
    refine r_iload_n (pc := 27) X d_X12_stores_27 fn2 ?_
    refine r_bipush (pc := 28) X d_X12_stores_28 (by decide +kernel) ?_
    refine r_iadd (pc := 30) X d_X12_stores_30 ?_
    refine s_iald (pc := 31) X tn_207 ln_207 d_X12_stores_31 ?_
    refine s_iast (pc := 32) X tn_207 ln_207 d_X12_stores_32 ?_
    refine r_iinc (pc := 33) X d_X12_stores_33 (by decide +kernel) (by decide +kernel) ?_
    refine r_goto (pc := 36) (tgt := 11) X d_X12_stores_36 (by decide +kernel) ?_
    exact h11
def k_X12_stores_47 (P : xP) (C47 : xK) : xK := x_iload 2 (x_push (.int 94) (x_icmp_ge (x_aload 0 (x_dup (y_getI 180 57 (x_push (.int 1) (x_iadd (y_putI 180 57 (x_vret P))))))) (x_aload 0 (y_getF 180 207 (x_push (.int 94) (x_aload 0 (y_getI 180 57 (x_imul (x_iload 2 (x_iadd (x_aload 1 (x_iload 2 (x_iald xN (y_iast 207 752 (x_iinc 2 1 (C47))))))))))))))))
set_option maxRecDepth 20000 in
theorem t_X12_stores_47 {p : Program} {l : Launch} {e : Env} {s : State} {m : MethodId} {args : Array Value} {below : List Frame} {meth : Method} {c : Code} {g : xG} (X : xX p s m args c meth cX12_stores RX12 3 g) (hr : meth.sig.returnType = none) {P : xP} {C47 : xK} (h47 : xAt p l e { frames := 0, cells := 0, slots := 0, locals := 0 } s m args below meth c g 3 xFT xN 0 0 (MQ below (xQc g xFT xN P) args s 0 0 (xFr g)) C47 47) : xAt p l e { frames := 0, cells := 0, slots := 0, locals := 0 } s m args below meth c g 3 xFT xN 0 0 (MQ below (xQc g xFT xN P) args s 0 0 (xFr g)) (k_X12_stores_47 P C47) 47 := by
  unfold k_X12_stores_47
  refine r_iload_n (pc := 47) X d_X12_stores_47 fn2 ?_
  refine r_bipush (pc := 48) X d_X12_stores_48 (by decide +kernel) ?_
  refine r_icmp_ge (pc := 50) (tgt := 76) X d_X12_stores_50 (by decide +kernel) ?_ ?_
  · refine r_aload_n (pc := 76) X d_X12_stores_76 fn0 ?_
    refine r_dup (pc := 77) X d_X12_stores_77 ?_
    refine s_getI (pc := 78) (ci := 12) X xok12 (by decide +kernel) ob_180 (by decide +kernel) fl_RX12_309 d_X12_stores_78 ?_
    refine r_iconst (pc := 81) X d_X12_stores_81 (by decide +kernel) ?_
    refine r_iadd (pc := 82) X d_X12_stores_82 ?_
    refine s_putI (pc := 83) (ci := 12) X xok12 (by decide +kernel) ob_180 (by decide +kernel) (by decide +kernel) (by decide +kernel) fl_RX12_309 d_X12_stores_83 ?_
    exact r_vret (pc := 86) X hr d_X12_stores_86
  · refine r_aload_n (pc := 53) X d_X12_stores_53 fn0 ?_
    refine s_getF (pc := 54) (ci := 12) (k := 54) X xok12 (by decide +kernel) ob_180 trivial ly_180_54 (by decide +kernel) fl_RX12_109 d_X12_stores_54 ?_
    refine r_bipush (pc := 57) X d_X12_stores_57 (by decide +kernel) ?_
    refine r_aload_n (pc := 59) X d_X12_stores_59 fn0 ?_
    refine s_getI (pc := 60) (ci := 12) X xok12 (by decide +kernel) ob_180 (by decide +kernel) fl_RX12_309 d_X12_stores_60 ?_
    refine r_imul (pc := 63) X d_X12_stores_63 ?_
    refine r_iload_n (pc := 64) X d_X12_stores_64 fn2 ?_
    refine r_iadd (pc := 65) X d_X12_stores_65 ?_
    refine r_aload_n (pc := 66) X d_X12_stores_66 fn1 ?_
    refine r_iload_n (pc := 67) X d_X12_stores_67 fn2 ?_
    refine r_iald (pc := 68) X d_X12_stores_68 ?_
    refine s_iast (pc := 69) X tn_207 ln_207 d_X12_stores_69 ?_
    refine r_iinc (pc := 70) X d_X12_stores_70 (by decide +kernel) (by decide +kernel) ?_
    refine r_goto (pc := 73) (tgt := 47) X d_X12_stores_73 (by decide +kernel) ?_
    exact h47
set_option maxRecDepth 20000 in
theorem m_X12_stores {l : Launch} {f : Nat → Nat → xH → xP → Prop}  {I11 : Nat → Nat → xH → xP → xM → xK} {I47 : Nat → Nat → xH → xP → xM → xK}
    (v0 : ∀ (a0 : Nat) (a1 : Nat) (A : xH) (P : xP), f a0 a1 A P → k_X12_stores_0 P (xE (I11 a0 a1 A P)) (xE (I47 a0 a1 A P)) [some (.ref a0), some (.ref a1), none] [] A)
    (v11 : ∀ (a0 : Nat) (a1 : Nat) (A : xH) (P : xP), f a0 a1 A P → ∀ (μ : xM) (L : xL) (st : List Value) (B : xH), I11 a0 a1 A P μ L st B → k_X12_stores_11 P (xB (I11 a0 a1 A P) μ) (xE (I47 a0 a1 A P)) L st B)
    (v47 : ∀ (a0 : Nat) (a1 : Nat) (A : xH) (P : xP), f a0 a1 A P → ∀ (μ : xM) (L : xL) (st : List Value) (B : xH), I47 a0 a1 A P μ L st B → k_X12_stores_47 P (xB (I47 a0 a1 A P) μ) L st B) : xCon l yX12_stores cX12_stores 3 none 0 0 xN xN 0 xFT xFT (w_RR f) := by
  refine xc_RR (plainFor_of_name pn_RX12) (by decide +kernel) (fun p e s m args below meth c g a0 a1 A P h X hr _ => ?_)
  have h47 := x_loop1 (p := p) (l := l) (e := e) (R := { frames := 0, cells := 0, slots := 0, locals := 0 }) (s := s) (m := m) (args := args) (below := below) (meth := meth) (c := c) (g := g) (nL := 3) (F := xFT) (n := xN) (cells := 0) (slots := 0) (Q := MQ below (xQc g xFT xN P) args s 0 0 (xFr g)) (I := I47 a0 a1 A P) (pc1 := 47) (fun μ i47 => xAt_mono (t_X12_stores_47 (P := P) X hr i47) (v47 a0 a1 A P h μ))
  have h11 := x_loop1 (p := p) (l := l) (e := e) (R := { frames := 0, cells := 0, slots := 0, locals := 0 }) (s := s) (m := m) (args := args) (below := below) (meth := meth) (c := c) (g := g) (nL := 3) (F := xFT) (n := xN) (cells := 0) (slots := 0) (Q := MQ below (xQc g xFT xN P) args s 0 0 (xFr g)) (I := I11 a0 a1 A P) (pc1 := 11) (fun μ i11 => xAt_mono (t_X12_stores_11 (P := P) X hr i11 h47) (v11 a0 a1 A P h μ))
  exact ⟨_, v0 a0 a1 A P h, t_X12_stores_0 X hr h11 h47⟩
theorem xsA_1 {A : xH} {c d : Nat} {f : Nat → Int32} (h : d ≠ c) : (xsA A c f).1 d = A.1 d := by
  funext j; simp [xsA, h]
/-- what was worked out is old -/
def oth (A : xH) : xH := xsi (xsi (xsi (xsi A 180 25 0) 180 26 0) 180 27 0) 180 28 0
theorem oth_i {A : xH} {c k : Nat} (h : c ≠ 180 ∨ k < 25 ∨ 28 < k) : xi (oth A) c k = xi A c k := by
  unfold oth; simp (disch := omega) only [si_ne]
theorem oth_l {A : xH} {c k : Nat} : xl (oth A) c k = xl A c k := rfl
theorem oth_r {A : xH} {c k : Nat} : xr (oth A) c k = xr A c k := rfl
theorem oth_0 {A : xH} : xi (oth A) 180 25 = 0 ∧ xi (oth A) 180 26 = 0 ∧ xi (oth A) 180 27 = 0 ∧ xi (oth A) 180 28 = 0 := by
  unfold oth; simp (disch := omega) only [si_ne, si_eq, and_self]
theorem fr_oth {S : Nat → Nat → Prop} {A B : xH} (h : fr S A B) (hs : ∀ k, 25 ≤ k → k ≤ 28 → S 180 k) : fr S A (oth B) :=
  fr_si (fr_si (fr_si (fr_si h (hs _ (by omega) (by omega))) (hs _ (by omega) (by omega))) (hs _ (by omega) (by omega))) (hs _ (by omega) (by omega))
theorem other_E {A : xH} {P : xP} : f_X12_other 180 A P = P none (oth A) := by
  unfold f_X12_other
  simp (disch := omega) only [k_X12_other_0, x_aload, x_push, x_vret, y_putZ, xFT, xbool0, xbool1, Nat.reduceAdd, Nat.zero_add, xgl_0, xgl_s, xgl_n, xst_0, xst_1n, xst_1i, xst_1r, xst_1l, xst_s, set_0, set_s, true_and, and_true, xres, xcat_nil, xcat_i, xcat_r, xcat_l, Nat.add_zero, xble0, xble1, xble2, xble3, xble4, xble5, xble6, xble7, xble8, pk_mul, nI_add, nI_1, nI_leI, nI_ltI, nI_eq, n_in, n_cl, z_eq, z_lt, z_le, z_gt, z_ge, z_qe, o_eq, o_lt, o_le, o_gt, o_ge, vp0, vp1, cl0, cl1, n_sub, n_sub1, n_pm1, n_a0, n_0a, ofn, lN0, Nat.reduceLT, Nat.reduceLeDiff, Nat.reduceMul, Nat.reduceSub, Nat.reduceEqDiff, ne_eq, true_implies, false_implies, not_true_eq_false, not_false_eq_true, and_self, and_true, true_and, and_false, false_and, implies_true, if_true, if_false, i00, i10, i01, i11, ob_0, ob_1, tn_2, ln_2, ob_3, tn_4, ln_4, ob_5, tn_6, ln_6, tn_7, ln_7, ob_8, tn_9, ln_9, tn_10, ln_10, tn_11, ln_11, tn_12, ln_12, tn_13, ln_13, tn_14, ln_14, tn_15, ln_15, tn_16, ln_16, tn_17, ln_17, ob_18, tn_19, ln_19, tn_20, ln_20, tn_21, ln_21, tn_22, ln_22, tn_23, ln_23, tn_24, ln_24, tn_25, ln_25, tn_26, ln_26, tn_27, ln_27, ob_28, tn_29, ln_29, tn_30, ln_30, ob_31, tn_32, ln_32, tn_33, ln_33, ob_34, ob_35, tn_36, ln_36, tn_37, ln_37, tn_38, ln_38, ob_39, tn_40, ln_40, tn_41, ln_41, tn_42, ln_42, tn_43, ln_43, tn_44, ln_44, tn_45, ln_45, tn_46, ln_46, tn_47, ln_47, tn_48, ln_48, tn_49, ln_49, tn_50, ln_50, tn_51, ln_51, ob_52, tn_53, ln_53, tn_54, ln_54, tn_55, ln_55, tn_56, ln_56, ob_57, tn_58, ln_58, tn_59, ln_59, tn_60, ln_60, tn_61, ln_61, tn_62, ln_62, tn_63, ln_63, tn_64, ln_64, tn_65, ln_65, ob_66, tn_67, ln_67, tn_68, ln_68, tn_69, ln_69, tn_70, ln_70, tn_71, ln_71, tn_72, ln_72, tn_73, ln_73, ob_74, tn_75, ln_75, tn_76, ln_76, tn_77, ln_77, tn_78, ln_78, tn_79, ln_79, tn_80, ln_80, tn_81, ln_81, tn_82, ln_82, tn_83, ln_83, ob_84, tn_85, ln_85, tn_86, ln_86, tn_87, ln_87, tn_88, ln_88, tn_89, ln_89, tn_90, ln_90, tn_91, ln_91, tn_92, ln_92, tn_93, ln_93, ob_94, tn_95, ln_95, tn_96, ln_96, tn_97, ln_97, tn_98, ln_98, tn_99, ln_99, tn_100, ln_100, tn_101, ln_101, tn_102, ln_102, tn_103, ln_103, ob_104, tn_105, ln_105, tn_106, ln_106, tn_107, ln_107, tn_108, ln_108, tn_109, ln_109, tn_110, ln_110, tn_111, ln_111, tn_112, ln_112, tn_113, ln_113, ob_114, tn_115, ln_115, tn_116, ln_116, tn_117, ln_117, tn_118, ln_118, tn_119, ln_119, tn_120, ln_120, tn_121, ln_121, tn_122, ln_122, tn_123, ln_123, ob_124, tn_125, ln_125, tn_126, ln_126, tn_127, ln_127, tn_128, ln_128, tn_129, ln_129, tn_130, ln_130, tn_131, ln_131, tn_132, ln_132, tn_133, ln_133, ob_134, tn_135, ln_135, tn_136, ln_136, tn_137, ln_137, tn_138, ln_138, tn_139, ln_139, tn_140, ln_140, tn_141, ln_141, tn_142, ln_142, tn_143, ln_143, ob_144, tn_145, ln_145, tn_146, ln_146, tn_147, ln_147, tn_148, ln_148, tn_149, ln_149, tn_150, ln_150, tn_151, ln_151, tn_152, ln_152, tn_153, ln_153, ob_154, tn_155, ln_155, tn_156, ln_156, tn_157, ln_157, tn_158, ln_158, tn_159, ln_159, tn_160, ln_160, tn_161, ln_161, tn_162, ln_162, tn_163, ln_163, ob_164, tn_165, ln_165, tn_166, ln_166, ob_167, tn_168, ln_168, tn_169, ln_169, tn_170, ln_170, tn_171, ln_171, tn_172, ln_172, tn_173, ln_173, tn_174, ln_174, tn_175, ln_175, tn_176, ln_176, ob_177, tn_178, ln_178, tn_179, ln_179, ob_180, tn_181, ln_181, tn_182, ln_182, tn_183, ln_183, tn_184, ln_184, tn_185, ln_185, tn_186, ln_186, tn_187, ln_187, tn_188, ln_188, tn_189, ln_189, tn_190, ln_190, tn_191, ln_191, tn_192, ln_192, tn_193, ln_193, tn_194, ln_194, tn_195, ln_195, tn_196, ln_196, tn_197, ln_197, tn_198, ln_198, tn_199, ln_199, tn_200, ln_200, tn_201, ln_201, tn_202, ln_202, tn_203, ln_203, tn_204, ln_204, tn_205, ln_205, tn_206, ln_206, tn_207, ln_207, tn_208, ln_208, tn_209, ln_209, tn_210, ln_210, tn_211, ln_211, tn_212, ln_212, tn_213, ln_213, tn_214, ln_214, tn_215, ln_215, tn_216, ln_216, tn_217, ln_217, tn_218, ln_218, tn_219, ln_219, tn_220, ln_220, tn_221, ln_221, tn_222, ln_222, tn_223, ln_223, tn_224, ln_224, tn_225, ln_225, tn_226, ln_226, tn_227, ln_227, tn_228, ln_228, tn_229, ln_229, tn_230, ln_230, lx2, lx3, lx4, lx5, lx6, lx7, lx8, lx9, lx10, lx14, lx15, lx16, lx18, lx20, lx24, lx25, lx27, lx32, lx36, lx40, lx41, lx42, lx43, lx45, lx48, lx52, lx54, lx56, lx57, lx58, lx60, lx61, lx62, lx63, lx64, lx66, lx69, lx73, lx80, lx81, lx84, lx85, lx87, lx94, lx96, lx97, lx120, lx128, lx135, lx160, lx162, lx163, lx165, lx200, lx232, lx242, lx243, lx255, lx256, lx320, lx325, lx400, lx405, lx464, lx512, lx600, lx640, lx752, lx900, lx940, lx1000, lx1024, lx1764, lx3360, lx3840, lx5000, lx6400, lx9050, lx9998, lx9999, lx10000, lx25600, lx76800, lx99999]
  rfl
def rr (A : xH) (v : xV) : Prop := isR A v ∧ wfg v ∧ wfc v ∧ hIt A v
def f_X12_classes (q : Nat) (A : xH) (P : xP) : Prop := q = 180 ∧ ∃ v, rr A v ∧ ∀ B, fr SIt A B → itU B v → xi B 180 25 = 1 → P (some (.int (nI (cnt (fun i => vcl v i = i) (vN v))))) B
def cls8 (P : xP) : xM → xK := fun μ L st B => ∃ v i, isR B v ∧ wfg v ∧ wfc v ∧ xi B 180 24 = nI (vN v) ∧ P (some (.int (nI (cnt (fun i => vcl v i = i) (vN v))))) B ∧ st = [] ∧ i ≤ vN v ∧ L = [some (.ref 180), some (.int (nI (cnt (fun i => vcl v i = i) i))), some (.int (nI i))] ∧ μ = (vN v - i, 0, 0)
set_option maxRecDepth 20000 in
theorem con_X12_classes (l : Launch) : xCon l yX12_classes cX12_classes 3 (some .int) 2 44 xN xN 0 xFT xFT (w_R f_X12_classes) := by
  refine m_X12_classes (I8 := fun q A P => cls8 P) ?_ ?_
  · rintro q A P ⟨rfl, v, ⟨hR, hw, hc, hI⟩, hP⟩
    simp (disch := omega) only [k_X12_classes_0, k_X12_classes_8, k_X12_classes_35, w_R, x_aload, x_iadd, x_icmp_ge, x_icmp_ne, x_iinc, x_iload, x_iret, x_istore, x_push, y_cv0, y_getF, y_getI, y_iald, xFT, xbool0, xbool1, Nat.reduceAdd, Nat.zero_add, xgl_0, xgl_s, xgl_n, xst_0, xst_1n, xst_1i, xst_1r, xst_1l, xst_s, set_0, set_s, true_and, and_true, xres, xcat_nil, xcat_i, xcat_r, xcat_l, Nat.add_zero, xble0, xble1, xble2, xble3, xble4, xble5, xble6, xble7, xble8, pk_mul, nI_add, nI_1, nI_leI, nI_ltI, nI_eq, n_in, n_cl, z_eq, z_lt, z_le, z_gt, z_ge, z_qe, o_eq, o_lt, o_le, o_gt, o_ge, vp0, vp1, cl0, cl1, n_sub, n_sub1, n_pm1, n_a0, n_0a, ofn, lN0, Nat.reduceLT, Nat.reduceLeDiff, Nat.reduceMul, Nat.reduceSub, Nat.reduceEqDiff, ne_eq, true_implies, false_implies, not_true_eq_false, not_false_eq_true, and_self, and_true, true_and, and_false, false_and, implies_true, if_true, if_false, i00, i10, i01, i11, ob_0, ob_1, tn_2, ln_2, ob_3, tn_4, ln_4, ob_5, tn_6, ln_6, tn_7, ln_7, ob_8, tn_9, ln_9, tn_10, ln_10, tn_11, ln_11, tn_12, ln_12, tn_13, ln_13, tn_14, ln_14, tn_15, ln_15, tn_16, ln_16, tn_17, ln_17, ob_18, tn_19, ln_19, tn_20, ln_20, tn_21, ln_21, tn_22, ln_22, tn_23, ln_23, tn_24, ln_24, tn_25, ln_25, tn_26, ln_26, tn_27, ln_27, ob_28, tn_29, ln_29, tn_30, ln_30, ob_31, tn_32, ln_32, tn_33, ln_33, ob_34, ob_35, tn_36, ln_36, tn_37, ln_37, tn_38, ln_38, ob_39, tn_40, ln_40, tn_41, ln_41, tn_42, ln_42, tn_43, ln_43, tn_44, ln_44, tn_45, ln_45, tn_46, ln_46, tn_47, ln_47, tn_48, ln_48, tn_49, ln_49, tn_50, ln_50, tn_51, ln_51, ob_52, tn_53, ln_53, tn_54, ln_54, tn_55, ln_55, tn_56, ln_56, ob_57, tn_58, ln_58, tn_59, ln_59, tn_60, ln_60, tn_61, ln_61, tn_62, ln_62, tn_63, ln_63, tn_64, ln_64, tn_65, ln_65, ob_66, tn_67, ln_67, tn_68, ln_68, tn_69, ln_69, tn_70, ln_70, tn_71, ln_71, tn_72, ln_72, tn_73, ln_73, ob_74, tn_75, ln_75, tn_76, ln_76, tn_77, ln_77, tn_78, ln_78, tn_79, ln_79, tn_80, ln_80, tn_81, ln_81, tn_82, ln_82, tn_83, ln_83, ob_84, tn_85, ln_85, tn_86, ln_86, tn_87, ln_87, tn_88, ln_88, tn_89, ln_89, tn_90, ln_90, tn_91, ln_91, tn_92, ln_92, tn_93, ln_93, ob_94, tn_95, ln_95, tn_96, ln_96, tn_97, ln_97, tn_98, ln_98, tn_99, ln_99, tn_100, ln_100, tn_101, ln_101, tn_102, ln_102, tn_103, ln_103, ob_104, tn_105, ln_105, tn_106, ln_106, tn_107, ln_107, tn_108, ln_108, tn_109, ln_109, tn_110, ln_110, tn_111, ln_111, tn_112, ln_112, tn_113, ln_113, ob_114, tn_115, ln_115, tn_116, ln_116, tn_117, ln_117, tn_118, ln_118, tn_119, ln_119, tn_120, ln_120, tn_121, ln_121, tn_122, ln_122, tn_123, ln_123, ob_124, tn_125, ln_125, tn_126, ln_126, tn_127, ln_127, tn_128, ln_128, tn_129, ln_129, tn_130, ln_130, tn_131, ln_131, tn_132, ln_132, tn_133, ln_133, ob_134, tn_135, ln_135, tn_136, ln_136, tn_137, ln_137, tn_138, ln_138, tn_139, ln_139, tn_140, ln_140, tn_141, ln_141, tn_142, ln_142, tn_143, ln_143, ob_144, tn_145, ln_145, tn_146, ln_146, tn_147, ln_147, tn_148, ln_148, tn_149, ln_149, tn_150, ln_150, tn_151, ln_151, tn_152, ln_152, tn_153, ln_153, ob_154, tn_155, ln_155, tn_156, ln_156, tn_157, ln_157, tn_158, ln_158, tn_159, ln_159, tn_160, ln_160, tn_161, ln_161, tn_162, ln_162, tn_163, ln_163, ob_164, tn_165, ln_165, tn_166, ln_166, ob_167, tn_168, ln_168, tn_169, ln_169, tn_170, ln_170, tn_171, ln_171, tn_172, ln_172, tn_173, ln_173, tn_174, ln_174, tn_175, ln_175, tn_176, ln_176, ob_177, tn_178, ln_178, tn_179, ln_179, ob_180, tn_181, ln_181, tn_182, ln_182, tn_183, ln_183, tn_184, ln_184, tn_185, ln_185, tn_186, ln_186, tn_187, ln_187, tn_188, ln_188, tn_189, ln_189, tn_190, ln_190, tn_191, ln_191, tn_192, ln_192, tn_193, ln_193, tn_194, ln_194, tn_195, ln_195, tn_196, ln_196, tn_197, ln_197, tn_198, ln_198, tn_199, ln_199, tn_200, ln_200, tn_201, ln_201, tn_202, ln_202, tn_203, ln_203, tn_204, ln_204, tn_205, ln_205, tn_206, ln_206, tn_207, ln_207, tn_208, ln_208, tn_209, ln_209, tn_210, ln_210, tn_211, ln_211, tn_212, ln_212, tn_213, ln_213, tn_214, ln_214, tn_215, ln_215, tn_216, ln_216, tn_217, ln_217, tn_218, ln_218, tn_219, ln_219, tn_220, ln_220, tn_221, ln_221, tn_222, ln_222, tn_223, ln_223, tn_224, ln_224, tn_225, ln_225, tn_226, ln_226, tn_227, ln_227, tn_228, ln_228, tn_229, ln_229, tn_230, ln_230, lx2, lx3, lx4, lx5, lx6, lx7, lx8, lx9, lx10, lx14, lx15, lx16, lx18, lx20, lx24, lx25, lx27, lx32, lx36, lx40, lx41, lx42, lx43, lx45, lx48, lx52, lx54, lx56, lx57, lx58, lx60, lx61, lx62, lx63, lx64, lx66, lx69, lx73, lx80, lx81, lx84, lx85, lx87, lx94, lx96, lx97, lx120, lx128, lx135, lx160, lx162, lx163, lx165, lx200, lx232, lx242, lx243, lx255, lx256, lx320, lx325, lx400, lx405, lx464, lx512, lx600, lx640, lx752, lx900, lx940, lx1000, lx1024, lx1764, lx3360, lx3840, lx5000, lx6400, lx9050, lx9998, lx9999, lx10000, lx25600, lx76800, lx99999]
    refine ⟨rfl, v, hR, hw, hI, fun B hF hI2 h25 => ?_⟩
    simp (disch := omega) only [k_X12_classes_0, k_X12_classes_8, k_X12_classes_35, w_R, x_aload, x_iadd, x_icmp_ge, x_icmp_ne, x_iinc, x_iload, x_iret, x_istore, x_push, y_cv0, y_getF, y_getI, y_iald, xFT, xbool0, xbool1, Nat.reduceAdd, Nat.zero_add, xgl_0, xgl_s, xgl_n, xst_0, xst_1n, xst_1i, xst_1r, xst_1l, xst_s, set_0, set_s, true_and, and_true, xres, xcat_nil, xcat_i, xcat_r, xcat_l, Nat.add_zero, xble0, xble1, xble2, xble3, xble4, xble5, xble6, xble7, xble8, pk_mul, nI_add, nI_1, nI_leI, nI_ltI, nI_eq, n_in, n_cl, z_eq, z_lt, z_le, z_gt, z_ge, z_qe, o_eq, o_lt, o_le, o_gt, o_ge, vp0, vp1, cl0, cl1, n_sub, n_sub1, n_pm1, n_a0, n_0a, ofn, lN0, Nat.reduceLT, Nat.reduceLeDiff, Nat.reduceMul, Nat.reduceSub, Nat.reduceEqDiff, ne_eq, true_implies, false_implies, not_true_eq_false, not_false_eq_true, and_self, and_true, true_and, and_false, false_and, implies_true, if_true, if_false, i00, i10, i01, i11, ob_0, ob_1, tn_2, ln_2, ob_3, tn_4, ln_4, ob_5, tn_6, ln_6, tn_7, ln_7, ob_8, tn_9, ln_9, tn_10, ln_10, tn_11, ln_11, tn_12, ln_12, tn_13, ln_13, tn_14, ln_14, tn_15, ln_15, tn_16, ln_16, tn_17, ln_17, ob_18, tn_19, ln_19, tn_20, ln_20, tn_21, ln_21, tn_22, ln_22, tn_23, ln_23, tn_24, ln_24, tn_25, ln_25, tn_26, ln_26, tn_27, ln_27, ob_28, tn_29, ln_29, tn_30, ln_30, ob_31, tn_32, ln_32, tn_33, ln_33, ob_34, ob_35, tn_36, ln_36, tn_37, ln_37, tn_38, ln_38, ob_39, tn_40, ln_40, tn_41, ln_41, tn_42, ln_42, tn_43, ln_43, tn_44, ln_44, tn_45, ln_45, tn_46, ln_46, tn_47, ln_47, tn_48, ln_48, tn_49, ln_49, tn_50, ln_50, tn_51, ln_51, ob_52, tn_53, ln_53, tn_54, ln_54, tn_55, ln_55, tn_56, ln_56, ob_57, tn_58, ln_58, tn_59, ln_59, tn_60, ln_60, tn_61, ln_61, tn_62, ln_62, tn_63, ln_63, tn_64, ln_64, tn_65, ln_65, ob_66, tn_67, ln_67, tn_68, ln_68, tn_69, ln_69, tn_70, ln_70, tn_71, ln_71, tn_72, ln_72, tn_73, ln_73, ob_74, tn_75, ln_75, tn_76, ln_76, tn_77, ln_77, tn_78, ln_78, tn_79, ln_79, tn_80, ln_80, tn_81, ln_81, tn_82, ln_82, tn_83, ln_83, ob_84, tn_85, ln_85, tn_86, ln_86, tn_87, ln_87, tn_88, ln_88, tn_89, ln_89, tn_90, ln_90, tn_91, ln_91, tn_92, ln_92, tn_93, ln_93, ob_94, tn_95, ln_95, tn_96, ln_96, tn_97, ln_97, tn_98, ln_98, tn_99, ln_99, tn_100, ln_100, tn_101, ln_101, tn_102, ln_102, tn_103, ln_103, ob_104, tn_105, ln_105, tn_106, ln_106, tn_107, ln_107, tn_108, ln_108, tn_109, ln_109, tn_110, ln_110, tn_111, ln_111, tn_112, ln_112, tn_113, ln_113, ob_114, tn_115, ln_115, tn_116, ln_116, tn_117, ln_117, tn_118, ln_118, tn_119, ln_119, tn_120, ln_120, tn_121, ln_121, tn_122, ln_122, tn_123, ln_123, ob_124, tn_125, ln_125, tn_126, ln_126, tn_127, ln_127, tn_128, ln_128, tn_129, ln_129, tn_130, ln_130, tn_131, ln_131, tn_132, ln_132, tn_133, ln_133, ob_134, tn_135, ln_135, tn_136, ln_136, tn_137, ln_137, tn_138, ln_138, tn_139, ln_139, tn_140, ln_140, tn_141, ln_141, tn_142, ln_142, tn_143, ln_143, ob_144, tn_145, ln_145, tn_146, ln_146, tn_147, ln_147, tn_148, ln_148, tn_149, ln_149, tn_150, ln_150, tn_151, ln_151, tn_152, ln_152, tn_153, ln_153, ob_154, tn_155, ln_155, tn_156, ln_156, tn_157, ln_157, tn_158, ln_158, tn_159, ln_159, tn_160, ln_160, tn_161, ln_161, tn_162, ln_162, tn_163, ln_163, ob_164, tn_165, ln_165, tn_166, ln_166, ob_167, tn_168, ln_168, tn_169, ln_169, tn_170, ln_170, tn_171, ln_171, tn_172, ln_172, tn_173, ln_173, tn_174, ln_174, tn_175, ln_175, tn_176, ln_176, ob_177, tn_178, ln_178, tn_179, ln_179, ob_180, tn_181, ln_181, tn_182, ln_182, tn_183, ln_183, tn_184, ln_184, tn_185, ln_185, tn_186, ln_186, tn_187, ln_187, tn_188, ln_188, tn_189, ln_189, tn_190, ln_190, tn_191, ln_191, tn_192, ln_192, tn_193, ln_193, tn_194, ln_194, tn_195, ln_195, tn_196, ln_196, tn_197, ln_197, tn_198, ln_198, tn_199, ln_199, tn_200, ln_200, tn_201, ln_201, tn_202, ln_202, tn_203, ln_203, tn_204, ln_204, tn_205, ln_205, tn_206, ln_206, tn_207, ln_207, tn_208, ln_208, tn_209, ln_209, tn_210, ln_210, tn_211, ln_211, tn_212, ln_212, tn_213, ln_213, tn_214, ln_214, tn_215, ln_215, tn_216, ln_216, tn_217, ln_217, tn_218, ln_218, tn_219, ln_219, tn_220, ln_220, tn_221, ln_221, tn_222, ln_222, tn_223, ln_223, tn_224, ln_224, tn_225, ln_225, tn_226, ln_226, tn_227, ln_227, tn_228, ln_228, tn_229, ln_229, tn_230, ln_230, lx2, lx3, lx4, lx5, lx6, lx7, lx8, lx9, lx10, lx14, lx15, lx16, lx18, lx20, lx24, lx25, lx27, lx32, lx36, lx40, lx41, lx42, lx43, lx45, lx48, lx52, lx54, lx56, lx57, lx58, lx60, lx61, lx62, lx63, lx64, lx66, lx69, lx73, lx80, lx81, lx84, lx85, lx87, lx94, lx96, lx97, lx120, lx128, lx135, lx160, lx162, lx163, lx165, lx200, lx232, lx242, lx243, lx255, lx256, lx320, lx325, lx400, lx405, lx464, lx512, lx600, lx640, lx752, lx900, lx940, lx1000, lx1024, lx1764, lx3360, lx3840, lx5000, lx6400, lx9050, lx9998, lx9999, lx10000, lx25600, lx76800, lx99999]
    exact xE0 (vN v - 0, 0, 0) ⟨v, 0, isR_fr hR hF (by unfold SIt; omega), hw, hc, hI2.1, hP B hF hI2 h25, rfl, Nat.zero_le _, rfl, rfl⟩
  · rintro q A P - μ L st B ⟨v, i, hR, hw, hc, h24, hP, rfl, hi, rfl, rfl⟩
    have hN := vN_le hw
    simp (disch := omega) only [k_X12_classes_0, k_X12_classes_8, k_X12_classes_35, w_R, x_aload, x_iadd, x_icmp_ge, x_icmp_ne, x_iinc, x_iload, x_iret, x_istore, x_push, y_cv0, y_getF, y_getI, y_iald, xFT, xbool0, xbool1, Nat.reduceAdd, Nat.zero_add, xgl_0, xgl_s, xgl_n, xst_0, xst_1n, xst_1i, xst_1r, xst_1l, xst_s, set_0, set_s, true_and, and_true, xres, xcat_nil, xcat_i, xcat_r, xcat_l, Nat.add_zero, xble0, xble1, xble2, xble3, xble4, xble5, xble6, xble7, xble8, pk_mul, nI_add, nI_1, nI_leI, nI_ltI, nI_eq, n_in, n_cl, z_eq, z_lt, z_le, z_gt, z_ge, z_qe, o_eq, o_lt, o_le, o_gt, o_ge, vp0, vp1, cl0, cl1, n_sub, n_sub1, n_pm1, n_a0, n_0a, ofn, lN0, Nat.reduceLT, Nat.reduceLeDiff, Nat.reduceMul, Nat.reduceSub, Nat.reduceEqDiff, ne_eq, true_implies, false_implies, not_true_eq_false, not_false_eq_true, and_self, and_true, true_and, and_false, false_and, implies_true, if_true, if_false, i00, i10, i01, i11, ob_0, ob_1, tn_2, ln_2, ob_3, tn_4, ln_4, ob_5, tn_6, ln_6, tn_7, ln_7, ob_8, tn_9, ln_9, tn_10, ln_10, tn_11, ln_11, tn_12, ln_12, tn_13, ln_13, tn_14, ln_14, tn_15, ln_15, tn_16, ln_16, tn_17, ln_17, ob_18, tn_19, ln_19, tn_20, ln_20, tn_21, ln_21, tn_22, ln_22, tn_23, ln_23, tn_24, ln_24, tn_25, ln_25, tn_26, ln_26, tn_27, ln_27, ob_28, tn_29, ln_29, tn_30, ln_30, ob_31, tn_32, ln_32, tn_33, ln_33, ob_34, ob_35, tn_36, ln_36, tn_37, ln_37, tn_38, ln_38, ob_39, tn_40, ln_40, tn_41, ln_41, tn_42, ln_42, tn_43, ln_43, tn_44, ln_44, tn_45, ln_45, tn_46, ln_46, tn_47, ln_47, tn_48, ln_48, tn_49, ln_49, tn_50, ln_50, tn_51, ln_51, ob_52, tn_53, ln_53, tn_54, ln_54, tn_55, ln_55, tn_56, ln_56, ob_57, tn_58, ln_58, tn_59, ln_59, tn_60, ln_60, tn_61, ln_61, tn_62, ln_62, tn_63, ln_63, tn_64, ln_64, tn_65, ln_65, ob_66, tn_67, ln_67, tn_68, ln_68, tn_69, ln_69, tn_70, ln_70, tn_71, ln_71, tn_72, ln_72, tn_73, ln_73, ob_74, tn_75, ln_75, tn_76, ln_76, tn_77, ln_77, tn_78, ln_78, tn_79, ln_79, tn_80, ln_80, tn_81, ln_81, tn_82, ln_82, tn_83, ln_83, ob_84, tn_85, ln_85, tn_86, ln_86, tn_87, ln_87, tn_88, ln_88, tn_89, ln_89, tn_90, ln_90, tn_91, ln_91, tn_92, ln_92, tn_93, ln_93, ob_94, tn_95, ln_95, tn_96, ln_96, tn_97, ln_97, tn_98, ln_98, tn_99, ln_99, tn_100, ln_100, tn_101, ln_101, tn_102, ln_102, tn_103, ln_103, ob_104, tn_105, ln_105, tn_106, ln_106, tn_107, ln_107, tn_108, ln_108, tn_109, ln_109, tn_110, ln_110, tn_111, ln_111, tn_112, ln_112, tn_113, ln_113, ob_114, tn_115, ln_115, tn_116, ln_116, tn_117, ln_117, tn_118, ln_118, tn_119, ln_119, tn_120, ln_120, tn_121, ln_121, tn_122, ln_122, tn_123, ln_123, ob_124, tn_125, ln_125, tn_126, ln_126, tn_127, ln_127, tn_128, ln_128, tn_129, ln_129, tn_130, ln_130, tn_131, ln_131, tn_132, ln_132, tn_133, ln_133, ob_134, tn_135, ln_135, tn_136, ln_136, tn_137, ln_137, tn_138, ln_138, tn_139, ln_139, tn_140, ln_140, tn_141, ln_141, tn_142, ln_142, tn_143, ln_143, ob_144, tn_145, ln_145, tn_146, ln_146, tn_147, ln_147, tn_148, ln_148, tn_149, ln_149, tn_150, ln_150, tn_151, ln_151, tn_152, ln_152, tn_153, ln_153, ob_154, tn_155, ln_155, tn_156, ln_156, tn_157, ln_157, tn_158, ln_158, tn_159, ln_159, tn_160, ln_160, tn_161, ln_161, tn_162, ln_162, tn_163, ln_163, ob_164, tn_165, ln_165, tn_166, ln_166, ob_167, tn_168, ln_168, tn_169, ln_169, tn_170, ln_170, tn_171, ln_171, tn_172, ln_172, tn_173, ln_173, tn_174, ln_174, tn_175, ln_175, tn_176, ln_176, ob_177, tn_178, ln_178, tn_179, ln_179, ob_180, tn_181, ln_181, tn_182, ln_182, tn_183, ln_183, tn_184, ln_184, tn_185, ln_185, tn_186, ln_186, tn_187, ln_187, tn_188, ln_188, tn_189, ln_189, tn_190, ln_190, tn_191, ln_191, tn_192, ln_192, tn_193, ln_193, tn_194, ln_194, tn_195, ln_195, tn_196, ln_196, tn_197, ln_197, tn_198, ln_198, tn_199, ln_199, tn_200, ln_200, tn_201, ln_201, tn_202, ln_202, tn_203, ln_203, tn_204, ln_204, tn_205, ln_205, tn_206, ln_206, tn_207, ln_207, tn_208, ln_208, tn_209, ln_209, tn_210, ln_210, tn_211, ln_211, tn_212, ln_212, tn_213, ln_213, tn_214, ln_214, tn_215, ln_215, tn_216, ln_216, tn_217, ln_217, tn_218, ln_218, tn_219, ln_219, tn_220, ln_220, tn_221, ln_221, tn_222, ln_222, tn_223, ln_223, tn_224, ln_224, tn_225, ln_225, tn_226, ln_226, tn_227, ln_227, tn_228, ln_228, tn_229, ln_229, tn_230, ln_230, lx2, lx3, lx4, lx5, lx6, lx7, lx8, lx9, lx10, lx14, lx15, lx16, lx18, lx20, lx24, lx25, lx27, lx32, lx36, lx40, lx41, lx42, lx43, lx45, lx48, lx52, lx54, lx56, lx57, lx58, lx60, lx61, lx62, lx63, lx64, lx66, lx69, lx73, lx80, lx81, lx84, lx85, lx87, lx94, lx96, lx97, lx120, lx128, lx135, lx160, lx162, lx163, lx165, lx200, lx232, lx242, lx243, lx255, lx256, lx320, lx325, lx400, lx405, lx464, lx512, lx600, lx640, lx752, lx900, lx940, lx1000, lx1024, lx1764, lx3360, lx3840, lx5000, lx6400, lx9050, lx9998, lx9999, lx10000, lx25600, lx76800, lx99999, h24]
    have h4 : i < vN v → vcl v i ≤ i ∧ xi B 182 (54 + i) = nI (vcl v i) := fun q => ⟨(hc i (by omega)).1, isR_cl hR (by omega)⟩
    refine ⟨fun a => ?_, fun a => ⟨by omega, fun b => ?_, fun b => ?_⟩⟩
    · rw [show i = vN v by omega]; exact hP
    · have h5 := h4 (by omega)
      rw [h5.2, nI_eq (by omega) (by omega)] at b
      exact xB1 (b := vN v - (i + 1)) (by omega) ⟨v, i + 1, hR, hw, hc, h24, hP, rfl, by omega, by simp only [cnt, b, if_false, Nat.add_zero], rfl⟩
    · have h5 := h4 (by omega)
      rw [h5.2, nI_eq (by omega) (by omega)] at b
      exact xB1 (b := vN v - (i + 1)) (by omega) ⟨v, i + 1, hR, hw, hc, h24, hP, rfl, by omega, by simp only [cnt, b, if_true], rfl⟩
def f_X12_inClass (q : Nat) (x : Int32) (A : xH) (P : xP) : Prop := q = 180 ∧ ∃ v c, isR A v ∧ wfg v ∧ wfc v ∧ xi A 180 24 = nI (vN v) ∧ x = nI c ∧ c < 42 ∧ P (some (.int (nI (cnt (fun i => vcl v i = c) (vN v))))) A
def inc4 (P : xP) : xM → xK := fun μ L st B => ∃ v c i, isR B v ∧ wfg v ∧ wfc v ∧ xi B 180 24 = nI (vN v) ∧ c < 42 ∧ P (some (.int (nI (cnt (fun i => vcl v i = c) (vN v))))) B ∧ st = [] ∧ i ≤ vN v ∧ L = [some (.ref 180), some (.int (nI c)), some (.int (nI (cnt (fun i => vcl v i = c) i))), some (.int (nI i))] ∧ μ = (vN v - i, 0, 0)
set_option maxRecDepth 20000 in
theorem con_X12_inClass (l : Launch) : xCon l yX12_inClass cX12_inClass 4 (some .int) 0 0 xN xN 0 xFT xFT (w_RI f_X12_inClass) := by
  refine m_X12_inClass (I4 := fun q x A P => inc4 P) ?_ ?_
  · rintro q x A P ⟨rfl, v, c, hR, hw, hc, h24, rfl, hcl, hP⟩
    simp (disch := omega) only [k_X12_inClass_0, k_X12_inClass_4, k_X12_inClass_31, x_aload, x_iadd, x_icmp_ge, x_icmp_ne, x_iinc, x_iload, x_iret, x_istore, x_push, y_getF, y_getI, y_iald, xFT, xbool0, xbool1, Nat.reduceAdd, Nat.zero_add, xgl_0, xgl_s, xgl_n, xst_0, xst_1n, xst_1i, xst_1r, xst_1l, xst_s, set_0, set_s, true_and, and_true, xres, xcat_nil, xcat_i, xcat_r, xcat_l, Nat.add_zero, xble0, xble1, xble2, xble3, xble4, xble5, xble6, xble7, xble8, pk_mul, nI_add, nI_1, nI_leI, nI_ltI, nI_eq, n_in, n_cl, z_eq, z_lt, z_le, z_gt, z_ge, z_qe, o_eq, o_lt, o_le, o_gt, o_ge, vp0, vp1, cl0, cl1, n_sub, n_sub1, n_pm1, n_a0, n_0a, ofn, lN0, Nat.reduceLT, Nat.reduceLeDiff, Nat.reduceMul, Nat.reduceSub, Nat.reduceEqDiff, ne_eq, true_implies, false_implies, not_true_eq_false, not_false_eq_true, and_self, and_true, true_and, and_false, false_and, implies_true, if_true, if_false, i00, i10, i01, i11, ob_0, ob_1, tn_2, ln_2, ob_3, tn_4, ln_4, ob_5, tn_6, ln_6, tn_7, ln_7, ob_8, tn_9, ln_9, tn_10, ln_10, tn_11, ln_11, tn_12, ln_12, tn_13, ln_13, tn_14, ln_14, tn_15, ln_15, tn_16, ln_16, tn_17, ln_17, ob_18, tn_19, ln_19, tn_20, ln_20, tn_21, ln_21, tn_22, ln_22, tn_23, ln_23, tn_24, ln_24, tn_25, ln_25, tn_26, ln_26, tn_27, ln_27, ob_28, tn_29, ln_29, tn_30, ln_30, ob_31, tn_32, ln_32, tn_33, ln_33, ob_34, ob_35, tn_36, ln_36, tn_37, ln_37, tn_38, ln_38, ob_39, tn_40, ln_40, tn_41, ln_41, tn_42, ln_42, tn_43, ln_43, tn_44, ln_44, tn_45, ln_45, tn_46, ln_46, tn_47, ln_47, tn_48, ln_48, tn_49, ln_49, tn_50, ln_50, tn_51, ln_51, ob_52, tn_53, ln_53, tn_54, ln_54, tn_55, ln_55, tn_56, ln_56, ob_57, tn_58, ln_58, tn_59, ln_59, tn_60, ln_60, tn_61, ln_61, tn_62, ln_62, tn_63, ln_63, tn_64, ln_64, tn_65, ln_65, ob_66, tn_67, ln_67, tn_68, ln_68, tn_69, ln_69, tn_70, ln_70, tn_71, ln_71, tn_72, ln_72, tn_73, ln_73, ob_74, tn_75, ln_75, tn_76, ln_76, tn_77, ln_77, tn_78, ln_78, tn_79, ln_79, tn_80, ln_80, tn_81, ln_81, tn_82, ln_82, tn_83, ln_83, ob_84, tn_85, ln_85, tn_86, ln_86, tn_87, ln_87, tn_88, ln_88, tn_89, ln_89, tn_90, ln_90, tn_91, ln_91, tn_92, ln_92, tn_93, ln_93, ob_94, tn_95, ln_95, tn_96, ln_96, tn_97, ln_97, tn_98, ln_98, tn_99, ln_99, tn_100, ln_100, tn_101, ln_101, tn_102, ln_102, tn_103, ln_103, ob_104, tn_105, ln_105, tn_106, ln_106, tn_107, ln_107, tn_108, ln_108, tn_109, ln_109, tn_110, ln_110, tn_111, ln_111, tn_112, ln_112, tn_113, ln_113, ob_114, tn_115, ln_115, tn_116, ln_116, tn_117, ln_117, tn_118, ln_118, tn_119, ln_119, tn_120, ln_120, tn_121, ln_121, tn_122, ln_122, tn_123, ln_123, ob_124, tn_125, ln_125, tn_126, ln_126, tn_127, ln_127, tn_128, ln_128, tn_129, ln_129, tn_130, ln_130, tn_131, ln_131, tn_132, ln_132, tn_133, ln_133, ob_134, tn_135, ln_135, tn_136, ln_136, tn_137, ln_137, tn_138, ln_138, tn_139, ln_139, tn_140, ln_140, tn_141, ln_141, tn_142, ln_142, tn_143, ln_143, ob_144, tn_145, ln_145, tn_146, ln_146, tn_147, ln_147, tn_148, ln_148, tn_149, ln_149, tn_150, ln_150, tn_151, ln_151, tn_152, ln_152, tn_153, ln_153, ob_154, tn_155, ln_155, tn_156, ln_156, tn_157, ln_157, tn_158, ln_158, tn_159, ln_159, tn_160, ln_160, tn_161, ln_161, tn_162, ln_162, tn_163, ln_163, ob_164, tn_165, ln_165, tn_166, ln_166, ob_167, tn_168, ln_168, tn_169, ln_169, tn_170, ln_170, tn_171, ln_171, tn_172, ln_172, tn_173, ln_173, tn_174, ln_174, tn_175, ln_175, tn_176, ln_176, ob_177, tn_178, ln_178, tn_179, ln_179, ob_180, tn_181, ln_181, tn_182, ln_182, tn_183, ln_183, tn_184, ln_184, tn_185, ln_185, tn_186, ln_186, tn_187, ln_187, tn_188, ln_188, tn_189, ln_189, tn_190, ln_190, tn_191, ln_191, tn_192, ln_192, tn_193, ln_193, tn_194, ln_194, tn_195, ln_195, tn_196, ln_196, tn_197, ln_197, tn_198, ln_198, tn_199, ln_199, tn_200, ln_200, tn_201, ln_201, tn_202, ln_202, tn_203, ln_203, tn_204, ln_204, tn_205, ln_205, tn_206, ln_206, tn_207, ln_207, tn_208, ln_208, tn_209, ln_209, tn_210, ln_210, tn_211, ln_211, tn_212, ln_212, tn_213, ln_213, tn_214, ln_214, tn_215, ln_215, tn_216, ln_216, tn_217, ln_217, tn_218, ln_218, tn_219, ln_219, tn_220, ln_220, tn_221, ln_221, tn_222, ln_222, tn_223, ln_223, tn_224, ln_224, tn_225, ln_225, tn_226, ln_226, tn_227, ln_227, tn_228, ln_228, tn_229, ln_229, tn_230, ln_230, lx2, lx3, lx4, lx5, lx6, lx7, lx8, lx9, lx10, lx14, lx15, lx16, lx18, lx20, lx24, lx25, lx27, lx32, lx36, lx40, lx41, lx42, lx43, lx45, lx48, lx52, lx54, lx56, lx57, lx58, lx60, lx61, lx62, lx63, lx64, lx66, lx69, lx73, lx80, lx81, lx84, lx85, lx87, lx94, lx96, lx97, lx120, lx128, lx135, lx160, lx162, lx163, lx165, lx200, lx232, lx242, lx243, lx255, lx256, lx320, lx325, lx400, lx405, lx464, lx512, lx600, lx640, lx752, lx900, lx940, lx1000, lx1024, lx1764, lx3360, lx3840, lx5000, lx6400, lx9050, lx9998, lx9999, lx10000, lx25600, lx76800, lx99999]
    exact xE0 (vN v - 0, 0, 0) ⟨v, c, 0, hR, hw, hc, h24, hcl, hP, rfl, Nat.zero_le _, rfl, rfl⟩
  · rintro q x A P - μ L st B ⟨v, c, i, hR, hw, hc, h24, hcl, hP, rfl, hi, rfl, rfl⟩
    have hN := vN_le hw
    simp (disch := omega) only [k_X12_inClass_0, k_X12_inClass_4, k_X12_inClass_31, x_aload, x_iadd, x_icmp_ge, x_icmp_ne, x_iinc, x_iload, x_iret, x_istore, x_push, y_getF, y_getI, y_iald, xFT, xbool0, xbool1, Nat.reduceAdd, Nat.zero_add, xgl_0, xgl_s, xgl_n, xst_0, xst_1n, xst_1i, xst_1r, xst_1l, xst_s, set_0, set_s, true_and, and_true, xres, xcat_nil, xcat_i, xcat_r, xcat_l, Nat.add_zero, xble0, xble1, xble2, xble3, xble4, xble5, xble6, xble7, xble8, pk_mul, nI_add, nI_1, nI_leI, nI_ltI, nI_eq, n_in, n_cl, z_eq, z_lt, z_le, z_gt, z_ge, z_qe, o_eq, o_lt, o_le, o_gt, o_ge, vp0, vp1, cl0, cl1, n_sub, n_sub1, n_pm1, n_a0, n_0a, ofn, lN0, Nat.reduceLT, Nat.reduceLeDiff, Nat.reduceMul, Nat.reduceSub, Nat.reduceEqDiff, ne_eq, true_implies, false_implies, not_true_eq_false, not_false_eq_true, and_self, and_true, true_and, and_false, false_and, implies_true, if_true, if_false, i00, i10, i01, i11, ob_0, ob_1, tn_2, ln_2, ob_3, tn_4, ln_4, ob_5, tn_6, ln_6, tn_7, ln_7, ob_8, tn_9, ln_9, tn_10, ln_10, tn_11, ln_11, tn_12, ln_12, tn_13, ln_13, tn_14, ln_14, tn_15, ln_15, tn_16, ln_16, tn_17, ln_17, ob_18, tn_19, ln_19, tn_20, ln_20, tn_21, ln_21, tn_22, ln_22, tn_23, ln_23, tn_24, ln_24, tn_25, ln_25, tn_26, ln_26, tn_27, ln_27, ob_28, tn_29, ln_29, tn_30, ln_30, ob_31, tn_32, ln_32, tn_33, ln_33, ob_34, ob_35, tn_36, ln_36, tn_37, ln_37, tn_38, ln_38, ob_39, tn_40, ln_40, tn_41, ln_41, tn_42, ln_42, tn_43, ln_43, tn_44, ln_44, tn_45, ln_45, tn_46, ln_46, tn_47, ln_47, tn_48, ln_48, tn_49, ln_49, tn_50, ln_50, tn_51, ln_51, ob_52, tn_53, ln_53, tn_54, ln_54, tn_55, ln_55, tn_56, ln_56, ob_57, tn_58, ln_58, tn_59, ln_59, tn_60, ln_60, tn_61, ln_61, tn_62, ln_62, tn_63, ln_63, tn_64, ln_64, tn_65, ln_65, ob_66, tn_67, ln_67, tn_68, ln_68, tn_69, ln_69, tn_70, ln_70, tn_71, ln_71, tn_72, ln_72, tn_73, ln_73, ob_74, tn_75, ln_75, tn_76, ln_76, tn_77, ln_77, tn_78, ln_78, tn_79, ln_79, tn_80, ln_80, tn_81, ln_81, tn_82, ln_82, tn_83, ln_83, ob_84, tn_85, ln_85, tn_86, ln_86, tn_87, ln_87, tn_88, ln_88, tn_89, ln_89, tn_90, ln_90, tn_91, ln_91, tn_92, ln_92, tn_93, ln_93, ob_94, tn_95, ln_95, tn_96, ln_96, tn_97, ln_97, tn_98, ln_98, tn_99, ln_99, tn_100, ln_100, tn_101, ln_101, tn_102, ln_102, tn_103, ln_103, ob_104, tn_105, ln_105, tn_106, ln_106, tn_107, ln_107, tn_108, ln_108, tn_109, ln_109, tn_110, ln_110, tn_111, ln_111, tn_112, ln_112, tn_113, ln_113, ob_114, tn_115, ln_115, tn_116, ln_116, tn_117, ln_117, tn_118, ln_118, tn_119, ln_119, tn_120, ln_120, tn_121, ln_121, tn_122, ln_122, tn_123, ln_123, ob_124, tn_125, ln_125, tn_126, ln_126, tn_127, ln_127, tn_128, ln_128, tn_129, ln_129, tn_130, ln_130, tn_131, ln_131, tn_132, ln_132, tn_133, ln_133, ob_134, tn_135, ln_135, tn_136, ln_136, tn_137, ln_137, tn_138, ln_138, tn_139, ln_139, tn_140, ln_140, tn_141, ln_141, tn_142, ln_142, tn_143, ln_143, ob_144, tn_145, ln_145, tn_146, ln_146, tn_147, ln_147, tn_148, ln_148, tn_149, ln_149, tn_150, ln_150, tn_151, ln_151, tn_152, ln_152, tn_153, ln_153, ob_154, tn_155, ln_155, tn_156, ln_156, tn_157, ln_157, tn_158, ln_158, tn_159, ln_159, tn_160, ln_160, tn_161, ln_161, tn_162, ln_162, tn_163, ln_163, ob_164, tn_165, ln_165, tn_166, ln_166, ob_167, tn_168, ln_168, tn_169, ln_169, tn_170, ln_170, tn_171, ln_171, tn_172, ln_172, tn_173, ln_173, tn_174, ln_174, tn_175, ln_175, tn_176, ln_176, ob_177, tn_178, ln_178, tn_179, ln_179, ob_180, tn_181, ln_181, tn_182, ln_182, tn_183, ln_183, tn_184, ln_184, tn_185, ln_185, tn_186, ln_186, tn_187, ln_187, tn_188, ln_188, tn_189, ln_189, tn_190, ln_190, tn_191, ln_191, tn_192, ln_192, tn_193, ln_193, tn_194, ln_194, tn_195, ln_195, tn_196, ln_196, tn_197, ln_197, tn_198, ln_198, tn_199, ln_199, tn_200, ln_200, tn_201, ln_201, tn_202, ln_202, tn_203, ln_203, tn_204, ln_204, tn_205, ln_205, tn_206, ln_206, tn_207, ln_207, tn_208, ln_208, tn_209, ln_209, tn_210, ln_210, tn_211, ln_211, tn_212, ln_212, tn_213, ln_213, tn_214, ln_214, tn_215, ln_215, tn_216, ln_216, tn_217, ln_217, tn_218, ln_218, tn_219, ln_219, tn_220, ln_220, tn_221, ln_221, tn_222, ln_222, tn_223, ln_223, tn_224, ln_224, tn_225, ln_225, tn_226, ln_226, tn_227, ln_227, tn_228, ln_228, tn_229, ln_229, tn_230, ln_230, lx2, lx3, lx4, lx5, lx6, lx7, lx8, lx9, lx10, lx14, lx15, lx16, lx18, lx20, lx24, lx25, lx27, lx32, lx36, lx40, lx41, lx42, lx43, lx45, lx48, lx52, lx54, lx56, lx57, lx58, lx60, lx61, lx62, lx63, lx64, lx66, lx69, lx73, lx80, lx81, lx84, lx85, lx87, lx94, lx96, lx97, lx120, lx128, lx135, lx160, lx162, lx163, lx165, lx200, lx232, lx242, lx243, lx255, lx256, lx320, lx325, lx400, lx405, lx464, lx512, lx600, lx640, lx752, lx900, lx940, lx1000, lx1024, lx1764, lx3360, lx3840, lx5000, lx6400, lx9050, lx9998, lx9999, lx10000, lx25600, lx76800, lx99999, h24]
    have h4 : i < vN v → vcl v i ≤ i ∧ xi B 182 (54 + i) = nI (vcl v i) := fun q => ⟨(hc i (by omega)).1, isR_cl hR (by omega)⟩
    refine ⟨fun a => ?_, fun a => ⟨by omega, fun b => ?_, fun b => ?_⟩⟩
    · rw [show i = vN v by omega]; exact hP
    · have h5 := h4 (by omega)
      rw [h5.2, nI_eq (by omega) (by omega)] at b
      exact xB1 (b := vN v - (i + 1)) (by omega) ⟨v, c, i + 1, hR, hw, hc, h24, hcl, hP, rfl, by omega, by simp only [cnt, b, if_false, Nat.add_zero], rfl⟩
    · have h5 := h4 (by omega)
      rw [h5.2, nI_eq (by omega) (by omega)] at b
      exact xB1 (b := vN v - (i + 1)) (by omega) ⟨v, c, i + 1, hR, hw, hc, h24, hcl, hP, rfl, by omega, by simp only [cnt, b, if_true], rfl⟩
/-- a row copied out of what is so -/
def f_X12_copies (q c : Nat) (A : xH) (P : xP) : Prop := q = 180 ∧ (c = 208 ∨ c = 209) ∧ P none (xsA A c (fun j => if j < 94 then xi A 182 (2 + j) else xi A c j))
def cps (c : Nat) (A : xH) (P : xP) : xM → xK := fun μ L st B => ∃ i, P none (xsA A c (fun j => if j < 94 then xi A 182 (2 + j) else xi A c j)) ∧ (c = 208 ∨ c = 209) ∧ i ≤ 94 ∧ B = xsA A c (fun j => if j < i then xi A 182 (2 + j) else xi A c j) ∧ st = [] ∧ L = [some (.ref 180), some (.ref c), some (.int (nI i))] ∧ μ = (94 - i, 0, 0)
set_option maxRecDepth 20000 in
theorem con_X12_copies (l : Launch) : xCon l yX12_copies cX12_copies 3 none 0 0 xN xN 0 xFT xFT (w_RR f_X12_copies) := by
  refine m_X12_copies (I2 := fun q c A P => cps c A P) ?_ ?_
  · rintro q c A P ⟨rfl, hc, hP⟩
    simp (disch := omega) only [k_X12_copies_0, k_X12_copies_2, x_aload, x_iadd, x_iast, x_icmp_ge, x_iinc, x_iload, x_istore, x_push, x_vret, y_getF, y_iald, xFT, xbool0, xbool1, Nat.reduceAdd, Nat.zero_add, xgl_0, xgl_s, xgl_n, xst_0, xst_1n, xst_1i, xst_1r, xst_1l, xst_s, set_0, set_s, true_and, and_true, xres, xcat_nil, xcat_i, xcat_r, xcat_l, Nat.add_zero, xble0, xble1, xble2, xble3, xble4, xble5, xble6, xble7, xble8, pk_mul, nI_add, nI_1, nI_leI, nI_ltI, nI_eq, n_in, n_cl, z_eq, z_lt, z_le, z_gt, z_ge, z_qe, o_eq, o_lt, o_le, o_gt, o_ge, vp0, vp1, cl0, cl1, n_sub, n_sub1, n_pm1, n_a0, n_0a, ofn, lN0, Nat.reduceLT, Nat.reduceLeDiff, Nat.reduceMul, Nat.reduceSub, Nat.reduceEqDiff, ne_eq, true_implies, false_implies, not_true_eq_false, not_false_eq_true, and_self, and_true, true_and, and_false, false_and, implies_true, if_true, if_false, i00, i10, i01, i11, ob_0, ob_1, tn_2, ln_2, ob_3, tn_4, ln_4, ob_5, tn_6, ln_6, tn_7, ln_7, ob_8, tn_9, ln_9, tn_10, ln_10, tn_11, ln_11, tn_12, ln_12, tn_13, ln_13, tn_14, ln_14, tn_15, ln_15, tn_16, ln_16, tn_17, ln_17, ob_18, tn_19, ln_19, tn_20, ln_20, tn_21, ln_21, tn_22, ln_22, tn_23, ln_23, tn_24, ln_24, tn_25, ln_25, tn_26, ln_26, tn_27, ln_27, ob_28, tn_29, ln_29, tn_30, ln_30, ob_31, tn_32, ln_32, tn_33, ln_33, ob_34, ob_35, tn_36, ln_36, tn_37, ln_37, tn_38, ln_38, ob_39, tn_40, ln_40, tn_41, ln_41, tn_42, ln_42, tn_43, ln_43, tn_44, ln_44, tn_45, ln_45, tn_46, ln_46, tn_47, ln_47, tn_48, ln_48, tn_49, ln_49, tn_50, ln_50, tn_51, ln_51, ob_52, tn_53, ln_53, tn_54, ln_54, tn_55, ln_55, tn_56, ln_56, ob_57, tn_58, ln_58, tn_59, ln_59, tn_60, ln_60, tn_61, ln_61, tn_62, ln_62, tn_63, ln_63, tn_64, ln_64, tn_65, ln_65, ob_66, tn_67, ln_67, tn_68, ln_68, tn_69, ln_69, tn_70, ln_70, tn_71, ln_71, tn_72, ln_72, tn_73, ln_73, ob_74, tn_75, ln_75, tn_76, ln_76, tn_77, ln_77, tn_78, ln_78, tn_79, ln_79, tn_80, ln_80, tn_81, ln_81, tn_82, ln_82, tn_83, ln_83, ob_84, tn_85, ln_85, tn_86, ln_86, tn_87, ln_87, tn_88, ln_88, tn_89, ln_89, tn_90, ln_90, tn_91, ln_91, tn_92, ln_92, tn_93, ln_93, ob_94, tn_95, ln_95, tn_96, ln_96, tn_97, ln_97, tn_98, ln_98, tn_99, ln_99, tn_100, ln_100, tn_101, ln_101, tn_102, ln_102, tn_103, ln_103, ob_104, tn_105, ln_105, tn_106, ln_106, tn_107, ln_107, tn_108, ln_108, tn_109, ln_109, tn_110, ln_110, tn_111, ln_111, tn_112, ln_112, tn_113, ln_113, ob_114, tn_115, ln_115, tn_116, ln_116, tn_117, ln_117, tn_118, ln_118, tn_119, ln_119, tn_120, ln_120, tn_121, ln_121, tn_122, ln_122, tn_123, ln_123, ob_124, tn_125, ln_125, tn_126, ln_126, tn_127, ln_127, tn_128, ln_128, tn_129, ln_129, tn_130, ln_130, tn_131, ln_131, tn_132, ln_132, tn_133, ln_133, ob_134, tn_135, ln_135, tn_136, ln_136, tn_137, ln_137, tn_138, ln_138, tn_139, ln_139, tn_140, ln_140, tn_141, ln_141, tn_142, ln_142, tn_143, ln_143, ob_144, tn_145, ln_145, tn_146, ln_146, tn_147, ln_147, tn_148, ln_148, tn_149, ln_149, tn_150, ln_150, tn_151, ln_151, tn_152, ln_152, tn_153, ln_153, ob_154, tn_155, ln_155, tn_156, ln_156, tn_157, ln_157, tn_158, ln_158, tn_159, ln_159, tn_160, ln_160, tn_161, ln_161, tn_162, ln_162, tn_163, ln_163, ob_164, tn_165, ln_165, tn_166, ln_166, ob_167, tn_168, ln_168, tn_169, ln_169, tn_170, ln_170, tn_171, ln_171, tn_172, ln_172, tn_173, ln_173, tn_174, ln_174, tn_175, ln_175, tn_176, ln_176, ob_177, tn_178, ln_178, tn_179, ln_179, ob_180, tn_181, ln_181, tn_182, ln_182, tn_183, ln_183, tn_184, ln_184, tn_185, ln_185, tn_186, ln_186, tn_187, ln_187, tn_188, ln_188, tn_189, ln_189, tn_190, ln_190, tn_191, ln_191, tn_192, ln_192, tn_193, ln_193, tn_194, ln_194, tn_195, ln_195, tn_196, ln_196, tn_197, ln_197, tn_198, ln_198, tn_199, ln_199, tn_200, ln_200, tn_201, ln_201, tn_202, ln_202, tn_203, ln_203, tn_204, ln_204, tn_205, ln_205, tn_206, ln_206, tn_207, ln_207, tn_208, ln_208, tn_209, ln_209, tn_210, ln_210, tn_211, ln_211, tn_212, ln_212, tn_213, ln_213, tn_214, ln_214, tn_215, ln_215, tn_216, ln_216, tn_217, ln_217, tn_218, ln_218, tn_219, ln_219, tn_220, ln_220, tn_221, ln_221, tn_222, ln_222, tn_223, ln_223, tn_224, ln_224, tn_225, ln_225, tn_226, ln_226, tn_227, ln_227, tn_228, ln_228, tn_229, ln_229, tn_230, ln_230, lx2, lx3, lx4, lx5, lx6, lx7, lx8, lx9, lx10, lx14, lx15, lx16, lx18, lx20, lx24, lx25, lx27, lx32, lx36, lx40, lx41, lx42, lx43, lx45, lx48, lx52, lx54, lx56, lx57, lx58, lx60, lx61, lx62, lx63, lx64, lx66, lx69, lx73, lx80, lx81, lx84, lx85, lx87, lx94, lx96, lx97, lx120, lx128, lx135, lx160, lx162, lx163, lx165, lx200, lx232, lx242, lx243, lx255, lx256, lx320, lx325, lx400, lx405, lx464, lx512, lx600, lx640, lx752, lx900, lx940, lx1000, lx1024, lx1764, lx3360, lx3840, lx5000, lx6400, lx9050, lx9998, lx9999, lx10000, lx25600, lx76800, lx99999]
    exact xE0 (94, 0, 0) ⟨0, hP, hc, Nat.zero_le _, (xsA_self fun j => by rw [if_neg (Nat.not_lt_zero j)]).symm, rfl, rfl, rfl⟩
  · rintro q c A P - μ L st B ⟨i, hP, hc, hi, rfl, rfl, rfl, rfl⟩
    have ht : xtn xN c = 1 ∧ (xsh c).2 = 94 := by rcases hc with rfl | rfl <;> exact ⟨by decide +kernel, by decide +kernel⟩
    simp (disch := omega) only [k_X12_copies_0, k_X12_copies_2, x_aload, x_iadd, x_iast, x_icmp_ge, x_iinc, x_iload, x_istore, x_push, x_vret, y_getF, y_iald, xFT, xbool0, xbool1, Nat.reduceAdd, Nat.zero_add, xgl_0, xgl_s, xgl_n, xst_0, xst_1n, xst_1i, xst_1r, xst_1l, xst_s, set_0, set_s, true_and, and_true, xres, xcat_nil, xcat_i, xcat_r, xcat_l, Nat.add_zero, xble0, xble1, xble2, xble3, xble4, xble5, xble6, xble7, xble8, pk_mul, nI_add, nI_1, nI_leI, nI_ltI, nI_eq, n_in, n_cl, z_eq, z_lt, z_le, z_gt, z_ge, z_qe, o_eq, o_lt, o_le, o_gt, o_ge, vp0, vp1, cl0, cl1, n_sub, n_sub1, n_pm1, n_a0, n_0a, ofn, lN0, Nat.reduceLT, Nat.reduceLeDiff, Nat.reduceMul, Nat.reduceSub, Nat.reduceEqDiff, ne_eq, true_implies, false_implies, not_true_eq_false, not_false_eq_true, and_self, and_true, true_and, and_false, false_and, implies_true, if_true, if_false, i00, i10, i01, i11, ob_0, ob_1, tn_2, ln_2, ob_3, tn_4, ln_4, ob_5, tn_6, ln_6, tn_7, ln_7, ob_8, tn_9, ln_9, tn_10, ln_10, tn_11, ln_11, tn_12, ln_12, tn_13, ln_13, tn_14, ln_14, tn_15, ln_15, tn_16, ln_16, tn_17, ln_17, ob_18, tn_19, ln_19, tn_20, ln_20, tn_21, ln_21, tn_22, ln_22, tn_23, ln_23, tn_24, ln_24, tn_25, ln_25, tn_26, ln_26, tn_27, ln_27, ob_28, tn_29, ln_29, tn_30, ln_30, ob_31, tn_32, ln_32, tn_33, ln_33, ob_34, ob_35, tn_36, ln_36, tn_37, ln_37, tn_38, ln_38, ob_39, tn_40, ln_40, tn_41, ln_41, tn_42, ln_42, tn_43, ln_43, tn_44, ln_44, tn_45, ln_45, tn_46, ln_46, tn_47, ln_47, tn_48, ln_48, tn_49, ln_49, tn_50, ln_50, tn_51, ln_51, ob_52, tn_53, ln_53, tn_54, ln_54, tn_55, ln_55, tn_56, ln_56, ob_57, tn_58, ln_58, tn_59, ln_59, tn_60, ln_60, tn_61, ln_61, tn_62, ln_62, tn_63, ln_63, tn_64, ln_64, tn_65, ln_65, ob_66, tn_67, ln_67, tn_68, ln_68, tn_69, ln_69, tn_70, ln_70, tn_71, ln_71, tn_72, ln_72, tn_73, ln_73, ob_74, tn_75, ln_75, tn_76, ln_76, tn_77, ln_77, tn_78, ln_78, tn_79, ln_79, tn_80, ln_80, tn_81, ln_81, tn_82, ln_82, tn_83, ln_83, ob_84, tn_85, ln_85, tn_86, ln_86, tn_87, ln_87, tn_88, ln_88, tn_89, ln_89, tn_90, ln_90, tn_91, ln_91, tn_92, ln_92, tn_93, ln_93, ob_94, tn_95, ln_95, tn_96, ln_96, tn_97, ln_97, tn_98, ln_98, tn_99, ln_99, tn_100, ln_100, tn_101, ln_101, tn_102, ln_102, tn_103, ln_103, ob_104, tn_105, ln_105, tn_106, ln_106, tn_107, ln_107, tn_108, ln_108, tn_109, ln_109, tn_110, ln_110, tn_111, ln_111, tn_112, ln_112, tn_113, ln_113, ob_114, tn_115, ln_115, tn_116, ln_116, tn_117, ln_117, tn_118, ln_118, tn_119, ln_119, tn_120, ln_120, tn_121, ln_121, tn_122, ln_122, tn_123, ln_123, ob_124, tn_125, ln_125, tn_126, ln_126, tn_127, ln_127, tn_128, ln_128, tn_129, ln_129, tn_130, ln_130, tn_131, ln_131, tn_132, ln_132, tn_133, ln_133, ob_134, tn_135, ln_135, tn_136, ln_136, tn_137, ln_137, tn_138, ln_138, tn_139, ln_139, tn_140, ln_140, tn_141, ln_141, tn_142, ln_142, tn_143, ln_143, ob_144, tn_145, ln_145, tn_146, ln_146, tn_147, ln_147, tn_148, ln_148, tn_149, ln_149, tn_150, ln_150, tn_151, ln_151, tn_152, ln_152, tn_153, ln_153, ob_154, tn_155, ln_155, tn_156, ln_156, tn_157, ln_157, tn_158, ln_158, tn_159, ln_159, tn_160, ln_160, tn_161, ln_161, tn_162, ln_162, tn_163, ln_163, ob_164, tn_165, ln_165, tn_166, ln_166, ob_167, tn_168, ln_168, tn_169, ln_169, tn_170, ln_170, tn_171, ln_171, tn_172, ln_172, tn_173, ln_173, tn_174, ln_174, tn_175, ln_175, tn_176, ln_176, ob_177, tn_178, ln_178, tn_179, ln_179, ob_180, tn_181, ln_181, tn_182, ln_182, tn_183, ln_183, tn_184, ln_184, tn_185, ln_185, tn_186, ln_186, tn_187, ln_187, tn_188, ln_188, tn_189, ln_189, tn_190, ln_190, tn_191, ln_191, tn_192, ln_192, tn_193, ln_193, tn_194, ln_194, tn_195, ln_195, tn_196, ln_196, tn_197, ln_197, tn_198, ln_198, tn_199, ln_199, tn_200, ln_200, tn_201, ln_201, tn_202, ln_202, tn_203, ln_203, tn_204, ln_204, tn_205, ln_205, tn_206, ln_206, tn_207, ln_207, tn_208, ln_208, tn_209, ln_209, tn_210, ln_210, tn_211, ln_211, tn_212, ln_212, tn_213, ln_213, tn_214, ln_214, tn_215, ln_215, tn_216, ln_216, tn_217, ln_217, tn_218, ln_218, tn_219, ln_219, tn_220, ln_220, tn_221, ln_221, tn_222, ln_222, tn_223, ln_223, tn_224, ln_224, tn_225, ln_225, tn_226, ln_226, tn_227, ln_227, tn_228, ln_228, tn_229, ln_229, tn_230, ln_230, lx2, lx3, lx4, lx5, lx6, lx7, lx8, lx9, lx10, lx14, lx15, lx16, lx18, lx20, lx24, lx25, lx27, lx32, lx36, lx40, lx41, lx42, lx43, lx45, lx48, lx52, lx54, lx56, lx57, lx58, lx60, lx61, lx62, lx63, lx64, lx66, lx69, lx73, lx80, lx81, lx84, lx85, lx87, lx94, lx96, lx97, lx120, lx128, lx135, lx160, lx162, lx163, lx165, lx200, lx232, lx242, lx243, lx255, lx256, lx320, lx325, lx400, lx405, lx464, lx512, lx600, lx640, lx752, lx900, lx940, lx1000, lx1024, lx1764, lx3360, lx3840, lx5000, lx6400, lx9050, lx9998, lx9999, lx10000, lx25600, lx76800, lx99999, ht.1, ht.2, xsi_sA, sA_ne]
    (repeat' (first | intro _ | with_reducible apply And.intro)) <;> try omega
    · have : i = 94 := by omega
      subst this; exact hP
    · refine xB1 (b := 94 - (i + 1)) (by omega) ⟨i + 1, hP, hc, by omega, xsA_congr fun j => ?_, rfl, rfl, rfl⟩
      (repeat' split) <;> first | rfl | omega | (exfalso; omega) | (congr 1; omega) | (congr 2; omega)
/-- a row put to what can be undone -/
def stF (A : xH) (c um : Nat) : Nat → Int32 := if um = 8 then (fun j => if j < 658 then xi A 207 (j + 94) else if j < 752 then xi A c (j - 658) else xi A 207 j) else fun j => if 94 * um ≤ j ∧ j < 94 * um + 94 then xi A c (j - 94 * um) else xi A 207 j
def stU (A : xH) (c um : Nat) : xH := xsi (xsA A 207 (stF A c um)) 180 57 (nI (if um = 8 then 8 else um + 1))
def f_X12_stores (q c : Nat) (A : xH) (P : xP) : Prop := q = 180 ∧ (c = 208 ∨ c = 209) ∧ ∃ um, um ≤ 8 ∧ xi A 180 57 = nI um ∧ P none (stU A c um)
def sto1 (c : Nat) (A : xH) (P : xP) : xM → xK := fun μ L st B => ∃ i, xi A 180 57 = nI 8 ∧ P none (stU A c 8) ∧ (c = 208 ∨ c = 209) ∧ i ≤ 658 ∧ B = xsA A 207 (fun j => if j < i then xi A 207 (j + 94) else xi A 207 j) ∧ st = [] ∧ L = [some (.ref 180), some (.ref c), some (.int (nI i))] ∧ μ = (658 - i, 0, 0)
def sto2 (c : Nat) (A : xH) (P : xP) : xM → xK := fun μ L st B => ∃ i um w g, P none (stU A c um) ∧ (c = 208 ∨ c = 209) ∧ i ≤ 94 ∧ um ≤ 8 ∧ w = (if um = 8 then 7 else um) ∧ (∀ j, g j = if um = 8 ∧ j < 658 then xi A 207 (j + 94) else if 94 * w ≤ j ∧ j < 94 * w + i then xi A c (j - 94 * w) else xi A 207 j) ∧ B = xsi (xsA A 207 g) 180 57 (nI w) ∧ st = [] ∧ L = [some (.ref 180), some (.ref c), some (.int (nI i))] ∧ μ = (94 - i, 0, 0)
theorem si_self {A : xH} {c k : Nat} {x : Int32} (h : xi A c k = x) : xsi A c k x = A := by
  have : (fun d j => if d = c ∧ j = k then x else A.1 d j) = A.1 := by
    funext d j
    by_cases e : d = c ∧ j = k
    · rw [if_pos e, e.1, e.2]; exact h.symm
    · rw [if_neg e]
  unfold xsi
  rw [this]
theorem si_si {A : xH} {c k : Nat} {x y : Int32} : xsi (xsi A c k x) c k y = xsi A c k y := by
  unfold xsi
  congr 1
  funext d j
  by_cases e : d = c ∧ j = k <;> simp [e]
theorem si_sA {A : xH} {c d k m : Nat} {f : Nat → Int32} {x y : Int32} (h : c ≠ d) : xsi (xsi (xsA A c f) d k x) c m y = xsi (xsA A c (fun j => if j = m then y else f j)) d k x := by
  unfold xsi xsA
  congr 1
  funext e j
  by_cases h1 : e = c
  · subst h1; by_cases h2 : j = m <;> simp [h2, h]
  · by_cases h2 : e = d ∧ j = k
    · obtain ⟨rfl, rfl⟩ := h2
      simp [h1]
    · simp [h1, h2]
theorem sA_sA {A : xH} {c : Nat} {f g : Nat → Int32} : xsA (xsA A c f) c g = xsA A c g := by
  unfold xsA
  congr 1
  funext d j
  by_cases e : d = c <;> simp [e]
set_option maxRecDepth 20000 in
theorem con_X12_stores (l : Launch) : xCon l yX12_stores cX12_stores 3 none 0 0 xN xN 0 xFT xFT (w_RR f_X12_stores) := by
  refine m_X12_stores (I11 := fun q c A P => sto1 c A P) (I47 := fun q c A P => sto2 c A P) ?_ ?_ ?_
  · rintro q c A P ⟨rfl, hc, um, h8, h57, hP⟩
    simp (disch := omega) only [k_X12_stores_0, k_X12_stores_11, k_X12_stores_47, k_X12_stores_45, x_aload, x_dup, x_iadd, x_iald, x_icmp_ge, x_icmp_ne, x_iinc, x_iload, x_imul, x_istore, x_push, x_vret, y_getF, y_getI, y_iald, y_iast, y_putI, xFT, xbool0, xbool1, Nat.reduceAdd, Nat.zero_add, xgl_0, xgl_s, xgl_n, xst_0, xst_1n, xst_1i, xst_1r, xst_1l, xst_s, set_0, set_s, true_and, and_true, xres, xcat_nil, xcat_i, xcat_r, xcat_l, Nat.add_zero, xble0, xble1, xble2, xble3, xble4, xble5, xble6, xble7, xble8, pk_mul, nI_add, nI_1, nI_leI, nI_ltI, nI_eq, n_in, n_cl, z_eq, z_lt, z_le, z_gt, z_ge, z_qe, o_eq, o_lt, o_le, o_gt, o_ge, vp0, vp1, cl0, cl1, n_sub, n_sub1, n_pm1, n_a0, n_0a, ofn, lN0, Nat.reduceLT, Nat.reduceLeDiff, Nat.reduceMul, Nat.reduceSub, Nat.reduceEqDiff, ne_eq, true_implies, false_implies, not_true_eq_false, not_false_eq_true, and_self, and_true, true_and, and_false, false_and, implies_true, if_true, if_false, i00, i10, i01, i11, ob_0, ob_1, tn_2, ln_2, ob_3, tn_4, ln_4, ob_5, tn_6, ln_6, tn_7, ln_7, ob_8, tn_9, ln_9, tn_10, ln_10, tn_11, ln_11, tn_12, ln_12, tn_13, ln_13, tn_14, ln_14, tn_15, ln_15, tn_16, ln_16, tn_17, ln_17, ob_18, tn_19, ln_19, tn_20, ln_20, tn_21, ln_21, tn_22, ln_22, tn_23, ln_23, tn_24, ln_24, tn_25, ln_25, tn_26, ln_26, tn_27, ln_27, ob_28, tn_29, ln_29, tn_30, ln_30, ob_31, tn_32, ln_32, tn_33, ln_33, ob_34, ob_35, tn_36, ln_36, tn_37, ln_37, tn_38, ln_38, ob_39, tn_40, ln_40, tn_41, ln_41, tn_42, ln_42, tn_43, ln_43, tn_44, ln_44, tn_45, ln_45, tn_46, ln_46, tn_47, ln_47, tn_48, ln_48, tn_49, ln_49, tn_50, ln_50, tn_51, ln_51, ob_52, tn_53, ln_53, tn_54, ln_54, tn_55, ln_55, tn_56, ln_56, ob_57, tn_58, ln_58, tn_59, ln_59, tn_60, ln_60, tn_61, ln_61, tn_62, ln_62, tn_63, ln_63, tn_64, ln_64, tn_65, ln_65, ob_66, tn_67, ln_67, tn_68, ln_68, tn_69, ln_69, tn_70, ln_70, tn_71, ln_71, tn_72, ln_72, tn_73, ln_73, ob_74, tn_75, ln_75, tn_76, ln_76, tn_77, ln_77, tn_78, ln_78, tn_79, ln_79, tn_80, ln_80, tn_81, ln_81, tn_82, ln_82, tn_83, ln_83, ob_84, tn_85, ln_85, tn_86, ln_86, tn_87, ln_87, tn_88, ln_88, tn_89, ln_89, tn_90, ln_90, tn_91, ln_91, tn_92, ln_92, tn_93, ln_93, ob_94, tn_95, ln_95, tn_96, ln_96, tn_97, ln_97, tn_98, ln_98, tn_99, ln_99, tn_100, ln_100, tn_101, ln_101, tn_102, ln_102, tn_103, ln_103, ob_104, tn_105, ln_105, tn_106, ln_106, tn_107, ln_107, tn_108, ln_108, tn_109, ln_109, tn_110, ln_110, tn_111, ln_111, tn_112, ln_112, tn_113, ln_113, ob_114, tn_115, ln_115, tn_116, ln_116, tn_117, ln_117, tn_118, ln_118, tn_119, ln_119, tn_120, ln_120, tn_121, ln_121, tn_122, ln_122, tn_123, ln_123, ob_124, tn_125, ln_125, tn_126, ln_126, tn_127, ln_127, tn_128, ln_128, tn_129, ln_129, tn_130, ln_130, tn_131, ln_131, tn_132, ln_132, tn_133, ln_133, ob_134, tn_135, ln_135, tn_136, ln_136, tn_137, ln_137, tn_138, ln_138, tn_139, ln_139, tn_140, ln_140, tn_141, ln_141, tn_142, ln_142, tn_143, ln_143, ob_144, tn_145, ln_145, tn_146, ln_146, tn_147, ln_147, tn_148, ln_148, tn_149, ln_149, tn_150, ln_150, tn_151, ln_151, tn_152, ln_152, tn_153, ln_153, ob_154, tn_155, ln_155, tn_156, ln_156, tn_157, ln_157, tn_158, ln_158, tn_159, ln_159, tn_160, ln_160, tn_161, ln_161, tn_162, ln_162, tn_163, ln_163, ob_164, tn_165, ln_165, tn_166, ln_166, ob_167, tn_168, ln_168, tn_169, ln_169, tn_170, ln_170, tn_171, ln_171, tn_172, ln_172, tn_173, ln_173, tn_174, ln_174, tn_175, ln_175, tn_176, ln_176, ob_177, tn_178, ln_178, tn_179, ln_179, ob_180, tn_181, ln_181, tn_182, ln_182, tn_183, ln_183, tn_184, ln_184, tn_185, ln_185, tn_186, ln_186, tn_187, ln_187, tn_188, ln_188, tn_189, ln_189, tn_190, ln_190, tn_191, ln_191, tn_192, ln_192, tn_193, ln_193, tn_194, ln_194, tn_195, ln_195, tn_196, ln_196, tn_197, ln_197, tn_198, ln_198, tn_199, ln_199, tn_200, ln_200, tn_201, ln_201, tn_202, ln_202, tn_203, ln_203, tn_204, ln_204, tn_205, ln_205, tn_206, ln_206, tn_207, ln_207, tn_208, ln_208, tn_209, ln_209, tn_210, ln_210, tn_211, ln_211, tn_212, ln_212, tn_213, ln_213, tn_214, ln_214, tn_215, ln_215, tn_216, ln_216, tn_217, ln_217, tn_218, ln_218, tn_219, ln_219, tn_220, ln_220, tn_221, ln_221, tn_222, ln_222, tn_223, ln_223, tn_224, ln_224, tn_225, ln_225, tn_226, ln_226, tn_227, ln_227, tn_228, ln_228, tn_229, ln_229, tn_230, ln_230, lx2, lx3, lx4, lx5, lx6, lx7, lx8, lx9, lx10, lx14, lx15, lx16, lx18, lx20, lx24, lx25, lx27, lx32, lx36, lx40, lx41, lx42, lx43, lx45, lx48, lx52, lx54, lx56, lx57, lx58, lx60, lx61, lx62, lx63, lx64, lx66, lx69, lx73, lx80, lx81, lx84, lx85, lx87, lx94, lx96, lx97, lx120, lx128, lx135, lx160, lx162, lx163, lx165, lx200, lx232, lx242, lx243, lx255, lx256, lx320, lx325, lx400, lx405, lx464, lx512, lx600, lx640, lx752, lx900, lx940, lx1000, lx1024, lx1764, lx3360, lx3840, lx5000, lx6400, lx9050, lx9998, lx9999, lx10000, lx25600, lx76800, lx99999, h57]
    refine ⟨fun a => ?_, fun a => ?_⟩
    · refine xE0 (94, 0, 0) ⟨0, um, um, fun j => xi A 207 j, hP, hc, Nat.zero_le _, h8, (if_neg a).symm, fun j => ?_, ?_, rfl, rfl, rfl⟩
      · rw [if_neg (by omega), if_neg (by omega)]
      · rw [xsA_self (fun j => rfl), si_self h57]
    · have : um = 8 := by omega
      subst this
      refine xE0 (658, 0, 0) ⟨0, h57, hP, hc, Nat.zero_le _, (xsA_self fun j => by rw [if_neg (Nat.not_lt_zero j)]).symm, rfl, rfl, rfl⟩
  · rintro q c A P - μ L st B ⟨i, h57, hP, hc, hi, rfl, rfl, rfl, rfl⟩
    simp (disch := omega) only [k_X12_stores_0, k_X12_stores_11, k_X12_stores_47, k_X12_stores_45, x_aload, x_dup, x_iadd, x_iald, x_icmp_ge, x_icmp_ne, x_iinc, x_iload, x_imul, x_istore, x_push, x_vret, y_getF, y_getI, y_iald, y_iast, y_putI, xFT, xbool0, xbool1, Nat.reduceAdd, Nat.zero_add, xgl_0, xgl_s, xgl_n, xst_0, xst_1n, xst_1i, xst_1r, xst_1l, xst_s, set_0, set_s, true_and, and_true, xres, xcat_nil, xcat_i, xcat_r, xcat_l, Nat.add_zero, xble0, xble1, xble2, xble3, xble4, xble5, xble6, xble7, xble8, pk_mul, nI_add, nI_1, nI_leI, nI_ltI, nI_eq, n_in, n_cl, z_eq, z_lt, z_le, z_gt, z_ge, z_qe, o_eq, o_lt, o_le, o_gt, o_ge, vp0, vp1, cl0, cl1, n_sub, n_sub1, n_pm1, n_a0, n_0a, ofn, lN0, Nat.reduceLT, Nat.reduceLeDiff, Nat.reduceMul, Nat.reduceSub, Nat.reduceEqDiff, ne_eq, true_implies, false_implies, not_true_eq_false, not_false_eq_true, and_self, and_true, true_and, and_false, false_and, implies_true, if_true, if_false, i00, i10, i01, i11, ob_0, ob_1, tn_2, ln_2, ob_3, tn_4, ln_4, ob_5, tn_6, ln_6, tn_7, ln_7, ob_8, tn_9, ln_9, tn_10, ln_10, tn_11, ln_11, tn_12, ln_12, tn_13, ln_13, tn_14, ln_14, tn_15, ln_15, tn_16, ln_16, tn_17, ln_17, ob_18, tn_19, ln_19, tn_20, ln_20, tn_21, ln_21, tn_22, ln_22, tn_23, ln_23, tn_24, ln_24, tn_25, ln_25, tn_26, ln_26, tn_27, ln_27, ob_28, tn_29, ln_29, tn_30, ln_30, ob_31, tn_32, ln_32, tn_33, ln_33, ob_34, ob_35, tn_36, ln_36, tn_37, ln_37, tn_38, ln_38, ob_39, tn_40, ln_40, tn_41, ln_41, tn_42, ln_42, tn_43, ln_43, tn_44, ln_44, tn_45, ln_45, tn_46, ln_46, tn_47, ln_47, tn_48, ln_48, tn_49, ln_49, tn_50, ln_50, tn_51, ln_51, ob_52, tn_53, ln_53, tn_54, ln_54, tn_55, ln_55, tn_56, ln_56, ob_57, tn_58, ln_58, tn_59, ln_59, tn_60, ln_60, tn_61, ln_61, tn_62, ln_62, tn_63, ln_63, tn_64, ln_64, tn_65, ln_65, ob_66, tn_67, ln_67, tn_68, ln_68, tn_69, ln_69, tn_70, ln_70, tn_71, ln_71, tn_72, ln_72, tn_73, ln_73, ob_74, tn_75, ln_75, tn_76, ln_76, tn_77, ln_77, tn_78, ln_78, tn_79, ln_79, tn_80, ln_80, tn_81, ln_81, tn_82, ln_82, tn_83, ln_83, ob_84, tn_85, ln_85, tn_86, ln_86, tn_87, ln_87, tn_88, ln_88, tn_89, ln_89, tn_90, ln_90, tn_91, ln_91, tn_92, ln_92, tn_93, ln_93, ob_94, tn_95, ln_95, tn_96, ln_96, tn_97, ln_97, tn_98, ln_98, tn_99, ln_99, tn_100, ln_100, tn_101, ln_101, tn_102, ln_102, tn_103, ln_103, ob_104, tn_105, ln_105, tn_106, ln_106, tn_107, ln_107, tn_108, ln_108, tn_109, ln_109, tn_110, ln_110, tn_111, ln_111, tn_112, ln_112, tn_113, ln_113, ob_114, tn_115, ln_115, tn_116, ln_116, tn_117, ln_117, tn_118, ln_118, tn_119, ln_119, tn_120, ln_120, tn_121, ln_121, tn_122, ln_122, tn_123, ln_123, ob_124, tn_125, ln_125, tn_126, ln_126, tn_127, ln_127, tn_128, ln_128, tn_129, ln_129, tn_130, ln_130, tn_131, ln_131, tn_132, ln_132, tn_133, ln_133, ob_134, tn_135, ln_135, tn_136, ln_136, tn_137, ln_137, tn_138, ln_138, tn_139, ln_139, tn_140, ln_140, tn_141, ln_141, tn_142, ln_142, tn_143, ln_143, ob_144, tn_145, ln_145, tn_146, ln_146, tn_147, ln_147, tn_148, ln_148, tn_149, ln_149, tn_150, ln_150, tn_151, ln_151, tn_152, ln_152, tn_153, ln_153, ob_154, tn_155, ln_155, tn_156, ln_156, tn_157, ln_157, tn_158, ln_158, tn_159, ln_159, tn_160, ln_160, tn_161, ln_161, tn_162, ln_162, tn_163, ln_163, ob_164, tn_165, ln_165, tn_166, ln_166, ob_167, tn_168, ln_168, tn_169, ln_169, tn_170, ln_170, tn_171, ln_171, tn_172, ln_172, tn_173, ln_173, tn_174, ln_174, tn_175, ln_175, tn_176, ln_176, ob_177, tn_178, ln_178, tn_179, ln_179, ob_180, tn_181, ln_181, tn_182, ln_182, tn_183, ln_183, tn_184, ln_184, tn_185, ln_185, tn_186, ln_186, tn_187, ln_187, tn_188, ln_188, tn_189, ln_189, tn_190, ln_190, tn_191, ln_191, tn_192, ln_192, tn_193, ln_193, tn_194, ln_194, tn_195, ln_195, tn_196, ln_196, tn_197, ln_197, tn_198, ln_198, tn_199, ln_199, tn_200, ln_200, tn_201, ln_201, tn_202, ln_202, tn_203, ln_203, tn_204, ln_204, tn_205, ln_205, tn_206, ln_206, tn_207, ln_207, tn_208, ln_208, tn_209, ln_209, tn_210, ln_210, tn_211, ln_211, tn_212, ln_212, tn_213, ln_213, tn_214, ln_214, tn_215, ln_215, tn_216, ln_216, tn_217, ln_217, tn_218, ln_218, tn_219, ln_219, tn_220, ln_220, tn_221, ln_221, tn_222, ln_222, tn_223, ln_223, tn_224, ln_224, tn_225, ln_225, tn_226, ln_226, tn_227, ln_227, tn_228, ln_228, tn_229, ln_229, tn_230, ln_230, lx2, lx3, lx4, lx5, lx6, lx7, lx8, lx9, lx10, lx14, lx15, lx16, lx18, lx20, lx24, lx25, lx27, lx32, lx36, lx40, lx41, lx42, lx43, lx45, lx48, lx52, lx54, lx56, lx57, lx58, lx60, lx61, lx62, lx63, lx64, lx66, lx69, lx73, lx80, lx81, lx84, lx85, lx87, lx94, lx96, lx97, lx120, lx128, lx135, lx160, lx162, lx163, lx165, lx200, lx232, lx242, lx243, lx255, lx256, lx320, lx325, lx400, lx405, lx464, lx512, lx600, lx640, lx752, lx900, lx940, lx1000, lx1024, lx1764, lx3360, lx3840, lx5000, lx6400, lx9050, lx9998, lx9999, lx10000, lx25600, lx76800, lx99999, xsi_sA, sA_eq, show (658 : Int32) = nI 658 from rfl]
    (repeat' (first | intro _ | with_reducible apply And.intro)) <;> try omega
    · refine xE0 (94, 0, 0) ⟨0, 8, 7, _, hP, hc, Nat.zero_le _, by omega, rfl, fun j => ?_, rfl, rfl, rfl, rfl⟩
      try dsimp only
      (repeat' split) <;> first | rfl | omega | (exfalso; omega) | (congr 1; omega) | (congr 2; omega)
    · refine xB1 (b := 658 - (i + 1)) (by omega) ⟨i + 1, h57, hP, hc, by omega, xsA_congr fun j => ?_, rfl, rfl, rfl⟩
      (repeat' split) <;> first | rfl | omega | (exfalso; omega) | (congr 1; omega) | (congr 2; omega)
  · rintro q c A P - μ L st B ⟨i, um, w, g, hP, hc, hi, h8, hw, hg, rfl, rfl, rfl, rfl⟩
    have ht : xtn xN c = 1 ∧ (xsh c).2 = 94 := by rcases hc with rfl | rfl <;> exact ⟨by decide +kernel, by decide +kernel⟩
    have hw7 : w ≤ 7 := by rw [hw]; split <;> omega
    simp (disch := omega) only [k_X12_stores_0, k_X12_stores_11, k_X12_stores_47, k_X12_stores_45, x_aload, x_dup, x_iadd, x_iald, x_icmp_ge, x_icmp_ne, x_iinc, x_iload, x_imul, x_istore, x_push, x_vret, y_getF, y_getI, y_iald, y_iast, y_putI, xFT, xbool0, xbool1, Nat.reduceAdd, Nat.zero_add, xgl_0, xgl_s, xgl_n, xst_0, xst_1n, xst_1i, xst_1r, xst_1l, xst_s, set_0, set_s, true_and, and_true, xres, xcat_nil, xcat_i, xcat_r, xcat_l, Nat.add_zero, xble0, xble1, xble2, xble3, xble4, xble5, xble6, xble7, xble8, pk_mul, nI_add, nI_1, nI_leI, nI_ltI, nI_eq, n_in, n_cl, z_eq, z_lt, z_le, z_gt, z_ge, z_qe, o_eq, o_lt, o_le, o_gt, o_ge, vp0, vp1, cl0, cl1, n_sub, n_sub1, n_pm1, n_a0, n_0a, ofn, lN0, Nat.reduceLT, Nat.reduceLeDiff, Nat.reduceMul, Nat.reduceSub, Nat.reduceEqDiff, ne_eq, true_implies, false_implies, not_true_eq_false, not_false_eq_true, and_self, and_true, true_and, and_false, false_and, implies_true, if_true, if_false, i00, i10, i01, i11, ob_0, ob_1, tn_2, ln_2, ob_3, tn_4, ln_4, ob_5, tn_6, ln_6, tn_7, ln_7, ob_8, tn_9, ln_9, tn_10, ln_10, tn_11, ln_11, tn_12, ln_12, tn_13, ln_13, tn_14, ln_14, tn_15, ln_15, tn_16, ln_16, tn_17, ln_17, ob_18, tn_19, ln_19, tn_20, ln_20, tn_21, ln_21, tn_22, ln_22, tn_23, ln_23, tn_24, ln_24, tn_25, ln_25, tn_26, ln_26, tn_27, ln_27, ob_28, tn_29, ln_29, tn_30, ln_30, ob_31, tn_32, ln_32, tn_33, ln_33, ob_34, ob_35, tn_36, ln_36, tn_37, ln_37, tn_38, ln_38, ob_39, tn_40, ln_40, tn_41, ln_41, tn_42, ln_42, tn_43, ln_43, tn_44, ln_44, tn_45, ln_45, tn_46, ln_46, tn_47, ln_47, tn_48, ln_48, tn_49, ln_49, tn_50, ln_50, tn_51, ln_51, ob_52, tn_53, ln_53, tn_54, ln_54, tn_55, ln_55, tn_56, ln_56, ob_57, tn_58, ln_58, tn_59, ln_59, tn_60, ln_60, tn_61, ln_61, tn_62, ln_62, tn_63, ln_63, tn_64, ln_64, tn_65, ln_65, ob_66, tn_67, ln_67, tn_68, ln_68, tn_69, ln_69, tn_70, ln_70, tn_71, ln_71, tn_72, ln_72, tn_73, ln_73, ob_74, tn_75, ln_75, tn_76, ln_76, tn_77, ln_77, tn_78, ln_78, tn_79, ln_79, tn_80, ln_80, tn_81, ln_81, tn_82, ln_82, tn_83, ln_83, ob_84, tn_85, ln_85, tn_86, ln_86, tn_87, ln_87, tn_88, ln_88, tn_89, ln_89, tn_90, ln_90, tn_91, ln_91, tn_92, ln_92, tn_93, ln_93, ob_94, tn_95, ln_95, tn_96, ln_96, tn_97, ln_97, tn_98, ln_98, tn_99, ln_99, tn_100, ln_100, tn_101, ln_101, tn_102, ln_102, tn_103, ln_103, ob_104, tn_105, ln_105, tn_106, ln_106, tn_107, ln_107, tn_108, ln_108, tn_109, ln_109, tn_110, ln_110, tn_111, ln_111, tn_112, ln_112, tn_113, ln_113, ob_114, tn_115, ln_115, tn_116, ln_116, tn_117, ln_117, tn_118, ln_118, tn_119, ln_119, tn_120, ln_120, tn_121, ln_121, tn_122, ln_122, tn_123, ln_123, ob_124, tn_125, ln_125, tn_126, ln_126, tn_127, ln_127, tn_128, ln_128, tn_129, ln_129, tn_130, ln_130, tn_131, ln_131, tn_132, ln_132, tn_133, ln_133, ob_134, tn_135, ln_135, tn_136, ln_136, tn_137, ln_137, tn_138, ln_138, tn_139, ln_139, tn_140, ln_140, tn_141, ln_141, tn_142, ln_142, tn_143, ln_143, ob_144, tn_145, ln_145, tn_146, ln_146, tn_147, ln_147, tn_148, ln_148, tn_149, ln_149, tn_150, ln_150, tn_151, ln_151, tn_152, ln_152, tn_153, ln_153, ob_154, tn_155, ln_155, tn_156, ln_156, tn_157, ln_157, tn_158, ln_158, tn_159, ln_159, tn_160, ln_160, tn_161, ln_161, tn_162, ln_162, tn_163, ln_163, ob_164, tn_165, ln_165, tn_166, ln_166, ob_167, tn_168, ln_168, tn_169, ln_169, tn_170, ln_170, tn_171, ln_171, tn_172, ln_172, tn_173, ln_173, tn_174, ln_174, tn_175, ln_175, tn_176, ln_176, ob_177, tn_178, ln_178, tn_179, ln_179, ob_180, tn_181, ln_181, tn_182, ln_182, tn_183, ln_183, tn_184, ln_184, tn_185, ln_185, tn_186, ln_186, tn_187, ln_187, tn_188, ln_188, tn_189, ln_189, tn_190, ln_190, tn_191, ln_191, tn_192, ln_192, tn_193, ln_193, tn_194, ln_194, tn_195, ln_195, tn_196, ln_196, tn_197, ln_197, tn_198, ln_198, tn_199, ln_199, tn_200, ln_200, tn_201, ln_201, tn_202, ln_202, tn_203, ln_203, tn_204, ln_204, tn_205, ln_205, tn_206, ln_206, tn_207, ln_207, tn_208, ln_208, tn_209, ln_209, tn_210, ln_210, tn_211, ln_211, tn_212, ln_212, tn_213, ln_213, tn_214, ln_214, tn_215, ln_215, tn_216, ln_216, tn_217, ln_217, tn_218, ln_218, tn_219, ln_219, tn_220, ln_220, tn_221, ln_221, tn_222, ln_222, tn_223, ln_223, tn_224, ln_224, tn_225, ln_225, tn_226, ln_226, tn_227, ln_227, tn_228, ln_228, tn_229, ln_229, tn_230, ln_230, lx2, lx3, lx4, lx5, lx6, lx7, lx8, lx9, lx10, lx14, lx15, lx16, lx18, lx20, lx24, lx25, lx27, lx32, lx36, lx40, lx41, lx42, lx43, lx45, lx48, lx52, lx54, lx56, lx57, lx58, lx60, lx61, lx62, lx63, lx64, lx66, lx69, lx73, lx80, lx81, lx84, lx85, lx87, lx94, lx96, lx97, lx120, lx128, lx135, lx160, lx162, lx163, lx165, lx200, lx232, lx242, lx243, lx255, lx256, lx320, lx325, lx400, lx405, lx464, lx512, lx600, lx640, lx752, lx900, lx940, lx1000, lx1024, lx1764, lx3360, lx3840, lx5000, lx6400, lx9050, lx9998, lx9999, lx10000, lx25600, lx76800, lx99999, si_ne, si_eq, sl_ne, sl_eq, xl_si, xi_sl, sA_ne, sA_eq, xl_sA, si_si, si_sA, ht.1, ht.2]
    (repeat' (first | intro _ | with_reducible apply And.intro)) <;> try omega
    · have e1 : nI (w + 1) = nI (if um = 8 then 8 else um + 1) := by rw [hw]; split <;> rfl
      have e2 : xsA A 207 g = xsA A 207 (stF A c um) := xsA_congr fun j => by
        rw [hg, show i = 94 by omega]
        unfold stF
        by_cases e : um = 8
        · rw [if_pos e] at hw
          subst hw
          rw [if_pos e]
          try dsimp only
          (repeat' split) <;> first | rfl | omega | (exfalso; omega) | (congr 1; omega) | (congr 2; omega)
        · rw [if_neg e] at hw
          subst hw
          rw [if_neg e]
          try dsimp only
          (repeat' split) <;> first | rfl | omega | (exfalso; omega) | (congr 1; omega) | (congr 2; omega)
      unfold stU at hP
      rw [e1, e2]
      exact hP
    · refine xB1 (b := 94 - (i + 1)) (by omega) ⟨i + 1, um, w, _, hP, hc, by omega, h8, hw, fun j => ?_, rfl, rfl, rfl, rfl⟩
      try dsimp only
      rw [hg]
      have hw2 : um = 8 → w = 7 := fun e => by rw [hw, if_pos e]
      (repeat' split) <;> first | rfl | omega | (exfalso; omega) | (congr 1; omega) | (congr 2; omega)

