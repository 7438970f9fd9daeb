/-! ===== deeds, as both sides answer them ===== -/
theorem d_X11_merge_0 : decode cX11_merge 0 = .ok (.aload_n 0, 1) := by decide +kernel
theorem d_X11_merge_1 : decode cX11_merge 1 = .ok (.getfield 32, 3) := by decide +kernel
theorem d_X11_merge_4 : decode cX11_merge 4 = .ok (.aload_n 0, 1) := by decide +kernel
theorem d_X11_merge_5 : decode cX11_merge 5 = .ok (.getfield 28, 3) := by decide +kernel
theorem d_X11_merge_8 : decode cX11_merge 8 = .ok (.invokevirtual 128, 3) := by decide +kernel
theorem d_X11_merge_11 : decode cX11_merge 11 = .ok (.aload_n 0, 1) := by decide +kernel
theorem d_X11_merge_12 : decode cX11_merge 12 = .ok (.aload_n 0, 1) := by decide +kernel
theorem d_X11_merge_13 : decode cX11_merge 13 = .ok (.getfield 28, 3) := by decide +kernel
theorem d_X11_merge_16 : decode cX11_merge 16 = .ok (.iload_n 1, 1) := by decide +kernel
theorem d_X11_merge_17 : decode cX11_merge 17 = .ok (.iload_n 2, 1) := by decide +kernel
theorem d_X11_merge_18 : decode cX11_merge 18 = .ok (.invokevirtual 225, 3) := by decide +kernel
theorem d_X11_merge_21 : decode cX11_merge 21 = .ok (.invokevirtual 228, 3) := by decide +kernel
theorem d_X11_merge_24 : decode cX11_merge 24 = .ok (.ireturn, 1) := by decide +kernel
def k_X11_merge_0 (P : xP) : xK := x_aload 0 (y_getF 0 18 (x_aload 0 (y_getF 0 8 (y_cv1 18 (w_RR f_X4_copyFrom) (x_aload 0 (x_aload 0 (y_getF 0 8 (x_iload 1 (x_iload 2 (y_cv2 8 (w_RII f_X4_unite) (y_cv1 0 (w_RI f_X11_settled) (x_iret P))))))))))))
set_option maxRecDepth 20000 in
theorem t_X11_merge_0 {p : Program} {l : Launch} {e : Env} {s : State} {m : MethodId} {args : Array Value} {below : List Frame} {meth : Method} {c : Code} {g : xG} (X : xX p s m args c meth cX11_merge RX11 3 g) (hr : meth.sig.returnType = (some .int)) {P : xP} : xAt p l e { frames := 4, cells := 0, slots := 0, locals := 165 } s m args below meth c g 3 xFT xN 0 0 (MQ below (xQc g xFT xN P) args s 0 0 (xFr g)) (k_X11_merge_0 P) 0 := by
  unfold k_X11_merge_0
  refine r_aload_n (pc := 0) X d_X11_merge_0 fn0 ?_
  refine s_getF (pc := 1) (ci := 11) (k := 3) X xok11 (by decide +kernel) ob_0 trivial ly_0_3 (by decide +kernel) fl_RX11_32 d_X11_merge_1 ?_
  refine r_aload_n (pc := 4) X d_X11_merge_4 fn0 ?_
  refine s_getF (pc := 5) (ci := 11) (k := 2) X xok11 (by decide +kernel) ob_0 trivial ly_0_2 (by decide +kernel) fl_RX11_28 d_X11_merge_5 ?_
  refine s_cv1 (pc := 8) (ci := 4) X xok4 (by decide +kernel) ob_18 rfl (con_X4_copyFrom l) mf_X4_copyFrom ml_RX11_128 (by decide +kernel) (by decide +kernel) d_X11_merge_8 ?_
  refine r_aload_n (pc := 11) X d_X11_merge_11 fn0 ?_
  refine r_aload_n (pc := 12) X d_X11_merge_12 fn0 ?_
  refine s_getF (pc := 13) (ci := 11) (k := 2) X xok11 (by decide +kernel) ob_0 trivial ly_0_2 (by decide +kernel) fl_RX11_28 d_X11_merge_13 ?_
  refine r_iload_n (pc := 16) X d_X11_merge_16 fn1 ?_
  refine r_iload_n (pc := 17) X d_X11_merge_17 fn2 ?_
  refine s_cv2 (pc := 18) (ci := 4) X xok4 (by decide +kernel) ob_8 rfl (con_X4_unite l) mf_X4_unite ml_RX11_225 (by decide +kernel) (by decide +kernel) d_X11_merge_18 ?_
  refine s_cv1 (pc := 21) (ci := 11) X xok11 (by decide +kernel) ob_0 rfl (con_X11_settled l) mf_X11_settled ml_RX11_228 (by decide +kernel) (by decide +kernel) d_X11_merge_21 ?_
  exact r_iret (pc := 24) X hr d_X11_merge_24
def f_X11_merge (a0 : Nat) (a1 : Int32) (a2 : Int32) (A : xH) (P : xP) : Prop := k_X11_merge_0 P [some (.ref a0), some (.int a1), some (.int a2)] [] A
set_option maxRecDepth 20000 in
theorem con_X11_merge (l : Launch) : xCon l yX11_merge cX11_merge 3 (some .int) 4 165 xN xN 0 xFT xFT (w_RII f_X11_merge) :=
  xc_RII (plainFor_of_name pn_RX11) (by decide +kernel) (fun p e s m args below meth c g a0 a1 a2 A P h X hr _ => ⟨_, h, t_X11_merge_0 X hr⟩)
theorem d_X11_depth_0 : decode cX11_depth 0 = .ok (.aload_n 0, 1) := by decide +kernel
theorem d_X11_depth_1 : decode cX11_depth 1 = .ok (.getfield 32, 3) := by decide +kernel
theorem d_X11_depth_4 : decode cX11_depth 4 = .ok (.aload_n 0, 1) := by decide +kernel
theorem d_X11_depth_5 : decode cX11_depth 5 = .ok (.getfield 28, 3) := by decide +kernel
theorem d_X11_depth_8 : decode cX11_depth 8 = .ok (.invokevirtual 128, 3) := by decide +kernel
theorem d_X11_depth_11 : decode cX11_depth 11 = .ok (.aload_n 0, 1) := by decide +kernel
theorem d_X11_depth_12 : decode cX11_depth 12 = .ok (.aload_n 0, 1) := by decide +kernel
theorem d_X11_depth_13 : decode cX11_depth 13 = .ok (.getfield 28, 3) := by decide +kernel
theorem d_X11_depth_16 : decode cX11_depth 16 = .ok (.iload_n 1, 1) := by decide +kernel
theorem d_X11_depth_17 : decode cX11_depth 17 = .ok (.invokevirtual 231, 3) := by decide +kernel
theorem d_X11_depth_20 : decode cX11_depth 20 = .ok (.invokevirtual 228, 3) := by decide +kernel
theorem d_X11_depth_23 : decode cX11_depth 23 = .ok (.ireturn, 1) := by decide +kernel
def k_X11_depth_0 (P : xP) : xK := x_aload 0 (y_getF 0 18 (x_aload 0 (y_getF 0 8 (y_cv1 18 (w_RR f_X4_copyFrom) (x_aload 0 (x_aload 0 (y_getF 0 8 (x_iload 1 (y_cv1 8 (w_RI f_X4_deepen) (y_cv1 0 (w_RI f_X11_settled) (x_iret P)))))))))))
set_option maxRecDepth 20000 in
theorem t_X11_depth_0 {p : Program} {l : Launch} {e : Env} {s : State} {m : MethodId} {args : Array Value} {below : List Frame} {meth : Method} {c : Code} {g : xG} (X : xX p s m args c meth cX11_depth RX11 2 g) (hr : meth.sig.returnType = (some .int)) {P : xP} : xAt p l e { frames := 4, cells := 0, slots := 0, locals := 165 } s m args below meth c g 2 xFT xN 0 0 (MQ below (xQc g xFT xN P) args s 0 0 (xFr g)) (k_X11_depth_0 P) 0 := by
  unfold k_X11_depth_0
  refine r_aload_n (pc := 0) X d_X11_depth_0 fn0 ?_
  refine s_getF (pc := 1) (ci := 11) (k := 3) X xok11 (by decide +kernel) ob_0 trivial ly_0_3 (by decide +kernel) fl_RX11_32 d_X11_depth_1 ?_
  refine r_aload_n (pc := 4) X d_X11_depth_4 fn0 ?_
  refine s_getF (pc := 5) (ci := 11) (k := 2) X xok11 (by decide +kernel) ob_0 trivial ly_0_2 (by decide +kernel) fl_RX11_28 d_X11_depth_5 ?_
  refine s_cv1 (pc := 8) (ci := 4) X xok4 (by decide +kernel) ob_18 rfl (con_X4_copyFrom l) mf_X4_copyFrom ml_RX11_128 (by decide +kernel) (by decide +kernel) d_X11_depth_8 ?_
  refine r_aload_n (pc := 11) X d_X11_depth_11 fn0 ?_
  refine r_aload_n (pc := 12) X d_X11_depth_12 fn0 ?_
  refine s_getF (pc := 13) (ci := 11) (k := 2) X xok11 (by decide +kernel) ob_0 trivial ly_0_2 (by decide +kernel) fl_RX11_28 d_X11_depth_13 ?_
  refine r_iload_n (pc := 16) X d_X11_depth_16 fn1 ?_
  refine s_cv1 (pc := 17) (ci := 4) X xok4 (by decide +kernel) ob_8 rfl (con_X4_deepen l) mf_X4_deepen ml_RX11_231 (by decide +kernel) (by decide +kernel) d_X11_depth_17 ?_
  refine s_cv1 (pc := 20) (ci := 11) X xok11 (by decide +kernel) ob_0 rfl (con_X11_settled l) mf_X11_settled ml_RX11_228 (by decide +kernel) (by decide +kernel) d_X11_depth_20 ?_
  exact r_iret (pc := 23) X hr d_X11_depth_23
def f_X11_depth (a0 : Nat) (a1 : Int32) (A : xH) (P : xP) : Prop := k_X11_depth_0 P [some (.ref a0), some (.int a1)] [] A
set_option maxRecDepth 20000 in
theorem con_X11_depth (l : Launch) : xCon l yX11_depth cX11_depth 2 (some .int) 4 165 xN xN 0 xFT xFT (w_RI f_X11_depth) :=
  xc_RI (plainFor_of_name pn_RX11) (by decide +kernel) (fun p e s m args below meth c g a0 a1 A P h X hr _ => ⟨_, h, t_X11_depth_0 X hr⟩)
theorem d_X11_drop_0 : decode cX11_drop 0 = .ok (.aload_n 0, 1) := by decide +kernel
theorem d_X11_drop_1 : decode cX11_drop 1 = .ok (.getfield 32, 3) := by decide +kernel
theorem d_X11_drop_4 : decode cX11_drop 4 = .ok (.aload_n 0, 1) := by decide +kernel
theorem d_X11_drop_5 : decode cX11_drop 5 = .ok (.getfield 28, 3) := by decide +kernel
theorem d_X11_drop_8 : decode cX11_drop 8 = .ok (.invokevirtual 128, 3) := by decide +kernel
theorem d_X11_drop_11 : decode cX11_drop 11 = .ok (.aload_n 0, 1) := by decide +kernel
theorem d_X11_drop_12 : decode cX11_drop 12 = .ok (.aload_n 0, 1) := by decide +kernel
theorem d_X11_drop_13 : decode cX11_drop 13 = .ok (.getfield 28, 3) := by decide +kernel
theorem d_X11_drop_16 : decode cX11_drop 16 = .ok (.iload_n 1, 1) := by decide +kernel
theorem d_X11_drop_17 : decode cX11_drop 17 = .ok (.invokevirtual 234, 3) := by decide +kernel
theorem d_X11_drop_20 : decode cX11_drop 20 = .ok (.invokevirtual 228, 3) := by decide +kernel
theorem d_X11_drop_23 : decode cX11_drop 23 = .ok (.ireturn, 1) := by decide +kernel
def k_X11_drop_0 (P : xP) : xK := x_aload 0 (y_getF 0 18 (x_aload 0 (y_getF 0 8 (y_cv1 18 (w_RR f_X4_copyFrom) (x_aload 0 (x_aload 0 (y_getF 0 8 (x_iload 1 (y_cv1 8 (w_RI f_X4_removeRule) (y_cv1 0 (w_RI f_X11_settled) (x_iret P)))))))))))
set_option maxRecDepth 20000 in
theorem t_X11_drop_0 {p : Program} {l : Launch} {e : Env} {s : State} {m : MethodId} {args : Array Value} {below : List Frame} {meth : Method} {c : Code} {g : xG} (X : xX p s m args c meth cX11_drop RX11 2 g) (hr : meth.sig.returnType = (some .int)) {P : xP} : xAt p l e { frames := 4, cells := 0, slots := 0, locals := 165 } s m args below meth c g 2 xFT xN 0 0 (MQ below (xQc g xFT xN P) args s 0 0 (xFr g)) (k_X11_drop_0 P) 0 := by
  unfold k_X11_drop_0
  refine r_aload_n (pc := 0) X d_X11_drop_0 fn0 ?_
  refine s_getF (pc := 1) (ci := 11) (k := 3) X xok11 (by decide +kernel) ob_0 trivial ly_0_3 (by decide +kernel) fl_RX11_32 d_X11_drop_1 ?_
  refine r_aload_n (pc := 4) X d_X11_drop_4 fn0 ?_
  refine s_getF (pc := 5) (ci := 11) (k := 2) X xok11 (by decide +kernel) ob_0 trivial ly_0_2 (by decide +kernel) fl_RX11_28 d_X11_drop_5 ?_
  refine s_cv1 (pc := 8) (ci := 4) X xok4 (by decide +kernel) ob_18 rfl (con_X4_copyFrom l) mf_X4_copyFrom ml_RX11_128 (by decide +kernel) (by decide +kernel) d_X11_drop_8 ?_
  refine r_aload_n (pc := 11) X d_X11_drop_11 fn0 ?_
  refine r_aload_n (pc := 12) X d_X11_drop_12 fn0 ?_
  refine s_getF (pc := 13) (ci := 11) (k := 2) X xok11 (by decide +kernel) ob_0 trivial ly_0_2 (by decide +kernel) fl_RX11_28 d_X11_drop_13 ?_
  refine r_iload_n (pc := 16) X d_X11_drop_16 fn1 ?_
  refine s_cv1 (pc := 17) (ci := 4) X xok4 (by decide +kernel) ob_8 rfl (con_X4_removeRule l) mf_X4_removeRule ml_RX11_234 (by decide +kernel) (by decide +kernel) d_X11_drop_17 ?_
  refine s_cv1 (pc := 20) (ci := 11) X xok11 (by decide +kernel) ob_0 rfl (con_X11_settled l) mf_X11_settled ml_RX11_228 (by decide +kernel) (by decide +kernel) d_X11_drop_20 ?_
  exact r_iret (pc := 23) X hr d_X11_drop_23
def f_X11_drop (a0 : Nat) (a1 : Int32) (A : xH) (P : xP) : Prop := k_X11_drop_0 P [some (.ref a0), some (.int a1)] [] A
set_option maxRecDepth 20000 in
theorem con_X11_drop (l : Launch) : xCon l yX11_drop cX11_drop 2 (some .int) 4 165 xN xN 0 xFT xFT (w_RI f_X11_drop) :=
  xc_RI (plainFor_of_name pn_RX11) (by decide +kernel) (fun p e s m args below meth c g a0 a1 A P h X hr _ => ⟨_, h, t_X11_drop_0 X hr⟩)
theorem d_X12_merge_0 : decode cX12_merge 0 = .ok (.aload_n 0, 1) := by decide +kernel
theorem d_X12_merge_1 : decode cX12_merge 1 = .ok (.iload_n 1, 1) := by decide +kernel
theorem d_X12_merge_2 : decode cX12_merge 2 = .ok (.iload_n 2, 1) := by decide +kernel
theorem d_X12_merge_3 : decode cX12_merge 3 = .ok (.invokevirtual 469, 3) := by decide +kernel
theorem d_X12_merge_6 : decode cX12_merge 6 = .ok (.ifCond .ne 5, 3) := by decide +kernel
theorem d_X12_merge_9 : decode cX12_merge 9 = .ok (.iconst (-1), 1) := by decide +kernel
theorem d_X12_merge_10 : decode cX12_merge 10 = .ok (.ireturn, 1) := by decide +kernel
theorem d_X12_merge_11 : decode cX12_merge 11 = .ok (.aload_n 0, 1) := by decide +kernel
theorem d_X12_merge_12 : decode cX12_merge 12 = .ok (.getfield 30, 3) := by decide +kernel
theorem d_X12_merge_15 : decode cX12_merge 15 = .ok (.bipush 54, 2) := by decide +kernel
theorem d_X12_merge_17 : decode cX12_merge 17 = .ok (.iload_n 1, 1) := by decide +kernel
theorem d_X12_merge_18 : decode cX12_merge 18 = .ok (.iadd, 1) := by decide +kernel
theorem d_X12_merge_19 : decode cX12_merge 19 = .ok (.iaload, 1) := by decide +kernel
theorem d_X12_merge_20 : decode cX12_merge 20 = .ok (.aload_n 0, 1) := by decide +kernel
theorem d_X12_merge_21 : decode cX12_merge 21 = .ok (.getfield 30, 3) := by decide +kernel
theorem d_X12_merge_24 : decode cX12_merge 24 = .ok (.bipush 54, 2) := by decide +kernel
theorem d_X12_merge_26 : decode cX12_merge 26 = .ok (.iload_n 2, 1) := by decide +kernel
theorem d_X12_merge_27 : decode cX12_merge 27 = .ok (.iadd, 1) := by decide +kernel
theorem d_X12_merge_28 : decode cX12_merge 28 = .ok (.iaload, 1) := by decide +kernel
theorem d_X12_merge_29 : decode cX12_merge 29 = .ok (.if_icmp .ne 5, 3) := by decide +kernel
theorem d_X12_merge_32 : decode cX12_merge 32 = .ok (.iconst 1, 1) := by decide +kernel
theorem d_X12_merge_33 : decode cX12_merge 33 = .ok (.ireturn, 1) := by decide +kernel
theorem d_X12_merge_34 : decode cX12_merge 34 = .ok (.aload_n 0, 1) := by decide +kernel
theorem d_X12_merge_35 : decode cX12_merge 35 = .ok (.invokevirtual 472, 3) := by decide +kernel
theorem d_X12_merge_38 : decode cX12_merge 38 = .ok (.aload_n 0, 1) := by decide +kernel
theorem d_X12_merge_39 : decode cX12_merge 39 = .ok (.iload_n 1, 1) := by decide +kernel
theorem d_X12_merge_40 : decode cX12_merge 40 = .ok (.iload_n 2, 1) := by decide +kernel
theorem d_X12_merge_41 : decode cX12_merge 41 = .ok (.invokevirtual 475, 3) := by decide +kernel
theorem d_X12_merge_44 : decode cX12_merge 44 = .ok (.ireturn, 1) := by decide +kernel
def k_X12_merge_0 (P : xP) : xK := x_aload 0 (x_iload 1 (x_iload 2 (y_cv2 180 (w_RII f_X12_mayMerge) (x_if_ne (x_aload 0 (y_getF 180 182 (x_push (.int 54) (x_iload 1 (x_iadd (y_iald 182 232 (x_aload 0 (y_getF 180 182 (x_push (.int 54) (x_iload 2 (x_iadd (y_iald 182 232 (x_icmp_ne (x_aload 0 (y_cv0 180 (w_R f_X12_keeps) (x_aload 0 (x_iload 1 (x_iload 2 (y_cv2 180 (w_RII f_X12_merges) (x_iret P))))))) (x_push (.int 1) (x_iret P))))))))))))))) (x_push (.int (-1)) (x_iret P))))))
set_option maxRecDepth 20000 in
theorem t_X12_merge_0 {p : Program} {l : Launch} {e : Env} {s : State} {m : MethodId} {args : Array Value} {below : List Frame} {meth : Method} {c : Code} {g : xG} (X : xX p s m args c meth cX12_merge RX12 3 g) (hr : meth.sig.returnType = (some .int)) {P : xP} : xAt p l e { frames := 4, cells := 0, slots := 0, locals := 87 } s m args below meth c g 3 xFT xN 0 0 (MQ below (xQc g xFT xN P) args s 0 0 (xFr g)) (k_X12_merge_0 P) 0 := by
  unfold k_X12_merge_0
  refine r_aload_n (pc := 0) X d_X12_merge_0 fn0 ?_
  refine r_iload_n (pc := 1) X d_X12_merge_1 fn1 ?_
  refine r_iload_n (pc := 2) X d_X12_merge_2 fn2 ?_
  refine s_cv2 (pc := 3) (ci := 12) X xok12 (by decide +kernel) ob_180 rfl (con_X12_mayMerge l) mf_X12_mayMerge ml_RX12_469 (by decide +kernel) (by decide +kernel) d_X12_merge_3 ?_
  refine r_if_ne (pc := 6) (tgt := 11) X d_X12_merge_6 (by decide +kernel) ?_ ?_
  · refine r_aload_n (pc := 11) X d_X12_merge_11 fn0 ?_
    refine s_getF (pc := 12) (ci := 12) (k := 5) X xok12 (by decide +kernel) ob_180 trivial ly_180_5 (by decide +kernel) fl_RX12_30 d_X12_merge_12 ?_
    refine r_bipush (pc := 15) X d_X12_merge_15 (by decide +kernel) ?_
    refine r_iload_n (pc := 17) X d_X12_merge_17 fn1 ?_
    refine r_iadd (pc := 18) X d_X12_merge_18 ?_
    refine s_iald (pc := 19) X tn_182 ln_182 d_X12_merge_19 ?_
    refine r_aload_n (pc := 20) X d_X12_merge_20 fn0 ?_
    refine s_getF (pc := 21) (ci := 12) (k := 5) X xok12 (by decide +kernel) ob_180 trivial ly_180_5 (by decide +kernel) fl_RX12_30 d_X12_merge_21 ?_
    refine r_bipush (pc := 24) X d_X12_merge_24 (by decide +kernel) ?_
    refine r_iload_n (pc := 26) X d_X12_merge_26 fn2 ?_
    refine r_iadd (pc := 27) X d_X12_merge_27 ?_
    refine s_iald (pc := 28) X tn_182 ln_182 d_X12_merge_28 ?_
    refine r_icmp_ne (pc := 29) (tgt := 34) X d_X12_merge_29 (by decide +kernel) ?_ ?_
    · refine r_aload_n (pc := 34) X d_X12_merge_34 fn0 ?_
      refine s_cv0 (pc := 35) (ci := 12) X xok12 (by decide +kernel) ob_180 rfl (con_X12_keeps l) mf_X12_keeps ml_RX12_472 (by decide +kernel) (by decide +kernel) d_X12_merge_35 ?_
      refine r_aload_n (pc := 38) X d_X12_merge_38 fn0 ?_
      refine r_iload_n (pc := 39) X d_X12_merge_39 fn1 ?_
      refine r_iload_n (pc := 40) X d_X12_merge_40 fn2 ?_
      refine s_cv2 (pc := 41) (ci := 12) X xok12 (by decide +kernel) ob_180 rfl (con_X12_merges l) mf_X12_merges ml_RX12_475 (by decide +kernel) (by decide +kernel) d_X12_merge_41 ?_
      exact r_iret (pc := 44) X hr d_X12_merge_44
    · refine r_iconst (pc := 32) X d_X12_merge_32 (by decide +kernel) ?_
      exact r_iret (pc := 33) X hr d_X12_merge_33
  · refine r_iconst (pc := 9) X d_X12_merge_9 (by decide +kernel) ?_
    exact r_iret (pc := 10) X hr d_X12_merge_10
def f_X12_merge (a0 : Nat) (a1 : Int32) (a2 : Int32) (A : xH) (P : xP) : Prop := k_X12_merge_0 P [some (.ref a0), some (.int a1), some (.int a2)] [] A
set_option maxRecDepth 20000 in
theorem con_X12_merge (l : Launch) : xCon l yX12_merge cX12_merge 3 (some .int) 4 87 xN xN 0 xFT xFT (w_RII f_X12_merge) :=
  xc_RII (plainFor_of_name pn_RX12) (by decide +kernel) (fun p e s m args below meth c g a0 a1 a2 A P h X hr _ => ⟨_, h, t_X12_merge_0 X hr⟩)
theorem d_X12_depth_0 : decode cX12_depth 0 = .ok (.iload_n 1, 1) := by decide +kernel
theorem d_X12_depth_1 : decode cX12_depth 1 = .ok (.iconst 0, 1) := by decide +kernel
theorem d_X12_depth_2 : decode cX12_depth 2 = .ok (.iconst 1, 1) := by decide +kernel
theorem d_X12_depth_3 : decode cX12_depth 3 = .ok (.invokestatic 264, 3) := by decide +kernel
theorem d_X12_depth_6 : decode cX12_depth 6 = .ok (.ifCond .ne 5, 3) := by decide +kernel
theorem d_X12_depth_9 : decode cX12_depth 9 = .ok (.iconst (-1), 1) := by decide +kernel
theorem d_X12_depth_10 : decode cX12_depth 10 = .ok (.ireturn, 1) := by decide +kernel
theorem d_X12_depth_11 : decode cX12_depth 11 = .ok (.aload_n 0, 1) := by decide +kernel
theorem d_X12_depth_12 : decode cX12_depth 12 = .ok (.getfield 30, 3) := by decide +kernel
theorem d_X12_depth_15 : decode cX12_depth 15 = .ok (.iconst 3, 1) := by decide +kernel
theorem d_X12_depth_16 : decode cX12_depth 16 = .ok (.iaload, 1) := by decide +kernel
theorem d_X12_depth_17 : decode cX12_depth 17 = .ok (.iload_n 1, 1) := by decide +kernel
theorem d_X12_depth_18 : decode cX12_depth 18 = .ok (.if_icmp .ne 5, 3) := by decide +kernel
theorem d_X12_depth_21 : decode cX12_depth 21 = .ok (.iconst 1, 1) := by decide +kernel
theorem d_X12_depth_22 : decode cX12_depth 22 = .ok (.ireturn, 1) := by decide +kernel
theorem d_X12_depth_23 : decode cX12_depth 23 = .ok (.aload_n 0, 1) := by decide +kernel
theorem d_X12_depth_24 : decode cX12_depth 24 = .ok (.invokevirtual 472, 3) := by decide +kernel
theorem d_X12_depth_27 : decode cX12_depth 27 = .ok (.aload_n 0, 1) := by decide +kernel
theorem d_X12_depth_28 : decode cX12_depth 28 = .ok (.iload_n 1, 1) := by decide +kernel
theorem d_X12_depth_29 : decode cX12_depth 29 = .ok (.invokevirtual 478, 3) := by decide +kernel
theorem d_X12_depth_32 : decode cX12_depth 32 = .ok (.ireturn, 1) := by decide +kernel
def k_X12_depth_0 (P : xP) : xK := x_iload 1 (x_push (.int 0) (x_push (.int 1) (x_cs3 (w_III f_X12_isIn) (x_if_ne (x_aload 0 (y_getF 180 182 (x_push (.int 3) (y_iald 182 232 (x_iload 1 (x_icmp_ne (x_aload 0 (y_cv0 180 (w_R f_X12_keeps) (x_aload 0 (x_iload 1 (y_cv1 180 (w_RI f_X12_depths) (x_iret P)))))) (x_push (.int 1) (x_iret P)))))))) (x_push (.int (-1)) (x_iret P))))))
set_option maxRecDepth 20000 in
theorem t_X12_depth_0 {p : Program} {l : Launch} {e : Env} {s : State} {m : MethodId} {args : Array Value} {below : List Frame} {meth : Method} {c : Code} {g : xG} (X : xX p s m args c meth cX12_depth RX12 2 g) (hr : meth.sig.returnType = (some .int)) {P : xP} : xAt p l e { frames := 2, cells := 0, slots := 0, locals := 42 } s m args below meth c g 2 xFT xN 0 0 (MQ below (xQc g xFT xN P) args s 0 0 (xFr g)) (k_X12_depth_0 P) 0 := by
  unfold k_X12_depth_0
  refine r_iload_n (pc := 0) X d_X12_depth_0 fn1 ?_
  refine r_iconst (pc := 1) X d_X12_depth_1 (by decide +kernel) ?_
  refine r_iconst (pc := 2) X d_X12_depth_2 (by decide +kernel) ?_
  refine r_cs3 (pc := 3) X (con_X12_isIn l) sf_X12_isIn ml_RX12_264 (by decide +kernel) (by decide +kernel) d_X12_depth_3 ?_
  refine r_if_ne (pc := 6) (tgt := 11) X d_X12_depth_6 (by decide +kernel) ?_ ?_
  · refine r_aload_n (pc := 11) X d_X12_depth_11 fn0 ?_
    refine s_getF (pc := 12) (ci := 12) (k := 5) X xok12 (by decide +kernel) ob_180 trivial ly_180_5 (by decide +kernel) fl_RX12_30 d_X12_depth_12 ?_
    refine r_iconst (pc := 15) X d_X12_depth_15 (by decide +kernel) ?_
    refine s_iald (pc := 16) X tn_182 ln_182 d_X12_depth_16 ?_
    refine r_iload_n (pc := 17) X d_X12_depth_17 fn1 ?_
    refine r_icmp_ne (pc := 18) (tgt := 23) X d_X12_depth_18 (by decide +kernel) ?_ ?_
    · refine r_aload_n (pc := 23) X d_X12_depth_23 fn0 ?_
      refine s_cv0 (pc := 24) (ci := 12) X xok12 (by decide +kernel) ob_180 rfl (con_X12_keeps l) mf_X12_keeps ml_RX12_472 (by decide +kernel) (by decide +kernel) d_X12_depth_24 ?_
      refine r_aload_n (pc := 27) X d_X12_depth_27 fn0 ?_
      refine r_iload_n (pc := 28) X d_X12_depth_28 fn1 ?_
      refine s_cv1 (pc := 29) (ci := 12) X xok12 (by decide +kernel) ob_180 rfl (con_X12_depths l) mf_X12_depths ml_RX12_478 (by decide +kernel) (by decide +kernel) d_X12_depth_29 ?_
      exact r_iret (pc := 32) X hr d_X12_depth_32
    · refine r_iconst (pc := 21) X d_X12_depth_21 (by decide +kernel) ?_
      exact r_iret (pc := 22) X hr d_X12_depth_22
  · refine r_iconst (pc := 9) X d_X12_depth_9 (by decide +kernel) ?_
    exact r_iret (pc := 10) X hr d_X12_depth_10
def f_X12_depth (a0 : Nat) (a1 : Int32) (A : xH) (P : xP) : Prop := k_X12_depth_0 P [some (.ref a0), some (.int a1)] [] A
set_option maxRecDepth 20000 in
theorem con_X12_depth (l : Launch) : xCon l yX12_depth cX12_depth 2 (some .int) 2 42 xN xN 0 xFT xFT (w_RI f_X12_depth) :=
  xc_RI (plainFor_of_name pn_RX12) (by decide +kernel) (fun p e s m args below meth c g a0 a1 A P h X hr _ => ⟨_, h, t_X12_depth_0 X hr⟩)
theorem d_X12_drop_0 : decode cX12_drop 0 = .ok (.aload_n 0, 1) := by decide +kernel
theorem d_X12_drop_1 : decode cX12_drop 1 = .ok (.iload_n 1, 1) := by decide +kernel
theorem d_X12_drop_2 : decode cX12_drop 2 = .ok (.invokevirtual 341, 3) := by decide +kernel
theorem d_X12_drop_5 : decode cX12_drop 5 = .ok (.ifCond .ne 5, 3) := by decide +kernel
theorem d_X12_drop_8 : decode cX12_drop 8 = .ok (.iconst (-1), 1) := by decide +kernel
theorem d_X12_drop_9 : decode cX12_drop 9 = .ok (.ireturn, 1) := by decide +kernel
theorem d_X12_drop_10 : decode cX12_drop 10 = .ok (.aload_n 0, 1) := by decide +kernel
theorem d_X12_drop_11 : decode cX12_drop 11 = .ok (.invokevirtual 472, 3) := by decide +kernel
theorem d_X12_drop_14 : decode cX12_drop 14 = .ok (.aload_n 0, 1) := by decide +kernel
theorem d_X12_drop_15 : decode cX12_drop 15 = .ok (.iload_n 1, 1) := by decide +kernel
theorem d_X12_drop_16 : decode cX12_drop 16 = .ok (.invokevirtual 481, 3) := by decide +kernel
theorem d_X12_drop_19 : decode cX12_drop 19 = .ok (.iconst 0, 1) := by decide +kernel
theorem d_X12_drop_20 : decode cX12_drop 20 = .ok (.ireturn, 1) := by decide +kernel
def k_X12_drop_0 (P : xP) : xK := x_aload 0 (x_iload 1 (y_cv1 180 (w_RI f_X12_isRule) (x_if_ne (x_aload 0 (y_cv0 180 (w_R f_X12_keeps) (x_aload 0 (x_iload 1 (y_cv1 180 (w_RI f_X12_drops) (x_push (.int 0) (x_iret P))))))) (x_push (.int (-1)) (x_iret P)))))
set_option maxRecDepth 20000 in
theorem t_X12_drop_0 {p : Program} {l : Launch} {e : Env} {s : State} {m : MethodId} {args : Array Value} {below : List Frame} {meth : Method} {c : Code} {g : xG} (X : xX p s m args c meth cX12_drop RX12 2 g) (hr : meth.sig.returnType = (some .int)) {P : xP} : xAt p l e { frames := 3, cells := 0, slots := 0, locals := 64 } s m args below meth c g 2 xFT xN 0 0 (MQ below (xQc g xFT xN P) args s 0 0 (xFr g)) (k_X12_drop_0 P) 0 := by
  unfold k_X12_drop_0
  refine r_aload_n (pc := 0) X d_X12_drop_0 fn0 ?_
  refine r_iload_n (pc := 1) X d_X12_drop_1 fn1 ?_
  refine s_cv1 (pc := 2) (ci := 12) X xok12 (by decide +kernel) ob_180 rfl (con_X12_isRule l) mf_X12_isRule ml_RX12_341 (by decide +kernel) (by decide +kernel) d_X12_drop_2 ?_
  refine r_if_ne (pc := 5) (tgt := 10) X d_X12_drop_5 (by decide +kernel) ?_ ?_
  · refine r_aload_n (pc := 10) X d_X12_drop_10 fn0 ?_
    refine s_cv0 (pc := 11) (ci := 12) X xok12 (by decide +kernel) ob_180 rfl (con_X12_keeps l) mf_X12_keeps ml_RX12_472 (by decide +kernel) (by decide +kernel) d_X12_drop_11 ?_
    refine r_aload_n (pc := 14) X d_X12_drop_14 fn0 ?_
    refine r_iload_n (pc := 15) X d_X12_drop_15 fn1 ?_
    refine s_cv1 (pc := 16) (ci := 12) X xok12 (by decide +kernel) ob_180 rfl (con_X12_drops l) mf_X12_drops ml_RX12_481 (by decide +kernel) (by decide +kernel) d_X12_drop_16 ?_
    refine r_iconst (pc := 19) X d_X12_drop_19 (by decide +kernel) ?_
    exact r_iret (pc := 20) X hr d_X12_drop_20
  · refine r_iconst (pc := 8) X d_X12_drop_8 (by decide +kernel) ?_
    exact r_iret (pc := 9) X hr d_X12_drop_9
def f_X12_drop (a0 : Nat) (a1 : Int32) (A : xH) (P : xP) : Prop := k_X12_drop_0 P [some (.ref a0), some (.int a1)] [] A
set_option maxRecDepth 20000 in
theorem con_X12_drop (l : Launch) : xCon l yX12_drop cX12_drop 2 (some .int) 3 64 xN xN 0 xFT xFT (w_RI f_X12_drop) :=
  xc_RI (plainFor_of_name pn_RX12) (by decide +kernel) (fun p e s m args below meth c g a0 a1 A P h X hr _ => ⟨_, h, t_X12_drop_0 X hr⟩)
def c0C (A : xH) : Prop := xi A 35 0 = 0 ∧ xi A 39 0 = 0 ∧ xi A 52 0 = 0 ∧ xi A 57 0 = 0
def SSt (c k : Nat) : Prop := SPs c k ∨ (k = 0 ∧ (c = 35 ∨ c = 39 ∨ c = 52 ∨ c = 57))
theorem changed_E {A : xH} {P : xP} (h : ∀ B, fr (fun c k => k = 0 ∧ (c = 35 ∨ c = 39 ∨ c = 52 ∨ c = 57)) A B → c0C B → P none B) : f_X11_changed 0 A P := by
  unfold f_X11_changed
  simp (disch := omega) only [k_X11_changed_0, x_aload, x_push, x_vret, y_getF, y_putZ, xFT, xbool0, xbool1, Nat.reduceAdd, Nat.zero_add, xgl_0, xgl_s, xgl_n, xst_0, xst_1n, xst_1i, xst_1r, xst_1l, xst_s, set_0, set_s, true_and, and_true, xres, xcat_nil, xcat_i, xcat_r, xcat_l, Nat.add_zero, xble0, xble1, xble2, xble3, xble4, xble5, xble6, xble7, xble8, pk_mul, nI_add, nI_1, nI_leI, nI_ltI, nI_eq, n_in, n_cl, z_eq, z_lt, z_le, z_gt, z_ge, z_qe, o_eq, o_lt, o_le, o_gt, o_ge, vp0, vp1, cl0, cl1, n_sub, n_sub1, n_pm1, n_a0, n_0a, ofn, lN0, Nat.reduceLT, Nat.reduceLeDiff, Nat.reduceMul, Nat.reduceSub, Nat.reduceEqDiff, ne_eq, true_implies, false_implies, not_true_eq_false, not_false_eq_true, and_self, and_true, true_and, and_false, false_and, implies_true, if_true, if_false, i00, i10, i01, i11, ob_0, ob_1, tn_2, ln_2, ob_3, tn_4, ln_4, ob_5, tn_6, ln_6, tn_7, ln_7, ob_8, tn_9, ln_9, tn_10, ln_10, tn_11, ln_11, tn_12, ln_12, tn_13, ln_13, tn_14, ln_14, tn_15, ln_15, tn_16, ln_16, tn_17, ln_17, ob_18, tn_19, ln_19, tn_20, ln_20, tn_21, ln_21, tn_22, ln_22, tn_23, ln_23, tn_24, ln_24, tn_25, ln_25, tn_26, ln_26, tn_27, ln_27, ob_28, tn_29, ln_29, tn_30, ln_30, ob_31, tn_32, ln_32, tn_33, ln_33, ob_34, ob_35, tn_36, ln_36, tn_37, ln_37, tn_38, ln_38, ob_39, tn_40, ln_40, tn_41, ln_41, tn_42, ln_42, tn_43, ln_43, tn_44, ln_44, tn_45, ln_45, tn_46, ln_46, tn_47, ln_47, tn_48, ln_48, tn_49, ln_49, tn_50, ln_50, tn_51, ln_51, ob_52, tn_53, ln_53, tn_54, ln_54, tn_55, ln_55, tn_56, ln_56, ob_57, tn_58, ln_58, tn_59, ln_59, tn_60, ln_60, tn_61, ln_61, tn_62, ln_62, tn_63, ln_63, tn_64, ln_64, tn_65, ln_65, ob_66, tn_67, ln_67, tn_68, ln_68, tn_69, ln_69, tn_70, ln_70, tn_71, ln_71, tn_72, ln_72, tn_73, ln_73, ob_74, tn_75, ln_75, tn_76, ln_76, tn_77, ln_77, tn_78, ln_78, tn_79, ln_79, tn_80, ln_80, tn_81, ln_81, tn_82, ln_82, tn_83, ln_83, ob_84, tn_85, ln_85, tn_86, ln_86, tn_87, ln_87, tn_88, ln_88, tn_89, ln_89, tn_90, ln_90, tn_91, ln_91, tn_92, ln_92, tn_93, ln_93, ob_94, tn_95, ln_95, tn_96, ln_96, tn_97, ln_97, tn_98, ln_98, tn_99, ln_99, tn_100, ln_100, tn_101, ln_101, tn_102, ln_102, tn_103, ln_103, ob_104, tn_105, ln_105, tn_106, ln_106, tn_107, ln_107, tn_108, ln_108, tn_109, ln_109, tn_110, ln_110, tn_111, ln_111, tn_112, ln_112, tn_113, ln_113, ob_114, tn_115, ln_115, tn_116, ln_116, tn_117, ln_117, tn_118, ln_118, tn_119, ln_119, tn_120, ln_120, tn_121, ln_121, tn_122, ln_122, tn_123, ln_123, ob_124, tn_125, ln_125, tn_126, ln_126, tn_127, ln_127, tn_128, ln_128, tn_129, ln_129, tn_130, ln_130, tn_131, ln_131, tn_132, ln_132, tn_133, ln_133, ob_134, tn_135, ln_135, tn_136, ln_136, tn_137, ln_137, tn_138, ln_138, tn_139, ln_139, tn_140, ln_140, tn_141, ln_141, tn_142, ln_142, tn_143, ln_143, ob_144, tn_145, ln_145, tn_146, ln_146, tn_147, ln_147, tn_148, ln_148, tn_149, ln_149, tn_150, ln_150, tn_151, ln_151, tn_152, ln_152, tn_153, ln_153, ob_154, tn_155, ln_155, tn_156, ln_156, tn_157, ln_157, tn_158, ln_158, tn_159, ln_159, tn_160, ln_160, tn_161, ln_161, tn_162, ln_162, tn_163, ln_163, ob_164, tn_165, ln_165, tn_166, ln_166, ob_167, tn_168, ln_168, tn_169, ln_169, tn_170, ln_170, tn_171, ln_171, tn_172, ln_172, tn_173, ln_173, tn_174, ln_174, tn_175, ln_175, tn_176, ln_176, ob_177, tn_178, ln_178, tn_179, ln_179, ob_180, tn_181, ln_181, tn_182, ln_182, tn_183, ln_183, tn_184, ln_184, tn_185, ln_185, tn_186, ln_186, tn_187, ln_187, tn_188, ln_188, tn_189, ln_189, tn_190, ln_190, tn_191, ln_191, tn_192, ln_192, tn_193, ln_193, tn_194, ln_194, tn_195, ln_195, tn_196, ln_196, tn_197, ln_197, tn_198, ln_198, tn_199, ln_199, tn_200, ln_200, tn_201, ln_201, tn_202, ln_202, tn_203, ln_203, tn_204, ln_204, tn_205, ln_205, tn_206, ln_206, tn_207, ln_207, tn_208, ln_208, tn_209, ln_209, tn_210, ln_210, tn_211, ln_211, tn_212, ln_212, tn_213, ln_213, tn_214, ln_214, tn_215, ln_215, tn_216, ln_216, tn_217, ln_217, tn_218, ln_218, tn_219, ln_219, tn_220, ln_220, tn_221, ln_221, tn_222, ln_222, tn_223, ln_223, tn_224, ln_224, tn_225, ln_225, tn_226, ln_226, tn_227, ln_227, tn_228, ln_228, tn_229, ln_229, tn_230, ln_230, lx2, lx3, lx4, lx5, lx6, lx7, lx8, lx9, lx10, lx14, lx15, lx16, lx18, lx20, lx24, lx25, lx27, lx32, lx36, lx40, lx41, lx42, lx43, lx45, lx48, lx52, lx54, lx56, lx57, lx58, lx60, lx61, lx62, lx63, lx64, lx66, lx69, lx73, lx80, lx81, lx84, lx85, lx87, lx94, lx96, lx97, lx120, lx128, lx135, lx160, lx162, lx163, lx165, lx200, lx232, lx242, lx243, lx255, lx256, lx320, lx325, lx400, lx405, lx464, lx512, lx600, lx640, lx752, lx900, lx940, lx1000, lx1024, lx1764, lx3360, lx3840, lx5000, lx6400, lx9050, lx9998, lx9999, lx10000, lx25600, lx76800, lx99999]
  refine h _ (fr_si (fr_si (fr_si (fr_si fr_rf (by omega)) (by omega)) (by omega)) (by omega)) ⟨?_, ?_, ?_, ?_⟩
  all_goals simp (disch := omega) only [si_ne, si_eq, sl_ne, sl_eq, xl_si, xi_sl, sA_ne, sA_eq, xl_sA]
theorem uC_same {A : xH} {v w : xV} {um : Nat} {uv : Nat → xV} (h : uC A v um uv) (hn : sameN v w) : uC A w um uv := by
  obtain ⟨h8, h16, σ, hp, hU⟩ := h
  exact ⟨h8, h16, σ, hp, fun i hi => ⟨(hU i hi).1, sameN_tr (sameN_sy hn) (hU i hi).2⟩⟩
theorem uC_fr {S : Nat → Nat → Prop} {A B : xH} {v : xV} {um : Nat} {uv : Nat → xV} (h : uC A v um uv) (hf : fr S A B) (hs : ∀ c k, S c k → ¬ SPs c k) : uC B v um uv := by
  obtain ⟨h8, h16, σ, hp, hU⟩ := h
  unfold SPs at hs
  refine ⟨h8, by rw [fr_i hf (fun q => by have := hs _ _ q; omega)]; exact h16, σ, ⟨fun i hi => ⟨(hp.1 i hi).1, by rw [fr_r hf (fun q => by have := hs _ _ q; omega)]; exact (hp.1 i hi).2⟩, hp.2⟩, fun i hi => ⟨isM_fr (hU i hi).1 hf (fun c k q => ?_), (hU i hi).2⟩⟩
  have := hs c k q
  have := (hp.1 i (by omega)).1
  omega
theorem settled_C {A : xH} {P : xP} {v w : xV} {um : Nat} {uv : Nat → xV} {r : Int32} (hM : isM A 8 w) (h18 : isM A 18 v) (hn : sameN v w) (hu : uC A v um uv)
    (h0 : r = 0 → ∀ B, fr SSt A B → isM B 8 w → uC B w (um' um) (uv' um uv v) → c0C B → P (some (.int r)) B) (h1 : r ≠ 0 → P (some (.int r)) A) : f_X11_settled 0 r A P := by
  unfold f_X11_settled
  simp (disch := omega) only [k_X11_settled_0, k_X11_settled_16, f_X11_changed, w_R, w_RR, x_aload, x_if_ne, x_iload, x_iret, y_cv0, y_cv1, y_getF, xFT, xbool0, xbool1, Nat.reduceAdd, Nat.zero_add, xgl_0, xgl_s, xgl_n, xst_0, xst_1n, xst_1i, xst_1r, xst_1l, xst_s, set_0, set_s, true_and, and_true, xres, xcat_nil, xcat_i, xcat_r, xcat_l, Nat.add_zero, xble0, xble1, xble2, xble3, xble4, xble5, xble6, xble7, xble8, pk_mul, nI_add, nI_1, nI_leI, nI_ltI, nI_eq, n_in, n_cl, z_eq, z_lt, z_le, z_gt, z_ge, z_qe, o_eq, o_lt, o_le, o_gt, o_ge, vp0, vp1, cl0, cl1, n_sub, n_sub1, n_pm1, n_a0, n_0a, ofn, lN0, Nat.reduceLT, Nat.reduceLeDiff, Nat.reduceMul, Nat.reduceSub, Nat.reduceEqDiff, ne_eq, true_implies, false_implies, not_true_eq_false, not_false_eq_true, and_self, and_true, true_and, and_false, false_and, implies_true, if_true, if_false, i00, i10, i01, i11, ob_0, ob_1, tn_2, ln_2, ob_3, tn_4, ln_4, ob_5, tn_6, ln_6, tn_7, ln_7, ob_8, tn_9, ln_9, tn_10, ln_10, tn_11, ln_11, tn_12, ln_12, tn_13, ln_13, tn_14, ln_14, tn_15, ln_15, tn_16, ln_16, tn_17, ln_17, ob_18, tn_19, ln_19, tn_20, ln_20, tn_21, ln_21, tn_22, ln_22, tn_23, ln_23, tn_24, ln_24, tn_25, ln_25, tn_26, ln_26, tn_27, ln_27, ob_28, tn_29, ln_29, tn_30, ln_30, ob_31, tn_32, ln_32, tn_33, ln_33, ob_34, ob_35, tn_36, ln_36, tn_37, ln_37, tn_38, ln_38, ob_39, tn_40, ln_40, tn_41, ln_41, tn_42, ln_42, tn_43, ln_43, tn_44, ln_44, tn_45, ln_45, tn_46, ln_46, tn_47, ln_47, tn_48, ln_48, tn_49, ln_49, tn_50, ln_50, tn_51, ln_51, ob_52, tn_53, ln_53, tn_54, ln_54, tn_55, ln_55, tn_56, ln_56, ob_57, tn_58, ln_58, tn_59, ln_59, tn_60, ln_60, tn_61, ln_61, tn_62, ln_62, tn_63, ln_63, tn_64, ln_64, tn_65, ln_65, ob_66, tn_67, ln_67, tn_68, ln_68, tn_69, ln_69, tn_70, ln_70, tn_71, ln_71, tn_72, ln_72, tn_73, ln_73, ob_74, tn_75, ln_75, tn_76, ln_76, tn_77, ln_77, tn_78, ln_78, tn_79, ln_79, tn_80, ln_80, tn_81, ln_81, tn_82, ln_82, tn_83, ln_83, ob_84, tn_85, ln_85, tn_86, ln_86, tn_87, ln_87, tn_88, ln_88, tn_89, ln_89, tn_90, ln_90, tn_91, ln_91, tn_92, ln_92, tn_93, ln_93, ob_94, tn_95, ln_95, tn_96, ln_96, tn_97, ln_97, tn_98, ln_98, tn_99, ln_99, tn_100, ln_100, tn_101, ln_101, tn_102, ln_102, tn_103, ln_103, ob_104, tn_105, ln_105, tn_106, ln_106, tn_107, ln_107, tn_108, ln_108, tn_109, ln_109, tn_110, ln_110, tn_111, ln_111, tn_112, ln_112, tn_113, ln_113, ob_114, tn_115, ln_115, tn_116, ln_116, tn_117, ln_117, tn_118, ln_118, tn_119, ln_119, tn_120, ln_120, tn_121, ln_121, tn_122, ln_122, tn_123, ln_123, ob_124, tn_125, ln_125, tn_126, ln_126, tn_127, ln_127, tn_128, ln_128, tn_129, ln_129, tn_130, ln_130, tn_131, ln_131, tn_132, ln_132, tn_133, ln_133, ob_134, tn_135, ln_135, tn_136, ln_136, tn_137, ln_137, tn_138, ln_138, tn_139, ln_139, tn_140, ln_140, tn_141, ln_141, tn_142, ln_142, tn_143, ln_143, ob_144, tn_145, ln_145, tn_146, ln_146, tn_147, ln_147, tn_148, ln_148, tn_149, ln_149, tn_150, ln_150, tn_151, ln_151, tn_152, ln_152, tn_153, ln_153, ob_154, tn_155, ln_155, tn_156, ln_156, tn_157, ln_157, tn_158, ln_158, tn_159, ln_159, tn_160, ln_160, tn_161, ln_161, tn_162, ln_162, tn_163, ln_163, ob_164, tn_165, ln_165, tn_166, ln_166, ob_167, tn_168, ln_168, tn_169, ln_169, tn_170, ln_170, tn_171, ln_171, tn_172, ln_172, tn_173, ln_173, tn_174, ln_174, tn_175, ln_175, tn_176, ln_176, ob_177, tn_178, ln_178, tn_179, ln_179, ob_180, tn_181, ln_181, tn_182, ln_182, tn_183, ln_183, tn_184, ln_184, tn_185, ln_185, tn_186, ln_186, tn_187, ln_187, tn_188, ln_188, tn_189, ln_189, tn_190, ln_190, tn_191, ln_191, tn_192, ln_192, tn_193, ln_193, tn_194, ln_194, tn_195, ln_195, tn_196, ln_196, tn_197, ln_197, tn_198, ln_198, tn_199, ln_199, tn_200, ln_200, tn_201, ln_201, tn_202, ln_202, tn_203, ln_203, tn_204, ln_204, tn_205, ln_205, tn_206, ln_206, tn_207, ln_207, tn_208, ln_208, tn_209, ln_209, tn_210, ln_210, tn_211, ln_211, tn_212, ln_212, tn_213, ln_213, tn_214, ln_214, tn_215, ln_215, tn_216, ln_216, tn_217, ln_217, tn_218, ln_218, tn_219, ln_219, tn_220, ln_220, tn_221, ln_221, tn_222, ln_222, tn_223, ln_223, tn_224, ln_224, tn_225, ln_225, tn_226, ln_226, tn_227, ln_227, tn_228, ln_228, tn_229, ln_229, tn_230, ln_230, lx2, lx3, lx4, lx5, lx6, lx7, lx8, lx9, lx10, lx14, lx15, lx16, lx18, lx20, lx24, lx25, lx27, lx32, lx36, lx40, lx41, lx42, lx43, lx45, lx48, lx52, lx54, lx56, lx57, lx58, lx60, lx61, lx62, lx63, lx64, lx66, lx69, lx73, lx80, lx81, lx84, lx85, lx87, lx94, lx96, lx97, lx120, lx128, lx135, lx160, lx162, lx163, lx165, lx200, lx232, lx242, lx243, lx255, lx256, lx320, lx325, lx400, lx405, lx464, lx512, lx600, lx640, lx752, lx900, lx940, lx1000, lx1024, lx1764, lx3360, lx3840, lx5000, lx6400, lx9050, lx9998, lx9999, lx10000, lx25600, lx76800, lx99999]
  refine ⟨fun a => h1 a, fun a => ?_⟩
  refine ⟨rfl, rfl, v, v, um, uv, h18, sameN_rf, hu, fun B hB huB => ?_⟩
  simp (disch := omega) only [k_X11_settled_0, k_X11_settled_16, f_X11_changed, w_R, w_RR, x_aload, x_if_ne, x_iload, x_iret, y_cv0, y_cv1, y_getF, xFT, xbool0, xbool1, Nat.reduceAdd, Nat.zero_add, xgl_0, xgl_s, xgl_n, xst_0, xst_1n, xst_1i, xst_1r, xst_1l, xst_s, set_0, set_s, true_and, and_true, xres, xcat_nil, xcat_i, xcat_r, xcat_l, Nat.add_zero, xble0, xble1, xble2, xble3, xble4, xble5, xble6, xble7, xble8, pk_mul, nI_add, nI_1, nI_leI, nI_ltI, nI_eq, n_in, n_cl, z_eq, z_lt, z_le, z_gt, z_ge, z_qe, o_eq, o_lt, o_le, o_gt, o_ge, vp0, vp1, cl0, cl1, n_sub, n_sub1, n_pm1, n_a0, n_0a, ofn, lN0, Nat.reduceLT, Nat.reduceLeDiff, Nat.reduceMul, Nat.reduceSub, Nat.reduceEqDiff, ne_eq, true_implies, false_implies, not_true_eq_false, not_false_eq_true, and_self, and_true, true_and, and_false, false_and, implies_true, if_true, if_false, i00, i10, i01, i11, ob_0, ob_1, tn_2, ln_2, ob_3, tn_4, ln_4, ob_5, tn_6, ln_6, tn_7, ln_7, ob_8, tn_9, ln_9, tn_10, ln_10, tn_11, ln_11, tn_12, ln_12, tn_13, ln_13, tn_14, ln_14, tn_15, ln_15, tn_16, ln_16, tn_17, ln_17, ob_18, tn_19, ln_19, tn_20, ln_20, tn_21, ln_21, tn_22, ln_22, tn_23, ln_23, tn_24, ln_24, tn_25, ln_25, tn_26, ln_26, tn_27, ln_27, ob_28, tn_29, ln_29, tn_30, ln_30, ob_31, tn_32, ln_32, tn_33, ln_33, ob_34, ob_35, tn_36, ln_36, tn_37, ln_37, tn_38, ln_38, ob_39, tn_40, ln_40, tn_41, ln_41, tn_42, ln_42, tn_43, ln_43, tn_44, ln_44, tn_45, ln_45, tn_46, ln_46, tn_47, ln_47, tn_48, ln_48, tn_49, ln_49, tn_50, ln_50, tn_51, ln_51, ob_52, tn_53, ln_53, tn_54, ln_54, tn_55, ln_55, tn_56, ln_56, ob_57, tn_58, ln_58, tn_59, ln_59, tn_60, ln_60, tn_61, ln_61, tn_62, ln_62, tn_63, ln_63, tn_64, ln_64, tn_65, ln_65, ob_66, tn_67, ln_67, tn_68, ln_68, tn_69, ln_69, tn_70, ln_70, tn_71, ln_71, tn_72, ln_72, tn_73, ln_73, ob_74, tn_75, ln_75, tn_76, ln_76, tn_77, ln_77, tn_78, ln_78, tn_79, ln_79, tn_80, ln_80, tn_81, ln_81, tn_82, ln_82, tn_83, ln_83, ob_84, tn_85, ln_85, tn_86, ln_86, tn_87, ln_87, tn_88, ln_88, tn_89, ln_89, tn_90, ln_90, tn_91, ln_91, tn_92, ln_92, tn_93, ln_93, ob_94, tn_95, ln_95, tn_96, ln_96, tn_97, ln_97, tn_98, ln_98, tn_99, ln_99, tn_100, ln_100, tn_101, ln_101, tn_102, ln_102, tn_103, ln_103, ob_104, tn_105, ln_105, tn_106, ln_106, tn_107, ln_107, tn_108, ln_108, tn_109, ln_109, tn_110, ln_110, tn_111, ln_111, tn_112, ln_112, tn_113, ln_113, ob_114, tn_115, ln_115, tn_116, ln_116, tn_117, ln_117, tn_118, ln_118, tn_119, ln_119, tn_120, ln_120, tn_121, ln_121, tn_122, ln_122, tn_123, ln_123, ob_124, tn_125, ln_125, tn_126, ln_126, tn_127, ln_127, tn_128, ln_128, tn_129, ln_129, tn_130, ln_130, tn_131, ln_131, tn_132, ln_132, tn_133, ln_133, ob_134, tn_135, ln_135, tn_136, ln_136, tn_137, ln_137, tn_138, ln_138, tn_139, ln_139, tn_140, ln_140, tn_141, ln_141, tn_142, ln_142, tn_143, ln_143, ob_144, tn_145, ln_145, tn_146, ln_146, tn_147, ln_147, tn_148, ln_148, tn_149, ln_149, tn_150, ln_150, tn_151, ln_151, tn_152, ln_152, tn_153, ln_153, ob_154, tn_155, ln_155, tn_156, ln_156, tn_157, ln_157, tn_158, ln_158, tn_159, ln_159, tn_160, ln_160, tn_161, ln_161, tn_162, ln_162, tn_163, ln_163, ob_164, tn_165, ln_165, tn_166, ln_166, ob_167, tn_168, ln_168, tn_169, ln_169, tn_170, ln_170, tn_171, ln_171, tn_172, ln_172, tn_173, ln_173, tn_174, ln_174, tn_175, ln_175, tn_176, ln_176, ob_177, tn_178, ln_178, tn_179, ln_179, ob_180, tn_181, ln_181, tn_182, ln_182, tn_183, ln_183, tn_184, ln_184, tn_185, ln_185, tn_186, ln_186, tn_187, ln_187, tn_188, ln_188, tn_189, ln_189, tn_190, ln_190, tn_191, ln_191, tn_192, ln_192, tn_193, ln_193, tn_194, ln_194, tn_195, ln_195, tn_196, ln_196, tn_197, ln_197, tn_198, ln_198, tn_199, ln_199, tn_200, ln_200, tn_201, ln_201, tn_202, ln_202, tn_203, ln_203, tn_204, ln_204, tn_205, ln_205, tn_206, ln_206, tn_207, ln_207, tn_208, ln_208, tn_209, ln_209, tn_210, ln_210, tn_211, ln_211, tn_212, ln_212, tn_213, ln_213, tn_214, ln_214, tn_215, ln_215, tn_216, ln_216, tn_217, ln_217, tn_218, ln_218, tn_219, ln_219, tn_220, ln_220, tn_221, ln_221, tn_222, ln_222, tn_223, ln_223, tn_224, ln_224, tn_225, ln_225, tn_226, ln_226, tn_227, ln_227, tn_228, ln_228, tn_229, ln_229, tn_230, ln_230, lx2, lx3, lx4, lx5, lx6, lx7, lx8, lx9, lx10, lx14, lx15, lx16, lx18, lx20, lx24, lx25, lx27, lx32, lx36, lx40, lx41, lx42, lx43, lx45, lx48, lx52, lx54, lx56, lx57, lx58, lx60, lx61, lx62, lx63, lx64, lx66, lx69, lx73, lx80, lx81, lx84, lx85, lx87, lx94, lx96, lx97, lx120, lx128, lx135, lx160, lx162, lx163, lx165, lx200, lx232, lx242, lx243, lx255, lx256, lx320, lx325, lx400, lx405, lx464, lx512, lx600, lx640, lx752, lx900, lx940, lx1000, lx1024, lx1764, lx3360, lx3840, lx5000, lx6400, lx9050, lx9998, lx9999, lx10000, lx25600, lx76800, lx99999]
  refine changed_E fun C hC c0 => ?_
  simp (disch := omega) only [k_X11_settled_0, k_X11_settled_16, f_X11_changed, w_R, w_RR, x_aload, x_if_ne, x_iload, x_iret, y_cv0, y_cv1, y_getF, xFT, xbool0, xbool1, Nat.reduceAdd, Nat.zero_add, xgl_0, xgl_s, xgl_n, xst_0, xst_1n, xst_1i, xst_1r, xst_1l, xst_s, set_0, set_s, true_and, and_true, xres, xcat_nil, xcat_i, xcat_r, xcat_l, Nat.add_zero, xble0, xble1, xble2, xble3, xble4, xble5, xble6, xble7, xble8, pk_mul, nI_add, nI_1, nI_leI, nI_ltI, nI_eq, n_in, n_cl, z_eq, z_lt, z_le, z_gt, z_ge, z_qe, o_eq, o_lt, o_le, o_gt, o_ge, vp0, vp1, cl0, cl1, n_sub, n_sub1, n_pm1, n_a0, n_0a, ofn, lN0, Nat.reduceLT, Nat.reduceLeDiff, Nat.reduceMul, Nat.reduceSub, Nat.reduceEqDiff, ne_eq, true_implies, false_implies, not_true_eq_false, not_false_eq_true, and_self, and_true, true_and, and_false, false_and, implies_true, if_true, if_false, i00, i10, i01, i11, ob_0, ob_1, tn_2, ln_2, ob_3, tn_4, ln_4, ob_5, tn_6, ln_6, tn_7, ln_7, ob_8, tn_9, ln_9, tn_10, ln_10, tn_11, ln_11, tn_12, ln_12, tn_13, ln_13, tn_14, ln_14, tn_15, ln_15, tn_16, ln_16, tn_17, ln_17, ob_18, tn_19, ln_19, tn_20, ln_20, tn_21, ln_21, tn_22, ln_22, tn_23, ln_23, tn_24, ln_24, tn_25, ln_25, tn_26, ln_26, tn_27, ln_27, ob_28, tn_29, ln_29, tn_30, ln_30, ob_31, tn_32, ln_32, tn_33, ln_33, ob_34, ob_35, tn_36, ln_36, tn_37, ln_37, tn_38, ln_38, ob_39, tn_40, ln_40, tn_41, ln_41, tn_42, ln_42, tn_43, ln_43, tn_44, ln_44, tn_45, ln_45, tn_46, ln_46, tn_47, ln_47, tn_48, ln_48, tn_49, ln_49, tn_50, ln_50, tn_51, ln_51, ob_52, tn_53, ln_53, tn_54, ln_54, tn_55, ln_55, tn_56, ln_56, ob_57, tn_58, ln_58, tn_59, ln_59, tn_60, ln_60, tn_61, ln_61, tn_62, ln_62, tn_63, ln_63, tn_64, ln_64, tn_65, ln_65, ob_66, tn_67, ln_67, tn_68, ln_68, tn_69, ln_69, tn_70, ln_70, tn_71, ln_71, tn_72, ln_72, tn_73, ln_73, ob_74, tn_75, ln_75, tn_76, ln_76, tn_77, ln_77, tn_78, ln_78, tn_79, ln_79, tn_80, ln_80, tn_81, ln_81, tn_82, ln_82, tn_83, ln_83, ob_84, tn_85, ln_85, tn_86, ln_86, tn_87, ln_87, tn_88, ln_88, tn_89, ln_89, tn_90, ln_90, tn_91, ln_91, tn_92, ln_92, tn_93, ln_93, ob_94, tn_95, ln_95, tn_96, ln_96, tn_97, ln_97, tn_98, ln_98, tn_99, ln_99, tn_100, ln_100, tn_101, ln_101, tn_102, ln_102, tn_103, ln_103, ob_104, tn_105, ln_105, tn_106, ln_106, tn_107, ln_107, tn_108, ln_108, tn_109, ln_109, tn_110, ln_110, tn_111, ln_111, tn_112, ln_112, tn_113, ln_113, ob_114, tn_115, ln_115, tn_116, ln_116, tn_117, ln_117, tn_118, ln_118, tn_119, ln_119, tn_120, ln_120, tn_121, ln_121, tn_122, ln_122, tn_123, ln_123, ob_124, tn_125, ln_125, tn_126, ln_126, tn_127, ln_127, tn_128, ln_128, tn_129, ln_129, tn_130, ln_130, tn_131, ln_131, tn_132, ln_132, tn_133, ln_133, ob_134, tn_135, ln_135, tn_136, ln_136, tn_137, ln_137, tn_138, ln_138, tn_139, ln_139, tn_140, ln_140, tn_141, ln_141, tn_142, ln_142, tn_143, ln_143, ob_144, tn_145, ln_145, tn_146, ln_146, tn_147, ln_147, tn_148, ln_148, tn_149, ln_149, tn_150, ln_150, tn_151, ln_151, tn_152, ln_152, tn_153, ln_153, ob_154, tn_155, ln_155, tn_156, ln_156, tn_157, ln_157, tn_158, ln_158, tn_159, ln_159, tn_160, ln_160, tn_161, ln_161, tn_162, ln_162, tn_163, ln_163, ob_164, tn_165, ln_165, tn_166, ln_166, ob_167, tn_168, ln_168, tn_169, ln_169, tn_170, ln_170, tn_171, ln_171, tn_172, ln_172, tn_173, ln_173, tn_174, ln_174, tn_175, ln_175, tn_176, ln_176, ob_177, tn_178, ln_178, tn_179, ln_179, ob_180, tn_181, ln_181, tn_182, ln_182, tn_183, ln_183, tn_184, ln_184, tn_185, ln_185, tn_186, ln_186, tn_187, ln_187, tn_188, ln_188, tn_189, ln_189, tn_190, ln_190, tn_191, ln_191, tn_192, ln_192, tn_193, ln_193, tn_194, ln_194, tn_195, ln_195, tn_196, ln_196, tn_197, ln_197, tn_198, ln_198, tn_199, ln_199, tn_200, ln_200, tn_201, ln_201, tn_202, ln_202, tn_203, ln_203, tn_204, ln_204, tn_205, ln_205, tn_206, ln_206, tn_207, ln_207, tn_208, ln_208, tn_209, ln_209, tn_210, ln_210, tn_211, ln_211, tn_212, ln_212, tn_213, ln_213, tn_214, ln_214, tn_215, ln_215, tn_216, ln_216, tn_217, ln_217, tn_218, ln_218, tn_219, ln_219, tn_220, ln_220, tn_221, ln_221, tn_222, ln_222, tn_223, ln_223, tn_224, ln_224, tn_225, ln_225, tn_226, ln_226, tn_227, ln_227, tn_228, ln_228, tn_229, ln_229, tn_230, ln_230, lx2, lx3, lx4, lx5, lx6, lx7, lx8, lx9, lx10, lx14, lx15, lx16, lx18, lx20, lx24, lx25, lx27, lx32, lx36, lx40, lx41, lx42, lx43, lx45, lx48, lx52, lx54, lx56, lx57, lx58, lx60, lx61, lx62, lx63, lx64, lx66, lx69, lx73, lx80, lx81, lx84, lx85, lx87, lx94, lx96, lx97, lx120, lx128, lx135, lx160, lx162, lx163, lx165, lx200, lx232, lx242, lx243, lx255, lx256, lx320, lx325, lx400, lx405, lx464, lx512, lx600, lx640, lx752, lx900, lx940, lx1000, lx1024, lx1764, lx3360, lx3840, lx5000, lx6400, lx9050, lx9998, lx9999, lx10000, lx25600, lx76800, lx99999]
  have hMB := isM_fr hM hB (by unfold SPs; omega)
  exact h0 a C (fr_tr (fr_mono hB fun c k q => Or.inl q) (fr_mono hC fun c k q => Or.inr q)) (isM_fr hMB hC (by omega)) (uC_fr (uC_same huB hn) hC (by unfold SPs; omega)) c0

