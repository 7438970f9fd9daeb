/-! ===== the class's chart: chained, part, waysOf ===== -/
theorem d_X1_capped_0 : decode cX1_capped 0 = .ok (.iload_n 0, 1) := by decide +kernel
theorem d_X1_capped_1 : decode cX1_capped 1 = .ok (.sipush 9999, 3) := by decide +kernel
theorem d_X1_capped_4 : decode cX1_capped 4 = .ok (.invokestatic 48, 3) := by decide +kernel
theorem d_X1_capped_7 : decode cX1_capped 7 = .ok (.ireturn, 1) := by decide +kernel
def k_X1_capped_0 (P : xP) : xK := x_iload 0 (x_push (.int 9999) (x_cs2 (w_II f_J9_min_7cf53) (x_iret P)))
set_option maxRecDepth 20000 in
theorem t_X1_capped_0 {p : Program} {l : Launch} {e : Env} {s : State} {m : MethodId} {args : Array Value} {below : List Frame} {meth : Method} {c : Code} {g : xG} (X : xX p s m args c meth cX1_capped RX1 1 g) (hr : meth.sig.returnType = (some .int)) {P : xP} : xAt p l e { frames := 1, cells := 0, slots := 0, locals := 21 } s m args below meth c g 1 xFT xN 0 0 (MQ below (xQc g xFT xN P) args s 0 0 (xFr g)) (k_X1_capped_0 P) 0 := by
  unfold k_X1_capped_0
  refine r_iload_n (pc := 0) X d_X1_capped_0 fn0 ?_
  refine r_sipush (pc := 1) X d_X1_capped_1 (by decide +kernel) ?_
  refine r_cs2 (pc := 4) X (con_J9_min_7cf53 l) sf_J9_min_7cf53 ml_RX1_48 (by decide +kernel) (by decide +kernel) d_X1_capped_4 ?_
  exact r_iret (pc := 7) X hr d_X1_capped_7
def f_X1_capped (a0 : Int32) (A : xH) (P : xP) : Prop := k_X1_capped_0 P [some (.int a0)] [] A
set_option maxRecDepth 20000 in
theorem con_X1_capped (l : Launch) : xCon l yX1_capped cX1_capped 1 (some .int) 1 21 xN xN 0 xFT xFT (w_I f_X1_capped) :=
  xc_I (plainFor_of_name pn_RX1) (by decide +kernel) (fun p e s m args below meth c g a0 A P h X hr _ => ⟨_, h, t_X1_capped_0 X hr⟩)
theorem d_X1_chained_0 : decode cX1_chained 0 = .ok (.iload 4, 2) := by decide +kernel
theorem d_X1_chained_2 : decode cX1_chained 2 = .ok (.aload_n 0, 1) := by decide +kernel
theorem d_X1_chained_3 : decode cX1_chained 3 = .ok (.getfield 88, 3) := by decide +kernel
theorem d_X1_chained_6 : decode cX1_chained 6 = .ok (.if_icmp .lt 5, 3) := by decide +kernel
theorem d_X1_chained_9 : decode cX1_chained 9 = .ok (.iconst 0, 1) := by decide +kernel
theorem d_X1_chained_10 : decode cX1_chained 10 = .ok (.ireturn, 1) := by decide +kernel
theorem d_X1_chained_11 : decode cX1_chained 11 = .ok (.iconst 0, 1) := by decide +kernel
theorem d_X1_chained_12 : decode cX1_chained 12 = .ok (.istore 5, 2) := by decide +kernel
theorem d_X1_chained_14 : decode cX1_chained 14 = .ok (.iload 4, 2) := by decide +kernel
theorem d_X1_chained_16 : decode cX1_chained 16 = .ok (.iconst 5, 1) := by decide +kernel
theorem d_X1_chained_17 : decode cX1_chained 17 = .ok (.imul, 1) := by decide +kernel
theorem d_X1_chained_18 : decode cX1_chained 18 = .ok (.iload_n 1, 1) := by decide +kernel
theorem d_X1_chained_19 : decode cX1_chained 19 = .ok (.iadd, 1) := by decide +kernel
theorem d_X1_chained_20 : decode cX1_chained 20 = .ok (.iconst 5, 1) := by decide +kernel
theorem d_X1_chained_21 : decode cX1_chained 21 = .ok (.imul, 1) := by decide +kernel
theorem d_X1_chained_22 : decode cX1_chained 22 = .ok (.istore 6, 2) := by decide +kernel
theorem d_X1_chained_24 : decode cX1_chained 24 = .ok (.iload_n 2, 1) := by decide +kernel
theorem d_X1_chained_25 : decode cX1_chained 25 = .ok (.bipush 9, 2) := by decide +kernel
theorem d_X1_chained_27 : decode cX1_chained 27 = .ok (.imul, 1) := by decide +kernel
theorem d_X1_chained_28 : decode cX1_chained 28 = .ok (.iload_n 3, 1) := by decide +kernel
theorem d_X1_chained_29 : decode cX1_chained 29 = .ok (.iadd, 1) := by decide +kernel
theorem d_X1_chained_30 : decode cX1_chained 30 = .ok (.iconst 5, 1) := by decide +kernel
theorem d_X1_chained_31 : decode cX1_chained 31 = .ok (.imul, 1) := by decide +kernel
theorem d_X1_chained_32 : decode cX1_chained 32 = .ok (.istore 7, 2) := by decide +kernel
theorem d_X1_chained_34 : decode cX1_chained 34 = .ok (.iconst 0, 1) := by decide +kernel
theorem d_X1_chained_35 : decode cX1_chained 35 = .ok (.istore 8, 2) := by decide +kernel
theorem d_X1_chained_37 : decode cX1_chained 37 = .ok (.iload 8, 2) := by decide +kernel
theorem d_X1_chained_39 : decode cX1_chained 39 = .ok (.aload_n 0, 1) := by decide +kernel
theorem d_X1_chained_40 : decode cX1_chained 40 = .ok (.getfield 81, 3) := by decide +kernel
theorem d_X1_chained_43 : decode cX1_chained 43 = .ok (.getfield 61, 3) := by decide +kernel
theorem d_X1_chained_46 : decode cX1_chained 46 = .ok (.if_icmp .ge 41, 3) := by decide +kernel
theorem d_X1_chained_49 : decode cX1_chained 49 = .ok (.iload 5, 2) := by decide +kernel
theorem d_X1_chained_51 : decode cX1_chained 51 = .ok (.aload_n 0, 1) := by decide +kernel
theorem d_X1_chained_52 : decode cX1_chained 52 = .ok (.getfield 34, 3) := by decide +kernel
theorem d_X1_chained_55 : decode cX1_chained 55 = .ok (.iload 6, 2) := by decide +kernel
theorem d_X1_chained_57 : decode cX1_chained 57 = .ok (.iload 8, 2) := by decide +kernel
theorem d_X1_chained_59 : decode cX1_chained 59 = .ok (.iadd, 1) := by decide +kernel
theorem d_X1_chained_60 : decode cX1_chained 60 = .ok (.iaload, 1) := by decide +kernel
theorem d_X1_chained_61 : decode cX1_chained 61 = .ok (.aload_n 0, 1) := by decide +kernel
theorem d_X1_chained_62 : decode cX1_chained 62 = .ok (.getfield 37, 3) := by decide +kernel
theorem d_X1_chained_65 : decode cX1_chained 65 = .ok (.iload 7, 2) := by decide +kernel
theorem d_X1_chained_67 : decode cX1_chained 67 = .ok (.iload 8, 2) := by decide +kernel
theorem d_X1_chained_69 : decode cX1_chained 69 = .ok (.iadd, 1) := by decide +kernel
theorem d_X1_chained_70 : decode cX1_chained 70 = .ok (.iaload, 1) := by decide +kernel
theorem d_X1_chained_71 : decode cX1_chained 71 = .ok (.imul, 1) := by decide +kernel
theorem d_X1_chained_72 : decode cX1_chained 72 = .ok (.iadd, 1) := by decide +kernel
theorem d_X1_chained_73 : decode cX1_chained 73 = .ok (.sipush 9999, 3) := by decide +kernel
theorem d_X1_chained_76 : decode cX1_chained 76 = .ok (.invokestatic 48, 3) := by decide +kernel
theorem d_X1_chained_79 : decode cX1_chained 79 = .ok (.istore 5, 2) := by decide +kernel
theorem d_X1_chained_81 : decode cX1_chained 81 = .ok (.iinc 8 1, 3) := by decide +kernel
theorem d_X1_chained_84 : decode cX1_chained 84 = .ok (.goto (-47), 3) := by decide +kernel
theorem d_X1_chained_87 : decode cX1_chained 87 = .ok (.iload 5, 2) := by decide +kernel
theorem d_X1_chained_89 : decode cX1_chained 89 = .ok (.ireturn, 1) := by decide +kernel
def k_X1_chained_0 (P : xP) (C37 : xK) : xK := x_iload 4 (x_aload 0 (y_getI 57 6 (x_icmp_lt (x_push (.int 0) (x_istore 5 (x_iload 4 (x_push (.int 5) (x_imul (x_iload 1 (x_iadd (x_push (.int 5) (x_imul (x_istore 6 (x_iload 2 (x_push (.int 9) (x_imul (x_iload 3 (x_iadd (x_push (.int 5) (x_imul (x_istore 7 (x_push (.int 0) (x_istore 8 (C37))))))))))))))))))))) (x_push (.int 0) (x_iret P)))))
set_option maxRecDepth 20000 in
theorem t_X1_chained_0 {p : Program} {l : Launch} {e : Env} {s : State} {m : MethodId} {args : Array Value} {below : List Frame} {meth : Method} {c : Code} {g : xG} (X : xX p s m args c meth cX1_chained RX1 9 g) (hr : meth.sig.returnType = (some .int)) {P : xP} {C37 : xK} (h37 : xAt p l e { frames := 1, cells := 0, slots := 0, locals := 21 } s m args below meth c g 9 xFT xN 0 0 (MQ below (xQc g xFT xN P) args s 0 0 (xFr g)) C37 37) : xAt p l e { frames := 1, cells := 0, slots := 0, locals := 21 } s m args below meth c g 9 xFT xN 0 0 (MQ below (xQc g xFT xN P) args s 0 0 (xFr g)) (k_X1_chained_0 P C37) 0 := by
  unfold k_X1_chained_0
  refine r_iload (pc := 0) X d_X1_chained_0 ?_
  refine r_aload_n (pc := 2) X d_X1_chained_2 fn0 ?_
  refine s_getI (pc := 3) (ci := 1) X xok1 (by decide +kernel) ob_57 (by decide +kernel) fl_RX1_88 d_X1_chained_3 ?_
  refine r_icmp_lt (pc := 6) (tgt := 11) X d_X1_chained_6 (by decide +kernel) ?_ ?_
  · refine r_iconst (pc := 11) X d_X1_chained_11 (by decide +kernel) ?_
    refine r_istore (pc := 12) X d_X1_chained_12 (by decide +kernel) ?_
    refine r_iload (pc := 14) X d_X1_chained_14 ?_
    refine r_iconst (pc := 16) X d_X1_chained_16 (by decide +kernel) ?_
    refine r_imul (pc := 17) X d_X1_chained_17 ?_
    refine r_iload_n (pc := 18) X d_X1_chained_18 fn1 ?_
    refine r_iadd (pc := 19) X d_X1_chained_19 ?_
    refine r_iconst (pc := 20) X d_X1_chained_20 (by decide +kernel) ?_
    refine r_imul (pc := 21) X d_X1_chained_21 ?_
    refine r_istore (pc := 22) X d_X1_chained_22 (by decide +kernel) ?_
    refine r_iload_n (pc := 24) X d_X1_chained_24 fn2 ?_
    refine r_bipush (pc := 25) X d_X1_chained_25 (by decide +kernel) ?_
    refine r_imul (pc := 27) X d_X1_chained_27 ?_
    refine r_iload_n (pc := 28) X d_X1_chained_28 fn3 ?_
    refine r_iadd (pc := 29) X d_X1_chained_29 ?_
    refine r_iconst (pc := 30) X d_X1_chained_30 (by decide +kernel) ?_
    refine r_imul (pc := 31) X d_X1_chained_31 ?_
    refine r_istore (pc := 32) X d_X1_chained_32 (by decide +kernel) ?_
    refine r_iconst (pc := 34) X d_X1_chained_34 (by decide +kernel) ?_
    refine r_istore (pc := 35) X d_X1_chained_35 (by decide +kernel) ?_
    exact h37
  · refine r_iconst (pc := 9) X d_X1_chained_9 (by decide +kernel) ?_
    exact r_iret (pc := 10) X hr d_X1_chained_10
def k_X1_chained_37 (P : xP) (C37 : xK) : xK := x_iload 8 (x_aload 0 (x_getR xN 1 7 (x_getI xN 4 1 (x_icmp_ge (x_iload 5 (x_iret P)) (x_iload 5 (x_aload 0 (y_getF 57 63 (x_iload 6 (x_iload 8 (x_iadd (y_iald 63 6075 (x_aload 0 (y_getF 57 64 (x_iload 7 (x_iload 8 (x_iadd (y_iald 64 405 (x_imul (x_iadd (x_push (.int 9999) (x_cs2 (w_II f_J9_min_7cf53) (x_istore 5 (x_iinc 8 1 (C37))))))))))))))))))))))))
set_option maxRecDepth 20000 in
theorem t_X1_chained_37 {p : Program} {l : Launch} {e : Env} {s : State} {m : MethodId} {args : Array Value} {below : List Frame} {meth : Method} {c : Code} {g : xG} (X : xX p s m args c meth cX1_chained RX1 9 g) (hr : meth.sig.returnType = (some .int)) {P : xP} {C37 : xK} (h37 : xAt p l e { frames := 1, cells := 0, slots := 0, locals := 21 } s m args below meth c g 9 xFT xN 0 0 (MQ below (xQc g xFT xN P) args s 0 0 (xFr g)) C37 37) : xAt p l e { frames := 1, cells := 0, slots := 0, locals := 21 } s m args below meth c g 9 xFT xN 0 0 (MQ below (xQc g xFT xN P) args s 0 0 (xFr g)) (k_X1_chained_37 P C37) 37 := by
  unfold k_X1_chained_37
  refine r_iload (pc := 37) X d_X1_chained_37 ?_
  refine r_aload_n (pc := 39) X d_X1_chained_39 fn0 ?_
  refine r_getR (pc := 40) X xok1 (by decide +kernel) (by decide +kernel) fl_RX1_81 d_X1_chained_40 ?_
  refine r_getI (pc := 43) X xok4 (by decide +kernel) (by decide +kernel) fl_RX1_61 d_X1_chained_43 ?_
  refine r_icmp_ge (pc := 46) (tgt := 87) X d_X1_chained_46 (by decide +kernel) ?_ ?_
  · refine r_iload (pc := 87) X d_X1_chained_87 ?_
    exact r_iret (pc := 89) X hr d_X1_chained_89
  · refine r_iload (pc := 49) X d_X1_chained_49 ?_
    refine r_aload_n (pc := 51) X d_X1_chained_51 fn0 ?_
    refine s_getF (pc := 52) (ci := 1) (k := 11) X xok1 (by decide +kernel) ob_57 trivial ly_57_11 (by decide +kernel) fl_RX1_34 d_X1_chained_52 ?_
    refine r_iload (pc := 55) X d_X1_chained_55 ?_
    refine r_iload (pc := 57) X d_X1_chained_57 ?_
    refine r_iadd (pc := 59) X d_X1_chained_59 ?_
    refine s_iald (pc := 60) X tn_63 ln_63 d_X1_chained_60 ?_
    refine r_aload_n (pc := 61) X d_X1_chained_61 fn0 ?_
    refine s_getF (pc := 62) (ci := 1) (k := 12) X xok1 (by decide +kernel) ob_57 trivial ly_57_12 (by decide +kernel) fl_RX1_37 d_X1_chained_62 ?_
    refine r_iload (pc := 65) X d_X1_chained_65 ?_
    refine r_iload (pc := 67) X d_X1_chained_67 ?_
    refine r_iadd (pc := 69) X d_X1_chained_69 ?_
    refine s_iald (pc := 70) X tn_64 ln_64 d_X1_chained_70 ?_
    refine r_imul (pc := 71) X d_X1_chained_71 ?_
    refine r_iadd (pc := 72) X d_X1_chained_72 ?_
    refine r_sipush (pc := 73) X d_X1_chained_73 (by decide +kernel) ?_
    refine r_cs2 (pc := 76) X (con_J9_min_7cf53 l) sf_J9_min_7cf53 ml_RX1_48 (by decide +kernel) (by decide +kernel) d_X1_chained_76 ?_
    refine r_istore (pc := 79) X d_X1_chained_79 (by decide +kernel) ?_
    refine r_iinc (pc := 81) X d_X1_chained_81 (by decide +kernel) (by decide +kernel) ?_
    refine r_goto (pc := 84) (tgt := 37) X d_X1_chained_84 (by decide +kernel) ?_
    exact h37
set_option maxRecDepth 20000 in
theorem m_X1_chained {l : Launch} {f : Nat → Int32 → Int32 → Int32 → Int32 → xH → xP → Prop}  {I37 : Nat → Int32 → Int32 → Int32 → Int32 → xH → xP → xM → xK}
    (v0 : ∀ (a0 : Nat) (a1 : Int32) (a2 : Int32) (a3 : Int32) (a4 : Int32) (A : xH) (P : xP), f a0 a1 a2 a3 a4 A P → k_X1_chained_0 P (xE (I37 a0 a1 a2 a3 a4 A P)) [some (.ref a0), some (.int a1), some (.int a2), some (.int a3), some (.int a4), none, none, none, none] [] A)
    (v37 : ∀ (a0 : Nat) (a1 : Int32) (a2 : Int32) (a3 : Int32) (a4 : Int32) (A : xH) (P : xP), f a0 a1 a2 a3 a4 A P → ∀ (μ : xM) (L : xL) (st : List Value) (B : xH), I37 a0 a1 a2 a3 a4 A P μ L st B → k_X1_chained_37 P (xB (I37 a0 a1 a2 a3 a4 A P) μ) L st B) : xCon l yX1_chained cX1_chained 9 (some .int) 1 21 xN xN 0 xFT xFT (w_RIIII f) := by
  refine xc_RIIII (plainFor_of_name pn_RX1) (by decide +kernel) (fun p e s m args below meth c g a0 a1 a2 a3 a4 A P h X hr _ => ?_)
  have h37 := x_loop1 (p := p) (l := l) (e := e) (R := { frames := 1, cells := 0, slots := 0, locals := 21 }) (s := s) (m := m) (args := args) (below := below) (meth := meth) (c := c) (g := g) (nL := 9) (F := xFT) (n := xN) (cells := 0) (slots := 0) (Q := MQ below (xQc g xFT xN P) args s 0 0 (xFr g)) (I := I37 a0 a1 a2 a3 a4 A P) (pc1 := 37) (fun μ i37 => xAt_mono (t_X1_chained_37 (P := P) X hr i37) (v37 a0 a1 a2 a3 a4 A P h μ))
  exact ⟨_, v0 a0 a1 a2 a3 a4 A P h, t_X1_chained_0 X hr h37⟩
theorem d_X1_waysOf_0 : decode cX1_waysOf 0 = .ok (.iload_n 1, 1) := by decide +kernel
theorem d_X1_waysOf_1 : decode cX1_waysOf 1 = .ok (.bipush 8, 2) := by decide +kernel
theorem d_X1_waysOf_3 : decode cX1_waysOf 3 = .ok (.if_icmp .ge 32, 3) := by decide +kernel
theorem d_X1_waysOf_6 : decode cX1_waysOf 6 = .ok (.iload_n 3, 1) := by decide +kernel
theorem d_X1_waysOf_7 : decode cX1_waysOf 7 = .ok (.iload_n 2, 1) := by decide +kernel
theorem d_X1_waysOf_8 : decode cX1_waysOf 8 = .ok (.iconst 1, 1) := by decide +kernel
theorem d_X1_waysOf_9 : decode cX1_waysOf 9 = .ok (.iadd, 1) := by decide +kernel
theorem d_X1_waysOf_10 : decode cX1_waysOf 10 = .ok (.if_icmp .ne 23, 3) := by decide +kernel
theorem d_X1_waysOf_13 : decode cX1_waysOf 13 = .ok (.iload_n 2, 1) := by decide +kernel
theorem d_X1_waysOf_14 : decode cX1_waysOf 14 = .ok (.bipush 8, 2) := by decide +kernel
theorem d_X1_waysOf_16 : decode cX1_waysOf 16 = .ok (.if_icmp .ge 17, 3) := by decide +kernel
theorem d_X1_waysOf_19 : decode cX1_waysOf 19 = .ok (.aload_n 0, 1) := by decide +kernel
theorem d_X1_waysOf_20 : decode cX1_waysOf 20 = .ok (.getfield 25, 3) := by decide +kernel
theorem d_X1_waysOf_23 : decode cX1_waysOf 23 = .ok (.iload_n 2, 1) := by decide +kernel
theorem d_X1_waysOf_24 : decode cX1_waysOf 24 = .ok (.iaload, 1) := by decide +kernel
theorem d_X1_waysOf_25 : decode cX1_waysOf 25 = .ok (.iload_n 1, 1) := by decide +kernel
theorem d_X1_waysOf_26 : decode cX1_waysOf 26 = .ok (.if_icmp .ne 7, 3) := by decide +kernel
theorem d_X1_waysOf_29 : decode cX1_waysOf 29 = .ok (.iconst 1, 1) := by decide +kernel
theorem d_X1_waysOf_30 : decode cX1_waysOf 30 = .ok (.goto 4, 3) := by decide +kernel
theorem d_X1_waysOf_33 : decode cX1_waysOf 33 = .ok (.iconst 0, 1) := by decide +kernel
theorem d_X1_waysOf_34 : decode cX1_waysOf 34 = .ok (.ireturn, 1) := by decide +kernel
theorem d_X1_waysOf_35 : decode cX1_waysOf 35 = .ok (.iload_n 1, 1) := by decide +kernel
theorem d_X1_waysOf_36 : decode cX1_waysOf 36 = .ok (.bipush 8, 2) := by decide +kernel
theorem d_X1_waysOf_38 : decode cX1_waysOf 38 = .ok (.isub, 1) := by decide +kernel
theorem d_X1_waysOf_39 : decode cX1_waysOf 39 = .ok (.istore 4, 2) := by decide +kernel
theorem d_X1_waysOf_41 : decode cX1_waysOf 41 = .ok (.iload_n 2, 1) := by decide +kernel
theorem d_X1_waysOf_42 : decode cX1_waysOf 42 = .ok (.iload_n 3, 1) := by decide +kernel
theorem d_X1_waysOf_43 : decode cX1_waysOf 43 = .ok (.if_icmp .ne 13, 3) := by decide +kernel
theorem d_X1_waysOf_46 : decode cX1_waysOf 46 = .ok (.aload_n 0, 1) := by decide +kernel
theorem d_X1_waysOf_47 : decode cX1_waysOf 47 = .ok (.getfield 28, 3) := by decide +kernel
theorem d_X1_waysOf_50 : decode cX1_waysOf 50 = .ok (.iload 4, 2) := by decide +kernel
theorem d_X1_waysOf_52 : decode cX1_waysOf 52 = .ok (.iaload, 1) := by decide +kernel
theorem d_X1_waysOf_53 : decode cX1_waysOf 53 = .ok (.goto 19, 3) := by decide +kernel
theorem d_X1_waysOf_56 : decode cX1_waysOf 56 = .ok (.aload_n 0, 1) := by decide +kernel
theorem d_X1_waysOf_57 : decode cX1_waysOf 57 = .ok (.getfield 40, 3) := by decide +kernel
theorem d_X1_waysOf_60 : decode cX1_waysOf 60 = .ok (.iload_n 2, 1) := by decide +kernel
theorem d_X1_waysOf_61 : decode cX1_waysOf 61 = .ok (.bipush 9, 2) := by decide +kernel
theorem d_X1_waysOf_63 : decode cX1_waysOf 63 = .ok (.imul, 1) := by decide +kernel
theorem d_X1_waysOf_64 : decode cX1_waysOf 64 = .ok (.iload_n 3, 1) := by decide +kernel
theorem d_X1_waysOf_65 : decode cX1_waysOf 65 = .ok (.iadd, 1) := by decide +kernel
theorem d_X1_waysOf_66 : decode cX1_waysOf 66 = .ok (.iconst 5, 1) := by decide +kernel
theorem d_X1_waysOf_67 : decode cX1_waysOf 67 = .ok (.imul, 1) := by decide +kernel
theorem d_X1_waysOf_68 : decode cX1_waysOf 68 = .ok (.iload 4, 2) := by decide +kernel
theorem d_X1_waysOf_70 : decode cX1_waysOf 70 = .ok (.iadd, 1) := by decide +kernel
theorem d_X1_waysOf_71 : decode cX1_waysOf 71 = .ok (.iaload, 1) := by decide +kernel
theorem d_X1_waysOf_72 : decode cX1_waysOf 72 = .ok (.ireturn, 1) := by decide +kernel
def k_X1_waysOf_72 (P : xP) : xK := x_iret P
set_option maxRecDepth 20000 in
theorem t_X1_waysOf_72 {p : Program} {l : Launch} {e : Env} {s : State} {m : MethodId} {args : Array Value} {below : List Frame} {meth : Method} {c : Code} {g : xG} (X : xX p s m args c meth cX1_waysOf RX1 5 g) (hr : meth.sig.returnType = (some .int)) {P : xP} : xAt p l e { frames := 0, cells := 0, slots := 0, locals := 0 } s m args below meth c g 5 xFT xN 0 0 (MQ below (xQc g xFT xN P) args s 0 0 (xFr g)) (k_X1_waysOf_72 P) 72 := by
  unfold k_X1_waysOf_72
  exact r_iret (pc := 72) X hr d_X1_waysOf_72
def k_X1_waysOf_34 (P : xP) : xK := x_iret P
set_option maxRecDepth 20000 in
theorem t_X1_waysOf_34 {p : Program} {l : Launch} {e : Env} {s : State} {m : MethodId} {args : Array Value} {below : List Frame} {meth : Method} {c : Code} {g : xG} (X : xX p s m args c meth cX1_waysOf RX1 5 g) (hr : meth.sig.returnType = (some .int)) {P : xP} : xAt p l e { frames := 0, cells := 0, slots := 0, locals := 0 } s m args below meth c g 5 xFT xN 0 0 (MQ below (xQc g xFT xN P) args s 0 0 (xFr g)) (k_X1_waysOf_34 P) 34 := by
  unfold k_X1_waysOf_34
  exact r_iret (pc := 34) X hr d_X1_waysOf_34
def k_X1_waysOf_33 (P : xP) : xK := x_push (.int 0) ((k_X1_waysOf_34 P))
set_option maxRecDepth 20000 in
theorem t_X1_waysOf_33 {p : Program} {l : Launch} {e : Env} {s : State} {m : MethodId} {args : Array Value} {below : List Frame} {meth : Method} {c : Code} {g : xG} (X : xX p s m args c meth cX1_waysOf RX1 5 g) (hr : meth.sig.returnType = (some .int)) {P : xP} : xAt p l e { frames := 0, cells := 0, slots := 0, locals := 0 } s m args below meth c g 5 xFT xN 0 0 (MQ below (xQc g xFT xN P) args s 0 0 (xFr g)) (k_X1_waysOf_33 P) 33 := by
  unfold k_X1_waysOf_33
  refine r_iconst (pc := 33) X d_X1_waysOf_33 (by decide +kernel) ?_
  exact t_X1_waysOf_34 X hr
def k_X1_waysOf_0 (P : xP) : xK := x_iload 1 (x_push (.int 8) (x_icmp_ge (x_iload 1 (x_push (.int 8) (x_isub (x_istore 4 (x_iload 2 (x_iload 3 (x_icmp_ne (x_aload 0 (y_getF 57 65 (x_iload 2 (x_push (.int 9) (x_imul (x_iload 3 (x_iadd (x_push (.int 5) (x_imul (x_iload 4 (x_iadd (y_iald 65 405 ((k_X1_waysOf_72 P)))))))))))))) (x_aload 0 (y_getF 57 61 (x_iload 4 (y_iald 61 1215 ((k_X1_waysOf_72 P))))))))))))) (x_iload 3 (x_iload 2 (x_push (.int 1) (x_iadd (x_icmp_ne ((k_X1_waysOf_33 P)) (x_iload 2 (x_push (.int 8) (x_icmp_ge ((k_X1_waysOf_33 P)) (x_aload 0 (y_getF 57 60 (x_iload 2 (y_iald 60 8 (x_iload 1 (x_icmp_ne ((k_X1_waysOf_33 P)) (x_push (.int 1) ((k_X1_waysOf_34 P)))))))))))))))))))
set_option maxRecDepth 20000 in
theorem t_X1_waysOf_0 {p : Program} {l : Launch} {e : Env} {s : State} {m : MethodId} {args : Array Value} {below : List Frame} {meth : Method} {c : Code} {g : xG} (X : xX p s m args c meth cX1_waysOf RX1 5 g) (hr : meth.sig.returnType = (some .int)) {P : xP} : xAt p l e { frames := 0, cells := 0, slots := 0, locals := 0 } s m args below meth c g 5 xFT xN 0 0 (MQ below (xQc g xFT xN P) args s 0 0 (xFr g)) (k_X1_waysOf_0 P) 0 := by
  unfold k_X1_waysOf_0
  refine r_iload_n (pc := 0) X d_X1_waysOf_0 fn1 ?_
  refine r_bipush (pc := 1) X d_X1_waysOf_1 (by decide +kernel) ?_
  refine r_icmp_ge (pc := 3) (tgt := 35) X d_X1_waysOf_3 (by decide +kernel) ?_ ?_
  · refine r_iload_n (pc := 35) X d_X1_waysOf_35 fn1 ?_
    refine r_bipush (pc := 36) X d_X1_waysOf_36 (by decide +kernel) ?_
    refine r_isub (pc := 38) X d_X1_waysOf_38 ?_
    refine r_istore (pc := 39) X d_X1_waysOf_39 (by decide +kernel) ?_
    refine r_iload_n (pc := 41) X d_X1_waysOf_41 fn2 ?_
    refine r_iload_n (pc := 42) X d_X1_waysOf_42 fn3 ?_
    refine r_icmp_ne (pc := 43) (tgt := 56) X d_X1_waysOf_43 (by decide +kernel) ?_ ?_
    · refine r_aload_n (pc := 56) X d_X1_waysOf_56 fn0 ?_
      refine s_getF (pc := 57) (ci := 1) (k := 13) X xok1 (by decide +kernel) ob_57 trivial ly_57_13 (by decide +kernel) fl_RX1_40 d_X1_waysOf_57 ?_
      refine r_iload_n (pc := 60) X d_X1_waysOf_60 fn2 ?_
      refine r_bipush (pc := 61) X d_X1_waysOf_61 (by decide +kernel) ?_
      refine r_imul (pc := 63) X d_X1_waysOf_63 ?_
      refine r_iload_n (pc := 64) X d_X1_waysOf_64 fn3 ?_
      refine r_iadd (pc := 65) X d_X1_waysOf_65 ?_
      refine r_iconst (pc := 66) X d_X1_waysOf_66 (by decide +kernel) ?_
      refine r_imul (pc := 67) X d_X1_waysOf_67 ?_
      refine r_iload (pc := 68) X d_X1_waysOf_68 ?_
      refine r_iadd (pc := 70) X d_X1_waysOf_70 ?_
      refine s_iald (pc := 71) X tn_65 ln_65 d_X1_waysOf_71 ?_
      exact t_X1_waysOf_72 X hr
    · refine r_aload_n (pc := 46) X d_X1_waysOf_46 fn0 ?_
      refine s_getF (pc := 47) (ci := 1) (k := 9) X xok1 (by decide +kernel) ob_57 trivial ly_57_9 (by decide +kernel) fl_RX1_28 d_X1_waysOf_47 ?_
      refine r_iload (pc := 50) X d_X1_waysOf_50 ?_
      refine s_iald (pc := 52) X tn_61 ln_61 d_X1_waysOf_52 ?_
      refine r_goto (pc := 53) (tgt := 72) X d_X1_waysOf_53 (by decide +kernel) ?_
      exact t_X1_waysOf_72 X hr
  · refine r_iload_n (pc := 6) X d_X1_waysOf_6 fn3 ?_
    refine r_iload_n (pc := 7) X d_X1_waysOf_7 fn2 ?_
    refine r_iconst (pc := 8) X d_X1_waysOf_8 (by decide +kernel) ?_
    refine r_iadd (pc := 9) X d_X1_waysOf_9 ?_
    refine r_icmp_ne (pc := 10) (tgt := 33) X d_X1_waysOf_10 (by decide +kernel) ?_ ?_
    · exact t_X1_waysOf_33 X hr
    · refine r_iload_n (pc := 13) X d_X1_waysOf_13 fn2 ?_
      refine r_bipush (pc := 14) X d_X1_waysOf_14 (by decide +kernel) ?_
      refine r_icmp_ge (pc := 16) (tgt := 33) X d_X1_waysOf_16 (by decide +kernel) ?_ ?_
      · exact t_X1_waysOf_33 X hr
      · refine r_aload_n (pc := 19) X d_X1_waysOf_19 fn0 ?_
        refine s_getF (pc := 20) (ci := 1) (k := 8) X xok1 (by decide +kernel) ob_57 trivial ly_57_8 (by decide +kernel) fl_RX1_25 d_X1_waysOf_20 ?_
        refine r_iload_n (pc := 23) X d_X1_waysOf_23 fn2 ?_
        refine s_iald (pc := 24) X tn_60 ln_60 d_X1_waysOf_24 ?_
        refine r_iload_n (pc := 25) X d_X1_waysOf_25 fn1 ?_
        refine r_icmp_ne (pc := 26) (tgt := 33) X d_X1_waysOf_26 (by decide +kernel) ?_ ?_
        · exact t_X1_waysOf_33 X hr
        · refine r_iconst (pc := 29) X d_X1_waysOf_29 (by decide +kernel) ?_
          refine r_goto (pc := 30) (tgt := 34) X d_X1_waysOf_30 (by decide +kernel) ?_
          exact t_X1_waysOf_34 X hr
def f_X1_waysOf (a0 : Nat) (a1 : Int32) (a2 : Int32) (a3 : Int32) (A : xH) (P : xP) : Prop := k_X1_waysOf_0 P [some (.ref a0), some (.int a1), some (.int a2), some (.int a3), none] [] A
set_option maxRecDepth 20000 in
theorem con_X1_waysOf (l : Launch) : xCon l yX1_waysOf cX1_waysOf 5 (some .int) 0 0 xN xN 0 xFT xFT (w_RIII f_X1_waysOf) :=
  xc_RIII (plainFor_of_name pn_RX1) (by decide +kernel) (fun p e s m args below meth c g a0 a1 a2 a3 A P h X hr _ => ⟨_, h, t_X1_waysOf_0 X hr⟩)
theorem min_U {A : xH} {P : xP} {a b m : Nat} (ha : a < 2 ^ 31) (hb : b < 2 ^ 31) (hm : m = min a b) (hP : P (some (.int (nI m))) A) : f_J9_min_7cf53 (nI a) (nI b) A P := by
  subst hm
  rw [f_min]
  by_cases q : a ≤ b
  · rw [if_pos ((nI_leI ha hb).mpr q)]; rw [Nat.min_eq_left q] at hP; exact hP
  · rw [if_neg (fun w => q ((nI_leI ha hb).mp w))]; rw [Nat.min_eq_right (by omega)] at hP; exact hP
theorem capped_C {A : xH} {P : xP} {a m : Nat} (ha : a < 2 ^ 31) (hm : m = min a 9999) (hP : P (some (.int (nI m))) A) : f_X1_capped (nI a) A P := by
  unfold f_X1_capped
  simp (disch := omega) only [k_X1_capped_0, w_II, x_cs2, x_iload, x_iret, x_push, xFT, xbool0, xbool1, Nat.reduceAdd, Nat.zero_add, xgl_0, xgl_s, xgl_n, xst_0, xst_1n, xst_1i, xst_1r, xst_1l, xst_s, set_0, set_s, true_and, and_true, xres, xcat_nil, xcat_i, xcat_r, xcat_l, Nat.add_zero, xble0, xble1, xble2, xble3, xble4, xble5, xble6, xble7, xble8, pk_mul, nI_add, nI_1, nI_leI, nI_ltI, nI_eq, n_in, n_cl, z_eq, z_lt, z_le, z_gt, z_ge, z_qe, o_eq, o_lt, o_le, o_gt, o_ge, vp0, vp1, cl0, cl1, n_sub, n_sub1, n_pm1, n_a0, n_0a, ofn, lN0, Nat.reduceLT, Nat.reduceLeDiff, Nat.reduceMul, Nat.reduceSub, Nat.reduceEqDiff, ne_eq, true_implies, false_implies, not_true_eq_false, not_false_eq_true, and_self, and_true, true_and, and_false, false_and, implies_true, if_true, if_false, i00, i10, i01, i11, ob_0, ob_1, tn_2, ln_2, ob_3, tn_4, ln_4, ob_5, tn_6, ln_6, tn_7, ln_7, ob_8, tn_9, ln_9, tn_10, ln_10, tn_11, ln_11, tn_12, ln_12, tn_13, ln_13, tn_14, ln_14, tn_15, ln_15, tn_16, ln_16, tn_17, ln_17, ob_18, tn_19, ln_19, tn_20, ln_20, tn_21, ln_21, tn_22, ln_22, tn_23, ln_23, tn_24, ln_24, tn_25, ln_25, tn_26, ln_26, tn_27, ln_27, ob_28, tn_29, ln_29, tn_30, ln_30, ob_31, tn_32, ln_32, tn_33, ln_33, ob_34, ob_35, tn_36, ln_36, tn_37, ln_37, tn_38, ln_38, ob_39, tn_40, ln_40, tn_41, ln_41, tn_42, ln_42, tn_43, ln_43, tn_44, ln_44, tn_45, ln_45, tn_46, ln_46, tn_47, ln_47, tn_48, ln_48, tn_49, ln_49, tn_50, ln_50, tn_51, ln_51, ob_52, tn_53, ln_53, tn_54, ln_54, tn_55, ln_55, tn_56, ln_56, ob_57, tn_58, ln_58, tn_59, ln_59, tn_60, ln_60, tn_61, ln_61, tn_62, ln_62, tn_63, ln_63, tn_64, ln_64, tn_65, ln_65, ob_66, tn_67, ln_67, tn_68, ln_68, tn_69, ln_69, tn_70, ln_70, tn_71, ln_71, tn_72, ln_72, tn_73, ln_73, ob_74, tn_75, ln_75, tn_76, ln_76, tn_77, ln_77, tn_78, ln_78, tn_79, ln_79, tn_80, ln_80, tn_81, ln_81, tn_82, ln_82, tn_83, ln_83, ob_84, tn_85, ln_85, tn_86, ln_86, tn_87, ln_87, tn_88, ln_88, tn_89, ln_89, tn_90, ln_90, tn_91, ln_91, tn_92, ln_92, tn_93, ln_93, ob_94, tn_95, ln_95, tn_96, ln_96, tn_97, ln_97, tn_98, ln_98, tn_99, ln_99, tn_100, ln_100, tn_101, ln_101, tn_102, ln_102, tn_103, ln_103, ob_104, tn_105, ln_105, tn_106, ln_106, tn_107, ln_107, tn_108, ln_108, tn_109, ln_109, tn_110, ln_110, tn_111, ln_111, tn_112, ln_112, tn_113, ln_113, ob_114, tn_115, ln_115, tn_116, ln_116, tn_117, ln_117, tn_118, ln_118, tn_119, ln_119, tn_120, ln_120, tn_121, ln_121, tn_122, ln_122, tn_123, ln_123, ob_124, tn_125, ln_125, tn_126, ln_126, tn_127, ln_127, tn_128, ln_128, tn_129, ln_129, tn_130, ln_130, tn_131, ln_131, tn_132, ln_132, tn_133, ln_133, ob_134, tn_135, ln_135, tn_136, ln_136, tn_137, ln_137, tn_138, ln_138, tn_139, ln_139, tn_140, ln_140, tn_141, ln_141, tn_142, ln_142, tn_143, ln_143, ob_144, tn_145, ln_145, tn_146, ln_146, tn_147, ln_147, tn_148, ln_148, tn_149, ln_149, tn_150, ln_150, tn_151, ln_151, tn_152, ln_152, tn_153, ln_153, ob_154, tn_155, ln_155, tn_156, ln_156, tn_157, ln_157, tn_158, ln_158, tn_159, ln_159, tn_160, ln_160, tn_161, ln_161, tn_162, ln_162, tn_163, ln_163, ob_164, tn_165, ln_165, tn_166, ln_166, ob_167, tn_168, ln_168, tn_169, ln_169, tn_170, ln_170, tn_171, ln_171, tn_172, ln_172, tn_173, ln_173, tn_174, ln_174, tn_175, ln_175, tn_176, ln_176, ob_177, tn_178, ln_178, tn_179, ln_179, ob_180, tn_181, ln_181, tn_182, ln_182, tn_183, ln_183, tn_184, ln_184, tn_185, ln_185, tn_186, ln_186, tn_187, ln_187, tn_188, ln_188, tn_189, ln_189, tn_190, ln_190, tn_191, ln_191, tn_192, ln_192, tn_193, ln_193, tn_194, ln_194, tn_195, ln_195, tn_196, ln_196, tn_197, ln_197, tn_198, ln_198, tn_199, ln_199, tn_200, ln_200, tn_201, ln_201, tn_202, ln_202, tn_203, ln_203, tn_204, ln_204, tn_205, ln_205, tn_206, ln_206, tn_207, ln_207, tn_208, ln_208, tn_209, ln_209, tn_210, ln_210, tn_211, ln_211, tn_212, ln_212, tn_213, ln_213, tn_214, ln_214, tn_215, ln_215, tn_216, ln_216, tn_217, ln_217, tn_218, ln_218, tn_219, ln_219, tn_220, ln_220, tn_221, ln_221, tn_222, ln_222, tn_223, ln_223, tn_224, ln_224, tn_225, ln_225, tn_226, ln_226, tn_227, ln_227, tn_228, ln_228, tn_229, ln_229, tn_230, ln_230, lx2, lx3, lx4, lx5, lx6, lx7, lx8, lx9, lx10, lx14, lx15, lx16, lx18, lx20, lx24, lx25, lx27, lx32, lx36, lx40, lx41, lx42, lx43, lx45, lx48, lx52, lx54, lx56, lx57, lx58, lx60, lx61, lx62, lx63, lx64, lx66, lx69, lx73, lx80, lx81, lx84, lx85, lx87, lx94, lx96, lx97, lx120, lx128, lx135, lx160, lx162, lx163, lx165, lx200, lx232, lx242, lx243, lx255, lx256, lx320, lx325, lx400, lx405, lx464, lx512, lx600, lx640, lx752, lx900, lx940, lx1000, lx1024, lx1764, lx3360, lx3840, lx5000, lx6400, lx9050, lx9998, lx9999, lx10000, lx25600, lx76800, lx99999]
  refine min_U ha (by omega) hm ?_
  simp (disch := omega) only [k_X1_capped_0, w_II, x_cs2, x_iload, x_iret, x_push, xFT, xbool0, xbool1, Nat.reduceAdd, Nat.zero_add, xgl_0, xgl_s, xgl_n, xst_0, xst_1n, xst_1i, xst_1r, xst_1l, xst_s, set_0, set_s, true_and, and_true, xres, xcat_nil, xcat_i, xcat_r, xcat_l, Nat.add_zero, xble0, xble1, xble2, xble3, xble4, xble5, xble6, xble7, xble8, pk_mul, nI_add, nI_1, nI_leI, nI_ltI, nI_eq, n_in, n_cl, z_eq, z_lt, z_le, z_gt, z_ge, z_qe, o_eq, o_lt, o_le, o_gt, o_ge, vp0, vp1, cl0, cl1, n_sub, n_sub1, n_pm1, n_a0, n_0a, ofn, lN0, Nat.reduceLT, Nat.reduceLeDiff, Nat.reduceMul, Nat.reduceSub, Nat.reduceEqDiff, ne_eq, true_implies, false_implies, not_true_eq_false, not_false_eq_true, and_self, and_true, true_and, and_false, false_and, implies_true, if_true, if_false, i00, i10, i01, i11, ob_0, ob_1, tn_2, ln_2, ob_3, tn_4, ln_4, ob_5, tn_6, ln_6, tn_7, ln_7, ob_8, tn_9, ln_9, tn_10, ln_10, tn_11, ln_11, tn_12, ln_12, tn_13, ln_13, tn_14, ln_14, tn_15, ln_15, tn_16, ln_16, tn_17, ln_17, ob_18, tn_19, ln_19, tn_20, ln_20, tn_21, ln_21, tn_22, ln_22, tn_23, ln_23, tn_24, ln_24, tn_25, ln_25, tn_26, ln_26, tn_27, ln_27, ob_28, tn_29, ln_29, tn_30, ln_30, ob_31, tn_32, ln_32, tn_33, ln_33, ob_34, ob_35, tn_36, ln_36, tn_37, ln_37, tn_38, ln_38, ob_39, tn_40, ln_40, tn_41, ln_41, tn_42, ln_42, tn_43, ln_43, tn_44, ln_44, tn_45, ln_45, tn_46, ln_46, tn_47, ln_47, tn_48, ln_48, tn_49, ln_49, tn_50, ln_50, tn_51, ln_51, ob_52, tn_53, ln_53, tn_54, ln_54, tn_55, ln_55, tn_56, ln_56, ob_57, tn_58, ln_58, tn_59, ln_59, tn_60, ln_60, tn_61, ln_61, tn_62, ln_62, tn_63, ln_63, tn_64, ln_64, tn_65, ln_65, ob_66, tn_67, ln_67, tn_68, ln_68, tn_69, ln_69, tn_70, ln_70, tn_71, ln_71, tn_72, ln_72, tn_73, ln_73, ob_74, tn_75, ln_75, tn_76, ln_76, tn_77, ln_77, tn_78, ln_78, tn_79, ln_79, tn_80, ln_80, tn_81, ln_81, tn_82, ln_82, tn_83, ln_83, ob_84, tn_85, ln_85, tn_86, ln_86, tn_87, ln_87, tn_88, ln_88, tn_89, ln_89, tn_90, ln_90, tn_91, ln_91, tn_92, ln_92, tn_93, ln_93, ob_94, tn_95, ln_95, tn_96, ln_96, tn_97, ln_97, tn_98, ln_98, tn_99, ln_99, tn_100, ln_100, tn_101, ln_101, tn_102, ln_102, tn_103, ln_103, ob_104, tn_105, ln_105, tn_106, ln_106, tn_107, ln_107, tn_108, ln_108, tn_109, ln_109, tn_110, ln_110, tn_111, ln_111, tn_112, ln_112, tn_113, ln_113, ob_114, tn_115, ln_115, tn_116, ln_116, tn_117, ln_117, tn_118, ln_118, tn_119, ln_119, tn_120, ln_120, tn_121, ln_121, tn_122, ln_122, tn_123, ln_123, ob_124, tn_125, ln_125, tn_126, ln_126, tn_127, ln_127, tn_128, ln_128, tn_129, ln_129, tn_130, ln_130, tn_131, ln_131, tn_132, ln_132, tn_133, ln_133, ob_134, tn_135, ln_135, tn_136, ln_136, tn_137, ln_137, tn_138, ln_138, tn_139, ln_139, tn_140, ln_140, tn_141, ln_141, tn_142, ln_142, tn_143, ln_143, ob_144, tn_145, ln_145, tn_146, ln_146, tn_147, ln_147, tn_148, ln_148, tn_149, ln_149, tn_150, ln_150, tn_151, ln_151, tn_152, ln_152, tn_153, ln_153, ob_154, tn_155, ln_155, tn_156, ln_156, tn_157, ln_157, tn_158, ln_158, tn_159, ln_159, tn_160, ln_160, tn_161, ln_161, tn_162, ln_162, tn_163, ln_163, ob_164, tn_165, ln_165, tn_166, ln_166, ob_167, tn_168, ln_168, tn_169, ln_169, tn_170, ln_170, tn_171, ln_171, tn_172, ln_172, tn_173, ln_173, tn_174, ln_174, tn_175, ln_175, tn_176, ln_176, ob_177, tn_178, ln_178, tn_179, ln_179, ob_180, tn_181, ln_181, tn_182, ln_182, tn_183, ln_183, tn_184, ln_184, tn_185, ln_185, tn_186, ln_186, tn_187, ln_187, tn_188, ln_188, tn_189, ln_189, tn_190, ln_190, tn_191, ln_191, tn_192, ln_192, tn_193, ln_193, tn_194, ln_194, tn_195, ln_195, tn_196, ln_196, tn_197, ln_197, tn_198, ln_198, tn_199, ln_199, tn_200, ln_200, tn_201, ln_201, tn_202, ln_202, tn_203, ln_203, tn_204, ln_204, tn_205, ln_205, tn_206, ln_206, tn_207, ln_207, tn_208, ln_208, tn_209, ln_209, tn_210, ln_210, tn_211, ln_211, tn_212, ln_212, tn_213, ln_213, tn_214, ln_214, tn_215, ln_215, tn_216, ln_216, tn_217, ln_217, tn_218, ln_218, tn_219, ln_219, tn_220, ln_220, tn_221, ln_221, tn_222, ln_222, tn_223, ln_223, tn_224, ln_224, tn_225, ln_225, tn_226, ln_226, tn_227, ln_227, tn_228, ln_228, tn_229, ln_229, tn_230, ln_230, lx2, lx3, lx4, lx5, lx6, lx7, lx8, lx9, lx10, lx14, lx15, lx16, lx18, lx20, lx24, lx25, lx27, lx32, lx36, lx40, lx41, lx42, lx43, lx45, lx48, lx52, lx54, lx56, lx57, lx58, lx60, lx61, lx62, lx63, lx64, lx66, lx69, lx73, lx80, lx81, lx84, lx85, lx87, lx94, lx96, lx97, lx120, lx128, lx135, lx160, lx162, lx163, lx165, lx200, lx232, lx242, lx243, lx255, lx256, lx320, lx325, lx400, lx405, lx464, lx512, lx600, lx640, lx752, lx900, lx940, lx1000, lx1024, lx1764, lx3360, lx3840, lx5000, lx6400, lx9050, lx9998, lx9999, lx10000, lx25600, lx76800, lx99999]
  exact hP
def fullN (g : xV) : Nat := p3 (vK g) - 1
theorem full_le {g : xV} (hw : wfg g) : 0 < p3 (vK g) ∧ p3 (vK g) ≤ 243 := by
  have key : ∀ k, k < 6 → 0 < p3 k ∧ p3 k ≤ 243 := by decide +kernel
  have := hw.2.1
  exact key _ (by omega)
theorem dgt_full : ∀ K, K < 6 → ∀ k, k < K → dgt (p3 K - 1) k = 2 := by decide +kernel
/-- at the most above, nothing -/
theorem cW_full {g : xV} (hw : wfg g) {k m : Nat} (hk : k < vK g) : cW g (fullN g) k m = 0 := by
  have h5 := hw.2.1
  have hf := full_le hw
  rw [cW_eq (by unfold fullN; omega) (by omega), if_pos (show dgt (fullN g) k = 2 from dgt_full (vK g) (by omega) k hk)]
theorem rf_8 : va_rf (some 8) = Value.ref 8 := rfl
/-! the class's tables -/
def noC (A : xH) (g : xV) (v : Nat) : Prop := ∀ k, k < vK g → xi A 61 (v * 5 + k) = nI (min (eW g v k) 9999)
def chC (A : xH) (g : xV) (v : Nat) : Prop := ∀ a b, a < vK g → b < vK g → xi A 63 ((v * 5 + a) * 5 + b) = nI (min (cW g v a b) 9999)
def bsC (A : xH) (g : xV) (ρ : Nat → Nat) (i j : Nat) : Prop := ∀ m, m < vK g → xi A 64 ((i * 9 + j) * 5 + m) = nI (min (bW g ρ m i j) 9999)
def whC (A : xH) (g : xV) (ρ : Nat → Nat) (i j : Nat) : Prop := ∀ m, m < vK g → xi A 65 ((i * 9 + j) * 5 + m) = nI (min (tW g ρ 0 m i j) 9999)
def mdC (A : xH) (g : xV) : Prop := isM A 8 g ∧ xr A 57 7 = some 8 ∧ xi A 57 6 = nI (fullN g)
theorem tW_K {g : xV} (hw : wfg g) {ρ : Nat → Nat} {v k i j : Nat} (h : i < j) : tW g ρ v k i j = sgm (fun m => cW g v k m * bW g ρ m i j) (vK g) := by
  unfold tW
  rw [if_neg (by omega)]
  exact sgm_flat hw.2.1 fun m h1 h2 => by rw [bW_K hw h h1, Nat.mul_zero]
def f_X1_chained (q : Nat) (x y z w : Int32) (A : xH) (P : xP) : Prop := q = 57 ∧ ∃ (g : xV) (ρ : Nat → Nat) (k i j v : Nat), k < vK g ∧ i < j ∧ j ≤ 8 ∧ v ≤ fullN g ∧ x = nI k ∧ y = nI i ∧ z = nI j ∧ w = nI v ∧ mdC A g ∧ (v < fullN g → chC A g v ∧ bsC A g ρ i j) ∧ P (some (.int (nI (min (tW g ρ v k i j) 9999)))) A
def ce37 (A : xH) (P : xP) : xM → xK := fun μ L st B => ∃ (g : xV) (ρ : Nat → Nat) (k i j v m : Nat), k < vK g ∧ i < j ∧ j ≤ 8 ∧ v < fullN g ∧ mdC A g ∧ chC A g v ∧ bsC A g ρ i j ∧ P (some (.int (nI (min (tW g ρ v k i j) 9999)))) A ∧ m ≤ vK g ∧ B = A ∧ st = [] ∧ L = [some (.ref 57), some (.int (nI k)), some (.int (nI i)), some (.int (nI j)), some (.int (nI v)), some (.int (nI (min (sgm (fun m => cW g v k m * bW g ρ m i j) m) 9999))), some (.int (nI ((v * 5 + k) * 5))), some (.int (nI ((i * 9 + j) * 5))), some (.int (nI m))] ∧ μ = (5 - m, 0, 0)
set_option maxRecDepth 20000 in
theorem con_X1_chained (l : Launch) : xCon l yX1_chained cX1_chained 9 (some .int) 1 21 xN xN 0 xFT xFT (w_RIIII f_X1_chained) := by
  refine m_X1_chained (I37 := fun q x y z w A P => ce37 A P) ?_ ?_
  · rintro q x y z w A P ⟨rfl, g, ρ, k, i, j, v, hk, hij, hj, hv, rfl, rfl, rfl, rfl, hM, hT, hP⟩
    have hw := hM.1.1.2.1
    have hf := full_le hw
    have hv2 : v < 243 := by unfold fullN at hv; omega
    have hff : fullN g < 243 := by unfold fullN; omega
    have h5 := hw.2.1
    simp (disch := omega) only [k_X1_chained_0, k_X1_chained_37, w_II, x_aload, x_cs2, x_getI, x_getR, x_iadd, x_icmp_ge, x_icmp_lt, x_iinc, x_iload, x_imul, x_iret, x_istore, x_push, y_getF, y_getI, y_iald, xFT, xbool0, xbool1, Nat.reduceAdd, Nat.zero_add, xgl_0, xgl_s, xgl_n, xst_0, xst_1n, xst_1i, xst_1r, xst_1l, xst_s, set_0, set_s, true_and, and_true, xres, xcat_nil, xcat_i, xcat_r, xcat_l, Nat.add_zero, xble0, xble1, xble2, xble3, xble4, xble5, xble6, xble7, xble8, pk_mul, nI_add, nI_1, nI_leI, nI_ltI, nI_eq, n_in, n_cl, z_eq, z_lt, z_le, z_gt, z_ge, z_qe, o_eq, o_lt, o_le, o_gt, o_ge, vp0, vp1, cl0, cl1, n_sub, n_sub1, n_pm1, n_a0, n_0a, ofn, lN0, Nat.reduceLT, Nat.reduceLeDiff, Nat.reduceMul, Nat.reduceSub, Nat.reduceEqDiff, ne_eq, true_implies, false_implies, not_true_eq_false, not_false_eq_true, and_self, and_true, true_and, and_false, false_and, implies_true, if_true, if_false, i00, i10, i01, i11, ob_0, ob_1, tn_2, ln_2, ob_3, tn_4, ln_4, ob_5, tn_6, ln_6, tn_7, ln_7, ob_8, tn_9, ln_9, tn_10, ln_10, tn_11, ln_11, tn_12, ln_12, tn_13, ln_13, tn_14, ln_14, tn_15, ln_15, tn_16, ln_16, tn_17, ln_17, ob_18, tn_19, ln_19, tn_20, ln_20, tn_21, ln_21, tn_22, ln_22, tn_23, ln_23, tn_24, ln_24, tn_25, ln_25, tn_26, ln_26, tn_27, ln_27, ob_28, tn_29, ln_29, tn_30, ln_30, ob_31, tn_32, ln_32, tn_33, ln_33, ob_34, ob_35, tn_36, ln_36, tn_37, ln_37, tn_38, ln_38, ob_39, tn_40, ln_40, tn_41, ln_41, tn_42, ln_42, tn_43, ln_43, tn_44, ln_44, tn_45, ln_45, tn_46, ln_46, tn_47, ln_47, tn_48, ln_48, tn_49, ln_49, tn_50, ln_50, tn_51, ln_51, ob_52, tn_53, ln_53, tn_54, ln_54, tn_55, ln_55, tn_56, ln_56, ob_57, tn_58, ln_58, tn_59, ln_59, tn_60, ln_60, tn_61, ln_61, tn_62, ln_62, tn_63, ln_63, tn_64, ln_64, tn_65, ln_65, ob_66, tn_67, ln_67, tn_68, ln_68, tn_69, ln_69, tn_70, ln_70, tn_71, ln_71, tn_72, ln_72, tn_73, ln_73, ob_74, tn_75, ln_75, tn_76, ln_76, tn_77, ln_77, tn_78, ln_78, tn_79, ln_79, tn_80, ln_80, tn_81, ln_81, tn_82, ln_82, tn_83, ln_83, ob_84, tn_85, ln_85, tn_86, ln_86, tn_87, ln_87, tn_88, ln_88, tn_89, ln_89, tn_90, ln_90, tn_91, ln_91, tn_92, ln_92, tn_93, ln_93, ob_94, tn_95, ln_95, tn_96, ln_96, tn_97, ln_97, tn_98, ln_98, tn_99, ln_99, tn_100, ln_100, tn_101, ln_101, tn_102, ln_102, tn_103, ln_103, ob_104, tn_105, ln_105, tn_106, ln_106, tn_107, ln_107, tn_108, ln_108, tn_109, ln_109, tn_110, ln_110, tn_111, ln_111, tn_112, ln_112, tn_113, ln_113, ob_114, tn_115, ln_115, tn_116, ln_116, tn_117, ln_117, tn_118, ln_118, tn_119, ln_119, tn_120, ln_120, tn_121, ln_121, tn_122, ln_122, tn_123, ln_123, ob_124, tn_125, ln_125, tn_126, ln_126, tn_127, ln_127, tn_128, ln_128, tn_129, ln_129, tn_130, ln_130, tn_131, ln_131, tn_132, ln_132, tn_133, ln_133, ob_134, tn_135, ln_135, tn_136, ln_136, tn_137, ln_137, tn_138, ln_138, tn_139, ln_139, tn_140, ln_140, tn_141, ln_141, tn_142, ln_142, tn_143, ln_143, ob_144, tn_145, ln_145, tn_146, ln_146, tn_147, ln_147, tn_148, ln_148, tn_149, ln_149, tn_150, ln_150, tn_151, ln_151, tn_152, ln_152, tn_153, ln_153, ob_154, tn_155, ln_155, tn_156, ln_156, tn_157, ln_157, tn_158, ln_158, tn_159, ln_159, tn_160, ln_160, tn_161, ln_161, tn_162, ln_162, tn_163, ln_163, ob_164, tn_165, ln_165, tn_166, ln_166, ob_167, tn_168, ln_168, tn_169, ln_169, tn_170, ln_170, tn_171, ln_171, tn_172, ln_172, tn_173, ln_173, tn_174, ln_174, tn_175, ln_175, tn_176, ln_176, ob_177, tn_178, ln_178, tn_179, ln_179, ob_180, tn_181, ln_181, tn_182, ln_182, tn_183, ln_183, tn_184, ln_184, tn_185, ln_185, tn_186, ln_186, tn_187, ln_187, tn_188, ln_188, tn_189, ln_189, tn_190, ln_190, tn_191, ln_191, tn_192, ln_192, tn_193, ln_193, tn_194, ln_194, tn_195, ln_195, tn_196, ln_196, tn_197, ln_197, tn_198, ln_198, tn_199, ln_199, tn_200, ln_200, tn_201, ln_201, tn_202, ln_202, tn_203, ln_203, tn_204, ln_204, tn_205, ln_205, tn_206, ln_206, tn_207, ln_207, tn_208, ln_208, tn_209, ln_209, tn_210, ln_210, tn_211, ln_211, tn_212, ln_212, tn_213, ln_213, tn_214, ln_214, tn_215, ln_215, tn_216, ln_216, tn_217, ln_217, tn_218, ln_218, tn_219, ln_219, tn_220, ln_220, tn_221, ln_221, tn_222, ln_222, tn_223, ln_223, tn_224, ln_224, tn_225, ln_225, tn_226, ln_226, tn_227, ln_227, tn_228, ln_228, tn_229, ln_229, tn_230, ln_230, lx2, lx3, lx4, lx5, lx6, lx7, lx8, lx9, lx10, lx14, lx15, lx16, lx18, lx20, lx24, lx25, lx27, lx32, lx36, lx40, lx41, lx42, lx43, lx45, lx48, lx52, lx54, lx56, lx57, lx58, lx60, lx61, lx62, lx63, lx64, lx66, lx69, lx73, lx80, lx81, lx84, lx85, lx87, lx94, lx96, lx97, lx120, lx128, lx135, lx160, lx162, lx163, lx165, lx200, lx232, lx242, lx243, lx255, lx256, lx320, lx325, lx400, lx405, lx464, lx512, lx600, lx640, lx752, lx900, lx940, lx1000, lx1024, lx1764, lx3360, lx3840, lx5000, lx6400, lx9050, lx9998, lx9999, lx10000, lx25600, lx76800, lx99999, hM.2.2]
    refine ⟨fun q => ?_, fun q => ?_⟩
    · obtain ⟨t1, t2⟩ := hT q
      exact xE0 (5 - 0, 0, 0) ⟨g, ρ, k, i, j, v, 0, hk, hij, hj, q, hM, t1, t2, hP, Nat.zero_le _, rfl, rfl, rfl, rfl⟩
    · have e : v = fullN g := by omega
      subst e
      rw [tW_K hw hij, sgm_z fun m hm => by rw [cW_full hw hk, Nat.zero_mul]] at hP
      exact hP
  · rintro q x y z w A P - μ L st B ⟨g, ρ, k, i, j, v, m, hk, hij, hj, hv, hM, hc, hb, hP, hm, rfl, rfl, rfl, rfl⟩
    have hw := hM.1.1.2.1
    have hf := full_le hw
    have hv2 : v < 243 := by unfold fullN at hv; omega
    have h5 := hw.2.1
    have e1 : xi B 8 1 = nI (vK g) := hM.1.1.2.2.1.2.1
    have ob : xob xN 8 = 4 := ob_8
    simp (disch := omega) only [k_X1_chained_0, k_X1_chained_37, w_II, x_aload, x_cs2, x_getI, x_getR, x_iadd, x_icmp_ge, x_icmp_lt, x_iinc, x_iload, x_imul, x_iret, x_istore, x_push, y_getF, y_getI, y_iald, xFT, xbool0, xbool1, Nat.reduceAdd, Nat.zero_add, xgl_0, xgl_s, xgl_n, xst_0, xst_1n, xst_1i, xst_1r, xst_1l, xst_s, set_0, set_s, true_and, and_true, xres, xcat_nil, xcat_i, xcat_r, xcat_l, Nat.add_zero, xble0, xble1, xble2, xble3, xble4, xble5, xble6, xble7, xble8, pk_mul, nI_add, nI_1, nI_leI, nI_ltI, nI_eq, n_in, n_cl, z_eq, z_lt, z_le, z_gt, z_ge, z_qe, o_eq, o_lt, o_le, o_gt, o_ge, vp0, vp1, cl0, cl1, n_sub, n_sub1, n_pm1, n_a0, n_0a, ofn, lN0, Nat.reduceLT, Nat.reduceLeDiff, Nat.reduceMul, Nat.reduceSub, Nat.reduceEqDiff, ne_eq, true_implies, false_implies, not_true_eq_false, not_false_eq_true, and_self, and_true, true_and, and_false, false_and, implies_true, if_true, if_false, i00, i10, i01, i11, ob_0, ob_1, tn_2, ln_2, ob_3, tn_4, ln_4, ob_5, tn_6, ln_6, tn_7, ln_7, ob_8, tn_9, ln_9, tn_10, ln_10, tn_11, ln_11, tn_12, ln_12, tn_13, ln_13, tn_14, ln_14, tn_15, ln_15, tn_16, ln_16, tn_17, ln_17, ob_18, tn_19, ln_19, tn_20, ln_20, tn_21, ln_21, tn_22, ln_22, tn_23, ln_23, tn_24, ln_24, tn_25, ln_25, tn_26, ln_26, tn_27, ln_27, ob_28, tn_29, ln_29, tn_30, ln_30, ob_31, tn_32, ln_32, tn_33, ln_33, ob_34, ob_35, tn_36, ln_36, tn_37, ln_37, tn_38, ln_38, ob_39, tn_40, ln_40, tn_41, ln_41, tn_42, ln_42, tn_43, ln_43, tn_44, ln_44, tn_45, ln_45, tn_46, ln_46, tn_47, ln_47, tn_48, ln_48, tn_49, ln_49, tn_50, ln_50, tn_51, ln_51, ob_52, tn_53, ln_53, tn_54, ln_54, tn_55, ln_55, tn_56, ln_56, ob_57, tn_58, ln_58, tn_59, ln_59, tn_60, ln_60, tn_61, ln_61, tn_62, ln_62, tn_63, ln_63, tn_64, ln_64, tn_65, ln_65, ob_66, tn_67, ln_67, tn_68, ln_68, tn_69, ln_69, tn_70, ln_70, tn_71, ln_71, tn_72, ln_72, tn_73, ln_73, ob_74, tn_75, ln_75, tn_76, ln_76, tn_77, ln_77, tn_78, ln_78, tn_79, ln_79, tn_80, ln_80, tn_81, ln_81, tn_82, ln_82, tn_83, ln_83, ob_84, tn_85, ln_85, tn_86, ln_86, tn_87, ln_87, tn_88, ln_88, tn_89, ln_89, tn_90, ln_90, tn_91, ln_91, tn_92, ln_92, tn_93, ln_93, ob_94, tn_95, ln_95, tn_96, ln_96, tn_97, ln_97, tn_98, ln_98, tn_99, ln_99, tn_100, ln_100, tn_101, ln_101, tn_102, ln_102, tn_103, ln_103, ob_104, tn_105, ln_105, tn_106, ln_106, tn_107, ln_107, tn_108, ln_108, tn_109, ln_109, tn_110, ln_110, tn_111, ln_111, tn_112, ln_112, tn_113, ln_113, ob_114, tn_115, ln_115, tn_116, ln_116, tn_117, ln_117, tn_118, ln_118, tn_119, ln_119, tn_120, ln_120, tn_121, ln_121, tn_122, ln_122, tn_123, ln_123, ob_124, tn_125, ln_125, tn_126, ln_126, tn_127, ln_127, tn_128, ln_128, tn_129, ln_129, tn_130, ln_130, tn_131, ln_131, tn_132, ln_132, tn_133, ln_133, ob_134, tn_135, ln_135, tn_136, ln_136, tn_137, ln_137, tn_138, ln_138, tn_139, ln_139, tn_140, ln_140, tn_141, ln_141, tn_142, ln_142, tn_143, ln_143, ob_144, tn_145, ln_145, tn_146, ln_146, tn_147, ln_147, tn_148, ln_148, tn_149, ln_149, tn_150, ln_150, tn_151, ln_151, tn_152, ln_152, tn_153, ln_153, ob_154, tn_155, ln_155, tn_156, ln_156, tn_157, ln_157, tn_158, ln_158, tn_159, ln_159, tn_160, ln_160, tn_161, ln_161, tn_162, ln_162, tn_163, ln_163, ob_164, tn_165, ln_165, tn_166, ln_166, ob_167, tn_168, ln_168, tn_169, ln_169, tn_170, ln_170, tn_171, ln_171, tn_172, ln_172, tn_173, ln_173, tn_174, ln_174, tn_175, ln_175, tn_176, ln_176, ob_177, tn_178, ln_178, tn_179, ln_179, ob_180, tn_181, ln_181, tn_182, ln_182, tn_183, ln_183, tn_184, ln_184, tn_185, ln_185, tn_186, ln_186, tn_187, ln_187, tn_188, ln_188, tn_189, ln_189, tn_190, ln_190, tn_191, ln_191, tn_192, ln_192, tn_193, ln_193, tn_194, ln_194, tn_195, ln_195, tn_196, ln_196, tn_197, ln_197, tn_198, ln_198, tn_199, ln_199, tn_200, ln_200, tn_201, ln_201, tn_202, ln_202, tn_203, ln_203, tn_204, ln_204, tn_205, ln_205, tn_206, ln_206, tn_207, ln_207, tn_208, ln_208, tn_209, ln_209, tn_210, ln_210, tn_211, ln_211, tn_212, ln_212, tn_213, ln_213, tn_214, ln_214, tn_215, ln_215, tn_216, ln_216, tn_217, ln_217, tn_218, ln_218, tn_219, ln_219, tn_220, ln_220, tn_221, ln_221, tn_222, ln_222, tn_223, ln_223, tn_224, ln_224, tn_225, ln_225, tn_226, ln_226, tn_227, ln_227, tn_228, ln_228, tn_229, ln_229, tn_230, ln_230, lx2, lx3, lx4, lx5, lx6, lx7, lx8, lx9, lx10, lx14, lx15, lx16, lx18, lx20, lx24, lx25, lx27, lx32, lx36, lx40, lx41, lx42, lx43, lx45, lx48, lx52, lx54, lx56, lx57, lx58, lx60, lx61, lx62, lx63, lx64, lx66, lx69, lx73, lx80, lx81, lx84, lx85, lx87, lx94, lx96, lx97, lx120, lx128, lx135, lx160, lx162, lx163, lx165, lx200, lx232, lx242, lx243, lx255, lx256, lx320, lx325, lx400, lx405, lx464, lx512, lx600, lx640, lx752, lx900, lx940, lx1000, lx1024, lx1764, lx3360, lx3840, lx5000, lx6400, lx9050, lx9998, lx9999, lx10000, lx25600, lx76800, lx99999, hM.2.1]
    simp (disch := omega) only [k_X1_chained_0, k_X1_chained_37, w_II, x_aload, x_cs2, x_getI, x_getR, x_iadd, x_icmp_ge, x_icmp_lt, x_iinc, x_iload, x_imul, x_iret, x_istore, x_push, y_getF, y_getI, y_iald, xFT, xbool0, xbool1, Nat.reduceAdd, Nat.zero_add, xgl_0, xgl_s, xgl_n, xst_0, xst_1n, xst_1i, xst_1r, xst_1l, xst_s, set_0, set_s, true_and, and_true, xres, xcat_nil, xcat_i, xcat_r, xcat_l, Nat.add_zero, xble0, xble1, xble2, xble3, xble4, xble5, xble6, xble7, xble8, pk_mul, nI_add, nI_1, nI_leI, nI_ltI, nI_eq, n_in, n_cl, z_eq, z_lt, z_le, z_gt, z_ge, z_qe, o_eq, o_lt, o_le, o_gt, o_ge, vp0, vp1, cl0, cl1, n_sub, n_sub1, n_pm1, n_a0, n_0a, ofn, lN0, Nat.reduceLT, Nat.reduceLeDiff, Nat.reduceMul, Nat.reduceSub, Nat.reduceEqDiff, ne_eq, true_implies, false_implies, not_true_eq_false, not_false_eq_true, and_self, and_true, true_and, and_false, false_and, implies_true, if_true, if_false, i00, i10, i01, i11, ob_0, ob_1, tn_2, ln_2, ob_3, tn_4, ln_4, ob_5, tn_6, ln_6, tn_7, ln_7, ob_8, tn_9, ln_9, tn_10, ln_10, tn_11, ln_11, tn_12, ln_12, tn_13, ln_13, tn_14, ln_14, tn_15, ln_15, tn_16, ln_16, tn_17, ln_17, ob_18, tn_19, ln_19, tn_20, ln_20, tn_21, ln_21, tn_22, ln_22, tn_23, ln_23, tn_24, ln_24, tn_25, ln_25, tn_26, ln_26, tn_27, ln_27, ob_28, tn_29, ln_29, tn_30, ln_30, ob_31, tn_32, ln_32, tn_33, ln_33, ob_34, ob_35, tn_36, ln_36, tn_37, ln_37, tn_38, ln_38, ob_39, tn_40, ln_40, tn_41, ln_41, tn_42, ln_42, tn_43, ln_43, tn_44, ln_44, tn_45, ln_45, tn_46, ln_46, tn_47, ln_47, tn_48, ln_48, tn_49, ln_49, tn_50, ln_50, tn_51, ln_51, ob_52, tn_53, ln_53, tn_54, ln_54, tn_55, ln_55, tn_56, ln_56, ob_57, tn_58, ln_58, tn_59, ln_59, tn_60, ln_60, tn_61, ln_61, tn_62, ln_62, tn_63, ln_63, tn_64, ln_64, tn_65, ln_65, ob_66, tn_67, ln_67, tn_68, ln_68, tn_69, ln_69, tn_70, ln_70, tn_71, ln_71, tn_72, ln_72, tn_73, ln_73, ob_74, tn_75, ln_75, tn_76, ln_76, tn_77, ln_77, tn_78, ln_78, tn_79, ln_79, tn_80, ln_80, tn_81, ln_81, tn_82, ln_82, tn_83, ln_83, ob_84, tn_85, ln_85, tn_86, ln_86, tn_87, ln_87, tn_88, ln_88, tn_89, ln_89, tn_90, ln_90, tn_91, ln_91, tn_92, ln_92, tn_93, ln_93, ob_94, tn_95, ln_95, tn_96, ln_96, tn_97, ln_97, tn_98, ln_98, tn_99, ln_99, tn_100, ln_100, tn_101, ln_101, tn_102, ln_102, tn_103, ln_103, ob_104, tn_105, ln_105, tn_106, ln_106, tn_107, ln_107, tn_108, ln_108, tn_109, ln_109, tn_110, ln_110, tn_111, ln_111, tn_112, ln_112, tn_113, ln_113, ob_114, tn_115, ln_115, tn_116, ln_116, tn_117, ln_117, tn_118, ln_118, tn_119, ln_119, tn_120, ln_120, tn_121, ln_121, tn_122, ln_122, tn_123, ln_123, ob_124, tn_125, ln_125, tn_126, ln_126, tn_127, ln_127, tn_128, ln_128, tn_129, ln_129, tn_130, ln_130, tn_131, ln_131, tn_132, ln_132, tn_133, ln_133, ob_134, tn_135, ln_135, tn_136, ln_136, tn_137, ln_137, tn_138, ln_138, tn_139, ln_139, tn_140, ln_140, tn_141, ln_141, tn_142, ln_142, tn_143, ln_143, ob_144, tn_145, ln_145, tn_146, ln_146, tn_147, ln_147, tn_148, ln_148, tn_149, ln_149, tn_150, ln_150, tn_151, ln_151, tn_152, ln_152, tn_153, ln_153, ob_154, tn_155, ln_155, tn_156, ln_156, tn_157, ln_157, tn_158, ln_158, tn_159, ln_159, tn_160, ln_160, tn_161, ln_161, tn_162, ln_162, tn_163, ln_163, ob_164, tn_165, ln_165, tn_166, ln_166, ob_167, tn_168, ln_168, tn_169, ln_169, tn_170, ln_170, tn_171, ln_171, tn_172, ln_172, tn_173, ln_173, tn_174, ln_174, tn_175, ln_175, tn_176, ln_176, ob_177, tn_178, ln_178, tn_179, ln_179, ob_180, tn_181, ln_181, tn_182, ln_182, tn_183, ln_183, tn_184, ln_184, tn_185, ln_185, tn_186, ln_186, tn_187, ln_187, tn_188, ln_188, tn_189, ln_189, tn_190, ln_190, tn_191, ln_191, tn_192, ln_192, tn_193, ln_193, tn_194, ln_194, tn_195, ln_195, tn_196, ln_196, tn_197, ln_197, tn_198, ln_198, tn_199, ln_199, tn_200, ln_200, tn_201, ln_201, tn_202, ln_202, tn_203, ln_203, tn_204, ln_204, tn_205, ln_205, tn_206, ln_206, tn_207, ln_207, tn_208, ln_208, tn_209, ln_209, tn_210, ln_210, tn_211, ln_211, tn_212, ln_212, tn_213, ln_213, tn_214, ln_214, tn_215, ln_215, tn_216, ln_216, tn_217, ln_217, tn_218, ln_218, tn_219, ln_219, tn_220, ln_220, tn_221, ln_221, tn_222, ln_222, tn_223, ln_223, tn_224, ln_224, tn_225, ln_225, tn_226, ln_226, tn_227, ln_227, tn_228, ln_228, tn_229, ln_229, tn_230, ln_230, lx2, lx3, lx4, lx5, lx6, lx7, lx8, lx9, lx10, lx14, lx15, lx16, lx18, lx20, lx24, lx25, lx27, lx32, lx36, lx40, lx41, lx42, lx43, lx45, lx48, lx52, lx54, lx56, lx57, lx58, lx60, lx61, lx62, lx63, lx64, lx66, lx69, lx73, lx80, lx81, lx84, lx85, lx87, lx94, lx96, lx97, lx120, lx128, lx135, lx160, lx162, lx163, lx165, lx200, lx232, lx242, lx243, lx255, lx256, lx320, lx325, lx400, lx405, lx464, lx512, lx600, lx640, lx752, lx900, lx940, lx1000, lx1024, lx1764, lx3360, lx3840, lx5000, lx6400, lx9050, lx9998, lx9999, lx10000, lx25600, lx76800, lx99999, rf_8, ob, e1]
    refine ⟨fun q => ?_, fun q => ⟨by omega, by omega, ?_⟩⟩
    · have e : m = vK g := by omega
      subst e
      rw [tW_K hw hij] at hP
      exact hP
    · have a1 : min (sgm (fun m => cW g v k m * bW g ρ m i j) m) 9999 ≤ 9999 := Nat.min_le_right _ _
      have a2 : min (cW g v k m) 9999 ≤ 9999 := Nat.min_le_right _ _
      have a3 : min (bW g ρ m i j) 9999 ≤ 9999 := Nat.min_le_right _ _
      have a4 := Nat.mul_le_mul a2 a3
      rw [hc k m hk (by omega), hb m (by omega), pk_mul, nI_add]
      refine min_U (by omega) (by omega) rfl ?_
      simp (disch := omega) only [k_X1_chained_0, k_X1_chained_37, w_II, x_aload, x_cs2, x_getI, x_getR, x_iadd, x_icmp_ge, x_icmp_lt, x_iinc, x_iload, x_imul, x_iret, x_istore, x_push, y_getF, y_getI, y_iald, xFT, xbool0, xbool1, Nat.reduceAdd, Nat.zero_add, xgl_0, xgl_s, xgl_n, xst_0, xst_1n, xst_1i, xst_1r, xst_1l, xst_s, set_0, set_s, true_and, and_true, xres, xcat_nil, xcat_i, xcat_r, xcat_l, Nat.add_zero, xble0, xble1, xble2, xble3, xble4, xble5, xble6, xble7, xble8, pk_mul, nI_add, nI_1, nI_leI, nI_ltI, nI_eq, n_in, n_cl, z_eq, z_lt, z_le, z_gt, z_ge, z_qe, o_eq, o_lt, o_le, o_gt, o_ge, vp0, vp1, cl0, cl1, n_sub, n_sub1, n_pm1, n_a0, n_0a, ofn, lN0, Nat.reduceLT, Nat.reduceLeDiff, Nat.reduceMul, Nat.reduceSub, Nat.reduceEqDiff, ne_eq, true_implies, false_implies, not_true_eq_false, not_false_eq_true, and_self, and_true, true_and, and_false, false_and, implies_true, if_true, if_false, i00, i10, i01, i11, ob_0, ob_1, tn_2, ln_2, ob_3, tn_4, ln_4, ob_5, tn_6, ln_6, tn_7, ln_7, ob_8, tn_9, ln_9, tn_10, ln_10, tn_11, ln_11, tn_12, ln_12, tn_13, ln_13, tn_14, ln_14, tn_15, ln_15, tn_16, ln_16, tn_17, ln_17, ob_18, tn_19, ln_19, tn_20, ln_20, tn_21, ln_21, tn_22, ln_22, tn_23, ln_23, tn_24, ln_24, tn_25, ln_25, tn_26, ln_26, tn_27, ln_27, ob_28, tn_29, ln_29, tn_30, ln_30, ob_31, tn_32, ln_32, tn_33, ln_33, ob_34, ob_35, tn_36, ln_36, tn_37, ln_37, tn_38, ln_38, ob_39, tn_40, ln_40, tn_41, ln_41, tn_42, ln_42, tn_43, ln_43, tn_44, ln_44, tn_45, ln_45, tn_46, ln_46, tn_47, ln_47, tn_48, ln_48, tn_49, ln_49, tn_50, ln_50, tn_51, ln_51, ob_52, tn_53, ln_53, tn_54, ln_54, tn_55, ln_55, tn_56, ln_56, ob_57, tn_58, ln_58, tn_59, ln_59, tn_60, ln_60, tn_61, ln_61, tn_62, ln_62, tn_63, ln_63, tn_64, ln_64, tn_65, ln_65, ob_66, tn_67, ln_67, tn_68, ln_68, tn_69, ln_69, tn_70, ln_70, tn_71, ln_71, tn_72, ln_72, tn_73, ln_73, ob_74, tn_75, ln_75, tn_76, ln_76, tn_77, ln_77, tn_78, ln_78, tn_79, ln_79, tn_80, ln_80, tn_81, ln_81, tn_82, ln_82, tn_83, ln_83, ob_84, tn_85, ln_85, tn_86, ln_86, tn_87, ln_87, tn_88, ln_88, tn_89, ln_89, tn_90, ln_90, tn_91, ln_91, tn_92, ln_92, tn_93, ln_93, ob_94, tn_95, ln_95, tn_96, ln_96, tn_97, ln_97, tn_98, ln_98, tn_99, ln_99, tn_100, ln_100, tn_101, ln_101, tn_102, ln_102, tn_103, ln_103, ob_104, tn_105, ln_105, tn_106, ln_106, tn_107, ln_107, tn_108, ln_108, tn_109, ln_109, tn_110, ln_110, tn_111, ln_111, tn_112, ln_112, tn_113, ln_113, ob_114, tn_115, ln_115, tn_116, ln_116, tn_117, ln_117, tn_118, ln_118, tn_119, ln_119, tn_120, ln_120, tn_121, ln_121, tn_122, ln_122, tn_123, ln_123, ob_124, tn_125, ln_125, tn_126, ln_126, tn_127, ln_127, tn_128, ln_128, tn_129, ln_129, tn_130, ln_130, tn_131, ln_131, tn_132, ln_132, tn_133, ln_133, ob_134, tn_135, ln_135, tn_136, ln_136, tn_137, ln_137, tn_138, ln_138, tn_139, ln_139, tn_140, ln_140, tn_141, ln_141, tn_142, ln_142, tn_143, ln_143, ob_144, tn_145, ln_145, tn_146, ln_146, tn_147, ln_147, tn_148, ln_148, tn_149, ln_149, tn_150, ln_150, tn_151, ln_151, tn_152, ln_152, tn_153, ln_153, ob_154, tn_155, ln_155, tn_156, ln_156, tn_157, ln_157, tn_158, ln_158, tn_159, ln_159, tn_160, ln_160, tn_161, ln_161, tn_162, ln_162, tn_163, ln_163, ob_164, tn_165, ln_165, tn_166, ln_166, ob_167, tn_168, ln_168, tn_169, ln_169, tn_170, ln_170, tn_171, ln_171, tn_172, ln_172, tn_173, ln_173, tn_174, ln_174, tn_175, ln_175, tn_176, ln_176, ob_177, tn_178, ln_178, tn_179, ln_179, ob_180, tn_181, ln_181, tn_182, ln_182, tn_183, ln_183, tn_184, ln_184, tn_185, ln_185, tn_186, ln_186, tn_187, ln_187, tn_188, ln_188, tn_189, ln_189, tn_190, ln_190, tn_191, ln_191, tn_192, ln_192, tn_193, ln_193, tn_194, ln_194, tn_195, ln_195, tn_196, ln_196, tn_197, ln_197, tn_198, ln_198, tn_199, ln_199, tn_200, ln_200, tn_201, ln_201, tn_202, ln_202, tn_203, ln_203, tn_204, ln_204, tn_205, ln_205, tn_206, ln_206, tn_207, ln_207, tn_208, ln_208, tn_209, ln_209, tn_210, ln_210, tn_211, ln_211, tn_212, ln_212, tn_213, ln_213, tn_214, ln_214, tn_215, ln_215, tn_216, ln_216, tn_217, ln_217, tn_218, ln_218, tn_219, ln_219, tn_220, ln_220, tn_221, ln_221, tn_222, ln_222, tn_223, ln_223, tn_224, ln_224, tn_225, ln_225, tn_226, ln_226, tn_227, ln_227, tn_228, ln_228, tn_229, ln_229, tn_230, ln_230, lx2, lx3, lx4, lx5, lx6, lx7, lx8, lx9, lx10, lx14, lx15, lx16, lx18, lx20, lx24, lx25, lx27, lx32, lx36, lx40, lx41, lx42, lx43, lx45, lx48, lx52, lx54, lx56, lx57, lx58, lx60, lx61, lx62, lx63, lx64, lx66, lx69, lx73, lx80, lx81, lx84, lx85, lx87, lx94, lx96, lx97, lx120, lx128, lx135, lx160, lx162, lx163, lx165, lx200, lx232, lx242, lx243, lx255, lx256, lx320, lx325, lx400, lx405, lx464, lx512, lx600, lx640, lx752, lx900, lx940, lx1000, lx1024, lx1764, lx3360, lx3840, lx5000, lx6400, lx9050, lx9998, lx9999, lx10000, lx25600, lx76800, lx99999]
      rw [cap_am]
      exact xB1 (b := 5 - (m + 1)) (by omega) ⟨g, ρ, k, i, j, v, m + 1, hk, hij, hj, hv, hM, hc, hb, hP, by omega, rfl, rfl, rfl, rfl⟩

