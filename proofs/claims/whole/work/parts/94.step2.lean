/-! ===== the class makes steps ===== -/
theorem d_X7_openFrom_0 : decode cX7_openFrom 0 = .ok (.iconst 0, 1) := by decide +kernel
theorem d_X7_openFrom_1 : decode cX7_openFrom 1 = .ok (.istore 4, 2) := by decide +kernel
theorem d_X7_openFrom_3 : decode cX7_openFrom 3 = .ok (.iload 4, 2) := by decide +kernel
theorem d_X7_openFrom_5 : decode cX7_openFrom 5 = .ok (.aload_n 1, 1) := by decide +kernel
theorem d_X7_openFrom_6 : decode cX7_openFrom 6 = .ok (.getfield 109, 3) := by decide +kernel
theorem d_X7_openFrom_9 : decode cX7_openFrom 9 = .ok (.if_icmp .ge 55, 3) := by decide +kernel
theorem d_X7_openFrom_12 : decode cX7_openFrom 12 = .ok (.aload_n 0, 1) := by decide +kernel
theorem d_X7_openFrom_13 : decode cX7_openFrom 13 = .ok (.getfield 38, 3) := by decide +kernel
theorem d_X7_openFrom_16 : decode cX7_openFrom 16 = .ok (.iload_n 3, 1) := by decide +kernel
theorem d_X7_openFrom_17 : decode cX7_openFrom 17 = .ok (.iaload, 1) := by decide +kernel
theorem d_X7_openFrom_18 : decode cX7_openFrom 18 = .ok (.bipush 8, 2) := by decide +kernel
theorem d_X7_openFrom_20 : decode cX7_openFrom 20 = .ok (.aload_n 1, 1) := by decide +kernel
theorem d_X7_openFrom_21 : decode cX7_openFrom 21 = .ok (.getfield 112, 3) := by decide +kernel
theorem d_X7_openFrom_24 : decode cX7_openFrom 24 = .ok (.iload 4, 2) := by decide +kernel
theorem d_X7_openFrom_26 : decode cX7_openFrom 26 = .ok (.iaload, 1) := by decide +kernel
theorem d_X7_openFrom_27 : decode cX7_openFrom 27 = .ok (.iadd, 1) := by decide +kernel
theorem d_X7_openFrom_28 : decode cX7_openFrom 28 = .ok (.if_icmp .ne 30, 3) := by decide +kernel
theorem d_X7_openFrom_31 : decode cX7_openFrom 31 = .ok (.aload_n 0, 1) := by decide +kernel
theorem d_X7_openFrom_32 : decode cX7_openFrom 32 = .ok (.iload_n 2, 1) := by decide +kernel
theorem d_X7_openFrom_33 : decode cX7_openFrom 33 = .ok (.iconst 4, 1) := by decide +kernel
theorem d_X7_openFrom_34 : decode cX7_openFrom 34 = .ok (.iload 4, 2) := by decide +kernel
theorem d_X7_openFrom_36 : decode cX7_openFrom 36 = .ok (.iadd, 1) := by decide +kernel
theorem d_X7_openFrom_37 : decode cX7_openFrom 37 = .ok (.aload_n 0, 1) := by decide +kernel
theorem d_X7_openFrom_38 : decode cX7_openFrom 38 = .ok (.aload_n 1, 1) := by decide +kernel
theorem d_X7_openFrom_39 : decode cX7_openFrom 39 = .ok (.aload_n 1, 1) := by decide +kernel
theorem d_X7_openFrom_40 : decode cX7_openFrom 40 = .ok (.getfield 115, 3) := by decide +kernel
theorem d_X7_openFrom_43 : decode cX7_openFrom 43 = .ok (.iload 4, 2) := by decide +kernel
theorem d_X7_openFrom_45 : decode cX7_openFrom 45 = .ok (.iaload, 1) := by decide +kernel
theorem d_X7_openFrom_46 : decode cX7_openFrom 46 = .ok (.aload_n 1, 1) := by decide +kernel
theorem d_X7_openFrom_47 : decode cX7_openFrom 47 = .ok (.getfield 87, 3) := by decide +kernel
theorem d_X7_openFrom_50 : decode cX7_openFrom 50 = .ok (.iload_n 3, 1) := by decide +kernel
theorem d_X7_openFrom_51 : decode cX7_openFrom 51 = .ok (.iaload, 1) := by decide +kernel
theorem d_X7_openFrom_52 : decode cX7_openFrom 52 = .ok (.invokevirtual 118, 3) := by decide +kernel
theorem d_X7_openFrom_55 : decode cX7_openFrom 55 = .ok (.invokevirtual 122, 3) := by decide +kernel
theorem d_X7_openFrom_58 : decode cX7_openFrom 58 = .ok (.iinc 4 1, 3) := by decide +kernel
theorem d_X7_openFrom_61 : decode cX7_openFrom 61 = .ok (.goto (-58), 3) := by decide +kernel
theorem d_X7_openFrom_64 : decode cX7_openFrom 64 = .ok (.return_, 1) := by decide +kernel
def k_X7_openFrom_0 (P : xP) (C3 : xK) : xK := x_push (.int 0) (x_istore 4 (C3))
set_option maxRecDepth 20000 in
theorem t_X7_openFrom_0 {p : Program} {l : Launch} {e : Env} {s : State} {m : MethodId} {args : Array Value} {below : List Frame} {meth : Method} {c : Code} {g : xG} (X : xX p s m args c meth cX7_openFrom RX7 5 g) (hr : meth.sig.returnType = none) {P : xP} {C3 : xK} (h3 : xAt p l e { frames := 1, cells := 0, slots := 0, locals := 24 } s m args below meth c g 5 xFT xN 0 0 (MQ below (xQc g xFT xN P) args s 0 0 (xFr g)) C3 3) : xAt p l e { frames := 1, cells := 0, slots := 0, locals := 24 } s m args below meth c g 5 xFT xN 0 0 (MQ below (xQc g xFT xN P) args s 0 0 (xFr g)) (k_X7_openFrom_0 P C3) 0 := by
  unfold k_X7_openFrom_0
  refine r_iconst (pc := 0) X d_X7_openFrom_0 (by decide +kernel) ?_
  refine r_istore (pc := 1) X d_X7_openFrom_1 (by decide +kernel) ?_
  exact h3
def k_X7_openFrom_58 (P : xP) (C3 : xK) : xK := x_iinc 4 1 (C3)
set_option maxRecDepth 20000 in
theorem t_X7_openFrom_58 {p : Program} {l : Launch} {e : Env} {s : State} {m : MethodId} {args : Array Value} {below : List Frame} {meth : Method} {c : Code} {g : xG} (X : xX p s m args c meth cX7_openFrom RX7 5 g) (hr : meth.sig.returnType = none) {P : xP} {C3 : xK} (h3 : xAt p l e { frames := 1, cells := 0, slots := 0, locals := 24 } s m args below meth c g 5 xFT xN 0 0 (MQ below (xQc g xFT xN P) args s 0 0 (xFr g)) C3 3) : xAt p l e { frames := 1, cells := 0, slots := 0, locals := 24 } s m args below meth c g 5 xFT xN 0 0 (MQ below (xQc g xFT xN P) args s 0 0 (xFr g)) (k_X7_openFrom_58 P C3) 58 := by
  unfold k_X7_openFrom_58
  refine r_iinc (pc := 58) X d_X7_openFrom_58 (by decide +kernel) (by decide +kernel) ?_
  refine r_goto (pc := 61) (tgt := 3) X d_X7_openFrom_61 (by decide +kernel) ?_
  exact h3
def k_X7_openFrom_3 (P : xP) (C3 : xK) : xK := x_iload 4 (x_aload 1 (x_getI xN 4 2 (x_icmp_ge (x_vret P) (x_aload 0 (y_getF 39 48 (x_iload 3 (y_iald 48 42 (x_push (.int 8) (x_aload 1 (x_getF xN xFT 4 7 (x_iload 4 (x_iald xN (x_iadd (x_icmp_ne ((k_X7_openFrom_58 P C3)) (x_aload 0 (x_iload 2 (x_push (.int 4) (x_iload 4 (x_iadd (x_aload 0 (x_aload 1 (x_aload 1 (x_getF xN xFT 4 9 (x_iload 4 (x_iald xN (x_aload 1 (x_getF xN xFT 4 13 (x_iload 3 (x_iald xN (y_cv3 39 (w_RRII f_X7_placeOf) (y_cv3 39 (w_RIII f_X7_addStep) ((k_X7_openFrom_58 P C3)))))))))))))))))))))))))))))))))
set_option maxRecDepth 20000 in
theorem t_X7_openFrom_3 {p : Program} {l : Launch} {e : Env} {s : State} {m : MethodId} {args : Array Value} {below : List Frame} {meth : Method} {c : Code} {g : xG} (X : xX p s m args c meth cX7_openFrom RX7 5 g) (hr : meth.sig.returnType = none) {P : xP} {C3 : xK} (h3 : xAt p l e { frames := 1, cells := 0, slots := 0, locals := 24 } s m args below meth c g 5 xFT xN 0 0 (MQ below (xQc g xFT xN P) args s 0 0 (xFr g)) C3 3) : xAt p l e { frames := 1, cells := 0, slots := 0, locals := 24 } s m args below meth c g 5 xFT xN 0 0 (MQ below (xQc g xFT xN P) args s 0 0 (xFr g)) (k_X7_openFrom_3 P C3) 3 := by
  unfold k_X7_openFrom_3
  refine r_iload (pc := 3) X d_X7_openFrom_3 ?_
  refine r_aload_n (pc := 5) X d_X7_openFrom_5 fn1 ?_
  refine r_getI (pc := 6) X xok4 (by decide +kernel) (by decide +kernel) fl_RX7_109 d_X7_openFrom_6 ?_
  refine r_icmp_ge (pc := 9) (tgt := 64) X d_X7_openFrom_9 (by decide +kernel) ?_ ?_
  · exact r_vret (pc := 64) X hr d_X7_openFrom_64
  · refine r_aload_n (pc := 12) X d_X7_openFrom_12 fn0 ?_
    refine s_getF (pc := 13) (ci := 7) (k := 11) X xok7 (by decide +kernel) ob_39 trivial ly_39_11 (by decide +kernel) fl_RX7_38 d_X7_openFrom_13 ?_
    refine r_iload_n (pc := 16) X d_X7_openFrom_16 fn3 ?_
    refine s_iald (pc := 17) X tn_48 ln_48 d_X7_openFrom_17 ?_
    refine r_bipush (pc := 18) X d_X7_openFrom_18 (by decide +kernel) ?_
    refine r_aload_n (pc := 20) X d_X7_openFrom_20 fn1 ?_
    refine r_getF (pc := 21) X xok4 (by decide +kernel) (by decide +kernel) fl_RX7_112 d_X7_openFrom_21 ?_
    refine r_iload (pc := 24) X d_X7_openFrom_24 ?_
    refine r_iald (pc := 26) X d_X7_openFrom_26 ?_
    refine r_iadd (pc := 27) X d_X7_openFrom_27 ?_
    refine r_icmp_ne (pc := 28) (tgt := 58) X d_X7_openFrom_28 (by decide +kernel) ?_ ?_
    · exact t_X7_openFrom_58 X hr h3
    · refine r_aload_n (pc := 31) X d_X7_openFrom_31 fn0 ?_
      refine r_iload_n (pc := 32) X d_X7_openFrom_32 fn2 ?_
      refine r_iconst (pc := 33) X d_X7_openFrom_33 (by decide +kernel) ?_
      refine r_iload (pc := 34) X d_X7_openFrom_34 ?_
      refine r_iadd (pc := 36) X d_X7_openFrom_36 ?_
      refine r_aload_n (pc := 37) X d_X7_openFrom_37 fn0 ?_
      refine r_aload_n (pc := 38) X d_X7_openFrom_38 fn1 ?_
      refine r_aload_n (pc := 39) X d_X7_openFrom_39 fn1 ?_
      refine r_getF (pc := 40) X xok4 (by decide +kernel) (by decide +kernel) fl_RX7_115 d_X7_openFrom_40 ?_
      refine r_iload (pc := 43) X d_X7_openFrom_43 ?_
      refine r_iald (pc := 45) X d_X7_openFrom_45 ?_
      refine r_aload_n (pc := 46) X d_X7_openFrom_46 fn1 ?_
      refine r_getF (pc := 47) X xok4 (by decide +kernel) (by decide +kernel) fl_RX7_87 d_X7_openFrom_47 ?_
      refine r_iload_n (pc := 50) X d_X7_openFrom_50 fn3 ?_
      refine r_iald (pc := 51) X d_X7_openFrom_51 ?_
      refine s_cv3 (pc := 52) (ci := 7) X xok7 (by decide +kernel) ob_39 rfl (con_X7_placeOf l) mf_X7_placeOf ml_RX7_118 (by decide +kernel) (by decide +kernel) d_X7_openFrom_52 ?_
      refine s_cv3 (pc := 55) (ci := 7) X xok7 (by decide +kernel) ob_39 rfl (con_X7_addStep l) mf_X7_addStep ml_RX7_122 (by decide +kernel) (by decide +kernel) d_X7_openFrom_55 ?_
      exact t_X7_openFrom_58 X hr h3
set_option maxRecDepth 20000 in
theorem m_X7_openFrom {l : Launch} {f : Nat → Nat → Int32 → Int32 → xH → xP → Prop}  {I3 : Nat → Nat → Int32 → Int32 → xH → xP → xM → xK}
    (v0 : ∀ (a0 : Nat) (a1 : Nat) (a2 : Int32) (a3 : Int32) (A : xH) (P : xP), f a0 a1 a2 a3 A P → k_X7_openFrom_0 P (xE (I3 a0 a1 a2 a3 A P)) [some (.ref a0), some (.ref a1), some (.int a2), some (.int a3), none] [] A)
    (v3 : ∀ (a0 : Nat) (a1 : Nat) (a2 : Int32) (a3 : Int32) (A : xH) (P : xP), f a0 a1 a2 a3 A P → ∀ (μ : xM) (L : xL) (st : List Value) (B : xH), I3 a0 a1 a2 a3 A P μ L st B → k_X7_openFrom_3 P (xB (I3 a0 a1 a2 a3 A P) μ) L st B) : xCon l yX7_openFrom cX7_openFrom 5 none 1 24 xN xN 0 xFT xFT (w_RRII f) := by
  refine xc_RRII (plainFor_of_name pn_RX7) (by decide +kernel) (fun p e s m args below meth c g a0 a1 a2 a3 A P h X hr _ => ?_)
  have h3 := x_loop1 (p := p) (l := l) (e := e) (R := { frames := 1, cells := 0, slots := 0, locals := 24 }) (s := s) (m := m) (args := args) (below := below) (meth := meth) (c := c) (g := g) (nL := 5) (F := xFT) (n := xN) (cells := 0) (slots := 0) (Q := MQ below (xQc g xFT xN P) args s 0 0 (xFr g)) (I := I3 a0 a1 a2 a3 A P) (pc1 := 3) (fun μ i3 => xAt_mono (t_X7_openFrom_3 (P := P) X hr i3) (v3 a0 a1 a2 a3 A P h μ))
  exact ⟨_, v0 a0 a1 a2 a3 A P h, t_X7_openFrom_0 X hr h3⟩
theorem d_X7_closeTo_0 : decode cX7_closeTo 0 = .ok (.iconst 0, 1) := by decide +kernel
theorem d_X7_closeTo_1 : decode cX7_closeTo 1 = .ok (.istore 5, 2) := by decide +kernel
theorem d_X7_closeTo_3 : decode cX7_closeTo 3 = .ok (.iload 5, 2) := by decide +kernel
theorem d_X7_closeTo_5 : decode cX7_closeTo 5 = .ok (.aload_n 1, 1) := by decide +kernel
theorem d_X7_closeTo_6 : decode cX7_closeTo 6 = .ok (.getfield 82, 3) := by decide +kernel
theorem d_X7_closeTo_9 : decode cX7_closeTo 9 = .ok (.if_icmp .ge 47, 3) := by decide +kernel
theorem d_X7_closeTo_12 : decode cX7_closeTo 12 = .ok (.aload_n 0, 1) := by decide +kernel
theorem d_X7_closeTo_13 : decode cX7_closeTo 13 = .ok (.getfield 47, 3) := by decide +kernel
theorem d_X7_closeTo_16 : decode cX7_closeTo 16 = .ok (.iload 5, 2) := by decide +kernel
theorem d_X7_closeTo_18 : decode cX7_closeTo 18 = .ok (.iaload, 1) := by decide +kernel
theorem d_X7_closeTo_19 : decode cX7_closeTo 19 = .ok (.aload_n 0, 1) := by decide +kernel
theorem d_X7_closeTo_20 : decode cX7_closeTo 20 = .ok (.getfield 41, 3) := by decide +kernel
theorem d_X7_closeTo_23 : decode cX7_closeTo 23 = .ok (.iload 4, 2) := by decide +kernel
theorem d_X7_closeTo_25 : decode cX7_closeTo 25 = .ok (.iaload, 1) := by decide +kernel
theorem d_X7_closeTo_26 : decode cX7_closeTo 26 = .ok (.ishr, 1) := by decide +kernel
theorem d_X7_closeTo_27 : decode cX7_closeTo 27 = .ok (.iconst 1, 1) := by decide +kernel
theorem d_X7_closeTo_28 : decode cX7_closeTo 28 = .ok (.iand, 1) := by decide +kernel
theorem d_X7_closeTo_29 : decode cX7_closeTo 29 = .ok (.iconst 1, 1) := by decide +kernel
theorem d_X7_closeTo_30 : decode cX7_closeTo 30 = .ok (.if_icmp .ne 20, 3) := by decide +kernel
theorem d_X7_closeTo_33 : decode cX7_closeTo 33 = .ok (.aload_n 0, 1) := by decide +kernel
theorem d_X7_closeTo_34 : decode cX7_closeTo 34 = .ok (.iload_n 2, 1) := by decide +kernel
theorem d_X7_closeTo_35 : decode cX7_closeTo 35 = .ok (.iload_n 3, 1) := by decide +kernel
theorem d_X7_closeTo_36 : decode cX7_closeTo 36 = .ok (.aload_n 0, 1) := by decide +kernel
theorem d_X7_closeTo_37 : decode cX7_closeTo 37 = .ok (.aload_n 1, 1) := by decide +kernel
theorem d_X7_closeTo_38 : decode cX7_closeTo 38 = .ok (.iload 4, 2) := by decide +kernel
theorem d_X7_closeTo_40 : decode cX7_closeTo 40 = .ok (.iconst 1, 1) := by decide +kernel
theorem d_X7_closeTo_41 : decode cX7_closeTo 41 = .ok (.iadd, 1) := by decide +kernel
theorem d_X7_closeTo_42 : decode cX7_closeTo 42 = .ok (.iload 5, 2) := by decide +kernel
theorem d_X7_closeTo_44 : decode cX7_closeTo 44 = .ok (.invokevirtual 118, 3) := by decide +kernel
theorem d_X7_closeTo_47 : decode cX7_closeTo 47 = .ok (.invokevirtual 122, 3) := by decide +kernel
theorem d_X7_closeTo_50 : decode cX7_closeTo 50 = .ok (.iinc 5 1, 3) := by decide +kernel
theorem d_X7_closeTo_53 : decode cX7_closeTo 53 = .ok (.goto (-50), 3) := by decide +kernel
theorem d_X7_closeTo_56 : decode cX7_closeTo 56 = .ok (.return_, 1) := by decide +kernel
def k_X7_closeTo_0 (P : xP) (C3 : xK) : xK := x_push (.int 0) (x_istore 5 (C3))
set_option maxRecDepth 20000 in
theorem t_X7_closeTo_0 {p : Program} {l : Launch} {e : Env} {s : State} {m : MethodId} {args : Array Value} {below : List Frame} {meth : Method} {c : Code} {g : xG} (X : xX p s m args c meth cX7_closeTo RX7 6 g) (hr : meth.sig.returnType = none) {P : xP} {C3 : xK} (h3 : xAt p l e { frames := 1, cells := 0, slots := 0, locals := 24 } s m args below meth c g 6 xFT xN 0 0 (MQ below (xQc g xFT xN P) args s 0 0 (xFr g)) C3 3) : xAt p l e { frames := 1, cells := 0, slots := 0, locals := 24 } s m args below meth c g 6 xFT xN 0 0 (MQ below (xQc g xFT xN P) args s 0 0 (xFr g)) (k_X7_closeTo_0 P C3) 0 := by
  unfold k_X7_closeTo_0
  refine r_iconst (pc := 0) X d_X7_closeTo_0 (by decide +kernel) ?_
  refine r_istore (pc := 1) X d_X7_closeTo_1 (by decide +kernel) ?_
  exact h3
def k_X7_closeTo_50 (P : xP) (C3 : xK) : xK := x_iinc 5 1 (C3)
set_option maxRecDepth 20000 in
theorem t_X7_closeTo_50 {p : Program} {l : Launch} {e : Env} {s : State} {m : MethodId} {args : Array Value} {below : List Frame} {meth : Method} {c : Code} {g : xG} (X : xX p s m args c meth cX7_closeTo RX7 6 g) (hr : meth.sig.returnType = none) {P : xP} {C3 : xK} (h3 : xAt p l e { frames := 1, cells := 0, slots := 0, locals := 24 } s m args below meth c g 6 xFT xN 0 0 (MQ below (xQc g xFT xN P) args s 0 0 (xFr g)) C3 3) : xAt p l e { frames := 1, cells := 0, slots := 0, locals := 24 } s m args below meth c g 6 xFT xN 0 0 (MQ below (xQc g xFT xN P) args s 0 0 (xFr g)) (k_X7_closeTo_50 P C3) 50 := by
  unfold k_X7_closeTo_50
  refine r_iinc (pc := 50) X d_X7_closeTo_50 (by decide +kernel) (by decide +kernel) ?_
  refine r_goto (pc := 53) (tgt := 3) X d_X7_closeTo_53 (by decide +kernel) ?_
  exact h3
def k_X7_closeTo_3 (P : xP) (C3 : xK) : xK := x_iload 5 (x_aload 1 (x_getI xN 4 3 (x_icmp_ge (x_vret P) (x_aload 0 (y_getF 39 51 (x_iload 5 (y_iald 51 42 (x_aload 0 (y_getF 39 49 (x_iload 4 (y_iald 49 42 (x_ishr (x_push (.int 1) (x_iand (x_push (.int 1) (x_icmp_ne ((k_X7_closeTo_50 P C3)) (x_aload 0 (x_iload 2 (x_iload 3 (x_aload 0 (x_aload 1 (x_iload 4 (x_push (.int 1) (x_iadd (x_iload 5 (y_cv3 39 (w_RRII f_X7_placeOf) (y_cv3 39 (w_RIII f_X7_addStep) ((k_X7_closeTo_50 P C3)))))))))))))))))))))))))))))
set_option maxRecDepth 20000 in
theorem t_X7_closeTo_3 {p : Program} {l : Launch} {e : Env} {s : State} {m : MethodId} {args : Array Value} {below : List Frame} {meth : Method} {c : Code} {g : xG} (X : xX p s m args c meth cX7_closeTo RX7 6 g) (hr : meth.sig.returnType = none) {P : xP} {C3 : xK} (h3 : xAt p l e { frames := 1, cells := 0, slots := 0, locals := 24 } s m args below meth c g 6 xFT xN 0 0 (MQ below (xQc g xFT xN P) args s 0 0 (xFr g)) C3 3) : xAt p l e { frames := 1, cells := 0, slots := 0, locals := 24 } s m args below meth c g 6 xFT xN 0 0 (MQ below (xQc g xFT xN P) args s 0 0 (xFr g)) (k_X7_closeTo_3 P C3) 3 := by
  unfold k_X7_closeTo_3
  refine r_iload (pc := 3) X d_X7_closeTo_3 ?_
  refine r_aload_n (pc := 5) X d_X7_closeTo_5 fn1 ?_
  refine r_getI (pc := 6) X xok4 (by decide +kernel) (by decide +kernel) fl_RX7_82 d_X7_closeTo_6 ?_
  refine r_icmp_ge (pc := 9) (tgt := 56) X d_X7_closeTo_9 (by decide +kernel) ?_ ?_
  · exact r_vret (pc := 56) X hr d_X7_closeTo_56
  · refine r_aload_n (pc := 12) X d_X7_closeTo_12 fn0 ?_
    refine s_getF (pc := 13) (ci := 7) (k := 14) X xok7 (by decide +kernel) ob_39 trivial ly_39_14 (by decide +kernel) fl_RX7_47 d_X7_closeTo_13 ?_
    refine r_iload (pc := 16) X d_X7_closeTo_16 ?_
    refine s_iald (pc := 18) X tn_51 ln_51 d_X7_closeTo_18 ?_
    refine r_aload_n (pc := 19) X d_X7_closeTo_19 fn0 ?_
    refine s_getF (pc := 20) (ci := 7) (k := 12) X xok7 (by decide +kernel) ob_39 trivial ly_39_12 (by decide +kernel) fl_RX7_41 d_X7_closeTo_20 ?_
    refine r_iload (pc := 23) X d_X7_closeTo_23 ?_
    refine s_iald (pc := 25) X tn_49 ln_49 d_X7_closeTo_25 ?_
    refine r_ishr (pc := 26) X d_X7_closeTo_26 ?_
    refine r_iconst (pc := 27) X d_X7_closeTo_27 (by decide +kernel) ?_
    refine r_iand (pc := 28) X d_X7_closeTo_28 ?_
    refine r_iconst (pc := 29) X d_X7_closeTo_29 (by decide +kernel) ?_
    refine r_icmp_ne (pc := 30) (tgt := 50) X d_X7_closeTo_30 (by decide +kernel) ?_ ?_
    · exact t_X7_closeTo_50 X hr h3
    · refine r_aload_n (pc := 33) X d_X7_closeTo_33 fn0 ?_
      refine r_iload_n (pc := 34) X d_X7_closeTo_34 fn2 ?_
      refine r_iload_n (pc := 35) X d_X7_closeTo_35 fn3 ?_
      refine r_aload_n (pc := 36) X d_X7_closeTo_36 fn0 ?_
      refine r_aload_n (pc := 37) X d_X7_closeTo_37 fn1 ?_
      refine r_iload (pc := 38) X d_X7_closeTo_38 ?_
      refine r_iconst (pc := 40) X d_X7_closeTo_40 (by decide +kernel) ?_
      refine r_iadd (pc := 41) X d_X7_closeTo_41 ?_
      refine r_iload (pc := 42) X d_X7_closeTo_42 ?_
      refine s_cv3 (pc := 44) (ci := 7) X xok7 (by decide +kernel) ob_39 rfl (con_X7_placeOf l) mf_X7_placeOf ml_RX7_118 (by decide +kernel) (by decide +kernel) d_X7_closeTo_44 ?_
      refine s_cv3 (pc := 47) (ci := 7) X xok7 (by decide +kernel) ob_39 rfl (con_X7_addStep l) mf_X7_addStep ml_RX7_122 (by decide +kernel) (by decide +kernel) d_X7_closeTo_47 ?_
      exact t_X7_closeTo_50 X hr h3
set_option maxRecDepth 20000 in
theorem m_X7_closeTo {l : Launch} {f : Nat → Nat → Int32 → Int32 → Int32 → xH → xP → Prop}  {I3 : Nat → Nat → Int32 → Int32 → Int32 → xH → xP → xM → xK}
    (v0 : ∀ (a0 : Nat) (a1 : Nat) (a2 : Int32) (a3 : Int32) (a4 : Int32) (A : xH) (P : xP), f a0 a1 a2 a3 a4 A P → k_X7_closeTo_0 P (xE (I3 a0 a1 a2 a3 a4 A P)) [some (.ref a0), some (.ref a1), some (.int a2), some (.int a3), some (.int a4), none] [] A)
    (v3 : ∀ (a0 : Nat) (a1 : Nat) (a2 : Int32) (a3 : Int32) (a4 : Int32) (A : xH) (P : xP), f a0 a1 a2 a3 a4 A P → ∀ (μ : xM) (L : xL) (st : List Value) (B : xH), I3 a0 a1 a2 a3 a4 A P μ L st B → k_X7_closeTo_3 P (xB (I3 a0 a1 a2 a3 a4 A P) μ) L st B) : xCon l yX7_closeTo cX7_closeTo 6 none 1 24 xN xN 0 xFT xFT (w_RRIII f) := by
  refine xc_RRIII (plainFor_of_name pn_RX7) (by decide +kernel) (fun p e s m args below meth c g a0 a1 a2 a3 a4 A P h X hr _ => ?_)
  have h3 := x_loop1 (p := p) (l := l) (e := e) (R := { frames := 1, cells := 0, slots := 0, locals := 24 }) (s := s) (m := m) (args := args) (below := below) (meth := meth) (c := c) (g := g) (nL := 6) (F := xFT) (n := xN) (cells := 0) (slots := 0) (Q := MQ below (xQc g xFT xN P) args s 0 0 (xFr g)) (I := I3 a0 a1 a2 a3 a4 A P) (pc1 := 3) (fun μ i3 => xAt_mono (t_X7_closeTo_3 (P := P) X hr i3) (v3 a0 a1 a2 a3 a4 A P h μ))
  exact ⟨_, v0 a0 a1 a2 a3 a4 A P h, t_X7_closeTo_0 X hr h3⟩
theorem plA_inj {v : xV} {p q : Nat} {x : Nat × Nat} (h : plA v p x) (h' : plA v q x) : p = q := by
  have hs := plG_sort (v := v) (vN v - 2)
  have hs : List.Pairwise plB (plL v) := hs
  obtain ⟨a1, a2⟩ := List.getElem?_eq_some_iff.mp h
  obtain ⟨b1, b2⟩ := List.getElem?_eq_some_iff.mp h'
  have key : ∀ i j (hi : i < (plL v).length) (hj : j < (plL v).length), i < j → (plL v)[i] ≠ (plL v)[j] := fun i j hi hj hij e => by
    have := List.pairwise_iff_getElem.mp hs i j hi hj hij
    rw [e] at this
    unfold plB at this
    omega
  rcases Nat.lt_trichotomy p q with w | w | w
  · exact absurd (a2.trans b2.symm) (key p q a1 b1 w)
  · exact w
  · exact absurd (b2.trans a2.symm) (key q p b1 a1 w)
theorem plA_fun {v : xV} {p : Nat} {x y : Nat × Nat} (h : plA v p x) (h' : plA v p y) : x = y := Option.some.inj (h.symm.trans h')
/-- steps being made -/
def bd (A : xH) (m : Nat) (v : xV) (T : Nat → Nat → Nat → Prop) : Prop := isM A m v ∧ liC A v ∧ lsC A (plL v) ∧ (plL v).length ≤ 80 ∧ isST A (plL v).length T
theorem bd_fr {A B : xH} {m : Nat} {v : xV} {T U : Nat → Nat → Nat → Prop} (hm : mod2 m) (h : bd A m v T) (hf : fr SSp A B) (h2 : isST B (plL v).length U) : bd B m v U :=
  ⟨isM_fr h.1 hf (by rcases hm with rfl | rfl <;> unfold SSp <;> omega), liN_fr h.2.1 hf (by unfold SSp SLi; omega), lsC_fr h.2.2.1 hf (by unfold SSp SPl; omega), h.2.2.2.1, h2⟩
/-- with steps from p more -/
def adP (v : xV) (T : Nat → Nat → Nat → Prop) (p : Nat) (R : Nat → Nat × Nat → Prop) : Nat → Nat → Nat → Prop := fun a b c => T a b c ∨ (a = p ∧ ∃ Q, plA v c Q ∧ R b Q)
theorem bd_congr {A : xH} {m : Nat} {v : xV} {T U : Nat → Nat → Nat → Prop} (h : bd A m v T) (e : ∀ p s q, T p s q ↔ U p s q) : bd A m v U := ⟨h.1, h.2.1, h.2.2.1, h.2.2.2.1, isST_congr h.2.2.2.2 e⟩
theorem adP_congr {A : xH} {m : Nat} {v : xV} {T : Nat → Nat → Nat → Prop} {p : Nat} {R R' : Nat → Nat × Nat → Prop} (h : bd A m v (adP v T p R)) (e : ∀ s Q, R s Q ↔ R' s Q) : bd A m v (adP v T p R') := bd_congr h fun a b c => by
  unfold adP
  constructor
  · rintro (w | ⟨w1, Q, w2, w3⟩)
    · exact Or.inl w
    · exact Or.inr ⟨w1, Q, w2, (e _ _).mp w3⟩
  · rintro (w | ⟨w1, Q, w2, w3⟩)
    · exact Or.inl w
    · exact Or.inr ⟨w1, Q, w2, (e _ _).mpr w3⟩
theorem adP_adP {A : xH} {m : Nat} {v : xV} {T : Nat → Nat → Nat → Prop} {p : Nat} {R R' : Nat → Nat × Nat → Prop} (h : bd A m v (adP v (adP v T p R) p R')) : bd A m v (adP v T p (fun s Q => R s Q ∨ R' s Q)) := bd_congr h fun a b c => by
  unfold adP
  constructor
  · rintro ((w | ⟨w1, Q, w2, w3⟩) | ⟨w1, Q, w2, w3⟩)
    · exact Or.inl w
    · exact Or.inr ⟨w1, Q, w2, Or.inl w3⟩
    · exact Or.inr ⟨w1, Q, w2, Or.inr w3⟩
  · rintro (w | ⟨w1, Q, w2, w3 | w3⟩)
    · exact Or.inl (Or.inl w)
    · exact Or.inl (Or.inr ⟨w1, Q, w2, w3⟩)
    · exact Or.inr ⟨w1, Q, w2, w3⟩
/-- one step more -/
theorem step_C {A : xH} {P : xP} {m p s q : Nat} {v : xV} {T : Nat → Nat → Nat → Prop} {R : Nat → Nat × Nat → Prop} {x : Nat × Nat} (hm : mod2 m) (h : bd A m v (adP v T p R)) (hp : p < (plL v).length) (hs : s < 24) (hx : plA v q x) (hP : ∀ B, fr SSp A B → bd B m v (adP v T p (fun s' Q => R s' Q ∨ (s' = s ∧ Q = x))) → P none B) : f_X7_addStep 39 (nI p) (nI s) (nI q) A P := by
  have hq := (List.getElem?_eq_some_iff.mp hx).1
  refine addStep_C h.2.2.2.2 h.2.2.2.1 hp hs hq fun B hB hT => hP B hB (bd_congr (bd_fr hm h hB hT) fun a b c => ?_)
  unfold adP
  constructor
  · rintro ((w | ⟨w1, Q, w2, w3⟩) | ⟨w1, w2, w3⟩)
    · exact Or.inl w
    · exact Or.inr ⟨w1, Q, w2, Or.inl w3⟩
    · exact Or.inr ⟨w1, x, by rw [w3]; exact hx, Or.inr ⟨w2, rfl⟩⟩
  · rintro (w | ⟨w1, Q, w2, w3 | ⟨w3, w4⟩⟩)
    · exact Or.inl (Or.inl w)
    · exact Or.inl (Or.inr ⟨w1, Q, w2, w3⟩)
    · subst w4
      exact Or.inr ⟨w1, w3, plA_inj w2 hx⟩
def opN (v : xV) (i n s : Nat) (Q : Nat × Nat) : Prop := ∃ r, r < n ∧ vnx v i = 8 + vrk v r ∧ s = 4 + r ∧ Q = (vcl v (vfst v r), cD v (vcl v i))
def f_X7_openFrom (q m : Nat) (x y : Int32) (A : xH) (P : xP) : Prop := q = 39 ∧ mod2 m ∧ ∃ (v : xV) (T : Nat → Nat → Nat → Prop) (p : Nat) (R : Nat → Nat × Nat → Prop) (i : Nat), bd A m v (adP v T p R) ∧ x = nI p ∧ y = nI i ∧ p < (plL v).length ∧ i < vN v ∧ ∀ B, fr SSp A B → bd B m v (adP v T p (fun s Q => R s Q ∨ opS v i s Q)) → P none B
def of3 (m : Nat) (A : xH) (P : xP) : xM → xK := fun μ L st B => ∃ (v : xV) (T : Nat → Nat → Nat → Prop) (p : Nat) (R : Nat → Nat × Nat → Prop) (i r : Nat), mod2 m ∧ p < (plL v).length ∧ i < vN v ∧ (∀ B, fr SSp A B → bd B m v (adP v T p (fun s Q => R s Q ∨ opS v i s Q)) → P none B) ∧ fr SSp A B ∧ r ≤ vR v ∧ bd B m v (adP v T p (fun s Q => R s Q ∨ opN v i r s Q)) ∧ st = [] ∧ L = [some (.ref 39), some (.ref m), some (.int (nI p)), some (.int (nI i)), some (.int (nI r))] ∧ μ = (vR v - r, 0, 0)
theorem cI_n {c : Nat} (h : c < 42) : nI c = cI c := by unfold cI; rw [if_neg (by omega)]
set_option maxRecDepth 20000 in
theorem con_X7_openFrom (l : Launch) : xCon l yX7_openFrom cX7_openFrom 5 none 1 24 xN xN 0 xFT xFT (w_RRII f_X7_openFrom) := by
  refine m_X7_openFrom (I3 := fun q m x y A P => of3 m A P) ?_ ?_
  · rintro q m x y A P ⟨rfl, hm, v, T, p, R, i, hb, rfl, rfl, hp, hi, hP⟩
    simp (disch := omega) only [k_X7_openFrom_0, k_X7_openFrom_3, k_X7_openFrom_58, f_X7_addStep, f_X7_placeOf, w_RIII, w_RRII, x_aload, x_getF, x_getI, x_iadd, x_iald, x_icmp_ge, x_icmp_ne, x_iinc, x_iload, x_istore, x_push, x_vret, y_cv3, y_getF, y_iald, xFT, xbool0, xbool1, Nat.reduceAdd, Nat.zero_add, xgl_0, xgl_s, xgl_n, xst_0, xst_1n, xst_1i, xst_1r, xst_1l, xst_s, set_0, set_s, true_and, and_true, xres, xcat_nil, xcat_i, xcat_r, xcat_l, Nat.add_zero, xble0, xble1, xble2, xble3, xble4, xble5, xble6, xble7, xble8, pk_mul, nI_add, nI_1, nI_leI, nI_ltI, nI_eq, n_in, n_cl, z_eq, z_lt, z_le, z_gt, z_ge, z_qe, o_eq, o_lt, o_le, o_gt, o_ge, vp0, vp1, cl0, cl1, n_sub, n_sub1, n_pm1, n_a0, n_0a, ofn, lN0, Nat.reduceLT, Nat.reduceLeDiff, Nat.reduceMul, Nat.reduceSub, Nat.reduceEqDiff, ne_eq, true_implies, false_implies, not_true_eq_false, not_false_eq_true, and_self, and_true, true_and, and_false, false_and, implies_true, if_true, if_false, i00, i10, i01, i11, ob_0, ob_1, tn_2, ln_2, ob_3, tn_4, ln_4, ob_5, tn_6, ln_6, tn_7, ln_7, ob_8, tn_9, ln_9, tn_10, ln_10, tn_11, ln_11, tn_12, ln_12, tn_13, ln_13, tn_14, ln_14, tn_15, ln_15, tn_16, ln_16, tn_17, ln_17, ob_18, tn_19, ln_19, tn_20, ln_20, tn_21, ln_21, tn_22, ln_22, tn_23, ln_23, tn_24, ln_24, tn_25, ln_25, tn_26, ln_26, tn_27, ln_27, ob_28, tn_29, ln_29, tn_30, ln_30, ob_31, tn_32, ln_32, tn_33, ln_33, ob_34, ob_35, tn_36, ln_36, tn_37, ln_37, tn_38, ln_38, ob_39, tn_40, ln_40, tn_41, ln_41, tn_42, ln_42, tn_43, ln_43, tn_44, ln_44, tn_45, ln_45, tn_46, ln_46, tn_47, ln_47, tn_48, ln_48, tn_49, ln_49, tn_50, ln_50, tn_51, ln_51, ob_52, tn_53, ln_53, tn_54, ln_54, tn_55, ln_55, tn_56, ln_56, ob_57, tn_58, ln_58, tn_59, ln_59, tn_60, ln_60, tn_61, ln_61, tn_62, ln_62, tn_63, ln_63, tn_64, ln_64, tn_65, ln_65, ob_66, tn_67, ln_67, tn_68, ln_68, tn_69, ln_69, tn_70, ln_70, tn_71, ln_71, tn_72, ln_72, tn_73, ln_73, ob_74, tn_75, ln_75, tn_76, ln_76, tn_77, ln_77, tn_78, ln_78, tn_79, ln_79, tn_80, ln_80, tn_81, ln_81, tn_82, ln_82, tn_83, ln_83, ob_84, tn_85, ln_85, tn_86, ln_86, tn_87, ln_87, tn_88, ln_88, tn_89, ln_89, tn_90, ln_90, tn_91, ln_91, tn_92, ln_92, tn_93, ln_93, ob_94, tn_95, ln_95, tn_96, ln_96, tn_97, ln_97, tn_98, ln_98, tn_99, ln_99, tn_100, ln_100, tn_101, ln_101, tn_102, ln_102, tn_103, ln_103, ob_104, tn_105, ln_105, tn_106, ln_106, tn_107, ln_107, tn_108, ln_108, tn_109, ln_109, tn_110, ln_110, tn_111, ln_111, tn_112, ln_112, tn_113, ln_113, ob_114, tn_115, ln_115, tn_116, ln_116, tn_117, ln_117, tn_118, ln_118, tn_119, ln_119, tn_120, ln_120, tn_121, ln_121, tn_122, ln_122, tn_123, ln_123, ob_124, tn_125, ln_125, tn_126, ln_126, tn_127, ln_127, tn_128, ln_128, tn_129, ln_129, tn_130, ln_130, tn_131, ln_131, tn_132, ln_132, tn_133, ln_133, ob_134, tn_135, ln_135, tn_136, ln_136, tn_137, ln_137, tn_138, ln_138, tn_139, ln_139, tn_140, ln_140, tn_141, ln_141, tn_142, ln_142, tn_143, ln_143, ob_144, tn_145, ln_145, tn_146, ln_146, tn_147, ln_147, tn_148, ln_148, tn_149, ln_149, tn_150, ln_150, tn_151, ln_151, tn_152, ln_152, tn_153, ln_153, ob_154, tn_155, ln_155, tn_156, ln_156, tn_157, ln_157, tn_158, ln_158, tn_159, ln_159, tn_160, ln_160, tn_161, ln_161, tn_162, ln_162, tn_163, ln_163, ob_164, tn_165, ln_165, tn_166, ln_166, ob_167, tn_168, ln_168, tn_169, ln_169, tn_170, ln_170, tn_171, ln_171, tn_172, ln_172, tn_173, ln_173, tn_174, ln_174, tn_175, ln_175, tn_176, ln_176, ob_177, tn_178, ln_178, tn_179, ln_179, ob_180, tn_181, ln_181, tn_182, ln_182, tn_183, ln_183, tn_184, ln_184, tn_185, ln_185, tn_186, ln_186, tn_187, ln_187, tn_188, ln_188, tn_189, ln_189, tn_190, ln_190, tn_191, ln_191, tn_192, ln_192, tn_193, ln_193, tn_194, ln_194, tn_195, ln_195, tn_196, ln_196, tn_197, ln_197, tn_198, ln_198, tn_199, ln_199, tn_200, ln_200, tn_201, ln_201, tn_202, ln_202, tn_203, ln_203, tn_204, ln_204, tn_205, ln_205, tn_206, ln_206, tn_207, ln_207, tn_208, ln_208, tn_209, ln_209, tn_210, ln_210, tn_211, ln_211, tn_212, ln_212, tn_213, ln_213, tn_214, ln_214, tn_215, ln_215, tn_216, ln_216, tn_217, ln_217, tn_218, ln_218, tn_219, ln_219, tn_220, ln_220, tn_221, ln_221, tn_222, ln_222, tn_223, ln_223, tn_224, ln_224, tn_225, ln_225, tn_226, ln_226, tn_227, ln_227, tn_228, ln_228, tn_229, ln_229, tn_230, ln_230, lx2, lx3, lx4, lx5, lx6, lx7, lx8, lx9, lx10, lx14, lx15, lx16, lx18, lx20, lx24, lx25, lx27, lx32, lx36, lx40, lx41, lx42, lx43, lx45, lx48, lx52, lx54, lx56, lx57, lx58, lx60, lx61, lx62, lx63, lx64, lx66, lx69, lx73, lx80, lx81, lx84, lx85, lx87, lx94, lx96, lx97, lx120, lx128, lx135, lx160, lx162, lx163, lx165, lx200, lx232, lx242, lx243, lx255, lx256, lx320, lx325, lx400, lx405, lx464, lx512, lx600, lx640, lx752, lx900, lx940, lx1000, lx1024, lx1764, lx3360, lx3840, lx5000, lx6400, lx9050, lx9998, lx9999, lx10000, lx25600, lx76800, lx99999]
    refine xE0 (vR v - 0, 0, 0) ⟨v, T, p, R, i, 0, hm, hp, hi, hP, fr_rf, Nat.zero_le _, adP_congr hb fun s Q => ?_, rfl, rfl, rfl⟩
    constructor
    · exact Or.inl
    · rintro (w | ⟨r, h, -⟩)
      · exact w
      · exact absurd h (Nat.not_lt_zero r)
  · rintro q m x y A P - μ L st B ⟨v, T, p, R, i, r, hm, hp, hi, hP, hF, hr, hb, rfl, rfl, rfl⟩
    have hb0 := hb
    obtain ⟨hM, hl, hls, h80, hT⟩ := hb
    have hw := hM.1.2.1
    have hwc := hM.2.1
    have hN := vN_le hw
    have h10 := hw.2.2.1
    obtain ⟨ob, ⟨l5, l6, l7, l8, l9, l10, l11, l12, l13⟩, ⟨t1, t2, t3, t4, t5, t6, t7, t8, t9⟩, ⟨n1, n2, n3, n4, n5, n6, n7, n8, n9⟩, -⟩ := hM.1.1
    have e2 : xi B m 2 = nI (vR v) := hM.1.2.2.1.2.2.1
    have e48 : xi B 48 i = oI (vnx v i) := (hl.1 i hi).1
    have hcl : xi B (m + 9) i = nI (vcl v i) := hM.2.2.2 _ (by omega)
    have hci := (hwc i (by omega)).1
    have x15 := vnx_le hw i
    have hk5 := hw.2.1
    have ek : r < vR v → xi B (m + 3) r = nI (vrk v r) ∧ vrk v r < 5 ∧ xi B (m + 5) r = nI (vfst v r) := fun q => ⟨(hM.1.2.2.2.2.2 r q).1, by have := (hw.2.2.2.2 r q).1; omega, hM.2.2.1.2.1 r q⟩
    have nxt : ∀ C, fr SSp B C → bd C m v (adP v T p (fun s Q => R s Q ∨ opN v i (r + 1) s Q)) → r < vR v → xB (of3 m A P) (vR v - r, 0, 0) [some (.ref 39), some (.ref m), some (.int (nI p)), some (.int (nI i)), some (.int (nI (r + 1)))] [] C := fun C hC bC q =>
      xB1 (b := vR v - (r + 1)) (by omega) ⟨v, T, p, R, i, r + 1, hm, hp, hi, hP, fr_tr hF hC, by omega, bC, rfl, rfl, rfl⟩
    simp (disch := omega) only [k_X7_openFrom_0, k_X7_openFrom_3, k_X7_openFrom_58, w_RIII, w_RRII, x_aload, x_getF, x_getI, x_iadd, x_iald, x_icmp_ge, x_icmp_ne, x_iinc, x_iload, x_istore, x_push, x_vret, y_cv3, y_getF, y_iald, xFT, xbool0, xbool1, Nat.reduceAdd, Nat.zero_add, xgl_0, xgl_s, xgl_n, xst_0, xst_1n, xst_1i, xst_1r, xst_1l, xst_s, set_0, set_s, true_and, and_true, xres, xcat_nil, xcat_i, xcat_r, xcat_l, Nat.add_zero, xble0, xble1, xble2, xble3, xble4, xble5, xble6, xble7, xble8, pk_mul, nI_add, nI_1, nI_leI, nI_ltI, nI_eq, n_in, n_cl, z_eq, z_lt, z_le, z_gt, z_ge, z_qe, o_eq, o_lt, o_le, o_gt, o_ge, vp0, vp1, cl0, cl1, n_sub, n_sub1, n_pm1, n_a0, n_0a, ofn, lN0, Nat.reduceLT, Nat.reduceLeDiff, Nat.reduceMul, Nat.reduceSub, Nat.reduceEqDiff, ne_eq, true_implies, false_implies, not_true_eq_false, not_false_eq_true, and_self, and_true, true_and, and_false, false_and, implies_true, if_true, if_false, i00, i10, i01, i11, ob_0, ob_1, tn_2, ln_2, ob_3, tn_4, ln_4, ob_5, tn_6, ln_6, tn_7, ln_7, ob_8, tn_9, ln_9, tn_10, ln_10, tn_11, ln_11, tn_12, ln_12, tn_13, ln_13, tn_14, ln_14, tn_15, ln_15, tn_16, ln_16, tn_17, ln_17, ob_18, tn_19, ln_19, tn_20, ln_20, tn_21, ln_21, tn_22, ln_22, tn_23, ln_23, tn_24, ln_24, tn_25, ln_25, tn_26, ln_26, tn_27, ln_27, ob_28, tn_29, ln_29, tn_30, ln_30, ob_31, tn_32, ln_32, tn_33, ln_33, ob_34, ob_35, tn_36, ln_36, tn_37, ln_37, tn_38, ln_38, ob_39, tn_40, ln_40, tn_41, ln_41, tn_42, ln_42, tn_43, ln_43, tn_44, ln_44, tn_45, ln_45, tn_46, ln_46, tn_47, ln_47, tn_48, ln_48, tn_49, ln_49, tn_50, ln_50, tn_51, ln_51, ob_52, tn_53, ln_53, tn_54, ln_54, tn_55, ln_55, tn_56, ln_56, ob_57, tn_58, ln_58, tn_59, ln_59, tn_60, ln_60, tn_61, ln_61, tn_62, ln_62, tn_63, ln_63, tn_64, ln_64, tn_65, ln_65, ob_66, tn_67, ln_67, tn_68, ln_68, tn_69, ln_69, tn_70, ln_70, tn_71, ln_71, tn_72, ln_72, tn_73, ln_73, ob_74, tn_75, ln_75, tn_76, ln_76, tn_77, ln_77, tn_78, ln_78, tn_79, ln_79, tn_80, ln_80, tn_81, ln_81, tn_82, ln_82, tn_83, ln_83, ob_84, tn_85, ln_85, tn_86, ln_86, tn_87, ln_87, tn_88, ln_88, tn_89, ln_89, tn_90, ln_90, tn_91, ln_91, tn_92, ln_92, tn_93, ln_93, ob_94, tn_95, ln_95, tn_96, ln_96, tn_97, ln_97, tn_98, ln_98, tn_99, ln_99, tn_100, ln_100, tn_101, ln_101, tn_102, ln_102, tn_103, ln_103, ob_104, tn_105, ln_105, tn_106, ln_106, tn_107, ln_107, tn_108, ln_108, tn_109, ln_109, tn_110, ln_110, tn_111, ln_111, tn_112, ln_112, tn_113, ln_113, ob_114, tn_115, ln_115, tn_116, ln_116, tn_117, ln_117, tn_118, ln_118, tn_119, ln_119, tn_120, ln_120, tn_121, ln_121, tn_122, ln_122, tn_123, ln_123, ob_124, tn_125, ln_125, tn_126, ln_126, tn_127, ln_127, tn_128, ln_128, tn_129, ln_129, tn_130, ln_130, tn_131, ln_131, tn_132, ln_132, tn_133, ln_133, ob_134, tn_135, ln_135, tn_136, ln_136, tn_137, ln_137, tn_138, ln_138, tn_139, ln_139, tn_140, ln_140, tn_141, ln_141, tn_142, ln_142, tn_143, ln_143, ob_144, tn_145, ln_145, tn_146, ln_146, tn_147, ln_147, tn_148, ln_148, tn_149, ln_149, tn_150, ln_150, tn_151, ln_151, tn_152, ln_152, tn_153, ln_153, ob_154, tn_155, ln_155, tn_156, ln_156, tn_157, ln_157, tn_158, ln_158, tn_159, ln_159, tn_160, ln_160, tn_161, ln_161, tn_162, ln_162, tn_163, ln_163, ob_164, tn_165, ln_165, tn_166, ln_166, ob_167, tn_168, ln_168, tn_169, ln_169, tn_170, ln_170, tn_171, ln_171, tn_172, ln_172, tn_173, ln_173, tn_174, ln_174, tn_175, ln_175, tn_176, ln_176, ob_177, tn_178, ln_178, tn_179, ln_179, ob_180, tn_181, ln_181, tn_182, ln_182, tn_183, ln_183, tn_184, ln_184, tn_185, ln_185, tn_186, ln_186, tn_187, ln_187, tn_188, ln_188, tn_189, ln_189, tn_190, ln_190, tn_191, ln_191, tn_192, ln_192, tn_193, ln_193, tn_194, ln_194, tn_195, ln_195, tn_196, ln_196, tn_197, ln_197, tn_198, ln_198, tn_199, ln_199, tn_200, ln_200, tn_201, ln_201, tn_202, ln_202, tn_203, ln_203, tn_204, ln_204, tn_205, ln_205, tn_206, ln_206, tn_207, ln_207, tn_208, ln_208, tn_209, ln_209, tn_210, ln_210, tn_211, ln_211, tn_212, ln_212, tn_213, ln_213, tn_214, ln_214, tn_215, ln_215, tn_216, ln_216, tn_217, ln_217, tn_218, ln_218, tn_219, ln_219, tn_220, ln_220, tn_221, ln_221, tn_222, ln_222, tn_223, ln_223, tn_224, ln_224, tn_225, ln_225, tn_226, ln_226, tn_227, ln_227, tn_228, ln_228, tn_229, ln_229, tn_230, ln_230, lx2, lx3, lx4, lx5, lx6, lx7, lx8, lx9, lx10, lx14, lx15, lx16, lx18, lx20, lx24, lx25, lx27, lx32, lx36, lx40, lx41, lx42, lx43, lx45, lx48, lx52, lx54, lx56, lx57, lx58, lx60, lx61, lx62, lx63, lx64, lx66, lx69, lx73, lx80, lx81, lx84, lx85, lx87, lx94, lx96, lx97, lx120, lx128, lx135, lx160, lx162, lx163, lx165, lx200, lx232, lx242, lx243, lx255, lx256, lx320, lx325, lx400, lx405, lx464, lx512, lx600, lx640, lx752, lx900, lx940, lx1000, lx1024, lx1764, lx3360, lx3840, lx5000, lx6400, lx9050, lx9998, lx9999, lx10000, lx25600, lx76800, lx99999, ob, l7, l9, l13, t3, t5, t9, n3, n5, n9, e2, e48, hcl]
    refine ⟨fun z => ?_, fun z => ⟨by omega, by omega, ?_⟩⟩
    · have : r = vR v := by omega
      subst this; exact hP B hF hb0
    · obtain ⟨k1, k2, k3⟩ := ek (by omega)
      rw [k1, k3]
      simp (disch := omega) only [k_X7_openFrom_0, k_X7_openFrom_3, k_X7_openFrom_58, w_RIII, w_RRII, x_aload, x_getF, x_getI, x_iadd, x_iald, x_icmp_ge, x_icmp_ne, x_iinc, x_iload, x_istore, x_push, x_vret, y_cv3, y_getF, y_iald, xFT, xbool0, xbool1, Nat.reduceAdd, Nat.zero_add, xgl_0, xgl_s, xgl_n, xst_0, xst_1n, xst_1i, xst_1r, xst_1l, xst_s, set_0, set_s, true_and, and_true, xres, xcat_nil, xcat_i, xcat_r, xcat_l, Nat.add_zero, xble0, xble1, xble2, xble3, xble4, xble5, xble6, xble7, xble8, pk_mul, nI_add, nI_1, nI_leI, nI_ltI, nI_eq, n_in, n_cl, z_eq, z_lt, z_le, z_gt, z_ge, z_qe, o_eq, o_lt, o_le, o_gt, o_ge, vp0, vp1, cl0, cl1, n_sub, n_sub1, n_pm1, n_a0, n_0a, ofn, lN0, Nat.reduceLT, Nat.reduceLeDiff, Nat.reduceMul, Nat.reduceSub, Nat.reduceEqDiff, ne_eq, true_implies, false_implies, not_true_eq_false, not_false_eq_true, and_self, and_true, true_and, and_false, false_and, implies_true, if_true, if_false, i00, i10, i01, i11, ob_0, ob_1, tn_2, ln_2, ob_3, tn_4, ln_4, ob_5, tn_6, ln_6, tn_7, ln_7, ob_8, tn_9, ln_9, tn_10, ln_10, tn_11, ln_11, tn_12, ln_12, tn_13, ln_13, tn_14, ln_14, tn_15, ln_15, tn_16, ln_16, tn_17, ln_17, ob_18, tn_19, ln_19, tn_20, ln_20, tn_21, ln_21, tn_22, ln_22, tn_23, ln_23, tn_24, ln_24, tn_25, ln_25, tn_26, ln_26, tn_27, ln_27, ob_28, tn_29, ln_29, tn_30, ln_30, ob_31, tn_32, ln_32, tn_33, ln_33, ob_34, ob_35, tn_36, ln_36, tn_37, ln_37, tn_38, ln_38, ob_39, tn_40, ln_40, tn_41, ln_41, tn_42, ln_42, tn_43, ln_43, tn_44, ln_44, tn_45, ln_45, tn_46, ln_46, tn_47, ln_47, tn_48, ln_48, tn_49, ln_49, tn_50, ln_50, tn_51, ln_51, ob_52, tn_53, ln_53, tn_54, ln_54, tn_55, ln_55, tn_56, ln_56, ob_57, tn_58, ln_58, tn_59, ln_59, tn_60, ln_60, tn_61, ln_61, tn_62, ln_62, tn_63, ln_63, tn_64, ln_64, tn_65, ln_65, ob_66, tn_67, ln_67, tn_68, ln_68, tn_69, ln_69, tn_70, ln_70, tn_71, ln_71, tn_72, ln_72, tn_73, ln_73, ob_74, tn_75, ln_75, tn_76, ln_76, tn_77, ln_77, tn_78, ln_78, tn_79, ln_79, tn_80, ln_80, tn_81, ln_81, tn_82, ln_82, tn_83, ln_83, ob_84, tn_85, ln_85, tn_86, ln_86, tn_87, ln_87, tn_88, ln_88, tn_89, ln_89, tn_90, ln_90, tn_91, ln_91, tn_92, ln_92, tn_93, ln_93, ob_94, tn_95, ln_95, tn_96, ln_96, tn_97, ln_97, tn_98, ln_98, tn_99, ln_99, tn_100, ln_100, tn_101, ln_101, tn_102, ln_102, tn_103, ln_103, ob_104, tn_105, ln_105, tn_106, ln_106, tn_107, ln_107, tn_108, ln_108, tn_109, ln_109, tn_110, ln_110, tn_111, ln_111, tn_112, ln_112, tn_113, ln_113, ob_114, tn_115, ln_115, tn_116, ln_116, tn_117, ln_117, tn_118, ln_118, tn_119, ln_119, tn_120, ln_120, tn_121, ln_121, tn_122, ln_122, tn_123, ln_123, ob_124, tn_125, ln_125, tn_126, ln_126, tn_127, ln_127, tn_128, ln_128, tn_129, ln_129, tn_130, ln_130, tn_131, ln_131, tn_132, ln_132, tn_133, ln_133, ob_134, tn_135, ln_135, tn_136, ln_136, tn_137, ln_137, tn_138, ln_138, tn_139, ln_139, tn_140, ln_140, tn_141, ln_141, tn_142, ln_142, tn_143, ln_143, ob_144, tn_145, ln_145, tn_146, ln_146, tn_147, ln_147, tn_148, ln_148, tn_149, ln_149, tn_150, ln_150, tn_151, ln_151, tn_152, ln_152, tn_153, ln_153, ob_154, tn_155, ln_155, tn_156, ln_156, tn_157, ln_157, tn_158, ln_158, tn_159, ln_159, tn_160, ln_160, tn_161, ln_161, tn_162, ln_162, tn_163, ln_163, ob_164, tn_165, ln_165, tn_166, ln_166, ob_167, tn_168, ln_168, tn_169, ln_169, tn_170, ln_170, tn_171, ln_171, tn_172, ln_172, tn_173, ln_173, tn_174, ln_174, tn_175, ln_175, tn_176, ln_176, ob_177, tn_178, ln_178, tn_179, ln_179, ob_180, tn_181, ln_181, tn_182, ln_182, tn_183, ln_183, tn_184, ln_184, tn_185, ln_185, tn_186, ln_186, tn_187, ln_187, tn_188, ln_188, tn_189, ln_189, tn_190, ln_190, tn_191, ln_191, tn_192, ln_192, tn_193, ln_193, tn_194, ln_194, tn_195, ln_195, tn_196, ln_196, tn_197, ln_197, tn_198, ln_198, tn_199, ln_199, tn_200, ln_200, tn_201, ln_201, tn_202, ln_202, tn_203, ln_203, tn_204, ln_204, tn_205, ln_205, tn_206, ln_206, tn_207, ln_207, tn_208, ln_208, tn_209, ln_209, tn_210, ln_210, tn_211, ln_211, tn_212, ln_212, tn_213, ln_213, tn_214, ln_214, tn_215, ln_215, tn_216, ln_216, tn_217, ln_217, tn_218, ln_218, tn_219, ln_219, tn_220, ln_220, tn_221, ln_221, tn_222, ln_222, tn_223, ln_223, tn_224, ln_224, tn_225, ln_225, tn_226, ln_226, tn_227, ln_227, tn_228, ln_228, tn_229, ln_229, tn_230, ln_230, lx2, lx3, lx4, lx5, lx6, lx7, lx8, lx9, lx10, lx14, lx15, lx16, lx18, lx20, lx24, lx25, lx27, lx32, lx36, lx40, lx41, lx42, lx43, lx45, lx48, lx52, lx54, lx56, lx57, lx58, lx60, lx61, lx62, lx63, lx64, lx66, lx69, lx73, lx80, lx81, lx84, lx85, lx87, lx94, lx96, lx97, lx120, lx128, lx135, lx160, lx162, lx163, lx165, lx200, lx232, lx242, lx243, lx255, lx256, lx320, lx325, lx400, lx405, lx464, lx512, lx600, lx640, lx752, lx900, lx940, lx1000, lx1024, lx1764, lx3360, lx3840, lx5000, lx6400, lx9050, lx9998, lx9999, lx10000, lx25600, lx76800, lx99999, oI_eq x15]
      refine ⟨fun q => nxt B fr_rf (adP_congr hb0 fun s Q => ?_) (by omega), fun q => ?_⟩
      · constructor
        · rintro (w | ⟨r', a, b, c⟩)
          · exact Or.inl w
          · exact Or.inr ⟨r', by omega, b, c⟩
        · rintro (w | ⟨r', a, b, c⟩)
          · exact Or.inl w
          · refine Or.inr ⟨r', ?_, b, c⟩
            by_cases e : r' = r
            · subst e; exact absurd b q
            · omega
      · obtain ⟨f1, f2, f3⟩ := fst_it (show r < vR v by omega)
        have hop : opS v i (4 + r) (vcl v (vfst v r), cD v (vcl v i)) := ⟨r, by omega, q, rfl, rfl⟩
        obtain ⟨tq, hq, hql⟩ := plA_of (op_pl' hw hwc hi hop).1
        refine ⟨by omega, by omega, ?_⟩
        rw [cI_n (c := vcl v i) (by omega)]
        refine placeOf_C hM hls (by omega) f2 (by omega) hq ?_
        simp (disch := omega) only [k_X7_openFrom_0, k_X7_openFrom_3, k_X7_openFrom_58, w_RIII, w_RRII, x_aload, x_getF, x_getI, x_iadd, x_iald, x_icmp_ge, x_icmp_ne, x_iinc, x_iload, x_istore, x_push, x_vret, y_cv3, y_getF, y_iald, xFT, xbool0, xbool1, Nat.reduceAdd, Nat.zero_add, xgl_0, xgl_s, xgl_n, xst_0, xst_1n, xst_1i, xst_1r, xst_1l, xst_s, set_0, set_s, true_and, and_true, xres, xcat_nil, xcat_i, xcat_r, xcat_l, Nat.add_zero, xble0, xble1, xble2, xble3, xble4, xble5, xble6, xble7, xble8, pk_mul, nI_add, nI_1, nI_leI, nI_ltI, nI_eq, n_in, n_cl, z_eq, z_lt, z_le, z_gt, z_ge, z_qe, o_eq, o_lt, o_le, o_gt, o_ge, vp0, vp1, cl0, cl1, n_sub, n_sub1, n_pm1, n_a0, n_0a, ofn, lN0, Nat.reduceLT, Nat.reduceLeDiff, Nat.reduceMul, Nat.reduceSub, Nat.reduceEqDiff, ne_eq, true_implies, false_implies, not_true_eq_false, not_false_eq_true, and_self, and_true, true_and, and_false, false_and, implies_true, if_true, if_false, i00, i10, i01, i11, ob_0, ob_1, tn_2, ln_2, ob_3, tn_4, ln_4, ob_5, tn_6, ln_6, tn_7, ln_7, ob_8, tn_9, ln_9, tn_10, ln_10, tn_11, ln_11, tn_12, ln_12, tn_13, ln_13, tn_14, ln_14, tn_15, ln_15, tn_16, ln_16, tn_17, ln_17, ob_18, tn_19, ln_19, tn_20, ln_20, tn_21, ln_21, tn_22, ln_22, tn_23, ln_23, tn_24, ln_24, tn_25, ln_25, tn_26, ln_26, tn_27, ln_27, ob_28, tn_29, ln_29, tn_30, ln_30, ob_31, tn_32, ln_32, tn_33, ln_33, ob_34, ob_35, tn_36, ln_36, tn_37, ln_37, tn_38, ln_38, ob_39, tn_40, ln_40, tn_41, ln_41, tn_42, ln_42, tn_43, ln_43, tn_44, ln_44, tn_45, ln_45, tn_46, ln_46, tn_47, ln_47, tn_48, ln_48, tn_49, ln_49, tn_50, ln_50, tn_51, ln_51, ob_52, tn_53, ln_53, tn_54, ln_54, tn_55, ln_55, tn_56, ln_56, ob_57, tn_58, ln_58, tn_59, ln_59, tn_60, ln_60, tn_61, ln_61, tn_62, ln_62, tn_63, ln_63, tn_64, ln_64, tn_65, ln_65, ob_66, tn_67, ln_67, tn_68, ln_68, tn_69, ln_69, tn_70, ln_70, tn_71, ln_71, tn_72, ln_72, tn_73, ln_73, ob_74, tn_75, ln_75, tn_76, ln_76, tn_77, ln_77, tn_78, ln_78, tn_79, ln_79, tn_80, ln_80, tn_81, ln_81, tn_82, ln_82, tn_83, ln_83, ob_84, tn_85, ln_85, tn_86, ln_86, tn_87, ln_87, tn_88, ln_88, tn_89, ln_89, tn_90, ln_90, tn_91, ln_91, tn_92, ln_92, tn_93, ln_93, ob_94, tn_95, ln_95, tn_96, ln_96, tn_97, ln_97, tn_98, ln_98, tn_99, ln_99, tn_100, ln_100, tn_101, ln_101, tn_102, ln_102, tn_103, ln_103, ob_104, tn_105, ln_105, tn_106, ln_106, tn_107, ln_107, tn_108, ln_108, tn_109, ln_109, tn_110, ln_110, tn_111, ln_111, tn_112, ln_112, tn_113, ln_113, ob_114, tn_115, ln_115, tn_116, ln_116, tn_117, ln_117, tn_118, ln_118, tn_119, ln_119, tn_120, ln_120, tn_121, ln_121, tn_122, ln_122, tn_123, ln_123, ob_124, tn_125, ln_125, tn_126, ln_126, tn_127, ln_127, tn_128, ln_128, tn_129, ln_129, tn_130, ln_130, tn_131, ln_131, tn_132, ln_132, tn_133, ln_133, ob_134, tn_135, ln_135, tn_136, ln_136, tn_137, ln_137, tn_138, ln_138, tn_139, ln_139, tn_140, ln_140, tn_141, ln_141, tn_142, ln_142, tn_143, ln_143, ob_144, tn_145, ln_145, tn_146, ln_146, tn_147, ln_147, tn_148, ln_148, tn_149, ln_149, tn_150, ln_150, tn_151, ln_151, tn_152, ln_152, tn_153, ln_153, ob_154, tn_155, ln_155, tn_156, ln_156, tn_157, ln_157, tn_158, ln_158, tn_159, ln_159, tn_160, ln_160, tn_161, ln_161, tn_162, ln_162, tn_163, ln_163, ob_164, tn_165, ln_165, tn_166, ln_166, ob_167, tn_168, ln_168, tn_169, ln_169, tn_170, ln_170, tn_171, ln_171, tn_172, ln_172, tn_173, ln_173, tn_174, ln_174, tn_175, ln_175, tn_176, ln_176, ob_177, tn_178, ln_178, tn_179, ln_179, ob_180, tn_181, ln_181, tn_182, ln_182, tn_183, ln_183, tn_184, ln_184, tn_185, ln_185, tn_186, ln_186, tn_187, ln_187, tn_188, ln_188, tn_189, ln_189, tn_190, ln_190, tn_191, ln_191, tn_192, ln_192, tn_193, ln_193, tn_194, ln_194, tn_195, ln_195, tn_196, ln_196, tn_197, ln_197, tn_198, ln_198, tn_199, ln_199, tn_200, ln_200, tn_201, ln_201, tn_202, ln_202, tn_203, ln_203, tn_204, ln_204, tn_205, ln_205, tn_206, ln_206, tn_207, ln_207, tn_208, ln_208, tn_209, ln_209, tn_210, ln_210, tn_211, ln_211, tn_212, ln_212, tn_213, ln_213, tn_214, ln_214, tn_215, ln_215, tn_216, ln_216, tn_217, ln_217, tn_218, ln_218, tn_219, ln_219, tn_220, ln_220, tn_221, ln_221, tn_222, ln_222, tn_223, ln_223, tn_224, ln_224, tn_225, ln_225, tn_226, ln_226, tn_227, ln_227, tn_228, ln_228, tn_229, ln_229, tn_230, ln_230, lx2, lx3, lx4, lx5, lx6, lx7, lx8, lx9, lx10, lx14, lx15, lx16, lx18, lx20, lx24, lx25, lx27, lx32, lx36, lx40, lx41, lx42, lx43, lx45, lx48, lx52, lx54, lx56, lx57, lx58, lx60, lx61, lx62, lx63, lx64, lx66, lx69, lx73, lx80, lx81, lx84, lx85, lx87, lx94, lx96, lx97, lx120, lx128, lx135, lx160, lx162, lx163, lx165, lx200, lx232, lx242, lx243, lx255, lx256, lx320, lx325, lx400, lx405, lx464, lx512, lx600, lx640, lx752, lx900, lx940, lx1000, lx1024, lx1764, lx3360, lx3840, lx5000, lx6400, lx9050, lx9998, lx9999, lx10000, lx25600, lx76800, lx99999]
        refine step_C hm hb0 hp (by omega) hq fun C hC bC => ?_
        simp (disch := omega) only [k_X7_openFrom_0, k_X7_openFrom_3, k_X7_openFrom_58, w_RIII, w_RRII, x_aload, x_getF, x_getI, x_iadd, x_iald, x_icmp_ge, x_icmp_ne, x_iinc, x_iload, x_istore, x_push, x_vret, y_cv3, y_getF, y_iald, xFT, xbool0, xbool1, Nat.reduceAdd, Nat.zero_add, xgl_0, xgl_s, xgl_n, xst_0, xst_1n, xst_1i, xst_1r, xst_1l, xst_s, set_0, set_s, true_and, and_true, xres, xcat_nil, xcat_i, xcat_r, xcat_l, Nat.add_zero, xble0, xble1, xble2, xble3, xble4, xble5, xble6, xble7, xble8, pk_mul, nI_add, nI_1, nI_leI, nI_ltI, nI_eq, n_in, n_cl, z_eq, z_lt, z_le, z_gt, z_ge, z_qe, o_eq, o_lt, o_le, o_gt, o_ge, vp0, vp1, cl0, cl1, n_sub, n_sub1, n_pm1, n_a0, n_0a, ofn, lN0, Nat.reduceLT, Nat.reduceLeDiff, Nat.reduceMul, Nat.reduceSub, Nat.reduceEqDiff, ne_eq, true_implies, false_implies, not_true_eq_false, not_false_eq_true, and_self, and_true, true_and, and_false, false_and, implies_true, if_true, if_false, i00, i10, i01, i11, ob_0, ob_1, tn_2, ln_2, ob_3, tn_4, ln_4, ob_5, tn_6, ln_6, tn_7, ln_7, ob_8, tn_9, ln_9, tn_10, ln_10, tn_11, ln_11, tn_12, ln_12, tn_13, ln_13, tn_14, ln_14, tn_15, ln_15, tn_16, ln_16, tn_17, ln_17, ob_18, tn_19, ln_19, tn_20, ln_20, tn_21, ln_21, tn_22, ln_22, tn_23, ln_23, tn_24, ln_24, tn_25, ln_25, tn_26, ln_26, tn_27, ln_27, ob_28, tn_29, ln_29, tn_30, ln_30, ob_31, tn_32, ln_32, tn_33, ln_33, ob_34, ob_35, tn_36, ln_36, tn_37, ln_37, tn_38, ln_38, ob_39, tn_40, ln_40, tn_41, ln_41, tn_42, ln_42, tn_43, ln_43, tn_44, ln_44, tn_45, ln_45, tn_46, ln_46, tn_47, ln_47, tn_48, ln_48, tn_49, ln_49, tn_50, ln_50, tn_51, ln_51, ob_52, tn_53, ln_53, tn_54, ln_54, tn_55, ln_55, tn_56, ln_56, ob_57, tn_58, ln_58, tn_59, ln_59, tn_60, ln_60, tn_61, ln_61, tn_62, ln_62, tn_63, ln_63, tn_64, ln_64, tn_65, ln_65, ob_66, tn_67, ln_67, tn_68, ln_68, tn_69, ln_69, tn_70, ln_70, tn_71, ln_71, tn_72, ln_72, tn_73, ln_73, ob_74, tn_75, ln_75, tn_76, ln_76, tn_77, ln_77, tn_78, ln_78, tn_79, ln_79, tn_80, ln_80, tn_81, ln_81, tn_82, ln_82, tn_83, ln_83, ob_84, tn_85, ln_85, tn_86, ln_86, tn_87, ln_87, tn_88, ln_88, tn_89, ln_89, tn_90, ln_90, tn_91, ln_91, tn_92, ln_92, tn_93, ln_93, ob_94, tn_95, ln_95, tn_96, ln_96, tn_97, ln_97, tn_98, ln_98, tn_99, ln_99, tn_100, ln_100, tn_101, ln_101, tn_102, ln_102, tn_103, ln_103, ob_104, tn_105, ln_105, tn_106, ln_106, tn_107, ln_107, tn_108, ln_108, tn_109, ln_109, tn_110, ln_110, tn_111, ln_111, tn_112, ln_112, tn_113, ln_113, ob_114, tn_115, ln_115, tn_116, ln_116, tn_117, ln_117, tn_118, ln_118, tn_119, ln_119, tn_120, ln_120, tn_121, ln_121, tn_122, ln_122, tn_123, ln_123, ob_124, tn_125, ln_125, tn_126, ln_126, tn_127, ln_127, tn_128, ln_128, tn_129, ln_129, tn_130, ln_130, tn_131, ln_131, tn_132, ln_132, tn_133, ln_133, ob_134, tn_135, ln_135, tn_136, ln_136, tn_137, ln_137, tn_138, ln_138, tn_139, ln_139, tn_140, ln_140, tn_141, ln_141, tn_142, ln_142, tn_143, ln_143, ob_144, tn_145, ln_145, tn_146, ln_146, tn_147, ln_147, tn_148, ln_148, tn_149, ln_149, tn_150, ln_150, tn_151, ln_151, tn_152, ln_152, tn_153, ln_153, ob_154, tn_155, ln_155, tn_156, ln_156, tn_157, ln_157, tn_158, ln_158, tn_159, ln_159, tn_160, ln_160, tn_161, ln_161, tn_162, ln_162, tn_163, ln_163, ob_164, tn_165, ln_165, tn_166, ln_166, ob_167, tn_168, ln_168, tn_169, ln_169, tn_170, ln_170, tn_171, ln_171, tn_172, ln_172, tn_173, ln_173, tn_174, ln_174, tn_175, ln_175, tn_176, ln_176, ob_177, tn_178, ln_178, tn_179, ln_179, ob_180, tn_181, ln_181, tn_182, ln_182, tn_183, ln_183, tn_184, ln_184, tn_185, ln_185, tn_186, ln_186, tn_187, ln_187, tn_188, ln_188, tn_189, ln_189, tn_190, ln_190, tn_191, ln_191, tn_192, ln_192, tn_193, ln_193, tn_194, ln_194, tn_195, ln_195, tn_196, ln_196, tn_197, ln_197, tn_198, ln_198, tn_199, ln_199, tn_200, ln_200, tn_201, ln_201, tn_202, ln_202, tn_203, ln_203, tn_204, ln_204, tn_205, ln_205, tn_206, ln_206, tn_207, ln_207, tn_208, ln_208, tn_209, ln_209, tn_210, ln_210, tn_211, ln_211, tn_212, ln_212, tn_213, ln_213, tn_214, ln_214, tn_215, ln_215, tn_216, ln_216, tn_217, ln_217, tn_218, ln_218, tn_219, ln_219, tn_220, ln_220, tn_221, ln_221, tn_222, ln_222, tn_223, ln_223, tn_224, ln_224, tn_225, ln_225, tn_226, ln_226, tn_227, ln_227, tn_228, ln_228, tn_229, ln_229, tn_230, ln_230, lx2, lx3, lx4, lx5, lx6, lx7, lx8, lx9, lx10, lx14, lx15, lx16, lx18, lx20, lx24, lx25, lx27, lx32, lx36, lx40, lx41, lx42, lx43, lx45, lx48, lx52, lx54, lx56, lx57, lx58, lx60, lx61, lx62, lx63, lx64, lx66, lx69, lx73, lx80, lx81, lx84, lx85, lx87, lx94, lx96, lx97, lx120, lx128, lx135, lx160, lx162, lx163, lx165, lx200, lx232, lx242, lx243, lx255, lx256, lx320, lx325, lx400, lx405, lx464, lx512, lx600, lx640, lx752, lx900, lx940, lx1000, lx1024, lx1764, lx3360, lx3840, lx5000, lx6400, lx9050, lx9998, lx9999, lx10000, lx25600, lx76800, lx99999]
        refine nxt C hC (adP_congr bC fun s Q => ?_) (by omega)
        constructor
        · rintro ((w | ⟨r', a, b, c⟩) | ⟨w1, w2⟩)
          · exact Or.inl w
          · exact Or.inr ⟨r', by omega, b, c⟩
          · exact Or.inr ⟨r, by omega, q, w1, w2⟩
        · rintro (w | ⟨r', a, b, c1, c2⟩)
          · exact Or.inl (Or.inl w)
          · by_cases e : r' = r
            · subst e; exact Or.inr ⟨c1, c2⟩
            · exact Or.inl (Or.inr ⟨r', by omega, b, c1, c2⟩)
def toN (v : xV) (j n : Nat) (Q : Nat × Nat) : Prop := ∃ c, c < n ∧ caK v c j ∧ Q = (vcl v (j + 1), c)
def f_X7_closeTo (q m : Nat) (x y z : Int32) (A : xH) (P : xP) : Prop := q = 39 ∧ mod2 m ∧ ∃ (v : xV) (T : Nat → Nat → Nat → Prop) (p : Nat) (R : Nat → Nat × Nat → Prop) (s j : Nat), bd A m v (adP v T p R) ∧ x = nI p ∧ y = nI s ∧ z = nI j ∧ p < (plL v).length ∧ s < 24 ∧ vD v ≠ 0 ∧ 2 ≤ j ∧ j < vN v ∧ vnx v j ≠ 15 ∧ ∀ B, fr SSp A B → bd B m v (adP v T p (fun s' Q => R s' Q ∨ (s' = s ∧ toS v j Q))) → P none B
def ct3 (m : Nat) (A : xH) (P : xP) : xM → xK := fun μ L st B => ∃ (v : xV) (T : Nat → Nat → Nat → Prop) (p : Nat) (R : Nat → Nat × Nat → Prop) (s j c : Nat), mod2 m ∧ p < (plL v).length ∧ s < 24 ∧ vD v ≠ 0 ∧ 2 ≤ j ∧ j < vN v ∧ vnx v j ≠ 15 ∧ (∀ B, fr SSp A B → bd B m v (adP v T p (fun s' Q => R s' Q ∨ (s' = s ∧ toS v j Q))) → P none B) ∧ fr SSp A B ∧ c ≤ vN v ∧ bd B m v (adP v T p (fun s' Q => R s' Q ∨ (s' = s ∧ toN v j c Q))) ∧ st = [] ∧ L = [some (.ref 39), some (.ref m), some (.int (nI p)), some (.int (nI s)), some (.int (nI j)), some (.int (nI c))] ∧ μ = (vN v - c, 0, 0)
set_option maxRecDepth 20000 in
theorem con_X7_closeTo (l : Launch) : xCon l yX7_closeTo cX7_closeTo 6 none 1 24 xN xN 0 xFT xFT (w_RRIII f_X7_closeTo) := by
  refine m_X7_closeTo (I3 := fun q m x y z A P => ct3 m A P) ?_ ?_
  · rintro q m x y z A P ⟨rfl, hm, v, T, p, R, s, j, hb, rfl, rfl, rfl, hp, hs, hD, h2, hj, hx, hP⟩
    simp (disch := omega) only [k_X7_closeTo_0, k_X7_closeTo_3, k_X7_closeTo_50, f_X7_addStep, f_X7_placeOf, w_RIII, w_RRII, x_aload, x_getI, x_iadd, x_iand, x_icmp_ge, x_icmp_ne, x_iinc, x_iload, x_ishr, x_istore, x_push, x_vret, y_cv3, y_getF, y_iald, xFT, xbool0, xbool1, Nat.reduceAdd, Nat.zero_add, xgl_0, xgl_s, xgl_n, xst_0, xst_1n, xst_1i, xst_1r, xst_1l, xst_s, set_0, set_s, true_and, and_true, xres, xcat_nil, xcat_i, xcat_r, xcat_l, Nat.add_zero, xble0, xble1, xble2, xble3, xble4, xble5, xble6, xble7, xble8, pk_mul, nI_add, nI_1, nI_leI, nI_ltI, nI_eq, n_in, n_cl, z_eq, z_lt, z_le, z_gt, z_ge, z_qe, o_eq, o_lt, o_le, o_gt, o_ge, vp0, vp1, cl0, cl1, n_sub, n_sub1, n_pm1, n_a0, n_0a, ofn, lN0, Nat.reduceLT, Nat.reduceLeDiff, Nat.reduceMul, Nat.reduceSub, Nat.reduceEqDiff, ne_eq, true_implies, false_implies, not_true_eq_false, not_false_eq_true, and_self, and_true, true_and, and_false, false_and, implies_true, if_true, if_false, i00, i10, i01, i11, ob_0, ob_1, tn_2, ln_2, ob_3, tn_4, ln_4, ob_5, tn_6, ln_6, tn_7, ln_7, ob_8, tn_9, ln_9, tn_10, ln_10, tn_11, ln_11, tn_12, ln_12, tn_13, ln_13, tn_14, ln_14, tn_15, ln_15, tn_16, ln_16, tn_17, ln_17, ob_18, tn_19, ln_19, tn_20, ln_20, tn_21, ln_21, tn_22, ln_22, tn_23, ln_23, tn_24, ln_24, tn_25, ln_25, tn_26, ln_26, tn_27, ln_27, ob_28, tn_29, ln_29, tn_30, ln_30, ob_31, tn_32, ln_32, tn_33, ln_33, ob_34, ob_35, tn_36, ln_36, tn_37, ln_37, tn_38, ln_38, ob_39, tn_40, ln_40, tn_41, ln_41, tn_42, ln_42, tn_43, ln_43, tn_44, ln_44, tn_45, ln_45, tn_46, ln_46, tn_47, ln_47, tn_48, ln_48, tn_49, ln_49, tn_50, ln_50, tn_51, ln_51, ob_52, tn_53, ln_53, tn_54, ln_54, tn_55, ln_55, tn_56, ln_56, ob_57, tn_58, ln_58, tn_59, ln_59, tn_60, ln_60, tn_61, ln_61, tn_62, ln_62, tn_63, ln_63, tn_64, ln_64, tn_65, ln_65, ob_66, tn_67, ln_67, tn_68, ln_68, tn_69, ln_69, tn_70, ln_70, tn_71, ln_71, tn_72, ln_72, tn_73, ln_73, ob_74, tn_75, ln_75, tn_76, ln_76, tn_77, ln_77, tn_78, ln_78, tn_79, ln_79, tn_80, ln_80, tn_81, ln_81, tn_82, ln_82, tn_83, ln_83, ob_84, tn_85, ln_85, tn_86, ln_86, tn_87, ln_87, tn_88, ln_88, tn_89, ln_89, tn_90, ln_90, tn_91, ln_91, tn_92, ln_92, tn_93, ln_93, ob_94, tn_95, ln_95, tn_96, ln_96, tn_97, ln_97, tn_98, ln_98, tn_99, ln_99, tn_100, ln_100, tn_101, ln_101, tn_102, ln_102, tn_103, ln_103, ob_104, tn_105, ln_105, tn_106, ln_106, tn_107, ln_107, tn_108, ln_108, tn_109, ln_109, tn_110, ln_110, tn_111, ln_111, tn_112, ln_112, tn_113, ln_113, ob_114, tn_115, ln_115, tn_116, ln_116, tn_117, ln_117, tn_118, ln_118, tn_119, ln_119, tn_120, ln_120, tn_121, ln_121, tn_122, ln_122, tn_123, ln_123, ob_124, tn_125, ln_125, tn_126, ln_126, tn_127, ln_127, tn_128, ln_128, tn_129, ln_129, tn_130, ln_130, tn_131, ln_131, tn_132, ln_132, tn_133, ln_133, ob_134, tn_135, ln_135, tn_136, ln_136, tn_137, ln_137, tn_138, ln_138, tn_139, ln_139, tn_140, ln_140, tn_141, ln_141, tn_142, ln_142, tn_143, ln_143, ob_144, tn_145, ln_145, tn_146, ln_146, tn_147, ln_147, tn_148, ln_148, tn_149, ln_149, tn_150, ln_150, tn_151, ln_151, tn_152, ln_152, tn_153, ln_153, ob_154, tn_155, ln_155, tn_156, ln_156, tn_157, ln_157, tn_158, ln_158, tn_159, ln_159, tn_160, ln_160, tn_161, ln_161, tn_162, ln_162, tn_163, ln_163, ob_164, tn_165, ln_165, tn_166, ln_166, ob_167, tn_168, ln_168, tn_169, ln_169, tn_170, ln_170, tn_171, ln_171, tn_172, ln_172, tn_173, ln_173, tn_174, ln_174, tn_175, ln_175, tn_176, ln_176, ob_177, tn_178, ln_178, tn_179, ln_179, ob_180, tn_181, ln_181, tn_182, ln_182, tn_183, ln_183, tn_184, ln_184, tn_185, ln_185, tn_186, ln_186, tn_187, ln_187, tn_188, ln_188, tn_189, ln_189, tn_190, ln_190, tn_191, ln_191, tn_192, ln_192, tn_193, ln_193, tn_194, ln_194, tn_195, ln_195, tn_196, ln_196, tn_197, ln_197, tn_198, ln_198, tn_199, ln_199, tn_200, ln_200, tn_201, ln_201, tn_202, ln_202, tn_203, ln_203, tn_204, ln_204, tn_205, ln_205, tn_206, ln_206, tn_207, ln_207, tn_208, ln_208, tn_209, ln_209, tn_210, ln_210, tn_211, ln_211, tn_212, ln_212, tn_213, ln_213, tn_214, ln_214, tn_215, ln_215, tn_216, ln_216, tn_217, ln_217, tn_218, ln_218, tn_219, ln_219, tn_220, ln_220, tn_221, ln_221, tn_222, ln_222, tn_223, ln_223, tn_224, ln_224, tn_225, ln_225, tn_226, ln_226, tn_227, ln_227, tn_228, ln_228, tn_229, ln_229, tn_230, ln_230, lx2, lx3, lx4, lx5, lx6, lx7, lx8, lx9, lx10, lx14, lx15, lx16, lx18, lx20, lx24, lx25, lx27, lx32, lx36, lx40, lx41, lx42, lx43, lx45, lx48, lx52, lx54, lx56, lx57, lx58, lx60, lx61, lx62, lx63, lx64, lx66, lx69, lx73, lx80, lx81, lx84, lx85, lx87, lx94, lx96, lx97, lx120, lx128, lx135, lx160, lx162, lx163, lx165, lx200, lx232, lx242, lx243, lx255, lx256, lx320, lx325, lx400, lx405, lx464, lx512, lx600, lx640, lx752, lx900, lx940, lx1000, lx1024, lx1764, lx3360, lx3840, lx5000, lx6400, lx9050, lx9998, lx9999, lx10000, lx25600, lx76800, lx99999]
    refine xE0 (vN v - 0, 0, 0) ⟨v, T, p, R, s, j, 0, hm, hp, hs, hD, h2, hj, hx, hP, fr_rf, Nat.zero_le _, adP_congr hb fun s' Q => ?_, rfl, rfl, rfl⟩
    constructor
    · exact Or.inl
    · rintro (w | ⟨-, r, h, -⟩)
      · exact w
      · exact absurd h (Nat.not_lt_zero r)
  · rintro q m x y z A P - μ L st B ⟨v, T, p, R, s, j, c, hm, hp, hs, hD, h2, hj, hx, hP, hF, hc, hb, rfl, rfl, rfl⟩
    have hb0 := hb
    obtain ⟨hM, hl, hls, h80, hT⟩ := hb
    have hw := hM.1.2.1
    have hwc := hM.2.1
    have hN := vN_le hw
    obtain ⟨ob, -⟩ := hM.1.1
    have e3 : xi B m 3 = nI (vN v) := hM.2.2.1.1
    obtain ⟨a1, a2, a3⟩ := vri_sp h2 hj
    have hk := (hw.2.2.2.2 _ a1).1
    have hk5 := hw.2.1
    have e49 : xi B 49 j = nI (vrk v (vri v j)) := by
      rw [(hl.1 j hj).2]; exact if_neg (by omega)
    obtain ⟨q1, q2⟩ := it_nx h2 hj hx
    have nxt : ∀ C, fr SSp B C → bd C m v (adP v T p (fun s' Q => R s' Q ∨ (s' = s ∧ toN v j (c + 1) Q))) → c < vN v → xB (ct3 m A P) (vN v - c, 0, 0) [some (.ref 39), some (.ref m), some (.int (nI p)), some (.int (nI s)), some (.int (nI j)), some (.int (nI (c + 1)))] [] C := fun C hC bC q =>
      xB1 (b := vN v - (c + 1)) (by omega) ⟨v, T, p, R, s, j, c + 1, hm, hp, hs, hD, h2, hj, hx, hP, fr_tr hF hC, by omega, bC, rfl, rfl, rfl⟩
    simp (disch := omega) only [k_X7_closeTo_0, k_X7_closeTo_3, k_X7_closeTo_50, w_RIII, w_RRII, x_aload, x_getI, x_iadd, x_iand, x_icmp_ge, x_icmp_ne, x_iinc, x_iload, x_ishr, x_istore, x_push, x_vret, y_cv3, y_getF, y_iald, xFT, xbool0, xbool1, Nat.reduceAdd, Nat.zero_add, xgl_0, xgl_s, xgl_n, xst_0, xst_1n, xst_1i, xst_1r, xst_1l, xst_s, set_0, set_s, true_and, and_true, xres, xcat_nil, xcat_i, xcat_r, xcat_l, Nat.add_zero, xble0, xble1, xble2, xble3, xble4, xble5, xble6, xble7, xble8, pk_mul, nI_add, nI_1, nI_leI, nI_ltI, nI_eq, n_in, n_cl, z_eq, z_lt, z_le, z_gt, z_ge, z_qe, o_eq, o_lt, o_le, o_gt, o_ge, vp0, vp1, cl0, cl1, n_sub, n_sub1, n_pm1, n_a0, n_0a, ofn, lN0, Nat.reduceLT, Nat.reduceLeDiff, Nat.reduceMul, Nat.reduceSub, Nat.reduceEqDiff, ne_eq, true_implies, false_implies, not_true_eq_false, not_false_eq_true, and_self, and_true, true_and, and_false, false_and, implies_true, if_true, if_false, i00, i10, i01, i11, ob_0, ob_1, tn_2, ln_2, ob_3, tn_4, ln_4, ob_5, tn_6, ln_6, tn_7, ln_7, ob_8, tn_9, ln_9, tn_10, ln_10, tn_11, ln_11, tn_12, ln_12, tn_13, ln_13, tn_14, ln_14, tn_15, ln_15, tn_16, ln_16, tn_17, ln_17, ob_18, tn_19, ln_19, tn_20, ln_20, tn_21, ln_21, tn_22, ln_22, tn_23, ln_23, tn_24, ln_24, tn_25, ln_25, tn_26, ln_26, tn_27, ln_27, ob_28, tn_29, ln_29, tn_30, ln_30, ob_31, tn_32, ln_32, tn_33, ln_33, ob_34, ob_35, tn_36, ln_36, tn_37, ln_37, tn_38, ln_38, ob_39, tn_40, ln_40, tn_41, ln_41, tn_42, ln_42, tn_43, ln_43, tn_44, ln_44, tn_45, ln_45, tn_46, ln_46, tn_47, ln_47, tn_48, ln_48, tn_49, ln_49, tn_50, ln_50, tn_51, ln_51, ob_52, tn_53, ln_53, tn_54, ln_54, tn_55, ln_55, tn_56, ln_56, ob_57, tn_58, ln_58, tn_59, ln_59, tn_60, ln_60, tn_61, ln_61, tn_62, ln_62, tn_63, ln_63, tn_64, ln_64, tn_65, ln_65, ob_66, tn_67, ln_67, tn_68, ln_68, tn_69, ln_69, tn_70, ln_70, tn_71, ln_71, tn_72, ln_72, tn_73, ln_73, ob_74, tn_75, ln_75, tn_76, ln_76, tn_77, ln_77, tn_78, ln_78, tn_79, ln_79, tn_80, ln_80, tn_81, ln_81, tn_82, ln_82, tn_83, ln_83, ob_84, tn_85, ln_85, tn_86, ln_86, tn_87, ln_87, tn_88, ln_88, tn_89, ln_89, tn_90, ln_90, tn_91, ln_91, tn_92, ln_92, tn_93, ln_93, ob_94, tn_95, ln_95, tn_96, ln_96, tn_97, ln_97, tn_98, ln_98, tn_99, ln_99, tn_100, ln_100, tn_101, ln_101, tn_102, ln_102, tn_103, ln_103, ob_104, tn_105, ln_105, tn_106, ln_106, tn_107, ln_107, tn_108, ln_108, tn_109, ln_109, tn_110, ln_110, tn_111, ln_111, tn_112, ln_112, tn_113, ln_113, ob_114, tn_115, ln_115, tn_116, ln_116, tn_117, ln_117, tn_118, ln_118, tn_119, ln_119, tn_120, ln_120, tn_121, ln_121, tn_122, ln_122, tn_123, ln_123, ob_124, tn_125, ln_125, tn_126, ln_126, tn_127, ln_127, tn_128, ln_128, tn_129, ln_129, tn_130, ln_130, tn_131, ln_131, tn_132, ln_132, tn_133, ln_133, ob_134, tn_135, ln_135, tn_136, ln_136, tn_137, ln_137, tn_138, ln_138, tn_139, ln_139, tn_140, ln_140, tn_141, ln_141, tn_142, ln_142, tn_143, ln_143, ob_144, tn_145, ln_145, tn_146, ln_146, tn_147, ln_147, tn_148, ln_148, tn_149, ln_149, tn_150, ln_150, tn_151, ln_151, tn_152, ln_152, tn_153, ln_153, ob_154, tn_155, ln_155, tn_156, ln_156, tn_157, ln_157, tn_158, ln_158, tn_159, ln_159, tn_160, ln_160, tn_161, ln_161, tn_162, ln_162, tn_163, ln_163, ob_164, tn_165, ln_165, tn_166, ln_166, ob_167, tn_168, ln_168, tn_169, ln_169, tn_170, ln_170, tn_171, ln_171, tn_172, ln_172, tn_173, ln_173, tn_174, ln_174, tn_175, ln_175, tn_176, ln_176, ob_177, tn_178, ln_178, tn_179, ln_179, ob_180, tn_181, ln_181, tn_182, ln_182, tn_183, ln_183, tn_184, ln_184, tn_185, ln_185, tn_186, ln_186, tn_187, ln_187, tn_188, ln_188, tn_189, ln_189, tn_190, ln_190, tn_191, ln_191, tn_192, ln_192, tn_193, ln_193, tn_194, ln_194, tn_195, ln_195, tn_196, ln_196, tn_197, ln_197, tn_198, ln_198, tn_199, ln_199, tn_200, ln_200, tn_201, ln_201, tn_202, ln_202, tn_203, ln_203, tn_204, ln_204, tn_205, ln_205, tn_206, ln_206, tn_207, ln_207, tn_208, ln_208, tn_209, ln_209, tn_210, ln_210, tn_211, ln_211, tn_212, ln_212, tn_213, ln_213, tn_214, ln_214, tn_215, ln_215, tn_216, ln_216, tn_217, ln_217, tn_218, ln_218, tn_219, ln_219, tn_220, ln_220, tn_221, ln_221, tn_222, ln_222, tn_223, ln_223, tn_224, ln_224, tn_225, ln_225, tn_226, ln_226, tn_227, ln_227, tn_228, ln_228, tn_229, ln_229, tn_230, ln_230, lx2, lx3, lx4, lx5, lx6, lx7, lx8, lx9, lx10, lx14, lx15, lx16, lx18, lx20, lx24, lx25, lx27, lx32, lx36, lx40, lx41, lx42, lx43, lx45, lx48, lx52, lx54, lx56, lx57, lx58, lx60, lx61, lx62, lx63, lx64, lx66, lx69, lx73, lx80, lx81, lx84, lx85, lx87, lx94, lx96, lx97, lx120, lx128, lx135, lx160, lx162, lx163, lx165, lx200, lx232, lx242, lx243, lx255, lx256, lx320, lx325, lx400, lx405, lx464, lx512, lx600, lx640, lx752, lx900, lx940, lx1000, lx1024, lx1764, lx3360, lx3840, lx5000, lx6400, lx9050, lx9998, lx9999, lx10000, lx25600, lx76800, lx99999, ob, e3, e49, tst_and]
    refine ⟨fun z => ?_, fun z => ⟨by omega, by omega, fun q => ?_, fun q => ?_⟩⟩
    · have : c = vN v := by omega
      subst this; exact hP B hF hb0
    · rw [show (1 : Int32) = bI true from rfl, bI_e] at q
      refine nxt B fr_rf (adP_congr hb0 fun s' Q => ?_) (by omega)
      have hno : ¬ caK v c j := fun w => q (by rw [(hl.2 c (by omega)).2 _ (by omega)]; exact (caK_cl (by omega)).mp w)
      constructor
      · rintro (w | ⟨w0, c', a, b, d⟩)
        · exact Or.inl w
        · exact Or.inr ⟨w0, c', by omega, b, d⟩
      · rintro (w | ⟨w0, c', a, b, d⟩)
        · exact Or.inl w
        · refine Or.inr ⟨w0, c', ?_, b, d⟩
          by_cases e : c' = c
          · subst e; exact absurd b hno
          · omega
    · rw [show (1 : Int32) = bI true from rfl, bI_e] at q
      have hca : caK v c j := (caK_cl (by omega)).mpr (by rw [← (hl.2 c (by omega)).2 _ (by omega)]; exact q)
      have hto : toS v j (vcl v (j + 1), c) := ⟨c, by omega, hca, rfl⟩
      have hcD : cD v c = c := if_neg hD
      obtain ⟨tq, hq, hql⟩ := plA_of (to_pl hw hwc hD h2 hj hx hto)
      rw [cI_n (c := c) (by omega)]
      refine placeOf_C (q := tq) hM hls (by omega) q1 (by omega) (by rw [hcD]; exact hq) ?_
      simp (disch := omega) only [k_X7_closeTo_0, k_X7_closeTo_3, k_X7_closeTo_50, w_RIII, w_RRII, x_aload, x_getI, x_iadd, x_iand, x_icmp_ge, x_icmp_ne, x_iinc, x_iload, x_ishr, x_istore, x_push, x_vret, y_cv3, y_getF, y_iald, xFT, xbool0, xbool1, Nat.reduceAdd, Nat.zero_add, xgl_0, xgl_s, xgl_n, xst_0, xst_1n, xst_1i, xst_1r, xst_1l, xst_s, set_0, set_s, true_and, and_true, xres, xcat_nil, xcat_i, xcat_r, xcat_l, Nat.add_zero, xble0, xble1, xble2, xble3, xble4, xble5, xble6, xble7, xble8, pk_mul, nI_add, nI_1, nI_leI, nI_ltI, nI_eq, n_in, n_cl, z_eq, z_lt, z_le, z_gt, z_ge, z_qe, o_eq, o_lt, o_le, o_gt, o_ge, vp0, vp1, cl0, cl1, n_sub, n_sub1, n_pm1, n_a0, n_0a, ofn, lN0, Nat.reduceLT, Nat.reduceLeDiff, Nat.reduceMul, Nat.reduceSub, Nat.reduceEqDiff, ne_eq, true_implies, false_implies, not_true_eq_false, not_false_eq_true, and_self, and_true, true_and, and_false, false_and, implies_true, if_true, if_false, i00, i10, i01, i11, ob_0, ob_1, tn_2, ln_2, ob_3, tn_4, ln_4, ob_5, tn_6, ln_6, tn_7, ln_7, ob_8, tn_9, ln_9, tn_10, ln_10, tn_11, ln_11, tn_12, ln_12, tn_13, ln_13, tn_14, ln_14, tn_15, ln_15, tn_16, ln_16, tn_17, ln_17, ob_18, tn_19, ln_19, tn_20, ln_20, tn_21, ln_21, tn_22, ln_22, tn_23, ln_23, tn_24, ln_24, tn_25, ln_25, tn_26, ln_26, tn_27, ln_27, ob_28, tn_29, ln_29, tn_30, ln_30, ob_31, tn_32, ln_32, tn_33, ln_33, ob_34, ob_35, tn_36, ln_36, tn_37, ln_37, tn_38, ln_38, ob_39, tn_40, ln_40, tn_41, ln_41, tn_42, ln_42, tn_43, ln_43, tn_44, ln_44, tn_45, ln_45, tn_46, ln_46, tn_47, ln_47, tn_48, ln_48, tn_49, ln_49, tn_50, ln_50, tn_51, ln_51, ob_52, tn_53, ln_53, tn_54, ln_54, tn_55, ln_55, tn_56, ln_56, ob_57, tn_58, ln_58, tn_59, ln_59, tn_60, ln_60, tn_61, ln_61, tn_62, ln_62, tn_63, ln_63, tn_64, ln_64, tn_65, ln_65, ob_66, tn_67, ln_67, tn_68, ln_68, tn_69, ln_69, tn_70, ln_70, tn_71, ln_71, tn_72, ln_72, tn_73, ln_73, ob_74, tn_75, ln_75, tn_76, ln_76, tn_77, ln_77, tn_78, ln_78, tn_79, ln_79, tn_80, ln_80, tn_81, ln_81, tn_82, ln_82, tn_83, ln_83, ob_84, tn_85, ln_85, tn_86, ln_86, tn_87, ln_87, tn_88, ln_88, tn_89, ln_89, tn_90, ln_90, tn_91, ln_91, tn_92, ln_92, tn_93, ln_93, ob_94, tn_95, ln_95, tn_96, ln_96, tn_97, ln_97, tn_98, ln_98, tn_99, ln_99, tn_100, ln_100, tn_101, ln_101, tn_102, ln_102, tn_103, ln_103, ob_104, tn_105, ln_105, tn_106, ln_106, tn_107, ln_107, tn_108, ln_108, tn_109, ln_109, tn_110, ln_110, tn_111, ln_111, tn_112, ln_112, tn_113, ln_113, ob_114, tn_115, ln_115, tn_116, ln_116, tn_117, ln_117, tn_118, ln_118, tn_119, ln_119, tn_120, ln_120, tn_121, ln_121, tn_122, ln_122, tn_123, ln_123, ob_124, tn_125, ln_125, tn_126, ln_126, tn_127, ln_127, tn_128, ln_128, tn_129, ln_129, tn_130, ln_130, tn_131, ln_131, tn_132, ln_132, tn_133, ln_133, ob_134, tn_135, ln_135, tn_136, ln_136, tn_137, ln_137, tn_138, ln_138, tn_139, ln_139, tn_140, ln_140, tn_141, ln_141, tn_142, ln_142, tn_143, ln_143, ob_144, tn_145, ln_145, tn_146, ln_146, tn_147, ln_147, tn_148, ln_148, tn_149, ln_149, tn_150, ln_150, tn_151, ln_151, tn_152, ln_152, tn_153, ln_153, ob_154, tn_155, ln_155, tn_156, ln_156, tn_157, ln_157, tn_158, ln_158, tn_159, ln_159, tn_160, ln_160, tn_161, ln_161, tn_162, ln_162, tn_163, ln_163, ob_164, tn_165, ln_165, tn_166, ln_166, ob_167, tn_168, ln_168, tn_169, ln_169, tn_170, ln_170, tn_171, ln_171, tn_172, ln_172, tn_173, ln_173, tn_174, ln_174, tn_175, ln_175, tn_176, ln_176, ob_177, tn_178, ln_178, tn_179, ln_179, ob_180, tn_181, ln_181, tn_182, ln_182, tn_183, ln_183, tn_184, ln_184, tn_185, ln_185, tn_186, ln_186, tn_187, ln_187, tn_188, ln_188, tn_189, ln_189, tn_190, ln_190, tn_191, ln_191, tn_192, ln_192, tn_193, ln_193, tn_194, ln_194, tn_195, ln_195, tn_196, ln_196, tn_197, ln_197, tn_198, ln_198, tn_199, ln_199, tn_200, ln_200, tn_201, ln_201, tn_202, ln_202, tn_203, ln_203, tn_204, ln_204, tn_205, ln_205, tn_206, ln_206, tn_207, ln_207, tn_208, ln_208, tn_209, ln_209, tn_210, ln_210, tn_211, ln_211, tn_212, ln_212, tn_213, ln_213, tn_214, ln_214, tn_215, ln_215, tn_216, ln_216, tn_217, ln_217, tn_218, ln_218, tn_219, ln_219, tn_220, ln_220, tn_221, ln_221, tn_222, ln_222, tn_223, ln_223, tn_224, ln_224, tn_225, ln_225, tn_226, ln_226, tn_227, ln_227, tn_228, ln_228, tn_229, ln_229, tn_230, ln_230, lx2, lx3, lx4, lx5, lx6, lx7, lx8, lx9, lx10, lx14, lx15, lx16, lx18, lx20, lx24, lx25, lx27, lx32, lx36, lx40, lx41, lx42, lx43, lx45, lx48, lx52, lx54, lx56, lx57, lx58, lx60, lx61, lx62, lx63, lx64, lx66, lx69, lx73, lx80, lx81, lx84, lx85, lx87, lx94, lx96, lx97, lx120, lx128, lx135, lx160, lx162, lx163, lx165, lx200, lx232, lx242, lx243, lx255, lx256, lx320, lx325, lx400, lx405, lx464, lx512, lx600, lx640, lx752, lx900, lx940, lx1000, lx1024, lx1764, lx3360, lx3840, lx5000, lx6400, lx9050, lx9998, lx9999, lx10000, lx25600, lx76800, lx99999]
      refine step_C hm hb0 hp hs hq fun C hC bC => ?_
      have ec : cI c + 1 = nI (c + 1) := by rw [← cI_n (c := c) (by omega), nI_1]
      simp (disch := omega) only [k_X7_closeTo_0, k_X7_closeTo_3, k_X7_closeTo_50, w_RIII, w_RRII, x_aload, x_getI, x_iadd, x_iand, x_icmp_ge, x_icmp_ne, x_iinc, x_iload, x_ishr, x_istore, x_push, x_vret, y_cv3, y_getF, y_iald, xFT, xbool0, xbool1, Nat.reduceAdd, Nat.zero_add, xgl_0, xgl_s, xgl_n, xst_0, xst_1n, xst_1i, xst_1r, xst_1l, xst_s, set_0, set_s, true_and, and_true, xres, xcat_nil, xcat_i, xcat_r, xcat_l, Nat.add_zero, xble0, xble1, xble2, xble3, xble4, xble5, xble6, xble7, xble8, pk_mul, nI_add, nI_1, nI_leI, nI_ltI, nI_eq, n_in, n_cl, z_eq, z_lt, z_le, z_gt, z_ge, z_qe, o_eq, o_lt, o_le, o_gt, o_ge, vp0, vp1, cl0, cl1, n_sub, n_sub1, n_pm1, n_a0, n_0a, ofn, lN0, Nat.reduceLT, Nat.reduceLeDiff, Nat.reduceMul, Nat.reduceSub, Nat.reduceEqDiff, ne_eq, true_implies, false_implies, not_true_eq_false, not_false_eq_true, and_self, and_true, true_and, and_false, false_and, implies_true, if_true, if_false, i00, i10, i01, i11, ob_0, ob_1, tn_2, ln_2, ob_3, tn_4, ln_4, ob_5, tn_6, ln_6, tn_7, ln_7, ob_8, tn_9, ln_9, tn_10, ln_10, tn_11, ln_11, tn_12, ln_12, tn_13, ln_13, tn_14, ln_14, tn_15, ln_15, tn_16, ln_16, tn_17, ln_17, ob_18, tn_19, ln_19, tn_20, ln_20, tn_21, ln_21, tn_22, ln_22, tn_23, ln_23, tn_24, ln_24, tn_25, ln_25, tn_26, ln_26, tn_27, ln_27, ob_28, tn_29, ln_29, tn_30, ln_30, ob_31, tn_32, ln_32, tn_33, ln_33, ob_34, ob_35, tn_36, ln_36, tn_37, ln_37, tn_38, ln_38, ob_39, tn_40, ln_40, tn_41, ln_41, tn_42, ln_42, tn_43, ln_43, tn_44, ln_44, tn_45, ln_45, tn_46, ln_46, tn_47, ln_47, tn_48, ln_48, tn_49, ln_49, tn_50, ln_50, tn_51, ln_51, ob_52, tn_53, ln_53, tn_54, ln_54, tn_55, ln_55, tn_56, ln_56, ob_57, tn_58, ln_58, tn_59, ln_59, tn_60, ln_60, tn_61, ln_61, tn_62, ln_62, tn_63, ln_63, tn_64, ln_64, tn_65, ln_65, ob_66, tn_67, ln_67, tn_68, ln_68, tn_69, ln_69, tn_70, ln_70, tn_71, ln_71, tn_72, ln_72, tn_73, ln_73, ob_74, tn_75, ln_75, tn_76, ln_76, tn_77, ln_77, tn_78, ln_78, tn_79, ln_79, tn_80, ln_80, tn_81, ln_81, tn_82, ln_82, tn_83, ln_83, ob_84, tn_85, ln_85, tn_86, ln_86, tn_87, ln_87, tn_88, ln_88, tn_89, ln_89, tn_90, ln_90, tn_91, ln_91, tn_92, ln_92, tn_93, ln_93, ob_94, tn_95, ln_95, tn_96, ln_96, tn_97, ln_97, tn_98, ln_98, tn_99, ln_99, tn_100, ln_100, tn_101, ln_101, tn_102, ln_102, tn_103, ln_103, ob_104, tn_105, ln_105, tn_106, ln_106, tn_107, ln_107, tn_108, ln_108, tn_109, ln_109, tn_110, ln_110, tn_111, ln_111, tn_112, ln_112, tn_113, ln_113, ob_114, tn_115, ln_115, tn_116, ln_116, tn_117, ln_117, tn_118, ln_118, tn_119, ln_119, tn_120, ln_120, tn_121, ln_121, tn_122, ln_122, tn_123, ln_123, ob_124, tn_125, ln_125, tn_126, ln_126, tn_127, ln_127, tn_128, ln_128, tn_129, ln_129, tn_130, ln_130, tn_131, ln_131, tn_132, ln_132, tn_133, ln_133, ob_134, tn_135, ln_135, tn_136, ln_136, tn_137, ln_137, tn_138, ln_138, tn_139, ln_139, tn_140, ln_140, tn_141, ln_141, tn_142, ln_142, tn_143, ln_143, ob_144, tn_145, ln_145, tn_146, ln_146, tn_147, ln_147, tn_148, ln_148, tn_149, ln_149, tn_150, ln_150, tn_151, ln_151, tn_152, ln_152, tn_153, ln_153, ob_154, tn_155, ln_155, tn_156, ln_156, tn_157, ln_157, tn_158, ln_158, tn_159, ln_159, tn_160, ln_160, tn_161, ln_161, tn_162, ln_162, tn_163, ln_163, ob_164, tn_165, ln_165, tn_166, ln_166, ob_167, tn_168, ln_168, tn_169, ln_169, tn_170, ln_170, tn_171, ln_171, tn_172, ln_172, tn_173, ln_173, tn_174, ln_174, tn_175, ln_175, tn_176, ln_176, ob_177, tn_178, ln_178, tn_179, ln_179, ob_180, tn_181, ln_181, tn_182, ln_182, tn_183, ln_183, tn_184, ln_184, tn_185, ln_185, tn_186, ln_186, tn_187, ln_187, tn_188, ln_188, tn_189, ln_189, tn_190, ln_190, tn_191, ln_191, tn_192, ln_192, tn_193, ln_193, tn_194, ln_194, tn_195, ln_195, tn_196, ln_196, tn_197, ln_197, tn_198, ln_198, tn_199, ln_199, tn_200, ln_200, tn_201, ln_201, tn_202, ln_202, tn_203, ln_203, tn_204, ln_204, tn_205, ln_205, tn_206, ln_206, tn_207, ln_207, tn_208, ln_208, tn_209, ln_209, tn_210, ln_210, tn_211, ln_211, tn_212, ln_212, tn_213, ln_213, tn_214, ln_214, tn_215, ln_215, tn_216, ln_216, tn_217, ln_217, tn_218, ln_218, tn_219, ln_219, tn_220, ln_220, tn_221, ln_221, tn_222, ln_222, tn_223, ln_223, tn_224, ln_224, tn_225, ln_225, tn_226, ln_226, tn_227, ln_227, tn_228, ln_228, tn_229, ln_229, tn_230, ln_230, lx2, lx3, lx4, lx5, lx6, lx7, lx8, lx9, lx10, lx14, lx15, lx16, lx18, lx20, lx24, lx25, lx27, lx32, lx36, lx40, lx41, lx42, lx43, lx45, lx48, lx52, lx54, lx56, lx57, lx58, lx60, lx61, lx62, lx63, lx64, lx66, lx69, lx73, lx80, lx81, lx84, lx85, lx87, lx94, lx96, lx97, lx120, lx128, lx135, lx160, lx162, lx163, lx165, lx200, lx232, lx242, lx243, lx255, lx256, lx320, lx325, lx400, lx405, lx464, lx512, lx600, lx640, lx752, lx900, lx940, lx1000, lx1024, lx1764, lx3360, lx3840, lx5000, lx6400, lx9050, lx9998, lx9999, lx10000, lx25600, lx76800, lx99999, ec]
      refine nxt C hC (adP_congr bC fun s' Q => ?_) (by omega)
      constructor
      · rintro ((w | ⟨w0, c', a, b, d⟩) | ⟨w1, w2⟩)
        · exact Or.inl w
        · exact Or.inr ⟨w0, c', by omega, b, d⟩
        · exact Or.inr ⟨w1, c, by omega, hca, w2⟩
      · rintro (w | ⟨w0, c', a, b, d⟩)
        · exact Or.inl (Or.inl w)
        · by_cases e : c' = c
          · subst e; exact Or.inr ⟨w0, d⟩
          · exact Or.inl (Or.inr ⟨w0, c', by omega, b, d⟩)

