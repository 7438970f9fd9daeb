theorem d_X9_isName_0 : decode cX9_isName 0 = .ok (.aload_n 0, 1) := by decide +kernel
theorem d_X9_isName_1 : decode cX9_isName 1 = .ok (.getfield 41, 3) := by decide +kernel
theorem d_X9_isName_4 : decode cX9_isName 4 = .ok (.iconst 1, 1) := by decide +kernel
theorem d_X9_isName_5 : decode cX9_isName 5 = .ok (.if_icmp .eq 5, 3) := by decide +kernel
theorem d_X9_isName_8 : decode cX9_isName 8 = .ok (.iconst 0, 1) := by decide +kernel
theorem d_X9_isName_9 : decode cX9_isName 9 = .ok (.ireturn, 1) := by decide +kernel
theorem d_X9_isName_10 : decode cX9_isName 10 = .ok (.iconst 0, 1) := by decide +kernel
theorem d_X9_isName_11 : decode cX9_isName 11 = .ok (.istore_n 1, 1) := by decide +kernel
theorem d_X9_isName_12 : decode cX9_isName 12 = .ok (.iload_n 1, 1) := by decide +kernel
theorem d_X9_isName_13 : decode cX9_isName 13 = .ok (.getstatic 48, 3) := by decide +kernel
theorem d_X9_isName_16 : decode cX9_isName 16 = .ok (.arraylength, 1) := by decide +kernel
theorem d_X9_isName_17 : decode cX9_isName 17 = .ok (.if_icmp .ge 24, 3) := by decide +kernel
theorem d_X9_isName_20 : decode cX9_isName 20 = .ok (.aload_n 0, 1) := by decide +kernel
theorem d_X9_isName_21 : decode cX9_isName 21 = .ok (.getfield 34, 3) := by decide +kernel
theorem d_X9_isName_24 : decode cX9_isName 24 = .ok (.getstatic 48, 3) := by decide +kernel
theorem d_X9_isName_27 : decode cX9_isName 27 = .ok (.iload_n 1, 1) := by decide +kernel
theorem d_X9_isName_28 : decode cX9_isName 28 = .ok (.laload, 1) := by decide +kernel
theorem d_X9_isName_29 : decode cX9_isName 29 = .ok (.lcmp, 1) := by decide +kernel
theorem d_X9_isName_30 : decode cX9_isName 30 = .ok (.ifCond .ne 5, 3) := by decide +kernel
theorem d_X9_isName_33 : decode cX9_isName 33 = .ok (.iconst 0, 1) := by decide +kernel
theorem d_X9_isName_34 : decode cX9_isName 34 = .ok (.ireturn, 1) := by decide +kernel
theorem d_X9_isName_35 : decode cX9_isName 35 = .ok (.iinc 1 1, 3) := by decide +kernel
theorem d_X9_isName_38 : decode cX9_isName 38 = .ok (.goto (-26), 3) := by decide +kernel
theorem d_X9_isName_41 : decode cX9_isName 41 = .ok (.iconst 1, 1) := by decide +kernel
theorem d_X9_isName_42 : decode cX9_isName 42 = .ok (.ireturn, 1) := by decide +kernel
def k_X9_isName_0 (P : xP) (C12 : xK) : xK := x_aload 0 (y_getI 1 4 (x_push (.int 1) (x_icmp_eq (x_push (.int 0) (x_istore 1 (C12))) (x_push (.int 0) (x_zret P)))))
set_option maxRecDepth 20000 in
theorem t_X9_isName_0 {p : Program} {l : Launch} {e : Env} {s : State} {m : MethodId} {args : Array Value} {below : List Frame} {meth : Method} {c : Code} {g : xG} (X : xX p s m args c meth cX9_isName RX9 2 g) (hr : meth.sig.returnType = (some .boolean)) {P : xP} {C12 : xK} (h12 : xAt p l e { frames := 0, cells := 0, slots := 0, locals := 0 } s m args below meth c g 2 xFT xN 0 0 (MQ below (xQc g xFT xN P) args s 0 0 (xFr g)) C12 12) : xAt p l e { frames := 0, cells := 0, slots := 0, locals := 0 } s m args below meth c g 2 xFT xN 0 0 (MQ below (xQc g xFT xN P) args s 0 0 (xFr g)) (k_X9_isName_0 P C12) 0 := by
  unfold k_X9_isName_0
  refine r_aload_n (pc := 0) X d_X9_isName_0 fn0 ?_
  refine s_getI (pc := 1) (ci := 9) X xok9 (by decide +kernel) ob_1 (by decide +kernel) fl_RX9_41 d_X9_isName_1 ?_
  refine r_iconst (pc := 4) X d_X9_isName_4 (by decide +kernel) ?_
  refine r_icmp_eq (pc := 5) (tgt := 10) X d_X9_isName_5 (by decide +kernel) ?_ ?_
  · refine r_iconst (pc := 10) X d_X9_isName_10 (by decide +kernel) ?_
    refine r_istore_n (pc := 11) X d_X9_isName_11 fn1 (by decide +kernel) ?_
    exact h12
  · refine r_iconst (pc := 8) X d_X9_isName_8 (by decide +kernel) ?_
    exact r_zret (pc := 9) X hr d_X9_isName_9
def k_X9_isName_12 (P : xP) (C12 : xK) : xK := x_iload 1 (x_gets 1000 (x_alenS (x_icmp_ge (x_push (.int 1) (x_zret P)) (x_aload 0 (y_getJ 1 6 (x_gets 1000 (x_iload 1 (x_laldS (x_lcmp (x_if_ne (x_iinc 1 1 (C12)) (x_push (.int 0) (x_zret P))))))))))))
set_option maxRecDepth 20000 in
theorem t_X9_isName_12 {p : Program} {l : Launch} {e : Env} {s : State} {m : MethodId} {args : Array Value} {below : List Frame} {meth : Method} {c : Code} {g : xG} (X : xX p s m args c meth cX9_isName RX9 2 g) (hr : meth.sig.returnType = (some .boolean)) {P : xP} {C12 : xK} (h12 : xAt p l e { frames := 0, cells := 0, slots := 0, locals := 0 } s m args below meth c g 2 xFT xN 0 0 (MQ below (xQc g xFT xN P) args s 0 0 (xFr g)) C12 12) : xAt p l e { frames := 0, cells := 0, slots := 0, locals := 0 } s m args below meth c g 2 xFT xN 0 0 (MQ below (xQc g xFT xN P) args s 0 0 (xFr g)) (k_X9_isName_12 P C12) 12 := by
  unfold k_X9_isName_12
  refine r_iload_n (pc := 12) X d_X9_isName_12 fn1 ?_
  refine r_getsR (pc := 13) (host := "TwinTrees") X (by decide +kernel) d_X9_isName_13 ?_
  refine r_alenS (pc := 16) X d_X9_isName_16 ?_
  refine r_icmp_ge (pc := 17) (tgt := 41) X d_X9_isName_17 (by decide +kernel) ?_ ?_
  · refine r_iconst (pc := 41) X d_X9_isName_41 (by decide +kernel) ?_
    exact r_zret (pc := 42) X hr d_X9_isName_42
  · refine r_aload_n (pc := 20) X d_X9_isName_20 fn0 ?_
    refine s_getJ (pc := 21) (ci := 9) X xok9 (by decide +kernel) ob_1 (by decide +kernel) fl_RX9_34 d_X9_isName_21 ?_
    refine r_getsR (pc := 24) (host := "TwinTrees") X (by decide +kernel) d_X9_isName_24 ?_
    refine r_iload_n (pc := 27) X d_X9_isName_27 fn1 ?_
    refine r_laldS (pc := 28) X d_X9_isName_28 ?_
    refine r_lcmp (pc := 29) X d_X9_isName_29 ?_
    refine r_if_ne (pc := 30) (tgt := 35) X d_X9_isName_30 (by decide +kernel) ?_ ?_
    · refine r_iinc (pc := 35) X d_X9_isName_35 (by decide +kernel) (by decide +kernel) ?_
      refine r_goto (pc := 38) (tgt := 12) X d_X9_isName_38 (by decide +kernel) ?_
      exact h12
    · refine r_iconst (pc := 33) X d_X9_isName_33 (by decide +kernel) ?_
      exact r_zret (pc := 34) X hr d_X9_isName_34
set_option maxRecDepth 20000 in
theorem m_X9_isName {l : Launch} {f : Nat → xH → xP → Prop}  {I12 : Nat → xH → xP → xM → xK}
    (v0 : ∀ (a0 : Nat) (A : xH) (P : xP), f a0 A P → k_X9_isName_0 P (xE (I12 a0 A P)) [some (.ref a0), none] [] A)
    (v12 : ∀ (a0 : Nat) (A : xH) (P : xP), f a0 A P → ∀ (μ : xM) (L : xL) (st : List Value) (B : xH), I12 a0 A P μ L st B → k_X9_isName_12 P (xB (I12 a0 A P) μ) L st B) : xCon l yX9_isName cX9_isName 2 (some .boolean) 0 0 xN xN 0 xFT xFT (w_R f) := by
  refine xc_R (plainFor_of_name pn_RX9) (by decide +kernel) (fun p e s m args below meth c g a0 A P h X hr _ => ?_)
  have h12 := x_loop1 (p := p) (l := l) (e := e) (R := { frames := 0, cells := 0, slots := 0, locals := 0 }) (s := s) (m := m) (args := args) (below := below) (meth := meth) (c := c) (g := g) (nL := 2) (F := xFT) (n := xN) (cells := 0) (slots := 0) (Q := MQ below (xQc g xFT xN P) args s 0 0 (xFr g)) (I := I12 a0 A P) (pc1 := 12) (fun μ i12 => xAt_mono (t_X9_isName_12 (P := P) X hr i12) (v12 a0 A P h μ))
  exact ⟨_, v0 a0 A P h, t_X9_isName_0 X hr h12⟩
theorem d_X12_isName_0 : decode cX12_isName 0 = .ok (.aload_n 0, 1) := by decide +kernel
theorem d_X12_isName_1 : decode cX12_isName 1 = .ok (.getfield 232, 3) := by decide +kernel
theorem d_X12_isName_4 : decode cX12_isName 4 = .ok (.iconst 1, 1) := by decide +kernel
theorem d_X12_isName_5 : decode cX12_isName 5 = .ok (.if_icmp .ne 7, 3) := by decide +kernel
theorem d_X12_isName_8 : decode cX12_isName 8 = .ok (.iconst 1, 1) := by decide +kernel
theorem d_X12_isName_9 : decode cX12_isName 9 = .ok (.goto 4, 3) := by decide +kernel
theorem d_X12_isName_12 : decode cX12_isName 12 = .ok (.iconst 0, 1) := by decide +kernel
theorem d_X12_isName_13 : decode cX12_isName 13 = .ok (.istore_n 1, 1) := by decide +kernel
theorem d_X12_isName_14 : decode cX12_isName 14 = .ok (.iconst 0, 1) := by decide +kernel
theorem d_X12_isName_15 : decode cX12_isName 15 = .ok (.istore_n 2, 1) := by decide +kernel
theorem d_X12_isName_16 : decode cX12_isName 16 = .ok (.iload_n 2, 1) := by decide +kernel
theorem d_X12_isName_17 : decode cX12_isName 17 = .ok (.bipush 16, 2) := by decide +kernel
theorem d_X12_isName_19 : decode cX12_isName 19 = .ok (.if_icmp .ge 33, 3) := by decide +kernel
theorem d_X12_isName_22 : decode cX12_isName 22 = .ok (.iload_n 1, 1) := by decide +kernel
theorem d_X12_isName_23 : decode cX12_isName 23 = .ok (.ifCond .eq 21, 3) := by decide +kernel
theorem d_X12_isName_26 : decode cX12_isName 26 = .ok (.aload_n 0, 1) := by decide +kernel
theorem d_X12_isName_27 : decode cX12_isName 27 = .ok (.getfield 245, 3) := by decide +kernel
theorem d_X12_isName_30 : decode cX12_isName 30 = .ok (.aload_n 0, 1) := by decide +kernel
theorem d_X12_isName_31 : decode cX12_isName 31 = .ok (.getfield 47, 3) := by decide +kernel
theorem d_X12_isName_34 : decode cX12_isName 34 = .ok (.iload_n 2, 1) := by decide +kernel
theorem d_X12_isName_35 : decode cX12_isName 35 = .ok (.laload, 1) := by decide +kernel
theorem d_X12_isName_36 : decode cX12_isName 36 = .ok (.lcmp, 1) := by decide +kernel
theorem d_X12_isName_37 : decode cX12_isName 37 = .ok (.ifCond .eq 7, 3) := by decide +kernel
theorem d_X12_isName_40 : decode cX12_isName 40 = .ok (.iconst 1, 1) := by decide +kernel
theorem d_X12_isName_41 : decode cX12_isName 41 = .ok (.goto 4, 3) := by decide +kernel
theorem d_X12_isName_44 : decode cX12_isName 44 = .ok (.iconst 0, 1) := by decide +kernel
theorem d_X12_isName_45 : decode cX12_isName 45 = .ok (.istore_n 1, 1) := by decide +kernel
theorem d_X12_isName_46 : decode cX12_isName 46 = .ok (.iinc 2 1, 3) := by decide +kernel
theorem d_X12_isName_49 : decode cX12_isName 49 = .ok (.goto (-33), 3) := by decide +kernel
theorem d_X12_isName_52 : decode cX12_isName 52 = .ok (.iload_n 1, 1) := by decide +kernel
theorem d_X12_isName_53 : decode cX12_isName 53 = .ok (.ireturn, 1) := by decide +kernel
def k_X12_isName_13 (P : xP) (C16 : xK) : xK := x_istore 1 (x_push (.int 0) (x_istore 2 (C16)))
set_option maxRecDepth 20000 in
theorem t_X12_isName_13 {p : Program} {l : Launch} {e : Env} {s : State} {m : MethodId} {args : Array Value} {below : List Frame} {meth : Method} {c : Code} {g : xG} (X : xX p s m args c meth cX12_isName RX12 3 g) (hr : meth.sig.returnType = (some .boolean)) {P : xP} {C16 : xK} (h16 : xAt p l e { frames := 0, cells := 0, slots := 0, locals := 0 } s m args below meth c g 3 xFT xN 0 0 (MQ below (xQc g xFT xN P) args s 0 0 (xFr g)) C16 16) : xAt p l e { frames := 0, cells := 0, slots := 0, locals := 0 } s m args below meth c g 3 xFT xN 0 0 (MQ below (xQc g xFT xN P) args s 0 0 (xFr g)) (k_X12_isName_13 P C16) 13 := by
  unfold k_X12_isName_13
  refine r_istore_n (pc := 13) X d_X12_isName_13 fn1 (by decide +kernel) ?_
  refine r_iconst (pc := 14) X d_X12_isName_14 (by decide +kernel) ?_
  refine r_istore_n (pc := 15) X d_X12_isName_15 fn2 (by decide +kernel) ?_
  exact h16
def k_X12_isName_0 (P : xP) (C16 : xK) : xK := x_aload 0 (y_getI 180 11 (x_push (.int 1) (x_icmp_ne (x_push (.int 0) ((k_X12_isName_13 P C16))) (x_push (.int 1) ((k_X12_isName_13 P C16))))))
set_option maxRecDepth 20000 in
theorem t_X12_isName_0 {p : Program} {l : Launch} {e : Env} {s : State} {m : MethodId} {args : Array Value} {below : List Frame} {meth : Method} {c : Code} {g : xG} (X : xX p s m args c meth cX12_isName RX12 3 g) (hr : meth.sig.returnType = (some .boolean)) {P : xP} {C16 : xK} (h16 : xAt p l e { frames := 0, cells := 0, slots := 0, locals := 0 } s m args below meth c g 3 xFT xN 0 0 (MQ below (xQc g xFT xN P) args s 0 0 (xFr g)) C16 16) : xAt p l e { frames := 0, cells := 0, slots := 0, locals := 0 } s m args below meth c g 3 xFT xN 0 0 (MQ below (xQc g xFT xN P) args s 0 0 (xFr g)) (k_X12_isName_0 P C16) 0 := by
  unfold k_X12_isName_0
  refine r_aload_n (pc := 0) X d_X12_isName_0 fn0 ?_
  refine s_getI (pc := 1) (ci := 12) X xok12 (by decide +kernel) ob_180 (by decide +kernel) fl_RX12_232 d_X12_isName_1 ?_
  refine r_iconst (pc := 4) X d_X12_isName_4 (by decide +kernel) ?_
  refine r_icmp_ne (pc := 5) (tgt := 12) X d_X12_isName_5 (by decide +kernel) ?_ ?_
  · refine r_iconst (pc := 12) X d_X12_isName_12 (by decide +kernel) ?_
    exact t_X12_isName_13 X hr h16
  · refine r_iconst (pc := 8) X d_X12_isName_8 (by decide +kernel) ?_
    refine r_goto (pc := 9) (tgt := 13) X d_X12_isName_9 (by decide +kernel) ?_
    exact t_X12_isName_13 X hr h16
def k_X12_isName_45 (P : xP) (C16 : xK) : xK := x_istore 1 (x_iinc 2 1 (C16))
set_option maxRecDepth 20000 in
theorem t_X12_isName_45 {p : Program} {l : Launch} {e : Env} {s : State} {m : MethodId} {args : Array Value} {below : List Frame} {meth : Method} {c : Code} {g : xG} (X : xX p s m args c meth cX12_isName RX12 3 g) (hr : meth.sig.returnType = (some .boolean)) {P : xP} {C16 : xK} (h16 : xAt p l e { frames := 0, cells := 0, slots := 0, locals := 0 } s m args below meth c g 3 xFT xN 0 0 (MQ below (xQc g xFT xN P) args s 0 0 (xFr g)) C16 16) : xAt p l e { frames := 0, cells := 0, slots := 0, locals := 0 } s m args below meth c g 3 xFT xN 0 0 (MQ below (xQc g xFT xN P) args s 0 0 (xFr g)) (k_X12_isName_45 P C16) 45 := by
  unfold k_X12_isName_45
  refine r_istore_n (pc := 45) X d_X12_isName_45 fn1 (by decide +kernel) ?_
  refine r_iinc (pc := 46) X d_X12_isName_46 (by decide +kernel) (by decide +kernel) ?_
  refine r_goto (pc := 49) (tgt := 16) X d_X12_isName_49 (by decide +kernel) ?_
  exact h16
def k_X12_isName_44 (P : xP) (C16 : xK) : xK := x_push (.int 0) ((k_X12_isName_45 P C16))
set_option maxRecDepth 20000 in
theorem t_X12_isName_44 {p : Program} {l : Launch} {e : Env} {s : State} {m : MethodId} {args : Array Value} {below : List Frame} {meth : Method} {c : Code} {g : xG} (X : xX p s m args c meth cX12_isName RX12 3 g) (hr : meth.sig.returnType = (some .boolean)) {P : xP} {C16 : xK} (h16 : xAt p l e { frames := 0, cells := 0, slots := 0, locals := 0 } s m args below meth c g 3 xFT xN 0 0 (MQ below (xQc g xFT xN P) args s 0 0 (xFr g)) C16 16) : xAt p l e { frames := 0, cells := 0, slots := 0, locals := 0 } s m args below meth c g 3 xFT xN 0 0 (MQ below (xQc g xFT xN P) args s 0 0 (xFr g)) (k_X12_isName_44 P C16) 44 := by
  unfold k_X12_isName_44
  refine r_iconst (pc := 44) X d_X12_isName_44 (by decide +kernel) ?_
  exact t_X12_isName_45 X hr h16
def k_X12_isName_16 (P : xP) (C16 : xK) : xK := x_iload 2 (x_push (.int 16) (x_icmp_ge (x_iload 1 (x_zret P)) (x_iload 1 (x_if_eq ((k_X12_isName_44 P C16)) (x_aload 0 (y_getJ 180 17 (x_aload 0 (y_getF 180 187 (x_iload 2 (y_lald 187 16 (x_lcmp (x_if_eq ((k_X12_isName_44 P C16)) (x_push (.int 1) ((k_X12_isName_45 P C16)))))))))))))))
set_option maxRecDepth 20000 in
theorem t_X12_isName_16 {p : Program} {l : Launch} {e : Env} {s : State} {m : MethodId} {args : Array Value} {below : List Frame} {meth : Method} {c : Code} {g : xG} (X : xX p s m args c meth cX12_isName RX12 3 g) (hr : meth.sig.returnType = (some .boolean)) {P : xP} {C16 : xK} (h16 : xAt p l e { frames := 0, cells := 0, slots := 0, locals := 0 } s m args below meth c g 3 xFT xN 0 0 (MQ below (xQc g xFT xN P) args s 0 0 (xFr g)) C16 16) : xAt p l e { frames := 0, cells := 0, slots := 0, locals := 0 } s m args below meth c g 3 xFT xN 0 0 (MQ below (xQc g xFT xN P) args s 0 0 (xFr g)) (k_X12_isName_16 P C16) 16 := by
  unfold k_X12_isName_16
  refine r_iload_n (pc := 16) X d_X12_isName_16 fn2 ?_
  refine r_bipush (pc := 17) X d_X12_isName_17 (by decide +kernel) ?_
  refine r_icmp_ge (pc := 19) (tgt := 52) X d_X12_isName_19 (by decide +kernel) ?_ ?_
  · refine r_iload_n (pc := 52) X d_X12_isName_52 fn1 ?_
    exact r_zret (pc := 53) X hr d_X12_isName_53
  · refine r_iload_n (pc := 22) X d_X12_isName_22 fn1 ?_
    refine r_if_eq (pc := 23) (tgt := 44) X d_X12_isName_23 (by decide +kernel) ?_ ?_
    · exact t_X12_isName_44 X hr h16
    · refine r_aload_n (pc := 26) X d_X12_isName_26 fn0 ?_
      refine s_getJ (pc := 27) (ci := 12) X xok12 (by decide +kernel) ob_180 (by decide +kernel) fl_RX12_245 d_X12_isName_27 ?_
      refine r_aload_n (pc := 30) X d_X12_isName_30 fn0 ?_
      refine s_getF (pc := 31) (ci := 12) (k := 10) X xok12 (by decide +kernel) ob_180 trivial ly_180_10 (by decide +kernel) fl_RX12_47 d_X12_isName_31 ?_
      refine r_iload_n (pc := 34) X d_X12_isName_34 fn2 ?_
      refine s_lald (pc := 35) X tn_187 ln_187 d_X12_isName_35 ?_
      refine r_lcmp (pc := 36) X d_X12_isName_36 ?_
      refine r_if_eq (pc := 37) (tgt := 44) X d_X12_isName_37 (by decide +kernel) ?_ ?_
      · exact t_X12_isName_44 X hr h16
      · refine r_iconst (pc := 40) X d_X12_isName_40 (by decide +kernel) ?_
        refine r_goto (pc := 41) (tgt := 45) X d_X12_isName_41 (by decide +kernel) ?_
        exact t_X12_isName_45 X hr h16
set_option maxRecDepth 20000 in
theorem m_X12_isName {l : Launch} {f : Nat → xH → xP → Prop}  {I16 : Nat → xH → xP → xM → xK}
    (v0 : ∀ (a0 : Nat) (A : xH) (P : xP), f a0 A P → k_X12_isName_0 P (xE (I16 a0 A P)) [some (.ref a0), none, none] [] A)
    (v16 : ∀ (a0 : Nat) (A : xH) (P : xP), f a0 A P → ∀ (μ : xM) (L : xL) (st : List Value) (B : xH), I16 a0 A P μ L st B → k_X12_isName_16 P (xB (I16 a0 A P) μ) L st B) : xCon l yX12_isName cX12_isName 3 (some .boolean) 0 0 xN xN 0 xFT xFT (w_R f) := by
  refine xc_R (plainFor_of_name pn_RX12) (by decide +kernel) (fun p e s m args below meth c g a0 A P h X hr _ => ?_)
  have h16 := x_loop1 (p := p) (l := l) (e := e) (R := { frames := 0, cells := 0, slots := 0, locals := 0 }) (s := s) (m := m) (args := args) (below := below) (meth := meth) (c := c) (g := g) (nL := 3) (F := xFT) (n := xN) (cells := 0) (slots := 0) (Q := MQ below (xQc g xFT xN P) args s 0 0 (xFr g)) (I := I16 a0 A P) (pc1 := 16) (fun μ i16 => xAt_mono (t_X12_isName_16 (P := P) X hr i16) (v16 a0 A P h μ))
  exact ⟨_, v0 a0 A P h, t_X12_isName_0 X hr h16⟩
theorem d_X12_seek_0 : decode cX12_seek 0 = .ok (.iconst 0, 1) := by decide +kernel
theorem d_X12_seek_1 : decode cX12_seek 1 = .ok (.istore_n 3, 1) := by decide +kernel
theorem d_X12_seek_2 : decode cX12_seek 2 = .ok (.iload_n 3, 1) := by decide +kernel
theorem d_X12_seek_3 : decode cX12_seek 3 = .ok (.iload_n 2, 1) := by decide +kernel
theorem d_X12_seek_4 : decode cX12_seek 4 = .ok (.if_icmp .ge 27, 3) := by decide +kernel
theorem d_X12_seek_7 : decode cX12_seek 7 = .ok (.aload_n 0, 1) := by decide +kernel
theorem d_X12_seek_8 : decode cX12_seek 8 = .ok (.getfield 43, 3) := by decide +kernel
theorem d_X12_seek_11 : decode cX12_seek 11 = .ok (.iload_n 1, 1) := by decide +kernel
theorem d_X12_seek_12 : decode cX12_seek 12 = .ok (.iload_n 3, 1) := by decide +kernel
theorem d_X12_seek_13 : decode cX12_seek 13 = .ok (.iadd, 1) := by decide +kernel
theorem d_X12_seek_14 : decode cX12_seek 14 = .ok (.laload, 1) := by decide +kernel
theorem d_X12_seek_15 : decode cX12_seek 15 = .ok (.aload_n 0, 1) := by decide +kernel
theorem d_X12_seek_16 : decode cX12_seek 16 = .ok (.getfield 245, 3) := by decide +kernel
theorem d_X12_seek_19 : decode cX12_seek 19 = .ok (.lcmp, 1) := by decide +kernel
theorem d_X12_seek_20 : decode cX12_seek 20 = .ok (.ifCond .ne 5, 3) := by decide +kernel
theorem d_X12_seek_23 : decode cX12_seek 23 = .ok (.iload_n 3, 1) := by decide +kernel
theorem d_X12_seek_24 : decode cX12_seek 24 = .ok (.ireturn, 1) := by decide +kernel
theorem d_X12_seek_25 : decode cX12_seek 25 = .ok (.iinc 3 1, 3) := by decide +kernel
theorem d_X12_seek_28 : decode cX12_seek 28 = .ok (.goto (-26), 3) := by decide +kernel
theorem d_X12_seek_31 : decode cX12_seek 31 = .ok (.iconst (-1), 1) := by decide +kernel
theorem d_X12_seek_32 : decode cX12_seek 32 = .ok (.ireturn, 1) := by decide +kernel
def k_X12_seek_0 (P : xP) (C2 : xK) : xK := x_push (.int 0) (x_istore 3 (C2))
set_option maxRecDepth 20000 in
theorem t_X12_seek_0 {p : Program} {l : Launch} {e : Env} {s : State} {m : MethodId} {args : Array Value} {below : List Frame} {meth : Method} {c : Code} {g : xG} (X : xX p s m args c meth cX12_seek RX12 4 g) (hr : meth.sig.returnType = (some .int)) {P : xP} {C2 : xK} (h2 : xAt p l e { frames := 0, cells := 0, slots := 0, locals := 0 } s m args below meth c g 4 xFT xN 0 0 (MQ below (xQc g xFT xN P) args s 0 0 (xFr g)) C2 2) : xAt p l e { frames := 0, cells := 0, slots := 0, locals := 0 } s m args below meth c g 4 xFT xN 0 0 (MQ below (xQc g xFT xN P) args s 0 0 (xFr g)) (k_X12_seek_0 P C2) 0 := by
  unfold k_X12_seek_0
  refine r_iconst (pc := 0) X d_X12_seek_0 (by decide +kernel) ?_
  refine r_istore_n (pc := 1) X d_X12_seek_1 fn3 (by decide +kernel) ?_
  exact h2
def k_X12_seek_2 (P : xP) (C2 : xK) : xK := x_iload 3 (x_iload 2 (x_icmp_ge (x_push (.int (-1)) (x_iret P)) (x_aload 0 (y_getF 180 186 (x_iload 1 (x_iload 3 (x_iadd (y_lald 186 18 (x_aload 0 (y_getJ 180 17 (x_lcmp (x_if_ne (x_iinc 3 1 (C2)) (x_iload 3 (x_iret P))))))))))))))
set_option maxRecDepth 20000 in
theorem t_X12_seek_2 {p : Program} {l : Launch} {e : Env} {s : State} {m : MethodId} {args : Array Value} {below : List Frame} {meth : Method} {c : Code} {g : xG} (X : xX p s m args c meth cX12_seek RX12 4 g) (hr : meth.sig.returnType = (some .int)) {P : xP} {C2 : xK} (h2 : xAt p l e { frames := 0, cells := 0, slots := 0, locals := 0 } s m args below meth c g 4 xFT xN 0 0 (MQ below (xQc g xFT xN P) args s 0 0 (xFr g)) C2 2) : xAt p l e { frames := 0, cells := 0, slots := 0, locals := 0 } s m args below meth c g 4 xFT xN 0 0 (MQ below (xQc g xFT xN P) args s 0 0 (xFr g)) (k_X12_seek_2 P C2) 2 := by
  unfold k_X12_seek_2
  refine r_iload_n (pc := 2) X d_X12_seek_2 fn3 ?_
  refine r_iload_n (pc := 3) X d_X12_seek_3 fn2 ?_
  refine r_icmp_ge (pc := 4) (tgt := 31) X d_X12_seek_4 (by decide +kernel) ?_ ?_
  · refine r_iconst (pc := 31) X d_X12_seek_31 (by decide +kernel) ?_
    exact r_iret (pc := 32) X hr d_X12_seek_32
  · refine r_aload_n (pc := 7) X d_X12_seek_7 fn0 ?_
    refine s_getF (pc := 8) (ci := 12) (k := 9) X xok12 (by decide +kernel) ob_180 trivial ly_180_9 (by decide +kernel) fl_RX12_43 d_X12_seek_8 ?_
    refine r_iload_n (pc := 11) X d_X12_seek_11 fn1 ?_
    refine r_iload_n (pc := 12) X d_X12_seek_12 fn3 ?_
    refine r_iadd (pc := 13) X d_X12_seek_13 ?_
    refine s_lald (pc := 14) X tn_186 ln_186 d_X12_seek_14 ?_
    refine r_aload_n (pc := 15) X d_X12_seek_15 fn0 ?_
    refine s_getJ (pc := 16) (ci := 12) X xok12 (by decide +kernel) ob_180 (by decide +kernel) fl_RX12_245 d_X12_seek_16 ?_
    refine r_lcmp (pc := 19) X d_X12_seek_19 ?_
    refine r_if_ne (pc := 20) (tgt := 25) X d_X12_seek_20 (by decide +kernel) ?_ ?_
    · refine r_iinc (pc := 25) X d_X12_seek_25 (by decide +kernel) (by decide +kernel) ?_
      refine r_goto (pc := 28) (tgt := 2) X d_X12_seek_28 (by decide +kernel) ?_
      exact h2
    · refine r_iload_n (pc := 23) X d_X12_seek_23 fn3 ?_
      exact r_iret (pc := 24) X hr d_X12_seek_24
set_option maxRecDepth 20000 in
theorem m_X12_seek {l : Launch} {f : Nat → Int32 → Int32 → xH → xP → Prop}  {I2 : Nat → Int32 → Int32 → xH → xP → xM → xK}
    (v0 : ∀ (a0 : Nat) (a1 : Int32) (a2 : Int32) (A : xH) (P : xP), f a0 a1 a2 A P → k_X12_seek_0 P (xE (I2 a0 a1 a2 A P)) [some (.ref a0), some (.int a1), some (.int a2), none] [] A)
    (v2 : ∀ (a0 : Nat) (a1 : Int32) (a2 : Int32) (A : xH) (P : xP), f a0 a1 a2 A P → ∀ (μ : xM) (L : xL) (st : List Value) (B : xH), I2 a0 a1 a2 A P μ L st B → k_X12_seek_2 P (xB (I2 a0 a1 a2 A P) μ) L st B) : xCon l yX12_seek cX12_seek 4 (some .int) 0 0 xN xN 0 xFT xFT (w_RII f) := by
  refine xc_RII (plainFor_of_name pn_RX12) (by decide +kernel) (fun p e s m args below meth c g a0 a1 a2 A P h X hr _ => ?_)
  have h2 := x_loop1 (p := p) (l := l) (e := e) (R := { frames := 0, cells := 0, slots := 0, locals := 0 }) (s := s) (m := m) (args := args) (below := below) (meth := meth) (c := c) (g := g) (nL := 4) (F := xFT) (n := xN) (cells := 0) (slots := 0) (Q := MQ below (xQc g xFT xN P) args s 0 0 (xFr g)) (I := I2 a0 a1 a2 A P) (pc1 := 2) (fun μ i2 => xAt_mono (t_X12_seek_2 (P := P) X hr i2) (v2 a0 a1 a2 A P h μ))
  exact ⟨_, v0 a0 a1 a2 A P h, t_X12_seek_0 X hr h2⟩
theorem bI_bool (b : Bool) : xbool (bI b) := by cases b <;> first | exact xbool0 | exact xbool1
/-- no reserved word up to n -/
def nres (w : Int64) : Nat → Bool
  | 0 => true
  | n + 1 => nres w n && !decide (w = xRES n)
theorem nres_mono {w : Int64} {j : Nat} : ∀ n, j < n → w = xRES j → nres w n = false
  | 0, h, _ => by omega
  | n + 1, h, e => by
    simp only [nres]
    rcases Nat.lt_or_ge j n with h1 | h1
    · rw [nres_mono n h1 e]; rfl
    · have : j = n := by omega
      subst this
      simp [e]
/-- a NAME is a WORD that is not reserved -/
def isNm (t : Int32) (w : Int64) : Bool := decide (t = 1) && nres w 16
def f_X9_isName (q : Nat) (A : xH) (P : xP) : Prop := q = 1 ∧ P (some (.int (bI (isNm (xi A 1 4) (xl A 1 6))))) A
theorem con_X9_isName (l : Launch) : xCon l yX9_isName cX9_isName 2 (some .boolean) 0 0 xN xN 0 xFT xFT (w_R f_X9_isName) := by
  refine m_X9_isName (I12 := fun q A P μ L st B => ∃ i, P (some (.int (bI (nres (xl A 1 6) 16)))) A ∧ i ≤ 16 ∧ nres (xl A 1 6) i = true ∧ B = A ∧ st = [] ∧ L = [some (.ref 1), some (.int (nI i))] ∧ μ = (16 - i, 0, 0)) ?_ ?_
  · rintro q A P ⟨rfl, hP⟩
    simp only [k_X9_isName_0, k_X9_isName_12, x_alenS, x_aload, x_gets, x_icmp_eq, x_icmp_ge, x_if_ne, x_iinc, x_iload, x_istore, x_laldS, x_lcmp, x_push, x_zret, y_getI, y_getJ, xFT, xbool0, xbool1, Nat.reduceAdd, Nat.zero_add, xgl_0, xgl_s, xgl_n, xst_0, xst_1n, xst_1i, xst_1r, xst_1l, xst_s, set_0, set_s, true_and, and_true, xres, xcat_nil, xcat_i, xcat_r, xcat_l, Nat.add_zero, xble0, xble1, xble2, xble3, xble4, xble5, xble6, xble7, xble8]
    unfold isNm at hP
    refine ⟨fun h => ?_, fun h => ?_⟩
    · rw [decide_eq_true h, Bool.true_and] at hP
      exact xE0 (16, 0, 0) ⟨0, hP, by omega, rfl, rfl, rfl, rfl, rfl⟩
    · rw [decide_eq_false h, Bool.false_and] at hP
      exact hP
  · rintro q A P - μ L st B ⟨i, hP, hi, hn, rfl, rfl, rfl, rfl⟩
    simp only [k_X9_isName_0, k_X9_isName_12, x_alenS, x_aload, x_gets, x_icmp_eq, x_icmp_ge, x_if_ne, x_iinc, x_iload, x_istore, x_laldS, x_lcmp, x_push, x_zret, y_getI, y_getJ, xFT, xbool0, xbool1, Nat.reduceAdd, Nat.zero_add, xgl_0, xgl_s, xgl_n, xst_0, xst_1n, xst_1i, xst_1r, xst_1l, xst_s, set_0, set_s, true_and, and_true, xres, xcat_nil, xcat_i, xcat_r, xcat_l, Nat.add_zero, xble0, xble1, xble2, xble3, xble4, xble5, xble6, xble7, xble8, c_ge 16 (c := i) (by omega) (by decide), n_cl (n := i) (by omega), lcmp0, ne_eq, nI_1]
    refine ⟨fun h => ?_, fun h => ⟨(n_in (by omega) (by omega)).mpr (by omega), fun h2 => ?_, fun h2 => ?_⟩⟩
    · have : i = 16 := by omega
      subst this
      rw [hn] at hP
      exact hP
    · exact xB1 (b := 16 - (i + 1)) (by omega) ⟨i + 1, hP, by omega, by simp only [nres, hn, decide_eq_false h2]; rfl, rfl, rfl, rfl, rfl⟩
    · rw [nres_mono 16 (j := i) (by omega) h2] at hP
      exact hP
def f_X12_isName (q : Nat) (A : xH) (P : xP) : Prop := q = 180 ∧ (∀ k, k < 16 → xl A 187 k = xRES k) ∧ P (some (.int (bI (isNm (xi A 180 11) (xl A 180 17))))) A
theorem con_X12_isName (l : Launch) : xCon l yX12_isName cX12_isName 3 (some .boolean) 0 0 xN xN 0 xFT xFT (w_R f_X12_isName) := by
  refine m_X12_isName (I16 := fun q A P μ L st B => ∃ i b, P (some (.int (bI (b && nres (xl A 180 17) 16)))) A ∧ (∀ k, k < 16 → xl A 187 k = xRES k) ∧ i ≤ 16 ∧ B = A ∧ st = [] ∧ L = [some (.ref 180), some (.int (bI (b && nres (xl A 180 17) i))), some (.int (nI i))] ∧ μ = (16 - i, 0, 0)) ?_ ?_
  · rintro q A P ⟨rfl, hR, hP⟩
    simp only [k_X12_isName_0, k_X12_isName_16, k_X12_isName_13, k_X12_isName_44, k_X12_isName_45, x_aload, x_icmp_ge, x_icmp_ne, x_if_eq, x_iinc, x_iload, x_istore, x_lcmp, x_push, x_zret, y_getF, y_getI, y_getJ, y_lald, xFT, xbool0, xbool1, Nat.reduceAdd, Nat.zero_add, xgl_0, xgl_s, xgl_n, xst_0, xst_1n, xst_1i, xst_1r, xst_1l, xst_s, set_0, set_s, true_and, and_true, xres, xcat_nil, xcat_i, xcat_r, xcat_l, Nat.add_zero, xble0, xble1, xble2, xble3, xble4, xble5, xble6, xble7, xble8]
    unfold isNm at hP
    refine ⟨fun h => ?_, fun h => ?_⟩
    · rw [decide_eq_false h] at hP
      exact xE0 (16, 0, 0) ⟨0, false, hP, hR, by omega, rfl, rfl, rfl, rfl⟩
    · rw [decide_eq_true h] at hP
      exact xE0 (16, 0, 0) ⟨0, true, hP, hR, by omega, rfl, rfl, rfl, rfl⟩
  · rintro q A P - μ L st B ⟨i, b, hP, hR, hi, rfl, rfl, rfl, rfl⟩
    by_cases h16 : i < 16
    · simp only [k_X12_isName_0, k_X12_isName_16, k_X12_isName_13, k_X12_isName_44, k_X12_isName_45, x_aload, x_icmp_ge, x_icmp_ne, x_if_eq, x_iinc, x_iload, x_istore, x_lcmp, x_push, x_zret, y_getF, y_getI, y_getJ, y_lald, xFT, xbool0, xbool1, Nat.reduceAdd, Nat.zero_add, xgl_0, xgl_s, xgl_n, xst_0, xst_1n, xst_1i, xst_1r, xst_1l, xst_s, set_0, set_s, true_and, and_true, xres, xcat_nil, xcat_i, xcat_r, xcat_l, Nat.add_zero, xble0, xble1, xble2, xble3, xble4, xble5, xble6, xble7, xble8, c_ge 16 (c := i) (by omega) (by decide), n_cl (n := i) (by omega), lcmp0, ne_eq, nI_1, bI_t, hR i h16]
      have hst : ∀ x, x = bI (b && nres (xl B 180 17) (i + 1)) → xB (fun μ L st B' => ∃ i b, P (some (.int (bI (b && nres (xl B 180 17) 16)))) B ∧ (∀ k, k < 16 → xl B 187 k = xRES k) ∧ i ≤ 16 ∧ B' = B ∧ st = [] ∧ L = [some (.ref 180), some (.int (bI (b && nres (xl B 180 17) i))), some (.int (nI i))] ∧ μ = (16 - i, 0, 0)) (16 - i, 0, 0) [some (.ref 180), some (.int x), some (.int (nI (i + 1)))] [] B := fun x hx =>
        xB1 (b := 16 - (i + 1)) (by omega) ⟨i + 1, b, hP, hR, by omega, rfl, rfl, by rw [hx], rfl⟩
      refine ⟨fun h => by omega, fun _ => ⟨fun h => hst 0 ?_, fun h => ⟨(n_in (by omega) (by omega)).mpr (by omega), fun h2 => hst 0 ?_, fun h2 => hst 1 ?_⟩⟩⟩
      · rw [nres, ← Bool.and_assoc, h]; rfl
      · rw [nres, h2]; simp [bI]
      · have h3 : (b && nres (xl B 180 17) i) = true := by simpa using h
        rw [nres, ← Bool.and_assoc, h3, decide_eq_false h2]; rfl
    · have : i = 16 := by omega
      subst this
      simp only [k_X12_isName_0, k_X12_isName_16, k_X12_isName_13, k_X12_isName_44, k_X12_isName_45, x_aload, x_icmp_ge, x_icmp_ne, x_if_eq, x_iinc, x_iload, x_istore, x_lcmp, x_push, x_zret, y_getF, y_getI, y_getJ, y_lald, xFT, xbool0, xbool1, Nat.reduceAdd, Nat.zero_add, xgl_0, xgl_s, xgl_n, xst_0, xst_1n, xst_1i, xst_1r, xst_1l, xst_s, set_0, set_s, true_and, and_true, xres, xcat_nil, xcat_i, xcat_r, xcat_l, Nat.add_zero, xble0, xble1, xble2, xble3, xble4, xble5, xble6, xble7, xble8, c_ge 16 (c := 16) (by omega) (by decide), Nat.le_refl, not_true_eq_false, true_implies, false_implies]
      exact ⟨bI_bool _, hP⟩
def f_X12_seek (q : Nat) (x y : Int32) (A : xH) (P : xP) : Prop := q = 180 ∧ ∃ a m, x = nI a ∧ y = nI m ∧ a + m ≤ 18 ∧ P (some (.int (if idx (fun k => xl A 186 (a + k)) (xl A 180 17) m < m then nI (idx (fun k => xl A 186 (a + k)) (xl A 180 17) m) else -1))) A
theorem con_X12_seek (l : Launch) : xCon l yX12_seek cX12_seek 4 (some .int) 0 0 xN xN 0 xFT xFT (w_RII f_X12_seek) := by
  refine m_X12_seek (I2 := fun q x y A P μ L st B => ∃ a m i, a + m ≤ 18 ∧ P (some (.int (if idx (fun k => xl A 186 (a + k)) (xl A 180 17) m < m then nI (idx (fun k => xl A 186 (a + k)) (xl A 180 17) m) else -1))) A ∧ i ≤ m ∧ (∀ j, j < i → xl A 186 (a + j) ≠ xl A 180 17) ∧ B = A ∧ st = [] ∧ L = [some (.ref 180), some (.int (nI a)), some (.int (nI m)), some (.int (nI i))] ∧ μ = (m - i, 0, 0)) ?_ ?_
  · rintro q x y A P ⟨rfl, a, m, rfl, rfl, h, hP⟩
    simp only [k_X12_seek_0, k_X12_seek_2, x_aload, x_iadd, x_icmp_ge, x_if_ne, x_iinc, x_iload, x_iret, x_istore, x_lcmp, x_push, y_getF, y_getJ, y_lald, xFT, xbool0, xbool1, Nat.reduceAdd, Nat.zero_add, xgl_0, xgl_s, xgl_n, xst_0, xst_1n, xst_1i, xst_1r, xst_1l, xst_s, set_0, set_s, true_and, and_true, xres, xcat_nil, xcat_i, xcat_r, xcat_l, Nat.add_zero, xble0, xble1, xble2, xble3, xble4, xble5, xble6, xble7, xble8]
    exact xE0 (m, 0, 0) ⟨a, m, 0, h, hP, by omega, fun j hj => by omega, rfl, rfl, rfl, rfl⟩
  · rintro q x y A P - μ L st B ⟨a, m, i, h, hP, hi, hj, rfl, rfl, rfl, rfl⟩
    simp only [k_X12_seek_0, k_X12_seek_2, x_aload, x_iadd, x_icmp_ge, x_if_ne, x_iinc, x_iload, x_iret, x_istore, x_lcmp, x_push, y_getF, y_getJ, y_lald, xFT, xbool0, xbool1, Nat.reduceAdd, Nat.zero_add, xgl_0, xgl_s, xgl_n, xst_0, xst_1n, xst_1i, xst_1r, xst_1l, xst_s, set_0, set_s, true_and, and_true, xres, xcat_nil, xcat_i, xcat_r, xcat_l, Nat.add_zero, xble0, xble1, xble2, xble3, xble4, xble5, xble6, xble7, xble8, nI_leI (a := m) (b := i) (by omega) (by omega), nI_add, n_cl (n := a + i) (by omega), lcmp0, ne_eq, nI_1]
    refine ⟨fun h1 => ?_, fun h1 => ⟨(n_in (by omega) (by omega)).mpr (by omega), fun h2 => ?_, fun h2 => ?_⟩⟩
    · have : i = m := by omega
      subst this
      rw [idx_none (fun j q => hj j q), if_neg (by omega)] at hP
      exact hP
    · refine xB1 (b := m - (i + 1)) (by omega) ⟨a, m, i + 1, h, hP, by omega, fun j q => ?_, rfl, rfl, rfl, rfl⟩
      by_cases e : j < i
      · exact hj j e
      · rw [show j = i by omega]; exact h2
    · rw [idx_first (j := i) (n := m) (by omega) hj h2, if_pos (by omega)] at hP
      exact hP

