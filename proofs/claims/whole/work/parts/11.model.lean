theorem d_X4_groups_0 : decode cX4_groups 0 = .ok (.iconst 0, 1) := by decide +kernel
theorem d_X4_groups_1 : decode cX4_groups 1 = .ok (.istore_n 1, 1) := by decide +kernel
theorem d_X4_groups_2 : decode cX4_groups 2 = .ok (.iconst 0, 1) := by decide +kernel
theorem d_X4_groups_3 : decode cX4_groups 3 = .ok (.istore_n 2, 1) := by decide +kernel
theorem d_X4_groups_4 : decode cX4_groups 4 = .ok (.iload_n 2, 1) := by decide +kernel
theorem d_X4_groups_5 : decode cX4_groups 5 = .ok (.aload_n 0, 1) := by decide +kernel
theorem d_X4_groups_6 : decode cX4_groups 6 = .ok (.getfield 9, 3) := by decide +kernel
theorem d_X4_groups_9 : decode cX4_groups 9 = .ok (.if_icmp .ge 27, 3) := by decide +kernel
theorem d_X4_groups_12 : decode cX4_groups 12 = .ok (.iload_n 1, 1) := by decide +kernel
theorem d_X4_groups_13 : decode cX4_groups 13 = .ok (.aload_n 0, 1) := by decide +kernel
theorem d_X4_groups_14 : decode cX4_groups 14 = .ok (.getfield 41, 3) := by decide +kernel
theorem d_X4_groups_17 : decode cX4_groups 17 = .ok (.iload_n 2, 1) := by decide +kernel
theorem d_X4_groups_18 : decode cX4_groups 18 = .ok (.iaload, 1) := by decide +kernel
theorem d_X4_groups_19 : decode cX4_groups 19 = .ok (.iload_n 2, 1) := by decide +kernel
theorem d_X4_groups_20 : decode cX4_groups 20 = .ok (.if_icmp .ne 7, 3) := by decide +kernel
theorem d_X4_groups_23 : decode cX4_groups 23 = .ok (.iconst 1, 1) := by decide +kernel
theorem d_X4_groups_24 : decode cX4_groups 24 = .ok (.goto 4, 3) := by decide +kernel
theorem d_X4_groups_27 : decode cX4_groups 27 = .ok (.iconst 0, 1) := by decide +kernel
theorem d_X4_groups_28 : decode cX4_groups 28 = .ok (.iadd, 1) := by decide +kernel
theorem d_X4_groups_29 : decode cX4_groups 29 = .ok (.istore_n 1, 1) := by decide +kernel
theorem d_X4_groups_30 : decode cX4_groups 30 = .ok (.iinc 2 1, 3) := by decide +kernel
theorem d_X4_groups_33 : decode cX4_groups 33 = .ok (.goto (-29), 3) := by decide +kernel
theorem d_X4_groups_36 : decode cX4_groups 36 = .ok (.iload_n 1, 1) := by decide +kernel
theorem d_X4_groups_37 : decode cX4_groups 37 = .ok (.ireturn, 1) := by decide +kernel
def k_X4_groups_0 (P : xP) (C4 : xK) : xK := x_push (.int 0) (x_istore 1 (x_push (.int 0) (x_istore 2 (C4))))
set_option maxRecDepth 20000 in
theorem t_X4_groups_0 {p : Program} {l : Launch} {e : Env} {s : State} {m : MethodId} {args : Array Value} {below : List Frame} {meth : Method} {c : Code} {g : xG} (X : xX p s m args c meth cX4_groups RX4 3 g) (hr : meth.sig.returnType = (some .int)) {P : xP} {C4 : xK} (h4 : xAt p l e { frames := 0, cells := 0, slots := 0, locals := 0 } s m args below meth c g 3 xFT xN 0 0 (MQ below (xQc g xFT xN P) args s 0 0 (xFr g)) C4 4) : xAt p l e { frames := 0, cells := 0, slots := 0, locals := 0 } s m args below meth c g 3 xFT xN 0 0 (MQ below (xQc g xFT xN P) args s 0 0 (xFr g)) (k_X4_groups_0 P C4) 0 := by
  unfold k_X4_groups_0
  refine r_iconst (pc := 0) X d_X4_groups_0 (by decide +kernel) ?_
  refine r_istore_n (pc := 1) X d_X4_groups_1 fn1 (by decide +kernel) ?_
  refine r_iconst (pc := 2) X d_X4_groups_2 (by decide +kernel) ?_
  refine r_istore_n (pc := 3) X d_X4_groups_3 fn2 (by decide +kernel) ?_
  exact h4
def k_X4_groups_28 (P : xP) (C4 : xK) : xK := x_iadd (x_istore 1 (x_iinc 2 1 (C4)))
set_option maxRecDepth 20000 in
theorem t_X4_groups_28 {p : Program} {l : Launch} {e : Env} {s : State} {m : MethodId} {args : Array Value} {below : List Frame} {meth : Method} {c : Code} {g : xG} (X : xX p s m args c meth cX4_groups RX4 3 g) (hr : meth.sig.returnType = (some .int)) {P : xP} {C4 : xK} (h4 : xAt p l e { frames := 0, cells := 0, slots := 0, locals := 0 } s m args below meth c g 3 xFT xN 0 0 (MQ below (xQc g xFT xN P) args s 0 0 (xFr g)) C4 4) : xAt p l e { frames := 0, cells := 0, slots := 0, locals := 0 } s m args below meth c g 3 xFT xN 0 0 (MQ below (xQc g xFT xN P) args s 0 0 (xFr g)) (k_X4_groups_28 P C4) 28 := by
  unfold k_X4_groups_28
  refine r_iadd (pc := 28) X d_X4_groups_28 ?_
  refine r_istore_n (pc := 29) X d_X4_groups_29 fn1 (by decide +kernel) ?_
  refine r_iinc (pc := 30) X d_X4_groups_30 (by decide +kernel) (by decide +kernel) ?_
  refine r_goto (pc := 33) (tgt := 4) X d_X4_groups_33 (by decide +kernel) ?_
  exact h4
def k_X4_groups_4 (P : xP) (C4 : xK) : xK := x_iload 2 (x_aload 0 (x_getI xN 4 3 (x_icmp_ge (x_iload 1 (x_iret P)) (x_iload 1 (x_aload 0 (x_getF xN xFT 4 13 (x_iload 2 (x_iald xN (x_iload 2 (x_icmp_ne (x_push (.int 0) ((k_X4_groups_28 P C4))) (x_push (.int 1) ((k_X4_groups_28 P C4)))))))))))))
set_option maxRecDepth 20000 in
theorem t_X4_groups_4 {p : Program} {l : Launch} {e : Env} {s : State} {m : MethodId} {args : Array Value} {below : List Frame} {meth : Method} {c : Code} {g : xG} (X : xX p s m args c meth cX4_groups RX4 3 g) (hr : meth.sig.returnType = (some .int)) {P : xP} {C4 : xK} (h4 : xAt p l e { frames := 0, cells := 0, slots := 0, locals := 0 } s m args below meth c g 3 xFT xN 0 0 (MQ below (xQc g xFT xN P) args s 0 0 (xFr g)) C4 4) : xAt p l e { frames := 0, cells := 0, slots := 0, locals := 0 } s m args below meth c g 3 xFT xN 0 0 (MQ below (xQc g xFT xN P) args s 0 0 (xFr g)) (k_X4_groups_4 P C4) 4 := by
  unfold k_X4_groups_4
  refine r_iload_n (pc := 4) X d_X4_groups_4 fn2 ?_
  refine r_aload_n (pc := 5) X d_X4_groups_5 fn0 ?_
  refine r_getI (pc := 6) X xok4 (by decide +kernel) (by decide +kernel) fl_RX4_9 d_X4_groups_6 ?_
  refine r_icmp_ge (pc := 9) (tgt := 36) X d_X4_groups_9 (by decide +kernel) ?_ ?_
  · refine r_iload_n (pc := 36) X d_X4_groups_36 fn1 ?_
    exact r_iret (pc := 37) X hr d_X4_groups_37
  · refine r_iload_n (pc := 12) X d_X4_groups_12 fn1 ?_
    refine r_aload_n (pc := 13) X d_X4_groups_13 fn0 ?_
    refine r_getF (pc := 14) X xok4 (by decide +kernel) (by decide +kernel) fl_RX4_41 d_X4_groups_14 ?_
    refine r_iload_n (pc := 17) X d_X4_groups_17 fn2 ?_
    refine r_iald (pc := 18) X d_X4_groups_18 ?_
    refine r_iload_n (pc := 19) X d_X4_groups_19 fn2 ?_
    refine r_icmp_ne (pc := 20) (tgt := 27) X d_X4_groups_20 (by decide +kernel) ?_ ?_
    · refine r_iconst (pc := 27) X d_X4_groups_27 (by decide +kernel) ?_
      exact t_X4_groups_28 X hr h4
    · refine r_iconst (pc := 23) X d_X4_groups_23 (by decide +kernel) ?_
      refine r_goto (pc := 24) (tgt := 28) X d_X4_groups_24 (by decide +kernel) ?_
      exact t_X4_groups_28 X hr h4
set_option maxRecDepth 20000 in
theorem m_X4_groups {l : Launch} {f : Nat → xH → xP → Prop}  {I4 : Nat → xH → xP → xM → xK}
    (v0 : ∀ (a0 : Nat) (A : xH) (P : xP), f a0 A P → k_X4_groups_0 P (xE (I4 a0 A P)) [some (.ref a0), none, none] [] A)
    (v4 : ∀ (a0 : Nat) (A : xH) (P : xP), f a0 A P → ∀ (μ : xM) (L : xL) (st : List Value) (B : xH), I4 a0 A P μ L st B → k_X4_groups_4 P (xB (I4 a0 A P) μ) L st B) : xCon l yX4_groups cX4_groups 3 (some .int) 0 0 xN xN 0 xFT xFT (w_R f) := by
  refine xc_R (plainFor_of_name pn_RX4) (by decide +kernel) (fun p e s m args below meth c g a0 A P h X hr _ => ?_)
  have h4 := x_loop1 (p := p) (l := l) (e := e) (R := { frames := 0, cells := 0, slots := 0, locals := 0 }) (s := s) (m := m) (args := args) (below := below) (meth := meth) (c := c) (g := g) (nL := 3) (F := xFT) (n := xN) (cells := 0) (slots := 0) (Q := MQ below (xQc g xFT xN P) args s 0 0 (xFr g)) (I := I4 a0 A P) (pc1 := 4) (fun μ i4 => xAt_mono (t_X4_groups_4 (P := P) X hr i4) (v4 a0 A P h μ))
  exact ⟨_, v0 a0 A P h, t_X4_groups_0 X hr h4⟩
theorem d_X4_groupSize_0 : decode cX4_groupSize 0 = .ok (.iconst 0, 1) := by decide +kernel
theorem d_X4_groupSize_1 : decode cX4_groupSize 1 = .ok (.istore_n 2, 1) := by decide +kernel
theorem d_X4_groupSize_2 : decode cX4_groupSize 2 = .ok (.iconst 0, 1) := by decide +kernel
theorem d_X4_groupSize_3 : decode cX4_groupSize 3 = .ok (.istore_n 3, 1) := by decide +kernel
theorem d_X4_groupSize_4 : decode cX4_groupSize 4 = .ok (.iload_n 3, 1) := by decide +kernel
theorem d_X4_groupSize_5 : decode cX4_groupSize 5 = .ok (.aload_n 0, 1) := by decide +kernel
theorem d_X4_groupSize_6 : decode cX4_groupSize 6 = .ok (.getfield 9, 3) := by decide +kernel
theorem d_X4_groupSize_9 : decode cX4_groupSize 9 = .ok (.if_icmp .ge 27, 3) := by decide +kernel
theorem d_X4_groupSize_12 : decode cX4_groupSize 12 = .ok (.iload_n 2, 1) := by decide +kernel
theorem d_X4_groupSize_13 : decode cX4_groupSize 13 = .ok (.aload_n 0, 1) := by decide +kernel
theorem d_X4_groupSize_14 : decode cX4_groupSize 14 = .ok (.getfield 41, 3) := by decide +kernel
theorem d_X4_groupSize_17 : decode cX4_groupSize 17 = .ok (.iload_n 3, 1) := by decide +kernel
theorem d_X4_groupSize_18 : decode cX4_groupSize 18 = .ok (.iaload, 1) := by decide +kernel
theorem d_X4_groupSize_19 : decode cX4_groupSize 19 = .ok (.iload_n 1, 1) := by decide +kernel
theorem d_X4_groupSize_20 : decode cX4_groupSize 20 = .ok (.if_icmp .ne 7, 3) := by decide +kernel
theorem d_X4_groupSize_23 : decode cX4_groupSize 23 = .ok (.iconst 1, 1) := by decide +kernel
theorem d_X4_groupSize_24 : decode cX4_groupSize 24 = .ok (.goto 4, 3) := by decide +kernel
theorem d_X4_groupSize_27 : decode cX4_groupSize 27 = .ok (.iconst 0, 1) := by decide +kernel
theorem d_X4_groupSize_28 : decode cX4_groupSize 28 = .ok (.iadd, 1) := by decide +kernel
theorem d_X4_groupSize_29 : decode cX4_groupSize 29 = .ok (.istore_n 2, 1) := by decide +kernel
theorem d_X4_groupSize_30 : decode cX4_groupSize 30 = .ok (.iinc 3 1, 3) := by decide +kernel
theorem d_X4_groupSize_33 : decode cX4_groupSize 33 = .ok (.goto (-29), 3) := by decide +kernel
theorem d_X4_groupSize_36 : decode cX4_groupSize 36 = .ok (.iload_n 2, 1) := by decide +kernel
theorem d_X4_groupSize_37 : decode cX4_groupSize 37 = .ok (.ireturn, 1) := by decide +kernel
def k_X4_groupSize_0 (P : xP) (C4 : xK) : xK := x_push (.int 0) (x_istore 2 (x_push (.int 0) (x_istore 3 (C4))))
set_option maxRecDepth 20000 in
theorem t_X4_groupSize_0 {p : Program} {l : Launch} {e : Env} {s : State} {m : MethodId} {args : Array Value} {below : List Frame} {meth : Method} {c : Code} {g : xG} (X : xX p s m args c meth cX4_groupSize RX4 4 g) (hr : meth.sig.returnType = (some .int)) {P : xP} {C4 : xK} (h4 : xAt p l e { frames := 0, cells := 0, slots := 0, locals := 0 } s m args below meth c g 4 xFT xN 0 0 (MQ below (xQc g xFT xN P) args s 0 0 (xFr g)) C4 4) : xAt p l e { frames := 0, cells := 0, slots := 0, locals := 0 } s m args below meth c g 4 xFT xN 0 0 (MQ below (xQc g xFT xN P) args s 0 0 (xFr g)) (k_X4_groupSize_0 P C4) 0 := by
  unfold k_X4_groupSize_0
  refine r_iconst (pc := 0) X d_X4_groupSize_0 (by decide +kernel) ?_
  refine r_istore_n (pc := 1) X d_X4_groupSize_1 fn2 (by decide +kernel) ?_
  refine r_iconst (pc := 2) X d_X4_groupSize_2 (by decide +kernel) ?_
  refine r_istore_n (pc := 3) X d_X4_groupSize_3 fn3 (by decide +kernel) ?_
  exact h4
def k_X4_groupSize_28 (P : xP) (C4 : xK) : xK := x_iadd (x_istore 2 (x_iinc 3 1 (C4)))
set_option maxRecDepth 20000 in
theorem t_X4_groupSize_28 {p : Program} {l : Launch} {e : Env} {s : State} {m : MethodId} {args : Array Value} {below : List Frame} {meth : Method} {c : Code} {g : xG} (X : xX p s m args c meth cX4_groupSize RX4 4 g) (hr : meth.sig.returnType = (some .int)) {P : xP} {C4 : xK} (h4 : xAt p l e { frames := 0, cells := 0, slots := 0, locals := 0 } s m args below meth c g 4 xFT xN 0 0 (MQ below (xQc g xFT xN P) args s 0 0 (xFr g)) C4 4) : xAt p l e { frames := 0, cells := 0, slots := 0, locals := 0 } s m args below meth c g 4 xFT xN 0 0 (MQ below (xQc g xFT xN P) args s 0 0 (xFr g)) (k_X4_groupSize_28 P C4) 28 := by
  unfold k_X4_groupSize_28
  refine r_iadd (pc := 28) X d_X4_groupSize_28 ?_
  refine r_istore_n (pc := 29) X d_X4_groupSize_29 fn2 (by decide +kernel) ?_
  refine r_iinc (pc := 30) X d_X4_groupSize_30 (by decide +kernel) (by decide +kernel) ?_
  refine r_goto (pc := 33) (tgt := 4) X d_X4_groupSize_33 (by decide +kernel) ?_
  exact h4
def k_X4_groupSize_4 (P : xP) (C4 : xK) : xK := x_iload 3 (x_aload 0 (x_getI xN 4 3 (x_icmp_ge (x_iload 2 (x_iret P)) (x_iload 2 (x_aload 0 (x_getF xN xFT 4 13 (x_iload 3 (x_iald xN (x_iload 1 (x_icmp_ne (x_push (.int 0) ((k_X4_groupSize_28 P C4))) (x_push (.int 1) ((k_X4_groupSize_28 P C4)))))))))))))
set_option maxRecDepth 20000 in
theorem t_X4_groupSize_4 {p : Program} {l : Launch} {e : Env} {s : State} {m : MethodId} {args : Array Value} {below : List Frame} {meth : Method} {c : Code} {g : xG} (X : xX p s m args c meth cX4_groupSize RX4 4 g) (hr : meth.sig.returnType = (some .int)) {P : xP} {C4 : xK} (h4 : xAt p l e { frames := 0, cells := 0, slots := 0, locals := 0 } s m args below meth c g 4 xFT xN 0 0 (MQ below (xQc g xFT xN P) args s 0 0 (xFr g)) C4 4) : xAt p l e { frames := 0, cells := 0, slots := 0, locals := 0 } s m args below meth c g 4 xFT xN 0 0 (MQ below (xQc g xFT xN P) args s 0 0 (xFr g)) (k_X4_groupSize_4 P C4) 4 := by
  unfold k_X4_groupSize_4
  refine r_iload_n (pc := 4) X d_X4_groupSize_4 fn3 ?_
  refine r_aload_n (pc := 5) X d_X4_groupSize_5 fn0 ?_
  refine r_getI (pc := 6) X xok4 (by decide +kernel) (by decide +kernel) fl_RX4_9 d_X4_groupSize_6 ?_
  refine r_icmp_ge (pc := 9) (tgt := 36) X d_X4_groupSize_9 (by decide +kernel) ?_ ?_
  · refine r_iload_n (pc := 36) X d_X4_groupSize_36 fn2 ?_
    exact r_iret (pc := 37) X hr d_X4_groupSize_37
  · refine r_iload_n (pc := 12) X d_X4_groupSize_12 fn2 ?_
    refine r_aload_n (pc := 13) X d_X4_groupSize_13 fn0 ?_
    refine r_getF (pc := 14) X xok4 (by decide +kernel) (by decide +kernel) fl_RX4_41 d_X4_groupSize_14 ?_
    refine r_iload_n (pc := 17) X d_X4_groupSize_17 fn3 ?_
    refine r_iald (pc := 18) X d_X4_groupSize_18 ?_
    refine r_iload_n (pc := 19) X d_X4_groupSize_19 fn1 ?_
    refine r_icmp_ne (pc := 20) (tgt := 27) X d_X4_groupSize_20 (by decide +kernel) ?_ ?_
    · refine r_iconst (pc := 27) X d_X4_groupSize_27 (by decide +kernel) ?_
      exact t_X4_groupSize_28 X hr h4
    · refine r_iconst (pc := 23) X d_X4_groupSize_23 (by decide +kernel) ?_
      refine r_goto (pc := 24) (tgt := 28) X d_X4_groupSize_24 (by decide +kernel) ?_
      exact t_X4_groupSize_28 X hr h4
set_option maxRecDepth 20000 in
theorem m_X4_groupSize {l : Launch} {f : Nat → Int32 → xH → xP → Prop}  {I4 : Nat → Int32 → xH → xP → xM → xK}
    (v0 : ∀ (a0 : Nat) (a1 : Int32) (A : xH) (P : xP), f a0 a1 A P → k_X4_groupSize_0 P (xE (I4 a0 a1 A P)) [some (.ref a0), some (.int a1), none, none] [] A)
    (v4 : ∀ (a0 : Nat) (a1 : Int32) (A : xH) (P : xP), f a0 a1 A P → ∀ (μ : xM) (L : xL) (st : List Value) (B : xH), I4 a0 a1 A P μ L st B → k_X4_groupSize_4 P (xB (I4 a0 a1 A P) μ) L st B) : xCon l yX4_groupSize cX4_groupSize 4 (some .int) 0 0 xN xN 0 xFT xFT (w_RI f) := by
  refine xc_RI (plainFor_of_name pn_RX4) (by decide +kernel) (fun p e s m args below meth c g a0 a1 A P h X hr _ => ?_)
  have h4 := x_loop1 (p := p) (l := l) (e := e) (R := { frames := 0, cells := 0, slots := 0, locals := 0 }) (s := s) (m := m) (args := args) (below := below) (meth := meth) (c := c) (g := g) (nL := 4) (F := xFT) (n := xN) (cells := 0) (slots := 0) (Q := MQ below (xQc g xFT xN P) args s 0 0 (xFr g)) (I := I4 a0 a1 A P) (pc1 := 4) (fun μ i4 => xAt_mono (t_X4_groupSize_4 (P := P) X hr i4) (v4 a0 a1 A P h μ))
  exact ⟨_, v0 a0 a1 A P h, t_X4_groupSize_0 X hr h4⟩
theorem d_X4_symbolAt_0 : decode cX4_symbolAt 0 = .ok (.iload_n 1, 1) := by decide +kernel
theorem d_X4_symbolAt_1 : decode cX4_symbolAt 1 = .ok (.ifCond .lt 38, 3) := by decide +kernel
theorem d_X4_symbolAt_4 : decode cX4_symbolAt 4 = .ok (.iload_n 1, 1) := by decide +kernel
theorem d_X4_symbolAt_5 : decode cX4_symbolAt 5 = .ok (.aload_n 0, 1) := by decide +kernel
theorem d_X4_symbolAt_6 : decode cX4_symbolAt 6 = .ok (.getfield 53, 3) := by decide +kernel
theorem d_X4_symbolAt_9 : decode cX4_symbolAt 9 = .ok (.if_icmp .ge 30, 3) := by decide +kernel
theorem d_X4_symbolAt_12 : decode cX4_symbolAt 12 = .ok (.iload_n 2, 1) := by decide +kernel
theorem d_X4_symbolAt_13 : decode cX4_symbolAt 13 = .ok (.ifCond .lt 26, 3) := by decide +kernel
theorem d_X4_symbolAt_16 : decode cX4_symbolAt 16 = .ok (.iload_n 2, 1) := by decide +kernel
theorem d_X4_symbolAt_17 : decode cX4_symbolAt 17 = .ok (.aload_n 0, 1) := by decide +kernel
theorem d_X4_symbolAt_18 : decode cX4_symbolAt 18 = .ok (.getfield 26, 3) := by decide +kernel
theorem d_X4_symbolAt_21 : decode cX4_symbolAt 21 = .ok (.iload_n 1, 1) := by decide +kernel
theorem d_X4_symbolAt_22 : decode cX4_symbolAt 22 = .ok (.iaload, 1) := by decide +kernel
theorem d_X4_symbolAt_23 : decode cX4_symbolAt 23 = .ok (.if_icmp .ge 16, 3) := by decide +kernel
theorem d_X4_symbolAt_26 : decode cX4_symbolAt 26 = .ok (.aload_n 0, 1) := by decide +kernel
theorem d_X4_symbolAt_27 : decode cX4_symbolAt 27 = .ok (.getfield 32, 3) := by decide +kernel
theorem d_X4_symbolAt_30 : decode cX4_symbolAt 30 = .ok (.iload_n 1, 1) := by decide +kernel
theorem d_X4_symbolAt_31 : decode cX4_symbolAt 31 = .ok (.iconst 3, 1) := by decide +kernel
theorem d_X4_symbolAt_32 : decode cX4_symbolAt 32 = .ok (.imul, 1) := by decide +kernel
theorem d_X4_symbolAt_33 : decode cX4_symbolAt 33 = .ok (.iload_n 2, 1) := by decide +kernel
theorem d_X4_symbolAt_34 : decode cX4_symbolAt 34 = .ok (.iadd, 1) := by decide +kernel
theorem d_X4_symbolAt_35 : decode cX4_symbolAt 35 = .ok (.iaload, 1) := by decide +kernel
theorem d_X4_symbolAt_36 : decode cX4_symbolAt 36 = .ok (.goto 4, 3) := by decide +kernel
theorem d_X4_symbolAt_39 : decode cX4_symbolAt 39 = .ok (.iconst (-1), 1) := by decide +kernel
theorem d_X4_symbolAt_40 : decode cX4_symbolAt 40 = .ok (.ireturn, 1) := by decide +kernel
def k_X4_symbolAt_40 (P : xP) : xK := x_iret P
set_option maxRecDepth 20000 in
theorem t_X4_symbolAt_40 {p : Program} {l : Launch} {e : Env} {s : State} {m : MethodId} {args : Array Value} {below : List Frame} {meth : Method} {c : Code} {g : xG} (X : xX p s m args c meth cX4_symbolAt RX4 3 g) (hr : meth.sig.returnType = (some .int)) {P : xP} : xAt p l e { frames := 0, cells := 0, slots := 0, locals := 0 } s m args below meth c g 3 xFT xN 0 0 (MQ below (xQc g xFT xN P) args s 0 0 (xFr g)) (k_X4_symbolAt_40 P) 40 := by
  unfold k_X4_symbolAt_40
  exact r_iret (pc := 40) X hr d_X4_symbolAt_40
def k_X4_symbolAt_39 (P : xP) : xK := x_push (.int (-1)) ((k_X4_symbolAt_40 P))
set_option maxRecDepth 20000 in
theorem t_X4_symbolAt_39 {p : Program} {l : Launch} {e : Env} {s : State} {m : MethodId} {args : Array Value} {below : List Frame} {meth : Method} {c : Code} {g : xG} (X : xX p s m args c meth cX4_symbolAt RX4 3 g) (hr : meth.sig.returnType = (some .int)) {P : xP} : xAt p l e { frames := 0, cells := 0, slots := 0, locals := 0 } s m args below meth c g 3 xFT xN 0 0 (MQ below (xQc g xFT xN P) args s 0 0 (xFr g)) (k_X4_symbolAt_39 P) 39 := by
  unfold k_X4_symbolAt_39
  refine r_iconst (pc := 39) X d_X4_symbolAt_39 (by decide +kernel) ?_
  exact t_X4_symbolAt_40 X hr
def k_X4_symbolAt_0 (P : xP) : xK := x_iload 1 (x_if_lt ((k_X4_symbolAt_39 P)) (x_iload 1 (x_aload 0 (x_getI xN 4 2 (x_icmp_ge ((k_X4_symbolAt_39 P)) (x_iload 2 (x_if_lt ((k_X4_symbolAt_39 P)) (x_iload 2 (x_aload 0 (x_getF xN xFT 4 8 (x_iload 1 (x_iald xN (x_icmp_ge ((k_X4_symbolAt_39 P)) (x_aload 0 (x_getF xN xFT 4 10 (x_iload 1 (x_push (.int 3) (x_imul (x_iload 2 (x_iadd (x_iald xN ((k_X4_symbolAt_40 P)))))))))))))))))))))))
set_option maxRecDepth 20000 in
theorem t_X4_symbolAt_0 {p : Program} {l : Launch} {e : Env} {s : State} {m : MethodId} {args : Array Value} {below : List Frame} {meth : Method} {c : Code} {g : xG} (X : xX p s m args c meth cX4_symbolAt RX4 3 g) (hr : meth.sig.returnType = (some .int)) {P : xP} : xAt p l e { frames := 0, cells := 0, slots := 0, locals := 0 } s m args below meth c g 3 xFT xN 0 0 (MQ below (xQc g xFT xN P) args s 0 0 (xFr g)) (k_X4_symbolAt_0 P) 0 := by
  unfold k_X4_symbolAt_0
  refine r_iload_n (pc := 0) X d_X4_symbolAt_0 fn1 ?_
  refine r_if_lt (pc := 1) (tgt := 39) X d_X4_symbolAt_1 (by decide +kernel) ?_ ?_
  · exact t_X4_symbolAt_39 X hr
  · refine r_iload_n (pc := 4) X d_X4_symbolAt_4 fn1 ?_
    refine r_aload_n (pc := 5) X d_X4_symbolAt_5 fn0 ?_
    refine r_getI (pc := 6) X xok4 (by decide +kernel) (by decide +kernel) fl_RX4_53 d_X4_symbolAt_6 ?_
    refine r_icmp_ge (pc := 9) (tgt := 39) X d_X4_symbolAt_9 (by decide +kernel) ?_ ?_
    · exact t_X4_symbolAt_39 X hr
    · refine r_iload_n (pc := 12) X d_X4_symbolAt_12 fn2 ?_
      refine r_if_lt (pc := 13) (tgt := 39) X d_X4_symbolAt_13 (by decide +kernel) ?_ ?_
      · exact t_X4_symbolAt_39 X hr
      · refine r_iload_n (pc := 16) X d_X4_symbolAt_16 fn2 ?_
        refine r_aload_n (pc := 17) X d_X4_symbolAt_17 fn0 ?_
        refine r_getF (pc := 18) X xok4 (by decide +kernel) (by decide +kernel) fl_RX4_26 d_X4_symbolAt_18 ?_
        refine r_iload_n (pc := 21) X d_X4_symbolAt_21 fn1 ?_
        refine r_iald (pc := 22) X d_X4_symbolAt_22 ?_
        refine r_icmp_ge (pc := 23) (tgt := 39) X d_X4_symbolAt_23 (by decide +kernel) ?_ ?_
        · exact t_X4_symbolAt_39 X hr
        · refine r_aload_n (pc := 26) X d_X4_symbolAt_26 fn0 ?_
          refine r_getF (pc := 27) X xok4 (by decide +kernel) (by decide +kernel) fl_RX4_32 d_X4_symbolAt_27 ?_
          refine r_iload_n (pc := 30) X d_X4_symbolAt_30 fn1 ?_
          refine r_iconst (pc := 31) X d_X4_symbolAt_31 (by decide +kernel) ?_
          refine r_imul (pc := 32) X d_X4_symbolAt_32 ?_
          refine r_iload_n (pc := 33) X d_X4_symbolAt_33 fn2 ?_
          refine r_iadd (pc := 34) X d_X4_symbolAt_34 ?_
          refine r_iald (pc := 35) X d_X4_symbolAt_35 ?_
          refine r_goto (pc := 36) (tgt := 40) X d_X4_symbolAt_36 (by decide +kernel) ?_
          exact t_X4_symbolAt_40 X hr
set_option maxRecDepth 20000 in
theorem m_X4_symbolAt {l : Launch} {f : Nat → Int32 → Int32 → xH → xP → Prop} 
    (v0 : ∀ (a0 : Nat) (a1 : Int32) (a2 : Int32) (A : xH) (P : xP), f a0 a1 a2 A P → k_X4_symbolAt_0 P [some (.ref a0), some (.int a1), some (.int a2)] [] A) : xCon l yX4_symbolAt cX4_symbolAt 3 (some .int) 0 0 xN xN 0 xFT xFT (w_RII f) := by
  refine xc_RII (plainFor_of_name pn_RX4) (by decide +kernel) (fun p e s m args below meth c g a0 a1 a2 A P h X hr _ => ?_)
  exact ⟨_, v0 a0 a1 a2 A P h, t_X4_symbolAt_0 X hr⟩
def f_X4_groups (b : Nat) (A : xH) (P : xP) : Prop := ∃ v, isM A b v ∧ P (some (.int (nI (cnt (fun i => vcl v i = i) (vN v))))) A
theorem con_X4_groups (l : Launch) : xCon l yX4_groups cX4_groups 3 (some .int) 0 0 xN xN 0 xFT xFT (w_R f_X4_groups) := by
  refine m_X4_groups (I4 := fun b A P μ L st B => ∃ v i, isM A b v ∧ P (some (.int (nI (cnt (fun i => vcl v i = i) (vN v))))) A ∧ B = A ∧ st = [] ∧ i ≤ vN v ∧ L = [some (.ref b), some (.int (nI (cnt (fun i => vcl v i = i) i))), some (.int (nI i))] ∧ μ = (vN v - i, 0, 0)) ?_ ?_
  · rintro b A P ⟨v, hM, hP⟩
    simp only [k_X4_groups_0, k_X4_groups_4, k_X4_groups_28, x_aload, x_getF, x_getI, x_iadd, x_iald, x_icmp_ge, x_icmp_ne, x_iinc, x_iload, x_iret, x_istore, x_push, xFT, xbool0, xbool1, Nat.reduceAdd, Nat.zero_add, xgl_0, xgl_s, xgl_n, xst_0, xst_1n, xst_1i, xst_1r, xst_1l, xst_s, set_0, set_s, true_and, and_true, xres, xcat_nil, xcat_i, xcat_r, xcat_l, Nat.add_zero, xble0, xble1, xble2, xble3, xble4, xble5, xble6, xble7, xble8]
    exact ⟨_, v, 0, hM, hP, rfl, rfl, by omega, rfl, rfl⟩
  · rintro b A P - μ L st B ⟨v, i, hM, hP, rfl, rfl, hi, rfl, rfl⟩
    have hM0 := hM
    have hN := isM_N hM
    obtain ⟨⟨⟨m1, ⟨-, -, -, -, -, -, -, -, ml⟩, ⟨-, -, -, -, -, -, -, -, mt⟩, ⟨-, -, -, -, -, -, -, -, ms⟩, -⟩, hw, -⟩, hc, ⟨e3, -⟩, hg⟩ := hM
    change xi B b 3 = nI (vN v) at e3
    simp only [k_X4_groups_0, k_X4_groups_4, k_X4_groups_28, x_aload, x_getF, x_getI, x_iadd, x_iald, x_icmp_ge, x_icmp_ne, x_iinc, x_iload, x_iret, x_istore, x_push, xFT, xbool0, xbool1, Nat.reduceAdd, Nat.zero_add, xgl_0, xgl_s, xgl_n, xst_0, xst_1n, xst_1i, xst_1r, xst_1l, xst_s, set_0, set_s, true_and, and_true, xres, xcat_nil, xcat_i, xcat_r, xcat_l, Nat.add_zero, xble0, xble1, xble2, xble3, xble4, xble5, xble6, xble7, xble8, m1, ml, mt, ms, e3]
    refine ⟨fun h => ?_, fun h => ?_⟩
    · simp (disch := omega) only [Int32.lt_iff_toInt_lt, Int32.le_iff_toInt_le, ← Int32.toInt_inj, nI_toInt, Int32.reduceToInt, n_m1, ne_eq, not_true_eq_false, not_false_eq_true] at h
      have : i = vN v := by omega
      subst this
      exact hP
    · simp (disch := omega) only [Int32.lt_iff_toInt_lt, Int32.le_iff_toInt_le, ← Int32.toInt_inj, nI_toInt, Int32.reduceToInt, n_m1, ne_eq, not_true_eq_false, not_false_eq_true] at h
      rw [n_cl (by omega), hg i (by omega)]
      refine ⟨(n_in (by omega) (by omega)).mpr (by omega), fun h => ?_, fun h => ?_⟩
      · refine xB1 (b := vN v - (i + 1)) (by omega) ⟨v, i + 1, hM0, hP, rfl, rfl, by omega, ?_, rfl⟩
        have : ¬ vcl v i = i := fun e => h (by rw [e])
        simp [cnt, this, nI_1]
      · refine xB1 (b := vN v - (i + 1)) (by omega) ⟨v, i + 1, hM0, hP, rfl, rfl, by omega, ?_, rfl⟩
        have hc := (hc i (by omega)).1
        have : vcl v i = i := (nI_eq (by omega) (by omega)).mp h
        simp [cnt, this, nI_1]
/-- how many items are in a class; the class told by any number -/
def f_X4_groupSize (b : Nat) (x : Int32) (A : xH) (P : xP) : Prop := ∃ v c, isM A b v ∧ x = nI c ∧ c < 42 ∧ P (some (.int (nI (cnt (fun i => vcl v i = c) (vN v))))) A
theorem con_X4_groupSize (l : Launch) : xCon l yX4_groupSize cX4_groupSize 4 (some .int) 0 0 xN xN 0 xFT xFT (w_RI f_X4_groupSize) := by
  refine m_X4_groupSize (I4 := fun b x A P μ L st B => ∃ v c i, isM A b v ∧ x = nI c ∧ c < 42 ∧ P (some (.int (nI (cnt (fun i => vcl v i = c) (vN v))))) A ∧ B = A ∧ st = [] ∧ i ≤ vN v ∧ L = [some (.ref b), some (.int x), some (.int (nI (cnt (fun i => vcl v i = c) i))), some (.int (nI i))] ∧ μ = (vN v - i, 0, 0)) ?_ ?_
  · rintro b x A P ⟨v, c, hM, hx, hc, hP⟩
    simp only [k_X4_groupSize_0, k_X4_groupSize_4, k_X4_groupSize_28, x_aload, x_getF, x_getI, x_iadd, x_iald, x_icmp_ge, x_icmp_ne, x_iinc, x_iload, x_iret, x_istore, x_push, xFT, xbool0, xbool1, Nat.reduceAdd, Nat.zero_add, xgl_0, xgl_s, xgl_n, xst_0, xst_1n, xst_1i, xst_1r, xst_1l, xst_s, set_0, set_s, true_and, and_true, xres, xcat_nil, xcat_i, xcat_r, xcat_l, Nat.add_zero, xble0, xble1, xble2, xble3, xble4, xble5, xble6, xble7, xble8]
    exact ⟨_, v, c, 0, hM, hx, hc, hP, rfl, rfl, by omega, rfl, rfl⟩
  · rintro b x A P - μ L st B ⟨v, c, i, hM, rfl, hcl, hP, rfl, rfl, hi, rfl, rfl⟩
    have hM0 := hM
    have hN := isM_N hM
    obtain ⟨⟨⟨m1, ⟨-, -, -, -, -, -, -, -, ml⟩, ⟨-, -, -, -, -, -, -, -, mt⟩, ⟨-, -, -, -, -, -, -, -, ms⟩, -⟩, hw, -⟩, hc, ⟨e3, -⟩, hg⟩ := hM
    change xi B b 3 = nI (vN v) at e3
    simp only [k_X4_groupSize_0, k_X4_groupSize_4, k_X4_groupSize_28, x_aload, x_getF, x_getI, x_iadd, x_iald, x_icmp_ge, x_icmp_ne, x_iinc, x_iload, x_iret, x_istore, x_push, xFT, xbool0, xbool1, Nat.reduceAdd, Nat.zero_add, xgl_0, xgl_s, xgl_n, xst_0, xst_1n, xst_1i, xst_1r, xst_1l, xst_s, set_0, set_s, true_and, and_true, xres, xcat_nil, xcat_i, xcat_r, xcat_l, Nat.add_zero, xble0, xble1, xble2, xble3, xble4, xble5, xble6, xble7, xble8, m1, ml, mt, ms, e3]
    refine ⟨fun h => ?_, fun h => ?_⟩
    · simp (disch := omega) only [Int32.lt_iff_toInt_lt, Int32.le_iff_toInt_le, ← Int32.toInt_inj, nI_toInt, Int32.reduceToInt, n_m1, ne_eq, not_true_eq_false, not_false_eq_true] at h
      have : i = vN v := by omega
      subst this
      exact hP
    · simp (disch := omega) only [Int32.lt_iff_toInt_lt, Int32.le_iff_toInt_le, ← Int32.toInt_inj, nI_toInt, Int32.reduceToInt, n_m1, ne_eq, not_true_eq_false, not_false_eq_true] at h
      rw [n_cl (by omega), hg i (by omega)]
      refine ⟨(n_in (by omega) (by omega)).mpr (by omega), fun h => ?_, fun h => ?_⟩
      · refine xB1 (b := vN v - (i + 1)) (by omega) ⟨v, c, i + 1, hM0, rfl, hcl, hP, rfl, rfl, by omega, ?_, rfl⟩
        have : ¬ vcl v i = c := fun e => h (by rw [e])
        simp [cnt, this, nI_1]
      · refine xB1 (b := vN v - (i + 1)) (by omega) ⟨v, c, i + 1, hM0, rfl, hcl, hP, rfl, rfl, by omega, ?_, rfl⟩
        have hc2 := (hc i (by omega)).1
        have : vcl v i = c := (nI_eq (by omega) (by omega)).mp h
        simp [cnt, this, nI_1]
def f_X4_symbolAt (b : Nat) (r t : Int32) (A : xH) (P : xP) : Prop := ∃ v, isM A b v ∧ ∀ x, vsym v r t x → P (some (.int x)) A
theorem con_X4_symbolAt (l : Launch) : xCon l yX4_symbolAt cX4_symbolAt 3 (some .int) 0 0 xN xN 0 xFT xFT (w_RII f_X4_symbolAt) := by
  refine m_X4_symbolAt ?_
  rintro b r t A P ⟨v, hM, hP⟩
  obtain ⟨⟨⟨m1, ⟨-, -, -, l8, -, l10, -⟩, ⟨-, -, -, t8, -, t10, -⟩, ⟨-, -, -, s8, -, s10, -⟩, -⟩, ⟨w1, w2, w3, w4, w5⟩, ⟨-, -, e2, -⟩, -, -, hr⟩, -⟩ := hM
  have no : (¬ ∃ r' t' : Nat, r = nI r' ∧ t = nI t' ∧ r' < vR v ∧ t' < vrs v r') → P (some (.int (-1))) A := fun h => hP _ ⟨fun r' t' h1 h2 h3 h4 => absurd ⟨r', t', h1, h2, h3, h4⟩ h, fun _ => rfl⟩
  simp only [k_X4_symbolAt_0, k_X4_symbolAt_39, k_X4_symbolAt_40, x_aload, x_getF, x_getI, x_iadd, x_iald, x_icmp_ge, x_if_lt, x_iload, x_imul, x_iret, x_push, xFT, xbool0, xbool1, Nat.reduceAdd, Nat.zero_add, xgl_0, xgl_s, xgl_n, xst_0, xst_1n, xst_1i, xst_1r, xst_1l, xst_s, set_0, set_s, true_and, and_true, xres, xcat_nil, xcat_i, xcat_r, xcat_l, Nat.add_zero, xble0, xble1, xble2, xble3, xble4, xble5, xble6, xble7, xble8, m1, l8, l10, t8, t10, s8, s10, e2]
  rcases n_case r with h | ⟨r', hr', rfl⟩
  · have hn := n_neg h
    refine ⟨fun _ => no ?_, fun h2 => absurd h h2⟩
    rintro ⟨r', t', rfl, -, h3, -⟩
    rw [nI_toInt (by omega)] at hn
    omega
  · refine ⟨fun h => absurd h (nI_pos (by omega)), fun _ => ⟨fun h => ?_, fun h => ?_⟩⟩
    · simp (disch := omega) only [Int32.lt_iff_toInt_lt, Int32.le_iff_toInt_le, ← Int32.toInt_inj, nI_toInt, Int32.reduceToInt, n_m1, ne_eq, not_true_eq_false, not_false_eq_true] at h
      refine no ?_
      rintro ⟨r2, t2, h1, -, h3, -⟩
      simp (disch := omega) only [Int32.lt_iff_toInt_lt, Int32.le_iff_toInt_le, ← Int32.toInt_inj, nI_toInt, Int32.reduceToInt, n_m1, ne_eq, not_true_eq_false, not_false_eq_true] at h1
      omega
    · simp (disch := omega) only [Int32.lt_iff_toInt_lt, Int32.le_iff_toInt_le, ← Int32.toInt_inj, nI_toInt, Int32.reduceToInt, n_m1, ne_eq, not_true_eq_false, not_false_eq_true] at h
      rw [n_cl (by omega), (hr r' (by omega)).2.1]
      have hrs := (w5 r' (by omega)).2.1
      rcases n_case t with h5 | ⟨t', ht', rfl⟩
      · have hn := n_neg h5
        refine ⟨fun _ => no ?_, fun h2 => absurd h5 h2⟩
        rintro ⟨r2, t2, -, rfl, h3, h4⟩
        have := (w5 r2 h3).2.1
        rw [nI_toInt (by omega)] at hn
        omega
      · refine ⟨fun h => absurd h (nI_pos (by omega)), fun _ => ⟨(n_in (by omega) (by omega)).mpr (by omega), fun h6 => ?_, fun h6 => ?_⟩⟩
        · simp (disch := omega) only [Int32.lt_iff_toInt_lt, Int32.le_iff_toInt_le, ← Int32.toInt_inj, nI_toInt, Int32.reduceToInt, n_m1, ne_eq, not_true_eq_false, not_false_eq_true] at h6
          refine no ?_
          rintro ⟨r2, t2, h1, h2, h3, h4⟩
          have := (w5 r2 h3).2.1
          simp (disch := omega) only [Int32.lt_iff_toInt_lt, Int32.le_iff_toInt_le, ← Int32.toInt_inj, nI_toInt, Int32.reduceToInt, n_m1, ne_eq, not_true_eq_false, not_false_eq_true] at h1 h2
          have : r2 = r' := by omega
          subst this
          omega
        · simp (disch := omega) only [Int32.lt_iff_toInt_lt, Int32.le_iff_toInt_le, ← Int32.toInt_inj, nI_toInt, Int32.reduceToInt, n_m1, ne_eq, not_true_eq_false, not_false_eq_true] at h6
          have e : nI r' * 3 + nI t' = nI (r' * 3 + t') := by
            rw [show (3 : Int32) = nI 3 from rfl, pk_mul, nI_add]
          rw [e, n_cl (by omega), (hr r' (by omega)).2.2 t' (by omega)]
          refine ⟨(n_in (by omega) (by omega)).mpr (by omega), hP _ ⟨fun r2 t2 h1 h2 h3 h4 => ?_, fun hno => absurd ⟨r', t', rfl, rfl, by omega, by omega⟩ hno⟩⟩
          have := (w5 r2 h3).2.1
          simp (disch := omega) only [Int32.lt_iff_toInt_lt, Int32.le_iff_toInt_le, ← Int32.toInt_inj, nI_toInt, Int32.reduceToInt, n_m1, ne_eq, not_true_eq_false, not_false_eq_true] at h1 h2
          have e1 : r2 = r' := by omega
          have e2 : t2 = t' := by omega
          rw [e1, e2]

