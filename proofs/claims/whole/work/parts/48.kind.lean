/-! ===== KINDS: bits ===== -/
theorem d_X3_within_0 : decode cX3_within 0 = .ok (.iconst 1, 1) := by decide +kernel
theorem d_X3_within_1 : decode cX3_within 1 = .ok (.istore 4, 2) := by decide +kernel
theorem d_X3_within_3 : decode cX3_within 3 = .ok (.iconst 0, 1) := by decide +kernel
theorem d_X3_within_4 : decode cX3_within 4 = .ok (.istore 5, 2) := by decide +kernel
theorem d_X3_within_6 : decode cX3_within 6 = .ok (.iload 5, 2) := by decide +kernel
theorem d_X3_within_8 : decode cX3_within 8 = .ok (.aload_n 0, 1) := by decide +kernel
theorem d_X3_within_9 : decode cX3_within 9 = .ok (.getfield 63, 3) := by decide +kernel
theorem d_X3_within_12 : decode cX3_within 12 = .ok (.iload_n 1, 1) := by decide +kernel
theorem d_X3_within_13 : decode cX3_within 13 = .ok (.iaload, 1) := by decide +kernel
theorem d_X3_within_14 : decode cX3_within 14 = .ok (.if_icmp .ge 55, 3) := by decide +kernel
theorem d_X3_within_17 : decode cX3_within 17 = .ok (.aload_n 0, 1) := by decide +kernel
theorem d_X3_within_18 : decode cX3_within 18 = .ok (.iload_n 1, 1) := by decide +kernel
theorem d_X3_within_19 : decode cX3_within 19 = .ok (.iload 5, 2) := by decide +kernel
theorem d_X3_within_21 : decode cX3_within 21 = .ok (.invokevirtual 66, 3) := by decide +kernel
theorem d_X3_within_24 : decode cX3_within 24 = .ok (.bipush 8, 2) := by decide +kernel
theorem d_X3_within_26 : decode cX3_within 26 = .ok (.isub, 1) := by decide +kernel
theorem d_X3_within_27 : decode cX3_within 27 = .ok (.istore 6, 2) := by decide +kernel
theorem d_X3_within_29 : decode cX3_within 29 = .ok (.iload 4, 2) := by decide +kernel
theorem d_X3_within_31 : decode cX3_within 31 = .ok (.ifCond .eq 29, 3) := by decide +kernel
theorem d_X3_within_34 : decode cX3_within 34 = .ok (.iload 6, 2) := by decide +kernel
theorem d_X3_within_36 : decode cX3_within 36 = .ok (.ifCond .ge 10, 3) := by decide +kernel
theorem d_X3_within_39 : decode cX3_within 39 = .ok (.iload_n 3, 1) := by decide +kernel
theorem d_X3_within_40 : decode cX3_within 40 = .ok (.ifCond .eq 20, 3) := by decide +kernel
theorem d_X3_within_43 : decode cX3_within 43 = .ok (.goto 13, 3) := by decide +kernel
theorem d_X3_within_46 : decode cX3_within 46 = .ok (.iload_n 2, 1) := by decide +kernel
theorem d_X3_within_47 : decode cX3_within 47 = .ok (.iload 6, 2) := by decide +kernel
theorem d_X3_within_49 : decode cX3_within 49 = .ok (.ishr, 1) := by decide +kernel
theorem d_X3_within_50 : decode cX3_within 50 = .ok (.iconst 1, 1) := by decide +kernel
theorem d_X3_within_51 : decode cX3_within 51 = .ok (.iand, 1) := by decide +kernel
theorem d_X3_within_52 : decode cX3_within 52 = .ok (.iconst 1, 1) := by decide +kernel
theorem d_X3_within_53 : decode cX3_within 53 = .ok (.if_icmp .ne 7, 3) := by decide +kernel
theorem d_X3_within_56 : decode cX3_within 56 = .ok (.iconst 1, 1) := by decide +kernel
theorem d_X3_within_57 : decode cX3_within 57 = .ok (.goto 4, 3) := by decide +kernel
theorem d_X3_within_60 : decode cX3_within 60 = .ok (.iconst 0, 1) := by decide +kernel
theorem d_X3_within_61 : decode cX3_within 61 = .ok (.istore 4, 2) := by decide +kernel
theorem d_X3_within_63 : decode cX3_within 63 = .ok (.iinc 5 1, 3) := by decide +kernel
theorem d_X3_within_66 : decode cX3_within 66 = .ok (.goto (-60), 3) := by decide +kernel
theorem d_X3_within_69 : decode cX3_within 69 = .ok (.iload 4, 2) := by decide +kernel
theorem d_X3_within_71 : decode cX3_within 71 = .ok (.ireturn, 1) := by decide +kernel
def k_X3_within_0 (P : xP) (C6 : xK) : xK := x_push (.int 1) (x_istore 4 (x_push (.int 0) (x_istore 5 (C6))))
set_option maxRecDepth 20000 in
theorem t_X3_within_0 {p : Program} {l : Launch} {e : Env} {s : State} {m : MethodId} {args : Array Value} {below : List Frame} {meth : Method} {c : Code} {g : xG} (X : xX p s m args c meth cX3_within RX3 7 g) (hr : meth.sig.returnType = (some .boolean)) {P : xP} {C6 : xK} (h6 : xAt p l e { frames := 1, cells := 0, slots := 0, locals := 22 } s m args below meth c g 7 xFT xN 0 0 (MQ below (xQc g xFT xN P) args s 0 0 (xFr g)) C6 6) : xAt p l e { frames := 1, cells := 0, slots := 0, locals := 22 } s m args below meth c g 7 xFT xN 0 0 (MQ below (xQc g xFT xN P) args s 0 0 (xFr g)) (k_X3_within_0 P C6) 0 := by
  unfold k_X3_within_0
  refine r_iconst (pc := 0) X d_X3_within_0 (by decide +kernel) ?_
  refine r_istore (pc := 1) X d_X3_within_1 (by decide +kernel) ?_
  refine r_iconst (pc := 3) X d_X3_within_3 (by decide +kernel) ?_
  refine r_istore (pc := 4) X d_X3_within_4 (by decide +kernel) ?_
  exact h6
def k_X3_within_61 (P : xP) (C6 : xK) : xK := x_istore 4 (x_iinc 5 1 (C6))
set_option maxRecDepth 20000 in
theorem t_X3_within_61 {p : Program} {l : Launch} {e : Env} {s : State} {m : MethodId} {args : Array Value} {below : List Frame} {meth : Method} {c : Code} {g : xG} (X : xX p s m args c meth cX3_within RX3 7 g) (hr : meth.sig.returnType = (some .boolean)) {P : xP} {C6 : xK} (h6 : xAt p l e { frames := 1, cells := 0, slots := 0, locals := 22 } s m args below meth c g 7 xFT xN 0 0 (MQ below (xQc g xFT xN P) args s 0 0 (xFr g)) C6 6) : xAt p l e { frames := 1, cells := 0, slots := 0, locals := 22 } s m args below meth c g 7 xFT xN 0 0 (MQ below (xQc g xFT xN P) args s 0 0 (xFr g)) (k_X3_within_61 P C6) 61 := by
  unfold k_X3_within_61
  refine r_istore (pc := 61) X d_X3_within_61 (by decide +kernel) ?_
  refine r_iinc (pc := 63) X d_X3_within_63 (by decide +kernel) (by decide +kernel) ?_
  refine r_goto (pc := 66) (tgt := 6) X d_X3_within_66 (by decide +kernel) ?_
  exact h6
def k_X3_within_60 (P : xP) (C6 : xK) : xK := x_push (.int 0) ((k_X3_within_61 P C6))
set_option maxRecDepth 20000 in
theorem t_X3_within_60 {p : Program} {l : Launch} {e : Env} {s : State} {m : MethodId} {args : Array Value} {below : List Frame} {meth : Method} {c : Code} {g : xG} (X : xX p s m args c meth cX3_within RX3 7 g) (hr : meth.sig.returnType = (some .boolean)) {P : xP} {C6 : xK} (h6 : xAt p l e { frames := 1, cells := 0, slots := 0, locals := 22 } s m args below meth c g 7 xFT xN 0 0 (MQ below (xQc g xFT xN P) args s 0 0 (xFr g)) C6 6) : xAt p l e { frames := 1, cells := 0, slots := 0, locals := 22 } s m args below meth c g 7 xFT xN 0 0 (MQ below (xQc g xFT xN P) args s 0 0 (xFr g)) (k_X3_within_60 P C6) 60 := by
  unfold k_X3_within_60
  refine r_iconst (pc := 60) X d_X3_within_60 (by decide +kernel) ?_
  exact t_X3_within_61 X hr h6
def k_X3_within_56 (P : xP) (C6 : xK) : xK := x_push (.int 1) ((k_X3_within_61 P C6))
set_option maxRecDepth 20000 in
theorem t_X3_within_56 {p : Program} {l : Launch} {e : Env} {s : State} {m : MethodId} {args : Array Value} {below : List Frame} {meth : Method} {c : Code} {g : xG} (X : xX p s m args c meth cX3_within RX3 7 g) (hr : meth.sig.returnType = (some .boolean)) {P : xP} {C6 : xK} (h6 : xAt p l e { frames := 1, cells := 0, slots := 0, locals := 22 } s m args below meth c g 7 xFT xN 0 0 (MQ below (xQc g xFT xN P) args s 0 0 (xFr g)) C6 6) : xAt p l e { frames := 1, cells := 0, slots := 0, locals := 22 } s m args below meth c g 7 xFT xN 0 0 (MQ below (xQc g xFT xN P) args s 0 0 (xFr g)) (k_X3_within_56 P C6) 56 := by
  unfold k_X3_within_56
  refine r_iconst (pc := 56) X d_X3_within_56 (by decide +kernel) ?_
  refine r_goto (pc := 57) (tgt := 61) X d_X3_within_57 (by decide +kernel) ?_
  exact t_X3_within_61 X hr h6
def k_X3_within_6 (P : xP) (C6 : xK) : xK := x_iload 5 (x_aload 0 (x_getF xN xFT 4 8 (x_iload 1 (x_iald xN (x_icmp_ge (x_iload 4 (x_zret P)) (x_aload 0 (x_iload 1 (x_iload 5 (x_cv2 xN 4 (w_RII f_X4_symbolAt) (x_push (.int 8) (x_isub (x_istore 6 (x_iload 4 (x_if_eq ((k_X3_within_60 P C6)) (x_iload 6 (x_if_ge (x_iload 2 (x_iload 6 (x_ishr (x_push (.int 1) (x_iand (x_push (.int 1) (x_icmp_ne ((k_X3_within_60 P C6)) ((k_X3_within_56 P C6))))))))) (x_iload 3 (x_if_eq ((k_X3_within_60 P C6)) ((k_X3_within_56 P C6))))))))))))))))))))
set_option maxRecDepth 20000 in
theorem t_X3_within_6 {p : Program} {l : Launch} {e : Env} {s : State} {m : MethodId} {args : Array Value} {below : List Frame} {meth : Method} {c : Code} {g : xG} (X : xX p s m args c meth cX3_within RX3 7 g) (hr : meth.sig.returnType = (some .boolean)) {P : xP} {C6 : xK} (h6 : xAt p l e { frames := 1, cells := 0, slots := 0, locals := 22 } s m args below meth c g 7 xFT xN 0 0 (MQ below (xQc g xFT xN P) args s 0 0 (xFr g)) C6 6) : xAt p l e { frames := 1, cells := 0, slots := 0, locals := 22 } s m args below meth c g 7 xFT xN 0 0 (MQ below (xQc g xFT xN P) args s 0 0 (xFr g)) (k_X3_within_6 P C6) 6 := by
  unfold k_X3_within_6
  refine r_iload (pc := 6) X d_X3_within_6 ?_
  refine r_aload_n (pc := 8) X d_X3_within_8 fn0 ?_
  refine r_getF (pc := 9) X xok4 (by decide +kernel) (by decide +kernel) fl_RX3_63 d_X3_within_9 ?_
  refine r_iload_n (pc := 12) X d_X3_within_12 fn1 ?_
  refine r_iald (pc := 13) X d_X3_within_13 ?_
  refine r_icmp_ge (pc := 14) (tgt := 69) X d_X3_within_14 (by decide +kernel) ?_ ?_
  · refine r_iload (pc := 69) X d_X3_within_69 ?_
    exact r_zret (pc := 71) X hr d_X3_within_71
  · refine r_aload_n (pc := 17) X d_X3_within_17 fn0 ?_
    refine r_iload_n (pc := 18) X d_X3_within_18 fn1 ?_
    refine r_iload (pc := 19) X d_X3_within_19 ?_
    refine r_cv2 (pc := 21) X xok4 (by decide +kernel) rfl (con_X4_symbolAt l) mf_X4_symbolAt ml_RX3_66 (by decide +kernel) (by decide +kernel) d_X3_within_21 ?_
    refine r_bipush (pc := 24) X d_X3_within_24 (by decide +kernel) ?_
    refine r_isub (pc := 26) X d_X3_within_26 ?_
    refine r_istore (pc := 27) X d_X3_within_27 (by decide +kernel) ?_
    refine r_iload (pc := 29) X d_X3_within_29 ?_
    refine r_if_eq (pc := 31) (tgt := 60) X d_X3_within_31 (by decide +kernel) ?_ ?_
    · exact t_X3_within_60 X hr h6
    · refine r_iload (pc := 34) X d_X3_within_34 ?_
      refine r_if_ge (pc := 36) (tgt := 46) X d_X3_within_36 (by decide +kernel) ?_ ?_
      · refine r_iload_n (pc := 46) X d_X3_within_46 fn2 ?_
        refine r_iload (pc := 47) X d_X3_within_47 ?_
        refine r_ishr (pc := 49) X d_X3_within_49 ?_
        refine r_iconst (pc := 50) X d_X3_within_50 (by decide +kernel) ?_
        refine r_iand (pc := 51) X d_X3_within_51 ?_
        refine r_iconst (pc := 52) X d_X3_within_52 (by decide +kernel) ?_
        refine r_icmp_ne (pc := 53) (tgt := 60) X d_X3_within_53 (by decide +kernel) ?_ ?_
        · exact t_X3_within_60 X hr h6
        · exact t_X3_within_56 X hr h6
      · refine r_iload_n (pc := 39) X d_X3_within_39 fn3 ?_
        refine r_if_eq (pc := 40) (tgt := 60) X d_X3_within_40 (by decide +kernel) ?_ ?_
        · exact t_X3_within_60 X hr h6
        · refine r_goto (pc := 43) (tgt := 56) X d_X3_within_43 (by decide +kernel) ?_
          exact t_X3_within_56 X hr h6
set_option maxRecDepth 20000 in
theorem m_X3_within {l : Launch} {f : Nat → Int32 → Int32 → Int32 → xH → xP → Prop}  {I6 : Nat → Int32 → Int32 → Int32 → xH → xP → xM → xK}
    (v0 : ∀ (a0 : Nat) (a1 : Int32) (a2 : Int32) (a3 : Int32) (A : xH) (P : xP), f a0 a1 a2 a3 A P → k_X3_within_0 P (xE (I6 a0 a1 a2 a3 A P)) [some (.ref a0), some (.int a1), some (.int a2), some (.int a3), none, none, none] [] A)
    (v6 : ∀ (a0 : Nat) (a1 : Int32) (a2 : Int32) (a3 : Int32) (A : xH) (P : xP), f a0 a1 a2 a3 A P → ∀ (μ : xM) (L : xL) (st : List Value) (B : xH), I6 a0 a1 a2 a3 A P μ L st B → k_X3_within_6 P (xB (I6 a0 a1 a2 a3 A P) μ) L st B) : xCon l yX3_within cX3_within 7 (some .boolean) 1 22 xN xN 0 xFT xFT (w_RIII f) := by
  refine xc_RIII (plainFor_of_name pn_RX3) (by decide +kernel) (fun p e s m args below meth c g a0 a1 a2 a3 A P h X hr _ => ?_)
  have h6 := x_loop1 (p := p) (l := l) (e := e) (R := { frames := 1, cells := 0, slots := 0, locals := 22 }) (s := s) (m := m) (args := args) (below := below) (meth := meth) (c := c) (g := g) (nL := 7) (F := xFT) (n := xN) (cells := 0) (slots := 0) (Q := MQ below (xQc g xFT xN P) args s 0 0 (xFr g)) (I := I6 a0 a1 a2 a3 A P) (pc1 := 6) (fun μ i6 => xAt_mono (t_X3_within_6 (P := P) X hr i6) (v6 a0 a1 a2 a3 A P h μ))
  exact ⟨_, v0 a0 a1 a2 a3 A P h, t_X3_within_0 X hr h6⟩
theorem d_X3_isEmpty_0 : decode cX3_isEmpty 0 = .ok (.iload_n 1, 1) := by decide +kernel
theorem d_X3_isEmpty_1 : decode cX3_isEmpty 1 = .ok (.bipush 8, 2) := by decide +kernel
theorem d_X3_isEmpty_3 : decode cX3_isEmpty 3 = .ok (.if_icmp .lt 22, 3) := by decide +kernel
theorem d_X3_isEmpty_6 : decode cX3_isEmpty 6 = .ok (.aload_n 0, 1) := by decide +kernel
theorem d_X3_isEmpty_7 : decode cX3_isEmpty 7 = .ok (.getfield 25, 3) := by decide +kernel
theorem d_X3_isEmpty_10 : decode cX3_isEmpty 10 = .ok (.iload_n 1, 1) := by decide +kernel
theorem d_X3_isEmpty_11 : decode cX3_isEmpty 11 = .ok (.bipush 8, 2) := by decide +kernel
theorem d_X3_isEmpty_13 : decode cX3_isEmpty 13 = .ok (.isub, 1) := by decide +kernel
theorem d_X3_isEmpty_14 : decode cX3_isEmpty 14 = .ok (.ishr, 1) := by decide +kernel
theorem d_X3_isEmpty_15 : decode cX3_isEmpty 15 = .ok (.iconst 1, 1) := by decide +kernel
theorem d_X3_isEmpty_16 : decode cX3_isEmpty 16 = .ok (.iand, 1) := by decide +kernel
theorem d_X3_isEmpty_17 : decode cX3_isEmpty 17 = .ok (.iconst 1, 1) := by decide +kernel
theorem d_X3_isEmpty_18 : decode cX3_isEmpty 18 = .ok (.if_icmp .ne 7, 3) := by decide +kernel
theorem d_X3_isEmpty_21 : decode cX3_isEmpty 21 = .ok (.iconst 1, 1) := by decide +kernel
theorem d_X3_isEmpty_22 : decode cX3_isEmpty 22 = .ok (.goto 4, 3) := by decide +kernel
theorem d_X3_isEmpty_25 : decode cX3_isEmpty 25 = .ok (.iconst 0, 1) := by decide +kernel
theorem d_X3_isEmpty_26 : decode cX3_isEmpty 26 = .ok (.ireturn, 1) := by decide +kernel
def k_X3_isEmpty_26 (P : xP) : xK := x_zret P
set_option maxRecDepth 20000 in
theorem t_X3_isEmpty_26 {p : Program} {l : Launch} {e : Env} {s : State} {m : MethodId} {args : Array Value} {below : List Frame} {meth : Method} {c : Code} {g : xG} (X : xX p s m args c meth cX3_isEmpty RX3 2 g) (hr : meth.sig.returnType = (some .boolean)) {P : xP} : xAt p l e { frames := 0, cells := 0, slots := 0, locals := 0 } s m args below meth c g 2 xFT xN 0 0 (MQ below (xQc g xFT xN P) args s 0 0 (xFr g)) (k_X3_isEmpty_26 P) 26 := by
  unfold k_X3_isEmpty_26
  exact r_zret (pc := 26) X hr d_X3_isEmpty_26
def k_X3_isEmpty_25 (P : xP) : xK := x_push (.int 0) ((k_X3_isEmpty_26 P))
set_option maxRecDepth 20000 in
theorem t_X3_isEmpty_25 {p : Program} {l : Launch} {e : Env} {s : State} {m : MethodId} {args : Array Value} {below : List Frame} {meth : Method} {c : Code} {g : xG} (X : xX p s m args c meth cX3_isEmpty RX3 2 g) (hr : meth.sig.returnType = (some .boolean)) {P : xP} : xAt p l e { frames := 0, cells := 0, slots := 0, locals := 0 } s m args below meth c g 2 xFT xN 0 0 (MQ below (xQc g xFT xN P) args s 0 0 (xFr g)) (k_X3_isEmpty_25 P) 25 := by
  unfold k_X3_isEmpty_25
  refine r_iconst (pc := 25) X d_X3_isEmpty_25 (by decide +kernel) ?_
  exact t_X3_isEmpty_26 X hr
def k_X3_isEmpty_0 (P : xP) : xK := x_iload 1 (x_push (.int 8) (x_icmp_lt ((k_X3_isEmpty_25 P)) (x_aload 0 (y_getI 35 1 (x_iload 1 (x_push (.int 8) (x_isub (x_ishr (x_push (.int 1) (x_iand (x_push (.int 1) (x_icmp_ne ((k_X3_isEmpty_25 P)) (x_push (.int 1) ((k_X3_isEmpty_26 P)))))))))))))))
set_option maxRecDepth 20000 in
theorem t_X3_isEmpty_0 {p : Program} {l : Launch} {e : Env} {s : State} {m : MethodId} {args : Array Value} {below : List Frame} {meth : Method} {c : Code} {g : xG} (X : xX p s m args c meth cX3_isEmpty RX3 2 g) (hr : meth.sig.returnType = (some .boolean)) {P : xP} : xAt p l e { frames := 0, cells := 0, slots := 0, locals := 0 } s m args below meth c g 2 xFT xN 0 0 (MQ below (xQc g xFT xN P) args s 0 0 (xFr g)) (k_X3_isEmpty_0 P) 0 := by
  unfold k_X3_isEmpty_0
  refine r_iload_n (pc := 0) X d_X3_isEmpty_0 fn1 ?_
  refine r_bipush (pc := 1) X d_X3_isEmpty_1 (by decide +kernel) ?_
  refine r_icmp_lt (pc := 3) (tgt := 25) X d_X3_isEmpty_3 (by decide +kernel) ?_ ?_
  · exact t_X3_isEmpty_25 X hr
  · refine r_aload_n (pc := 6) X d_X3_isEmpty_6 fn0 ?_
    refine s_getI (pc := 7) (ci := 3) X xok3 (by decide +kernel) ob_35 (by decide +kernel) fl_RX3_25 d_X3_isEmpty_7 ?_
    refine r_iload_n (pc := 10) X d_X3_isEmpty_10 fn1 ?_
    refine r_bipush (pc := 11) X d_X3_isEmpty_11 (by decide +kernel) ?_
    refine r_isub (pc := 13) X d_X3_isEmpty_13 ?_
    refine r_ishr (pc := 14) X d_X3_isEmpty_14 ?_
    refine r_iconst (pc := 15) X d_X3_isEmpty_15 (by decide +kernel) ?_
    refine r_iand (pc := 16) X d_X3_isEmpty_16 ?_
    refine r_iconst (pc := 17) X d_X3_isEmpty_17 (by decide +kernel) ?_
    refine r_icmp_ne (pc := 18) (tgt := 25) X d_X3_isEmpty_18 (by decide +kernel) ?_ ?_
    · exact t_X3_isEmpty_25 X hr
    · refine r_iconst (pc := 21) X d_X3_isEmpty_21 (by decide +kernel) ?_
      refine r_goto (pc := 22) (tgt := 26) X d_X3_isEmpty_22 (by decide +kernel) ?_
      exact t_X3_isEmpty_26 X hr
def f_X3_isEmpty (a0 : Nat) (a1 : Int32) (A : xH) (P : xP) : Prop := k_X3_isEmpty_0 P [some (.ref a0), some (.int a1)] [] A
set_option maxRecDepth 20000 in
theorem con_X3_isEmpty (l : Launch) : xCon l yX3_isEmpty cX3_isEmpty 2 (some .boolean) 0 0 xN xN 0 xFT xFT (w_RI f_X3_isEmpty) :=
  xc_RI (plainFor_of_name pn_RX3) (by decide +kernel) (fun p e s m args below meth c g a0 a1 A P h X hr _ => ⟨_, h, t_X3_isEmpty_0 X hr⟩)
def tst (x : Int32) (k : Nat) : Bool := x.toBitVec.getLsbD k
def bit (k : Nat) : Int32 := (1 : Int32) <<< (nI k &&& 31)
theorem sh_k : ∀ k, k < 32 → ((nI k &&& 31).toBitVec.smod 32).toNat = k := by decide +kernel
theorem shr_b (x : Int32) {k : Nat} (hk : k < 32) : (x >>> (nI k &&& 31)).toBitVec = x.toBitVec.sshiftRight k := by
  show x.toBitVec.sshiftRight ((nI k &&& 31).toBitVec.smod 32).toNat = _
  rw [sh_k k hk]
theorem tst_and (x : Int32) {k : Nat} (hk : k < 32) : x >>> (nI k &&& 31) &&& 1 = bI (tst x k) := by
  apply Int32.toBitVec_inj.mp
  show (x >>> (nI k &&& 31)).toBitVec &&& (1 : Int32).toBitVec = _
  rw [shr_b x hk]
  apply BitVec.eq_of_getLsbD_eq
  intro i hi
  rw [BitVec.getLsbD_and, BitVec.getLsbD_sshiftRight]
  have h1 : ∀ i, i < 32 → (1 : Int32).toBitVec.getLsbD i = decide (i = 0) := by decide +kernel
  have h2 : ∀ i, i < 32 → (bI true).toBitVec.getLsbD i = decide (i = 0) := by decide +kernel
  have h3 : ∀ i, i < 32 → (bI false).toBitVec.getLsbD i = false := by decide +kernel
  rw [h1 i hi]
  by_cases e : i = 0
  · subst e
    have h4 : k + 0 < 32 := by omega
    simp only [h4, hk, decide_true, Bool.and_true, if_true, Nat.add_zero]
    show (!decide (32 ≤ 0) && tst x k) = _
    cases hb : tst x k
    · rw [h3 0 (by omega)]; rfl
    · rw [h2 0 (by omega)]; rfl
  · simp only [e, decide_false, Bool.and_false]
    cases hb : tst x k
    · rw [h3 i hi]
    · rw [h2 i hi]; simp [e]
theorem tst_or (a b : Int32) (k : Nat) : tst (a ||| b) k = (tst a k || tst b k) := by
  unfold tst
  show (a.toBitVec ||| b.toBitVec).getLsbD k = _
  rw [BitVec.getLsbD_or]
theorem tst_bit {j k : Nat} (hj : j < 32) (hk : k < 32) : tst (bit j) k = decide (j = k) := by
  have key : ∀ j, j < 32 → ∀ k, k < 32 → tst (bit j) k = decide (j = k) := by decide +kernel
  exact key j hj k hk
theorem tst_0 {k : Nat} : tst 0 k = false := by
  unfold tst
  show (0#32).getLsbD k = false
  rw [BitVec.getLsbD_zero]
theorem tst_ext {a b : Int32} (h : ∀ k, k < 32 → tst a k = tst b k) : a = b := by
  apply Int32.toBitVec_inj.mp
  apply BitVec.eq_of_getLsbD_eq
  intro i hi
  exact h i hi
theorem bI_1t {b : Bool} : (bI b = 1) = (b = true) := by cases b <;> decide +kernel
theorem sub8_ge {s : Nat} (h : s < 2 ^ 30) : (0 ≤ nI s - nI 8) ↔ 8 ≤ s := by
  rw [Int32.le_iff_toInt_le, pk_sub_toInt h (by decide)]
  show (0 : Int) ≤ _ ↔ _
  omega
/-- what the class's grammar says -/
theorem M8 {A : xH} {v : xV} (h : isM A 8 v) : xi A 8 0 = nI (vS v) ∧ xi A 8 1 = nI (vK v) ∧ xi A 8 2 = nI (vR v) ∧ xi A 8 3 = nI (vN v) ∧ xi A 8 4 = nI (vD v) ∧ ∀ r, r < vR v → xi A 11 r = nI (vrk v r) ∧ xi A 12 r = nI (vrs v r) ∧ xi A 13 r = nI (vfst v r) :=
  ⟨h.1.2.2.1.1, h.1.2.2.1.2.1, h.1.2.2.1.2.2.1, h.2.2.1.1, h.1.2.2.1.2.2.2, fun r hr => ⟨(h.1.2.2.2.2.2 r hr).1, (h.1.2.2.2.2.2 r hr).2.1, h.2.2.1.2.1 r hr⟩⟩
theorem sy_C {A : xH} {P : xP} {m : Nat} {v : xV} {r t : Nat} (h : isM A m v) (hr : r < vR v) (ht : t < vrs v r) (hP : P (some (.int (nI (vsy v r t)))) A) : f_X4_symbolAt m (nI r) (nI t) A P :=
  ⟨v, h, fun x hx => by rw [hx.1 r t rfl rfl hr ht]; exact hP⟩
/-- a rule's shape -/
theorem wf_r {v : xV} (h : wfg v) {r : Nat} (hr : r < vR v) : vrk v r < vK v ∧ vrs v r ≤ 3 ∧ vR v ≤ 10 ∧ vK v ≤ 5 ∧ vS v ≤ 4 := ⟨(h.2.2.2.2 r hr).1, (h.2.2.2.2 r hr).2.1, h.2.2.1, h.2.1, h.1⟩
theorem wf_s {v : xV} (h : wfg v) {r t : Nat} (hr : r < vR v) (ht : t < vrs v r) : vsy v r t < 13 ∧ (vsy v r t < 8 → vsy v r t < 4) := by
  have := (h.2.2.2.2 r hr).2.2 t ht
  have h1 := h.1
  have h2 := h.2.1
  omega
/-- all symbols of a rule up to one are of a set -/
def wiF (v : xV) (r : Nat) (kn : Int32) (s : Bool) (but : Nat) : Nat → Bool
  | 0 => true
  | t + 1 => wiF v r kn s but t && (decide (t = but) || if vsy v r t < 8 then s else tst kn (vsy v r t - 8))
def wi (v : xV) (r : Nat) (kn : Int32) (s : Bool) (but : Nat) : Bool := wiF v r kn s but (vrs v r)
def f_X3_within (m : Nat) (x kn y : Int32) (A : xH) (P : xP) : Prop := m = 8 ∧ ∃ v r s, isM A 8 v ∧ r < vR v ∧ x = nI r ∧ y = bI s ∧ P (some (.int (bI (wi v r kn s 99)))) A
def witI (kn : Int32) (A : xH) (P : xP) : xM → xK := fun μ L st B => ∃ v r s t o, isM A 8 v ∧ r < vR v ∧ P (some (.int (bI (wi v r kn s 99)))) A ∧ t ≤ vrs v r ∧ B = A ∧ st = [] ∧ L = [some (.ref 8), some (.int (nI r)), some (.int kn), some (.int (bI s)), some (.int (bI (wiF v r kn s 99 t))), some (.int (nI t)), o] ∧ μ = (vrs v r - t, 0, 0)
set_option maxRecDepth 20000 in
theorem con_X3_within (l : Launch) : xCon l yX3_within cX3_within 7 (some .boolean) 1 22 xN xN 0 xFT xFT (w_RIII f_X3_within) := by
  refine m_X3_within (I6 := fun m x kn y A P => witI kn A P) ?_ ?_
  · rintro m x kn y A P ⟨rfl, v, r, s, hM, hr, rfl, rfl, hP⟩
    simp (disch := omega) only [k_X3_within_0, k_X3_within_6, k_X3_within_56, k_X3_within_60, k_X3_within_61, w_RII, x_aload, x_cv2, x_getF, x_iald, x_iand, x_icmp_ge, x_icmp_ne, x_if_eq, x_if_ge, x_iinc, x_iload, x_ishr, x_istore, x_isub, x_push, x_zret, xFT, xbool0, xbool1, Nat.reduceAdd, Nat.zero_add, xgl_0, xgl_s, xgl_n, xst_0, xst_1n, xst_1i, xst_1r, xst_1l, xst_s, set_0, set_s, true_and, and_true, xres, xcat_nil, xcat_i, xcat_r, xcat_l, Nat.add_zero, xble0, xble1, xble2, xble3, xble4, xble5, xble6, xble7, xble8, pk_mul, nI_add, nI_1, nI_leI, nI_ltI, nI_eq, n_in, n_cl, z_eq, z_lt, z_le, z_gt, z_ge, z_qe, o_eq, o_lt, o_le, o_gt, o_ge, vp0, vp1, cl0, cl1, n_sub, n_sub1, n_pm1, n_a0, n_0a, ofn, lN0, Nat.reduceLT, Nat.reduceLeDiff, Nat.reduceMul, Nat.reduceSub, Nat.reduceEqDiff, ne_eq, true_implies, false_implies, not_true_eq_false, not_false_eq_true, and_self, and_true, true_and, and_false, false_and, implies_true, if_true, if_false, i00, i10, i01, i11, ob_0, ob_1, tn_2, ln_2, ob_3, tn_4, ln_4, ob_5, tn_6, ln_6, tn_7, ln_7, ob_8, tn_9, ln_9, tn_10, ln_10, tn_11, ln_11, tn_12, ln_12, tn_13, ln_13, tn_14, ln_14, tn_15, ln_15, tn_16, ln_16, tn_17, ln_17, ob_18, tn_19, ln_19, tn_20, ln_20, tn_21, ln_21, tn_22, ln_22, tn_23, ln_23, tn_24, ln_24, tn_25, ln_25, tn_26, ln_26, tn_27, ln_27, ob_28, tn_29, ln_29, tn_30, ln_30, ob_31, tn_32, ln_32, tn_33, ln_33, ob_34, ob_35, tn_36, ln_36, tn_37, ln_37, tn_38, ln_38, ob_39, tn_40, ln_40, tn_41, ln_41, tn_42, ln_42, tn_43, ln_43, tn_44, ln_44, tn_45, ln_45, tn_46, ln_46, tn_47, ln_47, tn_48, ln_48, tn_49, ln_49, tn_50, ln_50, tn_51, ln_51, ob_52, tn_53, ln_53, tn_54, ln_54, tn_55, ln_55, tn_56, ln_56, ob_57, tn_58, ln_58, tn_59, ln_59, tn_60, ln_60, tn_61, ln_61, tn_62, ln_62, tn_63, ln_63, tn_64, ln_64, tn_65, ln_65, ob_66, tn_67, ln_67, tn_68, ln_68, tn_69, ln_69, tn_70, ln_70, tn_71, ln_71, tn_72, ln_72, tn_73, ln_73, ob_74, tn_75, ln_75, tn_76, ln_76, tn_77, ln_77, tn_78, ln_78, tn_79, ln_79, tn_80, ln_80, tn_81, ln_81, tn_82, ln_82, tn_83, ln_83, ob_84, tn_85, ln_85, tn_86, ln_86, tn_87, ln_87, tn_88, ln_88, tn_89, ln_89, tn_90, ln_90, tn_91, ln_91, tn_92, ln_92, tn_93, ln_93, ob_94, tn_95, ln_95, tn_96, ln_96, tn_97, ln_97, tn_98, ln_98, tn_99, ln_99, tn_100, ln_100, tn_101, ln_101, tn_102, ln_102, tn_103, ln_103, ob_104, tn_105, ln_105, tn_106, ln_106, tn_107, ln_107, tn_108, ln_108, tn_109, ln_109, tn_110, ln_110, tn_111, ln_111, tn_112, ln_112, tn_113, ln_113, ob_114, tn_115, ln_115, tn_116, ln_116, tn_117, ln_117, tn_118, ln_118, tn_119, ln_119, tn_120, ln_120, tn_121, ln_121, tn_122, ln_122, tn_123, ln_123, ob_124, tn_125, ln_125, tn_126, ln_126, tn_127, ln_127, tn_128, ln_128, tn_129, ln_129, tn_130, ln_130, tn_131, ln_131, tn_132, ln_132, tn_133, ln_133, ob_134, tn_135, ln_135, tn_136, ln_136, tn_137, ln_137, tn_138, ln_138, tn_139, ln_139, tn_140, ln_140, tn_141, ln_141, tn_142, ln_142, tn_143, ln_143, ob_144, tn_145, ln_145, tn_146, ln_146, tn_147, ln_147, tn_148, ln_148, tn_149, ln_149, tn_150, ln_150, tn_151, ln_151, tn_152, ln_152, tn_153, ln_153, ob_154, tn_155, ln_155, tn_156, ln_156, tn_157, ln_157, tn_158, ln_158, tn_159, ln_159, tn_160, ln_160, tn_161, ln_161, tn_162, ln_162, tn_163, ln_163, ob_164, tn_165, ln_165, tn_166, ln_166, ob_167, tn_168, ln_168, tn_169, ln_169, tn_170, ln_170, tn_171, ln_171, tn_172, ln_172, tn_173, ln_173, tn_174, ln_174, tn_175, ln_175, tn_176, ln_176, ob_177, tn_178, ln_178, tn_179, ln_179, ob_180, tn_181, ln_181, tn_182, ln_182, tn_183, ln_183, tn_184, ln_184, tn_185, ln_185, tn_186, ln_186, tn_187, ln_187, tn_188, ln_188, tn_189, ln_189, tn_190, ln_190, tn_191, ln_191, tn_192, ln_192, tn_193, ln_193, tn_194, ln_194, tn_195, ln_195, tn_196, ln_196, tn_197, ln_197, tn_198, ln_198, tn_199, ln_199, tn_200, ln_200, tn_201, ln_201, tn_202, ln_202, tn_203, ln_203, tn_204, ln_204, tn_205, ln_205, tn_206, ln_206, tn_207, ln_207, tn_208, ln_208, tn_209, ln_209, tn_210, ln_210, tn_211, ln_211, tn_212, ln_212, tn_213, ln_213, tn_214, ln_214, tn_215, ln_215, tn_216, ln_216, tn_217, ln_217, tn_218, ln_218, tn_219, ln_219, tn_220, ln_220, tn_221, ln_221, tn_222, ln_222, tn_223, ln_223, tn_224, ln_224, tn_225, ln_225, tn_226, ln_226, tn_227, ln_227, tn_228, ln_228, tn_229, ln_229, tn_230, ln_230, lx2, lx3, lx4, lx5, lx6, lx7, lx8, lx9, lx10, lx14, lx15, lx16, lx18, lx20, lx24, lx25, lx27, lx32, lx36, lx40, lx41, lx42, lx43, lx45, lx48, lx52, lx54, lx56, lx57, lx58, lx60, lx61, lx62, lx63, lx64, lx66, lx69, lx73, lx80, lx81, lx84, lx85, lx87, lx94, lx96, lx97, lx120, lx128, lx135, lx160, lx162, lx163, lx165, lx200, lx232, lx242, lx243, lx255, lx256, lx320, lx325, lx400, lx405, lx464, lx512, lx600, lx640, lx752, lx900, lx940, lx1000, lx1024, lx1764, lx3360, lx3840, lx5000, lx6400, lx9050, lx9998, lx9999, lx10000, lx25600, lx76800, lx99999]
    exact xE0 (vrs v r - 0, 0, 0) ⟨v, r, s, 0, none, hM, hr, hP, Nat.zero_le _, rfl, rfl, rfl, rfl⟩
  · rintro m x kn y A P - μ L st B ⟨v, r, s, t, o, hM, hr, hP, ht, rfl, rfl, rfl, rfl⟩
    have e12 := ((M8 hM).2.2.2.2.2 r hr).2.1
    have hw := wf_r hM.1.2.1 hr
    simp (disch := omega) only [k_X3_within_0, k_X3_within_6, k_X3_within_56, k_X3_within_60, k_X3_within_61, w_RII, x_aload, x_cv2, x_getF, x_iald, x_iand, x_icmp_ge, x_icmp_ne, x_if_eq, x_if_ge, x_iinc, x_iload, x_ishr, x_istore, x_isub, x_push, x_zret, xFT, xbool0, xbool1, Nat.reduceAdd, Nat.zero_add, xgl_0, xgl_s, xgl_n, xst_0, xst_1n, xst_1i, xst_1r, xst_1l, xst_s, set_0, set_s, true_and, and_true, xres, xcat_nil, xcat_i, xcat_r, xcat_l, Nat.add_zero, xble0, xble1, xble2, xble3, xble4, xble5, xble6, xble7, xble8, ob_8, ly_8_5, ly_8_6, ly_8_7, ly_8_8, ly_8_9, ly_8_10, ly_8_11, ly_8_12, ly_8_13, pk_mul, nI_add, nI_1, nI_leI, nI_ltI, nI_eq, n_in, n_cl, z_eq, z_lt, z_le, z_gt, z_ge, z_qe, o_eq, o_lt, o_le, o_gt, o_ge, vp0, vp1, cl0, cl1, n_sub, n_sub1, n_pm1, n_a0, n_0a, ofn, lN0, Nat.reduceLT, Nat.reduceLeDiff, Nat.reduceMul, Nat.reduceSub, Nat.reduceEqDiff, ne_eq, true_implies, false_implies, not_true_eq_false, not_false_eq_true, and_self, and_true, true_and, and_false, false_and, implies_true, if_true, if_false, i00, i10, i01, i11, ob_0, ob_1, tn_2, ln_2, ob_3, tn_4, ln_4, ob_5, tn_6, ln_6, tn_7, ln_7, ob_8, tn_9, ln_9, tn_10, ln_10, tn_11, ln_11, tn_12, ln_12, tn_13, ln_13, tn_14, ln_14, tn_15, ln_15, tn_16, ln_16, tn_17, ln_17, ob_18, tn_19, ln_19, tn_20, ln_20, tn_21, ln_21, tn_22, ln_22, tn_23, ln_23, tn_24, ln_24, tn_25, ln_25, tn_26, ln_26, tn_27, ln_27, ob_28, tn_29, ln_29, tn_30, ln_30, ob_31, tn_32, ln_32, tn_33, ln_33, ob_34, ob_35, tn_36, ln_36, tn_37, ln_37, tn_38, ln_38, ob_39, tn_40, ln_40, tn_41, ln_41, tn_42, ln_42, tn_43, ln_43, tn_44, ln_44, tn_45, ln_45, tn_46, ln_46, tn_47, ln_47, tn_48, ln_48, tn_49, ln_49, tn_50, ln_50, tn_51, ln_51, ob_52, tn_53, ln_53, tn_54, ln_54, tn_55, ln_55, tn_56, ln_56, ob_57, tn_58, ln_58, tn_59, ln_59, tn_60, ln_60, tn_61, ln_61, tn_62, ln_62, tn_63, ln_63, tn_64, ln_64, tn_65, ln_65, ob_66, tn_67, ln_67, tn_68, ln_68, tn_69, ln_69, tn_70, ln_70, tn_71, ln_71, tn_72, ln_72, tn_73, ln_73, ob_74, tn_75, ln_75, tn_76, ln_76, tn_77, ln_77, tn_78, ln_78, tn_79, ln_79, tn_80, ln_80, tn_81, ln_81, tn_82, ln_82, tn_83, ln_83, ob_84, tn_85, ln_85, tn_86, ln_86, tn_87, ln_87, tn_88, ln_88, tn_89, ln_89, tn_90, ln_90, tn_91, ln_91, tn_92, ln_92, tn_93, ln_93, ob_94, tn_95, ln_95, tn_96, ln_96, tn_97, ln_97, tn_98, ln_98, tn_99, ln_99, tn_100, ln_100, tn_101, ln_101, tn_102, ln_102, tn_103, ln_103, ob_104, tn_105, ln_105, tn_106, ln_106, tn_107, ln_107, tn_108, ln_108, tn_109, ln_109, tn_110, ln_110, tn_111, ln_111, tn_112, ln_112, tn_113, ln_113, ob_114, tn_115, ln_115, tn_116, ln_116, tn_117, ln_117, tn_118, ln_118, tn_119, ln_119, tn_120, ln_120, tn_121, ln_121, tn_122, ln_122, tn_123, ln_123, ob_124, tn_125, ln_125, tn_126, ln_126, tn_127, ln_127, tn_128, ln_128, tn_129, ln_129, tn_130, ln_130, tn_131, ln_131, tn_132, ln_132, tn_133, ln_133, ob_134, tn_135, ln_135, tn_136, ln_136, tn_137, ln_137, tn_138, ln_138, tn_139, ln_139, tn_140, ln_140, tn_141, ln_141, tn_142, ln_142, tn_143, ln_143, ob_144, tn_145, ln_145, tn_146, ln_146, tn_147, ln_147, tn_148, ln_148, tn_149, ln_149, tn_150, ln_150, tn_151, ln_151, tn_152, ln_152, tn_153, ln_153, ob_154, tn_155, ln_155, tn_156, ln_156, tn_157, ln_157, tn_158, ln_158, tn_159, ln_159, tn_160, ln_160, tn_161, ln_161, tn_162, ln_162, tn_163, ln_163, ob_164, tn_165, ln_165, tn_166, ln_166, ob_167, tn_168, ln_168, tn_169, ln_169, tn_170, ln_170, tn_171, ln_171, tn_172, ln_172, tn_173, ln_173, tn_174, ln_174, tn_175, ln_175, tn_176, ln_176, ob_177, tn_178, ln_178, tn_179, ln_179, ob_180, tn_181, ln_181, tn_182, ln_182, tn_183, ln_183, tn_184, ln_184, tn_185, ln_185, tn_186, ln_186, tn_187, ln_187, tn_188, ln_188, tn_189, ln_189, tn_190, ln_190, tn_191, ln_191, tn_192, ln_192, tn_193, ln_193, tn_194, ln_194, tn_195, ln_195, tn_196, ln_196, tn_197, ln_197, tn_198, ln_198, tn_199, ln_199, tn_200, ln_200, tn_201, ln_201, tn_202, ln_202, tn_203, ln_203, tn_204, ln_204, tn_205, ln_205, tn_206, ln_206, tn_207, ln_207, tn_208, ln_208, tn_209, ln_209, tn_210, ln_210, tn_211, ln_211, tn_212, ln_212, tn_213, ln_213, tn_214, ln_214, tn_215, ln_215, tn_216, ln_216, tn_217, ln_217, tn_218, ln_218, tn_219, ln_219, tn_220, ln_220, tn_221, ln_221, tn_222, ln_222, tn_223, ln_223, tn_224, ln_224, tn_225, ln_225, tn_226, ln_226, tn_227, ln_227, tn_228, ln_228, tn_229, ln_229, tn_230, ln_230, lx2, lx3, lx4, lx5, lx6, lx7, lx8, lx9, lx10, lx14, lx15, lx16, lx18, lx20, lx24, lx25, lx27, lx32, lx36, lx40, lx41, lx42, lx43, lx45, lx48, lx52, lx54, lx56, lx57, lx58, lx60, lx61, lx62, lx63, lx64, lx66, lx69, lx73, lx80, lx81, lx84, lx85, lx87, lx94, lx96, lx97, lx120, lx128, lx135, lx160, lx162, lx163, lx165, lx200, lx232, lx242, lx243, lx255, lx256, lx320, lx325, lx400, lx405, lx464, lx512, lx600, lx640, lx752, lx900, lx940, lx1000, lx1024, lx1764, lx3360, lx3840, lx5000, lx6400, lx9050, lx9998, lx9999, lx10000, lx25600, lx76800, lx99999, e12, show r < 10 by omega]
    refine ⟨fun a => ?_, fun a => sy_C hM hr (by omega) ?_⟩
    · have : t = vrs v r := by omega
      subst this
      exact ⟨bI_bool _, hP⟩
    · have hs := wf_s hM.1.2.1 hr (show t < vrs v r by omega)
      simp (disch := omega) only [k_X3_within_0, k_X3_within_6, k_X3_within_56, k_X3_within_60, k_X3_within_61, w_RII, x_aload, x_cv2, x_getF, x_iald, x_iand, x_icmp_ge, x_icmp_ne, x_if_eq, x_if_ge, x_iinc, x_iload, x_ishr, x_istore, x_isub, x_push, x_zret, xFT, xbool0, xbool1, Nat.reduceAdd, Nat.zero_add, xgl_0, xgl_s, xgl_n, xst_0, xst_1n, xst_1i, xst_1r, xst_1l, xst_s, set_0, set_s, true_and, and_true, xres, xcat_nil, xcat_i, xcat_r, xcat_l, Nat.add_zero, xble0, xble1, xble2, xble3, xble4, xble5, xble6, xble7, xble8, pk_mul, nI_add, nI_1, nI_leI, nI_ltI, nI_eq, n_in, n_cl, z_eq, z_lt, z_le, z_gt, z_ge, z_qe, o_eq, o_lt, o_le, o_gt, o_ge, vp0, vp1, cl0, cl1, n_sub, n_sub1, n_pm1, n_a0, n_0a, ofn, lN0, Nat.reduceLT, Nat.reduceLeDiff, Nat.reduceMul, Nat.reduceSub, Nat.reduceEqDiff, ne_eq, true_implies, false_implies, not_true_eq_false, not_false_eq_true, and_self, and_true, true_and, and_false, false_and, implies_true, if_true, if_false, i00, i10, i01, i11, ob_0, ob_1, tn_2, ln_2, ob_3, tn_4, ln_4, ob_5, tn_6, ln_6, tn_7, ln_7, ob_8, tn_9, ln_9, tn_10, ln_10, tn_11, ln_11, tn_12, ln_12, tn_13, ln_13, tn_14, ln_14, tn_15, ln_15, tn_16, ln_16, tn_17, ln_17, ob_18, tn_19, ln_19, tn_20, ln_20, tn_21, ln_21, tn_22, ln_22, tn_23, ln_23, tn_24, ln_24, tn_25, ln_25, tn_26, ln_26, tn_27, ln_27, ob_28, tn_29, ln_29, tn_30, ln_30, ob_31, tn_32, ln_32, tn_33, ln_33, ob_34, ob_35, tn_36, ln_36, tn_37, ln_37, tn_38, ln_38, ob_39, tn_40, ln_40, tn_41, ln_41, tn_42, ln_42, tn_43, ln_43, tn_44, ln_44, tn_45, ln_45, tn_46, ln_46, tn_47, ln_47, tn_48, ln_48, tn_49, ln_49, tn_50, ln_50, tn_51, ln_51, ob_52, tn_53, ln_53, tn_54, ln_54, tn_55, ln_55, tn_56, ln_56, ob_57, tn_58, ln_58, tn_59, ln_59, tn_60, ln_60, tn_61, ln_61, tn_62, ln_62, tn_63, ln_63, tn_64, ln_64, tn_65, ln_65, ob_66, tn_67, ln_67, tn_68, ln_68, tn_69, ln_69, tn_70, ln_70, tn_71, ln_71, tn_72, ln_72, tn_73, ln_73, ob_74, tn_75, ln_75, tn_76, ln_76, tn_77, ln_77, tn_78, ln_78, tn_79, ln_79, tn_80, ln_80, tn_81, ln_81, tn_82, ln_82, tn_83, ln_83, ob_84, tn_85, ln_85, tn_86, ln_86, tn_87, ln_87, tn_88, ln_88, tn_89, ln_89, tn_90, ln_90, tn_91, ln_91, tn_92, ln_92, tn_93, ln_93, ob_94, tn_95, ln_95, tn_96, ln_96, tn_97, ln_97, tn_98, ln_98, tn_99, ln_99, tn_100, ln_100, tn_101, ln_101, tn_102, ln_102, tn_103, ln_103, ob_104, tn_105, ln_105, tn_106, ln_106, tn_107, ln_107, tn_108, ln_108, tn_109, ln_109, tn_110, ln_110, tn_111, ln_111, tn_112, ln_112, tn_113, ln_113, ob_114, tn_115, ln_115, tn_116, ln_116, tn_117, ln_117, tn_118, ln_118, tn_119, ln_119, tn_120, ln_120, tn_121, ln_121, tn_122, ln_122, tn_123, ln_123, ob_124, tn_125, ln_125, tn_126, ln_126, tn_127, ln_127, tn_128, ln_128, tn_129, ln_129, tn_130, ln_130, tn_131, ln_131, tn_132, ln_132, tn_133, ln_133, ob_134, tn_135, ln_135, tn_136, ln_136, tn_137, ln_137, tn_138, ln_138, tn_139, ln_139, tn_140, ln_140, tn_141, ln_141, tn_142, ln_142, tn_143, ln_143, ob_144, tn_145, ln_145, tn_146, ln_146, tn_147, ln_147, tn_148, ln_148, tn_149, ln_149, tn_150, ln_150, tn_151, ln_151, tn_152, ln_152, tn_153, ln_153, ob_154, tn_155, ln_155, tn_156, ln_156, tn_157, ln_157, tn_158, ln_158, tn_159, ln_159, tn_160, ln_160, tn_161, ln_161, tn_162, ln_162, tn_163, ln_163, ob_164, tn_165, ln_165, tn_166, ln_166, ob_167, tn_168, ln_168, tn_169, ln_169, tn_170, ln_170, tn_171, ln_171, tn_172, ln_172, tn_173, ln_173, tn_174, ln_174, tn_175, ln_175, tn_176, ln_176, ob_177, tn_178, ln_178, tn_179, ln_179, ob_180, tn_181, ln_181, tn_182, ln_182, tn_183, ln_183, tn_184, ln_184, tn_185, ln_185, tn_186, ln_186, tn_187, ln_187, tn_188, ln_188, tn_189, ln_189, tn_190, ln_190, tn_191, ln_191, tn_192, ln_192, tn_193, ln_193, tn_194, ln_194, tn_195, ln_195, tn_196, ln_196, tn_197, ln_197, tn_198, ln_198, tn_199, ln_199, tn_200, ln_200, tn_201, ln_201, tn_202, ln_202, tn_203, ln_203, tn_204, ln_204, tn_205, ln_205, tn_206, ln_206, tn_207, ln_207, tn_208, ln_208, tn_209, ln_209, tn_210, ln_210, tn_211, ln_211, tn_212, ln_212, tn_213, ln_213, tn_214, ln_214, tn_215, ln_215, tn_216, ln_216, tn_217, ln_217, tn_218, ln_218, tn_219, ln_219, tn_220, ln_220, tn_221, ln_221, tn_222, ln_222, tn_223, ln_223, tn_224, ln_224, tn_225, ln_225, tn_226, ln_226, tn_227, ln_227, tn_228, ln_228, tn_229, ln_229, tn_230, ln_230, lx2, lx3, lx4, lx5, lx6, lx7, lx8, lx9, lx10, lx14, lx15, lx16, lx18, lx20, lx24, lx25, lx27, lx32, lx36, lx40, lx41, lx42, lx43, lx45, lx48, lx52, lx54, lx56, lx57, lx58, lx60, lx61, lx62, lx63, lx64, lx66, lx69, lx73, lx80, lx81, lx84, lx85, lx87, lx94, lx96, lx97, lx120, lx128, lx135, lx160, lx162, lx163, lx165, lx200, lx232, lx242, lx243, lx255, lx256, lx320, lx325, lx400, lx405, lx464, lx512, lx600, lx640, lx752, lx900, lx940, lx1000, lx1024, lx1764, lx3360, lx3840, lx5000, lx6400, lx9050, lx9998, lx9999, lx10000, lx25600, lx76800, lx99999, sub8_ge, bI_t]
      have nx : ∀ b o, b = wiF v r kn s 99 (t + 1) → xB (witI kn B P) (vrs v r - t, 0, 0) [some (.ref 8), some (.int (nI r)), some (.int kn), some (.int (bI s)), some (.int (bI b)), some (.int (nI (t + 1))), o] [] B := fun b o hb => by
        subst hb
        exact xB1 (b := vrs v r - (t + 1)) (by omega) ⟨v, r, s, t + 1, _, hM, hr, hP, by omega, rfl, rfl, rfl, rfl⟩
      have e : wiF v r kn s 99 (t + 1) = (wiF v r kn s 99 t && (if vsy v r t < 8 then s else tst kn (vsy v r t - 8))) := by
        simp only [wiF, show ¬ t = 99 by omega, decide_false, Bool.false_or]
      refine ⟨fun w => nx false _ ?_, fun w => ⟨fun g => ?_, fun g => ⟨fun z => nx false _ ?_, fun z => nx true _ ?_⟩⟩⟩
      · rw [e, w]; rfl
      · rw [n_sub g, tst_and _ (by omega)]
        refine ⟨fun z => nx false _ ?_, fun z => nx true _ ?_⟩
        · rw [e, if_neg (by omega)]
          cases hb : tst kn (vsy v r t - 8)
          · rw [Bool.and_false]
          · rw [hb] at z; exact absurd rfl z
        · rw [e, if_neg (by omega)]
          have w : wiF v r kn s 99 t = true := by simpa using w
          cases hb : tst kn (vsy v r t - 8)
          · rw [hb] at z; exact absurd z (by decide)
          · rw [w]; rfl
      · rw [e, if_pos (by omega), z, Bool.and_false]
      · have w : wiF v r kn s 99 t = true := by simpa using w
        have z : s = true := by simpa using z
        rw [e, if_pos (by omega), w, z]; rfl

