/-! ===== the class's past: what can be undone ===== -/
theorem d_X11_changed_0 : decode cX11_changed 0 = .ok (.aload_n 0, 1) := by decide +kernel
theorem d_X11_changed_1 : decode cX11_changed 1 = .ok (.getfield 59, 3) := by decide +kernel
theorem d_X11_changed_4 : decode cX11_changed 4 = .ok (.iconst 0, 1) := by decide +kernel
theorem d_X11_changed_5 : decode cX11_changed 5 = .ok (.putfield 161, 3) := by decide +kernel
theorem d_X11_changed_8 : decode cX11_changed 8 = .ok (.aload_n 0, 1) := by decide +kernel
theorem d_X11_changed_9 : decode cX11_changed 9 = .ok (.getfield 66, 3) := by decide +kernel
theorem d_X11_changed_12 : decode cX11_changed 12 = .ok (.iconst 0, 1) := by decide +kernel
theorem d_X11_changed_13 : decode cX11_changed 13 = .ok (.putfield 336, 3) := by decide +kernel
theorem d_X11_changed_16 : decode cX11_changed 16 = .ok (.aload_n 0, 1) := by decide +kernel
theorem d_X11_changed_17 : decode cX11_changed 17 = .ok (.getfield 75, 3) := by decide +kernel
theorem d_X11_changed_20 : decode cX11_changed 20 = .ok (.iconst 0, 1) := by decide +kernel
theorem d_X11_changed_21 : decode cX11_changed 21 = .ok (.putfield 337, 3) := by decide +kernel
theorem d_X11_changed_24 : decode cX11_changed 24 = .ok (.aload_n 0, 1) := by decide +kernel
theorem d_X11_changed_25 : decode cX11_changed 25 = .ok (.getfield 82, 3) := by decide +kernel
theorem d_X11_changed_28 : decode cX11_changed 28 = .ok (.iconst 0, 1) := by decide +kernel
theorem d_X11_changed_29 : decode cX11_changed 29 = .ok (.putfield 396, 3) := by decide +kernel
theorem d_X11_changed_32 : decode cX11_changed 32 = .ok (.return_, 1) := by decide +kernel
def k_X11_changed_0 (P : xP) : xK := x_aload 0 (y_getF 0 35 (x_push (.int 0) (y_putZ 35 0 (x_aload 0 (y_getF 0 39 (x_push (.int 0) (y_putZ 39 0 (x_aload 0 (y_getF 0 52 (x_push (.int 0) (y_putZ 52 0 (x_aload 0 (y_getF 0 57 (x_push (.int 0) (y_putZ 57 0 (x_vret P))))))))))))))))
set_option maxRecDepth 20000 in
theorem t_X11_changed_0 {p : Program} {l : Launch} {e : Env} {s : State} {m : MethodId} {args : Array Value} {below : List Frame} {meth : Method} {c : Code} {g : xG} (X : xX p s m args c meth cX11_changed RX11 1 g) (hr : meth.sig.returnType = none) {P : xP} : xAt p l e { frames := 0, cells := 0, slots := 0, locals := 0 } s m args below meth c g 1 xFT xN 0 0 (MQ below (xQc g xFT xN P) args s 0 0 (xFr g)) (k_X11_changed_0 P) 0 := by
  unfold k_X11_changed_0
  refine r_aload_n (pc := 0) X d_X11_changed_0 fn0 ?_
  refine s_getF (pc := 1) (ci := 11) (k := 7) X xok11 (by decide +kernel) ob_0 trivial ly_0_7 (by decide +kernel) fl_RX11_59 d_X11_changed_1 ?_
  refine r_iconst (pc := 4) X d_X11_changed_4 (by decide +kernel) ?_
  refine s_putZ (pc := 5) (ci := 3) X xok3 (by decide +kernel) ob_35 (by decide +kernel) (by decide +kernel) (by decide +kernel) fl_RX11_161 d_X11_changed_5 ?_
  refine r_aload_n (pc := 8) X d_X11_changed_8 fn0 ?_
  refine s_getF (pc := 9) (ci := 11) (k := 8) X xok11 (by decide +kernel) ob_0 trivial ly_0_8 (by decide +kernel) fl_RX11_66 d_X11_changed_9 ?_
  refine r_iconst (pc := 12) X d_X11_changed_12 (by decide +kernel) ?_
  refine s_putZ (pc := 13) (ci := 7) X xok7 (by decide +kernel) ob_39 (by decide +kernel) (by decide +kernel) (by decide +kernel) fl_RX11_336 d_X11_changed_13 ?_
  refine r_aload_n (pc := 16) X d_X11_changed_16 fn0 ?_
  refine s_getF (pc := 17) (ci := 11) (k := 9) X xok11 (by decide +kernel) ob_0 trivial ly_0_9 (by decide +kernel) fl_RX11_75 d_X11_changed_17 ?_
  refine r_iconst (pc := 20) X d_X11_changed_20 (by decide +kernel) ?_
  refine s_putZ (pc := 21) (ci := 10) X xok10 (by decide +kernel) ob_52 (by decide +kernel) (by decide +kernel) (by decide +kernel) fl_RX11_337 d_X11_changed_21 ?_
  refine r_aload_n (pc := 24) X d_X11_changed_24 fn0 ?_
  refine s_getF (pc := 25) (ci := 11) (k := 10) X xok11 (by decide +kernel) ob_0 trivial ly_0_10 (by decide +kernel) fl_RX11_82 d_X11_changed_25 ?_
  refine r_iconst (pc := 28) X d_X11_changed_28 (by decide +kernel) ?_
  refine s_putZ (pc := 29) (ci := 1) X xok1 (by decide +kernel) ob_57 (by decide +kernel) (by decide +kernel) (by decide +kernel) fl_RX11_396 d_X11_changed_29 ?_
  exact r_vret (pc := 32) X hr d_X11_changed_32
def f_X11_changed (a0 : Nat) (A : xH) (P : xP) : Prop := k_X11_changed_0 P [some (.ref a0)] [] A
set_option maxRecDepth 20000 in
theorem con_X11_changed (l : Launch) : xCon l yX11_changed cX11_changed 1 none 0 0 xN xN 0 xFT xFT (w_R f_X11_changed) :=
  xc_R (plainFor_of_name pn_RX11) (by decide +kernel) (fun p e s m args below meth c g a0 A P h X hr _ => ⟨_, h, t_X11_changed_0 X hr⟩)
theorem d_X11_remember_0 : decode cX11_remember 0 = .ok (.aload_n 0, 1) := by decide +kernel
theorem d_X11_remember_1 : decode cX11_remember 1 = .ok (.getfield 133, 3) := by decide +kernel
theorem d_X11_remember_4 : decode cX11_remember 4 = .ok (.bipush 8, 2) := by decide +kernel
theorem d_X11_remember_6 : decode cX11_remember 6 = .ok (.if_icmp .lt 52, 3) := by decide +kernel
theorem d_X11_remember_9 : decode cX11_remember 9 = .ok (.aload_n 0, 1) := by decide +kernel
theorem d_X11_remember_10 : decode cX11_remember 10 = .ok (.getfield 95, 3) := by decide +kernel
theorem d_X11_remember_13 : decode cX11_remember 13 = .ok (.iconst 0, 1) := by decide +kernel
theorem d_X11_remember_14 : decode cX11_remember 14 = .ok (.aaload, 1) := by decide +kernel
theorem d_X11_remember_15 : decode cX11_remember 15 = .ok (.astore_n 2, 1) := by decide +kernel
theorem d_X11_remember_16 : decode cX11_remember 16 = .ok (.iconst 1, 1) := by decide +kernel
theorem d_X11_remember_17 : decode cX11_remember 17 = .ok (.istore_n 3, 1) := by decide +kernel
theorem d_X11_remember_18 : decode cX11_remember 18 = .ok (.iload_n 3, 1) := by decide +kernel
theorem d_X11_remember_19 : decode cX11_remember 19 = .ok (.bipush 8, 2) := by decide +kernel
theorem d_X11_remember_21 : decode cX11_remember 21 = .ok (.if_icmp .ge 23, 3) := by decide +kernel
theorem d_X11_remember_24 : decode cX11_remember 24 = .ok (.aload_n 0, 1) := by decide +kernel
theorem d_X11_remember_25 : decode cX11_remember 25 = .ok (.getfield 95, 3) := by decide +kernel
theorem d_X11_remember_28 : decode cX11_remember 28 = .ok (.iload_n 3, 1) := by decide +kernel
theorem d_X11_remember_29 : decode cX11_remember 29 = .ok (.iconst 1, 1) := by decide +kernel
theorem d_X11_remember_30 : decode cX11_remember 30 = .ok (.isub, 1) := by decide +kernel
theorem d_X11_remember_31 : decode cX11_remember 31 = .ok (.aload_n 0, 1) := by decide +kernel
theorem d_X11_remember_32 : decode cX11_remember 32 = .ok (.getfield 95, 3) := by decide +kernel
theorem d_X11_remember_35 : decode cX11_remember 35 = .ok (.iload_n 3, 1) := by decide +kernel
theorem d_X11_remember_36 : decode cX11_remember 36 = .ok (.aaload, 1) := by decide +kernel
theorem d_X11_remember_37 : decode cX11_remember 37 = .ok (.aastore, 1) := by decide +kernel
theorem d_X11_remember_38 : decode cX11_remember 38 = .ok (.iinc 3 1, 3) := by decide +kernel
theorem d_X11_remember_41 : decode cX11_remember 41 = .ok (.goto (-23), 3) := by decide +kernel
theorem d_X11_remember_44 : decode cX11_remember 44 = .ok (.aload_n 0, 1) := by decide +kernel
theorem d_X11_remember_45 : decode cX11_remember 45 = .ok (.getfield 95, 3) := by decide +kernel
theorem d_X11_remember_48 : decode cX11_remember 48 = .ok (.bipush 7, 2) := by decide +kernel
theorem d_X11_remember_50 : decode cX11_remember 50 = .ok (.aload_n 2, 1) := by decide +kernel
theorem d_X11_remember_51 : decode cX11_remember 51 = .ok (.aastore, 1) := by decide +kernel
theorem d_X11_remember_52 : decode cX11_remember 52 = .ok (.aload_n 0, 1) := by decide +kernel
theorem d_X11_remember_53 : decode cX11_remember 53 = .ok (.bipush 7, 2) := by decide +kernel
theorem d_X11_remember_55 : decode cX11_remember 55 = .ok (.putfield 133, 3) := by decide +kernel
theorem d_X11_remember_58 : decode cX11_remember 58 = .ok (.aload_n 0, 1) := by decide +kernel
theorem d_X11_remember_59 : decode cX11_remember 59 = .ok (.getfield 95, 3) := by decide +kernel
theorem d_X11_remember_62 : decode cX11_remember 62 = .ok (.aload_n 0, 1) := by decide +kernel
theorem d_X11_remember_63 : decode cX11_remember 63 = .ok (.getfield 133, 3) := by decide +kernel
theorem d_X11_remember_66 : decode cX11_remember 66 = .ok (.aaload, 1) := by decide +kernel
theorem d_X11_remember_67 : decode cX11_remember 67 = .ok (.aload_n 1, 1) := by decide +kernel
theorem d_X11_remember_68 : decode cX11_remember 68 = .ok (.invokevirtual 128, 3) := by decide +kernel
theorem d_X11_remember_71 : decode cX11_remember 71 = .ok (.aload_n 0, 1) := by decide +kernel
theorem d_X11_remember_72 : decode cX11_remember 72 = .ok (.dup, 1) := by decide +kernel
theorem d_X11_remember_73 : decode cX11_remember 73 = .ok (.getfield 133, 3) := by decide +kernel
theorem d_X11_remember_76 : decode cX11_remember 76 = .ok (.iconst 1, 1) := by decide +kernel
theorem d_X11_remember_77 : decode cX11_remember 77 = .ok (.iadd, 1) := by decide +kernel
theorem d_X11_remember_78 : decode cX11_remember 78 = .ok (.putfield 133, 3) := by decide +kernel
theorem d_X11_remember_81 : decode cX11_remember 81 = .ok (.return_, 1) := by decide +kernel
def k_X11_remember_58 (P : xP) : xK := x_aload 0 (y_getF 0 70 (x_aload 0 (y_getI 0 16 (x_aald xN 5 (x_aload 1 (x_cv1 xN 4 (w_RR f_X4_copyFrom) (x_aload 0 (x_dup (y_getI 0 16 (x_push (.int 1) (x_iadd (y_putI 0 16 (x_vret P)))))))))))))
set_option maxRecDepth 20000 in
theorem t_X11_remember_58 {p : Program} {l : Launch} {e : Env} {s : State} {m : MethodId} {args : Array Value} {below : List Frame} {meth : Method} {c : Code} {g : xG} (X : xX p s m args c meth cX11_remember RX11 4 g) (hr : meth.sig.returnType = none) {P : xP} : xAt p l e { frames := 2, cells := 0, slots := 0, locals := 121 } s m args below meth c g 4 xFT xN 0 0 (MQ below (xQc g xFT xN P) args s 0 0 (xFr g)) (k_X11_remember_58 P) 58 := by
  unfold k_X11_remember_58
  refine r_aload_n (pc := 58) X d_X11_remember_58 fn0 ?_
  refine s_getF (pc := 59) (ci := 11) (k := 12) X xok11 (by decide +kernel) ob_0 trivial ly_0_12 (by decide +kernel) fl_RX11_95 d_X11_remember_59 ?_
  refine r_aload_n (pc := 62) X d_X11_remember_62 fn0 ?_
  refine s_getI (pc := 63) (ci := 11) X xok11 (by decide +kernel) ob_0 (by decide +kernel) fl_RX11_133 d_X11_remember_63 ?_
  refine r_aald (pc := 66) X (by decide +kernel) rfl d_X11_remember_66 ?_
  refine r_aload_n (pc := 67) X d_X11_remember_67 fn1 ?_
  refine r_cv1 (pc := 68) X xok4 (by decide +kernel) rfl (con_X4_copyFrom l) mf_X4_copyFrom ml_RX11_128 (by decide +kernel) (by decide +kernel) d_X11_remember_68 ?_
  refine r_aload_n (pc := 71) X d_X11_remember_71 fn0 ?_
  refine r_dup (pc := 72) X d_X11_remember_72 ?_
  refine s_getI (pc := 73) (ci := 11) X xok11 (by decide +kernel) ob_0 (by decide +kernel) fl_RX11_133 d_X11_remember_73 ?_
  refine r_iconst (pc := 76) X d_X11_remember_76 (by decide +kernel) ?_
  refine r_iadd (pc := 77) X d_X11_remember_77 ?_
  refine s_putI (pc := 78) (ci := 11) X xok11 (by decide +kernel) ob_0 (by decide +kernel) (by decide +kernel) (by decide +kernel) fl_RX11_133 d_X11_remember_78 ?_
  exact r_vret (pc := 81) X hr d_X11_remember_81
def k_X11_remember_0 (P : xP) (C18 : xK) : xK := x_aload 0 (y_getI 0 16 (x_push (.int 8) (x_icmp_lt ((k_X11_remember_58 P)) (x_aload 0 (y_getF 0 70 (x_push (.int 0) (x_aald xN 5 (x_astore 2 (x_push (.int 1) (x_istore 3 (C18)))))))))))
set_option maxRecDepth 20000 in
theorem t_X11_remember_0 {p : Program} {l : Launch} {e : Env} {s : State} {m : MethodId} {args : Array Value} {below : List Frame} {meth : Method} {c : Code} {g : xG} (X : xX p s m args c meth cX11_remember RX11 4 g) (hr : meth.sig.returnType = none) {P : xP} {C18 : xK} (h18 : xAt p l e { frames := 2, cells := 0, slots := 0, locals := 121 } s m args below meth c g 4 xFT xN 0 0 (MQ below (xQc g xFT xN P) args s 0 0 (xFr g)) C18 18) : xAt p l e { frames := 2, cells := 0, slots := 0, locals := 121 } s m args below meth c g 4 xFT xN 0 0 (MQ below (xQc g xFT xN P) args s 0 0 (xFr g)) (k_X11_remember_0 P C18) 0 := by
  unfold k_X11_remember_0
  refine r_aload_n (pc := 0) X d_X11_remember_0 fn0 ?_
  refine s_getI (pc := 1) (ci := 11) X xok11 (by decide +kernel) ob_0 (by decide +kernel) fl_RX11_133 d_X11_remember_1 ?_
  refine r_bipush (pc := 4) X d_X11_remember_4 (by decide +kernel) ?_
  refine r_icmp_lt (pc := 6) (tgt := 58) X d_X11_remember_6 (by decide +kernel) ?_ ?_
  · exact t_X11_remember_58 X hr
  · refine r_aload_n (pc := 9) X d_X11_remember_9 fn0 ?_
    refine s_getF (pc := 10) (ci := 11) (k := 12) X xok11 (by decide +kernel) ob_0 trivial ly_0_12 (by decide +kernel) fl_RX11_95 d_X11_remember_10 ?_
    refine r_iconst (pc := 13) X d_X11_remember_13 (by decide +kernel) ?_
    refine r_aald (pc := 14) X (by decide +kernel) rfl d_X11_remember_14 ?_
    refine r_astore_n (pc := 15) X d_X11_remember_15 fn2 (by decide +kernel) ?_
    refine r_iconst (pc := 16) X d_X11_remember_16 (by decide +kernel) ?_
    refine r_istore_n (pc := 17) X d_X11_remember_17 fn3 (by decide +kernel) ?_
    exact h18
def k_X11_remember_18 (P : xP) (C18 : xK) : xK := x_iload 3 (x_push (.int 8) (x_icmp_ge (x_aload 0 (y_getF 0 70 (x_push (.int 7) (x_aload 2 (x_aast xN 5 4 (x_aload 0 (x_push (.int 7) (y_putI 0 16 ((k_X11_remember_58 P)))))))))) (x_aload 0 (y_getF 0 70 (x_iload 3 (x_push (.int 1) (x_isub (x_aload 0 (y_getF 0 70 (x_iload 3 (x_aald xN 5 (x_aast xN 5 4 (x_iinc 3 1 (C18))))))))))))))
set_option maxRecDepth 20000 in
theorem t_X11_remember_18 {p : Program} {l : Launch} {e : Env} {s : State} {m : MethodId} {args : Array Value} {below : List Frame} {meth : Method} {c : Code} {g : xG} (X : xX p s m args c meth cX11_remember RX11 4 g) (hr : meth.sig.returnType = none) {P : xP} {C18 : xK} (h18 : xAt p l e { frames := 2, cells := 0, slots := 0, locals := 121 } s m args below meth c g 4 xFT xN 0 0 (MQ below (xQc g xFT xN P) args s 0 0 (xFr g)) C18 18) : xAt p l e { frames := 2, cells := 0, slots := 0, locals := 121 } s m args below meth c g 4 xFT xN 0 0 (MQ below (xQc g xFT xN P) args s 0 0 (xFr g)) (k_X11_remember_18 P C18) 18 := by
  unfold k_X11_remember_18
  refine r_iload_n (pc := 18) X d_X11_remember_18 fn3 ?_
  refine r_bipush (pc := 19) X d_X11_remember_19 (by decide +kernel) ?_
  refine r_icmp_ge (pc := 21) (tgt := 44) X d_X11_remember_21 (by decide +kernel) ?_ ?_
  · refine r_aload_n (pc := 44) X d_X11_remember_44 fn0 ?_
    refine s_getF (pc := 45) (ci := 11) (k := 12) X xok11 (by decide +kernel) ob_0 trivial ly_0_12 (by decide +kernel) fl_RX11_95 d_X11_remember_45 ?_
    refine r_bipush (pc := 48) X d_X11_remember_48 (by decide +kernel) ?_
    refine r_aload_n (pc := 50) X d_X11_remember_50 fn2 ?_
    refine r_aast (pc := 51) (by decide +kernel) xok4 (by decide +kernel) rfl X d_X11_remember_51 ?_
    refine r_aload_n (pc := 52) X d_X11_remember_52 fn0 ?_
    refine r_bipush (pc := 53) X d_X11_remember_53 (by decide +kernel) ?_
    refine s_putI (pc := 55) (ci := 11) X xok11 (by decide +kernel) ob_0 (by decide +kernel) (by decide +kernel) (by decide +kernel) fl_RX11_133 d_X11_remember_55 ?_
    exact t_X11_remember_58 X hr
  · refine r_aload_n (pc := 24) X d_X11_remember_24 fn0 ?_
    refine s_getF (pc := 25) (ci := 11) (k := 12) X xok11 (by decide +kernel) ob_0 trivial ly_0_12 (by decide +kernel) fl_RX11_95 d_X11_remember_25 ?_
    refine r_iload_n (pc := 28) X d_X11_remember_28 fn3 ?_
    refine r_iconst (pc := 29) X d_X11_remember_29 (by decide +kernel) ?_
    refine r_isub (pc := 30) X d_X11_remember_30 ?_
    refine r_aload_n (pc := 31) X d_X11_remember_31 fn0 ?_
    refine s_getF (pc := 32) (ci := 11) (k := 12) X xok11 (by decide +kernel) ob_0 trivial ly_0_12 (by decide +kernel) fl_RX11_95 d_X11_remember_32 ?_
    refine r_iload_n (pc := 35) X d_X11_remember_35 fn3 ?_
    refine r_aald (pc := 36) X (by decide +kernel) rfl d_X11_remember_36 ?_
    refine r_aast (pc := 37) (by decide +kernel) xok4 (by decide +kernel) rfl X d_X11_remember_37 ?_
    refine r_iinc (pc := 38) X d_X11_remember_38 (by decide +kernel) (by decide +kernel) ?_
    refine r_goto (pc := 41) (tgt := 18) X d_X11_remember_41 (by decide +kernel) ?_
    exact h18
set_option maxRecDepth 20000 in
theorem m_X11_remember {l : Launch} {f : Nat → Nat → xH → xP → Prop}  {I18 : Nat → Nat → xH → xP → xM → xK}
    (v0 : ∀ (a0 : Nat) (a1 : Nat) (A : xH) (P : xP), f a0 a1 A P → k_X11_remember_0 P (xE (I18 a0 a1 A P)) [some (.ref a0), some (.ref a1), none, none] [] A)
    (v18 : ∀ (a0 : Nat) (a1 : Nat) (A : xH) (P : xP), f a0 a1 A P → ∀ (μ : xM) (L : xL) (st : List Value) (B : xH), I18 a0 a1 A P μ L st B → k_X11_remember_18 P (xB (I18 a0 a1 A P) μ) L st B) : xCon l yX11_remember cX11_remember 4 none 2 121 xN xN 0 xFT xFT (w_RR f) := by
  refine xc_RR (plainFor_of_name pn_RX11) (by decide +kernel) (fun p e s m args below meth c g a0 a1 A P h X hr _ => ?_)
  have h18 := x_loop1 (p := p) (l := l) (e := e) (R := { frames := 2, cells := 0, slots := 0, locals := 121 }) (s := s) (m := m) (args := args) (below := below) (meth := meth) (c := c) (g := g) (nL := 4) (F := xFT) (n := xN) (cells := 0) (slots := 0) (Q := MQ below (xQc g xFT xN P) args s 0 0 (xFr g)) (I := I18 a0 a1 A P) (pc1 := 18) (fun μ i18 => xAt_mono (t_X11_remember_18 (P := P) X hr i18) (v18 a0 a1 A P h μ))
  exact ⟨_, v0 a0 a1 A P h, t_X11_remember_0 X hr h18⟩
theorem past_m {s : Nat} (h : s < 8) : xMod (74 + 10 * s) := by
  rcases (show s = 0 ∨ s = 1 ∨ s = 2 ∨ s = 3 ∨ s = 4 ∨ s = 5 ∨ s = 6 ∨ s = 7 by omega) with rfl | rfl | rfl | rfl | rfl | rfl | rfl | rfl
  · exact xMod_74
  · exact xMod_84
  · exact xMod_94
  · exact xMod_104
  · exact xMod_114
  · exact xMod_124
  · exact xMod_134
  · exact xMod_144
theorem xrsr {A : xH} {c k d j : Nat} {x : Option Nat} : xr (xsr A c k x) d j = if d = c ∧ j = k then x else xr A d j := rfl
theorem xrsi {A : xH} {c k d j : Nat} {x : Int32} : xr (xsi A c k x) d j = xr A d j := rfl
def pastC (A : xH) (σ : Nat → Nat) : Prop := (∀ i, i < 8 → σ i < 8 ∧ xr A 70 i = some (74 + 10 * σ i)) ∧ ∀ i j, i < 8 → j < 8 → σ i = σ j → i = j
def uC (A : xH) (v : xV) (um : Nat) (uv : Nat → xV) : Prop := um ≤ 8 ∧ xi A 0 16 = nI um ∧ ∃ σ, pastC A σ ∧ ∀ i, i < um → isM A (74 + 10 * σ i) (uv i) ∧ sameN v (uv i)
def SPs (c k : Nat) : Prop := (74 ≤ c ∧ c ≤ 153) ∨ c = 70 ∨ (c = 0 ∧ k = 16)
theorem rem_58 {A B : xH} {P : xP} {v w : xV} {t : Nat} {uw : Nat → xV} {σ : Nat → Nat} {a b : Option Value} {m : Nat} (hm8 : m = 8 ∨ m = 18) (ht : t < 8) (hF : fr SPs A B) (hp : pastC B σ) (h16 : xi B 0 16 = nI t) (hM : isM B m w) (hn : sameN v w) (hU : ∀ i, i < t → isM B (74 + 10 * σ i) (uw i) ∧ sameN v (uw i))
    (hP : ∀ D, fr SPs A D → uC D v (t + 1) (fun i => if i = t then w else uw i) → P none D) : k_X11_remember_58 P [some (.ref 0), some (.ref m), a, b] [] B := by
  obtain ⟨s1, s2⟩ := hp.1 t ht
  have hm := past_m s1
  simp (disch := omega) only [k_X11_remember_0, k_X11_remember_18, k_X11_remember_58, w_RR, x_aald, x_aast, x_aload, x_astore, x_cv1, x_dup, x_iadd, x_icmp_ge, x_icmp_lt, x_iinc, x_iload, x_istore, x_isub, x_push, x_vret, y_getF, y_getI, y_putI, xFT, xbool0, xbool1, Nat.reduceAdd, Nat.zero_add, xgl_0, xgl_s, xgl_n, xst_0, xst_1n, xst_1i, xst_1r, xst_1l, xst_s, set_0, set_s, true_and, and_true, xres, xcat_nil, xcat_i, xcat_r, xcat_l, Nat.add_zero, xble0, xble1, xble2, xble3, xble4, xble5, xble6, xble7, xble8, pk_mul, nI_add, nI_1, nI_leI, nI_ltI, nI_eq, n_in, n_cl, z_eq, z_lt, z_le, z_gt, z_ge, z_qe, o_eq, o_lt, o_le, o_gt, o_ge, vp0, vp1, cl0, cl1, n_sub, n_sub1, n_pm1, n_a0, n_0a, ofn, lN0, Nat.reduceLT, Nat.reduceLeDiff, Nat.reduceMul, Nat.reduceSub, Nat.reduceEqDiff, ne_eq, true_implies, false_implies, not_true_eq_false, not_false_eq_true, and_self, and_true, true_and, and_false, false_and, implies_true, if_true, if_false, i00, i10, i01, i11, ob_0, ob_1, tn_2, ln_2, ob_3, tn_4, ln_4, ob_5, tn_6, ln_6, tn_7, ln_7, ob_8, tn_9, ln_9, tn_10, ln_10, tn_11, ln_11, tn_12, ln_12, tn_13, ln_13, tn_14, ln_14, tn_15, ln_15, tn_16, ln_16, tn_17, ln_17, ob_18, tn_19, ln_19, tn_20, ln_20, tn_21, ln_21, tn_22, ln_22, tn_23, ln_23, tn_24, ln_24, tn_25, ln_25, tn_26, ln_26, tn_27, ln_27, ob_28, tn_29, ln_29, tn_30, ln_30, ob_31, tn_32, ln_32, tn_33, ln_33, ob_34, ob_35, tn_36, ln_36, tn_37, ln_37, tn_38, ln_38, ob_39, tn_40, ln_40, tn_41, ln_41, tn_42, ln_42, tn_43, ln_43, tn_44, ln_44, tn_45, ln_45, tn_46, ln_46, tn_47, ln_47, tn_48, ln_48, tn_49, ln_49, tn_50, ln_50, tn_51, ln_51, ob_52, tn_53, ln_53, tn_54, ln_54, tn_55, ln_55, tn_56, ln_56, ob_57, tn_58, ln_58, tn_59, ln_59, tn_60, ln_60, tn_61, ln_61, tn_62, ln_62, tn_63, ln_63, tn_64, ln_64, tn_65, ln_65, ob_66, tn_67, ln_67, tn_68, ln_68, tn_69, ln_69, tn_70, ln_70, tn_71, ln_71, tn_72, ln_72, tn_73, ln_73, ob_74, tn_75, ln_75, tn_76, ln_76, tn_77, ln_77, tn_78, ln_78, tn_79, ln_79, tn_80, ln_80, tn_81, ln_81, tn_82, ln_82, tn_83, ln_83, ob_84, tn_85, ln_85, tn_86, ln_86, tn_87, ln_87, tn_88, ln_88, tn_89, ln_89, tn_90, ln_90, tn_91, ln_91, tn_92, ln_92, tn_93, ln_93, ob_94, tn_95, ln_95, tn_96, ln_96, tn_97, ln_97, tn_98, ln_98, tn_99, ln_99, tn_100, ln_100, tn_101, ln_101, tn_102, ln_102, tn_103, ln_103, ob_104, tn_105, ln_105, tn_106, ln_106, tn_107, ln_107, tn_108, ln_108, tn_109, ln_109, tn_110, ln_110, tn_111, ln_111, tn_112, ln_112, tn_113, ln_113, ob_114, tn_115, ln_115, tn_116, ln_116, tn_117, ln_117, tn_118, ln_118, tn_119, ln_119, tn_120, ln_120, tn_121, ln_121, tn_122, ln_122, tn_123, ln_123, ob_124, tn_125, ln_125, tn_126, ln_126, tn_127, ln_127, tn_128, ln_128, tn_129, ln_129, tn_130, ln_130, tn_131, ln_131, tn_132, ln_132, tn_133, ln_133, ob_134, tn_135, ln_135, tn_136, ln_136, tn_137, ln_137, tn_138, ln_138, tn_139, ln_139, tn_140, ln_140, tn_141, ln_141, tn_142, ln_142, tn_143, ln_143, ob_144, tn_145, ln_145, tn_146, ln_146, tn_147, ln_147, tn_148, ln_148, tn_149, ln_149, tn_150, ln_150, tn_151, ln_151, tn_152, ln_152, tn_153, ln_153, ob_154, tn_155, ln_155, tn_156, ln_156, tn_157, ln_157, tn_158, ln_158, tn_159, ln_159, tn_160, ln_160, tn_161, ln_161, tn_162, ln_162, tn_163, ln_163, ob_164, tn_165, ln_165, tn_166, ln_166, ob_167, tn_168, ln_168, tn_169, ln_169, tn_170, ln_170, tn_171, ln_171, tn_172, ln_172, tn_173, ln_173, tn_174, ln_174, tn_175, ln_175, tn_176, ln_176, ob_177, tn_178, ln_178, tn_179, ln_179, ob_180, tn_181, ln_181, tn_182, ln_182, tn_183, ln_183, tn_184, ln_184, tn_185, ln_185, tn_186, ln_186, tn_187, ln_187, tn_188, ln_188, tn_189, ln_189, tn_190, ln_190, tn_191, ln_191, tn_192, ln_192, tn_193, ln_193, tn_194, ln_194, tn_195, ln_195, tn_196, ln_196, tn_197, ln_197, tn_198, ln_198, tn_199, ln_199, tn_200, ln_200, tn_201, ln_201, tn_202, ln_202, tn_203, ln_203, tn_204, ln_204, tn_205, ln_205, tn_206, ln_206, tn_207, ln_207, tn_208, ln_208, tn_209, ln_209, tn_210, ln_210, tn_211, ln_211, tn_212, ln_212, tn_213, ln_213, tn_214, ln_214, tn_215, ln_215, tn_216, ln_216, tn_217, ln_217, tn_218, ln_218, tn_219, ln_219, tn_220, ln_220, tn_221, ln_221, tn_222, ln_222, tn_223, ln_223, tn_224, ln_224, tn_225, ln_225, tn_226, ln_226, tn_227, ln_227, tn_228, ln_228, tn_229, ln_229, tn_230, ln_230, lx2, lx3, lx4, lx5, lx6, lx7, lx8, lx9, lx10, lx14, lx15, lx16, lx18, lx20, lx24, lx25, lx27, lx32, lx36, lx40, lx41, lx42, lx43, lx45, lx48, lx52, lx54, lx56, lx57, lx58, lx60, lx61, lx62, lx63, lx64, lx66, lx69, lx73, lx80, lx81, lx84, lx85, lx87, lx94, lx96, lx97, lx120, lx128, lx135, lx160, lx162, lx163, lx165, lx200, lx232, lx242, lx243, lx255, lx256, lx320, lx325, lx400, lx405, lx464, lx512, lx600, lx640, lx752, lx900, lx940, lx1000, lx1024, lx1764, lx3360, lx3840, lx5000, lx6400, lx9050, lx9998, lx9999, lx10000, lx25600, lx76800, lx99999, h16, s2, hm.1]
  refine ⟨ht, w, hM, hm, by omega, fun C hC hX => ?_⟩
  have c16 : xi C 0 16 = nI t := by rw [xoff_i hX (by omega)]; exact h16
  simp (disch := omega) only [k_X11_remember_0, k_X11_remember_18, k_X11_remember_58, w_RR, x_aald, x_aast, x_aload, x_astore, x_cv1, x_dup, x_iadd, x_icmp_ge, x_icmp_lt, x_iinc, x_iload, x_istore, x_isub, x_push, x_vret, y_getF, y_getI, y_putI, xFT, xbool0, xbool1, Nat.reduceAdd, Nat.zero_add, xgl_0, xgl_s, xgl_n, xst_0, xst_1n, xst_1i, xst_1r, xst_1l, xst_s, set_0, set_s, true_and, and_true, xres, xcat_nil, xcat_i, xcat_r, xcat_l, Nat.add_zero, xble0, xble1, xble2, xble3, xble4, xble5, xble6, xble7, xble8, pk_mul, nI_add, nI_1, nI_leI, nI_ltI, nI_eq, n_in, n_cl, z_eq, z_lt, z_le, z_gt, z_ge, z_qe, o_eq, o_lt, o_le, o_gt, o_ge, vp0, vp1, cl0, cl1, n_sub, n_sub1, n_pm1, n_a0, n_0a, ofn, lN0, Nat.reduceLT, Nat.reduceLeDiff, Nat.reduceMul, Nat.reduceSub, Nat.reduceEqDiff, ne_eq, true_implies, false_implies, not_true_eq_false, not_false_eq_true, and_self, and_true, true_and, and_false, false_and, implies_true, if_true, if_false, i00, i10, i01, i11, ob_0, ob_1, tn_2, ln_2, ob_3, tn_4, ln_4, ob_5, tn_6, ln_6, tn_7, ln_7, ob_8, tn_9, ln_9, tn_10, ln_10, tn_11, ln_11, tn_12, ln_12, tn_13, ln_13, tn_14, ln_14, tn_15, ln_15, tn_16, ln_16, tn_17, ln_17, ob_18, tn_19, ln_19, tn_20, ln_20, tn_21, ln_21, tn_22, ln_22, tn_23, ln_23, tn_24, ln_24, tn_25, ln_25, tn_26, ln_26, tn_27, ln_27, ob_28, tn_29, ln_29, tn_30, ln_30, ob_31, tn_32, ln_32, tn_33, ln_33, ob_34, ob_35, tn_36, ln_36, tn_37, ln_37, tn_38, ln_38, ob_39, tn_40, ln_40, tn_41, ln_41, tn_42, ln_42, tn_43, ln_43, tn_44, ln_44, tn_45, ln_45, tn_46, ln_46, tn_47, ln_47, tn_48, ln_48, tn_49, ln_49, tn_50, ln_50, tn_51, ln_51, ob_52, tn_53, ln_53, tn_54, ln_54, tn_55, ln_55, tn_56, ln_56, ob_57, tn_58, ln_58, tn_59, ln_59, tn_60, ln_60, tn_61, ln_61, tn_62, ln_62, tn_63, ln_63, tn_64, ln_64, tn_65, ln_65, ob_66, tn_67, ln_67, tn_68, ln_68, tn_69, ln_69, tn_70, ln_70, tn_71, ln_71, tn_72, ln_72, tn_73, ln_73, ob_74, tn_75, ln_75, tn_76, ln_76, tn_77, ln_77, tn_78, ln_78, tn_79, ln_79, tn_80, ln_80, tn_81, ln_81, tn_82, ln_82, tn_83, ln_83, ob_84, tn_85, ln_85, tn_86, ln_86, tn_87, ln_87, tn_88, ln_88, tn_89, ln_89, tn_90, ln_90, tn_91, ln_91, tn_92, ln_92, tn_93, ln_93, ob_94, tn_95, ln_95, tn_96, ln_96, tn_97, ln_97, tn_98, ln_98, tn_99, ln_99, tn_100, ln_100, tn_101, ln_101, tn_102, ln_102, tn_103, ln_103, ob_104, tn_105, ln_105, tn_106, ln_106, tn_107, ln_107, tn_108, ln_108, tn_109, ln_109, tn_110, ln_110, tn_111, ln_111, tn_112, ln_112, tn_113, ln_113, ob_114, tn_115, ln_115, tn_116, ln_116, tn_117, ln_117, tn_118, ln_118, tn_119, ln_119, tn_120, ln_120, tn_121, ln_121, tn_122, ln_122, tn_123, ln_123, ob_124, tn_125, ln_125, tn_126, ln_126, tn_127, ln_127, tn_128, ln_128, tn_129, ln_129, tn_130, ln_130, tn_131, ln_131, tn_132, ln_132, tn_133, ln_133, ob_134, tn_135, ln_135, tn_136, ln_136, tn_137, ln_137, tn_138, ln_138, tn_139, ln_139, tn_140, ln_140, tn_141, ln_141, tn_142, ln_142, tn_143, ln_143, ob_144, tn_145, ln_145, tn_146, ln_146, tn_147, ln_147, tn_148, ln_148, tn_149, ln_149, tn_150, ln_150, tn_151, ln_151, tn_152, ln_152, tn_153, ln_153, ob_154, tn_155, ln_155, tn_156, ln_156, tn_157, ln_157, tn_158, ln_158, tn_159, ln_159, tn_160, ln_160, tn_161, ln_161, tn_162, ln_162, tn_163, ln_163, ob_164, tn_165, ln_165, tn_166, ln_166, ob_167, tn_168, ln_168, tn_169, ln_169, tn_170, ln_170, tn_171, ln_171, tn_172, ln_172, tn_173, ln_173, tn_174, ln_174, tn_175, ln_175, tn_176, ln_176, ob_177, tn_178, ln_178, tn_179, ln_179, ob_180, tn_181, ln_181, tn_182, ln_182, tn_183, ln_183, tn_184, ln_184, tn_185, ln_185, tn_186, ln_186, tn_187, ln_187, tn_188, ln_188, tn_189, ln_189, tn_190, ln_190, tn_191, ln_191, tn_192, ln_192, tn_193, ln_193, tn_194, ln_194, tn_195, ln_195, tn_196, ln_196, tn_197, ln_197, tn_198, ln_198, tn_199, ln_199, tn_200, ln_200, tn_201, ln_201, tn_202, ln_202, tn_203, ln_203, tn_204, ln_204, tn_205, ln_205, tn_206, ln_206, tn_207, ln_207, tn_208, ln_208, tn_209, ln_209, tn_210, ln_210, tn_211, ln_211, tn_212, ln_212, tn_213, ln_213, tn_214, ln_214, tn_215, ln_215, tn_216, ln_216, tn_217, ln_217, tn_218, ln_218, tn_219, ln_219, tn_220, ln_220, tn_221, ln_221, tn_222, ln_222, tn_223, ln_223, tn_224, ln_224, tn_225, ln_225, tn_226, ln_226, tn_227, ln_227, tn_228, ln_228, tn_229, ln_229, tn_230, ln_230, lx2, lx3, lx4, lx5, lx6, lx7, lx8, lx9, lx10, lx14, lx15, lx16, lx18, lx20, lx24, lx25, lx27, lx32, lx36, lx40, lx41, lx42, lx43, lx45, lx48, lx52, lx54, lx56, lx57, lx58, lx60, lx61, lx62, lx63, lx64, lx66, lx69, lx73, lx80, lx81, lx84, lx85, lx87, lx94, lx96, lx97, lx120, lx128, lx135, lx160, lx162, lx163, lx165, lx200, lx232, lx242, lx243, lx255, lx256, lx320, lx325, lx400, lx405, lx464, lx512, lx600, lx640, lx752, lx900, lx940, lx1000, lx1024, lx1764, lx3360, lx3840, lx5000, lx6400, lx9050, lx9998, lx9999, lx10000, lx25600, lx76800, lx99999, c16]
  have f1 : fr (fun c k => (74 + 10 * σ t ≤ c ∧ c ≤ 74 + 10 * σ t + 9) ∨ (c = 0 ∧ k = 16)) B (xsi C 0 16 (nI (t + 1))) := fr_si (fr_xoff hX (by omega)) (by omega)
  refine hP _ (fr_tr hF (fr_mono f1 (by unfold SPs; omega))) ⟨by omega, si_eq, σ, ⟨fun i hi => ?_, hp.2⟩, fun i hi => ?_⟩
  · rw [fr_r f1 (by omega)]
    exact hp.1 i hi
  · by_cases e : i = t
    · subst e
      dsimp only
      rw [if_pos rfl]
      exact ⟨isM_fr hC (S := fun c k => c = 0) (fr_si fr_rf rfl) (by omega), hn⟩
    · dsimp only
      rw [if_neg e]
      have hd : σ i ≠ σ t := fun q => e (hp.2 i t (by omega) ht q)
      have hu := hU i (by omega)
      exact ⟨isM_fr hu.1 f1 (by omega), hu.2⟩
def f_X11_remember (q m : Nat) (A : xH) (P : xP) : Prop := q = 0 ∧ (m = 8 ∨ m = 18) ∧ ∃ v w um uv, isM A m w ∧ sameN v w ∧ uC A v um uv ∧ ∀ B, fr SPs A B → uC B v (um' um) (uv' um uv w) → P none B
def remI (A : xH) (P : xP) : xM → xK := fun μ L st B => ∃ (v w : xV) (uv : Nat → xV) (σ : Nat → Nat) (i m : Nat), (m = 8 ∨ m = 18) ∧ isM A m w ∧ sameN v w ∧ xi A 0 16 = nI 8 ∧ (∀ i, i < 8 → isM A (74 + 10 * σ i) (uv i) ∧ sameN v (uv i)) ∧ (∀ i, i < 8 → σ i < 8) ∧ (∀ i j, i < 8 → j < 8 → σ i = σ j → i = j) ∧ (∀ B, fr SPs A B → uC B v (um' 8) (uv' 8 uv w) → P none B) ∧ fr (fun c k => c = 70) A B ∧ 1 ≤ i ∧ i ≤ 8 ∧ (∀ j, j < 8 → xr B 70 j = some (74 + 10 * σ (if j + 1 < i then j + 1 else j))) ∧ st = [] ∧ L = [some (.ref 0), some (.ref m), some (.ref (74 + 10 * σ 0)), some (.int (nI i))] ∧ μ = (8 - i, 0, 0)
set_option maxRecDepth 20000 in
theorem con_X11_remember (l : Launch) : xCon l yX11_remember cX11_remember 4 none 2 121 xN xN 0 xFT xFT (w_RR f_X11_remember) := by
  refine m_X11_remember (I18 := fun q m A P => remI A P) ?_ ?_
  · rintro q m A P ⟨rfl, hm8, v, w, um, uv, hM, hn, ⟨h8, h16, σ, ⟨p1, p2⟩, hU⟩, hP⟩
    simp (disch := omega) only [k_X11_remember_0, k_X11_remember_18, w_RR, x_aald, x_aast, x_aload, x_astore, x_cv1, x_dup, x_iadd, x_icmp_ge, x_icmp_lt, x_iinc, x_iload, x_istore, x_isub, x_push, x_vret, y_getF, y_getI, y_putI, xFT, xbool0, xbool1, Nat.reduceAdd, Nat.zero_add, xgl_0, xgl_s, xgl_n, xst_0, xst_1n, xst_1i, xst_1r, xst_1l, xst_s, set_0, set_s, true_and, and_true, xres, xcat_nil, xcat_i, xcat_r, xcat_l, Nat.add_zero, xble0, xble1, xble2, xble3, xble4, xble5, xble6, xble7, xble8, pk_mul, nI_add, nI_1, nI_leI, nI_ltI, nI_eq, n_in, n_cl, z_eq, z_lt, z_le, z_gt, z_ge, z_qe, o_eq, o_lt, o_le, o_gt, o_ge, vp0, vp1, cl0, cl1, n_sub, n_sub1, n_pm1, n_a0, n_0a, ofn, lN0, Nat.reduceLT, Nat.reduceLeDiff, Nat.reduceMul, Nat.reduceSub, Nat.reduceEqDiff, ne_eq, true_implies, false_implies, not_true_eq_false, not_false_eq_true, and_self, and_true, true_and, and_false, false_and, implies_true, if_true, if_false, i00, i10, i01, i11, ob_0, ob_1, tn_2, ln_2, ob_3, tn_4, ln_4, ob_5, tn_6, ln_6, tn_7, ln_7, ob_8, tn_9, ln_9, tn_10, ln_10, tn_11, ln_11, tn_12, ln_12, tn_13, ln_13, tn_14, ln_14, tn_15, ln_15, tn_16, ln_16, tn_17, ln_17, ob_18, tn_19, ln_19, tn_20, ln_20, tn_21, ln_21, tn_22, ln_22, tn_23, ln_23, tn_24, ln_24, tn_25, ln_25, tn_26, ln_26, tn_27, ln_27, ob_28, tn_29, ln_29, tn_30, ln_30, ob_31, tn_32, ln_32, tn_33, ln_33, ob_34, ob_35, tn_36, ln_36, tn_37, ln_37, tn_38, ln_38, ob_39, tn_40, ln_40, tn_41, ln_41, tn_42, ln_42, tn_43, ln_43, tn_44, ln_44, tn_45, ln_45, tn_46, ln_46, tn_47, ln_47, tn_48, ln_48, tn_49, ln_49, tn_50, ln_50, tn_51, ln_51, ob_52, tn_53, ln_53, tn_54, ln_54, tn_55, ln_55, tn_56, ln_56, ob_57, tn_58, ln_58, tn_59, ln_59, tn_60, ln_60, tn_61, ln_61, tn_62, ln_62, tn_63, ln_63, tn_64, ln_64, tn_65, ln_65, ob_66, tn_67, ln_67, tn_68, ln_68, tn_69, ln_69, tn_70, ln_70, tn_71, ln_71, tn_72, ln_72, tn_73, ln_73, ob_74, tn_75, ln_75, tn_76, ln_76, tn_77, ln_77, tn_78, ln_78, tn_79, ln_79, tn_80, ln_80, tn_81, ln_81, tn_82, ln_82, tn_83, ln_83, ob_84, tn_85, ln_85, tn_86, ln_86, tn_87, ln_87, tn_88, ln_88, tn_89, ln_89, tn_90, ln_90, tn_91, ln_91, tn_92, ln_92, tn_93, ln_93, ob_94, tn_95, ln_95, tn_96, ln_96, tn_97, ln_97, tn_98, ln_98, tn_99, ln_99, tn_100, ln_100, tn_101, ln_101, tn_102, ln_102, tn_103, ln_103, ob_104, tn_105, ln_105, tn_106, ln_106, tn_107, ln_107, tn_108, ln_108, tn_109, ln_109, tn_110, ln_110, tn_111, ln_111, tn_112, ln_112, tn_113, ln_113, ob_114, tn_115, ln_115, tn_116, ln_116, tn_117, ln_117, tn_118, ln_118, tn_119, ln_119, tn_120, ln_120, tn_121, ln_121, tn_122, ln_122, tn_123, ln_123, ob_124, tn_125, ln_125, tn_126, ln_126, tn_127, ln_127, tn_128, ln_128, tn_129, ln_129, tn_130, ln_130, tn_131, ln_131, tn_132, ln_132, tn_133, ln_133, ob_134, tn_135, ln_135, tn_136, ln_136, tn_137, ln_137, tn_138, ln_138, tn_139, ln_139, tn_140, ln_140, tn_141, ln_141, tn_142, ln_142, tn_143, ln_143, ob_144, tn_145, ln_145, tn_146, ln_146, tn_147, ln_147, tn_148, ln_148, tn_149, ln_149, tn_150, ln_150, tn_151, ln_151, tn_152, ln_152, tn_153, ln_153, ob_154, tn_155, ln_155, tn_156, ln_156, tn_157, ln_157, tn_158, ln_158, tn_159, ln_159, tn_160, ln_160, tn_161, ln_161, tn_162, ln_162, tn_163, ln_163, ob_164, tn_165, ln_165, tn_166, ln_166, ob_167, tn_168, ln_168, tn_169, ln_169, tn_170, ln_170, tn_171, ln_171, tn_172, ln_172, tn_173, ln_173, tn_174, ln_174, tn_175, ln_175, tn_176, ln_176, ob_177, tn_178, ln_178, tn_179, ln_179, ob_180, tn_181, ln_181, tn_182, ln_182, tn_183, ln_183, tn_184, ln_184, tn_185, ln_185, tn_186, ln_186, tn_187, ln_187, tn_188, ln_188, tn_189, ln_189, tn_190, ln_190, tn_191, ln_191, tn_192, ln_192, tn_193, ln_193, tn_194, ln_194, tn_195, ln_195, tn_196, ln_196, tn_197, ln_197, tn_198, ln_198, tn_199, ln_199, tn_200, ln_200, tn_201, ln_201, tn_202, ln_202, tn_203, ln_203, tn_204, ln_204, tn_205, ln_205, tn_206, ln_206, tn_207, ln_207, tn_208, ln_208, tn_209, ln_209, tn_210, ln_210, tn_211, ln_211, tn_212, ln_212, tn_213, ln_213, tn_214, ln_214, tn_215, ln_215, tn_216, ln_216, tn_217, ln_217, tn_218, ln_218, tn_219, ln_219, tn_220, ln_220, tn_221, ln_221, tn_222, ln_222, tn_223, ln_223, tn_224, ln_224, tn_225, ln_225, tn_226, ln_226, tn_227, ln_227, tn_228, ln_228, tn_229, ln_229, tn_230, ln_230, lx2, lx3, lx4, lx5, lx6, lx7, lx8, lx9, lx10, lx14, lx15, lx16, lx18, lx20, lx24, lx25, lx27, lx32, lx36, lx40, lx41, lx42, lx43, lx45, lx48, lx52, lx54, lx56, lx57, lx58, lx60, lx61, lx62, lx63, lx64, lx66, lx69, lx73, lx80, lx81, lx84, lx85, lx87, lx94, lx96, lx97, lx120, lx128, lx135, lx160, lx162, lx163, lx165, lx200, lx232, lx242, lx243, lx255, lx256, lx320, lx325, lx400, lx405, lx464, lx512, lx600, lx640, lx752, lx900, lx940, lx1000, lx1024, lx1764, lx3360, lx3840, lx5000, lx6400, lx9050, lx9998, lx9999, lx10000, lx25600, lx76800, lx99999, h16, (p1 0 (by omega)).2]
    refine ⟨fun q => ?_, fun q => ?_⟩
    · refine rem_58 hm8 q fr_rf ⟨p1, p2⟩ h16 hM hn hU fun D hD hu => hP D hD ?_
      have e : um' um = um + 1 := by unfold um'; rw [if_neg (by omega)]
      have e2 : uv' um uv w = fun i => if i = um then w else uv i := by unfold uv'; simp only [if_neg (show ¬ um = 8 by omega)]
      rw [e, e2]
      exact hu
    · have : um = 8 := by omega
      subst this
      refine xE0 (8 - 1, 0, 0) ⟨v, w, uv, σ, 1, m, hm8, hM, hn, h16, hU, fun i hi => (p1 i hi).1, p2, hP, fr_rf, by omega, by omega, fun j hj => ?_, rfl, rfl, rfl⟩
      rw [if_neg (by omega)]
      exact (p1 j hj).2
  · rintro q0 m0 A P - μ L st B ⟨v, w, uv, σ, i, m, hm8, hM, hn, h16, hU, p1, p2, hP, hF, hi, hi8, hR, rfl, rfl, rfl⟩
    have o := fun j (hj : j < 8) => (past_m (p1 j hj)).1
    simp (disch := omega) only [k_X11_remember_0, k_X11_remember_18, w_RR, x_aald, x_aast, x_aload, x_astore, x_cv1, x_dup, x_iadd, x_icmp_ge, x_icmp_lt, x_iinc, x_iload, x_istore, x_isub, x_push, x_vret, y_getF, y_getI, y_putI, xFT, xbool0, xbool1, Nat.reduceAdd, Nat.zero_add, xgl_0, xgl_s, xgl_n, xst_0, xst_1n, xst_1i, xst_1r, xst_1l, xst_s, set_0, set_s, true_and, and_true, xres, xcat_nil, xcat_i, xcat_r, xcat_l, Nat.add_zero, xble0, xble1, xble2, xble3, xble4, xble5, xble6, xble7, xble8, pk_mul, nI_add, nI_1, nI_leI, nI_ltI, nI_eq, n_in, n_cl, z_eq, z_lt, z_le, z_gt, z_ge, z_qe, o_eq, o_lt, o_le, o_gt, o_ge, vp0, vp1, cl0, cl1, n_sub, n_sub1, n_pm1, n_a0, n_0a, ofn, lN0, Nat.reduceLT, Nat.reduceLeDiff, Nat.reduceMul, Nat.reduceSub, Nat.reduceEqDiff, ne_eq, true_implies, false_implies, not_true_eq_false, not_false_eq_true, and_self, and_true, true_and, and_false, false_and, implies_true, if_true, if_false, i00, i10, i01, i11, ob_0, ob_1, tn_2, ln_2, ob_3, tn_4, ln_4, ob_5, tn_6, ln_6, tn_7, ln_7, ob_8, tn_9, ln_9, tn_10, ln_10, tn_11, ln_11, tn_12, ln_12, tn_13, ln_13, tn_14, ln_14, tn_15, ln_15, tn_16, ln_16, tn_17, ln_17, ob_18, tn_19, ln_19, tn_20, ln_20, tn_21, ln_21, tn_22, ln_22, tn_23, ln_23, tn_24, ln_24, tn_25, ln_25, tn_26, ln_26, tn_27, ln_27, ob_28, tn_29, ln_29, tn_30, ln_30, ob_31, tn_32, ln_32, tn_33, ln_33, ob_34, ob_35, tn_36, ln_36, tn_37, ln_37, tn_38, ln_38, ob_39, tn_40, ln_40, tn_41, ln_41, tn_42, ln_42, tn_43, ln_43, tn_44, ln_44, tn_45, ln_45, tn_46, ln_46, tn_47, ln_47, tn_48, ln_48, tn_49, ln_49, tn_50, ln_50, tn_51, ln_51, ob_52, tn_53, ln_53, tn_54, ln_54, tn_55, ln_55, tn_56, ln_56, ob_57, tn_58, ln_58, tn_59, ln_59, tn_60, ln_60, tn_61, ln_61, tn_62, ln_62, tn_63, ln_63, tn_64, ln_64, tn_65, ln_65, ob_66, tn_67, ln_67, tn_68, ln_68, tn_69, ln_69, tn_70, ln_70, tn_71, ln_71, tn_72, ln_72, tn_73, ln_73, ob_74, tn_75, ln_75, tn_76, ln_76, tn_77, ln_77, tn_78, ln_78, tn_79, ln_79, tn_80, ln_80, tn_81, ln_81, tn_82, ln_82, tn_83, ln_83, ob_84, tn_85, ln_85, tn_86, ln_86, tn_87, ln_87, tn_88, ln_88, tn_89, ln_89, tn_90, ln_90, tn_91, ln_91, tn_92, ln_92, tn_93, ln_93, ob_94, tn_95, ln_95, tn_96, ln_96, tn_97, ln_97, tn_98, ln_98, tn_99, ln_99, tn_100, ln_100, tn_101, ln_101, tn_102, ln_102, tn_103, ln_103, ob_104, tn_105, ln_105, tn_106, ln_106, tn_107, ln_107, tn_108, ln_108, tn_109, ln_109, tn_110, ln_110, tn_111, ln_111, tn_112, ln_112, tn_113, ln_113, ob_114, tn_115, ln_115, tn_116, ln_116, tn_117, ln_117, tn_118, ln_118, tn_119, ln_119, tn_120, ln_120, tn_121, ln_121, tn_122, ln_122, tn_123, ln_123, ob_124, tn_125, ln_125, tn_126, ln_126, tn_127, ln_127, tn_128, ln_128, tn_129, ln_129, tn_130, ln_130, tn_131, ln_131, tn_132, ln_132, tn_133, ln_133, ob_134, tn_135, ln_135, tn_136, ln_136, tn_137, ln_137, tn_138, ln_138, tn_139, ln_139, tn_140, ln_140, tn_141, ln_141, tn_142, ln_142, tn_143, ln_143, ob_144, tn_145, ln_145, tn_146, ln_146, tn_147, ln_147, tn_148, ln_148, tn_149, ln_149, tn_150, ln_150, tn_151, ln_151, tn_152, ln_152, tn_153, ln_153, ob_154, tn_155, ln_155, tn_156, ln_156, tn_157, ln_157, tn_158, ln_158, tn_159, ln_159, tn_160, ln_160, tn_161, ln_161, tn_162, ln_162, tn_163, ln_163, ob_164, tn_165, ln_165, tn_166, ln_166, ob_167, tn_168, ln_168, tn_169, ln_169, tn_170, ln_170, tn_171, ln_171, tn_172, ln_172, tn_173, ln_173, tn_174, ln_174, tn_175, ln_175, tn_176, ln_176, ob_177, tn_178, ln_178, tn_179, ln_179, ob_180, tn_181, ln_181, tn_182, ln_182, tn_183, ln_183, tn_184, ln_184, tn_185, ln_185, tn_186, ln_186, tn_187, ln_187, tn_188, ln_188, tn_189, ln_189, tn_190, ln_190, tn_191, ln_191, tn_192, ln_192, tn_193, ln_193, tn_194, ln_194, tn_195, ln_195, tn_196, ln_196, tn_197, ln_197, tn_198, ln_198, tn_199, ln_199, tn_200, ln_200, tn_201, ln_201, tn_202, ln_202, tn_203, ln_203, tn_204, ln_204, tn_205, ln_205, tn_206, ln_206, tn_207, ln_207, tn_208, ln_208, tn_209, ln_209, tn_210, ln_210, tn_211, ln_211, tn_212, ln_212, tn_213, ln_213, tn_214, ln_214, tn_215, ln_215, tn_216, ln_216, tn_217, ln_217, tn_218, ln_218, tn_219, ln_219, tn_220, ln_220, tn_221, ln_221, tn_222, ln_222, tn_223, ln_223, tn_224, ln_224, tn_225, ln_225, tn_226, ln_226, tn_227, ln_227, tn_228, ln_228, tn_229, ln_229, tn_230, ln_230, lx2, lx3, lx4, lx5, lx6, lx7, lx8, lx9, lx10, lx14, lx15, lx16, lx18, lx20, lx24, lx25, lx27, lx32, lx36, lx40, lx41, lx42, lx43, lx45, lx48, lx52, lx54, lx56, lx57, lx58, lx60, lx61, lx62, lx63, lx64, lx66, lx69, lx73, lx80, lx81, lx84, lx85, lx87, lx94, lx96, lx97, lx120, lx128, lx135, lx160, lx162, lx163, lx165, lx200, lx232, lx242, lx243, lx255, lx256, lx320, lx325, lx400, lx405, lx464, lx512, lx600, lx640, lx752, lx900, lx940, lx1000, lx1024, lx1764, lx3360, lx3840, lx5000, lx6400, lx9050, lx9998, lx9999, lx10000, lx25600, lx76800, lx99999]
    refine ⟨fun q => ?_, fun q => ?_⟩
    · have : i = 8 := by omega
      subst this
      refine ⟨o 0 (by omega), ?_⟩
      have fB : fr SPs A (xsi (xsr B 70 7 (some (74 + 10 * σ 0))) 0 16 (nI 7)) := fr_si (fr_sr (fr_mono hF (by unfold SPs; omega)) (by unfold SPs; omega)) (by unfold SPs; omega)
      have f2 : fr (fun c k => c = 70 ∨ c = 0) A (xsi (xsr B 70 7 (some (74 + 10 * σ 0))) 0 16 (nI 7)) := fr_si (fr_sr (fr_mono hF (by omega)) (by omega)) (by omega)
      refine rem_58 (t := 7) (σ := fun j => if j = 7 then σ 0 else σ (j + 1)) (uw := fun j => uv (j + 1)) hm8 (by omega) fB ⟨fun j hj => ⟨?_, ?_⟩, fun a b ha hb e => ?_⟩ si_eq (isM_fr hM f2 (by omega)) hn (fun j hj => ?_) fun D hD hu => hP D hD ?_
      · try dsimp only
        split <;> exact p1 _ (by omega)
      · rw [xrsi, xrsr]
        try dsimp only
        by_cases e : j = 7
        · rw [if_pos ⟨rfl, e⟩, if_pos e]
        · rw [if_neg (fun q => e q.2), if_neg e, hR j hj, if_pos (by omega)]
      · try dsimp only at e
        by_cases a7 : a = 7
        · by_cases b7 : b = 7
          · omega
          · rw [if_pos a7, if_neg b7] at e
            have := p2 _ _ (by omega) (by omega) e
            omega
        · by_cases b7 : b = 7
          · rw [if_neg a7, if_pos b7] at e
            have := p2 _ _ (by omega) (by omega) e
            omega
          · rw [if_neg a7, if_neg b7] at e
            have := p2 _ _ (by omega) (by omega) e
            omega
      · try dsimp only
        rw [if_neg (by omega)]
        have hu := hU (j + 1) (by omega)
        exact ⟨isM_fr hu.1 f2 (by omega), hu.2⟩
      · have e : um' 8 = 8 := by unfold um'; rw [if_pos rfl]
        have e2 : uv' 8 uv w = fun i => if i = 7 then w else uv (i + 1) := by unfold uv'; simp only [if_true]
        rw [e, e2]
        exact hu
    · have hr := hR i (by omega)
      rw [if_neg (by omega)] at hr
      simp (disch := omega) only [k_X11_remember_0, k_X11_remember_18, w_RR, x_aald, x_aast, x_aload, x_astore, x_cv1, x_dup, x_iadd, x_icmp_ge, x_icmp_lt, x_iinc, x_iload, x_istore, x_isub, x_push, x_vret, y_getF, y_getI, y_putI, xFT, xbool0, xbool1, Nat.reduceAdd, Nat.zero_add, xgl_0, xgl_s, xgl_n, xst_0, xst_1n, xst_1i, xst_1r, xst_1l, xst_s, set_0, set_s, true_and, and_true, xres, xcat_nil, xcat_i, xcat_r, xcat_l, Nat.add_zero, xble0, xble1, xble2, xble3, xble4, xble5, xble6, xble7, xble8, pk_mul, nI_add, nI_1, nI_leI, nI_ltI, nI_eq, n_in, n_cl, z_eq, z_lt, z_le, z_gt, z_ge, z_qe, o_eq, o_lt, o_le, o_gt, o_ge, vp0, vp1, cl0, cl1, n_sub, n_sub1, n_pm1, n_a0, n_0a, ofn, lN0, Nat.reduceLT, Nat.reduceLeDiff, Nat.reduceMul, Nat.reduceSub, Nat.reduceEqDiff, ne_eq, true_implies, false_implies, not_true_eq_false, not_false_eq_true, and_self, and_true, true_and, and_false, false_and, implies_true, if_true, if_false, i00, i10, i01, i11, ob_0, ob_1, tn_2, ln_2, ob_3, tn_4, ln_4, ob_5, tn_6, ln_6, tn_7, ln_7, ob_8, tn_9, ln_9, tn_10, ln_10, tn_11, ln_11, tn_12, ln_12, tn_13, ln_13, tn_14, ln_14, tn_15, ln_15, tn_16, ln_16, tn_17, ln_17, ob_18, tn_19, ln_19, tn_20, ln_20, tn_21, ln_21, tn_22, ln_22, tn_23, ln_23, tn_24, ln_24, tn_25, ln_25, tn_26, ln_26, tn_27, ln_27, ob_28, tn_29, ln_29, tn_30, ln_30, ob_31, tn_32, ln_32, tn_33, ln_33, ob_34, ob_35, tn_36, ln_36, tn_37, ln_37, tn_38, ln_38, ob_39, tn_40, ln_40, tn_41, ln_41, tn_42, ln_42, tn_43, ln_43, tn_44, ln_44, tn_45, ln_45, tn_46, ln_46, tn_47, ln_47, tn_48, ln_48, tn_49, ln_49, tn_50, ln_50, tn_51, ln_51, ob_52, tn_53, ln_53, tn_54, ln_54, tn_55, ln_55, tn_56, ln_56, ob_57, tn_58, ln_58, tn_59, ln_59, tn_60, ln_60, tn_61, ln_61, tn_62, ln_62, tn_63, ln_63, tn_64, ln_64, tn_65, ln_65, ob_66, tn_67, ln_67, tn_68, ln_68, tn_69, ln_69, tn_70, ln_70, tn_71, ln_71, tn_72, ln_72, tn_73, ln_73, ob_74, tn_75, ln_75, tn_76, ln_76, tn_77, ln_77, tn_78, ln_78, tn_79, ln_79, tn_80, ln_80, tn_81, ln_81, tn_82, ln_82, tn_83, ln_83, ob_84, tn_85, ln_85, tn_86, ln_86, tn_87, ln_87, tn_88, ln_88, tn_89, ln_89, tn_90, ln_90, tn_91, ln_91, tn_92, ln_92, tn_93, ln_93, ob_94, tn_95, ln_95, tn_96, ln_96, tn_97, ln_97, tn_98, ln_98, tn_99, ln_99, tn_100, ln_100, tn_101, ln_101, tn_102, ln_102, tn_103, ln_103, ob_104, tn_105, ln_105, tn_106, ln_106, tn_107, ln_107, tn_108, ln_108, tn_109, ln_109, tn_110, ln_110, tn_111, ln_111, tn_112, ln_112, tn_113, ln_113, ob_114, tn_115, ln_115, tn_116, ln_116, tn_117, ln_117, tn_118, ln_118, tn_119, ln_119, tn_120, ln_120, tn_121, ln_121, tn_122, ln_122, tn_123, ln_123, ob_124, tn_125, ln_125, tn_126, ln_126, tn_127, ln_127, tn_128, ln_128, tn_129, ln_129, tn_130, ln_130, tn_131, ln_131, tn_132, ln_132, tn_133, ln_133, ob_134, tn_135, ln_135, tn_136, ln_136, tn_137, ln_137, tn_138, ln_138, tn_139, ln_139, tn_140, ln_140, tn_141, ln_141, tn_142, ln_142, tn_143, ln_143, ob_144, tn_145, ln_145, tn_146, ln_146, tn_147, ln_147, tn_148, ln_148, tn_149, ln_149, tn_150, ln_150, tn_151, ln_151, tn_152, ln_152, tn_153, ln_153, ob_154, tn_155, ln_155, tn_156, ln_156, tn_157, ln_157, tn_158, ln_158, tn_159, ln_159, tn_160, ln_160, tn_161, ln_161, tn_162, ln_162, tn_163, ln_163, ob_164, tn_165, ln_165, tn_166, ln_166, ob_167, tn_168, ln_168, tn_169, ln_169, tn_170, ln_170, tn_171, ln_171, tn_172, ln_172, tn_173, ln_173, tn_174, ln_174, tn_175, ln_175, tn_176, ln_176, ob_177, tn_178, ln_178, tn_179, ln_179, ob_180, tn_181, ln_181, tn_182, ln_182, tn_183, ln_183, tn_184, ln_184, tn_185, ln_185, tn_186, ln_186, tn_187, ln_187, tn_188, ln_188, tn_189, ln_189, tn_190, ln_190, tn_191, ln_191, tn_192, ln_192, tn_193, ln_193, tn_194, ln_194, tn_195, ln_195, tn_196, ln_196, tn_197, ln_197, tn_198, ln_198, tn_199, ln_199, tn_200, ln_200, tn_201, ln_201, tn_202, ln_202, tn_203, ln_203, tn_204, ln_204, tn_205, ln_205, tn_206, ln_206, tn_207, ln_207, tn_208, ln_208, tn_209, ln_209, tn_210, ln_210, tn_211, ln_211, tn_212, ln_212, tn_213, ln_213, tn_214, ln_214, tn_215, ln_215, tn_216, ln_216, tn_217, ln_217, tn_218, ln_218, tn_219, ln_219, tn_220, ln_220, tn_221, ln_221, tn_222, ln_222, tn_223, ln_223, tn_224, ln_224, tn_225, ln_225, tn_226, ln_226, tn_227, ln_227, tn_228, ln_228, tn_229, ln_229, tn_230, ln_230, lx2, lx3, lx4, lx5, lx6, lx7, lx8, lx9, lx10, lx14, lx15, lx16, lx18, lx20, lx24, lx25, lx27, lx32, lx36, lx40, lx41, lx42, lx43, lx45, lx48, lx52, lx54, lx56, lx57, lx58, lx60, lx61, lx62, lx63, lx64, lx66, lx69, lx73, lx80, lx81, lx84, lx85, lx87, lx94, lx96, lx97, lx120, lx128, lx135, lx160, lx162, lx163, lx165, lx200, lx232, lx242, lx243, lx255, lx256, lx320, lx325, lx400, lx405, lx464, lx512, lx600, lx640, lx752, lx900, lx940, lx1000, lx1024, lx1764, lx3360, lx3840, lx5000, lx6400, lx9050, lx9998, lx9999, lx10000, lx25600, lx76800, lx99999, hr, o i (by omega)]
      refine ⟨by omega, by omega, xB1 (b := 8 - (i + 1)) (by omega) ⟨v, w, uv, σ, i + 1, m, hm8, hM, hn, h16, hU, p1, p2, hP, fr_sr hF rfl, by omega, by omega, fun j hj => ?_, rfl, rfl, rfl⟩⟩
      rw [xrsr]
      by_cases e : j = i - 1
      · rw [if_pos ⟨rfl, e⟩, if_pos (by omega), show j + 1 = i by omega]
      · rw [if_neg (fun q => e q.2), hR j hj]
        by_cases e2 : j + 1 < i
        · rw [if_pos e2, if_pos (by omega)]
        · rw [if_neg e2, if_neg (by omega)]
theorem d_X11_settled_0 : decode cX11_settled 0 = .ok (.iload_n 1, 1) := by decide +kernel
theorem d_X11_settled_1 : decode cX11_settled 1 = .ok (.ifCond .ne 15, 3) := by decide +kernel
theorem d_X11_settled_4 : decode cX11_settled 4 = .ok (.aload_n 0, 1) := by decide +kernel
theorem d_X11_settled_5 : decode cX11_settled 5 = .ok (.aload_n 0, 1) := by decide +kernel
theorem d_X11_settled_6 : decode cX11_settled 6 = .ok (.getfield 32, 3) := by decide +kernel
theorem d_X11_settled_9 : decode cX11_settled 9 = .ok (.invokevirtual 348, 3) := by decide +kernel
theorem d_X11_settled_12 : decode cX11_settled 12 = .ok (.aload_n 0, 1) := by decide +kernel
theorem d_X11_settled_13 : decode cX11_settled 13 = .ok (.invokevirtual 136, 3) := by decide +kernel
theorem d_X11_settled_16 : decode cX11_settled 16 = .ok (.iload_n 1, 1) := by decide +kernel
theorem d_X11_settled_17 : decode cX11_settled 17 = .ok (.ireturn, 1) := by decide +kernel
def k_X11_settled_16 (P : xP) : xK := x_iload 1 (x_iret P)
set_option maxRecDepth 20000 in
theorem t_X11_settled_16 {p : Program} {l : Launch} {e : Env} {s : State} {m : MethodId} {args : Array Value} {below : List Frame} {meth : Method} {c : Code} {g : xG} (X : xX p s m args c meth cX11_settled RX11 2 g) (hr : meth.sig.returnType = (some .int)) {P : xP} : xAt p l e { frames := 3, cells := 0, slots := 0, locals := 144 } s m args below meth c g 2 xFT xN 0 0 (MQ below (xQc g xFT xN P) args s 0 0 (xFr g)) (k_X11_settled_16 P) 16 := by
  unfold k_X11_settled_16
  refine r_iload_n (pc := 16) X d_X11_settled_16 fn1 ?_
  exact r_iret (pc := 17) X hr d_X11_settled_17
def k_X11_settled_0 (P : xP) : xK := x_iload 1 (x_if_ne ((k_X11_settled_16 P)) (x_aload 0 (x_aload 0 (y_getF 0 18 (y_cv1 0 (w_RR f_X11_remember) (x_aload 0 (y_cv0 0 (w_R f_X11_changed) ((k_X11_settled_16 P)))))))))
set_option maxRecDepth 20000 in
theorem t_X11_settled_0 {p : Program} {l : Launch} {e : Env} {s : State} {m : MethodId} {args : Array Value} {below : List Frame} {meth : Method} {c : Code} {g : xG} (X : xX p s m args c meth cX11_settled RX11 2 g) (hr : meth.sig.returnType = (some .int)) {P : xP} : xAt p l e { frames := 3, cells := 0, slots := 0, locals := 144 } s m args below meth c g 2 xFT xN 0 0 (MQ below (xQc g xFT xN P) args s 0 0 (xFr g)) (k_X11_settled_0 P) 0 := by
  unfold k_X11_settled_0
  refine r_iload_n (pc := 0) X d_X11_settled_0 fn1 ?_
  refine r_if_ne (pc := 1) (tgt := 16) X d_X11_settled_1 (by decide +kernel) ?_ ?_
  · exact t_X11_settled_16 X hr
  · refine r_aload_n (pc := 4) X d_X11_settled_4 fn0 ?_
    refine r_aload_n (pc := 5) X d_X11_settled_5 fn0 ?_
    refine s_getF (pc := 6) (ci := 11) (k := 3) X xok11 (by decide +kernel) ob_0 trivial ly_0_3 (by decide +kernel) fl_RX11_32 d_X11_settled_6 ?_
    refine s_cv1 (pc := 9) (ci := 11) X xok11 (by decide +kernel) ob_0 rfl (con_X11_remember l) mf_X11_remember ml_RX11_348 (by decide +kernel) (by decide +kernel) d_X11_settled_9 ?_
    refine r_aload_n (pc := 12) X d_X11_settled_12 fn0 ?_
    refine s_cv0 (pc := 13) (ci := 11) X xok11 (by decide +kernel) ob_0 rfl (con_X11_changed l) mf_X11_changed ml_RX11_136 (by decide +kernel) (by decide +kernel) d_X11_settled_13 ?_
    exact t_X11_settled_16 X hr
def f_X11_settled (a0 : Nat) (a1 : Int32) (A : xH) (P : xP) : Prop := k_X11_settled_0 P [some (.ref a0), some (.int a1)] [] A
set_option maxRecDepth 20000 in
theorem con_X11_settled (l : Launch) : xCon l yX11_settled cX11_settled 2 (some .int) 3 144 xN xN 0 xFT xFT (w_RI f_X11_settled) :=
  xc_RI (plainFor_of_name pn_RX11) (by decide +kernel) (fun p e s m args below meth c g a0 a1 A P h X hr _ => ⟨_, h, t_X11_settled_0 X hr⟩)

