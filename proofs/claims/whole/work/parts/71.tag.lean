/-! ===== tag(), on both sides ===== -/
theorem d_X11_tagByte_0 : decode cX11_tagByte 0 = .ok (.aload_n 0, 1) := by decide +kernel
theorem d_X11_tagByte_1 : decode cX11_tagByte 1 = .ok (.getfield 306, 3) := by decide +kernel
theorem d_X11_tagByte_4 : decode cX11_tagByte 4 = .ok (.aload_n 0, 1) := by decide +kernel
theorem d_X11_tagByte_5 : decode cX11_tagByte 5 = .ok (.getfield 106, 3) := by decide +kernel
theorem d_X11_tagByte_8 : decode cX11_tagByte 8 = .ok (.arraylength, 1) := by decide +kernel
theorem d_X11_tagByte_9 : decode cX11_tagByte 9 = .ok (.if_icmp .ge 23, 3) := by decide +kernel
theorem d_X11_tagByte_12 : decode cX11_tagByte 12 = .ok (.aload_n 0, 1) := by decide +kernel
theorem d_X11_tagByte_13 : decode cX11_tagByte 13 = .ok (.getfield 106, 3) := by decide +kernel
theorem d_X11_tagByte_16 : decode cX11_tagByte 16 = .ok (.aload_n 0, 1) := by decide +kernel
theorem d_X11_tagByte_17 : decode cX11_tagByte 17 = .ok (.getfield 306, 3) := by decide +kernel
theorem d_X11_tagByte_20 : decode cX11_tagByte 20 = .ok (.iload_n 1, 1) := by decide +kernel
theorem d_X11_tagByte_21 : decode cX11_tagByte 21 = .ok (.iastore, 1) := by decide +kernel
theorem d_X11_tagByte_22 : decode cX11_tagByte 22 = .ok (.aload_n 0, 1) := by decide +kernel
theorem d_X11_tagByte_23 : decode cX11_tagByte 23 = .ok (.dup, 1) := by decide +kernel
theorem d_X11_tagByte_24 : decode cX11_tagByte 24 = .ok (.getfield 306, 3) := by decide +kernel
theorem d_X11_tagByte_27 : decode cX11_tagByte 27 = .ok (.iconst 1, 1) := by decide +kernel
theorem d_X11_tagByte_28 : decode cX11_tagByte 28 = .ok (.iadd, 1) := by decide +kernel
theorem d_X11_tagByte_29 : decode cX11_tagByte 29 = .ok (.putfield 306, 3) := by decide +kernel
theorem d_X11_tagByte_32 : decode cX11_tagByte 32 = .ok (.return_, 1) := by decide +kernel
def k_X11_tagByte_32 (P : xP) : xK := x_vret P
set_option maxRecDepth 20000 in
theorem t_X11_tagByte_32 {p : Program} {l : Launch} {e : Env} {s : State} {m : MethodId} {args : Array Value} {below : List Frame} {meth : Method} {c : Code} {g : xG} (X : xX p s m args c meth cX11_tagByte RX11 2 g) (hr : meth.sig.returnType = none) {P : xP} : xAt p l e { frames := 0, cells := 0, slots := 0, locals := 0 } s m args below meth c g 2 xFT xN 0 0 (MQ below (xQc g xFT xN P) args s 0 0 (xFr g)) (k_X11_tagByte_32 P) 32 := by
  unfold k_X11_tagByte_32
  exact r_vret (pc := 32) X hr d_X11_tagByte_32
def k_X11_tagByte_0 (P : xP) : xK := x_aload 0 (y_getI 0 18 (x_aload 0 (y_getF 0 73 (y_alen 73 42 (x_icmp_ge ((k_X11_tagByte_32 P)) (x_aload 0 (y_getF 0 73 (x_aload 0 (y_getI 0 18 (x_iload 1 (y_iast 73 42 (x_aload 0 (x_dup (y_getI 0 18 (x_push (.int 1) (x_iadd (y_putI 0 18 ((k_X11_tagByte_32 P)))))))))))))))))))
set_option maxRecDepth 20000 in
theorem t_X11_tagByte_0 {p : Program} {l : Launch} {e : Env} {s : State} {m : MethodId} {args : Array Value} {below : List Frame} {meth : Method} {c : Code} {g : xG} (X : xX p s m args c meth cX11_tagByte RX11 2 g) (hr : meth.sig.returnType = none) {P : xP} : xAt p l e { frames := 0, cells := 0, slots := 0, locals := 0 } s m args below meth c g 2 xFT xN 0 0 (MQ below (xQc g xFT xN P) args s 0 0 (xFr g)) (k_X11_tagByte_0 P) 0 := by
  unfold k_X11_tagByte_0
  refine r_aload_n (pc := 0) X d_X11_tagByte_0 fn0 ?_
  refine s_getI (pc := 1) (ci := 11) X xok11 (by decide +kernel) ob_0 (by decide +kernel) fl_RX11_306 d_X11_tagByte_1 ?_
  refine r_aload_n (pc := 4) X d_X11_tagByte_4 fn0 ?_
  refine s_getF (pc := 5) (ci := 11) (k := 15) X xok11 (by decide +kernel) ob_0 trivial ly_0_15 (by decide +kernel) fl_RX11_106 d_X11_tagByte_5 ?_
  refine s_alen (pc := 8) (q := 73) X (by rw [tn_73]; decide +kernel) ln_73 d_X11_tagByte_8 ?_
  refine r_icmp_ge (pc := 9) (tgt := 32) X d_X11_tagByte_9 (by decide +kernel) ?_ ?_
  · exact t_X11_tagByte_32 X hr
  · refine r_aload_n (pc := 12) X d_X11_tagByte_12 fn0 ?_
    refine s_getF (pc := 13) (ci := 11) (k := 15) X xok11 (by decide +kernel) ob_0 trivial ly_0_15 (by decide +kernel) fl_RX11_106 d_X11_tagByte_13 ?_
    refine r_aload_n (pc := 16) X d_X11_tagByte_16 fn0 ?_
    refine s_getI (pc := 17) (ci := 11) X xok11 (by decide +kernel) ob_0 (by decide +kernel) fl_RX11_306 d_X11_tagByte_17 ?_
    refine r_iload_n (pc := 20) X d_X11_tagByte_20 fn1 ?_
    refine s_iast (pc := 21) X tn_73 ln_73 d_X11_tagByte_21 ?_
    refine r_aload_n (pc := 22) X d_X11_tagByte_22 fn0 ?_
    refine r_dup (pc := 23) X d_X11_tagByte_23 ?_
    refine s_getI (pc := 24) (ci := 11) X xok11 (by decide +kernel) ob_0 (by decide +kernel) fl_RX11_306 d_X11_tagByte_24 ?_
    refine r_iconst (pc := 27) X d_X11_tagByte_27 (by decide +kernel) ?_
    refine r_iadd (pc := 28) X d_X11_tagByte_28 ?_
    refine s_putI (pc := 29) (ci := 11) X xok11 (by decide +kernel) ob_0 (by decide +kernel) (by decide +kernel) (by decide +kernel) fl_RX11_306 d_X11_tagByte_29 ?_
    exact t_X11_tagByte_32 X hr
def f_X11_tagByte (a0 : Nat) (a1 : Int32) (A : xH) (P : xP) : Prop := k_X11_tagByte_0 P [some (.ref a0), some (.int a1)] [] A
set_option maxRecDepth 20000 in
theorem con_X11_tagByte (l : Launch) : xCon l yX11_tagByte cX11_tagByte 2 none 0 0 xN xN 0 xFT xFT (w_RI f_X11_tagByte) :=
  xc_RI (plainFor_of_name pn_RX11) (by decide +kernel) (fun p e s m args below meth c g a0 a1 A P h X hr _ => ⟨_, h, t_X11_tagByte_0 X hr⟩)
theorem d_X11_tagName_0 : decode cX11_tagName 0 = .ok (.bipush 48, 2) := by decide +kernel
theorem d_X11_tagName_2 : decode cX11_tagName 2 = .ok (.istore_n 3, 1) := by decide +kernel
theorem d_X11_tagName_3 : decode cX11_tagName 3 = .ok (.iload_n 3, 1) := by decide +kernel
theorem d_X11_tagName_4 : decode cX11_tagName 4 = .ok (.ifCond .lt 30, 3) := by decide +kernel
theorem d_X11_tagName_7 : decode cX11_tagName 7 = .ok (.lload_n 1, 1) := by decide +kernel
theorem d_X11_tagName_8 : decode cX11_tagName 8 = .ok (.iload_n 3, 1) := by decide +kernel
theorem d_X11_tagName_9 : decode cX11_tagName 9 = .ok (.lushr, 1) := by decide +kernel
theorem d_X11_tagName_10 : decode cX11_tagName 10 = .ok (.l2i, 1) := by decide +kernel
theorem d_X11_tagName_11 : decode cX11_tagName 11 = .ok (.sipush 255, 3) := by decide +kernel
theorem d_X11_tagName_14 : decode cX11_tagName 14 = .ok (.iand, 1) := by decide +kernel
theorem d_X11_tagName_15 : decode cX11_tagName 15 = .ok (.istore 4, 2) := by decide +kernel
theorem d_X11_tagName_17 : decode cX11_tagName 17 = .ok (.iload 4, 2) := by decide +kernel
theorem d_X11_tagName_19 : decode cX11_tagName 19 = .ok (.ifCond .eq 9, 3) := by decide +kernel
theorem d_X11_tagName_22 : decode cX11_tagName 22 = .ok (.aload_n 0, 1) := by decide +kernel
theorem d_X11_tagName_23 : decode cX11_tagName 23 = .ok (.iload 4, 2) := by decide +kernel
theorem d_X11_tagName_25 : decode cX11_tagName 25 = .ok (.invokevirtual 316, 3) := by decide +kernel
theorem d_X11_tagName_28 : decode cX11_tagName 28 = .ok (.iinc 3 (-8), 3) := by decide +kernel
theorem d_X11_tagName_31 : decode cX11_tagName 31 = .ok (.goto (-28), 3) := by decide +kernel
theorem d_X11_tagName_34 : decode cX11_tagName 34 = .ok (.return_, 1) := by decide +kernel
def k_X11_tagName_0 (P : xP) (C3 : xK) : xK := x_push (.int 48) (x_istore 3 (C3))
set_option maxRecDepth 20000 in
theorem t_X11_tagName_0 {p : Program} {l : Launch} {e : Env} {s : State} {m : MethodId} {args : Array Value} {below : List Frame} {meth : Method} {c : Code} {g : xG} (X : xX p s m args c meth cX11_tagName RX11 5 g) (hr : meth.sig.returnType = none) {P : xP} {C3 : xK} (h3 : xAt p l e { frames := 1, cells := 0, slots := 0, locals := 21 } s m args below meth c g 5 xFT xN 0 0 (MQ below (xQc g xFT xN P) args s 0 0 (xFr g)) C3 3) : xAt p l e { frames := 1, cells := 0, slots := 0, locals := 21 } s m args below meth c g 5 xFT xN 0 0 (MQ below (xQc g xFT xN P) args s 0 0 (xFr g)) (k_X11_tagName_0 P C3) 0 := by
  unfold k_X11_tagName_0
  refine r_bipush (pc := 0) X d_X11_tagName_0 (by decide +kernel) ?_
  refine r_istore_n (pc := 2) X d_X11_tagName_2 fn3 (by decide +kernel) ?_
  exact h3
def k_X11_tagName_28 (P : xP) (C3 : xK) : xK := x_iinc 3 (-8) (C3)
set_option maxRecDepth 20000 in
theorem t_X11_tagName_28 {p : Program} {l : Launch} {e : Env} {s : State} {m : MethodId} {args : Array Value} {below : List Frame} {meth : Method} {c : Code} {g : xG} (X : xX p s m args c meth cX11_tagName RX11 5 g) (hr : meth.sig.returnType = none) {P : xP} {C3 : xK} (h3 : xAt p l e { frames := 1, cells := 0, slots := 0, locals := 21 } s m args below meth c g 5 xFT xN 0 0 (MQ below (xQc g xFT xN P) args s 0 0 (xFr g)) C3 3) : xAt p l e { frames := 1, cells := 0, slots := 0, locals := 21 } s m args below meth c g 5 xFT xN 0 0 (MQ below (xQc g xFT xN P) args s 0 0 (xFr g)) (k_X11_tagName_28 P C3) 28 := by
  unfold k_X11_tagName_28
  refine r_iinc (pc := 28) X d_X11_tagName_28 (by decide +kernel) (by decide +kernel) ?_
  refine r_goto (pc := 31) (tgt := 3) X d_X11_tagName_31 (by decide +kernel) ?_
  exact h3
def k_X11_tagName_3 (P : xP) (C3 : xK) : xK := x_iload 3 (x_if_lt (x_vret P) (x_lload 1 (x_iload 3 (x_lushr (x_l2i (x_push (.int 255) (x_iand (x_istore 4 (x_iload 4 (x_if_eq ((k_X11_tagName_28 P C3)) (x_aload 0 (x_iload 4 (y_cv1 0 (w_RI f_X11_tagByte) ((k_X11_tagName_28 P C3)))))))))))))))
set_option maxRecDepth 20000 in
theorem t_X11_tagName_3 {p : Program} {l : Launch} {e : Env} {s : State} {m : MethodId} {args : Array Value} {below : List Frame} {meth : Method} {c : Code} {g : xG} (X : xX p s m args c meth cX11_tagName RX11 5 g) (hr : meth.sig.returnType = none) {P : xP} {C3 : xK} (h3 : xAt p l e { frames := 1, cells := 0, slots := 0, locals := 21 } s m args below meth c g 5 xFT xN 0 0 (MQ below (xQc g xFT xN P) args s 0 0 (xFr g)) C3 3) : xAt p l e { frames := 1, cells := 0, slots := 0, locals := 21 } s m args below meth c g 5 xFT xN 0 0 (MQ below (xQc g xFT xN P) args s 0 0 (xFr g)) (k_X11_tagName_3 P C3) 3 := by
  unfold k_X11_tagName_3
  refine r_iload_n (pc := 3) X d_X11_tagName_3 fn3 ?_
  refine r_if_lt (pc := 4) (tgt := 34) X d_X11_tagName_4 (by decide +kernel) ?_ ?_
  · exact r_vret (pc := 34) X hr d_X11_tagName_34
  · refine r_lload_n (pc := 7) X d_X11_tagName_7 fn1 ?_
    refine r_iload_n (pc := 8) X d_X11_tagName_8 fn3 ?_
    refine r_lushr (pc := 9) X d_X11_tagName_9 ?_
    refine r_l2i (pc := 10) X d_X11_tagName_10 ?_
    refine r_sipush (pc := 11) X d_X11_tagName_11 (by decide +kernel) ?_
    refine r_iand (pc := 14) X d_X11_tagName_14 ?_
    refine r_istore (pc := 15) X d_X11_tagName_15 (by decide +kernel) ?_
    refine r_iload (pc := 17) X d_X11_tagName_17 ?_
    refine r_if_eq (pc := 19) (tgt := 28) X d_X11_tagName_19 (by decide +kernel) ?_ ?_
    · exact t_X11_tagName_28 X hr h3
    · refine r_aload_n (pc := 22) X d_X11_tagName_22 fn0 ?_
      refine r_iload (pc := 23) X d_X11_tagName_23 ?_
      refine s_cv1 (pc := 25) (ci := 11) X xok11 (by decide +kernel) ob_0 rfl (con_X11_tagByte l) mf_X11_tagByte ml_RX11_316 (by decide +kernel) (by decide +kernel) d_X11_tagName_25 ?_
      exact t_X11_tagName_28 X hr h3
set_option maxRecDepth 20000 in
theorem m_X11_tagName {l : Launch} {f : Nat → Int64 → xH → xP → Prop}  {I3 : Nat → Int64 → xH → xP → xM → xK}
    (v0 : ∀ (a0 : Nat) (a1 : Int64) (A : xH) (P : xP), f a0 a1 A P → k_X11_tagName_0 P (xE (I3 a0 a1 A P)) [some (.ref a0), some (.long a1), none, none, none] [] A)
    (v3 : ∀ (a0 : Nat) (a1 : Int64) (A : xH) (P : xP), f a0 a1 A P → ∀ (μ : xM) (L : xL) (st : List Value) (B : xH), I3 a0 a1 A P μ L st B → k_X11_tagName_3 P (xB (I3 a0 a1 A P) μ) L st B) : xCon l yX11_tagName cX11_tagName 5 none 1 21 xN xN 0 xFT xFT (w_RJ f) := by
  refine xc_RJ (plainFor_of_name pn_RX11) (by decide +kernel) (fun p e s m args below meth c g a0 a1 A P h X hr _ => ?_)
  have h3 := x_loop1 (p := p) (l := l) (e := e) (R := { frames := 1, cells := 0, slots := 0, locals := 21 }) (s := s) (m := m) (args := args) (below := below) (meth := meth) (c := c) (g := g) (nL := 5) (F := xFT) (n := xN) (cells := 0) (slots := 0) (Q := MQ below (xQc g xFT xN P) args s 0 0 (xFr g)) (I := I3 a0 a1 A P) (pc1 := 3) (fun μ i3 => xAt_mono (t_X11_tagName_3 (P := P) X hr i3) (v3 a0 a1 A P h μ))
  exact ⟨_, v0 a0 a1 A P h, t_X11_tagName_0 X hr h3⟩
theorem d_X12_lays_0 : decode cX12_lays 0 = .ok (.aload_n 0, 1) := by decide +kernel
theorem d_X12_lays_1 : decode cX12_lays 1 = .ok (.getfield 169, 3) := by decide +kernel
theorem d_X12_lays_4 : decode cX12_lays 4 = .ok (.aload_n 0, 1) := by decide +kernel
theorem d_X12_lays_5 : decode cX12_lays 5 = .ok (.getfield 556, 3) := by decide +kernel
theorem d_X12_lays_8 : decode cX12_lays 8 = .ok (.iload_n 1, 1) := by decide +kernel
theorem d_X12_lays_9 : decode cX12_lays 9 = .ok (.i2b, 1) := by decide +kernel
theorem d_X12_lays_10 : decode cX12_lays 10 = .ok (.bastore, 1) := by decide +kernel
theorem d_X12_lays_11 : decode cX12_lays 11 = .ok (.aload_n 0, 1) := by decide +kernel
theorem d_X12_lays_12 : decode cX12_lays 12 = .ok (.dup, 1) := by decide +kernel
theorem d_X12_lays_13 : decode cX12_lays 13 = .ok (.getfield 556, 3) := by decide +kernel
theorem d_X12_lays_16 : decode cX12_lays 16 = .ok (.iconst 1, 1) := by decide +kernel
theorem d_X12_lays_17 : decode cX12_lays 17 = .ok (.iadd, 1) := by decide +kernel
theorem d_X12_lays_18 : decode cX12_lays 18 = .ok (.putfield 556, 3) := by decide +kernel
theorem d_X12_lays_21 : decode cX12_lays 21 = .ok (.return_, 1) := by decide +kernel
def k_X12_lays_0 (P : xP) : xK := x_aload 0 (y_getF 180 224 (x_aload 0 (y_getI 180 77 (x_iload 1 (x_i2b (y_bast 224 3 60 (x_aload 0 (x_dup (y_getI 180 77 (x_push (.int 1) (x_iadd (y_putI 180 77 (x_vret P)))))))))))))
set_option maxRecDepth 20000 in
theorem t_X12_lays_0 {p : Program} {l : Launch} {e : Env} {s : State} {m : MethodId} {args : Array Value} {below : List Frame} {meth : Method} {c : Code} {g : xG} (X : xX p s m args c meth cX12_lays RX12 2 g) (hr : meth.sig.returnType = none) {P : xP} : xAt p l e { frames := 0, cells := 0, slots := 0, locals := 0 } s m args below meth c g 2 xFT xN 0 0 (MQ below (xQc g xFT xN P) args s 0 0 (xFr g)) (k_X12_lays_0 P) 0 := by
  unfold k_X12_lays_0
  refine r_aload_n (pc := 0) X d_X12_lays_0 fn0 ?_
  refine s_getF (pc := 1) (ci := 12) (k := 76) X xok12 (by decide +kernel) ob_180 trivial ly_180_76 (by decide +kernel) fl_RX12_169 d_X12_lays_1 ?_
  refine r_aload_n (pc := 4) X d_X12_lays_4 fn0 ?_
  refine s_getI (pc := 5) (ci := 12) X xok12 (by decide +kernel) ob_180 (by decide +kernel) fl_RX12_556 d_X12_lays_5 ?_
  refine r_iload_n (pc := 8) X d_X12_lays_8 fn1 ?_
  refine r_i2b (pc := 9) X d_X12_lays_9 ?_
  refine s_bast (pc := 10) X tn_224 ln_224 d_X12_lays_10 ?_
  refine r_aload_n (pc := 11) X d_X12_lays_11 fn0 ?_
  refine r_dup (pc := 12) X d_X12_lays_12 ?_
  refine s_getI (pc := 13) (ci := 12) X xok12 (by decide +kernel) ob_180 (by decide +kernel) fl_RX12_556 d_X12_lays_13 ?_
  refine r_iconst (pc := 16) X d_X12_lays_16 (by decide +kernel) ?_
  refine r_iadd (pc := 17) X d_X12_lays_17 ?_
  refine s_putI (pc := 18) (ci := 12) X xok12 (by decide +kernel) ob_180 (by decide +kernel) (by decide +kernel) (by decide +kernel) fl_RX12_556 d_X12_lays_18 ?_
  exact r_vret (pc := 21) X hr d_X12_lays_21
def f_X12_lays (a0 : Nat) (a1 : Int32) (A : xH) (P : xP) : Prop := k_X12_lays_0 P [some (.ref a0), some (.int a1)] [] A
set_option maxRecDepth 20000 in
theorem con_X12_lays (l : Launch) : xCon l yX12_lays cX12_lays 2 none 0 0 xN xN 0 xFT xFT (w_RI f_X12_lays) :=
  xc_RI (plainFor_of_name pn_RX12) (by decide +kernel) (fun p e s m args below meth c g a0 a1 A P h X hr _ => ⟨_, h, t_X12_lays_0 X hr⟩)
theorem d_X12_spells_0 : decode cX12_spells 0 = .ok (.bipush 56, 2) := by decide +kernel
theorem d_X12_spells_2 : decode cX12_spells 2 = .ok (.istore_n 3, 1) := by decide +kernel
theorem d_X12_spells_3 : decode cX12_spells 3 = .ok (.iload_n 3, 1) := by decide +kernel
theorem d_X12_spells_4 : decode cX12_spells 4 = .ok (.ifCond .lt 33, 3) := by decide +kernel
theorem d_X12_spells_7 : decode cX12_spells 7 = .ok (.lload_n 1, 1) := by decide +kernel
theorem d_X12_spells_8 : decode cX12_spells 8 = .ok (.iload_n 3, 1) := by decide +kernel
theorem d_X12_spells_9 : decode cX12_spells 9 = .ok (.lshr, 1) := by decide +kernel
theorem d_X12_spells_10 : decode cX12_spells 10 = .ok (.ldc2_w 559, 3) := by decide +kernel
theorem d_X12_spells_13 : decode cX12_spells 13 = .ok (.land, 1) := by decide +kernel
theorem d_X12_spells_14 : decode cX12_spells 14 = .ok (.lconst 0, 1) := by decide +kernel
theorem d_X12_spells_15 : decode cX12_spells 15 = .ok (.lcmp, 1) := by decide +kernel
theorem d_X12_spells_16 : decode cX12_spells 16 = .ok (.ifCond .eq 15, 3) := by decide +kernel
theorem d_X12_spells_19 : decode cX12_spells 19 = .ok (.aload_n 0, 1) := by decide +kernel
theorem d_X12_spells_20 : decode cX12_spells 20 = .ok (.lload_n 1, 1) := by decide +kernel
theorem d_X12_spells_21 : decode cX12_spells 21 = .ok (.iload_n 3, 1) := by decide +kernel
theorem d_X12_spells_22 : decode cX12_spells 22 = .ok (.lshr, 1) := by decide +kernel
theorem d_X12_spells_23 : decode cX12_spells 23 = .ok (.ldc2_w 559, 3) := by decide +kernel
theorem d_X12_spells_26 : decode cX12_spells 26 = .ok (.land, 1) := by decide +kernel
theorem d_X12_spells_27 : decode cX12_spells 27 = .ok (.l2i, 1) := by decide +kernel
theorem d_X12_spells_28 : decode cX12_spells 28 = .ok (.invokevirtual 561, 3) := by decide +kernel
theorem d_X12_spells_31 : decode cX12_spells 31 = .ok (.iinc 3 (-8), 3) := by decide +kernel
theorem d_X12_spells_34 : decode cX12_spells 34 = .ok (.goto (-31), 3) := by decide +kernel
theorem d_X12_spells_37 : decode cX12_spells 37 = .ok (.return_, 1) := by decide +kernel
def k_X12_spells_0 (P : xP) (C3 : xK) : xK := x_push (.int 56) (x_istore 3 (C3))
set_option maxRecDepth 20000 in
theorem t_X12_spells_0 {p : Program} {l : Launch} {e : Env} {s : State} {m : MethodId} {args : Array Value} {below : List Frame} {meth : Method} {c : Code} {g : xG} (X : xX p s m args c meth cX12_spells RX12 4 g) (hr : meth.sig.returnType = none) {P : xP} {C3 : xK} (h3 : xAt p l e { frames := 1, cells := 0, slots := 0, locals := 21 } s m args below meth c g 4 xFT xN 0 0 (MQ below (xQc g xFT xN P) args s 0 0 (xFr g)) C3 3) : xAt p l e { frames := 1, cells := 0, slots := 0, locals := 21 } s m args below meth c g 4 xFT xN 0 0 (MQ below (xQc g xFT xN P) args s 0 0 (xFr g)) (k_X12_spells_0 P C3) 0 := by
  unfold k_X12_spells_0
  refine r_bipush (pc := 0) X d_X12_spells_0 (by decide +kernel) ?_
  refine r_istore_n (pc := 2) X d_X12_spells_2 fn3 (by decide +kernel) ?_
  exact h3
def k_X12_spells_31 (P : xP) (C3 : xK) : xK := x_iinc 3 (-8) (C3)
set_option maxRecDepth 20000 in
theorem t_X12_spells_31 {p : Program} {l : Launch} {e : Env} {s : State} {m : MethodId} {args : Array Value} {below : List Frame} {meth : Method} {c : Code} {g : xG} (X : xX p s m args c meth cX12_spells RX12 4 g) (hr : meth.sig.returnType = none) {P : xP} {C3 : xK} (h3 : xAt p l e { frames := 1, cells := 0, slots := 0, locals := 21 } s m args below meth c g 4 xFT xN 0 0 (MQ below (xQc g xFT xN P) args s 0 0 (xFr g)) C3 3) : xAt p l e { frames := 1, cells := 0, slots := 0, locals := 21 } s m args below meth c g 4 xFT xN 0 0 (MQ below (xQc g xFT xN P) args s 0 0 (xFr g)) (k_X12_spells_31 P C3) 31 := by
  unfold k_X12_spells_31
  refine r_iinc (pc := 31) X d_X12_spells_31 (by decide +kernel) (by decide +kernel) ?_
  refine r_goto (pc := 34) (tgt := 3) X d_X12_spells_34 (by decide +kernel) ?_
  exact h3
def k_X12_spells_3 (P : xP) (C3 : xK) : xK := x_iload 3 (x_if_lt (x_vret P) (x_lload 1 (x_iload 3 (x_lshr (x_push (.long 255) (x_land (x_push (.long 0) (x_lcmp (x_if_eq ((k_X12_spells_31 P C3)) (x_aload 0 (x_lload 1 (x_iload 3 (x_lshr (x_push (.long 255) (x_land (x_l2i (y_cv1 180 (w_RI f_X12_lays) ((k_X12_spells_31 P C3)))))))))))))))))))
set_option maxRecDepth 20000 in
theorem t_X12_spells_3 {p : Program} {l : Launch} {e : Env} {s : State} {m : MethodId} {args : Array Value} {below : List Frame} {meth : Method} {c : Code} {g : xG} (X : xX p s m args c meth cX12_spells RX12 4 g) (hr : meth.sig.returnType = none) {P : xP} {C3 : xK} (h3 : xAt p l e { frames := 1, cells := 0, slots := 0, locals := 21 } s m args below meth c g 4 xFT xN 0 0 (MQ below (xQc g xFT xN P) args s 0 0 (xFr g)) C3 3) : xAt p l e { frames := 1, cells := 0, slots := 0, locals := 21 } s m args below meth c g 4 xFT xN 0 0 (MQ below (xQc g xFT xN P) args s 0 0 (xFr g)) (k_X12_spells_3 P C3) 3 := by
  unfold k_X12_spells_3
  refine r_iload_n (pc := 3) X d_X12_spells_3 fn3 ?_
  refine r_if_lt (pc := 4) (tgt := 37) X d_X12_spells_4 (by decide +kernel) ?_ ?_
  · exact r_vret (pc := 37) X hr d_X12_spells_37
  · refine r_lload_n (pc := 7) X d_X12_spells_7 fn1 ?_
    refine r_iload_n (pc := 8) X d_X12_spells_8 fn3 ?_
    refine r_lshr (pc := 9) X d_X12_spells_9 ?_
    refine r_ldc2 (pc := 10) X cw_RX12_559 d_X12_spells_10 ?_
    refine r_land (pc := 13) X d_X12_spells_13 ?_
    refine r_lconst (pc := 14) X d_X12_spells_14 (by decide +kernel) ?_
    refine r_lcmp (pc := 15) X d_X12_spells_15 ?_
    refine r_if_eq (pc := 16) (tgt := 31) X d_X12_spells_16 (by decide +kernel) ?_ ?_
    · exact t_X12_spells_31 X hr h3
    · refine r_aload_n (pc := 19) X d_X12_spells_19 fn0 ?_
      refine r_lload_n (pc := 20) X d_X12_spells_20 fn1 ?_
      refine r_iload_n (pc := 21) X d_X12_spells_21 fn3 ?_
      refine r_lshr (pc := 22) X d_X12_spells_22 ?_
      refine r_ldc2 (pc := 23) X cw_RX12_559 d_X12_spells_23 ?_
      refine r_land (pc := 26) X d_X12_spells_26 ?_
      refine r_l2i (pc := 27) X d_X12_spells_27 ?_
      refine s_cv1 (pc := 28) (ci := 12) X xok12 (by decide +kernel) ob_180 rfl (con_X12_lays l) mf_X12_lays ml_RX12_561 (by decide +kernel) (by decide +kernel) d_X12_spells_28 ?_
      exact t_X12_spells_31 X hr h3
set_option maxRecDepth 20000 in
theorem m_X12_spells {l : Launch} {f : Nat → Int64 → xH → xP → Prop}  {I3 : Nat → Int64 → xH → xP → xM → xK}
    (v0 : ∀ (a0 : Nat) (a1 : Int64) (A : xH) (P : xP), f a0 a1 A P → k_X12_spells_0 P (xE (I3 a0 a1 A P)) [some (.ref a0), some (.long a1), none, none] [] A)
    (v3 : ∀ (a0 : Nat) (a1 : Int64) (A : xH) (P : xP), f a0 a1 A P → ∀ (μ : xM) (L : xL) (st : List Value) (B : xH), I3 a0 a1 A P μ L st B → k_X12_spells_3 P (xB (I3 a0 a1 A P) μ) L st B) : xCon l yX12_spells cX12_spells 4 none 1 21 xN xN 0 xFT xFT (w_RJ f) := by
  refine xc_RJ (plainFor_of_name pn_RX12) (by decide +kernel) (fun p e s m args below meth c g a0 a1 A P h X hr _ => ?_)
  have h3 := x_loop1 (p := p) (l := l) (e := e) (R := { frames := 1, cells := 0, slots := 0, locals := 21 }) (s := s) (m := m) (args := args) (below := below) (meth := meth) (c := c) (g := g) (nL := 4) (F := xFT) (n := xN) (cells := 0) (slots := 0) (Q := MQ below (xQc g xFT xN P) args s 0 0 (xFr g)) (I := I3 a0 a1 A P) (pc1 := 3) (fun μ i3 => xAt_mono (t_X12_spells_3 (P := P) X hr i3) (v3 a0 a1 A P h μ))
  exact ⟨_, v0 a0 a1 A P h, t_X12_spells_0 X hr h3⟩
abbrev tB : Type := Nat × (Nat → Int32)
def ap (s : tB) (x : Int32) : tB := (s.1 + 1, fun k => if k = s.1 then x else s.2 k)
/-- a byte of a name, from the top -/
def bw (w : Int64) (m : Nat) : Nat := nL64 w / 2 ^ (56 - 8 * m) % 256
def apW (s : tB) (w : Int64) : Nat → tB
  | 0 => s
  | m + 1 => if bw w m = 0 then apW s w m else ap (apW s w m) (nI (bw w m))
def okN (w : Int64) : Prop := bw w 0 = 0 ∧ ∀ m, m < 8 → bw w m < 128
theorem bw_lt (w : Int64) (m : Nat) : bw w m < 256 := Nat.mod_lt _ (by decide)
theorem apW_le (s : tB) (w : Int64) : ∀ m, (apW s w m).1 ≤ s.1 + m
  | 0 => Nat.le_refl _
  | m + 1 => by
    have := apW_le s w m
    simp only [apW]
    split
    · omega
    · simp only [ap]; omega
theorem apW_mo (s : tB) (w : Int64) : ∀ m, s.1 ≤ (apW s w m).1
  | 0 => Nat.le_refl _
  | m + 1 => by
    have := apW_mo s w m
    simp only [apW]
    split
    · omega
    · simp only [ap]; omega
theorem apW_1 {s : tB} {w : Int64} (h : okN w) : apW s w 1 = s := by
  simp only [apW, h.1, if_true]
theorem apW_l1 {s : tB} {w : Int64} (h : okN w) : ∀ m, (apW s w (m + 1)).1 ≤ s.1 + m
  | 0 => by rw [apW_1 h]; exact Nat.le_refl _
  | m + 1 => by
    have := apW_l1 (s := s) h m
    rw [apW]
    split
    · omega
    · simp only [ap]; omega
def shp (m : Nat) : Int32 := if m < 8 then nI (56 - 8 * m) else -8
theorem shp_n {m : Nat} (h : m < 8) : shp m + (-nI 8) = shp (m + 1) := by
  rcases (show m = 0 ∨ m = 1 ∨ m = 2 ∨ m = 3 ∨ m = 4 ∨ m = 5 ∨ m = 6 ∨ m = 7 by omega) with rfl | rfl | rfl | rfl | rfl | rfl | rfl | rfl <;> decide +kernel
theorem shp_0 {m : Nat} (h : m ≤ 8) : shp m < 0 ↔ m = 8 := by
  rcases (show m = 0 ∨ m = 1 ∨ m = 2 ∨ m = 3 ∨ m = 4 ∨ m = 5 ∨ m = 6 ∨ m = 7 ∨ m = 8 by omega) with rfl | rfl | rfl | rfl | rfl | rfl | rfl | rfl | rfl <;> decide +kernel
theorem shp_e {m : Nat} (h : m < 8) : shp m = nI (56 - 8 * m) := if_pos h
theorem t255 {x : Int64} : x.toInt32 &&& 255 = nI (nL64 x % 256) := by
  apply Int32.toBitVec_inj.mp
  apply BitVec.eq_of_toNat_eq
  have h1 : (x.toInt32 &&& 255).toBitVec.toNat = (nL64 x % 2 ^ 32) &&& 255 := by
    show (x.toInt32.toBitVec &&& 255#32).toNat = _
    rw [BitVec.toNat_and]
    have : x.toInt32.toBitVec = x.toBitVec.setWidth 32 := by
      show x.toBitVec.signExtend 32 = _
      rw [BitVec.signExtend_eq_setWidth_of_le _ (by omega)]
    rw [this, BitVec.toNat_setWidth]; rfl
  rw [h1, show (255 : Nat) = 2 ^ 8 - 1 from rfl, Nat.and_two_pow_sub_one_eq_mod]
  show _ = (BitVec.ofNat 32 (nL64 x % 256)).toNat
  rw [BitVec.toNat_ofNat]
  omega
theorem byC {w : Int64} {m : Nat} (h : m < 8) : (xlus w (shp m)).toInt32 &&& nI 255 = nI (bw w m) := by
  rw [show nI 255 = (255 : Int32) from rfl, t255, shp_e h, nL_lus (by omega)]; rfl
theorem lsr_b {x : Int64} {k : Nat} (h : k < 64) : (xlsr x (nI k)).toBitVec = x.toBitVec.sshiftRight k := by
  have e : ((nI k).toInt64 &&& 63).toBitVec = BitVec.ofNat 64 k := sh_n h
  show x.toBitVec.sshiftRight' (((nI k).toInt64 &&& 63).toBitVec.smod 64#64) = _
  rw [e]
  have e2 : (BitVec.ofNat 64 k).smod 64#64 = BitVec.ofNat 64 k := by
    have key : ∀ k, k < 64 → (BitVec.ofNat 64 k).smod 64#64 = BitVec.ofNat 64 k := by decide +kernel
    exact key k h
  rw [e2]
  show x.toBitVec.sshiftRight (BitVec.ofNat 64 k).toNat = _
  rw [BitVec.toNat_ofNat, Nat.mod_eq_of_lt (a := k) (by omega)]
theorem nL_lN {n : Nat} (h : n < 2 ^ 64) : nL64 (lN n) = n := by
  show (BitVec.ofNat 64 n).toNat = n
  rw [BitVec.toNat_ofNat, Nat.mod_eq_of_lt h]
theorem nL_inj {x y : Int64} (h : nL64 x = nL64 y) : x = y := Int64.toBitVec_inj.mp (BitVec.eq_of_toNat_eq h)
theorem byU {w : Int64} {m : Nat} (h : m < 8) : xlsr w (shp m) &&& 255 = lN (bw w m) := by
  have e : xlsr w (shp m) &&& 255 = xlus w (shp m) &&& 255 := by
    refine tl_ext fun j hj => ?_
    rw [tl_and, tl_and, shp_e h, tl_lus (by omega)]
    have e3 : tl (255 : Int64) j = decide (j < 8) := by
      have key : ∀ j, j < 64 → tl (255 : Int64) j = decide (j < 8) := by decide +kernel
      exact key j hj
    rw [e3]
    by_cases q : j < 8
    · congr 1
      unfold tl
      rw [lsr_b (by omega), BitVec.getLsbD_sshiftRight, if_pos (by omega)]
      simp; omega
    · rw [decide_eq_false q, Bool.and_false, Bool.and_false]
  rw [e]
  refine nL_inj ?_
  rw [nL_and, shp_e h, nL_lus (by omega), nL_lN (by have := bw_lt w m; omega), show nL64 255 = 2 ^ 8 - 1 by decide +kernel, Nat.and_two_pow_sub_one_eq_mod]
  rfl
theorem lN_0 {n : Nat} (h : n < 2 ^ 31) : lN n = 0 ↔ n = 0 := by
  constructor
  · intro e
    have := congrArg nL64 e
    rw [nL_lN (by omega)] at this
    rw [this]; decide +kernel
  · intro e; subst e; rfl
theorem lN_32 {n : Nat} (h : n < 256) : (lN n).toInt32 = nI n := by
  have key : ∀ n, n < 256 → (lN n).toInt32 = nI n := by decide +kernel
  exact key n h
theorem b_nar {n : Nat} (h : n < 128) : vp_nar (xaty 3) (nI n).toInt8.toInt32 = nI n := by
  have key : ∀ n, n < 128 → vp_nar (xaty 3) (nI n).toInt8.toInt32 = nI n := by decide +kernel
  exact key n h
/-! the class's tag -/
def tgC (A : xH) (s : tB) : Prop := xi A 0 18 = nI s.1 ∧ ∀ k, k < s.1 → xi A 73 k = s.2 k
def STg (c k : Nat) : Prop := c = 73 ∨ (c = 0 ∧ k = 18)
theorem tagByte_C {A : xH} {P : xP} {s : tB} {x : Int32} (h : tgC A s) (hs : s.1 < 42) (hP : ∀ B, fr STg A B → tgC B (ap s x) → P none B) : f_X11_tagByte 0 x A P := by
  unfold f_X11_tagByte
  simp (disch := omega) only [k_X11_tagByte_0, k_X11_tagByte_32, x_aload, x_dup, x_iadd, x_icmp_ge, x_iload, x_push, x_vret, y_alen, y_getF, y_getI, y_iast, y_putI, xFT, xbool0, xbool1, Nat.reduceAdd, Nat.zero_add, xgl_0, xgl_s, xgl_n, xst_0, xst_1n, xst_1i, xst_1r, xst_1l, xst_s, set_0, set_s, true_and, and_true, xres, xcat_nil, xcat_i, xcat_r, xcat_l, Nat.add_zero, xble0, xble1, xble2, xble3, xble4, xble5, xble6, xble7, xble8, pk_mul, nI_add, nI_1, nI_leI, nI_ltI, nI_eq, n_in, n_cl, z_eq, z_lt, z_le, z_gt, z_ge, z_qe, o_eq, o_lt, o_le, o_gt, o_ge, vp0, vp1, cl0, cl1, n_sub, n_sub1, n_pm1, n_a0, n_0a, ofn, lN0, Nat.reduceLT, Nat.reduceLeDiff, Nat.reduceMul, Nat.reduceSub, Nat.reduceEqDiff, ne_eq, true_implies, false_implies, not_true_eq_false, not_false_eq_true, and_self, and_true, true_and, and_false, false_and, implies_true, if_true, if_false, i00, i10, i01, i11, ob_0, ob_1, tn_2, ln_2, ob_3, tn_4, ln_4, ob_5, tn_6, ln_6, tn_7, ln_7, ob_8, tn_9, ln_9, tn_10, ln_10, tn_11, ln_11, tn_12, ln_12, tn_13, ln_13, tn_14, ln_14, tn_15, ln_15, tn_16, ln_16, tn_17, ln_17, ob_18, tn_19, ln_19, tn_20, ln_20, tn_21, ln_21, tn_22, ln_22, tn_23, ln_23, tn_24, ln_24, tn_25, ln_25, tn_26, ln_26, tn_27, ln_27, ob_28, tn_29, ln_29, tn_30, ln_30, ob_31, tn_32, ln_32, tn_33, ln_33, ob_34, ob_35, tn_36, ln_36, tn_37, ln_37, tn_38, ln_38, ob_39, tn_40, ln_40, tn_41, ln_41, tn_42, ln_42, tn_43, ln_43, tn_44, ln_44, tn_45, ln_45, tn_46, ln_46, tn_47, ln_47, tn_48, ln_48, tn_49, ln_49, tn_50, ln_50, tn_51, ln_51, ob_52, tn_53, ln_53, tn_54, ln_54, tn_55, ln_55, tn_56, ln_56, ob_57, tn_58, ln_58, tn_59, ln_59, tn_60, ln_60, tn_61, ln_61, tn_62, ln_62, tn_63, ln_63, tn_64, ln_64, tn_65, ln_65, ob_66, tn_67, ln_67, tn_68, ln_68, tn_69, ln_69, tn_70, ln_70, tn_71, ln_71, tn_72, ln_72, tn_73, ln_73, ob_74, tn_75, ln_75, tn_76, ln_76, tn_77, ln_77, tn_78, ln_78, tn_79, ln_79, tn_80, ln_80, tn_81, ln_81, tn_82, ln_82, tn_83, ln_83, ob_84, tn_85, ln_85, tn_86, ln_86, tn_87, ln_87, tn_88, ln_88, tn_89, ln_89, tn_90, ln_90, tn_91, ln_91, tn_92, ln_92, tn_93, ln_93, ob_94, tn_95, ln_95, tn_96, ln_96, tn_97, ln_97, tn_98, ln_98, tn_99, ln_99, tn_100, ln_100, tn_101, ln_101, tn_102, ln_102, tn_103, ln_103, ob_104, tn_105, ln_105, tn_106, ln_106, tn_107, ln_107, tn_108, ln_108, tn_109, ln_109, tn_110, ln_110, tn_111, ln_111, tn_112, ln_112, tn_113, ln_113, ob_114, tn_115, ln_115, tn_116, ln_116, tn_117, ln_117, tn_118, ln_118, tn_119, ln_119, tn_120, ln_120, tn_121, ln_121, tn_122, ln_122, tn_123, ln_123, ob_124, tn_125, ln_125, tn_126, ln_126, tn_127, ln_127, tn_128, ln_128, tn_129, ln_129, tn_130, ln_130, tn_131, ln_131, tn_132, ln_132, tn_133, ln_133, ob_134, tn_135, ln_135, tn_136, ln_136, tn_137, ln_137, tn_138, ln_138, tn_139, ln_139, tn_140, ln_140, tn_141, ln_141, tn_142, ln_142, tn_143, ln_143, ob_144, tn_145, ln_145, tn_146, ln_146, tn_147, ln_147, tn_148, ln_148, tn_149, ln_149, tn_150, ln_150, tn_151, ln_151, tn_152, ln_152, tn_153, ln_153, ob_154, tn_155, ln_155, tn_156, ln_156, tn_157, ln_157, tn_158, ln_158, tn_159, ln_159, tn_160, ln_160, tn_161, ln_161, tn_162, ln_162, tn_163, ln_163, ob_164, tn_165, ln_165, tn_166, ln_166, ob_167, tn_168, ln_168, tn_169, ln_169, tn_170, ln_170, tn_171, ln_171, tn_172, ln_172, tn_173, ln_173, tn_174, ln_174, tn_175, ln_175, tn_176, ln_176, ob_177, tn_178, ln_178, tn_179, ln_179, ob_180, tn_181, ln_181, tn_182, ln_182, tn_183, ln_183, tn_184, ln_184, tn_185, ln_185, tn_186, ln_186, tn_187, ln_187, tn_188, ln_188, tn_189, ln_189, tn_190, ln_190, tn_191, ln_191, tn_192, ln_192, tn_193, ln_193, tn_194, ln_194, tn_195, ln_195, tn_196, ln_196, tn_197, ln_197, tn_198, ln_198, tn_199, ln_199, tn_200, ln_200, tn_201, ln_201, tn_202, ln_202, tn_203, ln_203, tn_204, ln_204, tn_205, ln_205, tn_206, ln_206, tn_207, ln_207, tn_208, ln_208, tn_209, ln_209, tn_210, ln_210, tn_211, ln_211, tn_212, ln_212, tn_213, ln_213, tn_214, ln_214, tn_215, ln_215, tn_216, ln_216, tn_217, ln_217, tn_218, ln_218, tn_219, ln_219, tn_220, ln_220, tn_221, ln_221, tn_222, ln_222, tn_223, ln_223, tn_224, ln_224, tn_225, ln_225, tn_226, ln_226, tn_227, ln_227, tn_228, ln_228, tn_229, ln_229, tn_230, ln_230, lx2, lx3, lx4, lx5, lx6, lx7, lx8, lx9, lx10, lx14, lx15, lx16, lx18, lx20, lx24, lx25, lx27, lx32, lx36, lx40, lx41, lx42, lx43, lx45, lx48, lx52, lx54, lx56, lx57, lx58, lx60, lx61, lx62, lx63, lx64, lx66, lx69, lx73, lx80, lx81, lx84, lx85, lx87, lx94, lx96, lx97, lx120, lx128, lx135, lx160, lx162, lx163, lx165, lx200, lx232, lx242, lx243, lx255, lx256, lx320, lx325, lx400, lx405, lx464, lx512, lx600, lx640, lx752, lx900, lx940, lx1000, lx1024, lx1764, lx3360, lx3840, lx5000, lx6400, lx9050, lx9998, lx9999, lx10000, lx25600, lx76800, lx99999, si_ne, si_eq, sl_ne, sl_eq, xl_si, xi_sl, sA_ne, sA_eq, xl_sA, h.1]
  refine ⟨fun q => absurd hs (by omega), fun _ => ⟨hs, hP _ (fr_si (fr_si fr_rf (by unfold STg; omega)) (by unfold STg; omega)) ⟨si_eq, fun k hk => ?_⟩⟩⟩
  simp only [ap] at hk ⊢
  rw [si_ne (by omega)]
  by_cases e : k = s.1
  · subst e; rw [si_eq, if_pos rfl]
  · rw [si_ne (by omega), if_neg e]; exact h.2 k (by omega)
def f_X11_tagName (q : Nat) (w : Int64) (A : xH) (P : xP) : Prop := q = 0 ∧ ∃ s, tgC A s ∧ okN w ∧ s.1 + 7 ≤ 42 ∧ ∀ B, fr STg A B → tgC B (apW s w 8) → P none B
def tnI (w : Int64) (A : xH) (P : xP) : xM → xK := fun μ L st B => ∃ s m o, okN w ∧ s.1 + 7 ≤ 42 ∧ (∀ B, fr STg A B → tgC B (apW s w 8) → P none B) ∧ fr STg A B ∧ 1 ≤ m ∧ m ≤ 8 ∧ tgC B (apW s w m) ∧ st = [] ∧ L = [some (.ref 0), some (.long w), none, some (.int (shp m)), o] ∧ μ = (8 - m, 0, 0)
set_option maxRecDepth 20000 in
theorem con_X11_tagName (l : Launch) : xCon l yX11_tagName cX11_tagName 5 none 1 21 xN xN 0 xFT xFT (w_RJ f_X11_tagName) := by
  refine m_X11_tagName (I3 := fun q w A P => tnI w A P) ?_ ?_
  · rintro q w A P ⟨rfl, s, h, hw, hs, hP⟩
    simp (disch := omega) only [k_X11_tagName_0, k_X11_tagName_3, k_X11_tagName_28, f_X11_tagByte, w_RI, x_aload, x_iand, x_if_eq, x_if_lt, x_iinc, x_iload, x_istore, x_l2i, x_lload, x_lushr, x_push, x_vret, y_cv1, xFT, xbool0, xbool1, Nat.reduceAdd, Nat.zero_add, xgl_0, xgl_s, xgl_n, xst_0, xst_1n, xst_1i, xst_1r, xst_1l, xst_s, set_0, set_s, true_and, and_true, xres, xcat_nil, xcat_i, xcat_r, xcat_l, Nat.add_zero, xble0, xble1, xble2, xble3, xble4, xble5, xble6, xble7, xble8]
    exact xE0 (8 - 1, 0, 0) ⟨s, 1, none, hw, hs, hP, fr_rf, by omega, by omega, by rw [apW_1 hw]; exact h, rfl, rfl, rfl⟩
  · rintro q w A P - μ L st B ⟨s, m, o, hw, hs, hP, hF, h1, h8, h, rfl, rfl, rfl⟩
    simp (disch := omega) only [k_X11_tagName_0, k_X11_tagName_3, k_X11_tagName_28, w_RI, x_aload, x_iand, x_if_eq, x_if_lt, x_iinc, x_iload, x_istore, x_l2i, x_lload, x_lushr, x_push, x_vret, y_cv1, xFT, xbool0, xbool1, Nat.reduceAdd, Nat.zero_add, xgl_0, xgl_s, xgl_n, xst_0, xst_1n, xst_1i, xst_1r, xst_1l, xst_s, set_0, set_s, true_and, and_true, xres, xcat_nil, xcat_i, xcat_r, xcat_l, Nat.add_zero, xble0, xble1, xble2, xble3, xble4, xble5, xble6, xble7, xble8, shp_0 h8]
    refine ⟨fun q => ?_, fun q => ?_⟩
    · subst q; exact hP B hF h
    · have hm : m < 8 := by omega
      have hb := bw_lt w m
      simp (disch := omega) only [k_X11_tagName_0, k_X11_tagName_3, k_X11_tagName_28, w_RI, x_aload, x_iand, x_if_eq, x_if_lt, x_iinc, x_iload, x_istore, x_l2i, x_lload, x_lushr, x_push, x_vret, y_cv1, xFT, xbool0, xbool1, Nat.reduceAdd, Nat.zero_add, xgl_0, xgl_s, xgl_n, xst_0, xst_1n, xst_1i, xst_1r, xst_1l, xst_s, set_0, set_s, true_and, and_true, xres, xcat_nil, xcat_i, xcat_r, xcat_l, Nat.add_zero, xble0, xble1, xble2, xble3, xble4, xble5, xble6, xble7, xble8, byC hm, pk_mul, nI_add, nI_1, nI_leI, nI_ltI, nI_eq, n_in, n_cl, z_eq, z_lt, z_le, z_gt, z_ge, z_qe, o_eq, o_lt, o_le, o_gt, o_ge, vp0, vp1, cl0, cl1, n_sub, n_sub1, n_pm1, n_a0, n_0a, ofn, lN0, Nat.reduceLT, Nat.reduceLeDiff, Nat.reduceMul, Nat.reduceSub, Nat.reduceEqDiff, ne_eq, true_implies, false_implies, not_true_eq_false, not_false_eq_true, and_self, and_true, true_and, and_false, false_and, implies_true, if_true, if_false, i00, i10, i01, i11, ob_0, ob_1, tn_2, ln_2, ob_3, tn_4, ln_4, ob_5, tn_6, ln_6, tn_7, ln_7, ob_8, tn_9, ln_9, tn_10, ln_10, tn_11, ln_11, tn_12, ln_12, tn_13, ln_13, tn_14, ln_14, tn_15, ln_15, tn_16, ln_16, tn_17, ln_17, ob_18, tn_19, ln_19, tn_20, ln_20, tn_21, ln_21, tn_22, ln_22, tn_23, ln_23, tn_24, ln_24, tn_25, ln_25, tn_26, ln_26, tn_27, ln_27, ob_28, tn_29, ln_29, tn_30, ln_30, ob_31, tn_32, ln_32, tn_33, ln_33, ob_34, ob_35, tn_36, ln_36, tn_37, ln_37, tn_38, ln_38, ob_39, tn_40, ln_40, tn_41, ln_41, tn_42, ln_42, tn_43, ln_43, tn_44, ln_44, tn_45, ln_45, tn_46, ln_46, tn_47, ln_47, tn_48, ln_48, tn_49, ln_49, tn_50, ln_50, tn_51, ln_51, ob_52, tn_53, ln_53, tn_54, ln_54, tn_55, ln_55, tn_56, ln_56, ob_57, tn_58, ln_58, tn_59, ln_59, tn_60, ln_60, tn_61, ln_61, tn_62, ln_62, tn_63, ln_63, tn_64, ln_64, tn_65, ln_65, ob_66, tn_67, ln_67, tn_68, ln_68, tn_69, ln_69, tn_70, ln_70, tn_71, ln_71, tn_72, ln_72, tn_73, ln_73, ob_74, tn_75, ln_75, tn_76, ln_76, tn_77, ln_77, tn_78, ln_78, tn_79, ln_79, tn_80, ln_80, tn_81, ln_81, tn_82, ln_82, tn_83, ln_83, ob_84, tn_85, ln_85, tn_86, ln_86, tn_87, ln_87, tn_88, ln_88, tn_89, ln_89, tn_90, ln_90, tn_91, ln_91, tn_92, ln_92, tn_93, ln_93, ob_94, tn_95, ln_95, tn_96, ln_96, tn_97, ln_97, tn_98, ln_98, tn_99, ln_99, tn_100, ln_100, tn_101, ln_101, tn_102, ln_102, tn_103, ln_103, ob_104, tn_105, ln_105, tn_106, ln_106, tn_107, ln_107, tn_108, ln_108, tn_109, ln_109, tn_110, ln_110, tn_111, ln_111, tn_112, ln_112, tn_113, ln_113, ob_114, tn_115, ln_115, tn_116, ln_116, tn_117, ln_117, tn_118, ln_118, tn_119, ln_119, tn_120, ln_120, tn_121, ln_121, tn_122, ln_122, tn_123, ln_123, ob_124, tn_125, ln_125, tn_126, ln_126, tn_127, ln_127, tn_128, ln_128, tn_129, ln_129, tn_130, ln_130, tn_131, ln_131, tn_132, ln_132, tn_133, ln_133, ob_134, tn_135, ln_135, tn_136, ln_136, tn_137, ln_137, tn_138, ln_138, tn_139, ln_139, tn_140, ln_140, tn_141, ln_141, tn_142, ln_142, tn_143, ln_143, ob_144, tn_145, ln_145, tn_146, ln_146, tn_147, ln_147, tn_148, ln_148, tn_149, ln_149, tn_150, ln_150, tn_151, ln_151, tn_152, ln_152, tn_153, ln_153, ob_154, tn_155, ln_155, tn_156, ln_156, tn_157, ln_157, tn_158, ln_158, tn_159, ln_159, tn_160, ln_160, tn_161, ln_161, tn_162, ln_162, tn_163, ln_163, ob_164, tn_165, ln_165, tn_166, ln_166, ob_167, tn_168, ln_168, tn_169, ln_169, tn_170, ln_170, tn_171, ln_171, tn_172, ln_172, tn_173, ln_173, tn_174, ln_174, tn_175, ln_175, tn_176, ln_176, ob_177, tn_178, ln_178, tn_179, ln_179, ob_180, tn_181, ln_181, tn_182, ln_182, tn_183, ln_183, tn_184, ln_184, tn_185, ln_185, tn_186, ln_186, tn_187, ln_187, tn_188, ln_188, tn_189, ln_189, tn_190, ln_190, tn_191, ln_191, tn_192, ln_192, tn_193, ln_193, tn_194, ln_194, tn_195, ln_195, tn_196, ln_196, tn_197, ln_197, tn_198, ln_198, tn_199, ln_199, tn_200, ln_200, tn_201, ln_201, tn_202, ln_202, tn_203, ln_203, tn_204, ln_204, tn_205, ln_205, tn_206, ln_206, tn_207, ln_207, tn_208, ln_208, tn_209, ln_209, tn_210, ln_210, tn_211, ln_211, tn_212, ln_212, tn_213, ln_213, tn_214, ln_214, tn_215, ln_215, tn_216, ln_216, tn_217, ln_217, tn_218, ln_218, tn_219, ln_219, tn_220, ln_220, tn_221, ln_221, tn_222, ln_222, tn_223, ln_223, tn_224, ln_224, tn_225, ln_225, tn_226, ln_226, tn_227, ln_227, tn_228, ln_228, tn_229, ln_229, tn_230, ln_230, lx2, lx3, lx4, lx5, lx6, lx7, lx8, lx9, lx10, lx14, lx15, lx16, lx18, lx20, lx24, lx25, lx27, lx32, lx36, lx40, lx41, lx42, lx43, lx45, lx48, lx52, lx54, lx56, lx57, lx58, lx60, lx61, lx62, lx63, lx64, lx66, lx69, lx73, lx80, lx81, lx84, lx85, lx87, lx94, lx96, lx97, lx120, lx128, lx135, lx160, lx162, lx163, lx165, lx200, lx232, lx242, lx243, lx255, lx256, lx320, lx325, lx400, lx405, lx464, lx512, lx600, lx640, lx752, lx900, lx940, lx1000, lx1024, lx1764, lx3360, lx3840, lx5000, lx6400, lx9050, lx9998, lx9999, lx10000, lx25600, lx76800, lx99999, shp_n hm]
      refine ⟨fun e => ?_, fun e => ?_⟩
      · refine xB1 (b := 8 - (m + 1)) (by omega) ⟨s, m + 1, _, hw, hs, hP, hF, by omega, by omega, ?_, rfl, rfl, rfl⟩
        rw [apW, if_pos e]; exact h
      · have hl := apW_l1 (s := s) hw (m - 1)
        rw [show m - 1 + 1 = m by omega] at hl
        refine tagByte_C h (by omega) fun C hC hT => ?_
        simp (disch := omega) only [k_X11_tagName_0, k_X11_tagName_3, k_X11_tagName_28, w_RI, x_aload, x_iand, x_if_eq, x_if_lt, x_iinc, x_iload, x_istore, x_l2i, x_lload, x_lushr, x_push, x_vret, y_cv1, xFT, xbool0, xbool1, Nat.reduceAdd, Nat.zero_add, xgl_0, xgl_s, xgl_n, xst_0, xst_1n, xst_1i, xst_1r, xst_1l, xst_s, set_0, set_s, true_and, and_true, xres, xcat_nil, xcat_i, xcat_r, xcat_l, Nat.add_zero, xble0, xble1, xble2, xble3, xble4, xble5, xble6, xble7, xble8, pk_mul, nI_add, nI_1, nI_leI, nI_ltI, nI_eq, n_in, n_cl, z_eq, z_lt, z_le, z_gt, z_ge, z_qe, o_eq, o_lt, o_le, o_gt, o_ge, vp0, vp1, cl0, cl1, n_sub, n_sub1, n_pm1, n_a0, n_0a, ofn, lN0, Nat.reduceLT, Nat.reduceLeDiff, Nat.reduceMul, Nat.reduceSub, Nat.reduceEqDiff, ne_eq, true_implies, false_implies, not_true_eq_false, not_false_eq_true, and_self, and_true, true_and, and_false, false_and, implies_true, if_true, if_false, i00, i10, i01, i11, ob_0, ob_1, tn_2, ln_2, ob_3, tn_4, ln_4, ob_5, tn_6, ln_6, tn_7, ln_7, ob_8, tn_9, ln_9, tn_10, ln_10, tn_11, ln_11, tn_12, ln_12, tn_13, ln_13, tn_14, ln_14, tn_15, ln_15, tn_16, ln_16, tn_17, ln_17, ob_18, tn_19, ln_19, tn_20, ln_20, tn_21, ln_21, tn_22, ln_22, tn_23, ln_23, tn_24, ln_24, tn_25, ln_25, tn_26, ln_26, tn_27, ln_27, ob_28, tn_29, ln_29, tn_30, ln_30, ob_31, tn_32, ln_32, tn_33, ln_33, ob_34, ob_35, tn_36, ln_36, tn_37, ln_37, tn_38, ln_38, ob_39, tn_40, ln_40, tn_41, ln_41, tn_42, ln_42, tn_43, ln_43, tn_44, ln_44, tn_45, ln_45, tn_46, ln_46, tn_47, ln_47, tn_48, ln_48, tn_49, ln_49, tn_50, ln_50, tn_51, ln_51, ob_52, tn_53, ln_53, tn_54, ln_54, tn_55, ln_55, tn_56, ln_56, ob_57, tn_58, ln_58, tn_59, ln_59, tn_60, ln_60, tn_61, ln_61, tn_62, ln_62, tn_63, ln_63, tn_64, ln_64, tn_65, ln_65, ob_66, tn_67, ln_67, tn_68, ln_68, tn_69, ln_69, tn_70, ln_70, tn_71, ln_71, tn_72, ln_72, tn_73, ln_73, ob_74, tn_75, ln_75, tn_76, ln_76, tn_77, ln_77, tn_78, ln_78, tn_79, ln_79, tn_80, ln_80, tn_81, ln_81, tn_82, ln_82, tn_83, ln_83, ob_84, tn_85, ln_85, tn_86, ln_86, tn_87, ln_87, tn_88, ln_88, tn_89, ln_89, tn_90, ln_90, tn_91, ln_91, tn_92, ln_92, tn_93, ln_93, ob_94, tn_95, ln_95, tn_96, ln_96, tn_97, ln_97, tn_98, ln_98, tn_99, ln_99, tn_100, ln_100, tn_101, ln_101, tn_102, ln_102, tn_103, ln_103, ob_104, tn_105, ln_105, tn_106, ln_106, tn_107, ln_107, tn_108, ln_108, tn_109, ln_109, tn_110, ln_110, tn_111, ln_111, tn_112, ln_112, tn_113, ln_113, ob_114, tn_115, ln_115, tn_116, ln_116, tn_117, ln_117, tn_118, ln_118, tn_119, ln_119, tn_120, ln_120, tn_121, ln_121, tn_122, ln_122, tn_123, ln_123, ob_124, tn_125, ln_125, tn_126, ln_126, tn_127, ln_127, tn_128, ln_128, tn_129, ln_129, tn_130, ln_130, tn_131, ln_131, tn_132, ln_132, tn_133, ln_133, ob_134, tn_135, ln_135, tn_136, ln_136, tn_137, ln_137, tn_138, ln_138, tn_139, ln_139, tn_140, ln_140, tn_141, ln_141, tn_142, ln_142, tn_143, ln_143, ob_144, tn_145, ln_145, tn_146, ln_146, tn_147, ln_147, tn_148, ln_148, tn_149, ln_149, tn_150, ln_150, tn_151, ln_151, tn_152, ln_152, tn_153, ln_153, ob_154, tn_155, ln_155, tn_156, ln_156, tn_157, ln_157, tn_158, ln_158, tn_159, ln_159, tn_160, ln_160, tn_161, ln_161, tn_162, ln_162, tn_163, ln_163, ob_164, tn_165, ln_165, tn_166, ln_166, ob_167, tn_168, ln_168, tn_169, ln_169, tn_170, ln_170, tn_171, ln_171, tn_172, ln_172, tn_173, ln_173, tn_174, ln_174, tn_175, ln_175, tn_176, ln_176, ob_177, tn_178, ln_178, tn_179, ln_179, ob_180, tn_181, ln_181, tn_182, ln_182, tn_183, ln_183, tn_184, ln_184, tn_185, ln_185, tn_186, ln_186, tn_187, ln_187, tn_188, ln_188, tn_189, ln_189, tn_190, ln_190, tn_191, ln_191, tn_192, ln_192, tn_193, ln_193, tn_194, ln_194, tn_195, ln_195, tn_196, ln_196, tn_197, ln_197, tn_198, ln_198, tn_199, ln_199, tn_200, ln_200, tn_201, ln_201, tn_202, ln_202, tn_203, ln_203, tn_204, ln_204, tn_205, ln_205, tn_206, ln_206, tn_207, ln_207, tn_208, ln_208, tn_209, ln_209, tn_210, ln_210, tn_211, ln_211, tn_212, ln_212, tn_213, ln_213, tn_214, ln_214, tn_215, ln_215, tn_216, ln_216, tn_217, ln_217, tn_218, ln_218, tn_219, ln_219, tn_220, ln_220, tn_221, ln_221, tn_222, ln_222, tn_223, ln_223, tn_224, ln_224, tn_225, ln_225, tn_226, ln_226, tn_227, ln_227, tn_228, ln_228, tn_229, ln_229, tn_230, ln_230, lx2, lx3, lx4, lx5, lx6, lx7, lx8, lx9, lx10, lx14, lx15, lx16, lx18, lx20, lx24, lx25, lx27, lx32, lx36, lx40, lx41, lx42, lx43, lx45, lx48, lx52, lx54, lx56, lx57, lx58, lx60, lx61, lx62, lx63, lx64, lx66, lx69, lx73, lx80, lx81, lx84, lx85, lx87, lx94, lx96, lx97, lx120, lx128, lx135, lx160, lx162, lx163, lx165, lx200, lx232, lx242, lx243, lx255, lx256, lx320, lx325, lx400, lx405, lx464, lx512, lx600, lx640, lx752, lx900, lx940, lx1000, lx1024, lx1764, lx3360, lx3840, lx5000, lx6400, lx9050, lx9998, lx9999, lx10000, lx25600, lx76800, lx99999, shp_n hm]
        refine xB1 (b := 8 - (m + 1)) (by omega) ⟨s, m + 1, _, hw, hs, hP, fr_tr hF hC, by omega, by omega, ?_, rfl, rfl, rfl⟩
        rw [apW, if_neg e]; exact hT
/-! the reference's -/
def tgU (A : xH) (s : tB) : Prop := xi A 180 77 = nI s.1 ∧ ∀ k, k < s.1 → xi A 224 k = s.2 k
def STu (c k : Nat) : Prop := c = 224 ∨ (c = 180 ∧ k = 77)
theorem lays_U {A : xH} {P : xP} {s : tB} {n : Nat} (h : tgU A s) (hs : s.1 < 60) (hn : n < 128) (hP : ∀ B, fr STu A B → tgU B (ap s (nI n)) → P none B) : f_X12_lays 180 (nI n) A P := by
  unfold f_X12_lays
  simp (disch := omega) only [k_X12_lays_0, x_aload, x_dup, x_i2b, x_iadd, x_iload, x_push, x_vret, y_bast, y_getF, y_getI, y_putI, xFT, xbool0, xbool1, Nat.reduceAdd, Nat.zero_add, xgl_0, xgl_s, xgl_n, xst_0, xst_1n, xst_1i, xst_1r, xst_1l, xst_s, set_0, set_s, true_and, and_true, xres, xcat_nil, xcat_i, xcat_r, xcat_l, Nat.add_zero, xble0, xble1, xble2, xble3, xble4, xble5, xble6, xble7, xble8, pk_mul, nI_add, nI_1, nI_leI, nI_ltI, nI_eq, n_in, n_cl, z_eq, z_lt, z_le, z_gt, z_ge, z_qe, o_eq, o_lt, o_le, o_gt, o_ge, vp0, vp1, cl0, cl1, n_sub, n_sub1, n_pm1, n_a0, n_0a, ofn, lN0, Nat.reduceLT, Nat.reduceLeDiff, Nat.reduceMul, Nat.reduceSub, Nat.reduceEqDiff, ne_eq, true_implies, false_implies, not_true_eq_false, not_false_eq_true, and_self, and_true, true_and, and_false, false_and, implies_true, if_true, if_false, i00, i10, i01, i11, ob_0, ob_1, tn_2, ln_2, ob_3, tn_4, ln_4, ob_5, tn_6, ln_6, tn_7, ln_7, ob_8, tn_9, ln_9, tn_10, ln_10, tn_11, ln_11, tn_12, ln_12, tn_13, ln_13, tn_14, ln_14, tn_15, ln_15, tn_16, ln_16, tn_17, ln_17, ob_18, tn_19, ln_19, tn_20, ln_20, tn_21, ln_21, tn_22, ln_22, tn_23, ln_23, tn_24, ln_24, tn_25, ln_25, tn_26, ln_26, tn_27, ln_27, ob_28, tn_29, ln_29, tn_30, ln_30, ob_31, tn_32, ln_32, tn_33, ln_33, ob_34, ob_35, tn_36, ln_36, tn_37, ln_37, tn_38, ln_38, ob_39, tn_40, ln_40, tn_41, ln_41, tn_42, ln_42, tn_43, ln_43, tn_44, ln_44, tn_45, ln_45, tn_46, ln_46, tn_47, ln_47, tn_48, ln_48, tn_49, ln_49, tn_50, ln_50, tn_51, ln_51, ob_52, tn_53, ln_53, tn_54, ln_54, tn_55, ln_55, tn_56, ln_56, ob_57, tn_58, ln_58, tn_59, ln_59, tn_60, ln_60, tn_61, ln_61, tn_62, ln_62, tn_63, ln_63, tn_64, ln_64, tn_65, ln_65, ob_66, tn_67, ln_67, tn_68, ln_68, tn_69, ln_69, tn_70, ln_70, tn_71, ln_71, tn_72, ln_72, tn_73, ln_73, ob_74, tn_75, ln_75, tn_76, ln_76, tn_77, ln_77, tn_78, ln_78, tn_79, ln_79, tn_80, ln_80, tn_81, ln_81, tn_82, ln_82, tn_83, ln_83, ob_84, tn_85, ln_85, tn_86, ln_86, tn_87, ln_87, tn_88, ln_88, tn_89, ln_89, tn_90, ln_90, tn_91, ln_91, tn_92, ln_92, tn_93, ln_93, ob_94, tn_95, ln_95, tn_96, ln_96, tn_97, ln_97, tn_98, ln_98, tn_99, ln_99, tn_100, ln_100, tn_101, ln_101, tn_102, ln_102, tn_103, ln_103, ob_104, tn_105, ln_105, tn_106, ln_106, tn_107, ln_107, tn_108, ln_108, tn_109, ln_109, tn_110, ln_110, tn_111, ln_111, tn_112, ln_112, tn_113, ln_113, ob_114, tn_115, ln_115, tn_116, ln_116, tn_117, ln_117, tn_118, ln_118, tn_119, ln_119, tn_120, ln_120, tn_121, ln_121, tn_122, ln_122, tn_123, ln_123, ob_124, tn_125, ln_125, tn_126, ln_126, tn_127, ln_127, tn_128, ln_128, tn_129, ln_129, tn_130, ln_130, tn_131, ln_131, tn_132, ln_132, tn_133, ln_133, ob_134, tn_135, ln_135, tn_136, ln_136, tn_137, ln_137, tn_138, ln_138, tn_139, ln_139, tn_140, ln_140, tn_141, ln_141, tn_142, ln_142, tn_143, ln_143, ob_144, tn_145, ln_145, tn_146, ln_146, tn_147, ln_147, tn_148, ln_148, tn_149, ln_149, tn_150, ln_150, tn_151, ln_151, tn_152, ln_152, tn_153, ln_153, ob_154, tn_155, ln_155, tn_156, ln_156, tn_157, ln_157, tn_158, ln_158, tn_159, ln_159, tn_160, ln_160, tn_161, ln_161, tn_162, ln_162, tn_163, ln_163, ob_164, tn_165, ln_165, tn_166, ln_166, ob_167, tn_168, ln_168, tn_169, ln_169, tn_170, ln_170, tn_171, ln_171, tn_172, ln_172, tn_173, ln_173, tn_174, ln_174, tn_175, ln_175, tn_176, ln_176, ob_177, tn_178, ln_178, tn_179, ln_179, ob_180, tn_181, ln_181, tn_182, ln_182, tn_183, ln_183, tn_184, ln_184, tn_185, ln_185, tn_186, ln_186, tn_187, ln_187, tn_188, ln_188, tn_189, ln_189, tn_190, ln_190, tn_191, ln_191, tn_192, ln_192, tn_193, ln_193, tn_194, ln_194, tn_195, ln_195, tn_196, ln_196, tn_197, ln_197, tn_198, ln_198, tn_199, ln_199, tn_200, ln_200, tn_201, ln_201, tn_202, ln_202, tn_203, ln_203, tn_204, ln_204, tn_205, ln_205, tn_206, ln_206, tn_207, ln_207, tn_208, ln_208, tn_209, ln_209, tn_210, ln_210, tn_211, ln_211, tn_212, ln_212, tn_213, ln_213, tn_214, ln_214, tn_215, ln_215, tn_216, ln_216, tn_217, ln_217, tn_218, ln_218, tn_219, ln_219, tn_220, ln_220, tn_221, ln_221, tn_222, ln_222, tn_223, ln_223, tn_224, ln_224, tn_225, ln_225, tn_226, ln_226, tn_227, ln_227, tn_228, ln_228, tn_229, ln_229, tn_230, ln_230, lx2, lx3, lx4, lx5, lx6, lx7, lx8, lx9, lx10, lx14, lx15, lx16, lx18, lx20, lx24, lx25, lx27, lx32, lx36, lx40, lx41, lx42, lx43, lx45, lx48, lx52, lx54, lx56, lx57, lx58, lx60, lx61, lx62, lx63, lx64, lx66, lx69, lx73, lx80, lx81, lx84, lx85, lx87, lx94, lx96, lx97, lx120, lx128, lx135, lx160, lx162, lx163, lx165, lx200, lx232, lx242, lx243, lx255, lx256, lx320, lx325, lx400, lx405, lx464, lx512, lx600, lx640, lx752, lx900, lx940, lx1000, lx1024, lx1764, lx3360, lx3840, lx5000, lx6400, lx9050, lx9998, lx9999, lx10000, lx25600, lx76800, lx99999, si_ne, si_eq, sl_ne, sl_eq, xl_si, xi_sl, sA_ne, sA_eq, xl_sA, h.1, b_nar hn]
  refine ⟨hs, hP _ (fr_si (fr_si fr_rf (by unfold STu; omega)) (by unfold STu; omega)) ⟨si_eq, fun k hk => ?_⟩⟩
  simp only [ap] at hk ⊢
  rw [si_ne (by omega)]
  by_cases e : k = s.1
  · subst e; rw [si_eq, if_pos rfl]
  · rw [si_ne (by omega), if_neg e]; exact h.2 k (by omega)
def f_X12_spells (q : Nat) (w : Int64) (A : xH) (P : xP) : Prop := q = 180 ∧ ∃ s, tgU A s ∧ okN w ∧ s.1 + 7 ≤ 60 ∧ ∀ B, fr STu A B → tgU B (apW s w 8) → P none B
def spI (w : Int64) (A : xH) (P : xP) : xM → xK := fun μ L st B => ∃ s m, okN w ∧ s.1 + 7 ≤ 60 ∧ (∀ B, fr STu A B → tgU B (apW s w 8) → P none B) ∧ fr STu A B ∧ m ≤ 8 ∧ tgU B (apW s w m) ∧ st = [] ∧ L = [some (.ref 180), some (.long w), none, some (.int (shp m))] ∧ μ = (8 - m, 0, 0)
set_option maxRecDepth 20000 in
theorem con_X12_spells (l : Launch) : xCon l yX12_spells cX12_spells 4 none 1 21 xN xN 0 xFT xFT (w_RJ f_X12_spells) := by
  refine m_X12_spells (I3 := fun q w A P => spI w A P) ?_ ?_
  · rintro q w A P ⟨rfl, s, h, hw, hs, hP⟩
    simp (disch := omega) only [k_X12_spells_0, k_X12_spells_3, k_X12_spells_31, f_X12_lays, w_RI, x_aload, x_if_eq, x_if_lt, x_iinc, x_iload, x_istore, x_l2i, x_land, x_lcmp, x_lload, x_lshr, x_push, x_vret, y_cv1, xFT, xbool0, xbool1, Nat.reduceAdd, Nat.zero_add, xgl_0, xgl_s, xgl_n, xst_0, xst_1n, xst_1i, xst_1r, xst_1l, xst_s, set_0, set_s, true_and, and_true, xres, xcat_nil, xcat_i, xcat_r, xcat_l, Nat.add_zero, xble0, xble1, xble2, xble3, xble4, xble5, xble6, xble7, xble8]
    exact xE0 (8 - 0, 0, 0) ⟨s, 0, hw, hs, hP, fr_rf, by omega, h, rfl, rfl, rfl⟩
  · rintro q w A P - μ L st B ⟨s, m, hw, hs, hP, hF, h8, h, rfl, rfl, rfl⟩
    simp (disch := omega) only [k_X12_spells_0, k_X12_spells_3, k_X12_spells_31, w_RI, x_aload, x_if_eq, x_if_lt, x_iinc, x_iload, x_istore, x_l2i, x_land, x_lcmp, x_lload, x_lshr, x_push, x_vret, y_cv1, xFT, xbool0, xbool1, Nat.reduceAdd, Nat.zero_add, xgl_0, xgl_s, xgl_n, xst_0, xst_1n, xst_1i, xst_1r, xst_1l, xst_s, set_0, set_s, true_and, and_true, xres, xcat_nil, xcat_i, xcat_r, xcat_l, Nat.add_zero, xble0, xble1, xble2, xble3, xble4, xble5, xble6, xble7, xble8, shp_0 h8]
    refine ⟨fun q => ?_, fun q => ?_⟩
    · subst q; exact hP B hF h
    · have hm : m < 8 := by omega
      have hb := bw_lt w m
      simp (disch := omega) only [k_X12_spells_0, k_X12_spells_3, k_X12_spells_31, w_RI, x_aload, x_if_eq, x_if_lt, x_iinc, x_iload, x_istore, x_l2i, x_land, x_lcmp, x_lload, x_lshr, x_push, x_vret, y_cv1, xFT, xbool0, xbool1, Nat.reduceAdd, Nat.zero_add, xgl_0, xgl_s, xgl_n, xst_0, xst_1n, xst_1i, xst_1r, xst_1l, xst_s, set_0, set_s, true_and, and_true, xres, xcat_nil, xcat_i, xcat_r, xcat_l, Nat.add_zero, xble0, xble1, xble2, xble3, xble4, xble5, xble6, xble7, xble8, byU hm, lcmp0, lN_0, lN_32, lx8, shp_n hm]
      refine ⟨fun e => ?_, fun e => ?_⟩
      · refine xB1 (b := 8 - (m + 1)) (by omega) ⟨s, m + 1, hw, hs, hP, hF, by omega, ?_, rfl, rfl, rfl⟩
        rw [apW, if_pos e]; exact h
      · have hl : (apW s w m).1 < 60 := by
          rcases Nat.eq_zero_or_pos m with z | z
          · subst z; simp only [apW]; omega
          · have hl := apW_l1 (s := s) hw (m - 1)
            rw [show m - 1 + 1 = m by omega] at hl
            omega
        refine lays_U h hl (hw.2 m hm) fun C hC hT => ?_
        simp (disch := omega) only [k_X12_spells_0, k_X12_spells_3, k_X12_spells_31, w_RI, x_aload, x_if_eq, x_if_lt, x_iinc, x_iload, x_istore, x_l2i, x_land, x_lcmp, x_lload, x_lshr, x_push, x_vret, y_cv1, xFT, xbool0, xbool1, Nat.reduceAdd, Nat.zero_add, xgl_0, xgl_s, xgl_n, xst_0, xst_1n, xst_1i, xst_1r, xst_1l, xst_s, set_0, set_s, true_and, and_true, xres, xcat_nil, xcat_i, xcat_r, xcat_l, Nat.add_zero, xble0, xble1, xble2, xble3, xble4, xble5, xble6, xble7, xble8, lx8, shp_n hm]
        refine xB1 (b := 8 - (m + 1)) (by omega) ⟨s, m + 1, hw, hs, hP, fr_tr hF hC, by omega, ?_, rfl, rfl, rfl⟩
        rw [apW, if_neg e]; exact hT

